set_option maxHeartbeats 4000000 in
set_option maxRecDepth 20000 in
theorem m_X11_told {v0 : Nat} {v1 : Int64} {v3 : Int64} {v5 : Int32} {Q : Int64 → HS → Prop} {S : HS} (hI : IV S) (o_v0 : ob S v0 11)   (h3 : ¬ v3 = 0)  (hq : ∀ (r : Int64) (T : HS), IV T → Gr S T → FRI [(11, 1), (11, 2)] [] S T → Q r T) : P_X11_told v0 v1 v3 v5 Q S := by
  have g0 := gr_rf S
  have f0 := fri_rf [(11, 1), (11, 2)] [] S
  refine u_X11_told ?_
  refine u_X11_told_0 ?_
  refine ⟨o_v0, ?_⟩
  refine u_X11_good ?_
  refine u_X11_good_0 ?_
  refine ⟨o_v0, ?_⟩
  intro S1 eS1
  have hI : IV S1 := by rw [eS1]; exact iv11_sI hI o_v0 (by decide) (nu_free (by decide))
  have f0 := fr_I eS1 g0 f0 o_v0 (by decide)
  obtain ⟨y2, hy2⟩ : ∃ z : Int32, z = (0 : Int32) := ⟨_, rfl⟩
  have d_y2 := rd_Is eS1 hy2
  have g0 := gr_I eS1 g0
  have o_v0 := ob_I eS1 o_v0
  intro S3 eS3
  have hI : IV S3 := by rw [eS3]; exact iv11_sI hI o_v0 (by decide) (nu_free (by decide))
  have f0 := fr_I eS3 g0 f0 o_v0 (by decide)
  have d_y2 := rd_Ij eS3 (by decide) d_y2
  obtain ⟨y4, hy4⟩ : ∃ z : Int32, z = (-1 : Int32) := ⟨_, rfl⟩
  have d_y4 := rd_Is eS3 hy4
  have g0 := gr_I eS3 g0
  have o_v0 := ob_I eS3 o_v0
  intro _
  refine i_X11_told_12 (fun (y1 : Int64) (y3 : Int64) (y5 : Int32) (y6 : Int64) (y8 : Int64) (Z : HS) => y8.toInt.natAbs) (fun (y1 : Int64) (y3 : Int64) (y5 : Int32) (y6 : Int64) (y8 : Int64) (Z : HS) => (S3 = Z) ∧ (v1 = y1) ∧ (v3 = y3) ∧ (v5 = y5) ∧ (¬ y6 = 0 ∨ ¬ y8 = 0)) ?_ _ _ _ _ _ _ ⟨rfl, rfl, rfl, rfl, (qm400 h3)⟩
  intro w10 w12 w14 w16 w17 S7 X18 ⟨eS7, q11, q13, q15, i1u6⟩ ih19
  subst q11
  subst q13
  subst q15
  subst eS7
  refine u_X11_told_12 ?_
  refine ⟨fun c20 => ?_, fun c20 => ?_⟩
  · have z_c20 := lc_eq c20
    refine ⟨fun c21 => ?_, fun c21 => ?_⟩
    · refine ⟨(qm401 i1u6 c20 z_c20 c21), ?_⟩
      intro x22 ex22
      exact hq _ _ hI g0 f0
    · refine ⟨(qm402 i1u6 c20 z_c20 c21), ?_⟩
      intro x23 ex23
      exact hq _ _ hI g0 f0
  · have z_c20 := lc_ne c20
    refine ⟨(qm403 i1u6 c20 z_c20), ?_⟩
    intro x24 ex24
    exact ih19 _ _ _ _ _ _ ⟨rfl, rfl, rfl, rfl, (qm404 i1u6 c20 z_c20)⟩ (by rw [ex24]; exact rem_abs z_c20)
set_option maxHeartbeats 4000000 in
set_option maxRecDepth 20000 in
theorem m_X11_face {v0 : Nat} {v1 : Int32} {v2 : Int32} {v3 : Int32} {v4 : Int32} {v5 : Int32} {v6 : Int32} {v7 : Int32} {Q : Int64 → HS → Prop} {S : HS} (hI : IV S) (o_v0 : ob S v0 11)     (hq : ∀ (r : Int64) (T : HS), IV T → Gr S T → FRI [(11, 0), (11, 1), (11, 2)] [] S T → Q r T) : P_X11_face v0 v1 v2 v3 v4 v5 v6 v7 Q S := by
  have g0 := gr_rf S
  have f0 := fri_rf [(11, 0), (11, 1), (11, 2)] [] S
  refine u_X11_face ?_
  refine u_X11_face_0 ?_
  refine ⟨o_v0, ?_⟩
  intro S1 eS1
  have hI : IV S1 := by rw [eS1]; exact iv11_sI hI o_v0 (by decide) (nu_free (by decide))
  have f0 := fr_I eS1 g0 f0 o_v0 (by decide)
  obtain ⟨y2, hy2⟩ : ∃ z : Int32, z = (0 : Int32) := ⟨_, rfl⟩
  have d_y2 := rd_Is eS1 hy2
  have g0 := gr_I eS1 g0
  have o_v0 := ob_I eS1 o_v0
  refine u_X11_in ?_
  refine u_X11_in_0 ?_
  refine ⟨fun c3 => ?_, fun c3 => ?_⟩
  · intro _ _
    refine ⟨fun c5 => ?_, fun c5 => absurd (show ¬ (0 : Int32) = 0 from c5) (by decide)⟩
    refine u_X11_face_30 ?_
    refine ⟨fun c6 => absurd (show (1 : Int32) ≤ 0 from c6) (by decide), fun c6 => ?_⟩
    refine ⟨o_v0, ?_⟩
    refine u_X11_refused ?_
    refine u_X11_refused_0 ?_
    refine ⟨o_v0, ?_⟩
    intro S7 eS7
    have hI : IV S7 := by rw [eS7]; exact iv11_sI hI o_v0 (by decide) (nu_free (by decide))
    have f0 := fr_I eS7 g0 f0 o_v0 (by decide)
    have d_y2 := rd_Ij eS7 (by decide) d_y2
    obtain ⟨y8, hy8⟩ : ∃ z : Int32, z = (1 : Int32) := ⟨_, rfl⟩
    have d_y8 := rd_Is eS7 hy8
    have g0 := gr_I eS7 g0
    have o_v0 := ob_I eS7 o_v0
    intro S9 eS9
    have hI : IV S9 := by rw [eS9]; exact iv11_sI hI o_v0 (by decide) (nu_free (by decide))
    have f0 := fr_I eS9 g0 f0 o_v0 (by decide)
    have d_y2 := rd_Ij eS9 (by decide) d_y2
    have d_y8 := rd_Ij eS9 (by decide) d_y8
    obtain ⟨y10, hy10⟩ : ∃ z : Int32, z = (-1 : Int32) := ⟨_, rfl⟩
    have d_y10 := rd_Is eS9 hy10
    have g0 := gr_I eS9 g0
    have o_v0 := ob_I eS9 o_v0
    intro _
    exact hq _ _ hI g0 f0
  · refine ⟨fun c12 => ?_, fun c12 => ?_⟩
    · intro _ _
      refine ⟨fun c14 => ?_, fun c14 => absurd (show ¬ (0 : Int32) = 0 from c14) (by decide)⟩
      refine u_X11_face_30 ?_
      refine ⟨fun c15 => absurd (show (1 : Int32) ≤ 0 from c15) (by decide), fun c15 => ?_⟩
      refine ⟨o_v0, ?_⟩
      refine u_X11_refused ?_
      refine u_X11_refused_0 ?_
      refine ⟨o_v0, ?_⟩
      intro S16 eS16
      have hI : IV S16 := by rw [eS16]; exact iv11_sI hI o_v0 (by decide) (nu_free (by decide))
      have f0 := fr_I eS16 g0 f0 o_v0 (by decide)
      have d_y2 := rd_Ij eS16 (by decide) d_y2
      obtain ⟨y17, hy17⟩ : ∃ z : Int32, z = (1 : Int32) := ⟨_, rfl⟩
      have d_y17 := rd_Is eS16 hy17
      have g0 := gr_I eS16 g0
      have o_v0 := ob_I eS16 o_v0
      intro S18 eS18
      have hI : IV S18 := by rw [eS18]; exact iv11_sI hI o_v0 (by decide) (nu_free (by decide))
      have f0 := fr_I eS18 g0 f0 o_v0 (by decide)
      have d_y2 := rd_Ij eS18 (by decide) d_y2
      have d_y17 := rd_Ij eS18 (by decide) d_y17
      obtain ⟨y19, hy19⟩ : ∃ z : Int32, z = (-1 : Int32) := ⟨_, rfl⟩
      have d_y19 := rd_Is eS18 hy19
      have g0 := gr_I eS18 g0
      have o_v0 := ob_I eS18 o_v0
      intro _
      exact hq _ _ hI g0 f0
    · intro _ _
      refine ⟨fun c22 => absurd (show (1 : Int32) = 0 from c22) (by decide), fun c22 => ?_⟩
      refine u_X11_refuses ?_
      refine u_X11_refuses_0 ?_
      refine ⟨o_v0, ?_⟩
      refine u_X11_isWalker ?_
      refine u_X11_isWalker_0 ?_
      refine ⟨o_v0, ?_⟩
      refine ⟨fun e24 => ?_, fun a23 ea23 => ?_⟩
      · intro _ _
        refine ⟨fun c26 => ?_, fun c26 => absurd (show ¬ (0 : Int32) = 0 from c26) (by decide)⟩
        intro _
        refine u_X11_face_30 ?_
        refine ⟨fun c28 => absurd (show (1 : Int32) ≤ 0 from c28) (by decide), fun c28 => ?_⟩
        refine ⟨o_v0, ?_⟩
        refine u_X11_refused ?_
        refine u_X11_refused_0 ?_
        refine ⟨o_v0, ?_⟩
        intro S29 eS29
        have hI : IV S29 := by rw [eS29]; exact iv11_sI hI o_v0 (by decide) (nu_free (by decide))
        have f0 := fr_I eS29 g0 f0 o_v0 (by decide)
        have d_y2 := rd_Ij eS29 (by decide) d_y2
        obtain ⟨y30, hy30⟩ : ∃ z : Int32, z = (1 : Int32) := ⟨_, rfl⟩
        have d_y30 := rd_Is eS29 hy30
        have g0 := gr_I eS29 g0
        have o_v0 := ob_I eS29 o_v0
        intro S31 eS31
        have hI : IV S31 := by rw [eS31]; exact iv11_sI hI o_v0 (by decide) (nu_free (by decide))
        have f0 := fr_I eS31 g0 f0 o_v0 (by decide)
        have d_y2 := rd_Ij eS31 (by decide) d_y2
        have d_y30 := rd_Ij eS31 (by decide) d_y30
        obtain ⟨y32, hy32⟩ : ∃ z : Int32, z = (-1 : Int32) := ⟨_, rfl⟩
        have d_y32 := rd_Is eS31 hy32
        have g0 := gr_I eS31 g0
        have o_v0 := ob_I eS31 o_v0
        intro _
        exact hq _ _ hI g0 f0
      · have o_a23 := ml_ob hI o_v0 ea23
        refine ⟨fun c34 => ?_, fun c34 => ?_⟩
        · intro _ _
          refine ⟨fun c36 => ?_, fun c36 => absurd (show ¬ (0 : Int32) = 0 from c36) (by decide)⟩
          intro _
          refine u_X11_face_30 ?_
          refine ⟨fun c38 => absurd (show (1 : Int32) ≤ 0 from c38) (by decide), fun c38 => ?_⟩
          refine ⟨o_v0, ?_⟩
          refine u_X11_refused ?_
          refine u_X11_refused_0 ?_
          refine ⟨o_v0, ?_⟩
          intro S39 eS39
          have hI : IV S39 := by rw [eS39]; exact iv11_sI hI o_v0 (by decide) (nu_free (by decide))
          have f0 := fr_I eS39 g0 f0 o_v0 (by decide)
          have d_y2 := rd_Ij eS39 (by decide) d_y2
          obtain ⟨y40, hy40⟩ : ∃ z : Int32, z = (1 : Int32) := ⟨_, rfl⟩
          have d_y40 := rd_Is eS39 hy40
          have ea23 := rf_I eS39 ea23
          have g0 := gr_I eS39 g0
          have o_a23 := ob_I eS39 o_a23
          have o_v0 := ob_I eS39 o_v0
          intro S41 eS41
          have hI : IV S41 := by rw [eS41]; exact iv11_sI hI o_v0 (by decide) (nu_free (by decide))
          have f0 := fr_I eS41 g0 f0 o_v0 (by decide)
          have d_y2 := rd_Ij eS41 (by decide) d_y2
          have d_y40 := rd_Ij eS41 (by decide) d_y40
          obtain ⟨y42, hy42⟩ : ∃ z : Int32, z = (-1 : Int32) := ⟨_, rfl⟩
          have d_y42 := rd_Is eS41 hy42
          have ea23 := rf_I eS41 ea23
          have g0 := gr_I eS41 g0
          have o_a23 := ob_I eS41 o_a23
          have o_v0 := ob_I eS41 o_v0
          intro _
          exact hq _ _ hI g0 f0
        · refine ⟨a23, ea23, ?_⟩
          refine ⟨o_a23, ?_⟩
          intro x45 ex45
          have r_x45 : (0 : Int32) ≤ x45 ∧ x45 ≤ (4 : Int32) := by rw [ex45]; exact nu 20 rfl hI o_a23
          have d_x45 := ex45
          refine ⟨fun c46 => ?_, fun c46 => ?_⟩
          · intro _ _
            refine ⟨fun c48 => ?_, fun c48 => absurd (show ¬ (0 : Int32) = 0 from c48) (by decide)⟩
            intro _
            refine u_X11_face_30 ?_
            refine ⟨fun c50 => absurd (show (1 : Int32) ≤ 0 from c50) (by decide), fun c50 => ?_⟩
            refine ⟨o_v0, ?_⟩
            refine u_X11_refused ?_
            refine u_X11_refused_0 ?_
            refine ⟨o_v0, ?_⟩
            intro S51 eS51
            have hI : IV S51 := by rw [eS51]; exact iv11_sI hI o_v0 (by decide) (nu_free (by decide))
            have f0 := fr_I eS51 g0 f0 o_v0 (by decide)
            have d_y2 := rd_Ij eS51 (by decide) d_y2
            have d_x45 := rd_Ik eS51 o_v0 o_a23 (by decide) d_x45
            obtain ⟨y52, hy52⟩ : ∃ z : Int32, z = (1 : Int32) := ⟨_, rfl⟩
            have d_y52 := rd_Is eS51 hy52
            have ea23 := rf_I eS51 ea23
            have g0 := gr_I eS51 g0
            have o_a23 := ob_I eS51 o_a23
            have o_v0 := ob_I eS51 o_v0
            intro S53 eS53
            have hI : IV S53 := by rw [eS53]; exact iv11_sI hI o_v0 (by decide) (nu_free (by decide))
            have f0 := fr_I eS53 g0 f0 o_v0 (by decide)
            have d_y2 := rd_Ij eS53 (by decide) d_y2
            have d_x45 := rd_Ik eS53 o_v0 o_a23 (by decide) d_x45
            have d_y52 := rd_Ij eS53 (by decide) d_y52
            obtain ⟨y54, hy54⟩ : ∃ z : Int32, z = (-1 : Int32) := ⟨_, rfl⟩
            have d_y54 := rd_Is eS53 hy54
            have ea23 := rf_I eS53 ea23
            have g0 := gr_I eS53 g0
            have o_a23 := ob_I eS53 o_a23
            have o_v0 := ob_I eS53 o_v0
            intro _
            exact hq _ _ hI g0 f0
          · intro _ _
            refine ⟨fun c57 => absurd (show (1 : Int32) = 0 from c57) (by decide), fun c57 => ?_⟩
            refine u_X11_isRoad ?_
            refine u_X11_isRoad_0 ?_
            refine ⟨o_v0, ?_⟩
            refine ⟨fun e59 => (nomatch (e59.symm.trans ea23)), fun a58 ea58 => ?_⟩
            obtain rfl : a23 = a58 := Option.some.inj (ea23.symm.trans ea58)
            refine ⟨fun c60 => ?_, fun c60 => ?_⟩
            · intro _ _
              refine ⟨fun c62 => ?_, fun c62 => absurd (show ¬ (0 : Int32) = 0 from c62) (by decide)⟩
              intro _
              refine u_X11_face_30 ?_
              refine ⟨fun c64 => absurd (show (1 : Int32) ≤ 0 from c64) (by decide), fun c64 => ?_⟩
              refine ⟨o_v0, ?_⟩
              refine u_X11_refused ?_
              refine u_X11_refused_0 ?_
              refine ⟨o_v0, ?_⟩
              intro S65 eS65
              have hI : IV S65 := by rw [eS65]; exact iv11_sI hI o_v0 (by decide) (nu_free (by decide))
              have f0 := fr_I eS65 g0 f0 o_v0 (by decide)
              have d_y2 := rd_Ij eS65 (by decide) d_y2
              have d_x45 := rd_Ik eS65 o_v0 o_a23 (by decide) d_x45
              obtain ⟨y66, hy66⟩ : ∃ z : Int32, z = (1 : Int32) := ⟨_, rfl⟩
              have d_y66 := rd_Is eS65 hy66
              have ea23 := rf_I eS65 ea23
              have g0 := gr_I eS65 g0
              have o_a23 := ob_I eS65 o_a23
              have o_v0 := ob_I eS65 o_v0
              intro S67 eS67
              have hI : IV S67 := by rw [eS67]; exact iv11_sI hI o_v0 (by decide) (nu_free (by decide))
              have f0 := fr_I eS67 g0 f0 o_v0 (by decide)
              have d_y2 := rd_Ij eS67 (by decide) d_y2
              have d_x45 := rd_Ik eS67 o_v0 o_a23 (by decide) d_x45
              have d_y66 := rd_Ij eS67 (by decide) d_y66
              obtain ⟨y68, hy68⟩ : ∃ z : Int32, z = (-1 : Int32) := ⟨_, rfl⟩
              have d_y68 := rd_Is eS67 hy68
              have ea23 := rf_I eS67 ea23
              have g0 := gr_I eS67 g0
              have o_a23 := ob_I eS67 o_a23
              have o_v0 := ob_I eS67 o_v0
              intro _
              exact hq _ _ hI g0 f0
            · refine ⟨a23, ea23, ?_⟩
              refine ⟨o_a23, ?_⟩
              intro x71 ex71
              have r_x71 : (0 : Int32) ≤ x71 ∧ x71 ≤ (12 : Int32) := by rw [ex71]; exact nu 19 rfl hI o_a23
              have d_x71 := ex71
              refine ⟨fun c72 => ?_, fun c72 => ?_⟩
              · intro _ _
                refine ⟨fun c74 => ?_, fun c74 => absurd (show ¬ (0 : Int32) = 0 from c74) (by decide)⟩
                intro _
                refine u_X11_face_30 ?_
                refine ⟨fun c76 => absurd (show (1 : Int32) ≤ 0 from c76) (by decide), fun c76 => ?_⟩
                refine ⟨o_v0, ?_⟩
                refine u_X11_refused ?_
                refine u_X11_refused_0 ?_
                refine ⟨o_v0, ?_⟩
                intro S77 eS77
                have hI : IV S77 := by rw [eS77]; exact iv11_sI hI o_v0 (by decide) (nu_free (by decide))
                have f0 := fr_I eS77 g0 f0 o_v0 (by decide)
                have d_y2 := rd_Ij eS77 (by decide) d_y2
                have d_x45 := rd_Ik eS77 o_v0 o_a23 (by decide) d_x45
                have d_x71 := rd_Ik eS77 o_v0 o_a23 (by decide) d_x71
                obtain ⟨y78, hy78⟩ : ∃ z : Int32, z = (1 : Int32) := ⟨_, rfl⟩
                have d_y78 := rd_Is eS77 hy78
                have ea23 := rf_I eS77 ea23
                have g0 := gr_I eS77 g0
                have o_a23 := ob_I eS77 o_a23
                have o_v0 := ob_I eS77 o_v0
                intro S79 eS79
                have hI : IV S79 := by rw [eS79]; exact iv11_sI hI o_v0 (by decide) (nu_free (by decide))
                have f0 := fr_I eS79 g0 f0 o_v0 (by decide)
                have d_y2 := rd_Ij eS79 (by decide) d_y2
                have d_x45 := rd_Ik eS79 o_v0 o_a23 (by decide) d_x45
                have d_x71 := rd_Ik eS79 o_v0 o_a23 (by decide) d_x71
                have d_y78 := rd_Ij eS79 (by decide) d_y78
                obtain ⟨y80, hy80⟩ : ∃ z : Int32, z = (-1 : Int32) := ⟨_, rfl⟩
                have d_y80 := rd_Is eS79 hy80
                have ea23 := rf_I eS79 ea23
                have g0 := gr_I eS79 g0
                have o_a23 := ob_I eS79 o_a23
                have o_v0 := ob_I eS79 o_v0
                intro _
                exact hq _ _ hI g0 f0
              · intro _ _
                refine ⟨fun c83 => absurd (show (1 : Int32) = 0 from c83) (by decide), fun c83 => ?_⟩
                refine u_X11_in ?_
                refine u_X11_in_0 ?_
                refine ⟨fun c84 => ?_, fun c84 => ?_⟩
                · intro _ _
                  refine ⟨fun c86 => ?_, fun c86 => absurd (show ¬ (0 : Int32) = 0 from c86) (by decide)⟩
                  intro _
                  refine u_X11_face_30 ?_
                  refine ⟨fun c88 => absurd (show (1 : Int32) ≤ 0 from c88) (by decide), fun c88 => ?_⟩
                  refine ⟨o_v0, ?_⟩
                  refine u_X11_refused ?_
                  refine u_X11_refused_0 ?_
                  refine ⟨o_v0, ?_⟩
                  intro S89 eS89
                  have hI : IV S89 := by rw [eS89]; exact iv11_sI hI o_v0 (by decide) (nu_free (by decide))
                  have f0 := fr_I eS89 g0 f0 o_v0 (by decide)
                  have d_y2 := rd_Ij eS89 (by decide) d_y2
                  have d_x45 := rd_Ik eS89 o_v0 o_a23 (by decide) d_x45
                  have d_x71 := rd_Ik eS89 o_v0 o_a23 (by decide) d_x71
                  obtain ⟨y90, hy90⟩ : ∃ z : Int32, z = (1 : Int32) := ⟨_, rfl⟩
                  have d_y90 := rd_Is eS89 hy90
                  have ea23 := rf_I eS89 ea23
                  have g0 := gr_I eS89 g0
                  have o_a23 := ob_I eS89 o_a23
                  have o_v0 := ob_I eS89 o_v0
                  intro S91 eS91
                  have hI : IV S91 := by rw [eS91]; exact iv11_sI hI o_v0 (by decide) (nu_free (by decide))
                  have f0 := fr_I eS91 g0 f0 o_v0 (by decide)
                  have d_y2 := rd_Ij eS91 (by decide) d_y2
                  have d_x45 := rd_Ik eS91 o_v0 o_a23 (by decide) d_x45
                  have d_x71 := rd_Ik eS91 o_v0 o_a23 (by decide) d_x71
                  have d_y90 := rd_Ij eS91 (by decide) d_y90
                  obtain ⟨y92, hy92⟩ : ∃ z : Int32, z = (-1 : Int32) := ⟨_, rfl⟩
                  have d_y92 := rd_Is eS91 hy92
                  have ea23 := rf_I eS91 ea23
                  have g0 := gr_I eS91 g0
                  have o_a23 := ob_I eS91 o_a23
                  have o_v0 := ob_I eS91 o_v0
                  intro _
                  exact hq _ _ hI g0 f0
                · refine ⟨fun c94 => ?_, fun c94 => ?_⟩
                  · intro _ _
                    refine ⟨fun c96 => ?_, fun c96 => absurd (show ¬ (0 : Int32) = 0 from c96) (by decide)⟩
                    intro _
                    refine u_X11_face_30 ?_
                    refine ⟨fun c98 => absurd (show (1 : Int32) ≤ 0 from c98) (by decide), fun c98 => ?_⟩
                    refine ⟨o_v0, ?_⟩
                    refine u_X11_refused ?_
                    refine u_X11_refused_0 ?_
                    refine ⟨o_v0, ?_⟩
                    intro S99 eS99
                    have hI : IV S99 := by rw [eS99]; exact iv11_sI hI o_v0 (by decide) (nu_free (by decide))
                    have f0 := fr_I eS99 g0 f0 o_v0 (by decide)
                    have d_y2 := rd_Ij eS99 (by decide) d_y2
                    have d_x45 := rd_Ik eS99 o_v0 o_a23 (by decide) d_x45
                    have d_x71 := rd_Ik eS99 o_v0 o_a23 (by decide) d_x71
                    obtain ⟨y100, hy100⟩ : ∃ z : Int32, z = (1 : Int32) := ⟨_, rfl⟩
                    have d_y100 := rd_Is eS99 hy100
                    have ea23 := rf_I eS99 ea23
                    have g0 := gr_I eS99 g0
                    have o_a23 := ob_I eS99 o_a23
                    have o_v0 := ob_I eS99 o_v0
                    intro S101 eS101
                    have hI : IV S101 := by rw [eS101]; exact iv11_sI hI o_v0 (by decide) (nu_free (by decide))
                    have f0 := fr_I eS101 g0 f0 o_v0 (by decide)
                    have d_y2 := rd_Ij eS101 (by decide) d_y2
                    have d_x45 := rd_Ik eS101 o_v0 o_a23 (by decide) d_x45
                    have d_x71 := rd_Ik eS101 o_v0 o_a23 (by decide) d_x71
                    have d_y100 := rd_Ij eS101 (by decide) d_y100
                    obtain ⟨y102, hy102⟩ : ∃ z : Int32, z = (-1 : Int32) := ⟨_, rfl⟩
                    have d_y102 := rd_Is eS101 hy102
                    have ea23 := rf_I eS101 ea23
                    have g0 := gr_I eS101 g0
                    have o_a23 := ob_I eS101 o_a23
                    have o_v0 := ob_I eS101 o_v0
                    intro _
                    exact hq _ _ hI g0 f0
                  · intro _ _
                    refine ⟨fun c105 => absurd (show (1 : Int32) = 0 from c105) (by decide), fun c105 => ?_⟩
                    refine u_X11_isHour ?_
                    refine u_X11_isHour_0 ?_
                    refine ⟨o_v0, ?_⟩
                    refine ⟨fun e107 => (nomatch (e107.symm.trans ea23)), fun a106 ea106 => ?_⟩
                    obtain rfl : a23 = a106 := Option.some.inj (ea23.symm.trans ea106)
                    refine ⟨fun c108 => ?_, fun c108 => ?_⟩
                    · intro _ _
                      refine ⟨fun c110 => absurd (show ¬ (0 : Int32) = 0 from c110) (by decide), fun c110 => ?_⟩
                      intro _
                      refine u_X11_face_30 ?_
                      refine ⟨fun c112 => absurd (show (1 : Int32) ≤ 0 from c112) (by decide), fun c112 => ?_⟩
                      refine ⟨o_v0, ?_⟩
                      refine u_X11_refused ?_
                      refine u_X11_refused_0 ?_
                      refine ⟨o_v0, ?_⟩
                      intro S113 eS113
                      have hI : IV S113 := by rw [eS113]; exact iv11_sI hI o_v0 (by decide) (nu_free (by decide))
                      have f0 := fr_I eS113 g0 f0 o_v0 (by decide)
                      have d_y2 := rd_Ij eS113 (by decide) d_y2
                      have d_x45 := rd_Ik eS113 o_v0 o_a23 (by decide) d_x45
                      have d_x71 := rd_Ik eS113 o_v0 o_a23 (by decide) d_x71
                      obtain ⟨y114, hy114⟩ : ∃ z : Int32, z = (1 : Int32) := ⟨_, rfl⟩
                      have d_y114 := rd_Is eS113 hy114
                      have ea23 := rf_I eS113 ea23
                      have g0 := gr_I eS113 g0
                      have o_a23 := ob_I eS113 o_a23
                      have o_v0 := ob_I eS113 o_v0
                      intro S115 eS115
                      have hI : IV S115 := by rw [eS115]; exact iv11_sI hI o_v0 (by decide) (nu_free (by decide))
                      have f0 := fr_I eS115 g0 f0 o_v0 (by decide)
                      have d_y2 := rd_Ij eS115 (by decide) d_y2
                      have d_x45 := rd_Ik eS115 o_v0 o_a23 (by decide) d_x45
                      have d_x71 := rd_Ik eS115 o_v0 o_a23 (by decide) d_x71
                      have d_y114 := rd_Ij eS115 (by decide) d_y114
                      obtain ⟨y116, hy116⟩ : ∃ z : Int32, z = (-1 : Int32) := ⟨_, rfl⟩
                      have d_y116 := rd_Is eS115 hy116
                      have ea23 := rf_I eS115 ea23
                      have g0 := gr_I eS115 g0
                      have o_a23 := ob_I eS115 o_a23
                      have o_v0 := ob_I eS115 o_v0
                      intro _
                      exact hq _ _ hI g0 f0
                    · refine ⟨a23, ea23, ?_⟩
                      refine ⟨o_a23, ?_⟩
                      intro x119 ex119
                      have r_x119 : (0 : Int32) ≤ x119 ∧ x119 ≤ (6 : Int32) := by rw [ex119]; exact nu 17 rfl hI o_a23
                      have d_x119 := ex119
                      refine ⟨fun c120 => ?_, fun c120 => ?_⟩
                      · intro _ _
                        refine ⟨fun c122 => absurd (show ¬ (0 : Int32) = 0 from c122) (by decide), fun c122 => ?_⟩
                        intro _
                        refine u_X11_face_30 ?_
                        refine ⟨fun c124 => absurd (show (1 : Int32) ≤ 0 from c124) (by decide), fun c124 => ?_⟩
                        refine ⟨o_v0, ?_⟩
                        refine u_X11_refused ?_
                        refine u_X11_refused_0 ?_
                        refine ⟨o_v0, ?_⟩
                        intro S125 eS125
                        have hI : IV S125 := by rw [eS125]; exact iv11_sI hI o_v0 (by decide) (nu_free (by decide))
                        have f0 := fr_I eS125 g0 f0 o_v0 (by decide)
                        have d_y2 := rd_Ij eS125 (by decide) d_y2
                        have d_x45 := rd_Ik eS125 o_v0 o_a23 (by decide) d_x45
                        have d_x71 := rd_Ik eS125 o_v0 o_a23 (by decide) d_x71
                        have d_x119 := rd_Ik eS125 o_v0 o_a23 (by decide) d_x119
                        obtain ⟨y126, hy126⟩ : ∃ z : Int32, z = (1 : Int32) := ⟨_, rfl⟩
                        have d_y126 := rd_Is eS125 hy126
                        have ea23 := rf_I eS125 ea23
                        have g0 := gr_I eS125 g0
                        have o_a23 := ob_I eS125 o_a23
                        have o_v0 := ob_I eS125 o_v0
                        intro S127 eS127
                        have hI : IV S127 := by rw [eS127]; exact iv11_sI hI o_v0 (by decide) (nu_free (by decide))
                        have f0 := fr_I eS127 g0 f0 o_v0 (by decide)
                        have d_y2 := rd_Ij eS127 (by decide) d_y2
                        have d_x45 := rd_Ik eS127 o_v0 o_a23 (by decide) d_x45
                        have d_x71 := rd_Ik eS127 o_v0 o_a23 (by decide) d_x71
                        have d_x119 := rd_Ik eS127 o_v0 o_a23 (by decide) d_x119
                        have d_y126 := rd_Ij eS127 (by decide) d_y126
                        obtain ⟨y128, hy128⟩ : ∃ z : Int32, z = (-1 : Int32) := ⟨_, rfl⟩
                        have d_y128 := rd_Is eS127 hy128
                        have ea23 := rf_I eS127 ea23
                        have g0 := gr_I eS127 g0
                        have o_a23 := ob_I eS127 o_a23
                        have o_v0 := ob_I eS127 o_v0
                        intro _
                        exact hq _ _ hI g0 f0
                      · intro _ _
                        refine ⟨fun c131 => ?_, fun c131 => absurd (show (1 : Int32) = 0 from c131) (by decide)⟩
                        refine u_X11_isSpeed ?_
                        refine u_X11_isSpeed_0 ?_
                        refine ⟨o_v0, ?_⟩
                        refine ⟨a23, ea23, ?_⟩
                        refine ⟨o_a23, ?_⟩
                        obtain ⟨a133, ea133, o_a133, l_a133⟩ := shl 46 rfl hI o_a23
                        refine ⟨a133, ea133, ?_⟩
                        refine ⟨o_a133, ?_⟩
                        refine ⟨(vin l_a133 (m := 4) (by decide) (qm465 c3 c12 c34 r_x45 c46 c60 r_x71 c72 c84 c94 c108 r_x119 c120)), ?_⟩
                        intro x134 ex134
                        have gy_x134 : 0 ≤ v1 ∧ v1 < fI S1 a23 4 := by rw [← d_x45]; exact (qm466 c3 c12 c34 r_x45 c46 c60 r_x71 c72 c84 c94 c108 r_x119 c120)
                        have g_x134 : (1 : Int32) ≤ x134 ∧ x134 ≤ (9 : Int32) := by rw [ex134]; exact wg_at (ml_wg hI o_v0 ea23) 3 rfl gy_x134 ea133
                        refine ⟨a23, ea23, ?_⟩
                        refine ⟨o_a23, ?_⟩
                        obtain ⟨a136, ea136, o_a136, l_a136⟩ := shl 47 rfl hI o_a23
                        refine ⟨a136, ea136, ?_⟩
                        refine ⟨o_a136, ?_⟩
                        refine ⟨(vin l_a136 (m := 4) (by decide) (qm465 c3 c12 c34 r_x45 c46 c60 r_x71 c72 c84 c94 c108 r_x119 c120)), ?_⟩
                        intro x137 ex137
                        have gy_x137 : 0 ≤ v1 ∧ v1 < fI S1 a23 4 := by rw [← d_x45]; exact (qm466 c3 c12 c34 r_x45 c46 c60 r_x71 c72 c84 c94 c108 r_x119 c120)
                        have g_x137 : (0 : Int32) ≤ x137 ∧ x137 ≤ (9 : Int32) := by rw [ex137]; exact wg_at (ml_wg hI o_v0 ea23) 4 rfl gy_x137 ea136
                        refine u_X11_in ?_
                        refine u_X11_in_0 ?_
                        refine ⟨fun c138 => ?_, fun c138 => ?_⟩
                        · intro _ _
                          refine ⟨(Or.inl rfl), ?_⟩
                          intro _ _
                          refine ⟨fun c141 => ?_, fun c141 => absurd (show ¬ (0 : Int32) = 0 from c141) (by decide)⟩
                          intro _
                          refine u_X11_face_30 ?_
                          refine ⟨fun c143 => absurd (show (2 : Int32) ≤ 0 from c143) (by decide), fun c143 => ?_⟩
                          refine ⟨o_v0, ?_⟩
                          refine u_X11_refused ?_
                          refine u_X11_refused_0 ?_
                          refine ⟨o_v0, ?_⟩
                          intro S144 eS144
                          have hI : IV S144 := by rw [eS144]; exact iv11_sI hI o_v0 (by decide) (nu_free (by decide))
                          have f0 := fr_I eS144 g0 f0 o_v0 (by decide)
                          have d_y2 := rd_Ij eS144 (by decide) d_y2
                          have d_x45 := rd_Ik eS144 o_v0 o_a23 (by decide) d_x45
                          have d_x71 := rd_Ik eS144 o_v0 o_a23 (by decide) d_x71
                          have d_x119 := rd_Ik eS144 o_v0 o_a23 (by decide) d_x119
                          obtain ⟨y145, hy145⟩ : ∃ z : Int32, z = (2 : Int32) := ⟨_, rfl⟩
                          have d_y145 := rd_Is eS144 hy145
                          have ea23 := rf_I eS144 ea23
                          have ea133 := rf_I eS144 ea133
                          have ea136 := rf_I eS144 ea136
                          have l_a133 := ln_I eS144 l_a133
                          have l_a136 := ln_I eS144 l_a136
                          have g0 := gr_I eS144 g0
                          have o_a133 := ob_I eS144 o_a133
                          have o_a136 := ob_I eS144 o_a136
                          have o_a23 := ob_I eS144 o_a23
                          have o_v0 := ob_I eS144 o_v0
                          intro S146 eS146
                          have hI : IV S146 := by rw [eS146]; exact iv11_sI hI o_v0 (by decide) (nu_free (by decide))
                          have f0 := fr_I eS146 g0 f0 o_v0 (by decide)
                          have d_y2 := rd_Ij eS146 (by decide) d_y2
                          have d_x45 := rd_Ik eS146 o_v0 o_a23 (by decide) d_x45
                          have d_x71 := rd_Ik eS146 o_v0 o_a23 (by decide) d_x71
                          have d_x119 := rd_Ik eS146 o_v0 o_a23 (by decide) d_x119
                          have d_y145 := rd_Ij eS146 (by decide) d_y145
                          obtain ⟨y147, hy147⟩ : ∃ z : Int32, z = (-1 : Int32) := ⟨_, rfl⟩
                          have d_y147 := rd_Is eS146 hy147
                          have ea23 := rf_I eS146 ea23
                          have ea133 := rf_I eS146 ea133
                          have ea136 := rf_I eS146 ea136
                          have l_a133 := ln_I eS146 l_a133
                          have l_a136 := ln_I eS146 l_a136
                          have g0 := gr_I eS146 g0
                          have o_a133 := ob_I eS146 o_a133
                          have o_a136 := ob_I eS146 o_a136
                          have o_a23 := ob_I eS146 o_a23
                          have o_v0 := ob_I eS146 o_v0
                          intro _
                          exact hq _ _ hI g0 f0
                        · refine ⟨fun c149 => ?_, fun c149 => ?_⟩
                          · intro _ _
                            refine ⟨(Or.inl rfl), ?_⟩
                            intro _ _
                            refine ⟨fun c152 => ?_, fun c152 => absurd (show ¬ (0 : Int32) = 0 from c152) (by decide)⟩
                            intro _
                            refine u_X11_face_30 ?_
                            refine ⟨fun c154 => absurd (show (2 : Int32) ≤ 0 from c154) (by decide), fun c154 => ?_⟩
                            refine ⟨o_v0, ?_⟩
                            refine u_X11_refused ?_
                            refine u_X11_refused_0 ?_
                            refine ⟨o_v0, ?_⟩
                            intro S155 eS155
                            have hI : IV S155 := by rw [eS155]; exact iv11_sI hI o_v0 (by decide) (nu_free (by decide))
                            have f0 := fr_I eS155 g0 f0 o_v0 (by decide)
                            have d_y2 := rd_Ij eS155 (by decide) d_y2
                            have d_x45 := rd_Ik eS155 o_v0 o_a23 (by decide) d_x45
                            have d_x71 := rd_Ik eS155 o_v0 o_a23 (by decide) d_x71
                            have d_x119 := rd_Ik eS155 o_v0 o_a23 (by decide) d_x119
                            obtain ⟨y156, hy156⟩ : ∃ z : Int32, z = (2 : Int32) := ⟨_, rfl⟩
                            have d_y156 := rd_Is eS155 hy156
                            have ea23 := rf_I eS155 ea23
                            have ea133 := rf_I eS155 ea133
                            have ea136 := rf_I eS155 ea136
                            have l_a133 := ln_I eS155 l_a133
                            have l_a136 := ln_I eS155 l_a136
                            have g0 := gr_I eS155 g0
                            have o_a133 := ob_I eS155 o_a133
                            have o_a136 := ob_I eS155 o_a136
                            have o_a23 := ob_I eS155 o_a23
                            have o_v0 := ob_I eS155 o_v0
                            intro S157 eS157
                            have hI : IV S157 := by rw [eS157]; exact iv11_sI hI o_v0 (by decide) (nu_free (by decide))
                            have f0 := fr_I eS157 g0 f0 o_v0 (by decide)
                            have d_y2 := rd_Ij eS157 (by decide) d_y2
                            have d_x45 := rd_Ik eS157 o_v0 o_a23 (by decide) d_x45
                            have d_x71 := rd_Ik eS157 o_v0 o_a23 (by decide) d_x71
                            have d_x119 := rd_Ik eS157 o_v0 o_a23 (by decide) d_x119
                            have d_y156 := rd_Ij eS157 (by decide) d_y156
                            obtain ⟨y158, hy158⟩ : ∃ z : Int32, z = (-1 : Int32) := ⟨_, rfl⟩
                            have d_y158 := rd_Is eS157 hy158
                            have ea23 := rf_I eS157 ea23
                            have ea133 := rf_I eS157 ea133
                            have ea136 := rf_I eS157 ea136
                            have l_a133 := ln_I eS157 l_a133
                            have l_a136 := ln_I eS157 l_a136
                            have g0 := gr_I eS157 g0
                            have o_a133 := ob_I eS157 o_a133
                            have o_a136 := ob_I eS157 o_a136
                            have o_a23 := ob_I eS157 o_a23
                            have o_v0 := ob_I eS157 o_v0
                            intro _
                            exact hq _ _ hI g0 f0
                          · intro _ _
                            refine ⟨(Or.inr rfl), ?_⟩
                            intro _ _
                            refine ⟨fun c162 => absurd (show (1 : Int32) = 0 from c162) (by decide), fun c162 => ?_⟩
                            intro _
                            refine u_X11_face_30 ?_
                            refine ⟨fun c164 => ?_, fun c164 => absurd (show ¬ (0 : Int32) ≤ 0 from c164) (by decide)⟩
                            refine ⟨o_v0, ?_⟩
                            refine m_X11_partsOf hI o_v0 (qm467 c3 c12 c34 r_x45 c46 c60 r_x71 c72 c84 c94 c108 r_x119 c120 g_x134 g_x137 c138 c149) (qm468 c3 c12 c34 r_x45 c46 c60 r_x71 c72 c84 c94 c108 r_x119 c120 g_x134 g_x137 c138 c149) (qm469 c3 c12 c34 r_x45 c46 c60 r_x71 c72 c84 c94 c108 r_x119 c120 g_x134 g_x137 c138 c149) (qm470 c3 c12 c34 r_x45 c46 c60 r_x71 c72 c84 c94 c108 r_x119 c120 g_x134 g_x137 c138 c149) ⟨_, ea23⟩ (fun x165 S166 hI2 g167 p_x165 => ?_)
                            subst p_x165
                            intro _
                            refine m_X11_told hI o_v0 (qm471 c3 c12 c34 r_x45 c46 c60 r_x71 c72 c84 c94 c108 r_x119 c120 g_x134 g_x137 c138 c149) (fun x169 S170 hJ g171 fc172 => ?_)
                            have hI := hJ
                            have l_a133 := (gr_len g171 o_a133).trans l_a133
                            have l_a136 := (gr_len g171 o_a136).trans l_a136
                            have d_y2 := d_y2.trans (fri_at fc172 (by decide) (by decide) o_v0).symm
                            have d_x45 := d_x45.trans (fri_at fc172 (by decide) (by decide) o_a23).symm
                            have d_x71 := d_x71.trans (fri_at fc172 (by decide) (by decide) o_a23).symm
                            have d_x119 := d_x119.trans (fri_at fc172 (by decide) (by decide) o_a23).symm
                            have ea23 := (frr_at fc172 (by decide) (by decide) o_v0).trans ea23
                            have ea133 := (frr_at fc172 (by decide) (by decide) o_a23).trans ea133
                            have ea136 := (frr_at fc172 (by decide) (by decide) o_a23).trans ea136
                            have f0 := fri_tr (S := S1) g0 f0 fc172 (by decide) (by decide)
                            have o_a133 := gr_ob g171 o_a133
                            have o_a136 := gr_ob g171 o_a136
                            have o_a23 := gr_ob g171 o_a23
                            have o_v0 := gr_ob g171 o_v0
                            have g0 := gr_tr (T := S1) g0 g171
                            intro _
                            exact hq _ _ hI g0 f0
set_option maxHeartbeats 4000000 in
set_option maxRecDepth 20000 in
theorem m_X11_feed {v0 : Nat} {v1 : Int32} {v2 : Int32} {v3 : Int32} {v4 : Int32} {v5 : Int32} {Q : Int32 → HS → Prop} {S : HS} (hI : IV S) (o_v0 : ob S v0 11)     (hq : ∀ (r : Int32) (T : HS), IV T → Gr S T → FRI [(11, 0), (11, 6)] [] S T → ((900 < fI S v0 6 + 20 → r = -1 ∧ fI T v0 6 = fI S v0 6) ∧ (fI S v0 6 + 20 ≤ 900 → r = fI T v0 6 ∧ fI T v0 6 = fI S v0 6 + 20)) → Q r T) : P_X11_feed v0 v1 v2 v3 v4 v5 Q S := by
  have g0 := gr_rf S
  have f0 := fri_rf [(11, 0), (11, 6)] [] S
  obtain ⟨y1, d_y1⟩ : ∃ z : Int32, z = fI S v0 6 := ⟨_, rfl⟩
  have r_y1 : (0 : Int32) ≤ y1 ∧ y1 ≤ (900 : Int32) := by rw [d_y1]; exact nu 23 rfl hI o_v0
  have di_6 := d_y1
  refine u_X11_feed ?_
  refine u_X11_feed_0 ?_
  refine ⟨o_v0, ?_⟩
  intro S2 eS2
  have hI : IV S2 := by rw [eS2]; exact iv11_sI hI o_v0 (by decide) (nu_free (by decide))
  have f0 := fr_I eS2 g0 f0 o_v0 (by decide)
  have d_y1 := rd_Ij eS2 (by decide) d_y1
  obtain ⟨y3, hy3⟩ : ∃ z : Int32, z = (0 : Int32) := ⟨_, rfl⟩
  have d_y3 := rd_Is eS2 hy3
  have g0 := gr_I eS2 g0
  have o_v0 := ob_I eS2 o_v0
  intro x4 ex4
  have r_x4 : (0 : Int32) ≤ x4 ∧ x4 ≤ (900 : Int32) := by rw [ex4]; exact nu 23 rfl hI o_v0
  have q_x4 : x4 = y1 := ex4.trans d_y1.symm
  have d_x4 := ex4
  refine ⟨fun c5 => ?_, fun c5 => ?_⟩
  · refine i_X11_feed_23 (fun (y0 : Nat) (y1 : Int32) (y2 : Int32) (y3 : Int32) (y4 : Int32) (y5 : Int32) (y6 : Int32) (Z : HS) => ((20 : Int32).toInt - y6.toInt).toNat) (fun (y0 : Nat) (y1 : Int32) (y2 : Int32) (y3 : Int32) (y4 : Int32) (y5 : Int32) (y6 : Int32) (Z : HS) => (IV Z) ∧ (Gr S2 Z) ∧ (FRI [(11, 6)] [] S2 Z) ∧ (v0 = y0) ∧ (v1 = y1) ∧ (v2 = y2) ∧ (v3 = y3) ∧ (v4 = y4) ∧ (v5 = y5) ∧ (0 ≤ y6 ∧ y6 ≤ 20) ∧ (fI Z v0 6 = y1 + y6)) ?_ _ _ _ _ _ _ _ _ ⟨hI, (gr_rf _), (fri_rf _ _ _), rfl, rfl, rfl, rfl, rfl, rfl, (qm297 r_y1 r_x4 q_x4 c5), (by rw [← d_x4]; exact (qm298 r_y1 r_x4 q_x4 c5))⟩
    intro w10 w12 w14 w16 w18 w20 w22 S7 X23 ⟨hI, gL8, fL9, q11, q13, q15, q17, q19, q21, i1u6, k1u6⟩ ih24
    subst q11
    subst q13
    subst q15
    subst q17
    subst q19
    subst q21
    have d_y3 := d_y3.trans (fri_at fL9 (by decide) (by decide) o_v0).symm
    have f0 := fri_tr (S := S2) g0 f0 fL9 (by decide) (by decide)
    have o_v0 := gr_ob gL8 o_v0
    have g0 := gr_tr (T := S2) g0 gL8
    obtain ⟨y25, d_y25⟩ : ∃ z : Int32, z = fI S7 v0 6 := ⟨_, rfl⟩
    have p_k1u6 : y25 = y1 + w22 := by rw [d_y25]; exact k1u6
    refine u_X11_feed_23 ?_
    refine ⟨fun c26 => ?_, fun c26 => ?_⟩
    · refine ⟨o_v0, ?_⟩
      intro x27 ex27
      have r_x27 : (0 : Int32) ≤ x27 ∧ x27 ≤ (900 : Int32) := by rw [ex27]; exact nu 23 rfl hI o_v0
      have q_x27 : x27 = y25 := ex27.trans d_y25.symm
      have d_x27 := ex27
      exact hq _ _ hI g0 f0 (by have t : (900 < y1 + 20 → x27 = -1 ∧ x27 = y1) ∧ (y1 + 20 ≤ 900 → x27 = x27 ∧ x27 = y1 + 20) := (qm299 r_y1 r_x4 q_x4 c5 i1u6 p_k1u6 c26 r_x27 q_x27); rw [di_6, d_x27] at t; exact t)
    · refine ⟨fun c28 => ?_, fun c28 => ?_⟩
      · refine ⟨fun c29 => ?_, fun c29 => ?_⟩
        · refine ⟨fun c30 => ?_, fun c30 => ?_⟩
          · refine ⟨fun c31 => ?_, fun c31 => ?_⟩
            · refine u_X11_feed_76 ?_
              refine ⟨o_v0, ?_⟩
              obtain ⟨a32, ea32, o_a32, l_a32⟩ := shl 53 rfl hI o_v0
              refine ⟨a32, ea32, ?_⟩
              intro x33 ex33
              have r_x33 : (0 : Int32) ≤ x33 ∧ x33 ≤ (900 : Int32) := by rw [ex33]; exact nu 23 rfl hI o_v0
              have q_x33 : x33 = y25 := ex33.trans d_y25.symm
              have d_x33 := ex33
              intro x34 ex34
              refine ⟨o_a32, ?_⟩
              intro x35 ex35
              have i36 : vp_in x33 (hN _ a32) := (vin l_a32 (m := 900) (by decide) (qm300 r_y1 r_x4 q_x4 c5 i1u6 p_k1u6 c26 c28 c29 c30 c31 r_x33 q_x33 ex34 ex35))
              refine ⟨i36, ?_⟩
              intro S37 eS37
              have hI : IV S37 := by rw [eS37]; exact iv11_aI hI o_v0 ea32 o_a32 (by decide)
              have f0 := fr_A eS37 g0 f0 o_a32 (by decide)
              have fL9 := fr_A eS37 gL8 fL9 o_a32 (by decide)
              have d_y3 := rd_Ik eS37 o_a32 o_v0 (by decide) d_y3
              have d_x33 := rd_Ik eS37 o_a32 o_v0 (by decide) d_x33
              have ea32 := rf_I eS37 ea32
              have l_a32 := ln_I eS37 l_a32
              have g0 := gr_I eS37 g0
              have gL8 := gr_I eS37 gL8
              have o_a32 := ob_I eS37 o_a32
              have o_v0 := ob_I eS37 o_v0
              intro x38 ex38
              have r_x38 : (0 : Int32) ≤ x38 ∧ x38 ≤ (900 : Int32) := by rw [ex38]; exact nu 23 rfl hI o_v0
              have q_x38 : x38 = x33 := ex38.trans d_x33.symm
              have d_x38 := ex38
              intro x39 ex39
              intro S40 eS40
              have hI : IV S40 := by rw [eS40]; exact iv11_sI hI o_v0 (by decide) (nu_one (lo := (0 : Int32)) (hi := (900 : Int32)) (by decide) (qm301 r_y1 r_x4 q_x4 c5 i1u6 p_k1u6 c26 c28 c29 c30 c31 r_x33 q_x33 ex34 ex35 r_x38 q_x38 ex39))
              have f0 := fr_I eS40 g0 f0 o_v0 (by decide)
              have fL9 := fr_I eS40 gL8 fL9 o_v0 (by decide)
              have d_y3 := rd_Ij eS40 (by decide) d_y3
              have d_x39 := rd_Is eS40 (rfl : x39 = x39)
              have ea32 := rf_I eS40 ea32
              have l_a32 := ln_I eS40 l_a32
              have g0 := gr_I eS40 g0
              have gL8 := gr_I eS40 gL8
              have o_a32 := ob_I eS40 o_a32
              have o_v0 := ob_I eS40 o_v0
              intro x41 ex41
              exact ih24 _ _ _ _ _ _ _ _ ⟨hI, gL8, fL9, rfl, rfl, rfl, rfl, rfl, rfl, (qm302 r_y1 r_x4 q_x4 c5 i1u6 p_k1u6 c26 c28 c29 c30 c31 r_x33 q_x33 ex34 ex35 r_x38 q_x38 ex39 ex41), (by rw [← d_x39]; exact (qm303 r_y1 r_x4 q_x4 c5 i1u6 p_k1u6 c26 c28 c29 c30 c31 r_x33 q_x33 ex34 ex35 r_x38 q_x38 ex39 ex41))⟩ (mu_up (qm304 r_y1 r_x4 q_x4 c5 i1u6 p_k1u6 c26 c28 c29 c30 c31 r_x33 q_x33 ex34 ex35 r_x38 q_x38 ex39 ex41) (qm305 r_y1 r_x4 q_x4 c5 i1u6 p_k1u6 c26 c28 c29 c30 c31 r_x33 q_x33 ex34 ex35 r_x38 q_x38 ex39 ex41))
            · refine u_X11_feed_76 ?_
              refine ⟨o_v0, ?_⟩
              obtain ⟨a42, ea42, o_a42, l_a42⟩ := shl 53 rfl hI o_v0
              refine ⟨a42, ea42, ?_⟩
              intro x43 ex43
              have r_x43 : (0 : Int32) ≤ x43 ∧ x43 ≤ (900 : Int32) := by rw [ex43]; exact nu 23 rfl hI o_v0
              have q_x43 : x43 = y25 := ex43.trans d_y25.symm
              have d_x43 := ex43
              intro x44 ex44
              refine ⟨o_a42, ?_⟩
              intro x45 ex45
              have i46 : vp_in x43 (hN _ a42) := (vin l_a42 (m := 900) (by decide) (qm306 r_y1 r_x4 q_x4 c5 i1u6 p_k1u6 c26 c28 c29 c30 c31 r_x43 q_x43 ex44 ex45))
              refine ⟨i46, ?_⟩
              intro S47 eS47
              have hI : IV S47 := by rw [eS47]; exact iv11_aI hI o_v0 ea42 o_a42 (by decide)
              have f0 := fr_A eS47 g0 f0 o_a42 (by decide)
              have fL9 := fr_A eS47 gL8 fL9 o_a42 (by decide)
              have d_y3 := rd_Ik eS47 o_a42 o_v0 (by decide) d_y3
              have d_x43 := rd_Ik eS47 o_a42 o_v0 (by decide) d_x43
              have ea42 := rf_I eS47 ea42
              have l_a42 := ln_I eS47 l_a42
              have g0 := gr_I eS47 g0
              have gL8 := gr_I eS47 gL8
              have o_a42 := ob_I eS47 o_a42
              have o_v0 := ob_I eS47 o_v0
              intro x48 ex48
              have r_x48 : (0 : Int32) ≤ x48 ∧ x48 ≤ (900 : Int32) := by rw [ex48]; exact nu 23 rfl hI o_v0
              have q_x48 : x48 = x43 := ex48.trans d_x43.symm
              have d_x48 := ex48
              intro x49 ex49
              intro S50 eS50
              have hI : IV S50 := by rw [eS50]; exact iv11_sI hI o_v0 (by decide) (nu_one (lo := (0 : Int32)) (hi := (900 : Int32)) (by decide) (qm307 r_y1 r_x4 q_x4 c5 i1u6 p_k1u6 c26 c28 c29 c30 c31 r_x43 q_x43 ex44 ex45 r_x48 q_x48 ex49))
              have f0 := fr_I eS50 g0 f0 o_v0 (by decide)
              have fL9 := fr_I eS50 gL8 fL9 o_v0 (by decide)
              have d_y3 := rd_Ij eS50 (by decide) d_y3
              have d_x49 := rd_Is eS50 (rfl : x49 = x49)
              have ea42 := rf_I eS50 ea42
              have l_a42 := ln_I eS50 l_a42
              have g0 := gr_I eS50 g0
              have gL8 := gr_I eS50 gL8
              have o_a42 := ob_I eS50 o_a42
              have o_v0 := ob_I eS50 o_v0
              intro x51 ex51
              exact ih24 _ _ _ _ _ _ _ _ ⟨hI, gL8, fL9, rfl, rfl, rfl, rfl, rfl, rfl, (qm308 r_y1 r_x4 q_x4 c5 i1u6 p_k1u6 c26 c28 c29 c30 c31 r_x43 q_x43 ex44 ex45 r_x48 q_x48 ex49 ex51), (by rw [← d_x49]; exact (qm309 r_y1 r_x4 q_x4 c5 i1u6 p_k1u6 c26 c28 c29 c30 c31 r_x43 q_x43 ex44 ex45 r_x48 q_x48 ex49 ex51))⟩ (mu_up (qm310 r_y1 r_x4 q_x4 c5 i1u6 p_k1u6 c26 c28 c29 c30 c31 r_x43 q_x43 ex44 ex45 r_x48 q_x48 ex49 ex51) (qm311 r_y1 r_x4 q_x4 c5 i1u6 p_k1u6 c26 c28 c29 c30 c31 r_x43 q_x43 ex44 ex45 r_x48 q_x48 ex49 ex51))
          · refine u_X11_feed_76 ?_
            refine ⟨o_v0, ?_⟩
            obtain ⟨a52, ea52, o_a52, l_a52⟩ := shl 53 rfl hI o_v0
            refine ⟨a52, ea52, ?_⟩
            intro x53 ex53
            have r_x53 : (0 : Int32) ≤ x53 ∧ x53 ≤ (900 : Int32) := by rw [ex53]; exact nu 23 rfl hI o_v0
            have q_x53 : x53 = y25 := ex53.trans d_y25.symm
            have d_x53 := ex53
            intro x54 ex54
            refine ⟨o_a52, ?_⟩
            intro x55 ex55
            have i56 : vp_in x53 (hN _ a52) := (vin l_a52 (m := 900) (by decide) (qm312 r_y1 r_x4 q_x4 c5 i1u6 p_k1u6 c26 c28 c29 c30 r_x53 q_x53 ex54 ex55))
            refine ⟨i56, ?_⟩
            intro S57 eS57
            have hI : IV S57 := by rw [eS57]; exact iv11_aI hI o_v0 ea52 o_a52 (by decide)
            have f0 := fr_A eS57 g0 f0 o_a52 (by decide)
            have fL9 := fr_A eS57 gL8 fL9 o_a52 (by decide)
            have d_y3 := rd_Ik eS57 o_a52 o_v0 (by decide) d_y3
            have d_x53 := rd_Ik eS57 o_a52 o_v0 (by decide) d_x53
            have ea52 := rf_I eS57 ea52
            have l_a52 := ln_I eS57 l_a52
            have g0 := gr_I eS57 g0
            have gL8 := gr_I eS57 gL8
            have o_a52 := ob_I eS57 o_a52
            have o_v0 := ob_I eS57 o_v0
            intro x58 ex58
            have r_x58 : (0 : Int32) ≤ x58 ∧ x58 ≤ (900 : Int32) := by rw [ex58]; exact nu 23 rfl hI o_v0
            have q_x58 : x58 = x53 := ex58.trans d_x53.symm
            have d_x58 := ex58
            intro x59 ex59
            intro S60 eS60
            have hI : IV S60 := by rw [eS60]; exact iv11_sI hI o_v0 (by decide) (nu_one (lo := (0 : Int32)) (hi := (900 : Int32)) (by decide) (qm313 r_y1 r_x4 q_x4 c5 i1u6 p_k1u6 c26 c28 c29 c30 r_x53 q_x53 ex54 ex55 r_x58 q_x58 ex59))
            have f0 := fr_I eS60 g0 f0 o_v0 (by decide)
            have fL9 := fr_I eS60 gL8 fL9 o_v0 (by decide)
            have d_y3 := rd_Ij eS60 (by decide) d_y3
            have d_x59 := rd_Is eS60 (rfl : x59 = x59)
            have ea52 := rf_I eS60 ea52
            have l_a52 := ln_I eS60 l_a52
            have g0 := gr_I eS60 g0
            have gL8 := gr_I eS60 gL8
            have o_a52 := ob_I eS60 o_a52
            have o_v0 := ob_I eS60 o_v0
            intro x61 ex61
            exact ih24 _ _ _ _ _ _ _ _ ⟨hI, gL8, fL9, rfl, rfl, rfl, rfl, rfl, rfl, (qm314 r_y1 r_x4 q_x4 c5 i1u6 p_k1u6 c26 c28 c29 c30 r_x53 q_x53 ex54 ex55 r_x58 q_x58 ex59 ex61), (by rw [← d_x59]; exact (qm315 r_y1 r_x4 q_x4 c5 i1u6 p_k1u6 c26 c28 c29 c30 r_x53 q_x53 ex54 ex55 r_x58 q_x58 ex59 ex61))⟩ (mu_up (qm316 r_y1 r_x4 q_x4 c5 i1u6 p_k1u6 c26 c28 c29 c30 r_x53 q_x53 ex54 ex55 r_x58 q_x58 ex59 ex61) (qm317 r_y1 r_x4 q_x4 c5 i1u6 p_k1u6 c26 c28 c29 c30 r_x53 q_x53 ex54 ex55 r_x58 q_x58 ex59 ex61))
        · refine u_X11_feed_76 ?_
          refine ⟨o_v0, ?_⟩
          obtain ⟨a62, ea62, o_a62, l_a62⟩ := shl 53 rfl hI o_v0
          refine ⟨a62, ea62, ?_⟩
          intro x63 ex63
          have r_x63 : (0 : Int32) ≤ x63 ∧ x63 ≤ (900 : Int32) := by rw [ex63]; exact nu 23 rfl hI o_v0
          have q_x63 : x63 = y25 := ex63.trans d_y25.symm
          have d_x63 := ex63
          intro x64 ex64
          refine ⟨o_a62, ?_⟩
          intro x65 ex65
          have i66 : vp_in x63 (hN _ a62) := (vin l_a62 (m := 900) (by decide) (qm318 r_y1 r_x4 q_x4 c5 i1u6 p_k1u6 c26 c28 c29 r_x63 q_x63 ex64 ex65))
          refine ⟨i66, ?_⟩
          intro S67 eS67
          have hI : IV S67 := by rw [eS67]; exact iv11_aI hI o_v0 ea62 o_a62 (by decide)
          have f0 := fr_A eS67 g0 f0 o_a62 (by decide)
          have fL9 := fr_A eS67 gL8 fL9 o_a62 (by decide)
          have d_y3 := rd_Ik eS67 o_a62 o_v0 (by decide) d_y3
          have d_x63 := rd_Ik eS67 o_a62 o_v0 (by decide) d_x63
          have ea62 := rf_I eS67 ea62
          have l_a62 := ln_I eS67 l_a62
          have g0 := gr_I eS67 g0
          have gL8 := gr_I eS67 gL8
          have o_a62 := ob_I eS67 o_a62
          have o_v0 := ob_I eS67 o_v0
          intro x68 ex68
          have r_x68 : (0 : Int32) ≤ x68 ∧ x68 ≤ (900 : Int32) := by rw [ex68]; exact nu 23 rfl hI o_v0
          have q_x68 : x68 = x63 := ex68.trans d_x63.symm
          have d_x68 := ex68
          intro x69 ex69
          intro S70 eS70
          have hI : IV S70 := by rw [eS70]; exact iv11_sI hI o_v0 (by decide) (nu_one (lo := (0 : Int32)) (hi := (900 : Int32)) (by decide) (qm319 r_y1 r_x4 q_x4 c5 i1u6 p_k1u6 c26 c28 c29 r_x63 q_x63 ex64 ex65 r_x68 q_x68 ex69))
          have f0 := fr_I eS70 g0 f0 o_v0 (by decide)
          have fL9 := fr_I eS70 gL8 fL9 o_v0 (by decide)
          have d_y3 := rd_Ij eS70 (by decide) d_y3
          have d_x69 := rd_Is eS70 (rfl : x69 = x69)
          have ea62 := rf_I eS70 ea62
          have l_a62 := ln_I eS70 l_a62
          have g0 := gr_I eS70 g0
          have gL8 := gr_I eS70 gL8
          have o_a62 := ob_I eS70 o_a62
          have o_v0 := ob_I eS70 o_v0
          intro x71 ex71
          exact ih24 _ _ _ _ _ _ _ _ ⟨hI, gL8, fL9, rfl, rfl, rfl, rfl, rfl, rfl, (qm320 r_y1 r_x4 q_x4 c5 i1u6 p_k1u6 c26 c28 c29 r_x63 q_x63 ex64 ex65 r_x68 q_x68 ex69 ex71), (by rw [← d_x69]; exact (qm321 r_y1 r_x4 q_x4 c5 i1u6 p_k1u6 c26 c28 c29 r_x63 q_x63 ex64 ex65 r_x68 q_x68 ex69 ex71))⟩ (mu_up (qm322 r_y1 r_x4 q_x4 c5 i1u6 p_k1u6 c26 c28 c29 r_x63 q_x63 ex64 ex65 r_x68 q_x68 ex69 ex71) (qm323 r_y1 r_x4 q_x4 c5 i1u6 p_k1u6 c26 c28 c29 r_x63 q_x63 ex64 ex65 r_x68 q_x68 ex69 ex71))
      · refine u_X11_feed_76 ?_
        refine ⟨o_v0, ?_⟩
        obtain ⟨a72, ea72, o_a72, l_a72⟩ := shl 53 rfl hI o_v0
        refine ⟨a72, ea72, ?_⟩
        intro x73 ex73
        have r_x73 : (0 : Int32) ≤ x73 ∧ x73 ≤ (900 : Int32) := by rw [ex73]; exact nu 23 rfl hI o_v0
        have q_x73 : x73 = y25 := ex73.trans d_y25.symm
        have d_x73 := ex73
        intro x74 ex74
        refine ⟨o_a72, ?_⟩
        intro x75 ex75
        have i76 : vp_in x73 (hN _ a72) := (vin l_a72 (m := 900) (by decide) (qm324 r_y1 r_x4 q_x4 c5 i1u6 p_k1u6 c26 c28 r_x73 q_x73 ex74 ex75))
        refine ⟨i76, ?_⟩
        intro S77 eS77
        have hI : IV S77 := by rw [eS77]; exact iv11_aI hI o_v0 ea72 o_a72 (by decide)
        have f0 := fr_A eS77 g0 f0 o_a72 (by decide)
        have fL9 := fr_A eS77 gL8 fL9 o_a72 (by decide)
        have d_y3 := rd_Ik eS77 o_a72 o_v0 (by decide) d_y3
        have d_x73 := rd_Ik eS77 o_a72 o_v0 (by decide) d_x73
        have ea72 := rf_I eS77 ea72
        have l_a72 := ln_I eS77 l_a72
        have g0 := gr_I eS77 g0
        have gL8 := gr_I eS77 gL8
        have o_a72 := ob_I eS77 o_a72
        have o_v0 := ob_I eS77 o_v0
        intro x78 ex78
        have r_x78 : (0 : Int32) ≤ x78 ∧ x78 ≤ (900 : Int32) := by rw [ex78]; exact nu 23 rfl hI o_v0
        have q_x78 : x78 = x73 := ex78.trans d_x73.symm
        have d_x78 := ex78
        intro x79 ex79
        intro S80 eS80
        have hI : IV S80 := by rw [eS80]; exact iv11_sI hI o_v0 (by decide) (nu_one (lo := (0 : Int32)) (hi := (900 : Int32)) (by decide) (qm325 r_y1 r_x4 q_x4 c5 i1u6 p_k1u6 c26 c28 r_x73 q_x73 ex74 ex75 r_x78 q_x78 ex79))
        have f0 := fr_I eS80 g0 f0 o_v0 (by decide)
        have fL9 := fr_I eS80 gL8 fL9 o_v0 (by decide)
        have d_y3 := rd_Ij eS80 (by decide) d_y3
        have d_x79 := rd_Is eS80 (rfl : x79 = x79)
        have ea72 := rf_I eS80 ea72
        have l_a72 := ln_I eS80 l_a72
        have g0 := gr_I eS80 g0
        have gL8 := gr_I eS80 gL8
        have o_a72 := ob_I eS80 o_a72
        have o_v0 := ob_I eS80 o_v0
        intro x81 ex81
        exact ih24 _ _ _ _ _ _ _ _ ⟨hI, gL8, fL9, rfl, rfl, rfl, rfl, rfl, rfl, (qm326 r_y1 r_x4 q_x4 c5 i1u6 p_k1u6 c26 c28 r_x73 q_x73 ex74 ex75 r_x78 q_x78 ex79 ex81), (by rw [← d_x79]; exact (qm327 r_y1 r_x4 q_x4 c5 i1u6 p_k1u6 c26 c28 r_x73 q_x73 ex74 ex75 r_x78 q_x78 ex79 ex81))⟩ (mu_up (qm328 r_y1 r_x4 q_x4 c5 i1u6 p_k1u6 c26 c28 r_x73 q_x73 ex74 ex75 r_x78 q_x78 ex79 ex81) (qm329 r_y1 r_x4 q_x4 c5 i1u6 p_k1u6 c26 c28 r_x73 q_x73 ex74 ex75 r_x78 q_x78 ex79 ex81))
  · exact hq _ _ hI g0 f0 (by have t : (900 < y1 + 20 → (-1 : Int32) = -1 ∧ x4 = y1) ∧ (y1 + 20 ≤ 900 → (-1 : Int32) = x4 ∧ x4 = y1 + 20) := (qm330 r_y1 r_x4 q_x4 c5); rw [di_6, d_x4] at t; exact t)
