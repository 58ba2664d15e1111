set_option maxHeartbeats 4000000 in
set_option maxRecDepth 20000 in
theorem m_X11_told {v0 : Nat} {v1 : Int64} {v3 : Int64} {v5 : Int32} {Q : Int64 → HS → Prop} {S : HS} (hI : IV S) (o_v0 : ob S v0 11)   (h3 : ¬ v3 = 0)  (hq : ∀ (r : Int64) (T : HS), IV T → Gr S T → FRI [(11, 1), (11, 2)] [] S T → Q r T) : P_X11_told v0 v1 v3 v5 Q S := by
  have g0 := gr_rf S
  have f0 := fri_rf [(11, 1), (11, 2)] [] S
  refine u_X11_told ?_
  refine u_X11_told_0 ?_
  refine ⟨o_v0, ?_⟩
  refine u_X11_good ?_
  refine u_X11_good_0 ?_
  refine ⟨o_v0, ?_⟩
  intro S1 eS1
  have hIn : IV S1 := by rw [eS1]; exact iv11_sI hI o_v0 (by decide) (nu_free (by decide))
  have hI := hIn
  have f0 := fr_I eS1 g0 f0 o_v0 (by decide)
  obtain ⟨kv2, hkv2⟩ : ∃ z : Int32, z = (0 : Int32) := ⟨_, rfl⟩
  have d_kv2 := rd_Is eS1 hkv2
  have g0 := gr_I eS1 g0
  have o_v0 := ob_I eS1 o_v0
  intro S3 eS3
  have hIn : IV S3 := by rw [eS3]; exact iv11_sI hI o_v0 (by decide) (nu_free (by decide))
  have hI := hIn
  have f0 := fr_I eS3 g0 f0 o_v0 (by decide)
  have d_kv2 := rd_Ij eS3 (by decide) d_kv2
  obtain ⟨kv4, hkv4⟩ : ∃ z : Int32, z = (-1 : Int32) := ⟨_, rfl⟩
  have d_kv4 := rd_Is eS3 hkv4
  have g0 := gr_I eS3 g0
  have o_v0 := ob_I eS3 o_v0
  intro _
  refine i_X11_told_12 (fun (y1 : Int64) (y3 : Int64) (y5 : Int32) (y6 : Int64) (y8 : Int64) (Z : HS) => y8.toInt.natAbs) (fun (y1 : Int64) (y3 : Int64) (y5 : Int32) (y6 : Int64) (y8 : Int64) (Z : HS) => (S3 = Z) ∧ (v1 = y1) ∧ (v3 = y3) ∧ (v5 = y5) ∧ (¬ y6 = 0 ∨ ¬ y8 = 0)) ?_ _ _ _ _ _ _ ⟨rfl, rfl, rfl, rfl, (qm542 h3)⟩
  intro w10 w12 w14 w16 w17 S7 X18 ⟨eS7, q11, q13, q15, i1u6⟩ ih19
  subst q11
  subst q13
  subst q15
  subst eS7
  refine u_X11_told_12 ?_
  refine ⟨fun c20 => ?_, fun c20 => ?_⟩
  · have z_c20 := lc_eq c20
    refine ⟨fun c21 => ?_, fun c21 => ?_⟩
    · refine ⟨(qm543 i1u6 c20 z_c20 c21), ?_⟩
      intro x22 ex22
      exact hq _ _ hI g0 f0
    · refine ⟨(qm544 i1u6 c20 z_c20 c21), ?_⟩
      intro x23 ex23
      exact hq _ _ hI g0 f0
  · have z_c20 := lc_ne c20
    refine ⟨(qm545 i1u6 c20 z_c20), ?_⟩
    intro x24 ex24
    exact ih19 _ _ _ _ _ _ ⟨rfl, rfl, rfl, rfl, (qm546 i1u6 c20 z_c20)⟩ (by rw [ex24]; exact rem_abs z_c20)
set_option maxHeartbeats 4000000 in
set_option maxRecDepth 20000 in
theorem m_X11_face {v0 : Nat} {v1 : Int32} {v2 : Int32} {v3 : Int32} {v4 : Int32} {v5 : Int32} {v6 : Int32} {v7 : Int32} {Q : Int64 → HS → Prop} {S : HS} (hI : IV S) (o_v0 : ob S v0 11)     (hq : ∀ (r : Int64) (T : HS), IV T → Gr S T → FRI [(11, 0), (11, 1), (11, 2)] [] S T → Q r T) : P_X11_face v0 v1 v2 v3 v4 v5 v6 v7 Q S := by
  have g0 := gr_rf S
  have f0 := fri_rf [(11, 0), (11, 1), (11, 2)] [] S
  refine u_X11_face ?_
  refine u_X11_face_0 ?_
  refine ⟨o_v0, ?_⟩
  intro S1 eS1
  have hIn : IV S1 := by rw [eS1]; exact iv11_sI hI o_v0 (by decide) (nu_free (by decide))
  have hI := hIn
  have f0 := fr_I eS1 g0 f0 o_v0 (by decide)
  obtain ⟨kv2, hkv2⟩ : ∃ z : Int32, z = (0 : Int32) := ⟨_, rfl⟩
  have d_kv2 := rd_Is eS1 hkv2
  have g0 := gr_I eS1 g0
  have o_v0 := ob_I eS1 o_v0
  refine u_X11_in ?_
  refine u_X11_in_0 ?_
  refine ⟨fun c3 => ?_, fun c3 => ?_⟩
  · intro _ _
    refine ⟨fun c5 => ?_, fun c5 => absurd (show ¬ (0 : Int32) = 0 from c5) (by decide)⟩
    refine u_X11_face_30 ?_
    refine ⟨fun c6 => absurd (show (1 : Int32) ≤ 0 from c6) (by decide), fun c6 => ?_⟩
    refine ⟨o_v0, ?_⟩
    refine u_X11_refused ?_
    refine u_X11_refused_0 ?_
    refine ⟨o_v0, ?_⟩
    intro S7 eS7
    have hIn : IV S7 := by rw [eS7]; exact iv11_sI hI o_v0 (by decide) (nu_free (by decide))
    have hI := hIn
    have f0 := fr_I eS7 g0 f0 o_v0 (by decide)
    have d_kv2 := rd_Ij eS7 (by decide) d_kv2
    obtain ⟨kv8, hkv8⟩ : ∃ z : Int32, z = (1 : Int32) := ⟨_, rfl⟩
    have d_kv8 := rd_Is eS7 hkv8
    have g0 := gr_I eS7 g0
    have o_v0 := ob_I eS7 o_v0
    intro S9 eS9
    have hIn : IV S9 := by rw [eS9]; exact iv11_sI hI o_v0 (by decide) (nu_free (by decide))
    have hI := hIn
    have f0 := fr_I eS9 g0 f0 o_v0 (by decide)
    have d_kv2 := rd_Ij eS9 (by decide) d_kv2
    have d_kv8 := rd_Ij eS9 (by decide) d_kv8
    obtain ⟨kv10, hkv10⟩ : ∃ z : Int32, z = (-1 : Int32) := ⟨_, rfl⟩
    have d_kv10 := rd_Is eS9 hkv10
    have g0 := gr_I eS9 g0
    have o_v0 := ob_I eS9 o_v0
    intro _
    exact hq _ _ hI g0 f0
  · refine ⟨fun c12 => ?_, fun c12 => ?_⟩
    · intro _ _
      refine ⟨fun c14 => ?_, fun c14 => absurd (show ¬ (0 : Int32) = 0 from c14) (by decide)⟩
      refine u_X11_face_30 ?_
      refine ⟨fun c15 => absurd (show (1 : Int32) ≤ 0 from c15) (by decide), fun c15 => ?_⟩
      refine ⟨o_v0, ?_⟩
      refine u_X11_refused ?_
      refine u_X11_refused_0 ?_
      refine ⟨o_v0, ?_⟩
      intro S16 eS16
      have hIn : IV S16 := by rw [eS16]; exact iv11_sI hI o_v0 (by decide) (nu_free (by decide))
      have hI := hIn
      have f0 := fr_I eS16 g0 f0 o_v0 (by decide)
      have d_kv2 := rd_Ij eS16 (by decide) d_kv2
      obtain ⟨kv17, hkv17⟩ : ∃ z : Int32, z = (1 : Int32) := ⟨_, rfl⟩
      have d_kv17 := rd_Is eS16 hkv17
      have g0 := gr_I eS16 g0
      have o_v0 := ob_I eS16 o_v0
      intro S18 eS18
      have hIn : IV S18 := by rw [eS18]; exact iv11_sI hI o_v0 (by decide) (nu_free (by decide))
      have hI := hIn
      have f0 := fr_I eS18 g0 f0 o_v0 (by decide)
      have d_kv2 := rd_Ij eS18 (by decide) d_kv2
      have d_kv17 := rd_Ij eS18 (by decide) d_kv17
      obtain ⟨kv19, hkv19⟩ : ∃ z : Int32, z = (-1 : Int32) := ⟨_, rfl⟩
      have d_kv19 := rd_Is eS18 hkv19
      have g0 := gr_I eS18 g0
      have o_v0 := ob_I eS18 o_v0
      intro _
      exact hq _ _ hI g0 f0
    · intro _ _
      refine ⟨fun c22 => absurd (show (1 : Int32) = 0 from c22) (by decide), fun c22 => ?_⟩
      refine u_X11_refuses ?_
      refine u_X11_refuses_0 ?_
      refine ⟨o_v0, ?_⟩
      refine u_X11_isWalker ?_
      refine u_X11_isWalker_0 ?_
      refine ⟨o_v0, ?_⟩
      refine ⟨fun e24 => ?_, fun a23 ea23 => ?_⟩
      · intro _ _
        refine ⟨fun c26 => ?_, fun c26 => absurd (show ¬ (0 : Int32) = 0 from c26) (by decide)⟩
        intro _
        refine u_X11_face_30 ?_
        refine ⟨fun c28 => absurd (show (1 : Int32) ≤ 0 from c28) (by decide), fun c28 => ?_⟩
        refine ⟨o_v0, ?_⟩
        refine u_X11_refused ?_
        refine u_X11_refused_0 ?_
        refine ⟨o_v0, ?_⟩
        intro S29 eS29
        have hIn : IV S29 := by rw [eS29]; exact iv11_sI hI o_v0 (by decide) (nu_free (by decide))
        have hI := hIn
        have f0 := fr_I eS29 g0 f0 o_v0 (by decide)
        have d_kv2 := rd_Ij eS29 (by decide) d_kv2
        obtain ⟨kv30, hkv30⟩ : ∃ z : Int32, z = (1 : Int32) := ⟨_, rfl⟩
        have d_kv30 := rd_Is eS29 hkv30
        have g0 := gr_I eS29 g0
        have o_v0 := ob_I eS29 o_v0
        intro S31 eS31
        have hIn : IV S31 := by rw [eS31]; exact iv11_sI hI o_v0 (by decide) (nu_free (by decide))
        have hI := hIn
        have f0 := fr_I eS31 g0 f0 o_v0 (by decide)
        have d_kv2 := rd_Ij eS31 (by decide) d_kv2
        have d_kv30 := rd_Ij eS31 (by decide) d_kv30
        obtain ⟨kv32, hkv32⟩ : ∃ z : Int32, z = (-1 : Int32) := ⟨_, rfl⟩
        have d_kv32 := rd_Is eS31 hkv32
        have g0 := gr_I eS31 g0
        have o_v0 := ob_I eS31 o_v0
        intro _
        exact hq _ _ hI g0 f0
      · have o_a23 := ml_ob hI o_v0 ea23
        refine ⟨fun c34 => ?_, fun c34 => ?_⟩
        · intro _ _
          refine ⟨fun c36 => ?_, fun c36 => absurd (show ¬ (0 : Int32) = 0 from c36) (by decide)⟩
          intro _
          refine u_X11_face_30 ?_
          refine ⟨fun c38 => absurd (show (1 : Int32) ≤ 0 from c38) (by decide), fun c38 => ?_⟩
          refine ⟨o_v0, ?_⟩
          refine u_X11_refused ?_
          refine u_X11_refused_0 ?_
          refine ⟨o_v0, ?_⟩
          intro S39 eS39
          have hIn : IV S39 := by rw [eS39]; exact iv11_sI hI o_v0 (by decide) (nu_free (by decide))
          have hI := hIn
          have f0 := fr_I eS39 g0 f0 o_v0 (by decide)
          have d_kv2 := rd_Ij eS39 (by decide) d_kv2
          obtain ⟨kv40, hkv40⟩ : ∃ z : Int32, z = (1 : Int32) := ⟨_, rfl⟩
          have d_kv40 := rd_Is eS39 hkv40
          have ea23 := rf_I eS39 ea23
          have g0 := gr_I eS39 g0
          have o_a23 := ob_I eS39 o_a23
          have o_v0 := ob_I eS39 o_v0
          intro S41 eS41
          have hIn : IV S41 := by rw [eS41]; exact iv11_sI hI o_v0 (by decide) (nu_free (by decide))
          have hI := hIn
          have f0 := fr_I eS41 g0 f0 o_v0 (by decide)
          have d_kv2 := rd_Ij eS41 (by decide) d_kv2
          have d_kv40 := rd_Ij eS41 (by decide) d_kv40
          obtain ⟨kv42, hkv42⟩ : ∃ z : Int32, z = (-1 : Int32) := ⟨_, rfl⟩
          have d_kv42 := rd_Is eS41 hkv42
          have ea23 := rf_I eS41 ea23
          have g0 := gr_I eS41 g0
          have o_a23 := ob_I eS41 o_a23
          have o_v0 := ob_I eS41 o_v0
          intro _
          exact hq _ _ hI g0 f0
        · refine ⟨a23, ea23, ?_⟩
          refine ⟨o_a23, ?_⟩
          intro x45 ex45
          have r_x45 : (0 : Int32) ≤ x45 ∧ x45 ≤ (4 : Int32) := by rw [ex45]; exact nu 20 rfl hI o_a23
          have d_x45 := ex45
          refine ⟨fun c46 => ?_, fun c46 => ?_⟩
          · intro _ _
            refine ⟨fun c48 => ?_, fun c48 => absurd (show ¬ (0 : Int32) = 0 from c48) (by decide)⟩
            intro _
            refine u_X11_face_30 ?_
            refine ⟨fun c50 => absurd (show (1 : Int32) ≤ 0 from c50) (by decide), fun c50 => ?_⟩
            refine ⟨o_v0, ?_⟩
            refine u_X11_refused ?_
            refine u_X11_refused_0 ?_
            refine ⟨o_v0, ?_⟩
            intro S51 eS51
            have hIn : IV S51 := by rw [eS51]; exact iv11_sI hI o_v0 (by decide) (nu_free (by decide))
            have hI := hIn
            have f0 := fr_I eS51 g0 f0 o_v0 (by decide)
            have d_kv2 := rd_Ij eS51 (by decide) d_kv2
            have d_x45 := rd_Ik eS51 o_v0 o_a23 (by decide) d_x45
            obtain ⟨kv52, hkv52⟩ : ∃ z : Int32, z = (1 : Int32) := ⟨_, rfl⟩
            have d_kv52 := rd_Is eS51 hkv52
            have ea23 := rf_I eS51 ea23
            have g0 := gr_I eS51 g0
            have o_a23 := ob_I eS51 o_a23
            have o_v0 := ob_I eS51 o_v0
            intro S53 eS53
            have hIn : IV S53 := by rw [eS53]; exact iv11_sI hI o_v0 (by decide) (nu_free (by decide))
            have hI := hIn
            have f0 := fr_I eS53 g0 f0 o_v0 (by decide)
            have d_kv2 := rd_Ij eS53 (by decide) d_kv2
            have d_x45 := rd_Ik eS53 o_v0 o_a23 (by decide) d_x45
            have d_kv52 := rd_Ij eS53 (by decide) d_kv52
            obtain ⟨kv54, hkv54⟩ : ∃ z : Int32, z = (-1 : Int32) := ⟨_, rfl⟩
            have d_kv54 := rd_Is eS53 hkv54
            have ea23 := rf_I eS53 ea23
            have g0 := gr_I eS53 g0
            have o_a23 := ob_I eS53 o_a23
            have o_v0 := ob_I eS53 o_v0
            intro _
            exact hq _ _ hI g0 f0
          · intro _ _
            refine ⟨fun c57 => absurd (show (1 : Int32) = 0 from c57) (by decide), fun c57 => ?_⟩
            refine u_X11_isRoad ?_
            refine u_X11_isRoad_0 ?_
            refine ⟨o_v0, ?_⟩
            refine ⟨fun e59 => (nomatch (e59.symm.trans ea23)), fun a58 ea58 => ?_⟩
            obtain rfl : a23 = a58 := Option.some.inj (ea23.symm.trans ea58)
            refine ⟨fun c60 => ?_, fun c60 => ?_⟩
            · intro _ _
              refine ⟨fun c62 => ?_, fun c62 => absurd (show ¬ (0 : Int32) = 0 from c62) (by decide)⟩
              intro _
              refine u_X11_face_30 ?_
              refine ⟨fun c64 => absurd (show (1 : Int32) ≤ 0 from c64) (by decide), fun c64 => ?_⟩
              refine ⟨o_v0, ?_⟩
              refine u_X11_refused ?_
              refine u_X11_refused_0 ?_
              refine ⟨o_v0, ?_⟩
              intro S65 eS65
              have hIn : IV S65 := by rw [eS65]; exact iv11_sI hI o_v0 (by decide) (nu_free (by decide))
              have hI := hIn
              have f0 := fr_I eS65 g0 f0 o_v0 (by decide)
              have d_kv2 := rd_Ij eS65 (by decide) d_kv2
              have d_x45 := rd_Ik eS65 o_v0 o_a23 (by decide) d_x45
              obtain ⟨kv66, hkv66⟩ : ∃ z : Int32, z = (1 : Int32) := ⟨_, rfl⟩
              have d_kv66 := rd_Is eS65 hkv66
              have ea23 := rf_I eS65 ea23
              have g0 := gr_I eS65 g0
              have o_a23 := ob_I eS65 o_a23
              have o_v0 := ob_I eS65 o_v0
              intro S67 eS67
              have hIn : IV S67 := by rw [eS67]; exact iv11_sI hI o_v0 (by decide) (nu_free (by decide))
              have hI := hIn
              have f0 := fr_I eS67 g0 f0 o_v0 (by decide)
              have d_kv2 := rd_Ij eS67 (by decide) d_kv2
              have d_x45 := rd_Ik eS67 o_v0 o_a23 (by decide) d_x45
              have d_kv66 := rd_Ij eS67 (by decide) d_kv66
              obtain ⟨kv68, hkv68⟩ : ∃ z : Int32, z = (-1 : Int32) := ⟨_, rfl⟩
              have d_kv68 := rd_Is eS67 hkv68
              have ea23 := rf_I eS67 ea23
              have g0 := gr_I eS67 g0
              have o_a23 := ob_I eS67 o_a23
              have o_v0 := ob_I eS67 o_v0
              intro _
              exact hq _ _ hI g0 f0
            · refine ⟨a23, ea23, ?_⟩
              refine ⟨o_a23, ?_⟩
              intro x71 ex71
              have r_x71 : (0 : Int32) ≤ x71 ∧ x71 ≤ (12 : Int32) := by rw [ex71]; exact nu 19 rfl hI o_a23
              have d_x71 := ex71
              refine ⟨fun c72 => ?_, fun c72 => ?_⟩
              · intro _ _
                refine ⟨fun c74 => ?_, fun c74 => absurd (show ¬ (0 : Int32) = 0 from c74) (by decide)⟩
                intro _
                refine u_X11_face_30 ?_
                refine ⟨fun c76 => absurd (show (1 : Int32) ≤ 0 from c76) (by decide), fun c76 => ?_⟩
                refine ⟨o_v0, ?_⟩
                refine u_X11_refused ?_
                refine u_X11_refused_0 ?_
                refine ⟨o_v0, ?_⟩
                intro S77 eS77
                have hIn : IV S77 := by rw [eS77]; exact iv11_sI hI o_v0 (by decide) (nu_free (by decide))
                have hI := hIn
                have f0 := fr_I eS77 g0 f0 o_v0 (by decide)
                have d_kv2 := rd_Ij eS77 (by decide) d_kv2
                have d_x45 := rd_Ik eS77 o_v0 o_a23 (by decide) d_x45
                have d_x71 := rd_Ik eS77 o_v0 o_a23 (by decide) d_x71
                obtain ⟨kv78, hkv78⟩ : ∃ z : Int32, z = (1 : Int32) := ⟨_, rfl⟩
                have d_kv78 := rd_Is eS77 hkv78
                have ea23 := rf_I eS77 ea23
                have g0 := gr_I eS77 g0
                have o_a23 := ob_I eS77 o_a23
                have o_v0 := ob_I eS77 o_v0
                intro S79 eS79
                have hIn : IV S79 := by rw [eS79]; exact iv11_sI hI o_v0 (by decide) (nu_free (by decide))
                have hI := hIn
                have f0 := fr_I eS79 g0 f0 o_v0 (by decide)
                have d_kv2 := rd_Ij eS79 (by decide) d_kv2
                have d_x45 := rd_Ik eS79 o_v0 o_a23 (by decide) d_x45
                have d_x71 := rd_Ik eS79 o_v0 o_a23 (by decide) d_x71
                have d_kv78 := rd_Ij eS79 (by decide) d_kv78
                obtain ⟨kv80, hkv80⟩ : ∃ z : Int32, z = (-1 : Int32) := ⟨_, rfl⟩
                have d_kv80 := rd_Is eS79 hkv80
                have ea23 := rf_I eS79 ea23
                have g0 := gr_I eS79 g0
                have o_a23 := ob_I eS79 o_a23
                have o_v0 := ob_I eS79 o_v0
                intro _
                exact hq _ _ hI g0 f0
              · intro _ _
                refine ⟨fun c83 => absurd (show (1 : Int32) = 0 from c83) (by decide), fun c83 => ?_⟩
                refine u_X11_in ?_
                refine u_X11_in_0 ?_
                refine ⟨fun c84 => ?_, fun c84 => ?_⟩
                · intro _ _
                  refine ⟨fun c86 => ?_, fun c86 => absurd (show ¬ (0 : Int32) = 0 from c86) (by decide)⟩
                  intro _
                  refine u_X11_face_30 ?_
                  refine ⟨fun c88 => absurd (show (1 : Int32) ≤ 0 from c88) (by decide), fun c88 => ?_⟩
                  refine ⟨o_v0, ?_⟩
                  refine u_X11_refused ?_
                  refine u_X11_refused_0 ?_
                  refine ⟨o_v0, ?_⟩
                  intro S89 eS89
                  have hIn : IV S89 := by rw [eS89]; exact iv11_sI hI o_v0 (by decide) (nu_free (by decide))
                  have hI := hIn
                  have f0 := fr_I eS89 g0 f0 o_v0 (by decide)
                  have d_kv2 := rd_Ij eS89 (by decide) d_kv2
                  have d_x45 := rd_Ik eS89 o_v0 o_a23 (by decide) d_x45
                  have d_x71 := rd_Ik eS89 o_v0 o_a23 (by decide) d_x71
                  obtain ⟨kv90, hkv90⟩ : ∃ z : Int32, z = (1 : Int32) := ⟨_, rfl⟩
                  have d_kv90 := rd_Is eS89 hkv90
                  have ea23 := rf_I eS89 ea23
                  have g0 := gr_I eS89 g0
                  have o_a23 := ob_I eS89 o_a23
                  have o_v0 := ob_I eS89 o_v0
                  intro S91 eS91
                  have hIn : IV S91 := by rw [eS91]; exact iv11_sI hI o_v0 (by decide) (nu_free (by decide))
                  have hI := hIn
                  have f0 := fr_I eS91 g0 f0 o_v0 (by decide)
                  have d_kv2 := rd_Ij eS91 (by decide) d_kv2
                  have d_x45 := rd_Ik eS91 o_v0 o_a23 (by decide) d_x45
                  have d_x71 := rd_Ik eS91 o_v0 o_a23 (by decide) d_x71
                  have d_kv90 := rd_Ij eS91 (by decide) d_kv90
                  obtain ⟨kv92, hkv92⟩ : ∃ z : Int32, z = (-1 : Int32) := ⟨_, rfl⟩
                  have d_kv92 := rd_Is eS91 hkv92
                  have ea23 := rf_I eS91 ea23
                  have g0 := gr_I eS91 g0
                  have o_a23 := ob_I eS91 o_a23
                  have o_v0 := ob_I eS91 o_v0
                  intro _
                  exact hq _ _ hI g0 f0
                · refine ⟨fun c94 => ?_, fun c94 => ?_⟩
                  · intro _ _
                    refine ⟨fun c96 => ?_, fun c96 => absurd (show ¬ (0 : Int32) = 0 from c96) (by decide)⟩
                    intro _
                    refine u_X11_face_30 ?_
                    refine ⟨fun c98 => absurd (show (1 : Int32) ≤ 0 from c98) (by decide), fun c98 => ?_⟩
                    refine ⟨o_v0, ?_⟩
                    refine u_X11_refused ?_
                    refine u_X11_refused_0 ?_
                    refine ⟨o_v0, ?_⟩
                    intro S99 eS99
                    have hIn : IV S99 := by rw [eS99]; exact iv11_sI hI o_v0 (by decide) (nu_free (by decide))
                    have hI := hIn
                    have f0 := fr_I eS99 g0 f0 o_v0 (by decide)
                    have d_kv2 := rd_Ij eS99 (by decide) d_kv2
                    have d_x45 := rd_Ik eS99 o_v0 o_a23 (by decide) d_x45
                    have d_x71 := rd_Ik eS99 o_v0 o_a23 (by decide) d_x71
                    obtain ⟨kv100, hkv100⟩ : ∃ z : Int32, z = (1 : Int32) := ⟨_, rfl⟩
                    have d_kv100 := rd_Is eS99 hkv100
                    have ea23 := rf_I eS99 ea23
                    have g0 := gr_I eS99 g0
                    have o_a23 := ob_I eS99 o_a23
                    have o_v0 := ob_I eS99 o_v0
                    intro S101 eS101
                    have hIn : IV S101 := by rw [eS101]; exact iv11_sI hI o_v0 (by decide) (nu_free (by decide))
                    have hI := hIn
                    have f0 := fr_I eS101 g0 f0 o_v0 (by decide)
                    have d_kv2 := rd_Ij eS101 (by decide) d_kv2
                    have d_x45 := rd_Ik eS101 o_v0 o_a23 (by decide) d_x45
                    have d_x71 := rd_Ik eS101 o_v0 o_a23 (by decide) d_x71
                    have d_kv100 := rd_Ij eS101 (by decide) d_kv100
                    obtain ⟨kv102, hkv102⟩ : ∃ z : Int32, z = (-1 : Int32) := ⟨_, rfl⟩
                    have d_kv102 := rd_Is eS101 hkv102
                    have ea23 := rf_I eS101 ea23
                    have g0 := gr_I eS101 g0
                    have o_a23 := ob_I eS101 o_a23
                    have o_v0 := ob_I eS101 o_v0
                    intro _
                    exact hq _ _ hI g0 f0
                  · intro _ _
                    refine ⟨fun c105 => absurd (show (1 : Int32) = 0 from c105) (by decide), fun c105 => ?_⟩
                    refine u_X11_isHour ?_
                    refine u_X11_isHour_0 ?_
                    refine ⟨o_v0, ?_⟩
                    refine ⟨fun e107 => (nomatch (e107.symm.trans ea23)), fun a106 ea106 => ?_⟩
                    obtain rfl : a23 = a106 := Option.some.inj (ea23.symm.trans ea106)
                    refine ⟨fun c108 => ?_, fun c108 => ?_⟩
                    · intro _ _
                      refine ⟨fun c110 => absurd (show ¬ (0 : Int32) = 0 from c110) (by decide), fun c110 => ?_⟩
                      intro _
                      refine u_X11_face_30 ?_
                      refine ⟨fun c112 => absurd (show (1 : Int32) ≤ 0 from c112) (by decide), fun c112 => ?_⟩
                      refine ⟨o_v0, ?_⟩
                      refine u_X11_refused ?_
                      refine u_X11_refused_0 ?_
                      refine ⟨o_v0, ?_⟩
                      intro S113 eS113
                      have hIn : IV S113 := by rw [eS113]; exact iv11_sI hI o_v0 (by decide) (nu_free (by decide))
                      have hI := hIn
                      have f0 := fr_I eS113 g0 f0 o_v0 (by decide)
                      have d_kv2 := rd_Ij eS113 (by decide) d_kv2
                      have d_x45 := rd_Ik eS113 o_v0 o_a23 (by decide) d_x45
                      have d_x71 := rd_Ik eS113 o_v0 o_a23 (by decide) d_x71
                      obtain ⟨kv114, hkv114⟩ : ∃ z : Int32, z = (1 : Int32) := ⟨_, rfl⟩
                      have d_kv114 := rd_Is eS113 hkv114
                      have ea23 := rf_I eS113 ea23
                      have g0 := gr_I eS113 g0
                      have o_a23 := ob_I eS113 o_a23
                      have o_v0 := ob_I eS113 o_v0
                      intro S115 eS115
                      have hIn : IV S115 := by rw [eS115]; exact iv11_sI hI o_v0 (by decide) (nu_free (by decide))
                      have hI := hIn
                      have f0 := fr_I eS115 g0 f0 o_v0 (by decide)
                      have d_kv2 := rd_Ij eS115 (by decide) d_kv2
                      have d_x45 := rd_Ik eS115 o_v0 o_a23 (by decide) d_x45
                      have d_x71 := rd_Ik eS115 o_v0 o_a23 (by decide) d_x71
                      have d_kv114 := rd_Ij eS115 (by decide) d_kv114
                      obtain ⟨kv116, hkv116⟩ : ∃ z : Int32, z = (-1 : Int32) := ⟨_, rfl⟩
                      have d_kv116 := rd_Is eS115 hkv116
                      have ea23 := rf_I eS115 ea23
                      have g0 := gr_I eS115 g0
                      have o_a23 := ob_I eS115 o_a23
                      have o_v0 := ob_I eS115 o_v0
                      intro _
                      exact hq _ _ hI g0 f0
                    · refine ⟨a23, ea23, ?_⟩
                      refine ⟨o_a23, ?_⟩
                      intro x119 ex119
                      have r_x119 : (0 : Int32) ≤ x119 ∧ x119 ≤ (6 : Int32) := by rw [ex119]; exact nu 17 rfl hI o_a23
                      have d_x119 := ex119
                      refine ⟨fun c120 => ?_, fun c120 => ?_⟩
                      · intro _ _
                        refine ⟨fun c122 => absurd (show ¬ (0 : Int32) = 0 from c122) (by decide), fun c122 => ?_⟩
                        intro _
                        refine u_X11_face_30 ?_
                        refine ⟨fun c124 => absurd (show (1 : Int32) ≤ 0 from c124) (by decide), fun c124 => ?_⟩
                        refine ⟨o_v0, ?_⟩
                        refine u_X11_refused ?_
                        refine u_X11_refused_0 ?_
                        refine ⟨o_v0, ?_⟩
                        intro S125 eS125
                        have hIn : IV S125 := by rw [eS125]; exact iv11_sI hI o_v0 (by decide) (nu_free (by decide))
                        have hI := hIn
                        have f0 := fr_I eS125 g0 f0 o_v0 (by decide)
                        have d_kv2 := rd_Ij eS125 (by decide) d_kv2
                        have d_x45 := rd_Ik eS125 o_v0 o_a23 (by decide) d_x45
                        have d_x71 := rd_Ik eS125 o_v0 o_a23 (by decide) d_x71
                        have d_x119 := rd_Ik eS125 o_v0 o_a23 (by decide) d_x119
                        obtain ⟨kv126, hkv126⟩ : ∃ z : Int32, z = (1 : Int32) := ⟨_, rfl⟩
                        have d_kv126 := rd_Is eS125 hkv126
                        have ea23 := rf_I eS125 ea23
                        have g0 := gr_I eS125 g0
                        have o_a23 := ob_I eS125 o_a23
                        have o_v0 := ob_I eS125 o_v0
                        intro S127 eS127
                        have hIn : IV S127 := by rw [eS127]; exact iv11_sI hI o_v0 (by decide) (nu_free (by decide))
                        have hI := hIn
                        have f0 := fr_I eS127 g0 f0 o_v0 (by decide)
                        have d_kv2 := rd_Ij eS127 (by decide) d_kv2
                        have d_x45 := rd_Ik eS127 o_v0 o_a23 (by decide) d_x45
                        have d_x71 := rd_Ik eS127 o_v0 o_a23 (by decide) d_x71
                        have d_x119 := rd_Ik eS127 o_v0 o_a23 (by decide) d_x119
                        have d_kv126 := rd_Ij eS127 (by decide) d_kv126
                        obtain ⟨kv128, hkv128⟩ : ∃ z : Int32, z = (-1 : Int32) := ⟨_, rfl⟩
                        have d_kv128 := rd_Is eS127 hkv128
                        have ea23 := rf_I eS127 ea23
                        have g0 := gr_I eS127 g0
                        have o_a23 := ob_I eS127 o_a23
                        have o_v0 := ob_I eS127 o_v0
                        intro _
                        exact hq _ _ hI g0 f0
                      · intro _ _
                        refine ⟨fun c131 => ?_, fun c131 => absurd (show (1 : Int32) = 0 from c131) (by decide)⟩
                        refine u_X11_isSpeed ?_
                        refine u_X11_isSpeed_0 ?_
                        refine ⟨o_v0, ?_⟩
                        refine ⟨a23, ea23, ?_⟩
                        refine ⟨o_a23, ?_⟩
                        obtain ⟨a133, ea133, o_a133, l_a133⟩ := shl 46 rfl hI o_a23
                        refine ⟨a133, ea133, ?_⟩
                        refine ⟨o_a133, ?_⟩
                        refine ⟨(vin l_a133 (m := 4) (by decide) (qm607 c3 c12 c34 r_x45 c46 c60 r_x71 c72 c84 c94 c108 r_x119 c120)), ?_⟩
                        intro x134 ex134
                        have gy_x134 : 0 ≤ v1 ∧ v1 < fI S1 a23 4 := by rw [← d_x45]; exact (qm608 c3 c12 c34 r_x45 c46 c60 r_x71 c72 c84 c94 c108 r_x119 c120)
                        have g_x134 : (1 : Int32) ≤ x134 ∧ x134 ≤ (9 : Int32) := by rw [ex134]; exact wg_at (ml_wg hI o_v0 ea23) 3 rfl gy_x134 ea133
                        refine ⟨a23, ea23, ?_⟩
                        refine ⟨o_a23, ?_⟩
                        obtain ⟨a136, ea136, o_a136, l_a136⟩ := shl 47 rfl hI o_a23
                        refine ⟨a136, ea136, ?_⟩
                        refine ⟨o_a136, ?_⟩
                        refine ⟨(vin l_a136 (m := 4) (by decide) (qm607 c3 c12 c34 r_x45 c46 c60 r_x71 c72 c84 c94 c108 r_x119 c120)), ?_⟩
                        intro x137 ex137
                        have gy_x137 : 0 ≤ v1 ∧ v1 < fI S1 a23 4 := by rw [← d_x45]; exact (qm608 c3 c12 c34 r_x45 c46 c60 r_x71 c72 c84 c94 c108 r_x119 c120)
                        have g_x137 : (0 : Int32) ≤ x137 ∧ x137 ≤ (9 : Int32) := by rw [ex137]; exact wg_at (ml_wg hI o_v0 ea23) 4 rfl gy_x137 ea136
                        refine u_X11_in ?_
                        refine u_X11_in_0 ?_
                        refine ⟨fun c138 => ?_, fun c138 => ?_⟩
                        · intro _ _
                          refine ⟨(Or.inl rfl), ?_⟩
                          intro _ _
                          refine ⟨fun c141 => ?_, fun c141 => absurd (show ¬ (0 : Int32) = 0 from c141) (by decide)⟩
                          intro _
                          refine u_X11_face_30 ?_
                          refine ⟨fun c143 => absurd (show (2 : Int32) ≤ 0 from c143) (by decide), fun c143 => ?_⟩
                          refine ⟨o_v0, ?_⟩
                          refine u_X11_refused ?_
                          refine u_X11_refused_0 ?_
                          refine ⟨o_v0, ?_⟩
                          intro S144 eS144
                          have hIn : IV S144 := by rw [eS144]; exact iv11_sI hI o_v0 (by decide) (nu_free (by decide))
                          have hI := hIn
                          have f0 := fr_I eS144 g0 f0 o_v0 (by decide)
                          have d_kv2 := rd_Ij eS144 (by decide) d_kv2
                          have d_x45 := rd_Ik eS144 o_v0 o_a23 (by decide) d_x45
                          have d_x71 := rd_Ik eS144 o_v0 o_a23 (by decide) d_x71
                          have d_x119 := rd_Ik eS144 o_v0 o_a23 (by decide) d_x119
                          obtain ⟨kv145, hkv145⟩ : ∃ z : Int32, z = (2 : Int32) := ⟨_, rfl⟩
                          have d_kv145 := rd_Is eS144 hkv145
                          have ea23 := rf_I eS144 ea23
                          have ea133 := rf_I eS144 ea133
                          have ea136 := rf_I eS144 ea136
                          have l_a133 := ln_I eS144 l_a133
                          have l_a136 := ln_I eS144 l_a136
                          have g0 := gr_I eS144 g0
                          have o_a133 := ob_I eS144 o_a133
                          have o_a136 := ob_I eS144 o_a136
                          have o_a23 := ob_I eS144 o_a23
                          have o_v0 := ob_I eS144 o_v0
                          intro S146 eS146
                          have hIn : IV S146 := by rw [eS146]; exact iv11_sI hI o_v0 (by decide) (nu_free (by decide))
                          have hI := hIn
                          have f0 := fr_I eS146 g0 f0 o_v0 (by decide)
                          have d_kv2 := rd_Ij eS146 (by decide) d_kv2
                          have d_x45 := rd_Ik eS146 o_v0 o_a23 (by decide) d_x45
                          have d_x71 := rd_Ik eS146 o_v0 o_a23 (by decide) d_x71
                          have d_x119 := rd_Ik eS146 o_v0 o_a23 (by decide) d_x119
                          have d_kv145 := rd_Ij eS146 (by decide) d_kv145
                          obtain ⟨kv147, hkv147⟩ : ∃ z : Int32, z = (-1 : Int32) := ⟨_, rfl⟩
                          have d_kv147 := rd_Is eS146 hkv147
                          have ea23 := rf_I eS146 ea23
                          have ea133 := rf_I eS146 ea133
                          have ea136 := rf_I eS146 ea136
                          have l_a133 := ln_I eS146 l_a133
                          have l_a136 := ln_I eS146 l_a136
                          have g0 := gr_I eS146 g0
                          have o_a133 := ob_I eS146 o_a133
                          have o_a136 := ob_I eS146 o_a136
                          have o_a23 := ob_I eS146 o_a23
                          have o_v0 := ob_I eS146 o_v0
                          intro _
                          exact hq _ _ hI g0 f0
                        · refine ⟨fun c149 => ?_, fun c149 => ?_⟩
                          · intro _ _
                            refine ⟨(Or.inl rfl), ?_⟩
                            intro _ _
                            refine ⟨fun c152 => ?_, fun c152 => absurd (show ¬ (0 : Int32) = 0 from c152) (by decide)⟩
                            intro _
                            refine u_X11_face_30 ?_
                            refine ⟨fun c154 => absurd (show (2 : Int32) ≤ 0 from c154) (by decide), fun c154 => ?_⟩
                            refine ⟨o_v0, ?_⟩
                            refine u_X11_refused ?_
                            refine u_X11_refused_0 ?_
                            refine ⟨o_v0, ?_⟩
                            intro S155 eS155
                            have hIn : IV S155 := by rw [eS155]; exact iv11_sI hI o_v0 (by decide) (nu_free (by decide))
                            have hI := hIn
                            have f0 := fr_I eS155 g0 f0 o_v0 (by decide)
                            have d_kv2 := rd_Ij eS155 (by decide) d_kv2
                            have d_x45 := rd_Ik eS155 o_v0 o_a23 (by decide) d_x45
                            have d_x71 := rd_Ik eS155 o_v0 o_a23 (by decide) d_x71
                            have d_x119 := rd_Ik eS155 o_v0 o_a23 (by decide) d_x119
                            obtain ⟨kv156, hkv156⟩ : ∃ z : Int32, z = (2 : Int32) := ⟨_, rfl⟩
                            have d_kv156 := rd_Is eS155 hkv156
                            have ea23 := rf_I eS155 ea23
                            have ea133 := rf_I eS155 ea133
                            have ea136 := rf_I eS155 ea136
                            have l_a133 := ln_I eS155 l_a133
                            have l_a136 := ln_I eS155 l_a136
                            have g0 := gr_I eS155 g0
                            have o_a133 := ob_I eS155 o_a133
                            have o_a136 := ob_I eS155 o_a136
                            have o_a23 := ob_I eS155 o_a23
                            have o_v0 := ob_I eS155 o_v0
                            intro S157 eS157
                            have hIn : IV S157 := by rw [eS157]; exact iv11_sI hI o_v0 (by decide) (nu_free (by decide))
                            have hI := hIn
                            have f0 := fr_I eS157 g0 f0 o_v0 (by decide)
                            have d_kv2 := rd_Ij eS157 (by decide) d_kv2
                            have d_x45 := rd_Ik eS157 o_v0 o_a23 (by decide) d_x45
                            have d_x71 := rd_Ik eS157 o_v0 o_a23 (by decide) d_x71
                            have d_x119 := rd_Ik eS157 o_v0 o_a23 (by decide) d_x119
                            have d_kv156 := rd_Ij eS157 (by decide) d_kv156
                            obtain ⟨kv158, hkv158⟩ : ∃ z : Int32, z = (-1 : Int32) := ⟨_, rfl⟩
                            have d_kv158 := rd_Is eS157 hkv158
                            have ea23 := rf_I eS157 ea23
                            have ea133 := rf_I eS157 ea133
                            have ea136 := rf_I eS157 ea136
                            have l_a133 := ln_I eS157 l_a133
                            have l_a136 := ln_I eS157 l_a136
                            have g0 := gr_I eS157 g0
                            have o_a133 := ob_I eS157 o_a133
                            have o_a136 := ob_I eS157 o_a136
                            have o_a23 := ob_I eS157 o_a23
                            have o_v0 := ob_I eS157 o_v0
                            intro _
                            exact hq _ _ hI g0 f0
                          · intro _ _
                            refine ⟨(Or.inr rfl), ?_⟩
                            intro _ _
                            refine ⟨fun c162 => absurd (show (1 : Int32) = 0 from c162) (by decide), fun c162 => ?_⟩
                            intro _
                            refine u_X11_face_30 ?_
                            refine ⟨fun c164 => ?_, fun c164 => absurd (show ¬ (0 : Int32) ≤ 0 from c164) (by decide)⟩
                            refine ⟨o_v0, ?_⟩
                            refine m_X11_partsOf hI o_v0 (qm609 c3 c12 c34 r_x45 c46 c60 r_x71 c72 c84 c94 c108 r_x119 c120 g_x134 g_x137 c138 c149) (qm610 c3 c12 c34 r_x45 c46 c60 r_x71 c72 c84 c94 c108 r_x119 c120 g_x134 g_x137 c138 c149) (qm611 c3 c12 c34 r_x45 c46 c60 r_x71 c72 c84 c94 c108 r_x119 c120 g_x134 g_x137 c138 c149) (qm612 c3 c12 c34 r_x45 c46 c60 r_x71 c72 c84 c94 c108 r_x119 c120 g_x134 g_x137 c138 c149) ⟨_, ea23⟩ (fun x165 S166 hI2 g167 p_x165 => ?_)
                            subst p_x165
                            intro _
                            refine m_X11_told hI o_v0 (qm613 c3 c12 c34 r_x45 c46 c60 r_x71 c72 c84 c94 c108 r_x119 c120 g_x134 g_x137 c138 c149) (fun x169 S170 hJ g171 fc172 => ?_)
                            have hI := hJ
                            have l_a133 := (gr_len g171 o_a133).trans l_a133
                            have l_a136 := (gr_len g171 o_a136).trans l_a136
                            have d_kv2 := d_kv2.trans (fri_at fc172 (by decide) (by decide) o_v0).symm
                            have d_x45 := d_x45.trans (fri_at fc172 (by decide) (by decide) o_a23).symm
                            have d_x71 := d_x71.trans (fri_at fc172 (by decide) (by decide) o_a23).symm
                            have d_x119 := d_x119.trans (fri_at fc172 (by decide) (by decide) o_a23).symm
                            have ea23 := (frr_at fc172 (by decide) (by decide) o_v0).trans ea23
                            have ea133 := (frr_at fc172 (by decide) (by decide) o_a23).trans ea133
                            have ea136 := (frr_at fc172 (by decide) (by decide) o_a23).trans ea136
                            have f0 := fri_tr (S := S1) g0 f0 fc172 (by decide) (by decide)
                            have o_a133 := gr_ob g171 o_a133
                            have o_a136 := gr_ob g171 o_a136
                            have o_a23 := gr_ob g171 o_a23
                            have o_v0 := gr_ob g171 o_v0
                            have g0 := gr_tr (T := S1) g0 g171
                            intro _
                            exact hq _ _ hI g0 f0
set_option maxHeartbeats 4000000 in
set_option maxRecDepth 20000 in
theorem m_X11_fault {v0 : Nat} {Q : Int32 → HS → Prop} {S : HS} (hI : IV S) (o_v0 : ob S v0 11)     (hq : ∀ (r : Int32) (T : HS), IV T → Gr S T → FRI [(11, 0)] [] S T → Q r T) : P_X11_fault v0 Q S := by
  have g0 := gr_rf S
  have f0 := fri_rf [(11, 0)] [] S
  refine u_X11_fault ?_
  refine u_X11_fault_0 ?_
  refine ⟨o_v0, ?_⟩
  intro S1 eS1
  have hIn : IV S1 := by rw [eS1]; exact iv11_sI hI o_v0 (by decide) (nu_free (by decide))
  have hI := hIn
  have f0 := fr_I eS1 g0 f0 o_v0 (by decide)
  obtain ⟨kv2, hkv2⟩ : ∃ z : Int32, z = (0 : Int32) := ⟨_, rfl⟩
  have d_kv2 := rd_Is eS1 hkv2
  have g0 := gr_I eS1 g0
  have o_v0 := ob_I eS1 o_v0
  intro x3 ex3
  have d_x3 := ex3
  exact hq _ _ hI g0 f0
set_option maxHeartbeats 4000000 in
set_option maxRecDepth 20000 in
theorem m_X11_feed {v0 : Nat} {v1 : Int32} {v2 : Int32} {v3 : Int32} {v4 : Int32} {v5 : Int32} {Q : Int32 → HS → Prop} {S : HS} (hI : IV S) (o_v0 : ob S v0 11)     (hq : ∀ (r : Int32) (T : HS), IV T → Gr S T → FRI [(11, 0), (11, 6)] [] S T → ((900 < fI S v0 6 + 20 → r = -1 ∧ fI T v0 6 = fI S v0 6) ∧ (fI S v0 6 + 20 ≤ 900 → r = fI T v0 6 ∧ fI T v0 6 = fI S v0 6 + 20)) → Q r T) : P_X11_feed v0 v1 v2 v3 v4 v5 Q S := by
  have g0 := gr_rf S
  have f0 := fri_rf [(11, 0), (11, 6)] [] S
  obtain ⟨kv1, d_kv1⟩ : ∃ z : Int32, z = fI S v0 6 := ⟨_, rfl⟩
  have r_kv1 : (0 : Int32) ≤ kv1 ∧ kv1 ≤ (900 : Int32) := by rw [d_kv1]; exact nu 23 rfl hI o_v0
  have di_6 := d_kv1
  refine u_X11_feed ?_
  refine u_X11_feed_0 ?_
  refine ⟨o_v0, ?_⟩
  intro S2 eS2
  have hIn : IV S2 := by rw [eS2]; exact iv11_sI hI o_v0 (by decide) (nu_free (by decide))
  have hI := hIn
  have f0 := fr_I eS2 g0 f0 o_v0 (by decide)
  have d_kv1 := rd_Ij eS2 (by decide) d_kv1
  obtain ⟨kv3, hkv3⟩ : ∃ z : Int32, z = (0 : Int32) := ⟨_, rfl⟩
  have d_kv3 := rd_Is eS2 hkv3
  have g0 := gr_I eS2 g0
  have o_v0 := ob_I eS2 o_v0
  intro x4 ex4
  have r_x4 : (0 : Int32) ≤ x4 ∧ x4 ≤ (900 : Int32) := by rw [ex4]; exact nu 23 rfl hI o_v0
  have q_x4 : x4 = kv1 := ex4.trans d_kv1.symm
  have d_x4 := ex4
  refine ⟨fun c5 => ?_, fun c5 => ?_⟩
  · refine i_X11_feed_23 (fun (y0 : Nat) (y1 : Int32) (y2 : Int32) (y3 : Int32) (y4 : Int32) (y5 : Int32) (y6 : Int32) (Z : HS) => ((20 : Int32).toInt - y6.toInt).toNat) (fun (y0 : Nat) (y1 : Int32) (y2 : Int32) (y3 : Int32) (y4 : Int32) (y5 : Int32) (y6 : Int32) (Z : HS) => (IV Z) ∧ (Gr S2 Z) ∧ (FRI [(11, 6)] [] S2 Z) ∧ (v0 = y0) ∧ (v1 = y1) ∧ (v2 = y2) ∧ (v3 = y3) ∧ (v4 = y4) ∧ (v5 = y5) ∧ (0 ≤ y6 ∧ y6 ≤ 20) ∧ (fI Z v0 6 = kv1 + y6)) ?_ _ _ _ _ _ _ _ _ ⟨hI, (gr_rf _), (fri_rf _ _ _), rfl, rfl, rfl, rfl, rfl, rfl, (qm440 r_kv1 r_x4 q_x4 c5), (by rw [← d_x4]; exact (qm441 r_kv1 r_x4 q_x4 c5))⟩
    intro w10 w12 w14 w16 w18 w20 w22 S7 X23 ⟨hI, gL8, fL9, q11, q13, q15, q17, q19, q21, i1u6, k1u6⟩ ih24
    subst q11
    subst q13
    subst q15
    subst q17
    subst q19
    subst q21
    have d_kv3 := d_kv3.trans (fri_at fL9 (by decide) (by decide) o_v0).symm
    have f0 := fri_tr (S := S2) g0 f0 fL9 (by decide) (by decide)
    have o_v0 := gr_ob gL8 o_v0
    have g0 := gr_tr (T := S2) g0 gL8
    obtain ⟨kv25, d_kv25⟩ : ∃ z : Int32, z = fI S7 v0 6 := ⟨_, rfl⟩
    have p_k1u6 : kv25 = kv1 + w22 := by rw [d_kv25]; exact k1u6
    refine u_X11_feed_23 ?_
    refine ⟨fun c26 => ?_, fun c26 => ?_⟩
    · refine ⟨o_v0, ?_⟩
      intro x27 ex27
      have r_x27 : (0 : Int32) ≤ x27 ∧ x27 ≤ (900 : Int32) := by rw [ex27]; exact nu 23 rfl hI o_v0
      have q_x27 : x27 = kv25 := ex27.trans d_kv25.symm
      have d_x27 := ex27
      obtain ⟨ra28, hra28⟩ : ∃ z : Int32, z = x27 := ⟨_, rfl⟩
      exact hq _ _ hI g0 f0 (by have t : (900 < kv1 + 20 → ra28 = -1 ∧ x27 = kv1) ∧ (kv1 + 20 ≤ 900 → ra28 = x27 ∧ x27 = kv1 + 20) := (qm442 r_kv1 r_x4 q_x4 c5 i1u6 p_k1u6 c26 r_x27 q_x27 hra28); rw [di_6, d_x27, hra28] at t; exact t)
    · refine ⟨fun c29 => ?_, fun c29 => ?_⟩
      · refine ⟨fun c30 => ?_, fun c30 => ?_⟩
        · refine ⟨fun c31 => ?_, fun c31 => ?_⟩
          · refine ⟨fun c32 => ?_, fun c32 => ?_⟩
            · refine u_X11_feed_76 ?_
              refine ⟨o_v0, ?_⟩
              obtain ⟨a33, ea33, o_a33, l_a33⟩ := shl 53 rfl hI o_v0
              refine ⟨a33, ea33, ?_⟩
              intro x34 ex34
              have r_x34 : (0 : Int32) ≤ x34 ∧ x34 ≤ (900 : Int32) := by rw [ex34]; exact nu 23 rfl hI o_v0
              have q_x34 : x34 = kv25 := ex34.trans d_kv25.symm
              have d_x34 := ex34
              intro x35 ex35
              refine ⟨o_a33, ?_⟩
              intro x36 ex36
              have i37 : vp_in x34 (hN _ a33) := (vin l_a33 (m := 900) (by decide) (qm443 r_kv1 r_x4 q_x4 c5 i1u6 p_k1u6 c26 c29 c30 c31 c32 r_x34 q_x34 ex35 ex36))
              refine ⟨i37, ?_⟩
              intro S38 eS38
              have hIn : IV S38 := by rw [eS38]; exact iv11_aI hI o_v0 ea33 o_a33 (by decide)
              have hI := hIn
              have f0 := fr_A eS38 g0 f0 o_a33 (by decide)
              have fL9 := fr_A eS38 gL8 fL9 o_a33 (by decide)
              have d_kv3 := rd_Ik eS38 o_a33 o_v0 (by decide) d_kv3
              have d_x34 := rd_Ik eS38 o_a33 o_v0 (by decide) d_x34
              have ea33 := rf_I eS38 ea33
              have l_a33 := ln_I eS38 l_a33
              have g0 := gr_I eS38 g0
              have gL8 := gr_I eS38 gL8
              have o_a33 := ob_I eS38 o_a33
              have o_v0 := ob_I eS38 o_v0
              intro x39 ex39
              have r_x39 : (0 : Int32) ≤ x39 ∧ x39 ≤ (900 : Int32) := by rw [ex39]; exact nu 23 rfl hI o_v0
              have q_x39 : x39 = x34 := ex39.trans d_x34.symm
              have d_x39 := ex39
              intro x40 ex40
              intro S41 eS41
              have hIn : IV S41 := by rw [eS41]; exact iv11_sI hI o_v0 (by decide) (nu_one (lo := (0 : Int32)) (hi := (900 : Int32)) (by decide) (qm444 r_kv1 r_x4 q_x4 c5 i1u6 p_k1u6 c26 c29 c30 c31 c32 r_x34 q_x34 ex35 ex36 r_x39 q_x39 ex40))
              have hI := hIn
              have f0 := fr_I eS41 g0 f0 o_v0 (by decide)
              have fL9 := fr_I eS41 gL8 fL9 o_v0 (by decide)
              have d_kv3 := rd_Ij eS41 (by decide) d_kv3
              have d_x40 := rd_Is eS41 (rfl : x40 = x40)
              have ea33 := rf_I eS41 ea33
              have l_a33 := ln_I eS41 l_a33
              have g0 := gr_I eS41 g0
              have gL8 := gr_I eS41 gL8
              have o_a33 := ob_I eS41 o_a33
              have o_v0 := ob_I eS41 o_v0
              intro x42 ex42
              exact ih24 _ _ _ _ _ _ _ _ ⟨hI, gL8, fL9, rfl, rfl, rfl, rfl, rfl, rfl, (qm445 r_kv1 r_x4 q_x4 c5 i1u6 p_k1u6 c26 c29 c30 c31 c32 r_x34 q_x34 ex35 ex36 r_x39 q_x39 ex40 ex42), (by rw [← d_x40]; exact (qm446 r_kv1 r_x4 q_x4 c5 i1u6 p_k1u6 c26 c29 c30 c31 c32 r_x34 q_x34 ex35 ex36 r_x39 q_x39 ex40 ex42))⟩ (mu_up (qm447 r_kv1 r_x4 q_x4 c5 i1u6 p_k1u6 c26 c29 c30 c31 c32 r_x34 q_x34 ex35 ex36 r_x39 q_x39 ex40 ex42) (qm448 r_kv1 r_x4 q_x4 c5 i1u6 p_k1u6 c26 c29 c30 c31 c32 r_x34 q_x34 ex35 ex36 r_x39 q_x39 ex40 ex42))
            · refine u_X11_feed_76 ?_
              refine ⟨o_v0, ?_⟩
              obtain ⟨a43, ea43, o_a43, l_a43⟩ := shl 53 rfl hI o_v0
              refine ⟨a43, ea43, ?_⟩
              intro x44 ex44
              have r_x44 : (0 : Int32) ≤ x44 ∧ x44 ≤ (900 : Int32) := by rw [ex44]; exact nu 23 rfl hI o_v0
              have q_x44 : x44 = kv25 := ex44.trans d_kv25.symm
              have d_x44 := ex44
              intro x45 ex45
              refine ⟨o_a43, ?_⟩
              intro x46 ex46
              have i47 : vp_in x44 (hN _ a43) := (vin l_a43 (m := 900) (by decide) (qm449 r_kv1 r_x4 q_x4 c5 i1u6 p_k1u6 c26 c29 c30 c31 c32 r_x44 q_x44 ex45 ex46))
              refine ⟨i47, ?_⟩
              intro S48 eS48
              have hIn : IV S48 := by rw [eS48]; exact iv11_aI hI o_v0 ea43 o_a43 (by decide)
              have hI := hIn
              have f0 := fr_A eS48 g0 f0 o_a43 (by decide)
              have fL9 := fr_A eS48 gL8 fL9 o_a43 (by decide)
              have d_kv3 := rd_Ik eS48 o_a43 o_v0 (by decide) d_kv3
              have d_x44 := rd_Ik eS48 o_a43 o_v0 (by decide) d_x44
              have ea43 := rf_I eS48 ea43
              have l_a43 := ln_I eS48 l_a43
              have g0 := gr_I eS48 g0
              have gL8 := gr_I eS48 gL8
              have o_a43 := ob_I eS48 o_a43
              have o_v0 := ob_I eS48 o_v0
              intro x49 ex49
              have r_x49 : (0 : Int32) ≤ x49 ∧ x49 ≤ (900 : Int32) := by rw [ex49]; exact nu 23 rfl hI o_v0
              have q_x49 : x49 = x44 := ex49.trans d_x44.symm
              have d_x49 := ex49
              intro x50 ex50
              intro S51 eS51
              have hIn : IV S51 := by rw [eS51]; exact iv11_sI hI o_v0 (by decide) (nu_one (lo := (0 : Int32)) (hi := (900 : Int32)) (by decide) (qm450 r_kv1 r_x4 q_x4 c5 i1u6 p_k1u6 c26 c29 c30 c31 c32 r_x44 q_x44 ex45 ex46 r_x49 q_x49 ex50))
              have hI := hIn
              have f0 := fr_I eS51 g0 f0 o_v0 (by decide)
              have fL9 := fr_I eS51 gL8 fL9 o_v0 (by decide)
              have d_kv3 := rd_Ij eS51 (by decide) d_kv3
              have d_x50 := rd_Is eS51 (rfl : x50 = x50)
              have ea43 := rf_I eS51 ea43
              have l_a43 := ln_I eS51 l_a43
              have g0 := gr_I eS51 g0
              have gL8 := gr_I eS51 gL8
              have o_a43 := ob_I eS51 o_a43
              have o_v0 := ob_I eS51 o_v0
              intro x52 ex52
              exact ih24 _ _ _ _ _ _ _ _ ⟨hI, gL8, fL9, rfl, rfl, rfl, rfl, rfl, rfl, (qm451 r_kv1 r_x4 q_x4 c5 i1u6 p_k1u6 c26 c29 c30 c31 c32 r_x44 q_x44 ex45 ex46 r_x49 q_x49 ex50 ex52), (by rw [← d_x50]; exact (qm452 r_kv1 r_x4 q_x4 c5 i1u6 p_k1u6 c26 c29 c30 c31 c32 r_x44 q_x44 ex45 ex46 r_x49 q_x49 ex50 ex52))⟩ (mu_up (qm453 r_kv1 r_x4 q_x4 c5 i1u6 p_k1u6 c26 c29 c30 c31 c32 r_x44 q_x44 ex45 ex46 r_x49 q_x49 ex50 ex52) (qm454 r_kv1 r_x4 q_x4 c5 i1u6 p_k1u6 c26 c29 c30 c31 c32 r_x44 q_x44 ex45 ex46 r_x49 q_x49 ex50 ex52))
          · refine u_X11_feed_76 ?_
            refine ⟨o_v0, ?_⟩
            obtain ⟨a53, ea53, o_a53, l_a53⟩ := shl 53 rfl hI o_v0
            refine ⟨a53, ea53, ?_⟩
            intro x54 ex54
            have r_x54 : (0 : Int32) ≤ x54 ∧ x54 ≤ (900 : Int32) := by rw [ex54]; exact nu 23 rfl hI o_v0
            have q_x54 : x54 = kv25 := ex54.trans d_kv25.symm
            have d_x54 := ex54
            intro x55 ex55
            refine ⟨o_a53, ?_⟩
            intro x56 ex56
            have i57 : vp_in x54 (hN _ a53) := (vin l_a53 (m := 900) (by decide) (qm455 r_kv1 r_x4 q_x4 c5 i1u6 p_k1u6 c26 c29 c30 c31 r_x54 q_x54 ex55 ex56))
            refine ⟨i57, ?_⟩
            intro S58 eS58
            have hIn : IV S58 := by rw [eS58]; exact iv11_aI hI o_v0 ea53 o_a53 (by decide)
            have hI := hIn
            have f0 := fr_A eS58 g0 f0 o_a53 (by decide)
            have fL9 := fr_A eS58 gL8 fL9 o_a53 (by decide)
            have d_kv3 := rd_Ik eS58 o_a53 o_v0 (by decide) d_kv3
            have d_x54 := rd_Ik eS58 o_a53 o_v0 (by decide) d_x54
            have ea53 := rf_I eS58 ea53
            have l_a53 := ln_I eS58 l_a53
            have g0 := gr_I eS58 g0
            have gL8 := gr_I eS58 gL8
            have o_a53 := ob_I eS58 o_a53
            have o_v0 := ob_I eS58 o_v0
            intro x59 ex59
            have r_x59 : (0 : Int32) ≤ x59 ∧ x59 ≤ (900 : Int32) := by rw [ex59]; exact nu 23 rfl hI o_v0
            have q_x59 : x59 = x54 := ex59.trans d_x54.symm
            have d_x59 := ex59
            intro x60 ex60
            intro S61 eS61
            have hIn : IV S61 := by rw [eS61]; exact iv11_sI hI o_v0 (by decide) (nu_one (lo := (0 : Int32)) (hi := (900 : Int32)) (by decide) (qm456 r_kv1 r_x4 q_x4 c5 i1u6 p_k1u6 c26 c29 c30 c31 r_x54 q_x54 ex55 ex56 r_x59 q_x59 ex60))
            have hI := hIn
            have f0 := fr_I eS61 g0 f0 o_v0 (by decide)
            have fL9 := fr_I eS61 gL8 fL9 o_v0 (by decide)
            have d_kv3 := rd_Ij eS61 (by decide) d_kv3
            have d_x60 := rd_Is eS61 (rfl : x60 = x60)
            have ea53 := rf_I eS61 ea53
            have l_a53 := ln_I eS61 l_a53
            have g0 := gr_I eS61 g0
            have gL8 := gr_I eS61 gL8
            have o_a53 := ob_I eS61 o_a53
            have o_v0 := ob_I eS61 o_v0
            intro x62 ex62
            exact ih24 _ _ _ _ _ _ _ _ ⟨hI, gL8, fL9, rfl, rfl, rfl, rfl, rfl, rfl, (qm457 r_kv1 r_x4 q_x4 c5 i1u6 p_k1u6 c26 c29 c30 c31 r_x54 q_x54 ex55 ex56 r_x59 q_x59 ex60 ex62), (by rw [← d_x60]; exact (qm458 r_kv1 r_x4 q_x4 c5 i1u6 p_k1u6 c26 c29 c30 c31 r_x54 q_x54 ex55 ex56 r_x59 q_x59 ex60 ex62))⟩ (mu_up (qm459 r_kv1 r_x4 q_x4 c5 i1u6 p_k1u6 c26 c29 c30 c31 r_x54 q_x54 ex55 ex56 r_x59 q_x59 ex60 ex62) (qm460 r_kv1 r_x4 q_x4 c5 i1u6 p_k1u6 c26 c29 c30 c31 r_x54 q_x54 ex55 ex56 r_x59 q_x59 ex60 ex62))
        · refine u_X11_feed_76 ?_
          refine ⟨o_v0, ?_⟩
          obtain ⟨a63, ea63, o_a63, l_a63⟩ := shl 53 rfl hI o_v0
          refine ⟨a63, ea63, ?_⟩
          intro x64 ex64
          have r_x64 : (0 : Int32) ≤ x64 ∧ x64 ≤ (900 : Int32) := by rw [ex64]; exact nu 23 rfl hI o_v0
          have q_x64 : x64 = kv25 := ex64.trans d_kv25.symm
          have d_x64 := ex64
          intro x65 ex65
          refine ⟨o_a63, ?_⟩
          intro x66 ex66
          have i67 : vp_in x64 (hN _ a63) := (vin l_a63 (m := 900) (by decide) (qm461 r_kv1 r_x4 q_x4 c5 i1u6 p_k1u6 c26 c29 c30 r_x64 q_x64 ex65 ex66))
          refine ⟨i67, ?_⟩
          intro S68 eS68
          have hIn : IV S68 := by rw [eS68]; exact iv11_aI hI o_v0 ea63 o_a63 (by decide)
          have hI := hIn
          have f0 := fr_A eS68 g0 f0 o_a63 (by decide)
          have fL9 := fr_A eS68 gL8 fL9 o_a63 (by decide)
          have d_kv3 := rd_Ik eS68 o_a63 o_v0 (by decide) d_kv3
          have d_x64 := rd_Ik eS68 o_a63 o_v0 (by decide) d_x64
          have ea63 := rf_I eS68 ea63
          have l_a63 := ln_I eS68 l_a63
          have g0 := gr_I eS68 g0
          have gL8 := gr_I eS68 gL8
          have o_a63 := ob_I eS68 o_a63
          have o_v0 := ob_I eS68 o_v0
          intro x69 ex69
          have r_x69 : (0 : Int32) ≤ x69 ∧ x69 ≤ (900 : Int32) := by rw [ex69]; exact nu 23 rfl hI o_v0
          have q_x69 : x69 = x64 := ex69.trans d_x64.symm
          have d_x69 := ex69
          intro x70 ex70
          intro S71 eS71
          have hIn : IV S71 := by rw [eS71]; exact iv11_sI hI o_v0 (by decide) (nu_one (lo := (0 : Int32)) (hi := (900 : Int32)) (by decide) (qm462 r_kv1 r_x4 q_x4 c5 i1u6 p_k1u6 c26 c29 c30 r_x64 q_x64 ex65 ex66 r_x69 q_x69 ex70))
          have hI := hIn
          have f0 := fr_I eS71 g0 f0 o_v0 (by decide)
          have fL9 := fr_I eS71 gL8 fL9 o_v0 (by decide)
          have d_kv3 := rd_Ij eS71 (by decide) d_kv3
          have d_x70 := rd_Is eS71 (rfl : x70 = x70)
          have ea63 := rf_I eS71 ea63
          have l_a63 := ln_I eS71 l_a63
          have g0 := gr_I eS71 g0
          have gL8 := gr_I eS71 gL8
          have o_a63 := ob_I eS71 o_a63
          have o_v0 := ob_I eS71 o_v0
          intro x72 ex72
          exact ih24 _ _ _ _ _ _ _ _ ⟨hI, gL8, fL9, rfl, rfl, rfl, rfl, rfl, rfl, (qm463 r_kv1 r_x4 q_x4 c5 i1u6 p_k1u6 c26 c29 c30 r_x64 q_x64 ex65 ex66 r_x69 q_x69 ex70 ex72), (by rw [← d_x70]; exact (qm464 r_kv1 r_x4 q_x4 c5 i1u6 p_k1u6 c26 c29 c30 r_x64 q_x64 ex65 ex66 r_x69 q_x69 ex70 ex72))⟩ (mu_up (qm465 r_kv1 r_x4 q_x4 c5 i1u6 p_k1u6 c26 c29 c30 r_x64 q_x64 ex65 ex66 r_x69 q_x69 ex70 ex72) (qm466 r_kv1 r_x4 q_x4 c5 i1u6 p_k1u6 c26 c29 c30 r_x64 q_x64 ex65 ex66 r_x69 q_x69 ex70 ex72))
      · refine u_X11_feed_76 ?_
        refine ⟨o_v0, ?_⟩
        obtain ⟨a73, ea73, o_a73, l_a73⟩ := shl 53 rfl hI o_v0
        refine ⟨a73, ea73, ?_⟩
        intro x74 ex74
        have r_x74 : (0 : Int32) ≤ x74 ∧ x74 ≤ (900 : Int32) := by rw [ex74]; exact nu 23 rfl hI o_v0
        have q_x74 : x74 = kv25 := ex74.trans d_kv25.symm
        have d_x74 := ex74
        intro x75 ex75
        refine ⟨o_a73, ?_⟩
        intro x76 ex76
        have i77 : vp_in x74 (hN _ a73) := (vin l_a73 (m := 900) (by decide) (qm467 r_kv1 r_x4 q_x4 c5 i1u6 p_k1u6 c26 c29 r_x74 q_x74 ex75 ex76))
        refine ⟨i77, ?_⟩
        intro S78 eS78
        have hIn : IV S78 := by rw [eS78]; exact iv11_aI hI o_v0 ea73 o_a73 (by decide)
        have hI := hIn
        have f0 := fr_A eS78 g0 f0 o_a73 (by decide)
        have fL9 := fr_A eS78 gL8 fL9 o_a73 (by decide)
        have d_kv3 := rd_Ik eS78 o_a73 o_v0 (by decide) d_kv3
        have d_x74 := rd_Ik eS78 o_a73 o_v0 (by decide) d_x74
        have ea73 := rf_I eS78 ea73
        have l_a73 := ln_I eS78 l_a73
        have g0 := gr_I eS78 g0
        have gL8 := gr_I eS78 gL8
        have o_a73 := ob_I eS78 o_a73
        have o_v0 := ob_I eS78 o_v0
        intro x79 ex79
        have r_x79 : (0 : Int32) ≤ x79 ∧ x79 ≤ (900 : Int32) := by rw [ex79]; exact nu 23 rfl hI o_v0
        have q_x79 : x79 = x74 := ex79.trans d_x74.symm
        have d_x79 := ex79
        intro x80 ex80
        intro S81 eS81
        have hIn : IV S81 := by rw [eS81]; exact iv11_sI hI o_v0 (by decide) (nu_one (lo := (0 : Int32)) (hi := (900 : Int32)) (by decide) (qm468 r_kv1 r_x4 q_x4 c5 i1u6 p_k1u6 c26 c29 r_x74 q_x74 ex75 ex76 r_x79 q_x79 ex80))
        have hI := hIn
        have f0 := fr_I eS81 g0 f0 o_v0 (by decide)
        have fL9 := fr_I eS81 gL8 fL9 o_v0 (by decide)
        have d_kv3 := rd_Ij eS81 (by decide) d_kv3
        have d_x80 := rd_Is eS81 (rfl : x80 = x80)
        have ea73 := rf_I eS81 ea73
        have l_a73 := ln_I eS81 l_a73
        have g0 := gr_I eS81 g0
        have gL8 := gr_I eS81 gL8
        have o_a73 := ob_I eS81 o_a73
        have o_v0 := ob_I eS81 o_v0
        intro x82 ex82
        exact ih24 _ _ _ _ _ _ _ _ ⟨hI, gL8, fL9, rfl, rfl, rfl, rfl, rfl, rfl, (qm469 r_kv1 r_x4 q_x4 c5 i1u6 p_k1u6 c26 c29 r_x74 q_x74 ex75 ex76 r_x79 q_x79 ex80 ex82), (by rw [← d_x80]; exact (qm470 r_kv1 r_x4 q_x4 c5 i1u6 p_k1u6 c26 c29 r_x74 q_x74 ex75 ex76 r_x79 q_x79 ex80 ex82))⟩ (mu_up (qm471 r_kv1 r_x4 q_x4 c5 i1u6 p_k1u6 c26 c29 r_x74 q_x74 ex75 ex76 r_x79 q_x79 ex80 ex82) (qm472 r_kv1 r_x4 q_x4 c5 i1u6 p_k1u6 c26 c29 r_x74 q_x74 ex75 ex76 r_x79 q_x79 ex80 ex82))
  · exact hq _ _ hI g0 f0 (by have t : (900 < kv1 + 20 → (-1 : Int32) = -1 ∧ x4 = kv1) ∧ (kv1 + 20 ≤ 900 → (-1 : Int32) = x4 ∧ x4 = kv1 + 20) := (qm473 r_kv1 r_x4 q_x4 c5); rw [di_6, d_x4] at t; exact t)
