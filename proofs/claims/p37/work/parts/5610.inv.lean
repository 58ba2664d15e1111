set_option maxHeartbeats 4000000 in
set_option maxRecDepth 20000 in
theorem m_X11_saves {v0 : Nat} {v1 : Int32} {v2 : Int32} {v3 : Int32} {v4 : Int32} {v5 : Int32} {Q : Int64 → HS → Prop} {S : HS} (hI : IV S) (o_v0 : ob S v0 11)     (hq : ∀ (r : Int64) (T : HS), IV T → Gr S T → FRI [(11, 0), (11, 1), (11, 2)] [] S T → Q r T) : P_X11_saves v0 v1 v2 v3 v4 v5 Q S := by
  have g0 := gr_rf S
  have f0 := fri_rf [(11, 0), (11, 1), (11, 2)] [] S
  refine u_X11_saves ?_
  refine u_X11_saves_0 ?_
  refine ⟨o_v0, ?_⟩
  intro S1 eS1
  have hIn : IV S1 := by rw [eS1]; exact iv11_sI hI o_v0 (by decide) (nu_free (by decide))
  have hI := hIn
  have f0 := fr_I eS1 g0 f0 o_v0 (by decide)
  obtain ⟨kv2, hkv2⟩ : ∃ z : Int32, z = (0 : Int32) := ⟨_, rfl⟩
  have d_kv2 := rd_Is eS1 hkv2
  have g0 := gr_I eS1 g0
  have o_v0 := ob_I eS1 o_v0
  refine u_X11_isWalker ?_
  refine u_X11_isWalker_0 ?_
  refine ⟨o_v0, ?_⟩
  refine ⟨fun e4 => ?_, fun a3 ea3 => ?_⟩
  · intro _ _
    refine ⟨fun c6 => ?_, fun c6 => absurd (show ¬ (0 : Int32) = 0 from c6) (by decide)⟩
    refine u_X11_saves_39 ?_
    refine ⟨o_v0, ?_⟩
    refine u_X11_refused ?_
    refine u_X11_refused_0 ?_
    refine ⟨o_v0, ?_⟩
    intro S7 eS7
    have hIn : IV S7 := by rw [eS7]; exact iv11_sI hI o_v0 (by decide) (nu_free (by decide))
    have hI := hIn
    have f0 := fr_I eS7 g0 f0 o_v0 (by decide)
    have d_kv2 := rd_Ij eS7 (by decide) d_kv2
    obtain ⟨kv8, hkv8⟩ : ∃ z : Int32, z = (1 : Int32) := ⟨_, rfl⟩
    have d_kv8 := rd_Is eS7 hkv8
    have g0 := gr_I eS7 g0
    have o_v0 := ob_I eS7 o_v0
    intro S9 eS9
    have hIn : IV S9 := by rw [eS9]; exact iv11_sI hI o_v0 (by decide) (nu_free (by decide))
    have hI := hIn
    have f0 := fr_I eS9 g0 f0 o_v0 (by decide)
    have d_kv2 := rd_Ij eS9 (by decide) d_kv2
    have d_kv8 := rd_Ij eS9 (by decide) d_kv8
    obtain ⟨kv10, hkv10⟩ : ∃ z : Int32, z = (-1 : Int32) := ⟨_, rfl⟩
    have d_kv10 := rd_Is eS9 hkv10
    have g0 := gr_I eS9 g0
    have o_v0 := ob_I eS9 o_v0
    intro _
    exact hq _ _ hI g0 f0
  · have o_a3 := ml_ob hI o_v0 ea3
    refine ⟨fun c12 => ?_, fun c12 => ?_⟩
    · intro _ _
      refine ⟨fun c14 => ?_, fun c14 => absurd (show ¬ (0 : Int32) = 0 from c14) (by decide)⟩
      refine u_X11_saves_39 ?_
      refine ⟨o_v0, ?_⟩
      refine u_X11_refused ?_
      refine u_X11_refused_0 ?_
      refine ⟨o_v0, ?_⟩
      intro S15 eS15
      have hIn : IV S15 := by rw [eS15]; exact iv11_sI hI o_v0 (by decide) (nu_free (by decide))
      have hI := hIn
      have f0 := fr_I eS15 g0 f0 o_v0 (by decide)
      have d_kv2 := rd_Ij eS15 (by decide) d_kv2
      obtain ⟨kv16, hkv16⟩ : ∃ z : Int32, z = (1 : Int32) := ⟨_, rfl⟩
      have d_kv16 := rd_Is eS15 hkv16
      have ea3 := rf_I eS15 ea3
      have g0 := gr_I eS15 g0
      have o_a3 := ob_I eS15 o_a3
      have o_v0 := ob_I eS15 o_v0
      intro S17 eS17
      have hIn : IV S17 := by rw [eS17]; exact iv11_sI hI o_v0 (by decide) (nu_free (by decide))
      have hI := hIn
      have f0 := fr_I eS17 g0 f0 o_v0 (by decide)
      have d_kv2 := rd_Ij eS17 (by decide) d_kv2
      have d_kv16 := rd_Ij eS17 (by decide) d_kv16
      obtain ⟨kv18, hkv18⟩ : ∃ z : Int32, z = (-1 : Int32) := ⟨_, rfl⟩
      have d_kv18 := rd_Is eS17 hkv18
      have ea3 := rf_I eS17 ea3
      have g0 := gr_I eS17 g0
      have o_a3 := ob_I eS17 o_a3
      have o_v0 := ob_I eS17 o_v0
      intro _
      exact hq _ _ hI g0 f0
    · refine ⟨a3, ea3, ?_⟩
      refine ⟨o_a3, ?_⟩
      intro x21 ex21
      have r_x21 : (0 : Int32) ≤ x21 ∧ x21 ≤ (4 : Int32) := by rw [ex21]; exact nu 20 rfl hI o_a3
      have d_x21 := ex21
      refine ⟨fun c22 => ?_, fun c22 => ?_⟩
      · intro _ _
        refine ⟨fun c24 => ?_, fun c24 => absurd (show ¬ (0 : Int32) = 0 from c24) (by decide)⟩
        refine u_X11_saves_39 ?_
        refine ⟨o_v0, ?_⟩
        refine u_X11_refused ?_
        refine u_X11_refused_0 ?_
        refine ⟨o_v0, ?_⟩
        intro S25 eS25
        have hIn : IV S25 := by rw [eS25]; exact iv11_sI hI o_v0 (by decide) (nu_free (by decide))
        have hI := hIn
        have f0 := fr_I eS25 g0 f0 o_v0 (by decide)
        have d_kv2 := rd_Ij eS25 (by decide) d_kv2
        have d_x21 := rd_Ik eS25 o_v0 o_a3 (by decide) d_x21
        obtain ⟨kv26, hkv26⟩ : ∃ z : Int32, z = (1 : Int32) := ⟨_, rfl⟩
        have d_kv26 := rd_Is eS25 hkv26
        have ea3 := rf_I eS25 ea3
        have g0 := gr_I eS25 g0
        have o_a3 := ob_I eS25 o_a3
        have o_v0 := ob_I eS25 o_v0
        intro S27 eS27
        have hIn : IV S27 := by rw [eS27]; exact iv11_sI hI o_v0 (by decide) (nu_free (by decide))
        have hI := hIn
        have f0 := fr_I eS27 g0 f0 o_v0 (by decide)
        have d_kv2 := rd_Ij eS27 (by decide) d_kv2
        have d_x21 := rd_Ik eS27 o_v0 o_a3 (by decide) d_x21
        have d_kv26 := rd_Ij eS27 (by decide) d_kv26
        obtain ⟨kv28, hkv28⟩ : ∃ z : Int32, z = (-1 : Int32) := ⟨_, rfl⟩
        have d_kv28 := rd_Is eS27 hkv28
        have ea3 := rf_I eS27 ea3
        have g0 := gr_I eS27 g0
        have o_a3 := ob_I eS27 o_a3
        have o_v0 := ob_I eS27 o_v0
        intro _
        exact hq _ _ hI g0 f0
      · intro _ _
        refine ⟨fun c31 => absurd (show (1 : Int32) = 0 from c31) (by decide), fun c31 => ?_⟩
        refine u_X11_isRoad ?_
        refine u_X11_isRoad_0 ?_
        refine ⟨o_v0, ?_⟩
        refine ⟨fun e33 => (nomatch (e33.symm.trans ea3)), fun a32 ea32 => ?_⟩
        obtain rfl : a3 = a32 := Option.some.inj (ea3.symm.trans ea32)
        refine ⟨fun c34 => ?_, fun c34 => ?_⟩
        · intro _ _
          refine ⟨fun c36 => ?_, fun c36 => absurd (show ¬ (0 : Int32) = 0 from c36) (by decide)⟩
          refine u_X11_saves_39 ?_
          refine ⟨o_v0, ?_⟩
          refine u_X11_refused ?_
          refine u_X11_refused_0 ?_
          refine ⟨o_v0, ?_⟩
          intro S37 eS37
          have hIn : IV S37 := by rw [eS37]; exact iv11_sI hI o_v0 (by decide) (nu_free (by decide))
          have hI := hIn
          have f0 := fr_I eS37 g0 f0 o_v0 (by decide)
          have d_kv2 := rd_Ij eS37 (by decide) d_kv2
          have d_x21 := rd_Ik eS37 o_v0 o_a3 (by decide) d_x21
          obtain ⟨kv38, hkv38⟩ : ∃ z : Int32, z = (1 : Int32) := ⟨_, rfl⟩
          have d_kv38 := rd_Is eS37 hkv38
          have ea3 := rf_I eS37 ea3
          have g0 := gr_I eS37 g0
          have o_a3 := ob_I eS37 o_a3
          have o_v0 := ob_I eS37 o_v0
          intro S39 eS39
          have hIn : IV S39 := by rw [eS39]; exact iv11_sI hI o_v0 (by decide) (nu_free (by decide))
          have hI := hIn
          have f0 := fr_I eS39 g0 f0 o_v0 (by decide)
          have d_kv2 := rd_Ij eS39 (by decide) d_kv2
          have d_x21 := rd_Ik eS39 o_v0 o_a3 (by decide) d_x21
          have d_kv38 := rd_Ij eS39 (by decide) d_kv38
          obtain ⟨kv40, hkv40⟩ : ∃ z : Int32, z = (-1 : Int32) := ⟨_, rfl⟩
          have d_kv40 := rd_Is eS39 hkv40
          have ea3 := rf_I eS39 ea3
          have g0 := gr_I eS39 g0
          have o_a3 := ob_I eS39 o_a3
          have o_v0 := ob_I eS39 o_v0
          intro _
          exact hq _ _ hI g0 f0
        · refine ⟨a3, ea3, ?_⟩
          refine ⟨o_a3, ?_⟩
          intro x43 ex43
          have r_x43 : (0 : Int32) ≤ x43 ∧ x43 ≤ (12 : Int32) := by rw [ex43]; exact nu 19 rfl hI o_a3
          have d_x43 := ex43
          refine ⟨fun c44 => ?_, fun c44 => ?_⟩
          · intro _ _
            refine ⟨fun c46 => ?_, fun c46 => absurd (show ¬ (0 : Int32) = 0 from c46) (by decide)⟩
            refine u_X11_saves_39 ?_
            refine ⟨o_v0, ?_⟩
            refine u_X11_refused ?_
            refine u_X11_refused_0 ?_
            refine ⟨o_v0, ?_⟩
            intro S47 eS47
            have hIn : IV S47 := by rw [eS47]; exact iv11_sI hI o_v0 (by decide) (nu_free (by decide))
            have hI := hIn
            have f0 := fr_I eS47 g0 f0 o_v0 (by decide)
            have d_kv2 := rd_Ij eS47 (by decide) d_kv2
            have d_x21 := rd_Ik eS47 o_v0 o_a3 (by decide) d_x21
            have d_x43 := rd_Ik eS47 o_v0 o_a3 (by decide) d_x43
            obtain ⟨kv48, hkv48⟩ : ∃ z : Int32, z = (1 : Int32) := ⟨_, rfl⟩
            have d_kv48 := rd_Is eS47 hkv48
            have ea3 := rf_I eS47 ea3
            have g0 := gr_I eS47 g0
            have o_a3 := ob_I eS47 o_a3
            have o_v0 := ob_I eS47 o_v0
            intro S49 eS49
            have hIn : IV S49 := by rw [eS49]; exact iv11_sI hI o_v0 (by decide) (nu_free (by decide))
            have hI := hIn
            have f0 := fr_I eS49 g0 f0 o_v0 (by decide)
            have d_kv2 := rd_Ij eS49 (by decide) d_kv2
            have d_x21 := rd_Ik eS49 o_v0 o_a3 (by decide) d_x21
            have d_x43 := rd_Ik eS49 o_v0 o_a3 (by decide) d_x43
            have d_kv48 := rd_Ij eS49 (by decide) d_kv48
            obtain ⟨kv50, hkv50⟩ : ∃ z : Int32, z = (-1 : Int32) := ⟨_, rfl⟩
            have d_kv50 := rd_Is eS49 hkv50
            have ea3 := rf_I eS49 ea3
            have g0 := gr_I eS49 g0
            have o_a3 := ob_I eS49 o_a3
            have o_v0 := ob_I eS49 o_v0
            intro _
            exact hq _ _ hI g0 f0
          · intro _ _
            refine ⟨fun c53 => absurd (show (1 : Int32) = 0 from c53) (by decide), fun c53 => ?_⟩
            refine u_X11_in ?_
            refine u_X11_in_0 ?_
            refine ⟨fun c54 => ?_, fun c54 => ?_⟩
            · intro _ _
              refine ⟨fun c56 => ?_, fun c56 => absurd (show ¬ (0 : Int32) = 0 from c56) (by decide)⟩
              refine u_X11_saves_39 ?_
              refine ⟨o_v0, ?_⟩
              refine u_X11_refused ?_
              refine u_X11_refused_0 ?_
              refine ⟨o_v0, ?_⟩
              intro S57 eS57
              have hIn : IV S57 := by rw [eS57]; exact iv11_sI hI o_v0 (by decide) (nu_free (by decide))
              have hI := hIn
              have f0 := fr_I eS57 g0 f0 o_v0 (by decide)
              have d_kv2 := rd_Ij eS57 (by decide) d_kv2
              have d_x21 := rd_Ik eS57 o_v0 o_a3 (by decide) d_x21
              have d_x43 := rd_Ik eS57 o_v0 o_a3 (by decide) d_x43
              obtain ⟨kv58, hkv58⟩ : ∃ z : Int32, z = (1 : Int32) := ⟨_, rfl⟩
              have d_kv58 := rd_Is eS57 hkv58
              have ea3 := rf_I eS57 ea3
              have g0 := gr_I eS57 g0
              have o_a3 := ob_I eS57 o_a3
              have o_v0 := ob_I eS57 o_v0
              intro S59 eS59
              have hIn : IV S59 := by rw [eS59]; exact iv11_sI hI o_v0 (by decide) (nu_free (by decide))
              have hI := hIn
              have f0 := fr_I eS59 g0 f0 o_v0 (by decide)
              have d_kv2 := rd_Ij eS59 (by decide) d_kv2
              have d_x21 := rd_Ik eS59 o_v0 o_a3 (by decide) d_x21
              have d_x43 := rd_Ik eS59 o_v0 o_a3 (by decide) d_x43
              have d_kv58 := rd_Ij eS59 (by decide) d_kv58
              obtain ⟨kv60, hkv60⟩ : ∃ z : Int32, z = (-1 : Int32) := ⟨_, rfl⟩
              have d_kv60 := rd_Is eS59 hkv60
              have ea3 := rf_I eS59 ea3
              have g0 := gr_I eS59 g0
              have o_a3 := ob_I eS59 o_a3
              have o_v0 := ob_I eS59 o_v0
              intro _
              exact hq _ _ hI g0 f0
            · refine ⟨fun c62 => ?_, fun c62 => ?_⟩
              · intro _ _
                refine ⟨fun c64 => ?_, fun c64 => absurd (show ¬ (0 : Int32) = 0 from c64) (by decide)⟩
                refine u_X11_saves_39 ?_
                refine ⟨o_v0, ?_⟩
                refine u_X11_refused ?_
                refine u_X11_refused_0 ?_
                refine ⟨o_v0, ?_⟩
                intro S65 eS65
                have hIn : IV S65 := by rw [eS65]; exact iv11_sI hI o_v0 (by decide) (nu_free (by decide))
                have hI := hIn
                have f0 := fr_I eS65 g0 f0 o_v0 (by decide)
                have d_kv2 := rd_Ij eS65 (by decide) d_kv2
                have d_x21 := rd_Ik eS65 o_v0 o_a3 (by decide) d_x21
                have d_x43 := rd_Ik eS65 o_v0 o_a3 (by decide) d_x43
                obtain ⟨kv66, hkv66⟩ : ∃ z : Int32, z = (1 : Int32) := ⟨_, rfl⟩
                have d_kv66 := rd_Is eS65 hkv66
                have ea3 := rf_I eS65 ea3
                have g0 := gr_I eS65 g0
                have o_a3 := ob_I eS65 o_a3
                have o_v0 := ob_I eS65 o_v0
                intro S67 eS67
                have hIn : IV S67 := by rw [eS67]; exact iv11_sI hI o_v0 (by decide) (nu_free (by decide))
                have hI := hIn
                have f0 := fr_I eS67 g0 f0 o_v0 (by decide)
                have d_kv2 := rd_Ij eS67 (by decide) d_kv2
                have d_x21 := rd_Ik eS67 o_v0 o_a3 (by decide) d_x21
                have d_x43 := rd_Ik eS67 o_v0 o_a3 (by decide) d_x43
                have d_kv66 := rd_Ij eS67 (by decide) d_kv66
                obtain ⟨kv68, hkv68⟩ : ∃ z : Int32, z = (-1 : Int32) := ⟨_, rfl⟩
                have d_kv68 := rd_Is eS67 hkv68
                have ea3 := rf_I eS67 ea3
                have g0 := gr_I eS67 g0
                have o_a3 := ob_I eS67 o_a3
                have o_v0 := ob_I eS67 o_v0
                intro _
                exact hq _ _ hI g0 f0
              · intro _ _
                refine ⟨fun c71 => absurd (show (1 : Int32) = 0 from c71) (by decide), fun c71 => ?_⟩
                refine u_X11_isHour ?_
                refine u_X11_isHour_0 ?_
                refine ⟨o_v0, ?_⟩
                refine ⟨fun e73 => (nomatch (e73.symm.trans ea3)), fun a72 ea72 => ?_⟩
                obtain rfl : a3 = a72 := Option.some.inj (ea3.symm.trans ea72)
                refine ⟨fun c74 => ?_, fun c74 => ?_⟩
                · intro _ _
                  refine ⟨fun c76 => absurd (show ¬ (0 : Int32) = 0 from c76) (by decide), fun c76 => ?_⟩
                  refine u_X11_saves_39 ?_
                  refine ⟨o_v0, ?_⟩
                  refine u_X11_refused ?_
                  refine u_X11_refused_0 ?_
                  refine ⟨o_v0, ?_⟩
                  intro S77 eS77
                  have hIn : IV S77 := by rw [eS77]; exact iv11_sI hI o_v0 (by decide) (nu_free (by decide))
                  have hI := hIn
                  have f0 := fr_I eS77 g0 f0 o_v0 (by decide)
                  have d_kv2 := rd_Ij eS77 (by decide) d_kv2
                  have d_x21 := rd_Ik eS77 o_v0 o_a3 (by decide) d_x21
                  have d_x43 := rd_Ik eS77 o_v0 o_a3 (by decide) d_x43
                  obtain ⟨kv78, hkv78⟩ : ∃ z : Int32, z = (1 : Int32) := ⟨_, rfl⟩
                  have d_kv78 := rd_Is eS77 hkv78
                  have ea3 := rf_I eS77 ea3
                  have g0 := gr_I eS77 g0
                  have o_a3 := ob_I eS77 o_a3
                  have o_v0 := ob_I eS77 o_v0
                  intro S79 eS79
                  have hIn : IV S79 := by rw [eS79]; exact iv11_sI hI o_v0 (by decide) (nu_free (by decide))
                  have hI := hIn
                  have f0 := fr_I eS79 g0 f0 o_v0 (by decide)
                  have d_kv2 := rd_Ij eS79 (by decide) d_kv2
                  have d_x21 := rd_Ik eS79 o_v0 o_a3 (by decide) d_x21
                  have d_x43 := rd_Ik eS79 o_v0 o_a3 (by decide) d_x43
                  have d_kv78 := rd_Ij eS79 (by decide) d_kv78
                  obtain ⟨kv80, hkv80⟩ : ∃ z : Int32, z = (-1 : Int32) := ⟨_, rfl⟩
                  have d_kv80 := rd_Is eS79 hkv80
                  have ea3 := rf_I eS79 ea3
                  have g0 := gr_I eS79 g0
                  have o_a3 := ob_I eS79 o_a3
                  have o_v0 := ob_I eS79 o_v0
                  intro _
                  exact hq _ _ hI g0 f0
                · refine ⟨a3, ea3, ?_⟩
                  refine ⟨o_a3, ?_⟩
                  intro x83 ex83
                  have r_x83 : (0 : Int32) ≤ x83 ∧ x83 ≤ (6 : Int32) := by rw [ex83]; exact nu 17 rfl hI o_a3
                  have d_x83 := ex83
                  refine ⟨fun c84 => ?_, fun c84 => ?_⟩
                  · intro _ _
                    refine ⟨fun c86 => absurd (show ¬ (0 : Int32) = 0 from c86) (by decide), fun c86 => ?_⟩
                    refine u_X11_saves_39 ?_
                    refine ⟨o_v0, ?_⟩
                    refine u_X11_refused ?_
                    refine u_X11_refused_0 ?_
                    refine ⟨o_v0, ?_⟩
                    intro S87 eS87
                    have hIn : IV S87 := by rw [eS87]; exact iv11_sI hI o_v0 (by decide) (nu_free (by decide))
                    have hI := hIn
                    have f0 := fr_I eS87 g0 f0 o_v0 (by decide)
                    have d_kv2 := rd_Ij eS87 (by decide) d_kv2
                    have d_x21 := rd_Ik eS87 o_v0 o_a3 (by decide) d_x21
                    have d_x43 := rd_Ik eS87 o_v0 o_a3 (by decide) d_x43
                    have d_x83 := rd_Ik eS87 o_v0 o_a3 (by decide) d_x83
                    obtain ⟨kv88, hkv88⟩ : ∃ z : Int32, z = (1 : Int32) := ⟨_, rfl⟩
                    have d_kv88 := rd_Is eS87 hkv88
                    have ea3 := rf_I eS87 ea3
                    have g0 := gr_I eS87 g0
                    have o_a3 := ob_I eS87 o_a3
                    have o_v0 := ob_I eS87 o_v0
                    intro S89 eS89
                    have hIn : IV S89 := by rw [eS89]; exact iv11_sI hI o_v0 (by decide) (nu_free (by decide))
                    have hI := hIn
                    have f0 := fr_I eS89 g0 f0 o_v0 (by decide)
                    have d_kv2 := rd_Ij eS89 (by decide) d_kv2
                    have d_x21 := rd_Ik eS89 o_v0 o_a3 (by decide) d_x21
                    have d_x43 := rd_Ik eS89 o_v0 o_a3 (by decide) d_x43
                    have d_x83 := rd_Ik eS89 o_v0 o_a3 (by decide) d_x83
                    have d_kv88 := rd_Ij eS89 (by decide) d_kv88
                    obtain ⟨kv90, hkv90⟩ : ∃ z : Int32, z = (-1 : Int32) := ⟨_, rfl⟩
                    have d_kv90 := rd_Is eS89 hkv90
                    have ea3 := rf_I eS89 ea3
                    have g0 := gr_I eS89 g0
                    have o_a3 := ob_I eS89 o_a3
                    have o_v0 := ob_I eS89 o_v0
                    intro _
                    exact hq _ _ hI g0 f0
                  · intro _ _
                    refine ⟨fun c93 => ?_, fun c93 => absurd (show (1 : Int32) = 0 from c93) (by decide)⟩
                    refine ⟨a3, ea3, ?_⟩
                    refine ⟨o_a3, ?_⟩
                    obtain ⟨a95, ea95, o_a95, l_a95⟩ := shl 46 rfl hI o_a3
                    refine ⟨a95, ea95, ?_⟩
                    refine ⟨o_a95, ?_⟩
                    refine ⟨(vin l_a95 (m := 4) (by decide) (qm664 c12 r_x21 c22 c34 r_x43 c44 c54 c62 c74 r_x83 c84)), ?_⟩
                    intro x96 ex96
                    have gy_x96 : 0 ≤ v1 ∧ v1 < fI S1 a3 4 := by rw [← d_x21]; exact (qm665 c12 r_x21 c22 c34 r_x43 c44 c54 c62 c74 r_x83 c84)
                    have g_x96 : (1 : Int32) ≤ x96 ∧ x96 ≤ (9 : Int32) := by rw [ex96]; exact wg_at (ml_wg hI o_v0 ea3) 3 rfl gy_x96 ea95
                    refine m_X11_wetOf hI o_v0 (qm693 c12 r_x21 c22 c34 r_x43 c44 c54 c62 c74 r_x83 c84) (qm694 c12 r_x21 c22 c34 r_x43 c44 c54 c62 c74 r_x83 c84) (qm695 c12 r_x21 c22 c34 r_x43 c44 c54 c62 c74 r_x83 c84) (qm666 c12 r_x21 c22 c34 r_x43 c44 c54 c62 c74 r_x83 c84 g_x96) ⟨_, ea3⟩ (fun x97 S98 hI2 g99 p_x97 => ?_)
                    subst p_x97
                    intro _
                    refine m_X11_bestOf hI o_v0 (qm694 c12 r_x21 c22 c34 r_x43 c44 c54 c62 c74 r_x83 c84) (qm695 c12 r_x21 c22 c34 r_x43 c44 c54 c62 c74 r_x83 c84) ⟨_, ea3, (qm696 c12 r_x21 c22 c34 r_x43 c44 c54 c62 c74 r_x83 c84), (by rw [← d_x21]; exact (qm697 c12 r_x21 c22 c34 r_x43 c44 c54 c62 c74 r_x83 c84))⟩ (fun x101 S102 hI2 g103 p_x101 => ?_)
                    obtain ⟨z_S102, p_x101⟩ := p_x101
                    subst z_S102
                    intro _
                    refine m_X11_wetOf hI o_v0 (qm693 c12 r_x21 c22 c34 r_x43 c44 c54 c62 c74 r_x83 c84) (qm694 c12 r_x21 c22 c34 r_x43 c44 c54 c62 c74 r_x83 c84) (qm695 c12 r_x21 c22 c34 r_x43 c44 c54 c62 c74 r_x83 c84) (qm698 c12 r_x21 c22 c34 r_x43 c44 c54 c62 c74 r_x83 c84 p_x101) ⟨_, ea3⟩ (fun x105 S106 hI2 g107 p_x105 => ?_)
                    subst p_x105
                    intro _
                    refine m_X11_told hI o_v0 (qm699 c12 r_x21 c22 c34 r_x43 c44 c54 c62 c74 r_x83 c84) (fun x109 S110 hJ g111 fc112 => ?_)
                    have hI := hJ
                    have l_a95 := (gr_len g111 o_a95).trans l_a95
                    have d_kv2 := d_kv2.trans (fri_at fc112 (by decide) (by decide) o_v0).symm
                    have d_x21 := d_x21.trans (fri_at fc112 (by decide) (by decide) o_a3).symm
                    have d_x43 := d_x43.trans (fri_at fc112 (by decide) (by decide) o_a3).symm
                    have d_x83 := d_x83.trans (fri_at fc112 (by decide) (by decide) o_a3).symm
                    have ea3 := (frr_at fc112 (by decide) (by decide) o_v0).trans ea3
                    have ea95 := (frr_at fc112 (by decide) (by decide) o_a3).trans ea95
                    have f0 := fri_tr (S := S1) g0 f0 fc112 (by decide) (by decide)
                    have o_a3 := gr_ob g111 o_a3
                    have o_a95 := gr_ob g111 o_a95
                    have o_v0 := gr_ob g111 o_v0
                    have g0 := gr_tr (T := S1) g0 g111
                    intro _
                    exact hq _ _ hI g0 f0
set_option maxHeartbeats 4000000 in
set_option maxRecDepth 20000 in
theorem m_X11_size {v0 : Nat} {v1 : Int32} {Q : Int32 → HS → Prop} {S : HS} (hI : IV S) (o_v0 : ob S v0 11)     (hq : ∀ (r : Int32) (T : HS), IV T → Gr S T → FRI [(11, 0)] [] S T → Q r T) : P_X11_size v0 v1 Q S := by
  have g0 := gr_rf S
  have f0 := fri_rf [(11, 0)] [] S
  refine u_X11_size ?_
  refine u_X11_size_0 ?_
  refine ⟨o_v0, ?_⟩
  intro S1 eS1
  have hIn : IV S1 := by rw [eS1]; exact iv11_sI hI o_v0 (by decide) (nu_free (by decide))
  have hI := hIn
  have f0 := fr_I eS1 g0 f0 o_v0 (by decide)
  obtain ⟨kv2, hkv2⟩ : ∃ z : Int32, z = (0 : Int32) := ⟨_, rfl⟩
  have d_kv2 := rd_Is eS1 hkv2
  have g0 := gr_I eS1 g0
  have o_v0 := ob_I eS1 o_v0
  refine ⟨fun c3 => ?_, fun c3 => ?_⟩
  · refine u_X11_in ?_
    refine u_X11_in_0 ?_
    refine ⟨fun c4 => ?_, fun c4 => ?_⟩
    · intro _ _
      refine ⟨fun c6 => absurd (show ¬ (0 : Int32) = 0 from c6) (by decide), fun c6 => ?_⟩
      exact hq _ _ hI g0 f0
    · refine ⟨fun c7 => ?_, fun c7 => ?_⟩
      · intro _ _
        refine ⟨fun c9 => absurd (show ¬ (0 : Int32) = 0 from c9) (by decide), fun c9 => ?_⟩
        exact hq _ _ hI g0 f0
      · intro _ _
        refine ⟨fun c11 => ?_, fun c11 => absurd (show (1 : Int32) = 0 from c11) (by decide)⟩
        refine ⟨fun e13 => ?_, fun a12 ea12 => ?_⟩
        · exact hq _ _ hI g0 f0
        · have o_a12 := ml_ob hI o_v0 ea12
          refine ⟨fun c14 => ?_, fun c14 => ?_, fun c14 => ?_, fun c14 => ?_, fun c14 => ?_, fun c14 => ?_, fun c14 => ?_, fun c14 => ?_, fun c14 => ?_, fun c14 => ?_, fun c14 => ?_⟩
          · intro x15 ex15
            have r_x15 : (0 : Int32) ≤ x15 ∧ x15 ≤ (3 : Int32) := by rw [ex15]; exact nu 28 rfl hI o_v0
            have d_x15 := ex15
            exact hq _ _ hI g0 f0
          · refine ⟨a12, ea12, ?_⟩
            refine ⟨o_a12, ?_⟩
            intro x17 ex17
            have r_x17 : (0 : Int32) ≤ x17 ∧ x17 ≤ (60 : Int32) := by rw [ex17]; exact nu 16 rfl hI o_a12
            have d_x17 := ex17
            have hh_x17 : 1 ≤ x17 := by rw [ex17]; exact ml_hour hI o_v0 ea12
            exact hq _ _ hI g0 f0
          · refine ⟨a12, ea12, ?_⟩
            refine ⟨o_a12, ?_⟩
            intro x19 ex19
            have r_x19 : (0 : Int32) ≤ x19 ∧ x19 ≤ (6 : Int32) := by rw [ex19]; exact nu 17 rfl hI o_a12
            have d_x19 := ex19
            exact hq _ _ hI g0 f0
          · refine ⟨a12, ea12, ?_⟩
            refine ⟨o_a12, ?_⟩
            intro x21 ex21
            have r_x21 : (0 : Int32) ≤ x21 ∧ x21 ≤ (8 : Int32) := by rw [ex21]; exact nu 18 rfl hI o_a12
            have d_x21 := ex21
            exact hq _ _ hI g0 f0
          · refine ⟨a12, ea12, ?_⟩
            refine ⟨o_a12, ?_⟩
            intro x23 ex23
            have r_x23 : (0 : Int32) ≤ x23 ∧ x23 ≤ (12 : Int32) := by rw [ex23]; exact nu 19 rfl hI o_a12
            have d_x23 := ex23
            exact hq _ _ hI g0 f0
          · refine ⟨a12, ea12, ?_⟩
            refine ⟨o_a12, ?_⟩
            intro x25 ex25
            have r_x25 : (0 : Int32) ≤ x25 ∧ x25 ≤ (4 : Int32) := by rw [ex25]; exact nu 20 rfl hI o_a12
            have d_x25 := ex25
            exact hq _ _ hI g0 f0
          · refine ⟨a12, ea12, ?_⟩
            refine ⟨o_a12, ?_⟩
            intro x27 ex27
            have r_x27 : (0 : Int32) ≤ x27 ∧ x27 ≤ (4 : Int32) := by rw [ex27]; exact nu 21 rfl hI o_a12
            have d_x27 := ex27
            exact hq _ _ hI g0 f0
          · intro x28 ex28
            have r_x28 : (-2 : Int32) ≤ x28 ∧ x28 ≤ (3 : Int32) := by rw [ex28]; exact nu 26 rfl hI o_v0
            have d_x28 := ex28
            obtain ⟨kv29, d_kv29⟩ : ∃ z : Int32, z = fI S1 a12 4 := ⟨_, rfl⟩
            have r_kv29 : (0 : Int32) ≤ kv29 ∧ kv29 ≤ (4 : Int32) := by rw [d_kv29]; exact nu 20 rfl hI o_a12
            have wh_x28 : x28 = -2 ∨ (0 ≤ x28 ∧ x28 < kv29) := by rw [ex28, d_kv29]; exact ml_who hI o_v0 ea12
            exact hq _ _ hI g0 f0
          · refine u_X11_isDay ?_
            refine u_X11_isDay_0 ?_
            refine ⟨o_v0, ?_⟩
            refine ⟨fun e31 => (nomatch (e31.symm.trans ea12)), fun a30 ea30 => ?_⟩
            obtain rfl : a12 = a30 := Option.some.inj (ea12.symm.trans ea30)
            intro x32 ex32
            have r_x32 : (-2 : Int32) ≤ x32 ∧ x32 ≤ (3 : Int32) := by rw [ex32]; exact nu 26 rfl hI o_v0
            have d_x32 := ex32
            obtain ⟨kv33, d_kv33⟩ : ∃ z : Int32, z = fI S1 a12 4 := ⟨_, rfl⟩
            have r_kv33 : (0 : Int32) ≤ kv33 ∧ kv33 ≤ (4 : Int32) := by rw [d_kv33]; exact nu 20 rfl hI o_a12
            have wh_x32 : x32 = -2 ∨ (0 ≤ x32 ∧ x32 < kv33) := by rw [ex32, d_kv33]; exact ml_who hI o_v0 ea12
            refine ⟨fun c34 => ?_, fun c34 => ?_⟩
            · intro _ _
              refine ⟨fun c36 => ?_, fun c36 => absurd (show ¬ (0 : Int32) = 0 from c36) (by decide)⟩
              exact hq _ _ hI g0 f0
            · intro _ _
              refine ⟨fun c38 => absurd (show (1 : Int32) = 0 from c38) (by decide), fun c38 => ?_⟩
              obtain ⟨a39, ea39, o_a39, l_a39⟩ := shl 57 rfl hI o_v0
              refine ⟨a39, ea39, ?_⟩
              refine ⟨o_a39, ?_⟩
              refine ⟨(vin l_a39 (m := 7) (by decide) (qm536 c3 c4 c7 r_x32 r_kv33 wh_x32 c34)), ?_⟩
              intro x40 ex40
              have de_x40 := ml_de hI o_v0 (j := 21) (by decide) ea39 (0 : Int32).toNatClampNeg
              rw [← ex40] at de_x40
              have dr_x40 : (0 : Int64) ≤ x40 ∧ x40 ≤ (7 : Int64) := de_x40.1 (by decide)
              have lr_x40 : 0 ≤ x40.toInt32 ∧ x40.toInt32 ≤ (7 : Int32) := l2i_rng (by decide) dr_x40
              exact hq _ _ hI g0 f0
          · refine u_X11_isDay ?_
            refine u_X11_isDay_0 ?_
            refine ⟨o_v0, ?_⟩
            refine ⟨fun e42 => (nomatch (e42.symm.trans ea12)), fun a41 ea41 => ?_⟩
            obtain rfl : a12 = a41 := Option.some.inj (ea12.symm.trans ea41)
            intro x43 ex43
            have r_x43 : (-2 : Int32) ≤ x43 ∧ x43 ≤ (3 : Int32) := by rw [ex43]; exact nu 26 rfl hI o_v0
            have d_x43 := ex43
            obtain ⟨kv44, d_kv44⟩ : ∃ z : Int32, z = fI S1 a12 4 := ⟨_, rfl⟩
            have r_kv44 : (0 : Int32) ≤ kv44 ∧ kv44 ≤ (4 : Int32) := by rw [d_kv44]; exact nu 20 rfl hI o_a12
            have wh_x43 : x43 = -2 ∨ (0 ≤ x43 ∧ x43 < kv44) := by rw [ex43, d_kv44]; exact ml_who hI o_v0 ea12
            refine ⟨fun c45 => ?_, fun c45 => ?_⟩
            · intro _ _
              refine ⟨fun c47 => ?_, fun c47 => absurd (show ¬ (0 : Int32) = 0 from c47) (by decide)⟩
              exact hq _ _ hI g0 f0
            · intro _ _
              refine ⟨fun c49 => absurd (show (1 : Int32) = 0 from c49) (by decide), fun c49 => ?_⟩
              obtain ⟨a50, ea50, o_a50, l_a50⟩ := shl 57 rfl hI o_v0
              refine ⟨a50, ea50, ?_⟩
              refine ⟨o_a50, ?_⟩
              refine ⟨(vin l_a50 (m := 7) (by decide) (qm537 c3 c4 c7 r_x43 r_kv44 wh_x43 c45)), ?_⟩
              intro x51 ex51
              have de_x51 := ml_de hI o_v0 (j := 21) (by decide) ea50 (1 : Int32).toNatClampNeg
              rw [← ex51] at de_x51
              have dr_x51 : (0 : Int64) ≤ x51 ∧ x51 ≤ (999 : Int64) := de_x51.2 (by decide)
              have lr_x51 : 0 ≤ x51.toInt32 ∧ x51.toInt32 ≤ (999 : Int32) := l2i_rng (by decide) dr_x51
              exact hq _ _ hI g0 f0
          · intro x52 ex52
            have r_x52 : (0 : Int32) ≤ x52 ∧ x52 ≤ (16 : Int32) := by rw [ex52]; exact nu 27 rfl hI o_v0
            have d_x52 := ex52
            exact hq _ _ hI g0 f0
  · intro x53 ex53
    have r_x53 : (0 : Int32) ≤ x53 ∧ x53 ≤ (900 : Int32) := by rw [ex53]; exact nu 23 rfl hI o_v0
    have d_x53 := ex53
    exact hq _ _ hI g0 f0
set_option maxHeartbeats 4000000 in
set_option maxRecDepth 20000 in
theorem m_X11_soaked {v0 : Nat} {Q : Int32 → HS → Prop} {S : HS} (hI : IV S) (o_v0 : ob S v0 11)     (hq : ∀ (r : Int32) (T : HS), IV T → Gr S T → FRI [(11, 0), (11, 1), (11, 2)] [] S T → Q r T) : P_X11_soaked v0 Q S := by
  have g0 := gr_rf S
  have f0 := fri_rf [(11, 0), (11, 1), (11, 2)] [] S
  refine u_X11_soaked ?_
  refine u_X11_soaked_0 ?_
  refine ⟨o_v0, ?_⟩
  intro S1 eS1
  have hIn : IV S1 := by rw [eS1]; exact iv11_sI hI o_v0 (by decide) (nu_free (by decide))
  have hI := hIn
  have f0 := fr_I eS1 g0 f0 o_v0 (by decide)
  obtain ⟨kv2, hkv2⟩ : ∃ z : Int32, z = (0 : Int32) := ⟨_, rfl⟩
  have d_kv2 := rd_Is eS1 hkv2
  have g0 := gr_I eS1 g0
  have o_v0 := ob_I eS1 o_v0
  refine u_X11_isDay ?_
  refine u_X11_isDay_0 ?_
  refine ⟨o_v0, ?_⟩
  refine ⟨fun e4 => ?_, fun a3 ea3 => ?_⟩
  · intro _ _
    refine ⟨fun c6 => absurd (show ¬ (0 : Int32) = 0 from c6) (by decide), fun c6 => ?_⟩
    refine u_X11_refused ?_
    refine u_X11_refused_0 ?_
    refine ⟨o_v0, ?_⟩
    intro S7 eS7
    have hIn : IV S7 := by rw [eS7]; exact iv11_sI hI o_v0 (by decide) (nu_free (by decide))
    have hI := hIn
    have f0 := fr_I eS7 g0 f0 o_v0 (by decide)
    have d_kv2 := rd_Ij eS7 (by decide) d_kv2
    obtain ⟨kv8, hkv8⟩ : ∃ z : Int32, z = (1 : Int32) := ⟨_, rfl⟩
    have d_kv8 := rd_Is eS7 hkv8
    have g0 := gr_I eS7 g0
    have o_v0 := ob_I eS7 o_v0
    intro S9 eS9
    have hIn : IV S9 := by rw [eS9]; exact iv11_sI hI o_v0 (by decide) (nu_free (by decide))
    have hI := hIn
    have f0 := fr_I eS9 g0 f0 o_v0 (by decide)
    have d_kv2 := rd_Ij eS9 (by decide) d_kv2
    have d_kv8 := rd_Ij eS9 (by decide) d_kv8
    obtain ⟨kv10, hkv10⟩ : ∃ z : Int32, z = (-1 : Int32) := ⟨_, rfl⟩
    have d_kv10 := rd_Is eS9 hkv10
    have g0 := gr_I eS9 g0
    have o_v0 := ob_I eS9 o_v0
    intro _
    exact hq _ _ hI g0 f0
  · have o_a3 := ml_ob hI o_v0 ea3
    intro x12 ex12
    have r_x12 : (-2 : Int32) ≤ x12 ∧ x12 ≤ (3 : Int32) := by rw [ex12]; exact nu 26 rfl hI o_v0
    have d_x12 := ex12
    obtain ⟨kv13, d_kv13⟩ : ∃ z : Int32, z = fI S1 a3 4 := ⟨_, rfl⟩
    have r_kv13 : (0 : Int32) ≤ kv13 ∧ kv13 ≤ (4 : Int32) := by rw [d_kv13]; exact nu 20 rfl hI o_a3
    have wh_x12 : x12 = -2 ∨ (0 ≤ x12 ∧ x12 < kv13) := by rw [ex12, d_kv13]; exact ml_who hI o_v0 ea3
    refine ⟨fun c14 => ?_, fun c14 => ?_⟩
    · intro _ _
      refine ⟨fun c16 => absurd (show ¬ (0 : Int32) = 0 from c16) (by decide), fun c16 => ?_⟩
      refine u_X11_refused ?_
      refine u_X11_refused_0 ?_
      refine ⟨o_v0, ?_⟩
      intro S17 eS17
      have hIn : IV S17 := by rw [eS17]; exact iv11_sI hI o_v0 (by decide) (nu_free (by decide))
      have hI := hIn
      have f0 := fr_I eS17 g0 f0 o_v0 (by decide)
      have d_kv2 := rd_Ij eS17 (by decide) d_kv2
      have d_x12 := rd_Ij eS17 (by decide) d_x12
      have d_kv13 := rd_Ik eS17 o_v0 o_a3 (by decide) d_kv13
      obtain ⟨kv18, hkv18⟩ : ∃ z : Int32, z = (1 : Int32) := ⟨_, rfl⟩
      have d_kv18 := rd_Is eS17 hkv18
      have ea3 := rf_I eS17 ea3
      have g0 := gr_I eS17 g0
      have o_a3 := ob_I eS17 o_a3
      have o_v0 := ob_I eS17 o_v0
      intro S19 eS19
      have hIn : IV S19 := by rw [eS19]; exact iv11_sI hI o_v0 (by decide) (nu_free (by decide))
      have hI := hIn
      have f0 := fr_I eS19 g0 f0 o_v0 (by decide)
      have d_kv2 := rd_Ij eS19 (by decide) d_kv2
      have d_x12 := rd_Ij eS19 (by decide) d_x12
      have d_kv13 := rd_Ik eS19 o_v0 o_a3 (by decide) d_kv13
      have d_kv18 := rd_Ij eS19 (by decide) d_kv18
      obtain ⟨kv20, hkv20⟩ : ∃ z : Int32, z = (-1 : Int32) := ⟨_, rfl⟩
      have d_kv20 := rd_Is eS19 hkv20
      have ea3 := rf_I eS19 ea3
      have g0 := gr_I eS19 g0
      have o_a3 := ob_I eS19 o_a3
      have o_v0 := ob_I eS19 o_v0
      intro _
      exact hq _ _ hI g0 f0
    · intro _ _
      refine ⟨fun c23 => ?_, fun c23 => absurd (show (1 : Int32) = 0 from c23) (by decide)⟩
      refine ⟨a3, ea3, ?_⟩
      refine ⟨o_a3, ?_⟩
      obtain ⟨a25, ea25, o_a25, l_a25⟩ := shl 41 rfl hI o_a3
      refine ⟨a25, ea25, ?_⟩
      intro x26 ex26
      have r_x26 : (-2 : Int32) ≤ x26 ∧ x26 ≤ (3 : Int32) := by rw [ex26]; exact nu 26 rfl hI o_v0
      have q_x26 : x26 = x12 := ex26.trans d_x12.symm
      have d_x26 := ex26
      have wh_x26 : x26 = -2 ∨ (0 ≤ x26 ∧ x26 < kv13) := by rw [ex26, d_kv13]; exact ml_who hI o_v0 ea3
      refine ⟨o_a25, ?_⟩
      refine ⟨(vin l_a25 (m := 4) (by decide) (qm547 r_x12 r_kv13 wh_x12 c14 r_x26 q_x26 wh_x26)), ?_⟩
      intro x27 ex27
      refine ⟨fun c28 => ?_, fun c28 => ?_⟩
      · refine m_X11_gotInAll hI o_v0 (fun x29 S30 hI2 g31 p_x29 => ?_)
        subst p_x29
        intro _
        refine u_X11_holds ?_
        refine u_X11_holds_0 ?_
        refine ⟨o_v0, ?_⟩
        refine ⟨a3, ea3, ?_⟩
        refine ⟨o_a3, ?_⟩
        refine ⟨a25, ea25, ?_⟩
        intro x35 ex35
        have r_x35 : (-2 : Int32) ≤ x35 ∧ x35 ≤ (3 : Int32) := by rw [ex35]; exact nu 26 rfl hI o_v0
        have q_x35 : x35 = x26 := ex35.trans d_x26.symm
        have d_x35 := ex35
        have wh_x35 : x35 = -2 ∨ (0 ≤ x35 ∧ x35 < kv13) := by rw [ex35, d_kv13]; exact ml_who hI o_v0 ea3
        refine ⟨o_a25, ?_⟩
        refine ⟨(vin l_a25 (m := 4) (by decide) (qm548 r_x12 r_kv13 wh_x12 c14 r_x26 q_x26 wh_x26 c28 r_x35 q_x35 wh_x35)), ?_⟩
        intro x36 ex36
        refine ⟨fun c37 => ?_, fun c37 => ?_⟩
        · intro _
          refine ⟨fun c39 => ?_, fun c39 => ?_⟩
          · refine u_X11_soaked_57 ?_
            refine ⟨o_v0, ?_⟩
            refine u_X11_good ?_
            refine u_X11_good_0 ?_
            refine ⟨o_v0, ?_⟩
            intro S40 eS40
            have hIn : IV S40 := by rw [eS40]; exact iv11_sI hI o_v0 (by decide) (nu_free (by decide))
            have hI := hIn
            have f0 := fr_I eS40 g0 f0 o_v0 (by decide)
            have d_kv2 := rd_Ij eS40 (by decide) d_kv2
            have d_x35 := rd_Ij eS40 (by decide) d_x35
            have d_kv13 := rd_Ik eS40 o_v0 o_a3 (by decide) d_kv13
            obtain ⟨kv41, hkv41⟩ : ∃ z : Int32, z = (0 : Int32) := ⟨_, rfl⟩
            have d_kv41 := rd_Is eS40 hkv41
            have ea3 := rf_I eS40 ea3
            have ea25 := rf_I eS40 ea25
            have l_a25 := ln_I eS40 l_a25
            have g0 := gr_I eS40 g0
            have o_a25 := ob_I eS40 o_a25
            have o_a3 := ob_I eS40 o_a3
            have o_v0 := ob_I eS40 o_v0
            intro S42 eS42
            have hIn : IV S42 := by rw [eS42]; exact iv11_sI hI o_v0 (by decide) (nu_free (by decide))
            have hI := hIn
            have f0 := fr_I eS42 g0 f0 o_v0 (by decide)
            have d_kv2 := rd_Ij eS42 (by decide) d_kv2
            have d_x35 := rd_Ij eS42 (by decide) d_x35
            have d_kv13 := rd_Ik eS42 o_v0 o_a3 (by decide) d_kv13
            have d_kv41 := rd_Ij eS42 (by decide) d_kv41
            obtain ⟨kv43, hkv43⟩ : ∃ z : Int32, z = (-1 : Int32) := ⟨_, rfl⟩
            have d_kv43 := rd_Is eS42 hkv43
            have ea3 := rf_I eS42 ea3
            have ea25 := rf_I eS42 ea25
            have l_a25 := ln_I eS42 l_a25
            have g0 := gr_I eS42 g0
            have o_a25 := ob_I eS42 o_a25
            have o_a3 := ob_I eS42 o_a3
            have o_v0 := ob_I eS42 o_v0
            intro _
            exact hq _ _ hI g0 f0
          · refine u_X11_soaked_57 ?_
            refine ⟨o_v0, ?_⟩
            refine u_X11_good ?_
            refine u_X11_good_0 ?_
            refine ⟨o_v0, ?_⟩
            intro S45 eS45
            have hIn : IV S45 := by rw [eS45]; exact iv11_sI hI o_v0 (by decide) (nu_free (by decide))
            have hI := hIn
            have f0 := fr_I eS45 g0 f0 o_v0 (by decide)
            have d_kv2 := rd_Ij eS45 (by decide) d_kv2
            have d_x35 := rd_Ij eS45 (by decide) d_x35
            have d_kv13 := rd_Ik eS45 o_v0 o_a3 (by decide) d_kv13
            obtain ⟨kv46, hkv46⟩ : ∃ z : Int32, z = (0 : Int32) := ⟨_, rfl⟩
            have d_kv46 := rd_Is eS45 hkv46
            have ea3 := rf_I eS45 ea3
            have ea25 := rf_I eS45 ea25
            have l_a25 := ln_I eS45 l_a25
            have g0 := gr_I eS45 g0
            have o_a25 := ob_I eS45 o_a25
            have o_a3 := ob_I eS45 o_a3
            have o_v0 := ob_I eS45 o_v0
            intro S47 eS47
            have hIn : IV S47 := by rw [eS47]; exact iv11_sI hI o_v0 (by decide) (nu_free (by decide))
            have hI := hIn
            have f0 := fr_I eS47 g0 f0 o_v0 (by decide)
            have d_kv2 := rd_Ij eS47 (by decide) d_kv2
            have d_x35 := rd_Ij eS47 (by decide) d_x35
            have d_kv13 := rd_Ik eS47 o_v0 o_a3 (by decide) d_kv13
            have d_kv46 := rd_Ij eS47 (by decide) d_kv46
            obtain ⟨kv48, hkv48⟩ : ∃ z : Int32, z = (-1 : Int32) := ⟨_, rfl⟩
            have d_kv48 := rd_Is eS47 hkv48
            have ea3 := rf_I eS47 ea3
            have ea25 := rf_I eS47 ea25
            have l_a25 := ln_I eS47 l_a25
            have g0 := gr_I eS47 g0
            have o_a25 := ob_I eS47 o_a25
            have o_a3 := ob_I eS47 o_a3
            have o_v0 := ob_I eS47 o_v0
            intro _
            exact hq _ _ hI g0 f0
        · refine ⟨a3, ea3, ?_⟩
          refine ⟨o_a3, ?_⟩
          obtain ⟨a51, ea51, o_a51, l_a51⟩ := shl 42 rfl hI o_a3
          refine ⟨a51, ea51, ?_⟩
          intro x52 ex52
          have r_x52 : (-2 : Int32) ≤ x52 ∧ x52 ≤ (3 : Int32) := by rw [ex52]; exact nu 26 rfl hI o_v0
          have q_x52 : x52 = x35 := ex52.trans d_x35.symm
          have d_x52 := ex52
          have wh_x52 : x52 = -2 ∨ (0 ≤ x52 ∧ x52 < kv13) := by rw [ex52, d_kv13]; exact ml_who hI o_v0 ea3
          refine ⟨o_a51, ?_⟩
          refine ⟨(vin l_a51 (m := 4) (by decide) (qm549 r_x12 r_kv13 wh_x12 c14 r_x26 q_x26 wh_x26 c28 r_x35 q_x35 wh_x35 c37 r_x52 q_x52 wh_x52)), ?_⟩
          intro x53 ex53
          intro _
          refine ⟨fun c55 => ?_, fun c55 => ?_⟩
          · refine u_X11_soaked_57 ?_
            refine ⟨o_v0, ?_⟩
            refine u_X11_good ?_
            refine u_X11_good_0 ?_
            refine ⟨o_v0, ?_⟩
            intro S56 eS56
            have hIn : IV S56 := by rw [eS56]; exact iv11_sI hI o_v0 (by decide) (nu_free (by decide))
            have hI := hIn
            have f0 := fr_I eS56 g0 f0 o_v0 (by decide)
            have d_kv2 := rd_Ij eS56 (by decide) d_kv2
            have d_x52 := rd_Ij eS56 (by decide) d_x52
            have d_kv13 := rd_Ik eS56 o_v0 o_a3 (by decide) d_kv13
            obtain ⟨kv57, hkv57⟩ : ∃ z : Int32, z = (0 : Int32) := ⟨_, rfl⟩
            have d_kv57 := rd_Is eS56 hkv57
            have ea3 := rf_I eS56 ea3
            have ea25 := rf_I eS56 ea25
            have ea51 := rf_I eS56 ea51
            have l_a25 := ln_I eS56 l_a25
            have l_a51 := ln_I eS56 l_a51
            have g0 := gr_I eS56 g0
            have o_a25 := ob_I eS56 o_a25
            have o_a3 := ob_I eS56 o_a3
            have o_a51 := ob_I eS56 o_a51
            have o_v0 := ob_I eS56 o_v0
            intro S58 eS58
            have hIn : IV S58 := by rw [eS58]; exact iv11_sI hI o_v0 (by decide) (nu_free (by decide))
            have hI := hIn
            have f0 := fr_I eS58 g0 f0 o_v0 (by decide)
            have d_kv2 := rd_Ij eS58 (by decide) d_kv2
            have d_x52 := rd_Ij eS58 (by decide) d_x52
            have d_kv13 := rd_Ik eS58 o_v0 o_a3 (by decide) d_kv13
            have d_kv57 := rd_Ij eS58 (by decide) d_kv57
            obtain ⟨kv59, hkv59⟩ : ∃ z : Int32, z = (-1 : Int32) := ⟨_, rfl⟩
            have d_kv59 := rd_Is eS58 hkv59
            have ea3 := rf_I eS58 ea3
            have ea25 := rf_I eS58 ea25
            have ea51 := rf_I eS58 ea51
            have l_a25 := ln_I eS58 l_a25
            have l_a51 := ln_I eS58 l_a51
            have g0 := gr_I eS58 g0
            have o_a25 := ob_I eS58 o_a25
            have o_a3 := ob_I eS58 o_a3
            have o_a51 := ob_I eS58 o_a51
            have o_v0 := ob_I eS58 o_v0
            intro _
            exact hq _ _ hI g0 f0
          · refine u_X11_soaked_57 ?_
            refine ⟨o_v0, ?_⟩
            refine u_X11_good ?_
            refine u_X11_good_0 ?_
            refine ⟨o_v0, ?_⟩
            intro S61 eS61
            have hIn : IV S61 := by rw [eS61]; exact iv11_sI hI o_v0 (by decide) (nu_free (by decide))
            have hI := hIn
            have f0 := fr_I eS61 g0 f0 o_v0 (by decide)
            have d_kv2 := rd_Ij eS61 (by decide) d_kv2
            have d_x52 := rd_Ij eS61 (by decide) d_x52
            have d_kv13 := rd_Ik eS61 o_v0 o_a3 (by decide) d_kv13
            obtain ⟨kv62, hkv62⟩ : ∃ z : Int32, z = (0 : Int32) := ⟨_, rfl⟩
            have d_kv62 := rd_Is eS61 hkv62
            have ea3 := rf_I eS61 ea3
            have ea25 := rf_I eS61 ea25
            have ea51 := rf_I eS61 ea51
            have l_a25 := ln_I eS61 l_a25
            have l_a51 := ln_I eS61 l_a51
            have g0 := gr_I eS61 g0
            have o_a25 := ob_I eS61 o_a25
            have o_a3 := ob_I eS61 o_a3
            have o_a51 := ob_I eS61 o_a51
            have o_v0 := ob_I eS61 o_v0
            intro S63 eS63
            have hIn : IV S63 := by rw [eS63]; exact iv11_sI hI o_v0 (by decide) (nu_free (by decide))
            have hI := hIn
            have f0 := fr_I eS63 g0 f0 o_v0 (by decide)
            have d_kv2 := rd_Ij eS63 (by decide) d_kv2
            have d_x52 := rd_Ij eS63 (by decide) d_x52
            have d_kv13 := rd_Ik eS63 o_v0 o_a3 (by decide) d_kv13
            have d_kv62 := rd_Ij eS63 (by decide) d_kv62
            obtain ⟨kv64, hkv64⟩ : ∃ z : Int32, z = (-1 : Int32) := ⟨_, rfl⟩
            have d_kv64 := rd_Is eS63 hkv64
            have ea3 := rf_I eS63 ea3
            have ea25 := rf_I eS63 ea25
            have ea51 := rf_I eS63 ea51
            have l_a25 := ln_I eS63 l_a25
            have l_a51 := ln_I eS63 l_a51
            have g0 := gr_I eS63 g0
            have o_a25 := ob_I eS63 o_a25
            have o_a3 := ob_I eS63 o_a3
            have o_a51 := ob_I eS63 o_a51
            have o_v0 := ob_I eS63 o_v0
            intro _
            exact hq _ _ hI g0 f0
      · refine u_X11_soaked_57 ?_
        refine ⟨o_v0, ?_⟩
        refine u_X11_good ?_
        refine u_X11_good_0 ?_
        refine ⟨o_v0, ?_⟩
        intro S66 eS66
        have hIn : IV S66 := by rw [eS66]; exact iv11_sI hI o_v0 (by decide) (nu_free (by decide))
        have hI := hIn
        have f0 := fr_I eS66 g0 f0 o_v0 (by decide)
        have d_kv2 := rd_Ij eS66 (by decide) d_kv2
        have d_x26 := rd_Ij eS66 (by decide) d_x26
        have d_kv13 := rd_Ik eS66 o_v0 o_a3 (by decide) d_kv13
        obtain ⟨kv67, hkv67⟩ : ∃ z : Int32, z = (0 : Int32) := ⟨_, rfl⟩
        have d_kv67 := rd_Is eS66 hkv67
        have ea3 := rf_I eS66 ea3
        have ea25 := rf_I eS66 ea25
        have l_a25 := ln_I eS66 l_a25
        have g0 := gr_I eS66 g0
        have o_a25 := ob_I eS66 o_a25
        have o_a3 := ob_I eS66 o_a3
        have o_v0 := ob_I eS66 o_v0
        intro S68 eS68
        have hIn : IV S68 := by rw [eS68]; exact iv11_sI hI o_v0 (by decide) (nu_free (by decide))
        have hI := hIn
        have f0 := fr_I eS68 g0 f0 o_v0 (by decide)
        have d_kv2 := rd_Ij eS68 (by decide) d_kv2
        have d_x26 := rd_Ij eS68 (by decide) d_x26
        have d_kv13 := rd_Ik eS68 o_v0 o_a3 (by decide) d_kv13
        have d_kv67 := rd_Ij eS68 (by decide) d_kv67
        obtain ⟨kv69, hkv69⟩ : ∃ z : Int32, z = (-1 : Int32) := ⟨_, rfl⟩
        have d_kv69 := rd_Is eS68 hkv69
        have ea3 := rf_I eS68 ea3
        have ea25 := rf_I eS68 ea25
        have l_a25 := ln_I eS68 l_a25
        have g0 := gr_I eS68 g0
        have o_a25 := ob_I eS68 o_a25
        have o_a3 := ob_I eS68 o_a3
        have o_v0 := ob_I eS68 o_v0
        intro _
        exact hq _ _ hI g0 f0
