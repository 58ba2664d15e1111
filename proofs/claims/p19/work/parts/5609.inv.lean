section
set_option maxHeartbeats 4000000 in
set_option maxRecDepth 20000 in
theorem m_X11_minutes {v0 : Nat} {v1 : Int32} {v2 : Int32} {v3 : Int32} {Q : Int32 → HS → Prop} {S : HS} (hI : IV S) (o_v0 : ob S v0 11)     (hq : ∀ (r : Int32) (T : HS), IV T → Gr S T → FRI [(11, 0), (11, 1), (11, 2)] [] S T → Q r T) : P_X11_minutes v0 v1 v2 v3 Q S := by
  have g0 := gr_rf S
  have f0 := fri_rf [(11, 0), (11, 1), (11, 2)] [] S
  refine u_X11_minutes ?_
  refine u_X11_minutes_0 ?_
  refine ⟨o_v0, ?_⟩
  intro S1 eS1
  have hIn : IV S1 := by rw [eS1]; exact iv11_sI hI o_v0 (by decide) (nu_free (by decide))
  have hI := hIn
  have f0 := fr_I eS1 g0 f0 o_v0 (by decide)
  obtain ⟨kv2, hkv2⟩ : ∃ z : Int32, z = (0 : Int32) := ⟨_, rfl⟩
  have d_kv2 := rd_Is eS1 hkv2
  have g0 := gr_I eS1 g0
  have o_v0 := ob_I eS1 o_v0
  refine u_X11_isWalker ?_
  refine u_X11_isWalker_0 ?_
  refine ⟨o_v0, ?_⟩
  refine ⟨fun e4 => ?_, fun a3 ea3 => ?_⟩
  · intro _ _
    refine ⟨fun c6 => ?_, fun c6 => absurd (show ¬ (0 : Int32) = 0 from c6) (by decide)⟩
    refine u_X11_minutes_21 ?_
    refine ⟨o_v0, ?_⟩
    refine u_X11_refused ?_
    refine u_X11_refused_0 ?_
    refine ⟨o_v0, ?_⟩
    intro S7 eS7
    have hIn : IV S7 := by rw [eS7]; exact iv11_sI hI o_v0 (by decide) (nu_free (by decide))
    have hI := hIn
    have f0 := fr_I eS7 g0 f0 o_v0 (by decide)
    have d_kv2 := rd_Ij eS7 (by decide) d_kv2
    obtain ⟨kv8, hkv8⟩ : ∃ z : Int32, z = (1 : Int32) := ⟨_, rfl⟩
    have d_kv8 := rd_Is eS7 hkv8
    have g0 := gr_I eS7 g0
    have o_v0 := ob_I eS7 o_v0
    intro S9 eS9
    have hIn : IV S9 := by rw [eS9]; exact iv11_sI hI o_v0 (by decide) (nu_free (by decide))
    have hI := hIn
    have f0 := fr_I eS9 g0 f0 o_v0 (by decide)
    have d_kv2 := rd_Ij eS9 (by decide) d_kv2
    have d_kv8 := rd_Ij eS9 (by decide) d_kv8
    obtain ⟨kv10, hkv10⟩ : ∃ z : Int32, z = (-1 : Int32) := ⟨_, rfl⟩
    have d_kv10 := rd_Is eS9 hkv10
    have g0 := gr_I eS9 g0
    have o_v0 := ob_I eS9 o_v0
    intro _
    exact hq _ _ hI g0 f0
  · have o_a3 := ml_ob hI o_v0 ea3
    refine ⟨fun c12 => ?_, fun c12 => ?_⟩
    · intro _ _
      refine ⟨fun c14 => ?_, fun c14 => absurd (show ¬ (0 : Int32) = 0 from c14) (by decide)⟩
      refine u_X11_minutes_21 ?_
      refine ⟨o_v0, ?_⟩
      refine u_X11_refused ?_
      refine u_X11_refused_0 ?_
      refine ⟨o_v0, ?_⟩
      intro S15 eS15
      have hIn : IV S15 := by rw [eS15]; exact iv11_sI hI o_v0 (by decide) (nu_free (by decide))
      have hI := hIn
      have f0 := fr_I eS15 g0 f0 o_v0 (by decide)
      have d_kv2 := rd_Ij eS15 (by decide) d_kv2
      obtain ⟨kv16, hkv16⟩ : ∃ z : Int32, z = (1 : Int32) := ⟨_, rfl⟩
      have d_kv16 := rd_Is eS15 hkv16
      have ea3 := rf_I eS15 ea3
      have g0 := gr_I eS15 g0
      have o_a3 := ob_I eS15 o_a3
      have o_v0 := ob_I eS15 o_v0
      intro S17 eS17
      have hIn : IV S17 := by rw [eS17]; exact iv11_sI hI o_v0 (by decide) (nu_free (by decide))
      have hI := hIn
      have f0 := fr_I eS17 g0 f0 o_v0 (by decide)
      have d_kv2 := rd_Ij eS17 (by decide) d_kv2
      have d_kv16 := rd_Ij eS17 (by decide) d_kv16
      obtain ⟨kv18, hkv18⟩ : ∃ z : Int32, z = (-1 : Int32) := ⟨_, rfl⟩
      have d_kv18 := rd_Is eS17 hkv18
      have ea3 := rf_I eS17 ea3
      have g0 := gr_I eS17 g0
      have o_a3 := ob_I eS17 o_a3
      have o_v0 := ob_I eS17 o_v0
      intro _
      exact hq _ _ hI g0 f0
    · refine ⟨a3, ea3, ?_⟩
      refine ⟨o_a3, ?_⟩
      intro x21 ex21
      have r_x21 : (0 : Int32) ≤ x21 ∧ x21 ≤ (4 : Int32) := by rw [ex21]; exact nu 20 rfl hI o_a3
      have d_x21 := ex21
      refine ⟨fun c22 => ?_, fun c22 => ?_⟩
      · intro _ _
        refine ⟨fun c24 => ?_, fun c24 => absurd (show ¬ (0 : Int32) = 0 from c24) (by decide)⟩
        refine u_X11_minutes_21 ?_
        refine ⟨o_v0, ?_⟩
        refine u_X11_refused ?_
        refine u_X11_refused_0 ?_
        refine ⟨o_v0, ?_⟩
        intro S25 eS25
        have hIn : IV S25 := by rw [eS25]; exact iv11_sI hI o_v0 (by decide) (nu_free (by decide))
        have hI := hIn
        have f0 := fr_I eS25 g0 f0 o_v0 (by decide)
        have d_kv2 := rd_Ij eS25 (by decide) d_kv2
        have d_x21 := rd_Ik eS25 o_v0 o_a3 (by decide) d_x21
        obtain ⟨kv26, hkv26⟩ : ∃ z : Int32, z = (1 : Int32) := ⟨_, rfl⟩
        have d_kv26 := rd_Is eS25 hkv26
        have ea3 := rf_I eS25 ea3
        have g0 := gr_I eS25 g0
        have o_a3 := ob_I eS25 o_a3
        have o_v0 := ob_I eS25 o_v0
        intro S27 eS27
        have hIn : IV S27 := by rw [eS27]; exact iv11_sI hI o_v0 (by decide) (nu_free (by decide))
        have hI := hIn
        have f0 := fr_I eS27 g0 f0 o_v0 (by decide)
        have d_kv2 := rd_Ij eS27 (by decide) d_kv2
        have d_x21 := rd_Ik eS27 o_v0 o_a3 (by decide) d_x21
        have d_kv26 := rd_Ij eS27 (by decide) d_kv26
        obtain ⟨kv28, hkv28⟩ : ∃ z : Int32, z = (-1 : Int32) := ⟨_, rfl⟩
        have d_kv28 := rd_Is eS27 hkv28
        have ea3 := rf_I eS27 ea3
        have g0 := gr_I eS27 g0
        have o_a3 := ob_I eS27 o_a3
        have o_v0 := ob_I eS27 o_v0
        intro _
        exact hq _ _ hI g0 f0
      · intro _ _
        refine ⟨fun c31 => absurd (show (1 : Int32) = 0 from c31) (by decide), fun c31 => ?_⟩
        refine u_X11_isRoad ?_
        refine u_X11_isRoad_0 ?_
        refine ⟨o_v0, ?_⟩
        refine ⟨fun e33 => (nomatch (e33.symm.trans ea3)), fun a32 ea32 => ?_⟩
        obtain rfl : a3 = a32 := Option.some.inj (ea3.symm.trans ea32)
        refine ⟨fun c34 => ?_, fun c34 => ?_⟩
        · intro _ _
          refine ⟨fun c36 => absurd (show ¬ (0 : Int32) = 0 from c36) (by decide), fun c36 => ?_⟩
          refine u_X11_minutes_21 ?_
          refine ⟨o_v0, ?_⟩
          refine u_X11_refused ?_
          refine u_X11_refused_0 ?_
          refine ⟨o_v0, ?_⟩
          intro S37 eS37
          have hIn : IV S37 := by rw [eS37]; exact iv11_sI hI o_v0 (by decide) (nu_free (by decide))
          have hI := hIn
          have f0 := fr_I eS37 g0 f0 o_v0 (by decide)
          have d_kv2 := rd_Ij eS37 (by decide) d_kv2
          have d_x21 := rd_Ik eS37 o_v0 o_a3 (by decide) d_x21
          obtain ⟨kv38, hkv38⟩ : ∃ z : Int32, z = (1 : Int32) := ⟨_, rfl⟩
          have d_kv38 := rd_Is eS37 hkv38
          have ea3 := rf_I eS37 ea3
          have g0 := gr_I eS37 g0
          have o_a3 := ob_I eS37 o_a3
          have o_v0 := ob_I eS37 o_v0
          intro S39 eS39
          have hIn : IV S39 := by rw [eS39]; exact iv11_sI hI o_v0 (by decide) (nu_free (by decide))
          have hI := hIn
          have f0 := fr_I eS39 g0 f0 o_v0 (by decide)
          have d_kv2 := rd_Ij eS39 (by decide) d_kv2
          have d_x21 := rd_Ik eS39 o_v0 o_a3 (by decide) d_x21
          have d_kv38 := rd_Ij eS39 (by decide) d_kv38
          obtain ⟨kv40, hkv40⟩ : ∃ z : Int32, z = (-1 : Int32) := ⟨_, rfl⟩
          have d_kv40 := rd_Is eS39 hkv40
          have ea3 := rf_I eS39 ea3
          have g0 := gr_I eS39 g0
          have o_a3 := ob_I eS39 o_a3
          have o_v0 := ob_I eS39 o_v0
          intro _
          exact hq _ _ hI g0 f0
        · refine ⟨a3, ea3, ?_⟩
          refine ⟨o_a3, ?_⟩
          intro x43 ex43
          have r_x43 : (0 : Int32) ≤ x43 ∧ x43 ≤ (12 : Int32) := by rw [ex43]; exact nu 19 rfl hI o_a3
          have d_x43 := ex43
          refine ⟨fun c44 => ?_, fun c44 => ?_⟩
          · intro _ _
            refine ⟨fun c46 => absurd (show ¬ (0 : Int32) = 0 from c46) (by decide), fun c46 => ?_⟩
            refine u_X11_minutes_21 ?_
            refine ⟨o_v0, ?_⟩
            refine u_X11_refused ?_
            refine u_X11_refused_0 ?_
            refine ⟨o_v0, ?_⟩
            intro S47 eS47
            have hIn : IV S47 := by rw [eS47]; exact iv11_sI hI o_v0 (by decide) (nu_free (by decide))
            have hI := hIn
            have f0 := fr_I eS47 g0 f0 o_v0 (by decide)
            have d_kv2 := rd_Ij eS47 (by decide) d_kv2
            have d_x21 := rd_Ik eS47 o_v0 o_a3 (by decide) d_x21
            have d_x43 := rd_Ik eS47 o_v0 o_a3 (by decide) d_x43
            obtain ⟨kv48, hkv48⟩ : ∃ z : Int32, z = (1 : Int32) := ⟨_, rfl⟩
            have d_kv48 := rd_Is eS47 hkv48
            have ea3 := rf_I eS47 ea3
            have g0 := gr_I eS47 g0
            have o_a3 := ob_I eS47 o_a3
            have o_v0 := ob_I eS47 o_v0
            intro S49 eS49
            have hIn : IV S49 := by rw [eS49]; exact iv11_sI hI o_v0 (by decide) (nu_free (by decide))
            have hI := hIn
            have f0 := fr_I eS49 g0 f0 o_v0 (by decide)
            have d_kv2 := rd_Ij eS49 (by decide) d_kv2
            have d_x21 := rd_Ik eS49 o_v0 o_a3 (by decide) d_x21
            have d_x43 := rd_Ik eS49 o_v0 o_a3 (by decide) d_x43
            have d_kv48 := rd_Ij eS49 (by decide) d_kv48
            obtain ⟨kv50, hkv50⟩ : ∃ z : Int32, z = (-1 : Int32) := ⟨_, rfl⟩
            have d_kv50 := rd_Is eS49 hkv50
            have ea3 := rf_I eS49 ea3
            have g0 := gr_I eS49 g0
            have o_a3 := ob_I eS49 o_a3
            have o_v0 := ob_I eS49 o_v0
            intro _
            exact hq _ _ hI g0 f0
          · intro _ _
            refine ⟨fun c53 => ?_, fun c53 => absurd (show (1 : Int32) = 0 from c53) (by decide)⟩
            refine u_X11_isSpeed ?_
            refine u_X11_isSpeed_0 ?_
            refine ⟨o_v0, ?_⟩
            refine ⟨a3, ea3, ?_⟩
            refine ⟨o_a3, ?_⟩
            obtain ⟨a55, ea55, o_a55, l_a55⟩ := shl 46 rfl hI o_a3
            refine ⟨a55, ea55, ?_⟩
            refine ⟨o_a55, ?_⟩
            refine ⟨(vin l_a55 (m := 4) (by decide) (qm706 c12 r_x21 c22 c34 r_x43 c44)), ?_⟩
            intro x56 ex56
            have gy_x56 : 0 ≤ v1 ∧ v1 < fI S1 a3 4 := by rw [← d_x21]; exact (qm707 c12 r_x21 c22 c34 r_x43 c44)
            have g_x56 : (1 : Int32) ≤ x56 ∧ x56 ≤ (9 : Int32) := by rw [ex56]; exact wg_at (ml_wg hI o_v0 ea3) 3 rfl gy_x56 ea55
            refine ⟨a3, ea3, ?_⟩
            refine ⟨o_a3, ?_⟩
            obtain ⟨a58, ea58, o_a58, l_a58⟩ := shl 47 rfl hI o_a3
            refine ⟨a58, ea58, ?_⟩
            refine ⟨o_a58, ?_⟩
            refine ⟨(vin l_a58 (m := 4) (by decide) (qm706 c12 r_x21 c22 c34 r_x43 c44)), ?_⟩
            intro x59 ex59
            have gy_x59 : 0 ≤ v1 ∧ v1 < fI S1 a3 4 := by rw [← d_x21]; exact (qm707 c12 r_x21 c22 c34 r_x43 c44)
            have g_x59 : (0 : Int32) ≤ x59 ∧ x59 ≤ (9 : Int32) := by rw [ex59]; exact wg_at (ml_wg hI o_v0 ea3) 4 rfl gy_x59 ea58
            refine u_X11_in ?_
            refine u_X11_in_0 ?_
            refine ⟨fun c60 => ?_, fun c60 => ?_⟩
            · intro _ _
              refine ⟨(Or.inl rfl), ?_⟩
              intro _ _
              refine ⟨fun c63 => ?_, fun c63 => absurd (show ¬ (0 : Int32) = 0 from c63) (by decide)⟩
              refine u_X11_refused ?_
              refine u_X11_refused_0 ?_
              refine ⟨o_v0, ?_⟩
              intro S64 eS64
              have hIn : IV S64 := by rw [eS64]; exact iv11_sI hI o_v0 (by decide) (nu_free (by decide))
              have hI := hIn
              have f0 := fr_I eS64 g0 f0 o_v0 (by decide)
              have d_kv2 := rd_Ij eS64 (by decide) d_kv2
              have d_x21 := rd_Ik eS64 o_v0 o_a3 (by decide) d_x21
              have d_x43 := rd_Ik eS64 o_v0 o_a3 (by decide) d_x43
              obtain ⟨kv65, hkv65⟩ : ∃ z : Int32, z = (2 : Int32) := ⟨_, rfl⟩
              have d_kv65 := rd_Is eS64 hkv65
              have ea3 := rf_I eS64 ea3
              have ea55 := rf_I eS64 ea55
              have ea58 := rf_I eS64 ea58
              have l_a55 := ln_I eS64 l_a55
              have l_a58 := ln_I eS64 l_a58
              have g0 := gr_I eS64 g0
              have o_a3 := ob_I eS64 o_a3
              have o_a55 := ob_I eS64 o_a55
              have o_a58 := ob_I eS64 o_a58
              have o_v0 := ob_I eS64 o_v0
              intro S66 eS66
              have hIn : IV S66 := by rw [eS66]; exact iv11_sI hI o_v0 (by decide) (nu_free (by decide))
              have hI := hIn
              have f0 := fr_I eS66 g0 f0 o_v0 (by decide)
              have d_kv2 := rd_Ij eS66 (by decide) d_kv2
              have d_x21 := rd_Ik eS66 o_v0 o_a3 (by decide) d_x21
              have d_x43 := rd_Ik eS66 o_v0 o_a3 (by decide) d_x43
              have d_kv65 := rd_Ij eS66 (by decide) d_kv65
              obtain ⟨kv67, hkv67⟩ : ∃ z : Int32, z = (-1 : Int32) := ⟨_, rfl⟩
              have d_kv67 := rd_Is eS66 hkv67
              have ea3 := rf_I eS66 ea3
              have ea55 := rf_I eS66 ea55
              have ea58 := rf_I eS66 ea58
              have l_a55 := ln_I eS66 l_a55
              have l_a58 := ln_I eS66 l_a58
              have g0 := gr_I eS66 g0
              have o_a3 := ob_I eS66 o_a3
              have o_a55 := ob_I eS66 o_a55
              have o_a58 := ob_I eS66 o_a58
              have o_v0 := ob_I eS66 o_v0
              intro _
              exact hq _ _ hI g0 f0
            · refine ⟨fun c69 => ?_, fun c69 => ?_⟩
              · intro _ _
                refine ⟨(Or.inl rfl), ?_⟩
                intro _ _
                refine ⟨fun c72 => ?_, fun c72 => absurd (show ¬ (0 : Int32) = 0 from c72) (by decide)⟩
                refine u_X11_refused ?_
                refine u_X11_refused_0 ?_
                refine ⟨o_v0, ?_⟩
                intro S73 eS73
                have hIn : IV S73 := by rw [eS73]; exact iv11_sI hI o_v0 (by decide) (nu_free (by decide))
                have hI := hIn
                have f0 := fr_I eS73 g0 f0 o_v0 (by decide)
                have d_kv2 := rd_Ij eS73 (by decide) d_kv2
                have d_x21 := rd_Ik eS73 o_v0 o_a3 (by decide) d_x21
                have d_x43 := rd_Ik eS73 o_v0 o_a3 (by decide) d_x43
                obtain ⟨kv74, hkv74⟩ : ∃ z : Int32, z = (2 : Int32) := ⟨_, rfl⟩
                have d_kv74 := rd_Is eS73 hkv74
                have ea3 := rf_I eS73 ea3
                have ea55 := rf_I eS73 ea55
                have ea58 := rf_I eS73 ea58
                have l_a55 := ln_I eS73 l_a55
                have l_a58 := ln_I eS73 l_a58
                have g0 := gr_I eS73 g0
                have o_a3 := ob_I eS73 o_a3
                have o_a55 := ob_I eS73 o_a55
                have o_a58 := ob_I eS73 o_a58
                have o_v0 := ob_I eS73 o_v0
                intro S75 eS75
                have hIn : IV S75 := by rw [eS75]; exact iv11_sI hI o_v0 (by decide) (nu_free (by decide))
                have hI := hIn
                have f0 := fr_I eS75 g0 f0 o_v0 (by decide)
                have d_kv2 := rd_Ij eS75 (by decide) d_kv2
                have d_x21 := rd_Ik eS75 o_v0 o_a3 (by decide) d_x21
                have d_x43 := rd_Ik eS75 o_v0 o_a3 (by decide) d_x43
                have d_kv74 := rd_Ij eS75 (by decide) d_kv74
                obtain ⟨kv76, hkv76⟩ : ∃ z : Int32, z = (-1 : Int32) := ⟨_, rfl⟩
                have d_kv76 := rd_Is eS75 hkv76
                have ea3 := rf_I eS75 ea3
                have ea55 := rf_I eS75 ea55
                have ea58 := rf_I eS75 ea58
                have l_a55 := ln_I eS75 l_a55
                have l_a58 := ln_I eS75 l_a58
                have g0 := gr_I eS75 g0
                have o_a3 := ob_I eS75 o_a3
                have o_a55 := ob_I eS75 o_a55
                have o_a58 := ob_I eS75 o_a58
                have o_v0 := ob_I eS75 o_v0
                intro _
                exact hq _ _ hI g0 f0
              · intro _ _
                refine ⟨(Or.inr rfl), ?_⟩
                intro _ _
                refine ⟨fun c80 => absurd (show (1 : Int32) = 0 from c80) (by decide), fun c80 => ?_⟩
                refine ⟨a3, ea3, ?_⟩
                refine ⟨o_a3, ?_⟩
                refine u_X10_minutes ?_
                refine u_X10_minutes_0 ?_
                refine ⟨o_a3, ?_⟩
                obtain ⟨a82, ea82, o_a82, l_a82⟩ := shl 38 rfl hI o_a3
                refine ⟨a82, ea82, ?_⟩
                refine ⟨o_a82, ?_⟩
                refine ⟨(vin l_a82 (m := 12) (by decide) (qm708 c12 r_x21 c22 c34 r_x43 c44 g_x56 g_x59 c60 c69)), ?_⟩
                intro x83 ex83
                have gy_x83 : 0 ≤ v2 ∧ v2 < fI S1 a3 3 := by rw [← d_x43]; exact (qm709 c12 r_x21 c22 c34 r_x43 c44 g_x56 g_x59 c60 c69)
                have g_x83 : (1 : Int32) ≤ x83 ∧ x83 ≤ (60 : Int32) := by rw [ex83]; exact wg_at (ml_wg hI o_v0 ea3) 2 rfl gy_x83 ea82
                refine ⟨(qm710 c12 r_x21 c22 c34 r_x43 c44 g_x56 g_x59 c60 c69), ?_⟩
                intro x84 ex84
                have dv_x84 : 0 ≤ x84 ∧ x84 ≤ ((x83 + v3) - (1 : Int32)) := by rw [ex84]; exact dv0 (qm711 c12 r_x21 c22 c34 r_x43 c44 g_x56 g_x59 c60 c69 g_x83 ex84) (i32pos (qm712 c12 r_x21 c22 c34 r_x43 c44 g_x56 g_x59 c60 c69 g_x83 ex84))
                have dw_x84 : (1 : Int32) ≤ x84 := by rw [ex84]; exact dv1 (qm713 c12 r_x21 c22 c34 r_x43 c44 g_x56 g_x59 c60 c69 g_x83 ex84) (qm714 c12 r_x21 c22 c34 r_x43 c44 g_x56 g_x59 c60 c69 g_x83 ex84)
                intro _
                refine u_X11_good ?_
                refine u_X11_good_0 ?_
                refine ⟨o_v0, ?_⟩
                intro S86 eS86
                have hIn : IV S86 := by rw [eS86]; exact iv11_sI hI o_v0 (by decide) (nu_free (by decide))
                have hI := hIn
                have f0 := fr_I eS86 g0 f0 o_v0 (by decide)
                have d_kv2 := rd_Ij eS86 (by decide) d_kv2
                have d_x21 := rd_Ik eS86 o_v0 o_a3 (by decide) d_x21
                have d_x43 := rd_Ik eS86 o_v0 o_a3 (by decide) d_x43
                obtain ⟨kv87, hkv87⟩ : ∃ z : Int32, z = (0 : Int32) := ⟨_, rfl⟩
                have d_kv87 := rd_Is eS86 hkv87
                have ea3 := rf_I eS86 ea3
                have ea55 := rf_I eS86 ea55
                have ea58 := rf_I eS86 ea58
                have ea82 := rf_I eS86 ea82
                have l_a55 := ln_I eS86 l_a55
                have l_a58 := ln_I eS86 l_a58
                have l_a82 := ln_I eS86 l_a82
                have g0 := gr_I eS86 g0
                have o_a3 := ob_I eS86 o_a3
                have o_a55 := ob_I eS86 o_a55
                have o_a58 := ob_I eS86 o_a58
                have o_a82 := ob_I eS86 o_a82
                have o_v0 := ob_I eS86 o_v0
                intro S88 eS88
                have hIn : IV S88 := by rw [eS88]; exact iv11_sI hI o_v0 (by decide) (nu_free (by decide))
                have hI := hIn
                have f0 := fr_I eS88 g0 f0 o_v0 (by decide)
                have d_kv2 := rd_Ij eS88 (by decide) d_kv2
                have d_x21 := rd_Ik eS88 o_v0 o_a3 (by decide) d_x21
                have d_x43 := rd_Ik eS88 o_v0 o_a3 (by decide) d_x43
                have d_kv87 := rd_Ij eS88 (by decide) d_kv87
                obtain ⟨kv89, hkv89⟩ : ∃ z : Int32, z = (-1 : Int32) := ⟨_, rfl⟩
                have d_kv89 := rd_Is eS88 hkv89
                have ea3 := rf_I eS88 ea3
                have ea55 := rf_I eS88 ea55
                have ea58 := rf_I eS88 ea58
                have ea82 := rf_I eS88 ea82
                have l_a55 := ln_I eS88 l_a55
                have l_a58 := ln_I eS88 l_a58
                have l_a82 := ln_I eS88 l_a82
                have g0 := gr_I eS88 g0
                have o_a3 := ob_I eS88 o_a3
                have o_a55 := ob_I eS88 o_a55
                have o_a58 := ob_I eS88 o_a58
                have o_a82 := ob_I eS88 o_a82
                have o_v0 := ob_I eS88 o_v0
                intro _
                exact hq _ _ hI g0 f0
set_option maxHeartbeats 4000000 in
set_option maxRecDepth 20000 in
theorem m_X11_road {v0 : Nat} {v1 : Int32} {v2 : Int32} {Q : Int32 → HS → Prop} {S : HS} (hI : IV S) (o_v0 : ob S v0 11)     (hq : ∀ (r : Int32) (T : HS), IV T → Gr S T → FRI [(11, 0), (11, 1), (11, 2)] [] S T → Q r T) : P_X11_road v0 v1 v2 Q S := by
  have g0 := gr_rf S
  have f0 := fri_rf [(11, 0), (11, 1), (11, 2)] [] S
  refine u_X11_road ?_
  refine u_X11_road_0 ?_
  refine ⟨o_v0, ?_⟩
  intro S1 eS1
  have hIn : IV S1 := by rw [eS1]; exact iv11_sI hI o_v0 (by decide) (nu_free (by decide))
  have hI := hIn
  have f0 := fr_I eS1 g0 f0 o_v0 (by decide)
  obtain ⟨kv2, hkv2⟩ : ∃ z : Int32, z = (0 : Int32) := ⟨_, rfl⟩
  have d_kv2 := rd_Is eS1 hkv2
  have g0 := gr_I eS1 g0
  have o_v0 := ob_I eS1 o_v0
  refine u_X11_isRoad ?_
  refine u_X11_isRoad_0 ?_
  refine ⟨o_v0, ?_⟩
  refine ⟨fun e4 => ?_, fun a3 ea3 => ?_⟩
  · intro _ _
    refine ⟨fun c6 => ?_, fun c6 => absurd (show ¬ (0 : Int32) = 0 from c6) (by decide)⟩
    refine u_X11_road_22 ?_
    refine ⟨o_v0, ?_⟩
    refine u_X11_refused ?_
    refine u_X11_refused_0 ?_
    refine ⟨o_v0, ?_⟩
    intro S7 eS7
    have hIn : IV S7 := by rw [eS7]; exact iv11_sI hI o_v0 (by decide) (nu_free (by decide))
    have hI := hIn
    have f0 := fr_I eS7 g0 f0 o_v0 (by decide)
    have d_kv2 := rd_Ij eS7 (by decide) d_kv2
    obtain ⟨kv8, hkv8⟩ : ∃ z : Int32, z = (1 : Int32) := ⟨_, rfl⟩
    have d_kv8 := rd_Is eS7 hkv8
    have g0 := gr_I eS7 g0
    have o_v0 := ob_I eS7 o_v0
    intro S9 eS9
    have hIn : IV S9 := by rw [eS9]; exact iv11_sI hI o_v0 (by decide) (nu_free (by decide))
    have hI := hIn
    have f0 := fr_I eS9 g0 f0 o_v0 (by decide)
    have d_kv2 := rd_Ij eS9 (by decide) d_kv2
    have d_kv8 := rd_Ij eS9 (by decide) d_kv8
    obtain ⟨kv10, hkv10⟩ : ∃ z : Int32, z = (-1 : Int32) := ⟨_, rfl⟩
    have d_kv10 := rd_Is eS9 hkv10
    have g0 := gr_I eS9 g0
    have o_v0 := ob_I eS9 o_v0
    intro _
    exact hq _ _ hI g0 f0
  · have o_a3 := ml_ob hI o_v0 ea3
    refine ⟨fun c12 => ?_, fun c12 => ?_⟩
    · intro _ _
      refine ⟨fun c14 => ?_, fun c14 => absurd (show ¬ (0 : Int32) = 0 from c14) (by decide)⟩
      refine u_X11_road_22 ?_
      refine ⟨o_v0, ?_⟩
      refine u_X11_refused ?_
      refine u_X11_refused_0 ?_
      refine ⟨o_v0, ?_⟩
      intro S15 eS15
      have hIn : IV S15 := by rw [eS15]; exact iv11_sI hI o_v0 (by decide) (nu_free (by decide))
      have hI := hIn
      have f0 := fr_I eS15 g0 f0 o_v0 (by decide)
      have d_kv2 := rd_Ij eS15 (by decide) d_kv2
      obtain ⟨kv16, hkv16⟩ : ∃ z : Int32, z = (1 : Int32) := ⟨_, rfl⟩
      have d_kv16 := rd_Is eS15 hkv16
      have ea3 := rf_I eS15 ea3
      have g0 := gr_I eS15 g0
      have o_a3 := ob_I eS15 o_a3
      have o_v0 := ob_I eS15 o_v0
      intro S17 eS17
      have hIn : IV S17 := by rw [eS17]; exact iv11_sI hI o_v0 (by decide) (nu_free (by decide))
      have hI := hIn
      have f0 := fr_I eS17 g0 f0 o_v0 (by decide)
      have d_kv2 := rd_Ij eS17 (by decide) d_kv2
      have d_kv16 := rd_Ij eS17 (by decide) d_kv16
      obtain ⟨kv18, hkv18⟩ : ∃ z : Int32, z = (-1 : Int32) := ⟨_, rfl⟩
      have d_kv18 := rd_Is eS17 hkv18
      have ea3 := rf_I eS17 ea3
      have g0 := gr_I eS17 g0
      have o_a3 := ob_I eS17 o_a3
      have o_v0 := ob_I eS17 o_v0
      intro _
      exact hq _ _ hI g0 f0
    · refine ⟨a3, ea3, ?_⟩
      refine ⟨o_a3, ?_⟩
      intro x21 ex21
      have r_x21 : (0 : Int32) ≤ x21 ∧ x21 ≤ (12 : Int32) := by rw [ex21]; exact nu 19 rfl hI o_a3
      have d_x21 := ex21
      refine ⟨fun c22 => ?_, fun c22 => ?_⟩
      · intro _ _
        refine ⟨fun c24 => ?_, fun c24 => absurd (show ¬ (0 : Int32) = 0 from c24) (by decide)⟩
        refine u_X11_road_22 ?_
        refine ⟨o_v0, ?_⟩
        refine u_X11_refused ?_
        refine u_X11_refused_0 ?_
        refine ⟨o_v0, ?_⟩
        intro S25 eS25
        have hIn : IV S25 := by rw [eS25]; exact iv11_sI hI o_v0 (by decide) (nu_free (by decide))
        have hI := hIn
        have f0 := fr_I eS25 g0 f0 o_v0 (by decide)
        have d_kv2 := rd_Ij eS25 (by decide) d_kv2
        have d_x21 := rd_Ik eS25 o_v0 o_a3 (by decide) d_x21
        obtain ⟨kv26, hkv26⟩ : ∃ z : Int32, z = (1 : Int32) := ⟨_, rfl⟩
        have d_kv26 := rd_Is eS25 hkv26
        have ea3 := rf_I eS25 ea3
        have g0 := gr_I eS25 g0
        have o_a3 := ob_I eS25 o_a3
        have o_v0 := ob_I eS25 o_v0
        intro S27 eS27
        have hIn : IV S27 := by rw [eS27]; exact iv11_sI hI o_v0 (by decide) (nu_free (by decide))
        have hI := hIn
        have f0 := fr_I eS27 g0 f0 o_v0 (by decide)
        have d_kv2 := rd_Ij eS27 (by decide) d_kv2
        have d_x21 := rd_Ik eS27 o_v0 o_a3 (by decide) d_x21
        have d_kv26 := rd_Ij eS27 (by decide) d_kv26
        obtain ⟨kv28, hkv28⟩ : ∃ z : Int32, z = (-1 : Int32) := ⟨_, rfl⟩
        have d_kv28 := rd_Is eS27 hkv28
        have ea3 := rf_I eS27 ea3
        have g0 := gr_I eS27 g0
        have o_a3 := ob_I eS27 o_a3
        have o_v0 := ob_I eS27 o_v0
        intro _
        exact hq _ _ hI g0 f0
      · intro _ _
        refine ⟨fun c31 => absurd (show (1 : Int32) = 0 from c31) (by decide), fun c31 => ?_⟩
        refine u_X11_in ?_
        refine u_X11_in_0 ?_
        refine ⟨fun c32 => ?_, fun c32 => ?_⟩
        · intro _ _
          refine ⟨fun c34 => absurd (show ¬ (0 : Int32) = 0 from c34) (by decide), fun c34 => ?_⟩
          refine u_X11_road_22 ?_
          refine ⟨o_v0, ?_⟩
          refine u_X11_refused ?_
          refine u_X11_refused_0 ?_
          refine ⟨o_v0, ?_⟩
          intro S35 eS35
          have hIn : IV S35 := by rw [eS35]; exact iv11_sI hI o_v0 (by decide) (nu_free (by decide))
          have hI := hIn
          have f0 := fr_I eS35 g0 f0 o_v0 (by decide)
          have d_kv2 := rd_Ij eS35 (by decide) d_kv2
          have d_x21 := rd_Ik eS35 o_v0 o_a3 (by decide) d_x21
          obtain ⟨kv36, hkv36⟩ : ∃ z : Int32, z = (1 : Int32) := ⟨_, rfl⟩
          have d_kv36 := rd_Is eS35 hkv36
          have ea3 := rf_I eS35 ea3
          have g0 := gr_I eS35 g0
          have o_a3 := ob_I eS35 o_a3
          have o_v0 := ob_I eS35 o_v0
          intro S37 eS37
          have hIn : IV S37 := by rw [eS37]; exact iv11_sI hI o_v0 (by decide) (nu_free (by decide))
          have hI := hIn
          have f0 := fr_I eS37 g0 f0 o_v0 (by decide)
          have d_kv2 := rd_Ij eS37 (by decide) d_kv2
          have d_x21 := rd_Ik eS37 o_v0 o_a3 (by decide) d_x21
          have d_kv36 := rd_Ij eS37 (by decide) d_kv36
          obtain ⟨kv38, hkv38⟩ : ∃ z : Int32, z = (-1 : Int32) := ⟨_, rfl⟩
          have d_kv38 := rd_Is eS37 hkv38
          have ea3 := rf_I eS37 ea3
          have g0 := gr_I eS37 g0
          have o_a3 := ob_I eS37 o_a3
          have o_v0 := ob_I eS37 o_v0
          intro _
          exact hq _ _ hI g0 f0
        · refine ⟨fun c40 => ?_, fun c40 => ?_⟩
          · intro _ _
            refine ⟨fun c42 => absurd (show ¬ (0 : Int32) = 0 from c42) (by decide), fun c42 => ?_⟩
            refine u_X11_road_22 ?_
            refine ⟨o_v0, ?_⟩
            refine u_X11_refused ?_
            refine u_X11_refused_0 ?_
            refine ⟨o_v0, ?_⟩
            intro S43 eS43
            have hIn : IV S43 := by rw [eS43]; exact iv11_sI hI o_v0 (by decide) (nu_free (by decide))
            have hI := hIn
            have f0 := fr_I eS43 g0 f0 o_v0 (by decide)
            have d_kv2 := rd_Ij eS43 (by decide) d_kv2
            have d_x21 := rd_Ik eS43 o_v0 o_a3 (by decide) d_x21
            obtain ⟨kv44, hkv44⟩ : ∃ z : Int32, z = (1 : Int32) := ⟨_, rfl⟩
            have d_kv44 := rd_Is eS43 hkv44
            have ea3 := rf_I eS43 ea3
            have g0 := gr_I eS43 g0
            have o_a3 := ob_I eS43 o_a3
            have o_v0 := ob_I eS43 o_v0
            intro S45 eS45
            have hIn : IV S45 := by rw [eS45]; exact iv11_sI hI o_v0 (by decide) (nu_free (by decide))
            have hI := hIn
            have f0 := fr_I eS45 g0 f0 o_v0 (by decide)
            have d_kv2 := rd_Ij eS45 (by decide) d_kv2
            have d_x21 := rd_Ik eS45 o_v0 o_a3 (by decide) d_x21
            have d_kv44 := rd_Ij eS45 (by decide) d_kv44
            obtain ⟨kv46, hkv46⟩ : ∃ z : Int32, z = (-1 : Int32) := ⟨_, rfl⟩
            have d_kv46 := rd_Is eS45 hkv46
            have ea3 := rf_I eS45 ea3
            have g0 := gr_I eS45 g0
            have o_a3 := ob_I eS45 o_a3
            have o_v0 := ob_I eS45 o_v0
            intro _
            exact hq _ _ hI g0 f0
          · intro _ _
            refine ⟨fun c49 => ?_, fun c49 => absurd (show (1 : Int32) = 0 from c49) (by decide)⟩
            refine ⟨fun c50 => ?_, fun c50 => ?_, fun c50 => ?_, fun c50 => ?_, fun c50 => ?_⟩
            · refine ⟨a3, ea3, ?_⟩
              refine ⟨o_a3, ?_⟩
              obtain ⟨a52, ea52, o_a52, l_a52⟩ := shl 39 rfl hI o_a3
              refine ⟨a52, ea52, ?_⟩
              refine ⟨o_a52, ?_⟩
              refine ⟨(vin l_a52 (m := 12) (by decide) (qm538 c12 r_x21 c22 c32 c40)), ?_⟩
              intro x53 ex53
              refine u_X11_good ?_
              refine u_X11_good_0 ?_
              refine ⟨o_v0, ?_⟩
              intro S54 eS54
              have hIn : IV S54 := by rw [eS54]; exact iv11_sI hI o_v0 (by decide) (nu_free (by decide))
              have hI := hIn
              have f0 := fr_I eS54 g0 f0 o_v0 (by decide)
              have d_kv2 := rd_Ij eS54 (by decide) d_kv2
              have d_x21 := rd_Ik eS54 o_v0 o_a3 (by decide) d_x21
              obtain ⟨kv55, hkv55⟩ : ∃ z : Int32, z = (0 : Int32) := ⟨_, rfl⟩
              have d_kv55 := rd_Is eS54 hkv55
              have ea3 := rf_I eS54 ea3
              have ea52 := rf_I eS54 ea52
              have l_a52 := ln_I eS54 l_a52
              have g0 := gr_I eS54 g0
              have o_a3 := ob_I eS54 o_a3
              have o_a52 := ob_I eS54 o_a52
              have o_v0 := ob_I eS54 o_v0
              intro S56 eS56
              have hIn : IV S56 := by rw [eS56]; exact iv11_sI hI o_v0 (by decide) (nu_free (by decide))
              have hI := hIn
              have f0 := fr_I eS56 g0 f0 o_v0 (by decide)
              have d_kv2 := rd_Ij eS56 (by decide) d_kv2
              have d_x21 := rd_Ik eS56 o_v0 o_a3 (by decide) d_x21
              have d_kv55 := rd_Ij eS56 (by decide) d_kv55
              obtain ⟨kv57, hkv57⟩ : ∃ z : Int32, z = (-1 : Int32) := ⟨_, rfl⟩
              have d_kv57 := rd_Is eS56 hkv57
              have ea3 := rf_I eS56 ea3
              have ea52 := rf_I eS56 ea52
              have l_a52 := ln_I eS56 l_a52
              have g0 := gr_I eS56 g0
              have o_a3 := ob_I eS56 o_a3
              have o_a52 := ob_I eS56 o_a52
              have o_v0 := ob_I eS56 o_v0
              intro _
              exact hq _ _ hI g0 f0
            · refine ⟨a3, ea3, ?_⟩
              refine ⟨o_a3, ?_⟩
              obtain ⟨a60, ea60, o_a60, l_a60⟩ := shl 35 rfl hI o_a3
              refine ⟨a60, ea60, ?_⟩
              refine ⟨o_a60, ?_⟩
              refine ⟨(vin l_a60 (m := 12) (by decide) (qm538 c12 r_x21 c22 c32 c40)), ?_⟩
              intro x61 ex61
              refine u_X11_good ?_
              refine u_X11_good_0 ?_
              refine ⟨o_v0, ?_⟩
              intro S62 eS62
              have hIn : IV S62 := by rw [eS62]; exact iv11_sI hI o_v0 (by decide) (nu_free (by decide))
              have hI := hIn
              have f0 := fr_I eS62 g0 f0 o_v0 (by decide)
              have d_kv2 := rd_Ij eS62 (by decide) d_kv2
              have d_x21 := rd_Ik eS62 o_v0 o_a3 (by decide) d_x21
              obtain ⟨kv63, hkv63⟩ : ∃ z : Int32, z = (0 : Int32) := ⟨_, rfl⟩
              have d_kv63 := rd_Is eS62 hkv63
              have ea3 := rf_I eS62 ea3
              have ea60 := rf_I eS62 ea60
              have l_a60 := ln_I eS62 l_a60
              have g0 := gr_I eS62 g0
              have o_a3 := ob_I eS62 o_a3
              have o_a60 := ob_I eS62 o_a60
              have o_v0 := ob_I eS62 o_v0
              intro S64 eS64
              have hIn : IV S64 := by rw [eS64]; exact iv11_sI hI o_v0 (by decide) (nu_free (by decide))
              have hI := hIn
              have f0 := fr_I eS64 g0 f0 o_v0 (by decide)
              have d_kv2 := rd_Ij eS64 (by decide) d_kv2
              have d_x21 := rd_Ik eS64 o_v0 o_a3 (by decide) d_x21
              have d_kv63 := rd_Ij eS64 (by decide) d_kv63
              obtain ⟨kv65, hkv65⟩ : ∃ z : Int32, z = (-1 : Int32) := ⟨_, rfl⟩
              have d_kv65 := rd_Is eS64 hkv65
              have ea3 := rf_I eS64 ea3
              have ea60 := rf_I eS64 ea60
              have l_a60 := ln_I eS64 l_a60
              have g0 := gr_I eS64 g0
              have o_a3 := ob_I eS64 o_a3
              have o_a60 := ob_I eS64 o_a60
              have o_v0 := ob_I eS64 o_v0
              intro _
              exact hq _ _ hI g0 f0
            · refine ⟨a3, ea3, ?_⟩
              refine ⟨o_a3, ?_⟩
              obtain ⟨a68, ea68, o_a68, l_a68⟩ := shl 36 rfl hI o_a3
              refine ⟨a68, ea68, ?_⟩
              refine ⟨o_a68, ?_⟩
              refine ⟨(vin l_a68 (m := 12) (by decide) (qm538 c12 r_x21 c22 c32 c40)), ?_⟩
              intro x69 ex69
              refine u_X11_good ?_
              refine u_X11_good_0 ?_
              refine ⟨o_v0, ?_⟩
              intro S70 eS70
              have hIn : IV S70 := by rw [eS70]; exact iv11_sI hI o_v0 (by decide) (nu_free (by decide))
              have hI := hIn
              have f0 := fr_I eS70 g0 f0 o_v0 (by decide)
              have d_kv2 := rd_Ij eS70 (by decide) d_kv2
              have d_x21 := rd_Ik eS70 o_v0 o_a3 (by decide) d_x21
              obtain ⟨kv71, hkv71⟩ : ∃ z : Int32, z = (0 : Int32) := ⟨_, rfl⟩
              have d_kv71 := rd_Is eS70 hkv71
              have ea3 := rf_I eS70 ea3
              have ea68 := rf_I eS70 ea68
              have l_a68 := ln_I eS70 l_a68
              have g0 := gr_I eS70 g0
              have o_a3 := ob_I eS70 o_a3
              have o_a68 := ob_I eS70 o_a68
              have o_v0 := ob_I eS70 o_v0
              intro S72 eS72
              have hIn : IV S72 := by rw [eS72]; exact iv11_sI hI o_v0 (by decide) (nu_free (by decide))
              have hI := hIn
              have f0 := fr_I eS72 g0 f0 o_v0 (by decide)
              have d_kv2 := rd_Ij eS72 (by decide) d_kv2
              have d_x21 := rd_Ik eS72 o_v0 o_a3 (by decide) d_x21
              have d_kv71 := rd_Ij eS72 (by decide) d_kv71
              obtain ⟨kv73, hkv73⟩ : ∃ z : Int32, z = (-1 : Int32) := ⟨_, rfl⟩
              have d_kv73 := rd_Is eS72 hkv73
              have ea3 := rf_I eS72 ea3
              have ea68 := rf_I eS72 ea68
              have l_a68 := ln_I eS72 l_a68
              have g0 := gr_I eS72 g0
              have o_a3 := ob_I eS72 o_a3
              have o_a68 := ob_I eS72 o_a68
              have o_v0 := ob_I eS72 o_v0
              intro _
              exact hq _ _ hI g0 f0
            · refine ⟨a3, ea3, ?_⟩
              refine ⟨o_a3, ?_⟩
              obtain ⟨a76, ea76, o_a76, l_a76⟩ := shl 37 rfl hI o_a3
              refine ⟨a76, ea76, ?_⟩
              refine ⟨o_a76, ?_⟩
              refine ⟨(vin l_a76 (m := 12) (by decide) (qm538 c12 r_x21 c22 c32 c40)), ?_⟩
              intro x77 ex77
              refine u_X11_good ?_
              refine u_X11_good_0 ?_
              refine ⟨o_v0, ?_⟩
              intro S78 eS78
              have hIn : IV S78 := by rw [eS78]; exact iv11_sI hI o_v0 (by decide) (nu_free (by decide))
              have hI := hIn
              have f0 := fr_I eS78 g0 f0 o_v0 (by decide)
              have d_kv2 := rd_Ij eS78 (by decide) d_kv2
              have d_x21 := rd_Ik eS78 o_v0 o_a3 (by decide) d_x21
              obtain ⟨kv79, hkv79⟩ : ∃ z : Int32, z = (0 : Int32) := ⟨_, rfl⟩
              have d_kv79 := rd_Is eS78 hkv79
              have ea3 := rf_I eS78 ea3
              have ea76 := rf_I eS78 ea76
              have l_a76 := ln_I eS78 l_a76
              have g0 := gr_I eS78 g0
              have o_a3 := ob_I eS78 o_a3
              have o_a76 := ob_I eS78 o_a76
              have o_v0 := ob_I eS78 o_v0
              intro S80 eS80
              have hIn : IV S80 := by rw [eS80]; exact iv11_sI hI o_v0 (by decide) (nu_free (by decide))
              have hI := hIn
              have f0 := fr_I eS80 g0 f0 o_v0 (by decide)
              have d_kv2 := rd_Ij eS80 (by decide) d_kv2
              have d_x21 := rd_Ik eS80 o_v0 o_a3 (by decide) d_x21
              have d_kv79 := rd_Ij eS80 (by decide) d_kv79
              obtain ⟨kv81, hkv81⟩ : ∃ z : Int32, z = (-1 : Int32) := ⟨_, rfl⟩
              have d_kv81 := rd_Is eS80 hkv81
              have ea3 := rf_I eS80 ea3
              have ea76 := rf_I eS80 ea76
              have l_a76 := ln_I eS80 l_a76
              have g0 := gr_I eS80 g0
              have o_a3 := ob_I eS80 o_a3
              have o_a76 := ob_I eS80 o_a76
              have o_v0 := ob_I eS80 o_v0
              intro _
              exact hq _ _ hI g0 f0
            · refine ⟨a3, ea3, ?_⟩
              refine ⟨o_a3, ?_⟩
              obtain ⟨a84, ea84, o_a84, l_a84⟩ := shl 38 rfl hI o_a3
              refine ⟨a84, ea84, ?_⟩
              refine ⟨o_a84, ?_⟩
              refine ⟨(vin l_a84 (m := 12) (by decide) (qm538 c12 r_x21 c22 c32 c40)), ?_⟩
              intro x85 ex85
              refine u_X11_good ?_
              refine u_X11_good_0 ?_
              refine ⟨o_v0, ?_⟩
              intro S86 eS86
              have hIn : IV S86 := by rw [eS86]; exact iv11_sI hI o_v0 (by decide) (nu_free (by decide))
              have hI := hIn
              have f0 := fr_I eS86 g0 f0 o_v0 (by decide)
              have d_kv2 := rd_Ij eS86 (by decide) d_kv2
              have d_x21 := rd_Ik eS86 o_v0 o_a3 (by decide) d_x21
              obtain ⟨kv87, hkv87⟩ : ∃ z : Int32, z = (0 : Int32) := ⟨_, rfl⟩
              have d_kv87 := rd_Is eS86 hkv87
              have ea3 := rf_I eS86 ea3
              have ea84 := rf_I eS86 ea84
              have l_a84 := ln_I eS86 l_a84
              have g0 := gr_I eS86 g0
              have o_a3 := ob_I eS86 o_a3
              have o_a84 := ob_I eS86 o_a84
              have o_v0 := ob_I eS86 o_v0
              intro S88 eS88
              have hIn : IV S88 := by rw [eS88]; exact iv11_sI hI o_v0 (by decide) (nu_free (by decide))
              have hI := hIn
              have f0 := fr_I eS88 g0 f0 o_v0 (by decide)
              have d_kv2 := rd_Ij eS88 (by decide) d_kv2
              have d_x21 := rd_Ik eS88 o_v0 o_a3 (by decide) d_x21
              have d_kv87 := rd_Ij eS88 (by decide) d_kv87
              obtain ⟨kv89, hkv89⟩ : ∃ z : Int32, z = (-1 : Int32) := ⟨_, rfl⟩
              have d_kv89 := rd_Is eS88 hkv89
              have ea3 := rf_I eS88 ea3
              have ea84 := rf_I eS88 ea84
              have l_a84 := ln_I eS88 l_a84
              have g0 := gr_I eS88 g0
              have o_a3 := ob_I eS88 o_a3
              have o_a84 := ob_I eS88 o_a84
              have o_v0 := ob_I eS88 o_v0
              intro _
              exact hq _ _ hI g0 f0
set_option maxHeartbeats 4000000 in
set_option maxRecDepth 20000 in
theorem m_X11_round {v0 : Nat} {v1 : Int32} {v2 : Int32} {v3 : Int32} {v4 : Int32} {Q : Int64 → HS → Prop} {S : HS} (hI : IV S) (o_v0 : ob S v0 11)     (hq : ∀ (r : Int64) (T : HS), IV T → Gr S T → FRI [(11, 0), (11, 1), (11, 2)] [] S T → Q r T) : P_X11_round v0 v1 v2 v3 v4 Q S := by
  have g0 := gr_rf S
  have f0 := fri_rf [(11, 0), (11, 1), (11, 2)] [] S
  refine u_X11_round ?_
  refine u_X11_round_0 ?_
  refine ⟨o_v0, ?_⟩
  intro S1 eS1
  have hIn : IV S1 := by rw [eS1]; exact iv11_sI hI o_v0 (by decide) (nu_free (by decide))
  have hI := hIn
  have f0 := fr_I eS1 g0 f0 o_v0 (by decide)
  obtain ⟨kv2, hkv2⟩ : ∃ z : Int32, z = (0 : Int32) := ⟨_, rfl⟩
  have d_kv2 := rd_Is eS1 hkv2
  have g0 := gr_I eS1 g0
  have o_v0 := ob_I eS1 o_v0
  refine u_X11_isWalker ?_
  refine u_X11_isWalker_0 ?_
  refine ⟨o_v0, ?_⟩
  refine ⟨fun e4 => ?_, fun a3 ea3 => ?_⟩
  · intro _ _
    refine ⟨fun c6 => ?_, fun c6 => absurd (show ¬ (0 : Int32) = 0 from c6) (by decide)⟩
    refine u_X11_round_29 ?_
    refine ⟨o_v0, ?_⟩
    refine u_X11_refused ?_
    refine u_X11_refused_0 ?_
    refine ⟨o_v0, ?_⟩
    intro S7 eS7
    have hIn : IV S7 := by rw [eS7]; exact iv11_sI hI o_v0 (by decide) (nu_free (by decide))
    have hI := hIn
    have f0 := fr_I eS7 g0 f0 o_v0 (by decide)
    have d_kv2 := rd_Ij eS7 (by decide) d_kv2
    obtain ⟨kv8, hkv8⟩ : ∃ z : Int32, z = (1 : Int32) := ⟨_, rfl⟩
    have d_kv8 := rd_Is eS7 hkv8
    have g0 := gr_I eS7 g0
    have o_v0 := ob_I eS7 o_v0
    intro S9 eS9
    have hIn : IV S9 := by rw [eS9]; exact iv11_sI hI o_v0 (by decide) (nu_free (by decide))
    have hI := hIn
    have f0 := fr_I eS9 g0 f0 o_v0 (by decide)
    have d_kv2 := rd_Ij eS9 (by decide) d_kv2
    have d_kv8 := rd_Ij eS9 (by decide) d_kv8
    obtain ⟨kv10, hkv10⟩ : ∃ z : Int32, z = (-1 : Int32) := ⟨_, rfl⟩
    have d_kv10 := rd_Is eS9 hkv10
    have g0 := gr_I eS9 g0
    have o_v0 := ob_I eS9 o_v0
    intro _
    exact hq _ _ hI g0 f0
  · have o_a3 := ml_ob hI o_v0 ea3
    refine ⟨fun c12 => ?_, fun c12 => ?_⟩
    · intro _ _
      refine ⟨fun c14 => ?_, fun c14 => absurd (show ¬ (0 : Int32) = 0 from c14) (by decide)⟩
      refine u_X11_round_29 ?_
      refine ⟨o_v0, ?_⟩
      refine u_X11_refused ?_
      refine u_X11_refused_0 ?_
      refine ⟨o_v0, ?_⟩
      intro S15 eS15
      have hIn : IV S15 := by rw [eS15]; exact iv11_sI hI o_v0 (by decide) (nu_free (by decide))
      have hI := hIn
      have f0 := fr_I eS15 g0 f0 o_v0 (by decide)
      have d_kv2 := rd_Ij eS15 (by decide) d_kv2
      obtain ⟨kv16, hkv16⟩ : ∃ z : Int32, z = (1 : Int32) := ⟨_, rfl⟩
      have d_kv16 := rd_Is eS15 hkv16
      have ea3 := rf_I eS15 ea3
      have g0 := gr_I eS15 g0
      have o_a3 := ob_I eS15 o_a3
      have o_v0 := ob_I eS15 o_v0
      intro S17 eS17
      have hIn : IV S17 := by rw [eS17]; exact iv11_sI hI o_v0 (by decide) (nu_free (by decide))
      have hI := hIn
      have f0 := fr_I eS17 g0 f0 o_v0 (by decide)
      have d_kv2 := rd_Ij eS17 (by decide) d_kv2
      have d_kv16 := rd_Ij eS17 (by decide) d_kv16
      obtain ⟨kv18, hkv18⟩ : ∃ z : Int32, z = (-1 : Int32) := ⟨_, rfl⟩
      have d_kv18 := rd_Is eS17 hkv18
      have ea3 := rf_I eS17 ea3
      have g0 := gr_I eS17 g0
      have o_a3 := ob_I eS17 o_a3
      have o_v0 := ob_I eS17 o_v0
      intro _
      exact hq _ _ hI g0 f0
    · refine ⟨a3, ea3, ?_⟩
      refine ⟨o_a3, ?_⟩
      intro x21 ex21
      have r_x21 : (0 : Int32) ≤ x21 ∧ x21 ≤ (4 : Int32) := by rw [ex21]; exact nu 20 rfl hI o_a3
      have d_x21 := ex21
      refine ⟨fun c22 => ?_, fun c22 => ?_⟩
      · intro _ _
        refine ⟨fun c24 => ?_, fun c24 => absurd (show ¬ (0 : Int32) = 0 from c24) (by decide)⟩
        refine u_X11_round_29 ?_
        refine ⟨o_v0, ?_⟩
        refine u_X11_refused ?_
        refine u_X11_refused_0 ?_
        refine ⟨o_v0, ?_⟩
        intro S25 eS25
        have hIn : IV S25 := by rw [eS25]; exact iv11_sI hI o_v0 (by decide) (nu_free (by decide))
        have hI := hIn
        have f0 := fr_I eS25 g0 f0 o_v0 (by decide)
        have d_kv2 := rd_Ij eS25 (by decide) d_kv2
        have d_x21 := rd_Ik eS25 o_v0 o_a3 (by decide) d_x21
        obtain ⟨kv26, hkv26⟩ : ∃ z : Int32, z = (1 : Int32) := ⟨_, rfl⟩
        have d_kv26 := rd_Is eS25 hkv26
        have ea3 := rf_I eS25 ea3
        have g0 := gr_I eS25 g0
        have o_a3 := ob_I eS25 o_a3
        have o_v0 := ob_I eS25 o_v0
        intro S27 eS27
        have hIn : IV S27 := by rw [eS27]; exact iv11_sI hI o_v0 (by decide) (nu_free (by decide))
        have hI := hIn
        have f0 := fr_I eS27 g0 f0 o_v0 (by decide)
        have d_kv2 := rd_Ij eS27 (by decide) d_kv2
        have d_x21 := rd_Ik eS27 o_v0 o_a3 (by decide) d_x21
        have d_kv26 := rd_Ij eS27 (by decide) d_kv26
        obtain ⟨kv28, hkv28⟩ : ∃ z : Int32, z = (-1 : Int32) := ⟨_, rfl⟩
        have d_kv28 := rd_Is eS27 hkv28
        have ea3 := rf_I eS27 ea3
        have g0 := gr_I eS27 g0
        have o_a3 := ob_I eS27 o_a3
        have o_v0 := ob_I eS27 o_v0
        intro _
        exact hq _ _ hI g0 f0
      · intro _ _
        refine ⟨fun c31 => absurd (show (1 : Int32) = 0 from c31) (by decide), fun c31 => ?_⟩
        refine u_X11_isRoad ?_
        refine u_X11_isRoad_0 ?_
        refine ⟨o_v0, ?_⟩
        refine ⟨fun e33 => (nomatch (e33.symm.trans ea3)), fun a32 ea32 => ?_⟩
        obtain rfl : a3 = a32 := Option.some.inj (ea3.symm.trans ea32)
        refine ⟨fun c34 => ?_, fun c34 => ?_⟩
        · intro _ _
          refine ⟨fun c36 => ?_, fun c36 => absurd (show ¬ (0 : Int32) = 0 from c36) (by decide)⟩
          refine u_X11_round_29 ?_
          refine ⟨o_v0, ?_⟩
          refine u_X11_refused ?_
          refine u_X11_refused_0 ?_
          refine ⟨o_v0, ?_⟩
          intro S37 eS37
          have hIn : IV S37 := by rw [eS37]; exact iv11_sI hI o_v0 (by decide) (nu_free (by decide))
          have hI := hIn
          have f0 := fr_I eS37 g0 f0 o_v0 (by decide)
          have d_kv2 := rd_Ij eS37 (by decide) d_kv2
          have d_x21 := rd_Ik eS37 o_v0 o_a3 (by decide) d_x21
          obtain ⟨kv38, hkv38⟩ : ∃ z : Int32, z = (1 : Int32) := ⟨_, rfl⟩
          have d_kv38 := rd_Is eS37 hkv38
          have ea3 := rf_I eS37 ea3
          have g0 := gr_I eS37 g0
          have o_a3 := ob_I eS37 o_a3
          have o_v0 := ob_I eS37 o_v0
          intro S39 eS39
          have hIn : IV S39 := by rw [eS39]; exact iv11_sI hI o_v0 (by decide) (nu_free (by decide))
          have hI := hIn
          have f0 := fr_I eS39 g0 f0 o_v0 (by decide)
          have d_kv2 := rd_Ij eS39 (by decide) d_kv2
          have d_x21 := rd_Ik eS39 o_v0 o_a3 (by decide) d_x21
          have d_kv38 := rd_Ij eS39 (by decide) d_kv38
          obtain ⟨kv40, hkv40⟩ : ∃ z : Int32, z = (-1 : Int32) := ⟨_, rfl⟩
          have d_kv40 := rd_Is eS39 hkv40
          have ea3 := rf_I eS39 ea3
          have g0 := gr_I eS39 g0
          have o_a3 := ob_I eS39 o_a3
          have o_v0 := ob_I eS39 o_v0
          intro _
          exact hq _ _ hI g0 f0
        · refine ⟨a3, ea3, ?_⟩
          refine ⟨o_a3, ?_⟩
          intro x43 ex43
          have r_x43 : (0 : Int32) ≤ x43 ∧ x43 ≤ (12 : Int32) := by rw [ex43]; exact nu 19 rfl hI o_a3
          have d_x43 := ex43
          refine ⟨fun c44 => ?_, fun c44 => ?_⟩
          · intro _ _
            refine ⟨fun c46 => ?_, fun c46 => absurd (show ¬ (0 : Int32) = 0 from c46) (by decide)⟩
            refine u_X11_round_29 ?_
            refine ⟨o_v0, ?_⟩
            refine u_X11_refused ?_
            refine u_X11_refused_0 ?_
            refine ⟨o_v0, ?_⟩
            intro S47 eS47
            have hIn : IV S47 := by rw [eS47]; exact iv11_sI hI o_v0 (by decide) (nu_free (by decide))
            have hI := hIn
            have f0 := fr_I eS47 g0 f0 o_v0 (by decide)
            have d_kv2 := rd_Ij eS47 (by decide) d_kv2
            have d_x21 := rd_Ik eS47 o_v0 o_a3 (by decide) d_x21
            have d_x43 := rd_Ik eS47 o_v0 o_a3 (by decide) d_x43
            obtain ⟨kv48, hkv48⟩ : ∃ z : Int32, z = (1 : Int32) := ⟨_, rfl⟩
            have d_kv48 := rd_Is eS47 hkv48
            have ea3 := rf_I eS47 ea3
            have g0 := gr_I eS47 g0
            have o_a3 := ob_I eS47 o_a3
            have o_v0 := ob_I eS47 o_v0
            intro S49 eS49
            have hIn : IV S49 := by rw [eS49]; exact iv11_sI hI o_v0 (by decide) (nu_free (by decide))
            have hI := hIn
            have f0 := fr_I eS49 g0 f0 o_v0 (by decide)
            have d_kv2 := rd_Ij eS49 (by decide) d_kv2
            have d_x21 := rd_Ik eS49 o_v0 o_a3 (by decide) d_x21
            have d_x43 := rd_Ik eS49 o_v0 o_a3 (by decide) d_x43
            have d_kv48 := rd_Ij eS49 (by decide) d_kv48
            obtain ⟨kv50, hkv50⟩ : ∃ z : Int32, z = (-1 : Int32) := ⟨_, rfl⟩
            have d_kv50 := rd_Is eS49 hkv50
            have ea3 := rf_I eS49 ea3
            have g0 := gr_I eS49 g0
            have o_a3 := ob_I eS49 o_a3
            have o_v0 := ob_I eS49 o_v0
            intro _
            exact hq _ _ hI g0 f0
          · intro _ _
            refine ⟨fun c53 => absurd (show (1 : Int32) = 0 from c53) (by decide), fun c53 => ?_⟩
            refine u_X11_isHour ?_
            refine u_X11_isHour_0 ?_
            refine ⟨o_v0, ?_⟩
            refine ⟨fun e55 => (nomatch (e55.symm.trans ea3)), fun a54 ea54 => ?_⟩
            obtain rfl : a3 = a54 := Option.some.inj (ea3.symm.trans ea54)
            refine ⟨fun c56 => ?_, fun c56 => ?_⟩
            · intro _ _
              refine ⟨fun c58 => absurd (show ¬ (0 : Int32) = 0 from c58) (by decide), fun c58 => ?_⟩
              refine u_X11_round_29 ?_
              refine ⟨o_v0, ?_⟩
              refine u_X11_refused ?_
              refine u_X11_refused_0 ?_
              refine ⟨o_v0, ?_⟩
              intro S59 eS59
              have hIn : IV S59 := by rw [eS59]; exact iv11_sI hI o_v0 (by decide) (nu_free (by decide))
              have hI := hIn
              have f0 := fr_I eS59 g0 f0 o_v0 (by decide)
              have d_kv2 := rd_Ij eS59 (by decide) d_kv2
              have d_x21 := rd_Ik eS59 o_v0 o_a3 (by decide) d_x21
              have d_x43 := rd_Ik eS59 o_v0 o_a3 (by decide) d_x43
              obtain ⟨kv60, hkv60⟩ : ∃ z : Int32, z = (1 : Int32) := ⟨_, rfl⟩
              have d_kv60 := rd_Is eS59 hkv60
              have ea3 := rf_I eS59 ea3
              have g0 := gr_I eS59 g0
              have o_a3 := ob_I eS59 o_a3
              have o_v0 := ob_I eS59 o_v0
              intro S61 eS61
              have hIn : IV S61 := by rw [eS61]; exact iv11_sI hI o_v0 (by decide) (nu_free (by decide))
              have hI := hIn
              have f0 := fr_I eS61 g0 f0 o_v0 (by decide)
              have d_kv2 := rd_Ij eS61 (by decide) d_kv2
              have d_x21 := rd_Ik eS61 o_v0 o_a3 (by decide) d_x21
              have d_x43 := rd_Ik eS61 o_v0 o_a3 (by decide) d_x43
              have d_kv60 := rd_Ij eS61 (by decide) d_kv60
              obtain ⟨kv62, hkv62⟩ : ∃ z : Int32, z = (-1 : Int32) := ⟨_, rfl⟩
              have d_kv62 := rd_Is eS61 hkv62
              have ea3 := rf_I eS61 ea3
              have g0 := gr_I eS61 g0
              have o_a3 := ob_I eS61 o_a3
              have o_v0 := ob_I eS61 o_v0
              intro _
              exact hq _ _ hI g0 f0
            · refine ⟨a3, ea3, ?_⟩
              refine ⟨o_a3, ?_⟩
              intro x65 ex65
              have r_x65 : (0 : Int32) ≤ x65 ∧ x65 ≤ (6 : Int32) := by rw [ex65]; exact nu 17 rfl hI o_a3
              have d_x65 := ex65
              refine ⟨fun c66 => ?_, fun c66 => ?_⟩
              · intro _ _
                refine ⟨fun c68 => absurd (show ¬ (0 : Int32) = 0 from c68) (by decide), fun c68 => ?_⟩
                refine u_X11_round_29 ?_
                refine ⟨o_v0, ?_⟩
                refine u_X11_refused ?_
                refine u_X11_refused_0 ?_
                refine ⟨o_v0, ?_⟩
                intro S69 eS69
                have hIn : IV S69 := by rw [eS69]; exact iv11_sI hI o_v0 (by decide) (nu_free (by decide))
                have hI := hIn
                have f0 := fr_I eS69 g0 f0 o_v0 (by decide)
                have d_kv2 := rd_Ij eS69 (by decide) d_kv2
                have d_x21 := rd_Ik eS69 o_v0 o_a3 (by decide) d_x21
                have d_x43 := rd_Ik eS69 o_v0 o_a3 (by decide) d_x43
                have d_x65 := rd_Ik eS69 o_v0 o_a3 (by decide) d_x65
                obtain ⟨kv70, hkv70⟩ : ∃ z : Int32, z = (1 : Int32) := ⟨_, rfl⟩
                have d_kv70 := rd_Is eS69 hkv70
                have ea3 := rf_I eS69 ea3
                have g0 := gr_I eS69 g0
                have o_a3 := ob_I eS69 o_a3
                have o_v0 := ob_I eS69 o_v0
                intro S71 eS71
                have hIn : IV S71 := by rw [eS71]; exact iv11_sI hI o_v0 (by decide) (nu_free (by decide))
                have hI := hIn
                have f0 := fr_I eS71 g0 f0 o_v0 (by decide)
                have d_kv2 := rd_Ij eS71 (by decide) d_kv2
                have d_x21 := rd_Ik eS71 o_v0 o_a3 (by decide) d_x21
                have d_x43 := rd_Ik eS71 o_v0 o_a3 (by decide) d_x43
                have d_x65 := rd_Ik eS71 o_v0 o_a3 (by decide) d_x65
                have d_kv70 := rd_Ij eS71 (by decide) d_kv70
                obtain ⟨kv72, hkv72⟩ : ∃ z : Int32, z = (-1 : Int32) := ⟨_, rfl⟩
                have d_kv72 := rd_Is eS71 hkv72
                have ea3 := rf_I eS71 ea3
                have g0 := gr_I eS71 g0
                have o_a3 := ob_I eS71 o_a3
                have o_v0 := ob_I eS71 o_v0
                intro _
                exact hq _ _ hI g0 f0
              · intro _ _
                refine ⟨fun c75 => ?_, fun c75 => absurd (show (1 : Int32) = 0 from c75) (by decide)⟩
                refine m_X11_wetAtBest hI o_v0 (qm659 c12 r_x21 c22 c34 r_x43 c44 c56 r_x65 c66) (qm660 c12 r_x21 c22 c34 r_x43 c44 c56 r_x65 c66) ⟨_, ea3, (qm661 c12 r_x21 c22 c34 r_x43 c44 c56 r_x65 c66), (by rw [← d_x21]; exact (qm662 c12 r_x21 c22 c34 r_x43 c44 c56 r_x65 c66))⟩ (fun x76 S77 hI2 g78 p_x76 => ?_)
                subst p_x76
                intro _
                refine m_X11_wetAtBest hI o_v0 (qm659 c12 r_x21 c22 c34 r_x43 c44 c56 r_x65 c66) (qm660 c12 r_x21 c22 c34 r_x43 c44 c56 r_x65 c66) ⟨_, ea3, (qm661 c12 r_x21 c22 c34 r_x43 c44 c56 r_x65 c66), (by rw [← d_x21]; exact (qm662 c12 r_x21 c22 c34 r_x43 c44 c56 r_x65 c66))⟩ (fun x80 S81 hI2 g82 p_x80 => ?_)
                subst p_x80
                intro _
                refine m_X11_told hI o_v0 (qm663 c12 r_x21 c22 c34 r_x43 c44 c56 r_x65 c66) (fun x84 S85 hJ g86 fc87 => ?_)
                have hI := hJ
                have d_kv2 := d_kv2.trans (fri_at fc87 (by decide) (by decide) o_v0).symm
                have d_x21 := d_x21.trans (fri_at fc87 (by decide) (by decide) o_a3).symm
                have d_x43 := d_x43.trans (fri_at fc87 (by decide) (by decide) o_a3).symm
                have d_x65 := d_x65.trans (fri_at fc87 (by decide) (by decide) o_a3).symm
                have ea3 := (frr_at fc87 (by decide) (by decide) o_v0).trans ea3
                have f0 := fri_tr (S := S1) g0 f0 fc87 (by decide) (by decide)
                have o_a3 := gr_ob g86 o_a3
                have o_v0 := gr_ob g86 o_v0
                have g0 := gr_tr (T := S1) g0 g86
                intro _
                exact hq _ _ hI g0 f0
end
section
set_option maxHeartbeats 4000000 in
set_option maxRecDepth 20000 in
theorem m_X11_saves {v0 : Nat} {v1 : Int32} {v2 : Int32} {v3 : Int32} {v4 : Int32} {v5 : Int32} {Q : Int64 → HS → Prop} {S : HS} (hI : IV S) (o_v0 : ob S v0 11)     (hq : ∀ (r : Int64) (T : HS), IV T → Gr S T → FRI [(11, 0), (11, 1), (11, 2)] [] S T → Q r T) : P_X11_saves v0 v1 v2 v3 v4 v5 Q S := by
  have g0 := gr_rf S
  have f0 := fri_rf [(11, 0), (11, 1), (11, 2)] [] S
  refine u_X11_saves ?_
  refine u_X11_saves_0 ?_
  refine ⟨o_v0, ?_⟩
  intro S1 eS1
  have hIn : IV S1 := by rw [eS1]; exact iv11_sI hI o_v0 (by decide) (nu_free (by decide))
  have hI := hIn
  have f0 := fr_I eS1 g0 f0 o_v0 (by decide)
  obtain ⟨kv2, hkv2⟩ : ∃ z : Int32, z = (0 : Int32) := ⟨_, rfl⟩
  have d_kv2 := rd_Is eS1 hkv2
  have g0 := gr_I eS1 g0
  have o_v0 := ob_I eS1 o_v0
  refine u_X11_isWalker ?_
  refine u_X11_isWalker_0 ?_
  refine ⟨o_v0, ?_⟩
  refine ⟨fun e4 => ?_, fun a3 ea3 => ?_⟩
  · intro _ _
    refine ⟨fun c6 => ?_, fun c6 => absurd (show ¬ (0 : Int32) = 0 from c6) (by decide)⟩
    refine u_X11_saves_39 ?_
    refine ⟨o_v0, ?_⟩
    refine u_X11_refused ?_
    refine u_X11_refused_0 ?_
    refine ⟨o_v0, ?_⟩
    intro S7 eS7
    have hIn : IV S7 := by rw [eS7]; exact iv11_sI hI o_v0 (by decide) (nu_free (by decide))
    have hI := hIn
    have f0 := fr_I eS7 g0 f0 o_v0 (by decide)
    have d_kv2 := rd_Ij eS7 (by decide) d_kv2
    obtain ⟨kv8, hkv8⟩ : ∃ z : Int32, z = (1 : Int32) := ⟨_, rfl⟩
    have d_kv8 := rd_Is eS7 hkv8
    have g0 := gr_I eS7 g0
    have o_v0 := ob_I eS7 o_v0
    intro S9 eS9
    have hIn : IV S9 := by rw [eS9]; exact iv11_sI hI o_v0 (by decide) (nu_free (by decide))
    have hI := hIn
    have f0 := fr_I eS9 g0 f0 o_v0 (by decide)
    have d_kv2 := rd_Ij eS9 (by decide) d_kv2
    have d_kv8 := rd_Ij eS9 (by decide) d_kv8
    obtain ⟨kv10, hkv10⟩ : ∃ z : Int32, z = (-1 : Int32) := ⟨_, rfl⟩
    have d_kv10 := rd_Is eS9 hkv10
    have g0 := gr_I eS9 g0
    have o_v0 := ob_I eS9 o_v0
    intro _
    exact hq _ _ hI g0 f0
  · have o_a3 := ml_ob hI o_v0 ea3
    refine ⟨fun c12 => ?_, fun c12 => ?_⟩
    · intro _ _
      refine ⟨fun c14 => ?_, fun c14 => absurd (show ¬ (0 : Int32) = 0 from c14) (by decide)⟩
      refine u_X11_saves_39 ?_
      refine ⟨o_v0, ?_⟩
      refine u_X11_refused ?_
      refine u_X11_refused_0 ?_
      refine ⟨o_v0, ?_⟩
      intro S15 eS15
      have hIn : IV S15 := by rw [eS15]; exact iv11_sI hI o_v0 (by decide) (nu_free (by decide))
      have hI := hIn
      have f0 := fr_I eS15 g0 f0 o_v0 (by decide)
      have d_kv2 := rd_Ij eS15 (by decide) d_kv2
      obtain ⟨kv16, hkv16⟩ : ∃ z : Int32, z = (1 : Int32) := ⟨_, rfl⟩
      have d_kv16 := rd_Is eS15 hkv16
      have ea3 := rf_I eS15 ea3
      have g0 := gr_I eS15 g0
      have o_a3 := ob_I eS15 o_a3
      have o_v0 := ob_I eS15 o_v0
      intro S17 eS17
      have hIn : IV S17 := by rw [eS17]; exact iv11_sI hI o_v0 (by decide) (nu_free (by decide))
      have hI := hIn
      have f0 := fr_I eS17 g0 f0 o_v0 (by decide)
      have d_kv2 := rd_Ij eS17 (by decide) d_kv2
      have d_kv16 := rd_Ij eS17 (by decide) d_kv16
      obtain ⟨kv18, hkv18⟩ : ∃ z : Int32, z = (-1 : Int32) := ⟨_, rfl⟩
      have d_kv18 := rd_Is eS17 hkv18
      have ea3 := rf_I eS17 ea3
      have g0 := gr_I eS17 g0
      have o_a3 := ob_I eS17 o_a3
      have o_v0 := ob_I eS17 o_v0
      intro _
      exact hq _ _ hI g0 f0
    · refine ⟨a3, ea3, ?_⟩
      refine ⟨o_a3, ?_⟩
      intro x21 ex21
      have r_x21 : (0 : Int32) ≤ x21 ∧ x21 ≤ (4 : Int32) := by rw [ex21]; exact nu 20 rfl hI o_a3
      have d_x21 := ex21
      refine ⟨fun c22 => ?_, fun c22 => ?_⟩
      · intro _ _
        refine ⟨fun c24 => ?_, fun c24 => absurd (show ¬ (0 : Int32) = 0 from c24) (by decide)⟩
        refine u_X11_saves_39 ?_
        refine ⟨o_v0, ?_⟩
        refine u_X11_refused ?_
        refine u_X11_refused_0 ?_
        refine ⟨o_v0, ?_⟩
        intro S25 eS25
        have hIn : IV S25 := by rw [eS25]; exact iv11_sI hI o_v0 (by decide) (nu_free (by decide))
        have hI := hIn
        have f0 := fr_I eS25 g0 f0 o_v0 (by decide)
        have d_kv2 := rd_Ij eS25 (by decide) d_kv2
        have d_x21 := rd_Ik eS25 o_v0 o_a3 (by decide) d_x21
        obtain ⟨kv26, hkv26⟩ : ∃ z : Int32, z = (1 : Int32) := ⟨_, rfl⟩
        have d_kv26 := rd_Is eS25 hkv26
        have ea3 := rf_I eS25 ea3
        have g0 := gr_I eS25 g0
        have o_a3 := ob_I eS25 o_a3
        have o_v0 := ob_I eS25 o_v0
        intro S27 eS27
        have hIn : IV S27 := by rw [eS27]; exact iv11_sI hI o_v0 (by decide) (nu_free (by decide))
        have hI := hIn
        have f0 := fr_I eS27 g0 f0 o_v0 (by decide)
        have d_kv2 := rd_Ij eS27 (by decide) d_kv2
        have d_x21 := rd_Ik eS27 o_v0 o_a3 (by decide) d_x21
        have d_kv26 := rd_Ij eS27 (by decide) d_kv26
        obtain ⟨kv28, hkv28⟩ : ∃ z : Int32, z = (-1 : Int32) := ⟨_, rfl⟩
        have d_kv28 := rd_Is eS27 hkv28
        have ea3 := rf_I eS27 ea3
        have g0 := gr_I eS27 g0
        have o_a3 := ob_I eS27 o_a3
        have o_v0 := ob_I eS27 o_v0
        intro _
        exact hq _ _ hI g0 f0
      · intro _ _
        refine ⟨fun c31 => absurd (show (1 : Int32) = 0 from c31) (by decide), fun c31 => ?_⟩
        refine u_X11_isRoad ?_
        refine u_X11_isRoad_0 ?_
        refine ⟨o_v0, ?_⟩
        refine ⟨fun e33 => (nomatch (e33.symm.trans ea3)), fun a32 ea32 => ?_⟩
        obtain rfl : a3 = a32 := Option.some.inj (ea3.symm.trans ea32)
        refine ⟨fun c34 => ?_, fun c34 => ?_⟩
        · intro _ _
          refine ⟨fun c36 => ?_, fun c36 => absurd (show ¬ (0 : Int32) = 0 from c36) (by decide)⟩
          refine u_X11_saves_39 ?_
          refine ⟨o_v0, ?_⟩
          refine u_X11_refused ?_
          refine u_X11_refused_0 ?_
          refine ⟨o_v0, ?_⟩
          intro S37 eS37
          have hIn : IV S37 := by rw [eS37]; exact iv11_sI hI o_v0 (by decide) (nu_free (by decide))
          have hI := hIn
          have f0 := fr_I eS37 g0 f0 o_v0 (by decide)
          have d_kv2 := rd_Ij eS37 (by decide) d_kv2
          have d_x21 := rd_Ik eS37 o_v0 o_a3 (by decide) d_x21
          obtain ⟨kv38, hkv38⟩ : ∃ z : Int32, z = (1 : Int32) := ⟨_, rfl⟩
          have d_kv38 := rd_Is eS37 hkv38
          have ea3 := rf_I eS37 ea3
          have g0 := gr_I eS37 g0
          have o_a3 := ob_I eS37 o_a3
          have o_v0 := ob_I eS37 o_v0
          intro S39 eS39
          have hIn : IV S39 := by rw [eS39]; exact iv11_sI hI o_v0 (by decide) (nu_free (by decide))
          have hI := hIn
          have f0 := fr_I eS39 g0 f0 o_v0 (by decide)
          have d_kv2 := rd_Ij eS39 (by decide) d_kv2
          have d_x21 := rd_Ik eS39 o_v0 o_a3 (by decide) d_x21
          have d_kv38 := rd_Ij eS39 (by decide) d_kv38
          obtain ⟨kv40, hkv40⟩ : ∃ z : Int32, z = (-1 : Int32) := ⟨_, rfl⟩
          have d_kv40 := rd_Is eS39 hkv40
          have ea3 := rf_I eS39 ea3
          have g0 := gr_I eS39 g0
          have o_a3 := ob_I eS39 o_a3
          have o_v0 := ob_I eS39 o_v0
          intro _
          exact hq _ _ hI g0 f0
        · refine ⟨a3, ea3, ?_⟩
          refine ⟨o_a3, ?_⟩
          intro x43 ex43
          have r_x43 : (0 : Int32) ≤ x43 ∧ x43 ≤ (12 : Int32) := by rw [ex43]; exact nu 19 rfl hI o_a3
          have d_x43 := ex43
          refine ⟨fun c44 => ?_, fun c44 => ?_⟩
          · intro _ _
            refine ⟨fun c46 => ?_, fun c46 => absurd (show ¬ (0 : Int32) = 0 from c46) (by decide)⟩
            refine u_X11_saves_39 ?_
            refine ⟨o_v0, ?_⟩
            refine u_X11_refused ?_
            refine u_X11_refused_0 ?_
            refine ⟨o_v0, ?_⟩
            intro S47 eS47
            have hIn : IV S47 := by rw [eS47]; exact iv11_sI hI o_v0 (by decide) (nu_free (by decide))
            have hI := hIn
            have f0 := fr_I eS47 g0 f0 o_v0 (by decide)
            have d_kv2 := rd_Ij eS47 (by decide) d_kv2
            have d_x21 := rd_Ik eS47 o_v0 o_a3 (by decide) d_x21
            have d_x43 := rd_Ik eS47 o_v0 o_a3 (by decide) d_x43
            obtain ⟨kv48, hkv48⟩ : ∃ z : Int32, z = (1 : Int32) := ⟨_, rfl⟩
            have d_kv48 := rd_Is eS47 hkv48
            have ea3 := rf_I eS47 ea3
            have g0 := gr_I eS47 g0
            have o_a3 := ob_I eS47 o_a3
            have o_v0 := ob_I eS47 o_v0
            intro S49 eS49
            have hIn : IV S49 := by rw [eS49]; exact iv11_sI hI o_v0 (by decide) (nu_free (by decide))
            have hI := hIn
            have f0 := fr_I eS49 g0 f0 o_v0 (by decide)
            have d_kv2 := rd_Ij eS49 (by decide) d_kv2
            have d_x21 := rd_Ik eS49 o_v0 o_a3 (by decide) d_x21
            have d_x43 := rd_Ik eS49 o_v0 o_a3 (by decide) d_x43
            have d_kv48 := rd_Ij eS49 (by decide) d_kv48
            obtain ⟨kv50, hkv50⟩ : ∃ z : Int32, z = (-1 : Int32) := ⟨_, rfl⟩
            have d_kv50 := rd_Is eS49 hkv50
            have ea3 := rf_I eS49 ea3
            have g0 := gr_I eS49 g0
            have o_a3 := ob_I eS49 o_a3
            have o_v0 := ob_I eS49 o_v0
            intro _
            exact hq _ _ hI g0 f0
          · intro _ _
            refine ⟨fun c53 => absurd (show (1 : Int32) = 0 from c53) (by decide), fun c53 => ?_⟩
            refine u_X11_in ?_
            refine u_X11_in_0 ?_
            refine ⟨fun c54 => ?_, fun c54 => ?_⟩
            · intro _ _
              refine ⟨fun c56 => ?_, fun c56 => absurd (show ¬ (0 : Int32) = 0 from c56) (by decide)⟩
              refine u_X11_saves_39 ?_
              refine ⟨o_v0, ?_⟩
              refine u_X11_refused ?_
              refine u_X11_refused_0 ?_
              refine ⟨o_v0, ?_⟩
              intro S57 eS57
              have hIn : IV S57 := by rw [eS57]; exact iv11_sI hI o_v0 (by decide) (nu_free (by decide))
              have hI := hIn
              have f0 := fr_I eS57 g0 f0 o_v0 (by decide)
              have d_kv2 := rd_Ij eS57 (by decide) d_kv2
              have d_x21 := rd_Ik eS57 o_v0 o_a3 (by decide) d_x21
              have d_x43 := rd_Ik eS57 o_v0 o_a3 (by decide) d_x43
              obtain ⟨kv58, hkv58⟩ : ∃ z : Int32, z = (1 : Int32) := ⟨_, rfl⟩
              have d_kv58 := rd_Is eS57 hkv58
              have ea3 := rf_I eS57 ea3
              have g0 := gr_I eS57 g0
              have o_a3 := ob_I eS57 o_a3
              have o_v0 := ob_I eS57 o_v0
              intro S59 eS59
              have hIn : IV S59 := by rw [eS59]; exact iv11_sI hI o_v0 (by decide) (nu_free (by decide))
              have hI := hIn
              have f0 := fr_I eS59 g0 f0 o_v0 (by decide)
              have d_kv2 := rd_Ij eS59 (by decide) d_kv2
              have d_x21 := rd_Ik eS59 o_v0 o_a3 (by decide) d_x21
              have d_x43 := rd_Ik eS59 o_v0 o_a3 (by decide) d_x43
              have d_kv58 := rd_Ij eS59 (by decide) d_kv58
              obtain ⟨kv60, hkv60⟩ : ∃ z : Int32, z = (-1 : Int32) := ⟨_, rfl⟩
              have d_kv60 := rd_Is eS59 hkv60
              have ea3 := rf_I eS59 ea3
              have g0 := gr_I eS59 g0
              have o_a3 := ob_I eS59 o_a3
              have o_v0 := ob_I eS59 o_v0
              intro _
              exact hq _ _ hI g0 f0
            · refine ⟨fun c62 => ?_, fun c62 => ?_⟩
              · intro _ _
                refine ⟨fun c64 => ?_, fun c64 => absurd (show ¬ (0 : Int32) = 0 from c64) (by decide)⟩
                refine u_X11_saves_39 ?_
                refine ⟨o_v0, ?_⟩
                refine u_X11_refused ?_
                refine u_X11_refused_0 ?_
                refine ⟨o_v0, ?_⟩
                intro S65 eS65
                have hIn : IV S65 := by rw [eS65]; exact iv11_sI hI o_v0 (by decide) (nu_free (by decide))
                have hI := hIn
                have f0 := fr_I eS65 g0 f0 o_v0 (by decide)
                have d_kv2 := rd_Ij eS65 (by decide) d_kv2
                have d_x21 := rd_Ik eS65 o_v0 o_a3 (by decide) d_x21
                have d_x43 := rd_Ik eS65 o_v0 o_a3 (by decide) d_x43
                obtain ⟨kv66, hkv66⟩ : ∃ z : Int32, z = (1 : Int32) := ⟨_, rfl⟩
                have d_kv66 := rd_Is eS65 hkv66
                have ea3 := rf_I eS65 ea3
                have g0 := gr_I eS65 g0
                have o_a3 := ob_I eS65 o_a3
                have o_v0 := ob_I eS65 o_v0
                intro S67 eS67
                have hIn : IV S67 := by rw [eS67]; exact iv11_sI hI o_v0 (by decide) (nu_free (by decide))
                have hI := hIn
                have f0 := fr_I eS67 g0 f0 o_v0 (by decide)
                have d_kv2 := rd_Ij eS67 (by decide) d_kv2
                have d_x21 := rd_Ik eS67 o_v0 o_a3 (by decide) d_x21
                have d_x43 := rd_Ik eS67 o_v0 o_a3 (by decide) d_x43
                have d_kv66 := rd_Ij eS67 (by decide) d_kv66
                obtain ⟨kv68, hkv68⟩ : ∃ z : Int32, z = (-1 : Int32) := ⟨_, rfl⟩
                have d_kv68 := rd_Is eS67 hkv68
                have ea3 := rf_I eS67 ea3
                have g0 := gr_I eS67 g0
                have o_a3 := ob_I eS67 o_a3
                have o_v0 := ob_I eS67 o_v0
                intro _
                exact hq _ _ hI g0 f0
              · intro _ _
                refine ⟨fun c71 => absurd (show (1 : Int32) = 0 from c71) (by decide), fun c71 => ?_⟩
                refine u_X11_isHour ?_
                refine u_X11_isHour_0 ?_
                refine ⟨o_v0, ?_⟩
                refine ⟨fun e73 => (nomatch (e73.symm.trans ea3)), fun a72 ea72 => ?_⟩
                obtain rfl : a3 = a72 := Option.some.inj (ea3.symm.trans ea72)
                refine ⟨fun c74 => ?_, fun c74 => ?_⟩
                · intro _ _
                  refine ⟨fun c76 => absurd (show ¬ (0 : Int32) = 0 from c76) (by decide), fun c76 => ?_⟩
                  refine u_X11_saves_39 ?_
                  refine ⟨o_v0, ?_⟩
                  refine u_X11_refused ?_
                  refine u_X11_refused_0 ?_
                  refine ⟨o_v0, ?_⟩
                  intro S77 eS77
                  have hIn : IV S77 := by rw [eS77]; exact iv11_sI hI o_v0 (by decide) (nu_free (by decide))
                  have hI := hIn
                  have f0 := fr_I eS77 g0 f0 o_v0 (by decide)
                  have d_kv2 := rd_Ij eS77 (by decide) d_kv2
                  have d_x21 := rd_Ik eS77 o_v0 o_a3 (by decide) d_x21
                  have d_x43 := rd_Ik eS77 o_v0 o_a3 (by decide) d_x43
                  obtain ⟨kv78, hkv78⟩ : ∃ z : Int32, z = (1 : Int32) := ⟨_, rfl⟩
                  have d_kv78 := rd_Is eS77 hkv78
                  have ea3 := rf_I eS77 ea3
                  have g0 := gr_I eS77 g0
                  have o_a3 := ob_I eS77 o_a3
                  have o_v0 := ob_I eS77 o_v0
                  intro S79 eS79
                  have hIn : IV S79 := by rw [eS79]; exact iv11_sI hI o_v0 (by decide) (nu_free (by decide))
                  have hI := hIn
                  have f0 := fr_I eS79 g0 f0 o_v0 (by decide)
                  have d_kv2 := rd_Ij eS79 (by decide) d_kv2
                  have d_x21 := rd_Ik eS79 o_v0 o_a3 (by decide) d_x21
                  have d_x43 := rd_Ik eS79 o_v0 o_a3 (by decide) d_x43
                  have d_kv78 := rd_Ij eS79 (by decide) d_kv78
                  obtain ⟨kv80, hkv80⟩ : ∃ z : Int32, z = (-1 : Int32) := ⟨_, rfl⟩
                  have d_kv80 := rd_Is eS79 hkv80
                  have ea3 := rf_I eS79 ea3
                  have g0 := gr_I eS79 g0
                  have o_a3 := ob_I eS79 o_a3
                  have o_v0 := ob_I eS79 o_v0
                  intro _
                  exact hq _ _ hI g0 f0
                · refine ⟨a3, ea3, ?_⟩
                  refine ⟨o_a3, ?_⟩
                  intro x83 ex83
                  have r_x83 : (0 : Int32) ≤ x83 ∧ x83 ≤ (6 : Int32) := by rw [ex83]; exact nu 17 rfl hI o_a3
                  have d_x83 := ex83
                  refine ⟨fun c84 => ?_, fun c84 => ?_⟩
                  · intro _ _
                    refine ⟨fun c86 => absurd (show ¬ (0 : Int32) = 0 from c86) (by decide), fun c86 => ?_⟩
                    refine u_X11_saves_39 ?_
                    refine ⟨o_v0, ?_⟩
                    refine u_X11_refused ?_
                    refine u_X11_refused_0 ?_
                    refine ⟨o_v0, ?_⟩
                    intro S87 eS87
                    have hIn : IV S87 := by rw [eS87]; exact iv11_sI hI o_v0 (by decide) (nu_free (by decide))
                    have hI := hIn
                    have f0 := fr_I eS87 g0 f0 o_v0 (by decide)
                    have d_kv2 := rd_Ij eS87 (by decide) d_kv2
                    have d_x21 := rd_Ik eS87 o_v0 o_a3 (by decide) d_x21
                    have d_x43 := rd_Ik eS87 o_v0 o_a3 (by decide) d_x43
                    have d_x83 := rd_Ik eS87 o_v0 o_a3 (by decide) d_x83
                    obtain ⟨kv88, hkv88⟩ : ∃ z : Int32, z = (1 : Int32) := ⟨_, rfl⟩
                    have d_kv88 := rd_Is eS87 hkv88
                    have ea3 := rf_I eS87 ea3
                    have g0 := gr_I eS87 g0
                    have o_a3 := ob_I eS87 o_a3
                    have o_v0 := ob_I eS87 o_v0
                    intro S89 eS89
                    have hIn : IV S89 := by rw [eS89]; exact iv11_sI hI o_v0 (by decide) (nu_free (by decide))
                    have hI := hIn
                    have f0 := fr_I eS89 g0 f0 o_v0 (by decide)
                    have d_kv2 := rd_Ij eS89 (by decide) d_kv2
                    have d_x21 := rd_Ik eS89 o_v0 o_a3 (by decide) d_x21
                    have d_x43 := rd_Ik eS89 o_v0 o_a3 (by decide) d_x43
                    have d_x83 := rd_Ik eS89 o_v0 o_a3 (by decide) d_x83
                    have d_kv88 := rd_Ij eS89 (by decide) d_kv88
                    obtain ⟨kv90, hkv90⟩ : ∃ z : Int32, z = (-1 : Int32) := ⟨_, rfl⟩
                    have d_kv90 := rd_Is eS89 hkv90
                    have ea3 := rf_I eS89 ea3
                    have g0 := gr_I eS89 g0
                    have o_a3 := ob_I eS89 o_a3
                    have o_v0 := ob_I eS89 o_v0
                    intro _
                    exact hq _ _ hI g0 f0
                  · intro _ _
                    refine ⟨fun c93 => ?_, fun c93 => absurd (show (1 : Int32) = 0 from c93) (by decide)⟩
                    refine ⟨a3, ea3, ?_⟩
                    refine ⟨o_a3, ?_⟩
                    obtain ⟨a95, ea95, o_a95, l_a95⟩ := shl 46 rfl hI o_a3
                    refine ⟨a95, ea95, ?_⟩
                    refine ⟨o_a95, ?_⟩
                    refine ⟨(vin l_a95 (m := 4) (by decide) (qm664 c12 r_x21 c22 c34 r_x43 c44 c54 c62 c74 r_x83 c84)), ?_⟩
                    intro x96 ex96
                    have gy_x96 : 0 ≤ v1 ∧ v1 < fI S1 a3 4 := by rw [← d_x21]; exact (qm665 c12 r_x21 c22 c34 r_x43 c44 c54 c62 c74 r_x83 c84)
                    have g_x96 : (1 : Int32) ≤ x96 ∧ x96 ≤ (9 : Int32) := by rw [ex96]; exact wg_at (ml_wg hI o_v0 ea3) 3 rfl gy_x96 ea95
                    refine m_X11_wetOf hI o_v0 (qm693 c12 r_x21 c22 c34 r_x43 c44 c54 c62 c74 r_x83 c84) (qm694 c12 r_x21 c22 c34 r_x43 c44 c54 c62 c74 r_x83 c84) (qm695 c12 r_x21 c22 c34 r_x43 c44 c54 c62 c74 r_x83 c84) (qm666 c12 r_x21 c22 c34 r_x43 c44 c54 c62 c74 r_x83 c84 g_x96) ⟨_, ea3⟩ (fun x97 S98 hI2 g99 p_x97 => ?_)
                    subst p_x97
                    intro _
                    refine m_X11_bestOf hI o_v0 (qm694 c12 r_x21 c22 c34 r_x43 c44 c54 c62 c74 r_x83 c84) (qm695 c12 r_x21 c22 c34 r_x43 c44 c54 c62 c74 r_x83 c84) ⟨_, ea3, (qm696 c12 r_x21 c22 c34 r_x43 c44 c54 c62 c74 r_x83 c84), (by rw [← d_x21]; exact (qm697 c12 r_x21 c22 c34 r_x43 c44 c54 c62 c74 r_x83 c84))⟩ (fun x101 S102 hI2 g103 p_x101 => ?_)
                    obtain ⟨z_S102, p_x101⟩ := p_x101
                    subst z_S102
                    intro _
                    refine m_X11_wetOf hI o_v0 (qm693 c12 r_x21 c22 c34 r_x43 c44 c54 c62 c74 r_x83 c84) (qm694 c12 r_x21 c22 c34 r_x43 c44 c54 c62 c74 r_x83 c84) (qm695 c12 r_x21 c22 c34 r_x43 c44 c54 c62 c74 r_x83 c84) (qm698 c12 r_x21 c22 c34 r_x43 c44 c54 c62 c74 r_x83 c84 p_x101) ⟨_, ea3⟩ (fun x105 S106 hI2 g107 p_x105 => ?_)
                    subst p_x105
                    intro _
                    refine m_X11_told hI o_v0 (qm699 c12 r_x21 c22 c34 r_x43 c44 c54 c62 c74 r_x83 c84) (fun x109 S110 hJ g111 fc112 => ?_)
                    have hI := hJ
                    have l_a95 := (gr_len g111 o_a95).trans l_a95
                    have d_kv2 := d_kv2.trans (fri_at fc112 (by decide) (by decide) o_v0).symm
                    have d_x21 := d_x21.trans (fri_at fc112 (by decide) (by decide) o_a3).symm
                    have d_x43 := d_x43.trans (fri_at fc112 (by decide) (by decide) o_a3).symm
                    have d_x83 := d_x83.trans (fri_at fc112 (by decide) (by decide) o_a3).symm
                    have ea3 := (frr_at fc112 (by decide) (by decide) o_v0).trans ea3
                    have ea95 := (frr_at fc112 (by decide) (by decide) o_a3).trans ea95
                    have f0 := fri_tr (S := S1) g0 f0 fc112 (by decide) (by decide)
                    have o_a3 := gr_ob g111 o_a3
                    have o_a95 := gr_ob g111 o_a95
                    have o_v0 := gr_ob g111 o_v0
                    have g0 := gr_tr (T := S1) g0 g111
                    intro _
                    exact hq _ _ hI g0 f0
set_option maxHeartbeats 4000000 in
set_option maxRecDepth 20000 in
theorem m_X11_size {v0 : Nat} {v1 : Int32} {Q : Int32 → HS → Prop} {S : HS} (hI : IV S) (o_v0 : ob S v0 11)     (hq : ∀ (r : Int32) (T : HS), IV T → Gr S T → FRI [(11, 0)] [] S T → Q r T) : P_X11_size v0 v1 Q S := by
  have g0 := gr_rf S
  have f0 := fri_rf [(11, 0)] [] S
  refine u_X11_size ?_
  refine u_X11_size_0 ?_
  refine ⟨o_v0, ?_⟩
  intro S1 eS1
  have hIn : IV S1 := by rw [eS1]; exact iv11_sI hI o_v0 (by decide) (nu_free (by decide))
  have hI := hIn
  have f0 := fr_I eS1 g0 f0 o_v0 (by decide)
  obtain ⟨kv2, hkv2⟩ : ∃ z : Int32, z = (0 : Int32) := ⟨_, rfl⟩
  have d_kv2 := rd_Is eS1 hkv2
  have g0 := gr_I eS1 g0
  have o_v0 := ob_I eS1 o_v0
  refine ⟨fun c3 => ?_, fun c3 => ?_⟩
  · refine u_X11_in ?_
    refine u_X11_in_0 ?_
    refine ⟨fun c4 => ?_, fun c4 => ?_⟩
    · intro _ _
      refine ⟨fun c6 => absurd (show ¬ (0 : Int32) = 0 from c6) (by decide), fun c6 => ?_⟩
      exact hq _ _ hI g0 f0
    · refine ⟨fun c7 => ?_, fun c7 => ?_⟩
      · intro _ _
        refine ⟨fun c9 => absurd (show ¬ (0 : Int32) = 0 from c9) (by decide), fun c9 => ?_⟩
        exact hq _ _ hI g0 f0
      · intro _ _
        refine ⟨fun c11 => ?_, fun c11 => absurd (show (1 : Int32) = 0 from c11) (by decide)⟩
        refine ⟨fun e13 => ?_, fun a12 ea12 => ?_⟩
        · exact hq _ _ hI g0 f0
        · have o_a12 := ml_ob hI o_v0 ea12
          refine ⟨fun c14 => ?_, fun c14 => ?_, fun c14 => ?_, fun c14 => ?_, fun c14 => ?_, fun c14 => ?_, fun c14 => ?_, fun c14 => ?_, fun c14 => ?_, fun c14 => ?_, fun c14 => ?_⟩
          · intro x15 ex15
            have r_x15 : (0 : Int32) ≤ x15 ∧ x15 ≤ (3 : Int32) := by rw [ex15]; exact nu 28 rfl hI o_v0
            have d_x15 := ex15
            exact hq _ _ hI g0 f0
          · refine ⟨a12, ea12, ?_⟩
            refine ⟨o_a12, ?_⟩
            intro x17 ex17
            have r_x17 : (0 : Int32) ≤ x17 ∧ x17 ≤ (60 : Int32) := by rw [ex17]; exact nu 16 rfl hI o_a12
            have d_x17 := ex17
            have hh_x17 : 1 ≤ x17 := by rw [ex17]; exact ml_hour hI o_v0 ea12
            exact hq _ _ hI g0 f0
          · refine ⟨a12, ea12, ?_⟩
            refine ⟨o_a12, ?_⟩
            intro x19 ex19
            have r_x19 : (0 : Int32) ≤ x19 ∧ x19 ≤ (6 : Int32) := by rw [ex19]; exact nu 17 rfl hI o_a12
            have d_x19 := ex19
            exact hq _ _ hI g0 f0
          · refine ⟨a12, ea12, ?_⟩
            refine ⟨o_a12, ?_⟩
            intro x21 ex21
            have r_x21 : (0 : Int32) ≤ x21 ∧ x21 ≤ (8 : Int32) := by rw [ex21]; exact nu 18 rfl hI o_a12
            have d_x21 := ex21
            exact hq _ _ hI g0 f0
          · refine ⟨a12, ea12, ?_⟩
            refine ⟨o_a12, ?_⟩
            intro x23 ex23
            have r_x23 : (0 : Int32) ≤ x23 ∧ x23 ≤ (12 : Int32) := by rw [ex23]; exact nu 19 rfl hI o_a12
            have d_x23 := ex23
            exact hq _ _ hI g0 f0
          · refine ⟨a12, ea12, ?_⟩
            refine ⟨o_a12, ?_⟩
            intro x25 ex25
            have r_x25 : (0 : Int32) ≤ x25 ∧ x25 ≤ (4 : Int32) := by rw [ex25]; exact nu 20 rfl hI o_a12
            have d_x25 := ex25
            exact hq _ _ hI g0 f0
          · refine ⟨a12, ea12, ?_⟩
            refine ⟨o_a12, ?_⟩
            intro x27 ex27
            have r_x27 : (0 : Int32) ≤ x27 ∧ x27 ≤ (4 : Int32) := by rw [ex27]; exact nu 21 rfl hI o_a12
            have d_x27 := ex27
            exact hq _ _ hI g0 f0
          · intro x28 ex28
            have r_x28 : (-2 : Int32) ≤ x28 ∧ x28 ≤ (3 : Int32) := by rw [ex28]; exact nu 26 rfl hI o_v0
            have d_x28 := ex28
            obtain ⟨kv29, d_kv29⟩ : ∃ z : Int32, z = fI S1 a12 4 := ⟨_, rfl⟩
            have r_kv29 : (0 : Int32) ≤ kv29 ∧ kv29 ≤ (4 : Int32) := by rw [d_kv29]; exact nu 20 rfl hI o_a12
            have wh_x28 : x28 = -2 ∨ (0 ≤ x28 ∧ x28 < kv29) := by rw [ex28, d_kv29]; exact ml_who hI o_v0 ea12
            exact hq _ _ hI g0 f0
          · refine u_X11_isDay ?_
            refine u_X11_isDay_0 ?_
            refine ⟨o_v0, ?_⟩
            refine ⟨fun e31 => (nomatch (e31.symm.trans ea12)), fun a30 ea30 => ?_⟩
            obtain rfl : a12 = a30 := Option.some.inj (ea12.symm.trans ea30)
            intro x32 ex32
            have r_x32 : (-2 : Int32) ≤ x32 ∧ x32 ≤ (3 : Int32) := by rw [ex32]; exact nu 26 rfl hI o_v0
            have d_x32 := ex32
            obtain ⟨kv33, d_kv33⟩ : ∃ z : Int32, z = fI S1 a12 4 := ⟨_, rfl⟩
            have r_kv33 : (0 : Int32) ≤ kv33 ∧ kv33 ≤ (4 : Int32) := by rw [d_kv33]; exact nu 20 rfl hI o_a12
            have wh_x32 : x32 = -2 ∨ (0 ≤ x32 ∧ x32 < kv33) := by rw [ex32, d_kv33]; exact ml_who hI o_v0 ea12
            refine ⟨fun c34 => ?_, fun c34 => ?_⟩
            · intro _ _
              refine ⟨fun c36 => ?_, fun c36 => absurd (show ¬ (0 : Int32) = 0 from c36) (by decide)⟩
              exact hq _ _ hI g0 f0
            · intro _ _
              refine ⟨fun c38 => absurd (show (1 : Int32) = 0 from c38) (by decide), fun c38 => ?_⟩
              obtain ⟨a39, ea39, o_a39, l_a39⟩ := shl 57 rfl hI o_v0
              refine ⟨a39, ea39, ?_⟩
              refine ⟨o_a39, ?_⟩
              refine ⟨(vin l_a39 (m := 7) (by decide) (qm536 c3 c4 c7 r_x32 r_kv33 wh_x32 c34)), ?_⟩
              intro x40 ex40
              have de_x40 := ml_de hI o_v0 (j := 21) (by decide) ea39 (0 : Int32).toNatClampNeg
              rw [← ex40] at de_x40
              have dr_x40 : (0 : Int64) ≤ x40 ∧ x40 ≤ (7 : Int64) := de_x40.1 (by decide)
              have lr_x40 : 0 ≤ x40.toInt32 ∧ x40.toInt32 ≤ (7 : Int32) := l2i_rng (by decide) dr_x40
              exact hq _ _ hI g0 f0
          · refine u_X11_isDay ?_
            refine u_X11_isDay_0 ?_
            refine ⟨o_v0, ?_⟩
            refine ⟨fun e42 => (nomatch (e42.symm.trans ea12)), fun a41 ea41 => ?_⟩
            obtain rfl : a12 = a41 := Option.some.inj (ea12.symm.trans ea41)
            intro x43 ex43
            have r_x43 : (-2 : Int32) ≤ x43 ∧ x43 ≤ (3 : Int32) := by rw [ex43]; exact nu 26 rfl hI o_v0
            have d_x43 := ex43
            obtain ⟨kv44, d_kv44⟩ : ∃ z : Int32, z = fI S1 a12 4 := ⟨_, rfl⟩
            have r_kv44 : (0 : Int32) ≤ kv44 ∧ kv44 ≤ (4 : Int32) := by rw [d_kv44]; exact nu 20 rfl hI o_a12
            have wh_x43 : x43 = -2 ∨ (0 ≤ x43 ∧ x43 < kv44) := by rw [ex43, d_kv44]; exact ml_who hI o_v0 ea12
            refine ⟨fun c45 => ?_, fun c45 => ?_⟩
            · intro _ _
              refine ⟨fun c47 => ?_, fun c47 => absurd (show ¬ (0 : Int32) = 0 from c47) (by decide)⟩
              exact hq _ _ hI g0 f0
            · intro _ _
              refine ⟨fun c49 => absurd (show (1 : Int32) = 0 from c49) (by decide), fun c49 => ?_⟩
              obtain ⟨a50, ea50, o_a50, l_a50⟩ := shl 57 rfl hI o_v0
              refine ⟨a50, ea50, ?_⟩
              refine ⟨o_a50, ?_⟩
              refine ⟨(vin l_a50 (m := 7) (by decide) (qm537 c3 c4 c7 r_x43 r_kv44 wh_x43 c45)), ?_⟩
              intro x51 ex51
              have de_x51 := ml_de hI o_v0 (j := 21) (by decide) ea50 (1 : Int32).toNatClampNeg
              rw [← ex51] at de_x51
              have dr_x51 : (0 : Int64) ≤ x51 ∧ x51 ≤ (999 : Int64) := de_x51.2 (by decide)
              have lr_x51 : 0 ≤ x51.toInt32 ∧ x51.toInt32 ≤ (999 : Int32) := l2i_rng (by decide) dr_x51
              exact hq _ _ hI g0 f0
          · intro x52 ex52
            have r_x52 : (0 : Int32) ≤ x52 ∧ x52 ≤ (16 : Int32) := by rw [ex52]; exact nu 27 rfl hI o_v0
            have d_x52 := ex52
            exact hq _ _ hI g0 f0
  · intro x53 ex53
    have r_x53 : (0 : Int32) ≤ x53 ∧ x53 ≤ (900 : Int32) := by rw [ex53]; exact nu 23 rfl hI o_v0
    have d_x53 := ex53
    exact hq _ _ hI g0 f0
set_option maxHeartbeats 4000000 in
set_option maxRecDepth 20000 in
theorem m_X11_soaked {v0 : Nat} {Q : Int32 → HS → Prop} {S : HS} (hI : IV S) (o_v0 : ob S v0 11)     (hq : ∀ (r : Int32) (T : HS), IV T → Gr S T → FRI [(11, 0), (11, 1), (11, 2)] [] S T → Q r T) : P_X11_soaked v0 Q S := by
  have g0 := gr_rf S
  have f0 := fri_rf [(11, 0), (11, 1), (11, 2)] [] S
  refine u_X11_soaked ?_
  refine u_X11_soaked_0 ?_
  refine ⟨o_v0, ?_⟩
  intro S1 eS1
  have hIn : IV S1 := by rw [eS1]; exact iv11_sI hI o_v0 (by decide) (nu_free (by decide))
  have hI := hIn
  have f0 := fr_I eS1 g0 f0 o_v0 (by decide)
  obtain ⟨kv2, hkv2⟩ : ∃ z : Int32, z = (0 : Int32) := ⟨_, rfl⟩
  have d_kv2 := rd_Is eS1 hkv2
  have g0 := gr_I eS1 g0
  have o_v0 := ob_I eS1 o_v0
  refine u_X11_isDay ?_
  refine u_X11_isDay_0 ?_
  refine ⟨o_v0, ?_⟩
  refine ⟨fun e4 => ?_, fun a3 ea3 => ?_⟩
  · intro _ _
    refine ⟨fun c6 => absurd (show ¬ (0 : Int32) = 0 from c6) (by decide), fun c6 => ?_⟩
    refine u_X11_refused ?_
    refine u_X11_refused_0 ?_
    refine ⟨o_v0, ?_⟩
    intro S7 eS7
    have hIn : IV S7 := by rw [eS7]; exact iv11_sI hI o_v0 (by decide) (nu_free (by decide))
    have hI := hIn
    have f0 := fr_I eS7 g0 f0 o_v0 (by decide)
    have d_kv2 := rd_Ij eS7 (by decide) d_kv2
    obtain ⟨kv8, hkv8⟩ : ∃ z : Int32, z = (1 : Int32) := ⟨_, rfl⟩
    have d_kv8 := rd_Is eS7 hkv8
    have g0 := gr_I eS7 g0
    have o_v0 := ob_I eS7 o_v0
    intro S9 eS9
    have hIn : IV S9 := by rw [eS9]; exact iv11_sI hI o_v0 (by decide) (nu_free (by decide))
    have hI := hIn
    have f0 := fr_I eS9 g0 f0 o_v0 (by decide)
    have d_kv2 := rd_Ij eS9 (by decide) d_kv2
    have d_kv8 := rd_Ij eS9 (by decide) d_kv8
    obtain ⟨kv10, hkv10⟩ : ∃ z : Int32, z = (-1 : Int32) := ⟨_, rfl⟩
    have d_kv10 := rd_Is eS9 hkv10
    have g0 := gr_I eS9 g0
    have o_v0 := ob_I eS9 o_v0
    intro _
    exact hq _ _ hI g0 f0
  · have o_a3 := ml_ob hI o_v0 ea3
    intro x12 ex12
    have r_x12 : (-2 : Int32) ≤ x12 ∧ x12 ≤ (3 : Int32) := by rw [ex12]; exact nu 26 rfl hI o_v0
    have d_x12 := ex12
    obtain ⟨kv13, d_kv13⟩ : ∃ z : Int32, z = fI S1 a3 4 := ⟨_, rfl⟩
    have r_kv13 : (0 : Int32) ≤ kv13 ∧ kv13 ≤ (4 : Int32) := by rw [d_kv13]; exact nu 20 rfl hI o_a3
    have wh_x12 : x12 = -2 ∨ (0 ≤ x12 ∧ x12 < kv13) := by rw [ex12, d_kv13]; exact ml_who hI o_v0 ea3
    refine ⟨fun c14 => ?_, fun c14 => ?_⟩
    · intro _ _
      refine ⟨fun c16 => absurd (show ¬ (0 : Int32) = 0 from c16) (by decide), fun c16 => ?_⟩
      refine u_X11_refused ?_
      refine u_X11_refused_0 ?_
      refine ⟨o_v0, ?_⟩
      intro S17 eS17
      have hIn : IV S17 := by rw [eS17]; exact iv11_sI hI o_v0 (by decide) (nu_free (by decide))
      have hI := hIn
      have f0 := fr_I eS17 g0 f0 o_v0 (by decide)
      have d_kv2 := rd_Ij eS17 (by decide) d_kv2
      have d_x12 := rd_Ij eS17 (by decide) d_x12
      have d_kv13 := rd_Ik eS17 o_v0 o_a3 (by decide) d_kv13
      obtain ⟨kv18, hkv18⟩ : ∃ z : Int32, z = (1 : Int32) := ⟨_, rfl⟩
      have d_kv18 := rd_Is eS17 hkv18
      have ea3 := rf_I eS17 ea3
      have g0 := gr_I eS17 g0
      have o_a3 := ob_I eS17 o_a3
      have o_v0 := ob_I eS17 o_v0
      intro S19 eS19
      have hIn : IV S19 := by rw [eS19]; exact iv11_sI hI o_v0 (by decide) (nu_free (by decide))
      have hI := hIn
      have f0 := fr_I eS19 g0 f0 o_v0 (by decide)
      have d_kv2 := rd_Ij eS19 (by decide) d_kv2
      have d_x12 := rd_Ij eS19 (by decide) d_x12
      have d_kv13 := rd_Ik eS19 o_v0 o_a3 (by decide) d_kv13
      have d_kv18 := rd_Ij eS19 (by decide) d_kv18
      obtain ⟨kv20, hkv20⟩ : ∃ z : Int32, z = (-1 : Int32) := ⟨_, rfl⟩
      have d_kv20 := rd_Is eS19 hkv20
      have ea3 := rf_I eS19 ea3
      have g0 := gr_I eS19 g0
      have o_a3 := ob_I eS19 o_a3
      have o_v0 := ob_I eS19 o_v0
      intro _
      exact hq _ _ hI g0 f0
    · intro _ _
      refine ⟨fun c23 => ?_, fun c23 => absurd (show (1 : Int32) = 0 from c23) (by decide)⟩
      refine ⟨a3, ea3, ?_⟩
      refine ⟨o_a3, ?_⟩
      obtain ⟨a25, ea25, o_a25, l_a25⟩ := shl 41 rfl hI o_a3
      refine ⟨a25, ea25, ?_⟩
      intro x26 ex26
      have r_x26 : (-2 : Int32) ≤ x26 ∧ x26 ≤ (3 : Int32) := by rw [ex26]; exact nu 26 rfl hI o_v0
      have q_x26 : x26 = x12 := ex26.trans d_x12.symm
      have d_x26 := ex26
      have wh_x26 : x26 = -2 ∨ (0 ≤ x26 ∧ x26 < kv13) := by rw [ex26, d_kv13]; exact ml_who hI o_v0 ea3
      refine ⟨o_a25, ?_⟩
      refine ⟨(vin l_a25 (m := 4) (by decide) (qm547 r_x12 r_kv13 wh_x12 c14 r_x26 q_x26 wh_x26)), ?_⟩
      intro x27 ex27
      refine ⟨fun c28 => ?_, fun c28 => ?_⟩
      · refine m_X11_gotInAll hI o_v0 (fun x29 S30 hI2 g31 p_x29 => ?_)
        subst p_x29
        intro _
        refine u_X11_holds ?_
        refine u_X11_holds_0 ?_
        refine ⟨o_v0, ?_⟩
        refine ⟨a3, ea3, ?_⟩
        refine ⟨o_a3, ?_⟩
        refine ⟨a25, ea25, ?_⟩
        intro x35 ex35
        have r_x35 : (-2 : Int32) ≤ x35 ∧ x35 ≤ (3 : Int32) := by rw [ex35]; exact nu 26 rfl hI o_v0
        have q_x35 : x35 = x26 := ex35.trans d_x26.symm
        have d_x35 := ex35
        have wh_x35 : x35 = -2 ∨ (0 ≤ x35 ∧ x35 < kv13) := by rw [ex35, d_kv13]; exact ml_who hI o_v0 ea3
        refine ⟨o_a25, ?_⟩
        refine ⟨(vin l_a25 (m := 4) (by decide) (qm548 r_x12 r_kv13 wh_x12 c14 r_x26 q_x26 wh_x26 c28 r_x35 q_x35 wh_x35)), ?_⟩
        intro x36 ex36
        refine ⟨fun c37 => ?_, fun c37 => ?_⟩
        · intro _
          refine ⟨fun c39 => ?_, fun c39 => ?_⟩
          · refine u_X11_soaked_57 ?_
            refine ⟨o_v0, ?_⟩
            refine u_X11_good ?_
            refine u_X11_good_0 ?_
            refine ⟨o_v0, ?_⟩
            intro S40 eS40
            have hIn : IV S40 := by rw [eS40]; exact iv11_sI hI o_v0 (by decide) (nu_free (by decide))
            have hI := hIn
            have f0 := fr_I eS40 g0 f0 o_v0 (by decide)
            have d_kv2 := rd_Ij eS40 (by decide) d_kv2
            have d_x35 := rd_Ij eS40 (by decide) d_x35
            have d_kv13 := rd_Ik eS40 o_v0 o_a3 (by decide) d_kv13
            obtain ⟨kv41, hkv41⟩ : ∃ z : Int32, z = (0 : Int32) := ⟨_, rfl⟩
            have d_kv41 := rd_Is eS40 hkv41
            have ea3 := rf_I eS40 ea3
            have ea25 := rf_I eS40 ea25
            have l_a25 := ln_I eS40 l_a25
            have g0 := gr_I eS40 g0
            have o_a25 := ob_I eS40 o_a25
            have o_a3 := ob_I eS40 o_a3
            have o_v0 := ob_I eS40 o_v0
            intro S42 eS42
            have hIn : IV S42 := by rw [eS42]; exact iv11_sI hI o_v0 (by decide) (nu_free (by decide))
            have hI := hIn
            have f0 := fr_I eS42 g0 f0 o_v0 (by decide)
            have d_kv2 := rd_Ij eS42 (by decide) d_kv2
            have d_x35 := rd_Ij eS42 (by decide) d_x35
            have d_kv13 := rd_Ik eS42 o_v0 o_a3 (by decide) d_kv13
            have d_kv41 := rd_Ij eS42 (by decide) d_kv41
            obtain ⟨kv43, hkv43⟩ : ∃ z : Int32, z = (-1 : Int32) := ⟨_, rfl⟩
            have d_kv43 := rd_Is eS42 hkv43
            have ea3 := rf_I eS42 ea3
            have ea25 := rf_I eS42 ea25
            have l_a25 := ln_I eS42 l_a25
            have g0 := gr_I eS42 g0
            have o_a25 := ob_I eS42 o_a25
            have o_a3 := ob_I eS42 o_a3
            have o_v0 := ob_I eS42 o_v0
            intro _
            exact hq _ _ hI g0 f0
          · refine u_X11_soaked_57 ?_
            refine ⟨o_v0, ?_⟩
            refine u_X11_good ?_
            refine u_X11_good_0 ?_
            refine ⟨o_v0, ?_⟩
            intro S45 eS45
            have hIn : IV S45 := by rw [eS45]; exact iv11_sI hI o_v0 (by decide) (nu_free (by decide))
            have hI := hIn
            have f0 := fr_I eS45 g0 f0 o_v0 (by decide)
            have d_kv2 := rd_Ij eS45 (by decide) d_kv2
            have d_x35 := rd_Ij eS45 (by decide) d_x35
            have d_kv13 := rd_Ik eS45 o_v0 o_a3 (by decide) d_kv13
            obtain ⟨kv46, hkv46⟩ : ∃ z : Int32, z = (0 : Int32) := ⟨_, rfl⟩
            have d_kv46 := rd_Is eS45 hkv46
            have ea3 := rf_I eS45 ea3
            have ea25 := rf_I eS45 ea25
            have l_a25 := ln_I eS45 l_a25
            have g0 := gr_I eS45 g0
            have o_a25 := ob_I eS45 o_a25
            have o_a3 := ob_I eS45 o_a3
            have o_v0 := ob_I eS45 o_v0
            intro S47 eS47
            have hIn : IV S47 := by rw [eS47]; exact iv11_sI hI o_v0 (by decide) (nu_free (by decide))
            have hI := hIn
            have f0 := fr_I eS47 g0 f0 o_v0 (by decide)
            have d_kv2 := rd_Ij eS47 (by decide) d_kv2
            have d_x35 := rd_Ij eS47 (by decide) d_x35
            have d_kv13 := rd_Ik eS47 o_v0 o_a3 (by decide) d_kv13
            have d_kv46 := rd_Ij eS47 (by decide) d_kv46
            obtain ⟨kv48, hkv48⟩ : ∃ z : Int32, z = (-1 : Int32) := ⟨_, rfl⟩
            have d_kv48 := rd_Is eS47 hkv48
            have ea3 := rf_I eS47 ea3
            have ea25 := rf_I eS47 ea25
            have l_a25 := ln_I eS47 l_a25
            have g0 := gr_I eS47 g0
            have o_a25 := ob_I eS47 o_a25
            have o_a3 := ob_I eS47 o_a3
            have o_v0 := ob_I eS47 o_v0
            intro _
            exact hq _ _ hI g0 f0
        · refine ⟨a3, ea3, ?_⟩
          refine ⟨o_a3, ?_⟩
          obtain ⟨a51, ea51, o_a51, l_a51⟩ := shl 42 rfl hI o_a3
          refine ⟨a51, ea51, ?_⟩
          intro x52 ex52
          have r_x52 : (-2 : Int32) ≤ x52 ∧ x52 ≤ (3 : Int32) := by rw [ex52]; exact nu 26 rfl hI o_v0
          have q_x52 : x52 = x35 := ex52.trans d_x35.symm
          have d_x52 := ex52
          have wh_x52 : x52 = -2 ∨ (0 ≤ x52 ∧ x52 < kv13) := by rw [ex52, d_kv13]; exact ml_who hI o_v0 ea3
          refine ⟨o_a51, ?_⟩
          refine ⟨(vin l_a51 (m := 4) (by decide) (qm549 r_x12 r_kv13 wh_x12 c14 r_x26 q_x26 wh_x26 c28 r_x35 q_x35 wh_x35 c37 r_x52 q_x52 wh_x52)), ?_⟩
          intro x53 ex53
          intro _
          refine ⟨fun c55 => ?_, fun c55 => ?_⟩
          · refine u_X11_soaked_57 ?_
            refine ⟨o_v0, ?_⟩
            refine u_X11_good ?_
            refine u_X11_good_0 ?_
            refine ⟨o_v0, ?_⟩
            intro S56 eS56
            have hIn : IV S56 := by rw [eS56]; exact iv11_sI hI o_v0 (by decide) (nu_free (by decide))
            have hI := hIn
            have f0 := fr_I eS56 g0 f0 o_v0 (by decide)
            have d_kv2 := rd_Ij eS56 (by decide) d_kv2
            have d_x52 := rd_Ij eS56 (by decide) d_x52
            have d_kv13 := rd_Ik eS56 o_v0 o_a3 (by decide) d_kv13
            obtain ⟨kv57, hkv57⟩ : ∃ z : Int32, z = (0 : Int32) := ⟨_, rfl⟩
            have d_kv57 := rd_Is eS56 hkv57
            have ea3 := rf_I eS56 ea3
            have ea25 := rf_I eS56 ea25
            have ea51 := rf_I eS56 ea51
            have l_a25 := ln_I eS56 l_a25
            have l_a51 := ln_I eS56 l_a51
            have g0 := gr_I eS56 g0
            have o_a25 := ob_I eS56 o_a25
            have o_a3 := ob_I eS56 o_a3
            have o_a51 := ob_I eS56 o_a51
            have o_v0 := ob_I eS56 o_v0
            intro S58 eS58
            have hIn : IV S58 := by rw [eS58]; exact iv11_sI hI o_v0 (by decide) (nu_free (by decide))
            have hI := hIn
            have f0 := fr_I eS58 g0 f0 o_v0 (by decide)
            have d_kv2 := rd_Ij eS58 (by decide) d_kv2
            have d_x52 := rd_Ij eS58 (by decide) d_x52
            have d_kv13 := rd_Ik eS58 o_v0 o_a3 (by decide) d_kv13
            have d_kv57 := rd_Ij eS58 (by decide) d_kv57
            obtain ⟨kv59, hkv59⟩ : ∃ z : Int32, z = (-1 : Int32) := ⟨_, rfl⟩
            have d_kv59 := rd_Is eS58 hkv59
            have ea3 := rf_I eS58 ea3
            have ea25 := rf_I eS58 ea25
            have ea51 := rf_I eS58 ea51
            have l_a25 := ln_I eS58 l_a25
            have l_a51 := ln_I eS58 l_a51
            have g0 := gr_I eS58 g0
            have o_a25 := ob_I eS58 o_a25
            have o_a3 := ob_I eS58 o_a3
            have o_a51 := ob_I eS58 o_a51
            have o_v0 := ob_I eS58 o_v0
            intro _
            exact hq _ _ hI g0 f0
          · refine u_X11_soaked_57 ?_
            refine ⟨o_v0, ?_⟩
            refine u_X11_good ?_
            refine u_X11_good_0 ?_
            refine ⟨o_v0, ?_⟩
            intro S61 eS61
            have hIn : IV S61 := by rw [eS61]; exact iv11_sI hI o_v0 (by decide) (nu_free (by decide))
            have hI := hIn
            have f0 := fr_I eS61 g0 f0 o_v0 (by decide)
            have d_kv2 := rd_Ij eS61 (by decide) d_kv2
            have d_x52 := rd_Ij eS61 (by decide) d_x52
            have d_kv13 := rd_Ik eS61 o_v0 o_a3 (by decide) d_kv13
            obtain ⟨kv62, hkv62⟩ : ∃ z : Int32, z = (0 : Int32) := ⟨_, rfl⟩
            have d_kv62 := rd_Is eS61 hkv62
            have ea3 := rf_I eS61 ea3
            have ea25 := rf_I eS61 ea25
            have ea51 := rf_I eS61 ea51
            have l_a25 := ln_I eS61 l_a25
            have l_a51 := ln_I eS61 l_a51
            have g0 := gr_I eS61 g0
            have o_a25 := ob_I eS61 o_a25
            have o_a3 := ob_I eS61 o_a3
            have o_a51 := ob_I eS61 o_a51
            have o_v0 := ob_I eS61 o_v0
            intro S63 eS63
            have hIn : IV S63 := by rw [eS63]; exact iv11_sI hI o_v0 (by decide) (nu_free (by decide))
            have hI := hIn
            have f0 := fr_I eS63 g0 f0 o_v0 (by decide)
            have d_kv2 := rd_Ij eS63 (by decide) d_kv2
            have d_x52 := rd_Ij eS63 (by decide) d_x52
            have d_kv13 := rd_Ik eS63 o_v0 o_a3 (by decide) d_kv13
            have d_kv62 := rd_Ij eS63 (by decide) d_kv62
            obtain ⟨kv64, hkv64⟩ : ∃ z : Int32, z = (-1 : Int32) := ⟨_, rfl⟩
            have d_kv64 := rd_Is eS63 hkv64
            have ea3 := rf_I eS63 ea3
            have ea25 := rf_I eS63 ea25
            have ea51 := rf_I eS63 ea51
            have l_a25 := ln_I eS63 l_a25
            have l_a51 := ln_I eS63 l_a51
            have g0 := gr_I eS63 g0
            have o_a25 := ob_I eS63 o_a25
            have o_a3 := ob_I eS63 o_a3
            have o_a51 := ob_I eS63 o_a51
            have o_v0 := ob_I eS63 o_v0
            intro _
            exact hq _ _ hI g0 f0
      · refine u_X11_soaked_57 ?_
        refine ⟨o_v0, ?_⟩
        refine u_X11_good ?_
        refine u_X11_good_0 ?_
        refine ⟨o_v0, ?_⟩
        intro S66 eS66
        have hIn : IV S66 := by rw [eS66]; exact iv11_sI hI o_v0 (by decide) (nu_free (by decide))
        have hI := hIn
        have f0 := fr_I eS66 g0 f0 o_v0 (by decide)
        have d_kv2 := rd_Ij eS66 (by decide) d_kv2
        have d_x26 := rd_Ij eS66 (by decide) d_x26
        have d_kv13 := rd_Ik eS66 o_v0 o_a3 (by decide) d_kv13
        obtain ⟨kv67, hkv67⟩ : ∃ z : Int32, z = (0 : Int32) := ⟨_, rfl⟩
        have d_kv67 := rd_Is eS66 hkv67
        have ea3 := rf_I eS66 ea3
        have ea25 := rf_I eS66 ea25
        have l_a25 := ln_I eS66 l_a25
        have g0 := gr_I eS66 g0
        have o_a25 := ob_I eS66 o_a25
        have o_a3 := ob_I eS66 o_a3
        have o_v0 := ob_I eS66 o_v0
        intro S68 eS68
        have hIn : IV S68 := by rw [eS68]; exact iv11_sI hI o_v0 (by decide) (nu_free (by decide))
        have hI := hIn
        have f0 := fr_I eS68 g0 f0 o_v0 (by decide)
        have d_kv2 := rd_Ij eS68 (by decide) d_kv2
        have d_x26 := rd_Ij eS68 (by decide) d_x26
        have d_kv13 := rd_Ik eS68 o_v0 o_a3 (by decide) d_kv13
        have d_kv67 := rd_Ij eS68 (by decide) d_kv67
        obtain ⟨kv69, hkv69⟩ : ∃ z : Int32, z = (-1 : Int32) := ⟨_, rfl⟩
        have d_kv69 := rd_Is eS68 hkv69
        have ea3 := rf_I eS68 ea3
        have ea25 := rf_I eS68 ea25
        have l_a25 := ln_I eS68 l_a25
        have g0 := gr_I eS68 g0
        have o_a25 := ob_I eS68 o_a25
        have o_a3 := ob_I eS68 o_a3
        have o_v0 := ob_I eS68 o_v0
        intro _
        exact hq _ _ hI g0 f0
end
section
set_option maxHeartbeats 4000000 in
set_option maxRecDepth 20000 in
theorem m_X11_stay {v0 : Nat} {v1 : Int32} {Q : Int32 → HS → Prop} {S : HS} (hI : IV S) (o_v0 : ob S v0 11)     (hq : ∀ (r : Int32) (T : HS), IV T → Gr S T → FRI [(11, 0), (11, 1), (11, 2), (11, 24)] [] S T → bl r → Q r T) : P_X11_stay v0 v1 Q S := by
  have g0 := gr_rf S
  have f0 := fri_rf [(11, 0), (11, 1), (11, 2), (11, 24)] [] S
  refine u_X11_stay ?_
  refine u_X11_stay_0 ?_
  refine ⟨o_v0, ?_⟩
  intro S1 eS1
  have hIn : IV S1 := by rw [eS1]; exact iv11_sI hI o_v0 (by decide) (nu_free (by decide))
  have hI := hIn
  have f0 := fr_I eS1 g0 f0 o_v0 (by decide)
  obtain ⟨kv2, hkv2⟩ : ∃ z : Int32, z = (0 : Int32) := ⟨_, rfl⟩
  have d_kv2 := rd_Is eS1 hkv2
  have g0 := gr_I eS1 g0
  have o_v0 := ob_I eS1 o_v0
  refine u_X11_isDay ?_
  refine u_X11_isDay_0 ?_
  refine ⟨o_v0, ?_⟩
  refine ⟨fun e4 => ?_, fun a3 ea3 => ?_⟩
  · intro _ _
    refine ⟨fun c6 => absurd (show ¬ (0 : Int32) = 0 from c6) (by decide), fun c6 => ?_⟩
    refine u_X11_denied ?_
    refine u_X11_denied_0 ?_
    refine ⟨o_v0, ?_⟩
    refine u_X11_refused ?_
    refine u_X11_refused_0 ?_
    refine ⟨o_v0, ?_⟩
    intro S7 eS7
    have hIn : IV S7 := by rw [eS7]; exact iv11_sI hI o_v0 (by decide) (nu_free (by decide))
    have hI := hIn
    have f0 := fr_I eS7 g0 f0 o_v0 (by decide)
    have d_kv2 := rd_Ij eS7 (by decide) d_kv2
    obtain ⟨kv8, hkv8⟩ : ∃ z : Int32, z = (1 : Int32) := ⟨_, rfl⟩
    have d_kv8 := rd_Is eS7 hkv8
    have g0 := gr_I eS7 g0
    have o_v0 := ob_I eS7 o_v0
    intro S9 eS9
    have hIn : IV S9 := by rw [eS9]; exact iv11_sI hI o_v0 (by decide) (nu_free (by decide))
    have hI := hIn
    have f0 := fr_I eS9 g0 f0 o_v0 (by decide)
    have d_kv2 := rd_Ij eS9 (by decide) d_kv2
    have d_kv8 := rd_Ij eS9 (by decide) d_kv8
    obtain ⟨kv10, hkv10⟩ : ∃ z : Int32, z = (-1 : Int32) := ⟨_, rfl⟩
    have d_kv10 := rd_Is eS9 hkv10
    have g0 := gr_I eS9 g0
    have o_v0 := ob_I eS9 o_v0
    intro _
    intro _ _
    refine ⟨(Or.inl rfl), ?_⟩
    exact hq _ _ hI g0 f0 (Or.inl rfl)
  · have o_a3 := ml_ob hI o_v0 ea3
    intro x13 ex13
    have r_x13 : (-2 : Int32) ≤ x13 ∧ x13 ≤ (3 : Int32) := by rw [ex13]; exact nu 26 rfl hI o_v0
    have d_x13 := ex13
    obtain ⟨kv14, d_kv14⟩ : ∃ z : Int32, z = fI S1 a3 4 := ⟨_, rfl⟩
    have r_kv14 : (0 : Int32) ≤ kv14 ∧ kv14 ≤ (4 : Int32) := by rw [d_kv14]; exact nu 20 rfl hI o_a3
    have wh_x13 : x13 = -2 ∨ (0 ≤ x13 ∧ x13 < kv14) := by rw [ex13, d_kv14]; exact ml_who hI o_v0 ea3
    refine ⟨fun c15 => ?_, fun c15 => ?_⟩
    · intro _ _
      refine ⟨fun c17 => absurd (show ¬ (0 : Int32) = 0 from c17) (by decide), fun c17 => ?_⟩
      refine u_X11_denied ?_
      refine u_X11_denied_0 ?_
      refine ⟨o_v0, ?_⟩
      refine u_X11_refused ?_
      refine u_X11_refused_0 ?_
      refine ⟨o_v0, ?_⟩
      intro S18 eS18
      have hIn : IV S18 := by rw [eS18]; exact iv11_sI hI o_v0 (by decide) (nu_free (by decide))
      have hI := hIn
      have f0 := fr_I eS18 g0 f0 o_v0 (by decide)
      have d_kv2 := rd_Ij eS18 (by decide) d_kv2
      have d_x13 := rd_Ij eS18 (by decide) d_x13
      have d_kv14 := rd_Ik eS18 o_v0 o_a3 (by decide) d_kv14
      obtain ⟨kv19, hkv19⟩ : ∃ z : Int32, z = (1 : Int32) := ⟨_, rfl⟩
      have d_kv19 := rd_Is eS18 hkv19
      have ea3 := rf_I eS18 ea3
      have g0 := gr_I eS18 g0
      have o_a3 := ob_I eS18 o_a3
      have o_v0 := ob_I eS18 o_v0
      intro S20 eS20
      have hIn : IV S20 := by rw [eS20]; exact iv11_sI hI o_v0 (by decide) (nu_free (by decide))
      have hI := hIn
      have f0 := fr_I eS20 g0 f0 o_v0 (by decide)
      have d_kv2 := rd_Ij eS20 (by decide) d_kv2
      have d_x13 := rd_Ij eS20 (by decide) d_x13
      have d_kv14 := rd_Ik eS20 o_v0 o_a3 (by decide) d_kv14
      have d_kv19 := rd_Ij eS20 (by decide) d_kv19
      obtain ⟨kv21, hkv21⟩ : ∃ z : Int32, z = (-1 : Int32) := ⟨_, rfl⟩
      have d_kv21 := rd_Is eS20 hkv21
      have ea3 := rf_I eS20 ea3
      have g0 := gr_I eS20 g0
      have o_a3 := ob_I eS20 o_a3
      have o_v0 := ob_I eS20 o_v0
      intro _
      intro _ _
      refine ⟨(Or.inl rfl), ?_⟩
      exact hq _ _ hI g0 f0 (Or.inl rfl)
    · intro _ _
      refine ⟨fun c25 => ?_, fun c25 => absurd (show (1 : Int32) = 0 from c25) (by decide)⟩
      refine u_X11_in ?_
      refine u_X11_in_0 ?_
      refine ⟨fun c26 => ?_, fun c26 => ?_⟩
      · intro _ _
        refine ⟨fun c28 => absurd (show ¬ (0 : Int32) = 0 from c28) (by decide), fun c28 => ?_⟩
        refine u_X11_denied ?_
        refine u_X11_denied_0 ?_
        refine ⟨o_v0, ?_⟩
        refine u_X11_refused ?_
        refine u_X11_refused_0 ?_
        refine ⟨o_v0, ?_⟩
        intro S29 eS29
        have hIn : IV S29 := by rw [eS29]; exact iv11_sI hI o_v0 (by decide) (nu_free (by decide))
        have hI := hIn
        have f0 := fr_I eS29 g0 f0 o_v0 (by decide)
        have d_kv2 := rd_Ij eS29 (by decide) d_kv2
        have d_x13 := rd_Ij eS29 (by decide) d_x13
        have d_kv14 := rd_Ik eS29 o_v0 o_a3 (by decide) d_kv14
        obtain ⟨kv30, hkv30⟩ : ∃ z : Int32, z = (2 : Int32) := ⟨_, rfl⟩
        have d_kv30 := rd_Is eS29 hkv30
        have ea3 := rf_I eS29 ea3
        have g0 := gr_I eS29 g0
        have o_a3 := ob_I eS29 o_a3
        have o_v0 := ob_I eS29 o_v0
        intro S31 eS31
        have hIn : IV S31 := by rw [eS31]; exact iv11_sI hI o_v0 (by decide) (nu_free (by decide))
        have hI := hIn
        have f0 := fr_I eS31 g0 f0 o_v0 (by decide)
        have d_kv2 := rd_Ij eS31 (by decide) d_kv2
        have d_x13 := rd_Ij eS31 (by decide) d_x13
        have d_kv14 := rd_Ik eS31 o_v0 o_a3 (by decide) d_kv14
        have d_kv30 := rd_Ij eS31 (by decide) d_kv30
        obtain ⟨kv32, hkv32⟩ : ∃ z : Int32, z = (-1 : Int32) := ⟨_, rfl⟩
        have d_kv32 := rd_Is eS31 hkv32
        have ea3 := rf_I eS31 ea3
        have g0 := gr_I eS31 g0
        have o_a3 := ob_I eS31 o_a3
        have o_v0 := ob_I eS31 o_v0
        intro _
        intro _ _
        refine ⟨(Or.inl rfl), ?_⟩
        exact hq _ _ hI g0 f0 (Or.inl rfl)
      · refine ⟨fun c35 => ?_, fun c35 => ?_⟩
        · intro _ _
          refine ⟨fun c37 => absurd (show ¬ (0 : Int32) = 0 from c37) (by decide), fun c37 => ?_⟩
          refine u_X11_denied ?_
          refine u_X11_denied_0 ?_
          refine ⟨o_v0, ?_⟩
          refine u_X11_refused ?_
          refine u_X11_refused_0 ?_
          refine ⟨o_v0, ?_⟩
          intro S38 eS38
          have hIn : IV S38 := by rw [eS38]; exact iv11_sI hI o_v0 (by decide) (nu_free (by decide))
          have hI := hIn
          have f0 := fr_I eS38 g0 f0 o_v0 (by decide)
          have d_kv2 := rd_Ij eS38 (by decide) d_kv2
          have d_x13 := rd_Ij eS38 (by decide) d_x13
          have d_kv14 := rd_Ik eS38 o_v0 o_a3 (by decide) d_kv14
          obtain ⟨kv39, hkv39⟩ : ∃ z : Int32, z = (2 : Int32) := ⟨_, rfl⟩
          have d_kv39 := rd_Is eS38 hkv39
          have ea3 := rf_I eS38 ea3
          have g0 := gr_I eS38 g0
          have o_a3 := ob_I eS38 o_a3
          have o_v0 := ob_I eS38 o_v0
          intro S40 eS40
          have hIn : IV S40 := by rw [eS40]; exact iv11_sI hI o_v0 (by decide) (nu_free (by decide))
          have hI := hIn
          have f0 := fr_I eS40 g0 f0 o_v0 (by decide)
          have d_kv2 := rd_Ij eS40 (by decide) d_kv2
          have d_x13 := rd_Ij eS40 (by decide) d_x13
          have d_kv14 := rd_Ik eS40 o_v0 o_a3 (by decide) d_kv14
          have d_kv39 := rd_Ij eS40 (by decide) d_kv39
          obtain ⟨kv41, hkv41⟩ : ∃ z : Int32, z = (-1 : Int32) := ⟨_, rfl⟩
          have d_kv41 := rd_Is eS40 hkv41
          have ea3 := rf_I eS40 ea3
          have g0 := gr_I eS40 g0
          have o_a3 := ob_I eS40 o_a3
          have o_v0 := ob_I eS40 o_v0
          intro _
          intro _ _
          refine ⟨(Or.inl rfl), ?_⟩
          exact hq _ _ hI g0 f0 (Or.inl rfl)
        · intro _ _
          refine ⟨fun c45 => ?_, fun c45 => absurd (show (1 : Int32) = 0 from c45) (by decide)⟩
          obtain ⟨a46, ea46, o_a46, l_a46⟩ := shl 57 rfl hI o_v0
          refine ⟨a46, ea46, ?_⟩
          refine ⟨o_a46, ?_⟩
          refine ⟨(vin l_a46 (m := 7) (by decide) (qm73 r_x13 r_kv14 wh_x13 c15 c26 c35)), ?_⟩
          intro x47 ex47
          have de_x47 := ml_de hI o_v0 (j := 21) (by decide) ea46 (0 : Int32).toNatClampNeg
          rw [← ex47] at de_x47
          have dr_x47 : (0 : Int64) ≤ x47 ∧ x47 ≤ (7 : Int64) := de_x47.1 (by decide)
          have lr_x47 : 0 ≤ x47.toInt32 ∧ x47.toInt32 ≤ (7 : Int32) := l2i_rng (by decide) dr_x47
          intro x48 ex48
          refine u_X11_canWait ?_
          refine u_X11_canWait_0 ?_
          refine ⟨o_v0, ?_⟩
          refine ⟨a3, ea3, ?_⟩
          refine ⟨o_a3, ?_⟩
          obtain ⟨a50, ea50, o_a50, l_a50⟩ := shl 40 rfl hI o_a3
          refine ⟨a50, ea50, ?_⟩
          refine ⟨o_a50, ?_⟩
          refine ⟨(vin l_a50 (m := 8) (by decide) (qm74 r_x13 r_kv14 wh_x13 c15 c26 c35 dr_x47 lr_x47 ex48)), ?_⟩
          intro x51 ex51
          refine ⟨fun c52 => ?_, fun c52 => ?_⟩
          · intro _ _
            refine ⟨fun c54 => ?_, fun c54 => absurd (show (1 : Int32) = 0 from c54) (by decide)⟩
            refine ⟨a46, ea46, ?_⟩
            refine ⟨o_a46, ?_⟩
            refine ⟨(vin l_a46 (m := 7) (by decide) (qm75 r_x13 r_kv14 wh_x13 c15 c26 c35 c52)), ?_⟩
            intro x56 ex56
            have de_x56 := ml_de hI o_v0 (j := 21) (by decide) ea46 (1 : Int32).toNatClampNeg
            rw [← ex56] at de_x56
            have dr_x56 : (0 : Int64) ≤ x56 ∧ x56 ≤ (999 : Int64) := de_x56.2 (by decide)
            refine ⟨fun c57 => ?_, fun c57 => ?_⟩
            · refine m_X11_keeps hI o_v0 (fun S59 hJ g60 fc61 p_S59 => ?_)
              have hI := hJ
              have l_a46 := (gr_len g60 o_a46).trans l_a46
              have l_a50 := (gr_len g60 o_a50).trans l_a50
              have d_kv2 := d_kv2.trans (fri_at fc61 (by decide) (by decide) o_v0).symm
              have d_x13 := d_x13.trans (fri_at fc61 (by decide) (by decide) o_v0).symm
              have d_kv14 := d_kv14.trans (fri_at fc61 (by decide) (by decide) o_a3).symm
              have ea3 := (frr_at fc61 (by decide) (by decide) o_v0).trans ea3
              have ea46 := (frr_at fc61 (by decide) (by decide) o_v0).trans ea46
              have ea50 := (frr_at fc61 (by decide) (by decide) o_a3).trans ea50
              have f0 := fri_tr (S := S1) g0 f0 fc61 (by decide) (by decide)
              have o_a3 := gr_ob g60 o_a3
              have o_a46 := gr_ob g60 o_a46
              have o_a50 := gr_ob g60 o_a50
              have o_v0 := gr_ob g60 o_v0
              have g0 := gr_tr (T := S1) g0 g60
              intro _
              refine i_X11_stay_84 (fun (y0 : Nat) (y1 : Int32) (y2 : Int32) (y3 : Int32) (Z : HS) => ((60 : Int32).toInt - y3.toInt).toNat) (fun (y0 : Nat) (y1 : Int32) (y2 : Int32) (y3 : Int32) (Z : HS) => (IV Z) ∧ (Gr S59 Z) ∧ (FRI [] [] S59 Z) ∧ (v0 = y0) ∧ (v1 = y1) ∧ (x48 = y2) ∧ (0 ≤ y3 ∧ y3 ≤ 60) ∧ (SJ Z v0 y1 y3)) ?_ _ _ _ _ _ ⟨hI, (gr_rf _), (fri_rf _ _ _), rfl, rfl, rfl, (qm76 r_x13 r_kv14 wh_x13 c15 c26 c35 c52 dr_x56 c57), (sj_init ex56 p_S59 ea46 dr_x56 (qm77 r_x13 r_kv14 wh_x13 c15 c26 c35 c52 dr_x56 c57) (lc_le c57))⟩
              intro w66 w68 w70 w72 S63 X73 ⟨hI, gL64, fL65, q67, q69, q71, i1u62, sj⟩ ih74
              subst q67
              subst q69
              subst q71
              have l_a46 := (gr_len gL64 o_a46).trans l_a46
              have l_a50 := (gr_len gL64 o_a50).trans l_a50
              have d_kv2 := d_kv2.trans (fri_at fL65 (by decide) (by decide) o_v0).symm
              have d_x13 := d_x13.trans (fri_at fL65 (by decide) (by decide) o_v0).symm
              have d_kv14 := d_kv14.trans (fri_at fL65 (by decide) (by decide) o_a3).symm
              have ea3 := (frr_at fL65 (by decide) (by decide) o_v0).trans ea3
              have ea46 := (frr_at fL65 (by decide) (by decide) o_v0).trans ea46
              have ea50 := (frr_at fL65 (by decide) (by decide) o_a3).trans ea50
              have f0 := fri_tr (S := S59) g0 f0 fL65 (by decide) (by decide)
              have o_a3 := gr_ob gL64 o_a3
              have o_a46 := gr_ob gL64 o_a46
              have o_a50 := gr_ob gL64 o_a50
              have o_v0 := gr_ob gL64 o_v0
              have g0 := gr_tr (T := S59) g0 gL64
              refine u_X11_stay_84 ?_
              refine ⟨fun c75 => ?_, fun c75 => ?_⟩
              · refine ⟨o_v0, ?_⟩
                refine u_X11_granted ?_
                refine u_X11_granted_0 ?_
                refine ⟨o_v0, ?_⟩
                refine u_X11_good ?_
                refine u_X11_good_0 ?_
                refine ⟨o_v0, ?_⟩
                intro S76 eS76
                have hIn : IV S76 := by rw [eS76]; exact iv11_sI hI o_v0 (by decide) (nu_free (by decide))
                have sj := sj_I eS76 sj
                have hI := hIn
                have f0 := fr_I eS76 g0 f0 o_v0 (by decide)
                have d_kv2 := rd_Ij eS76 (by decide) d_kv2
                have d_x13 := rd_Ij eS76 (by decide) d_x13
                have d_kv14 := rd_Ik eS76 o_v0 o_a3 (by decide) d_kv14
                obtain ⟨kv77, hkv77⟩ : ∃ z : Int32, z = (0 : Int32) := ⟨_, rfl⟩
                have d_kv77 := rd_Is eS76 hkv77
                have ea3 := rf_I eS76 ea3
                have ea46 := rf_I eS76 ea46
                have ea50 := rf_I eS76 ea50
                have l_a46 := ln_I eS76 l_a46
                have l_a50 := ln_I eS76 l_a50
                have g0 := gr_I eS76 g0
                have o_a3 := ob_I eS76 o_a3
                have o_a46 := ob_I eS76 o_a46
                have o_a50 := ob_I eS76 o_a50
                have o_v0 := ob_I eS76 o_v0
                intro S78 eS78
                have hIn : IV S78 := by rw [eS78]; exact iv11_sI hI o_v0 (by decide) (nu_free (by decide))
                have sj := sj_I eS78 sj
                have hI := hIn
                have f0 := fr_I eS78 g0 f0 o_v0 (by decide)
                have d_kv2 := rd_Ij eS78 (by decide) d_kv2
                have d_x13 := rd_Ij eS78 (by decide) d_x13
                have d_kv14 := rd_Ik eS78 o_v0 o_a3 (by decide) d_kv14
                have d_kv77 := rd_Ij eS78 (by decide) d_kv77
                obtain ⟨kv79, hkv79⟩ : ∃ z : Int32, z = (-1 : Int32) := ⟨_, rfl⟩
                have d_kv79 := rd_Is eS78 hkv79
                have ea3 := rf_I eS78 ea3
                have ea46 := rf_I eS78 ea46
                have ea50 := rf_I eS78 ea50
                have l_a46 := ln_I eS78 l_a46
                have l_a50 := ln_I eS78 l_a50
                have g0 := gr_I eS78 g0
                have o_a3 := ob_I eS78 o_a3
                have o_a46 := ob_I eS78 o_a46
                have o_a50 := ob_I eS78 o_a50
                have o_v0 := ob_I eS78 o_v0
                intro _
                intro _ _
                refine ⟨(Or.inr rfl), ?_⟩
                exact hq _ _ hI g0 f0 (Or.inr rfl)
              · refine ⟨o_v0, ?_⟩
                refine ⟨a3, ea3, ?_⟩
                refine ⟨o_a3, ?_⟩
                refine ⟨a50, ea50, ?_⟩
                refine ⟨o_a50, ?_⟩
                refine ⟨(vin l_a50 (m := 8) (by decide) (qm78 r_x13 r_kv14 wh_x13 c15 c26 c35 dr_x47 lr_x47 ex48 c52 dr_x56 c57 i1u62 c75)), ?_⟩
                intro x84 ex84
                refine ⟨fun c85 => ?_, fun c85 => ?_⟩
                · refine u_X11_stay_133 ?_
                  refine ⟨o_v0, ?_⟩
                  refine ⟨a46, ea46, ?_⟩
                  refine ⟨o_a46, ?_⟩
                  refine ⟨(vin l_a46 (m := 7) (by decide) (qm79 r_x13 r_kv14 wh_x13 c15 c26 c35 c52 dr_x56 c57 i1u62 c75 c85)), ?_⟩
                  intro x87 ex87
                  have de_x87 := ml_de hI o_v0 (j := 21) (by decide) ea46 (1 : Int32).toNatClampNeg
                  rw [← ex87] at de_x87
                  have dr_x87 : (0 : Int64) ≤ x87 ∧ x87 ≤ (999 : Int64) := de_x87.2 (by decide)
                  intro x88 ex88
                  have i89 : vp_in (1 : Int32) (hN _ a46) := (vin l_a46 (m := 7) (by decide) (qm79 r_x13 r_kv14 wh_x13 c15 c26 c35 c52 dr_x56 c57 i1u62 c75 c85))
                  refine ⟨i89, ?_⟩
                  intro S90 eS90
                  have hIn : IV S90 := by rw [eS90]; exact iv11_aD hI (sj_de sj ea46 ex87 ex88 dr_x87 (qm80 r_x13 r_kv14 wh_x13 c15 c26 c35 c52 dr_x56 c57 i1u62 c75 c85))
                  have sj := sj_1 (k2 := w72 + 1) eS90 ea46 ex87 ex88 dr_x87 (qm81 r_x13 r_kv14 wh_x13 c15 c26 c35 c52 dr_x56 c57 i1u62 c75 c85) rfl sj
                  have hI := hIn
                  have f0 := fr_J eS90 f0
                  have fL65 := fr_J eS90 fL65
                  have d_kv2 := rd_J eS90 d_kv2
                  have d_x13 := rd_J eS90 d_x13
                  have d_kv14 := rd_J eS90 d_kv14
                  have ea3 := rf_J eS90 ea3
                  have ea46 := rf_J eS90 ea46
                  have ea50 := rf_J eS90 ea50
                  have l_a46 := ln_J eS90 l_a46
                  have l_a50 := ln_J eS90 l_a50
                  have g0 := gr_J eS90 g0
                  have gL64 := gr_J eS90 gL64
                  have o_a3 := ob_J eS90 o_a3
                  have o_a46 := ob_J eS90 o_a46
                  have o_a50 := ob_J eS90 o_a50
                  have o_v0 := ob_J eS90 o_v0
                  intro x91 ex91
                  exact ih74 _ _ _ _ _ ⟨hI, gL64, fL65, rfl, rfl, rfl, (qm82 r_x13 r_kv14 wh_x13 c15 c26 c35 c52 dr_x56 c57 i1u62 c75 c85 ex91), (by rw [ex91]; exact sj)⟩ (mu_up (qm83 r_x13 r_kv14 wh_x13 c15 c26 c35 c52 dr_x56 c57 i1u62 c75 c85 ex91) (qm84 r_x13 r_kv14 wh_x13 c15 c26 c35 c52 dr_x56 c57 i1u62 c75 c85 ex91))
                · refine ⟨a46, ea46, ?_⟩
                  refine ⟨o_a46, ?_⟩
                  refine ⟨(vin l_a46 (m := 7) (by decide) (qm85 r_x13 r_kv14 wh_x13 c15 c26 c35 c52 dr_x56 c57 i1u62 c75 c85)), ?_⟩
                  intro x93 ex93
                  have de_x93 := ml_de hI o_v0 (j := 21) (by decide) ea46 (1 : Int32).toNatClampNeg
                  rw [← ex93] at de_x93
                  have dr_x93 : (0 : Int64) ≤ x93 ∧ x93 ≤ (999 : Int64) := de_x93.2 (by decide)
                  have lr_x93 : 0 ≤ x93.toInt32 ∧ x93.toInt32 ≤ (999 : Int32) := l2i_rng (by decide) dr_x93
                  refine u_X11_rainsIn ?_
                  refine u_X11_rainsIn_0 ?_
                  refine ⟨o_v0, ?_⟩
                  refine u_X11_hourOf ?_
                  refine u_X11_hourOf_0 ?_
                  refine ⟨o_v0, ?_⟩
                  refine ⟨a3, ea3, ?_⟩
                  refine ⟨o_a3, ?_⟩
                  intro x95 ex95
                  have r_x95 : (0 : Int32) ≤ x95 ∧ x95 ≤ (60 : Int32) := by rw [ex95]; exact nu 16 rfl hI o_a3
                  have d_x95 := ex95
                  have hh_x95 : 1 ≤ x95 := by rw [ex95]; exact ml_hour hI o_v0 ea3
                  refine ⟨(qm86 r_x13 r_kv14 wh_x13 c15 c26 c35 c52 dr_x56 c57 i1u62 c75 c85 r_x95 hh_x95), ?_⟩
                  intro x96 ex96
                  have dv_x96 : 0 ≤ x96 ∧ x96 ≤ x93.toInt32 := by rw [ex96]; exact dv0 (qm87 r_x13 r_kv14 wh_x13 c15 c26 c35 c52 dr_x56 c57 i1u62 c75 c85 dr_x93 lr_x93 r_x95 hh_x95 ex96) (i32pos (qm88 r_x13 r_kv14 wh_x13 c15 c26 c35 c52 dr_x56 c57 i1u62 c75 c85 dr_x93 lr_x93 r_x95 hh_x95 ex96))
                  intro _
                  refine ⟨a3, ea3, ?_⟩
                  refine ⟨o_a3, ?_⟩
                  intro x99 ex99
                  have r_x99 : (0 : Int32) ≤ x99 ∧ x99 ≤ (6 : Int32) := by rw [ex99]; exact nu 17 rfl hI o_a3
                  have d_x99 := ex99
                  refine ⟨fun c100 => ?_, fun c100 => ?_⟩
                  · intro _ _
                    refine ⟨fun c102 => ?_, fun c102 => absurd (show ¬ (0 : Int32) = 0 from c102) (by decide)⟩
                    refine u_X11_stay_133 ?_
                    refine ⟨o_v0, ?_⟩
                    refine ⟨a46, ea46, ?_⟩
                    refine ⟨o_a46, ?_⟩
                    refine ⟨(vin l_a46 (m := 7) (by decide) (qm89 r_x13 r_kv14 wh_x13 c15 c26 c35 c52 dr_x56 c57 i1u62 c75 c85 dr_x93 lr_x93 r_x95 hh_x95 ex96 dv_x96 r_x99 c100)), ?_⟩
                    intro x104 ex104
                    have de_x104 := ml_de hI o_v0 (j := 21) (by decide) ea46 (1 : Int32).toNatClampNeg
                    rw [← ex104] at de_x104
                    have dr_x104 : (0 : Int64) ≤ x104 ∧ x104 ≤ (999 : Int64) := de_x104.2 (by decide)
                    intro x105 ex105
                    have i106 : vp_in (1 : Int32) (hN _ a46) := (vin l_a46 (m := 7) (by decide) (qm89 r_x13 r_kv14 wh_x13 c15 c26 c35 c52 dr_x56 c57 i1u62 c75 c85 dr_x93 lr_x93 r_x95 hh_x95 ex96 dv_x96 r_x99 c100))
                    refine ⟨i106, ?_⟩
                    intro S107 eS107
                    have hIn : IV S107 := by rw [eS107]; exact iv11_aD hI (sj_de sj ea46 ex104 ex105 dr_x104 (qm90 r_x13 r_kv14 wh_x13 c15 c26 c35 c52 dr_x56 c57 i1u62 c75 c85 dr_x93 lr_x93 r_x95 hh_x95 ex96 dv_x96 r_x99 c100))
                    have sj := sj_1 (k2 := w72 + 1) eS107 ea46 ex104 ex105 dr_x104 (qm91 r_x13 r_kv14 wh_x13 c15 c26 c35 c52 dr_x56 c57 i1u62 c75 c85 dr_x93 lr_x93 r_x95 hh_x95 ex96 dv_x96 r_x99 c100) rfl sj
                    have hI := hIn
                    have f0 := fr_J eS107 f0
                    have fL65 := fr_J eS107 fL65
                    have d_kv2 := rd_J eS107 d_kv2
                    have d_x13 := rd_J eS107 d_x13
                    have d_kv14 := rd_J eS107 d_kv14
                    have d_x95 := rd_J eS107 d_x95
                    have d_x99 := rd_J eS107 d_x99
                    have ea3 := rf_J eS107 ea3
                    have ea46 := rf_J eS107 ea46
                    have ea50 := rf_J eS107 ea50
                    have l_a46 := ln_J eS107 l_a46
                    have l_a50 := ln_J eS107 l_a50
                    have g0 := gr_J eS107 g0
                    have gL64 := gr_J eS107 gL64
                    have o_a3 := ob_J eS107 o_a3
                    have o_a46 := ob_J eS107 o_a46
                    have o_a50 := ob_J eS107 o_a50
                    have o_v0 := ob_J eS107 o_v0
                    intro x108 ex108
                    exact ih74 _ _ _ _ _ ⟨hI, gL64, fL65, rfl, rfl, rfl, (qm92 r_x13 r_kv14 wh_x13 c15 c26 c35 c52 dr_x56 c57 i1u62 c75 c85 dr_x93 lr_x93 r_x95 hh_x95 ex96 dv_x96 r_x99 c100 ex108), (by rw [ex108]; exact sj)⟩ (mu_up (qm93 r_x13 r_kv14 wh_x13 c15 c26 c35 c52 dr_x56 c57 i1u62 c75 c85 dr_x93 lr_x93 r_x95 hh_x95 ex96 dv_x96 r_x99 c100 ex108) (qm94 r_x13 r_kv14 wh_x13 c15 c26 c35 c52 dr_x56 c57 i1u62 c75 c85 dr_x93 lr_x93 r_x95 hh_x95 ex96 dv_x96 r_x99 c100 ex108))
                  · intro x109 ex109
                    have d_x109 := ex109
                    refine ⟨fun c110 => ?_, fun c110 => ?_⟩
                    · intro _ _
                      refine ⟨fun c112 => ?_, fun c112 => absurd (show ¬ (0 : Int32) = 0 from c112) (by decide)⟩
                      refine u_X11_stay_133 ?_
                      refine ⟨o_v0, ?_⟩
                      refine ⟨a46, ea46, ?_⟩
                      refine ⟨o_a46, ?_⟩
                      refine ⟨(vin l_a46 (m := 7) (by decide) (qm95 r_x13 r_kv14 wh_x13 c15 c26 c35 c52 dr_x56 c57 i1u62 c75 c85 dr_x93 lr_x93 r_x95 hh_x95 ex96 dv_x96 r_x99 c100 c110)), ?_⟩
                      intro x114 ex114
                      have de_x114 := ml_de hI o_v0 (j := 21) (by decide) ea46 (1 : Int32).toNatClampNeg
                      rw [← ex114] at de_x114
                      have dr_x114 : (0 : Int64) ≤ x114 ∧ x114 ≤ (999 : Int64) := de_x114.2 (by decide)
                      intro x115 ex115
                      have i116 : vp_in (1 : Int32) (hN _ a46) := (vin l_a46 (m := 7) (by decide) (qm95 r_x13 r_kv14 wh_x13 c15 c26 c35 c52 dr_x56 c57 i1u62 c75 c85 dr_x93 lr_x93 r_x95 hh_x95 ex96 dv_x96 r_x99 c100 c110))
                      refine ⟨i116, ?_⟩
                      intro S117 eS117
                      have hIn : IV S117 := by rw [eS117]; exact iv11_aD hI (sj_de sj ea46 ex114 ex115 dr_x114 (qm96 r_x13 r_kv14 wh_x13 c15 c26 c35 c52 dr_x56 c57 i1u62 c75 c85 dr_x93 lr_x93 r_x95 hh_x95 ex96 dv_x96 r_x99 c100 c110))
                      have sj := sj_1 (k2 := w72 + 1) eS117 ea46 ex114 ex115 dr_x114 (qm97 r_x13 r_kv14 wh_x13 c15 c26 c35 c52 dr_x56 c57 i1u62 c75 c85 dr_x93 lr_x93 r_x95 hh_x95 ex96 dv_x96 r_x99 c100 c110) rfl sj
                      have hI := hIn
                      have f0 := fr_J eS117 f0
                      have fL65 := fr_J eS117 fL65
                      have d_kv2 := rd_J eS117 d_kv2
                      have d_x13 := rd_J eS117 d_x13
                      have d_kv14 := rd_J eS117 d_kv14
                      have d_x95 := rd_J eS117 d_x95
                      have d_x99 := rd_J eS117 d_x99
                      have d_x109 := rd_J eS117 d_x109
                      have ea3 := rf_J eS117 ea3
                      have ea46 := rf_J eS117 ea46
                      have ea50 := rf_J eS117 ea50
                      have l_a46 := ln_J eS117 l_a46
                      have l_a50 := ln_J eS117 l_a50
                      have g0 := gr_J eS117 g0
                      have gL64 := gr_J eS117 gL64
                      have o_a3 := ob_J eS117 o_a3
                      have o_a46 := ob_J eS117 o_a46
                      have o_a50 := ob_J eS117 o_a50
                      have o_v0 := ob_J eS117 o_v0
                      intro x118 ex118
                      exact ih74 _ _ _ _ _ ⟨hI, gL64, fL65, rfl, rfl, rfl, (qm98 r_x13 r_kv14 wh_x13 c15 c26 c35 c52 dr_x56 c57 i1u62 c75 c85 dr_x93 lr_x93 r_x95 hh_x95 ex96 dv_x96 r_x99 c100 c110 ex118), (by rw [ex118]; exact sj)⟩ (mu_up (qm99 r_x13 r_kv14 wh_x13 c15 c26 c35 c52 dr_x56 c57 i1u62 c75 c85 dr_x93 lr_x93 r_x95 hh_x95 ex96 dv_x96 r_x99 c100 c110 ex118) (qm100 r_x13 r_kv14 wh_x13 c15 c26 c35 c52 dr_x56 c57 i1u62 c75 c85 dr_x93 lr_x93 r_x95 hh_x95 ex96 dv_x96 r_x99 c100 c110 ex118))
                    · intro _ _
                      refine ⟨fun c120 => absurd (show (1 : Int32) = 0 from c120) (by decide), fun c120 => ?_⟩
                      refine ⟨a46, ea46, ?_⟩
                      refine ⟨o_a46, ?_⟩
                      refine ⟨(vin l_a46 (m := 7) (by decide) (qm101 r_x13 r_kv14 wh_x13 c15 c26 c35 c52 dr_x56 c57 i1u62 c75 c85 dr_x93 lr_x93 r_x95 hh_x95 ex96 dv_x96 r_x99 c100 c110)), ?_⟩
                      intro x122 ex122
                      have de_x122 := ml_de hI o_v0 (j := 21) (by decide) ea46 (2 : Int32).toNatClampNeg
                      rw [← ex122] at de_x122
                      intro x123 ex123
                      have r_x123 : (-2 : Int32) ≤ x123 ∧ x123 ≤ (3 : Int32) := by rw [ex123]; exact nu 26 rfl hI o_v0
                      have q_x123 : x123 = x13 := ex123.trans d_x13.symm
                      have d_x123 := ex123
                      have wh_x123 : x123 = -2 ∨ (0 ≤ x123 ∧ x123 < kv14) := by rw [ex123, d_kv14]; exact ml_who hI o_v0 ea3
                      refine u_X11_drips ?_
                      refine u_X11_drips_0 ?_
                      refine ⟨o_v0, ?_⟩
                      refine ⟨a3, ea3, ?_⟩
                      refine ⟨o_a3, ?_⟩
                      obtain ⟨a125, ea125, o_a125, l_a125⟩ := shl 34 rfl hI o_a3
                      refine ⟨a125, ea125, ?_⟩
                      refine ⟨o_a125, ?_⟩
                      refine ⟨(vin l_a125 (m := 8) (by decide) (qm102 r_x13 r_kv14 wh_x13 c15 c26 c35 dr_x47 lr_x47 ex48 c52 dr_x56 c57 i1u62 c75 c85 dr_x93 lr_x93 r_x95 hh_x95 ex96 dv_x96 r_x99 c100 c110 r_x123 q_x123 wh_x123)), ?_⟩
                      intro x126 ex126
                      refine ⟨a3, ea3, ?_⟩
                      refine ⟨o_a3, ?_⟩
                      obtain ⟨a128, ea128, o_a128, l_a128⟩ := shl 43 rfl hI o_a3
                      refine ⟨a128, ea128, ?_⟩
                      refine ⟨o_a128, ?_⟩
                      refine ⟨(vin l_a128 (m := 4) (by decide) (qm103 r_x13 r_kv14 wh_x13 c15 c26 c35 c52 dr_x56 c57 i1u62 c75 c85 dr_x93 lr_x93 r_x95 hh_x95 ex96 dv_x96 r_x99 c100 c110 r_x123 q_x123 wh_x123)), ?_⟩
                      intro x129 ex129
                      refine ⟨a3, ea3, ?_⟩
                      refine ⟨o_a3, ?_⟩
                      refine u_X10_shield ?_
                      refine u_X10_shield_0 ?_
                      refine ⟨o_a3, ?_⟩
                      obtain ⟨a131, ea131, o_a131, l_a131⟩ := shl 41 rfl hI o_a3
                      refine ⟨a131, ea131, ?_⟩
                      refine ⟨o_a131, ?_⟩
                      refine ⟨(vin l_a131 (m := 4) (by decide) (qm103 r_x13 r_kv14 wh_x13 c15 c26 c35 c52 dr_x56 c57 i1u62 c75 c85 dr_x93 lr_x93 r_x95 hh_x95 ex96 dv_x96 r_x99 c100 c110 r_x123 q_x123 wh_x123)), ?_⟩
                      intro x132 ex132
                      refine ⟨fun c133 => ?_, fun c133 => ?_⟩
                      · intro _
                        refine u_X11_less ?_
                        refine u_X11_less_0 ?_
                        refine ⟨fun c135 => ?_, fun c135 => ?_⟩
                        · intro _
                          intro _
                          intro x138 ex138
                          have i139 : vp_in (2 : Int32) (hN _ a46) := (vin l_a46 (m := 7) (by decide) (qm104 r_x13 r_kv14 wh_x13 c15 c26 c35 c52 dr_x56 c57 i1u62 c75 c85 dr_x93 lr_x93 r_x95 hh_x95 ex96 dv_x96 r_x99 c100 c110 r_x123 q_x123 wh_x123 c133 c135))
                          refine ⟨i139, ?_⟩
                          intro S140 eS140
                          have hIn : IV S140 := by rw [eS140]; exact iv11_aD hI (de_free (qm105 r_x13 r_kv14 wh_x13 c15 c26 c35 c52 dr_x56 c57 i1u62 c75 c85 dr_x93 lr_x93 r_x95 hh_x95 ex96 dv_x96 r_x99 c100 c110 r_x123 q_x123 wh_x123 c133 c135))
                          have sj := sj_2 eS140 sj
                          have hI := hIn
                          have f0 := fr_J eS140 f0
                          have fL65 := fr_J eS140 fL65
                          have d_kv2 := rd_J eS140 d_kv2
                          have d_x123 := rd_J eS140 d_x123
                          have d_kv14 := rd_J eS140 d_kv14
                          have d_x95 := rd_J eS140 d_x95
                          have d_x99 := rd_J eS140 d_x99
                          have d_x109 := rd_J eS140 d_x109
                          have ea3 := rf_J eS140 ea3
                          have ea46 := rf_J eS140 ea46
                          have ea50 := rf_J eS140 ea50
                          have ea125 := rf_J eS140 ea125
                          have ea128 := rf_J eS140 ea128
                          have ea131 := rf_J eS140 ea131
                          have l_a125 := ln_J eS140 l_a125
                          have l_a128 := ln_J eS140 l_a128
                          have l_a131 := ln_J eS140 l_a131
                          have l_a46 := ln_J eS140 l_a46
                          have l_a50 := ln_J eS140 l_a50
                          have g0 := gr_J eS140 g0
                          have gL64 := gr_J eS140 gL64
                          have o_a125 := ob_J eS140 o_a125
                          have o_a128 := ob_J eS140 o_a128
                          have o_a131 := ob_J eS140 o_a131
                          have o_a3 := ob_J eS140 o_a3
                          have o_a46 := ob_J eS140 o_a46
                          have o_a50 := ob_J eS140 o_a50
                          have o_v0 := ob_J eS140 o_v0
                          refine u_X11_stay_133 ?_
                          refine ⟨o_v0, ?_⟩
                          refine ⟨a46, ea46, ?_⟩
                          refine ⟨o_a46, ?_⟩
                          refine ⟨(vin l_a46 (m := 7) (by decide) (qm106 r_x13 r_kv14 wh_x13 c15 c26 c35 c52 dr_x56 c57 i1u62 c75 c85 dr_x93 lr_x93 r_x95 hh_x95 ex96 dv_x96 r_x99 c100 c110 r_x123 q_x123 wh_x123 c133 c135)), ?_⟩
                          intro x142 ex142
                          have de_x142 := ml_de hI o_v0 (j := 21) (by decide) ea46 (1 : Int32).toNatClampNeg
                          rw [← ex142] at de_x142
                          have dr_x142 : (0 : Int64) ≤ x142 ∧ x142 ≤ (999 : Int64) := de_x142.2 (by decide)
                          intro x143 ex143
                          have i144 : vp_in (1 : Int32) (hN _ a46) := (vin l_a46 (m := 7) (by decide) (qm106 r_x13 r_kv14 wh_x13 c15 c26 c35 c52 dr_x56 c57 i1u62 c75 c85 dr_x93 lr_x93 r_x95 hh_x95 ex96 dv_x96 r_x99 c100 c110 r_x123 q_x123 wh_x123 c133 c135))
                          refine ⟨i144, ?_⟩
                          intro S145 eS145
                          have hIn : IV S145 := by rw [eS145]; exact iv11_aD hI (sj_de sj ea46 ex142 ex143 dr_x142 (qm107 r_x13 r_kv14 wh_x13 c15 c26 c35 c52 dr_x56 c57 i1u62 c75 c85 dr_x93 lr_x93 r_x95 hh_x95 ex96 dv_x96 r_x99 c100 c110 r_x123 q_x123 wh_x123 c133 c135))
                          have sj := sj_1 (k2 := w72 + 1) eS145 ea46 ex142 ex143 dr_x142 (qm108 r_x13 r_kv14 wh_x13 c15 c26 c35 c52 dr_x56 c57 i1u62 c75 c85 dr_x93 lr_x93 r_x95 hh_x95 ex96 dv_x96 r_x99 c100 c110 r_x123 q_x123 wh_x123 c133 c135) rfl sj
                          have hI := hIn
                          have f0 := fr_J eS145 f0
                          have fL65 := fr_J eS145 fL65
                          have d_kv2 := rd_J eS145 d_kv2
                          have d_x123 := rd_J eS145 d_x123
                          have d_kv14 := rd_J eS145 d_kv14
                          have d_x95 := rd_J eS145 d_x95
                          have d_x99 := rd_J eS145 d_x99
                          have d_x109 := rd_J eS145 d_x109
                          have ea3 := rf_J eS145 ea3
                          have ea46 := rf_J eS145 ea46
                          have ea50 := rf_J eS145 ea50
                          have ea125 := rf_J eS145 ea125
                          have ea128 := rf_J eS145 ea128
                          have ea131 := rf_J eS145 ea131
                          have l_a125 := ln_J eS145 l_a125
                          have l_a128 := ln_J eS145 l_a128
                          have l_a131 := ln_J eS145 l_a131
                          have l_a46 := ln_J eS145 l_a46
                          have l_a50 := ln_J eS145 l_a50
                          have g0 := gr_J eS145 g0
                          have gL64 := gr_J eS145 gL64
                          have o_a125 := ob_J eS145 o_a125
                          have o_a128 := ob_J eS145 o_a128
                          have o_a131 := ob_J eS145 o_a131
                          have o_a3 := ob_J eS145 o_a3
                          have o_a46 := ob_J eS145 o_a46
                          have o_a50 := ob_J eS145 o_a50
                          have o_v0 := ob_J eS145 o_v0
                          intro x146 ex146
                          exact ih74 _ _ _ _ _ ⟨hI, gL64, fL65, rfl, rfl, rfl, (qm109 r_x13 r_kv14 wh_x13 c15 c26 c35 c52 dr_x56 c57 i1u62 c75 c85 dr_x93 lr_x93 r_x95 hh_x95 ex96 dv_x96 r_x99 c100 c110 r_x123 q_x123 wh_x123 c133 c135 ex146), (by rw [ex146]; exact sj)⟩ (mu_up (qm110 r_x13 r_kv14 wh_x13 c15 c26 c35 c52 dr_x56 c57 i1u62 c75 c85 dr_x93 lr_x93 r_x95 hh_x95 ex96 dv_x96 r_x99 c100 c110 r_x123 q_x123 wh_x123 c133 c135 ex146) (qm111 r_x13 r_kv14 wh_x13 c15 c26 c35 c52 dr_x56 c57 i1u62 c75 c85 dr_x93 lr_x93 r_x95 hh_x95 ex96 dv_x96 r_x99 c100 c110 r_x123 q_x123 wh_x123 c133 c135 ex146))
                        · intro _
                          intro _
                          intro x149 ex149
                          have i150 : vp_in (2 : Int32) (hN _ a46) := (vin l_a46 (m := 7) (by decide) (qm112 r_x13 r_kv14 wh_x13 c15 c26 c35 c52 dr_x56 c57 i1u62 c75 c85 dr_x93 lr_x93 r_x95 hh_x95 ex96 dv_x96 r_x99 c100 c110 r_x123 q_x123 wh_x123 c133 c135))
                          refine ⟨i150, ?_⟩
                          intro S151 eS151
                          have hIn : IV S151 := by rw [eS151]; exact iv11_aD hI (de_free (qm113 r_x13 r_kv14 wh_x13 c15 c26 c35 c52 dr_x56 c57 i1u62 c75 c85 dr_x93 lr_x93 r_x95 hh_x95 ex96 dv_x96 r_x99 c100 c110 r_x123 q_x123 wh_x123 c133 c135))
                          have sj := sj_2 eS151 sj
                          have hI := hIn
                          have f0 := fr_J eS151 f0
                          have fL65 := fr_J eS151 fL65
                          have d_kv2 := rd_J eS151 d_kv2
                          have d_x123 := rd_J eS151 d_x123
                          have d_kv14 := rd_J eS151 d_kv14
                          have d_x95 := rd_J eS151 d_x95
                          have d_x99 := rd_J eS151 d_x99
                          have d_x109 := rd_J eS151 d_x109
                          have ea3 := rf_J eS151 ea3
                          have ea46 := rf_J eS151 ea46
                          have ea50 := rf_J eS151 ea50
                          have ea125 := rf_J eS151 ea125
                          have ea128 := rf_J eS151 ea128
                          have ea131 := rf_J eS151 ea131
                          have l_a125 := ln_J eS151 l_a125
                          have l_a128 := ln_J eS151 l_a128
                          have l_a131 := ln_J eS151 l_a131
                          have l_a46 := ln_J eS151 l_a46
                          have l_a50 := ln_J eS151 l_a50
                          have g0 := gr_J eS151 g0
                          have gL64 := gr_J eS151 gL64
                          have o_a125 := ob_J eS151 o_a125
                          have o_a128 := ob_J eS151 o_a128
                          have o_a131 := ob_J eS151 o_a131
                          have o_a3 := ob_J eS151 o_a3
                          have o_a46 := ob_J eS151 o_a46
                          have o_a50 := ob_J eS151 o_a50
                          have o_v0 := ob_J eS151 o_v0
                          refine u_X11_stay_133 ?_
                          refine ⟨o_v0, ?_⟩
                          refine ⟨a46, ea46, ?_⟩
                          refine ⟨o_a46, ?_⟩
                          refine ⟨(vin l_a46 (m := 7) (by decide) (qm114 r_x13 r_kv14 wh_x13 c15 c26 c35 c52 dr_x56 c57 i1u62 c75 c85 dr_x93 lr_x93 r_x95 hh_x95 ex96 dv_x96 r_x99 c100 c110 r_x123 q_x123 wh_x123 c133 c135)), ?_⟩
                          intro x153 ex153
                          have de_x153 := ml_de hI o_v0 (j := 21) (by decide) ea46 (1 : Int32).toNatClampNeg
                          rw [← ex153] at de_x153
                          have dr_x153 : (0 : Int64) ≤ x153 ∧ x153 ≤ (999 : Int64) := de_x153.2 (by decide)
                          intro x154 ex154
                          have i155 : vp_in (1 : Int32) (hN _ a46) := (vin l_a46 (m := 7) (by decide) (qm114 r_x13 r_kv14 wh_x13 c15 c26 c35 c52 dr_x56 c57 i1u62 c75 c85 dr_x93 lr_x93 r_x95 hh_x95 ex96 dv_x96 r_x99 c100 c110 r_x123 q_x123 wh_x123 c133 c135))
                          refine ⟨i155, ?_⟩
                          intro S156 eS156
                          have hIn : IV S156 := by rw [eS156]; exact iv11_aD hI (sj_de sj ea46 ex153 ex154 dr_x153 (qm115 r_x13 r_kv14 wh_x13 c15 c26 c35 c52 dr_x56 c57 i1u62 c75 c85 dr_x93 lr_x93 r_x95 hh_x95 ex96 dv_x96 r_x99 c100 c110 r_x123 q_x123 wh_x123 c133 c135))
                          have sj := sj_1 (k2 := w72 + 1) eS156 ea46 ex153 ex154 dr_x153 (qm116 r_x13 r_kv14 wh_x13 c15 c26 c35 c52 dr_x56 c57 i1u62 c75 c85 dr_x93 lr_x93 r_x95 hh_x95 ex96 dv_x96 r_x99 c100 c110 r_x123 q_x123 wh_x123 c133 c135) rfl sj
                          have hI := hIn
                          have f0 := fr_J eS156 f0
                          have fL65 := fr_J eS156 fL65
                          have d_kv2 := rd_J eS156 d_kv2
                          have d_x123 := rd_J eS156 d_x123
                          have d_kv14 := rd_J eS156 d_kv14
                          have d_x95 := rd_J eS156 d_x95
                          have d_x99 := rd_J eS156 d_x99
                          have d_x109 := rd_J eS156 d_x109
                          have ea3 := rf_J eS156 ea3
                          have ea46 := rf_J eS156 ea46
                          have ea50 := rf_J eS156 ea50
                          have ea125 := rf_J eS156 ea125
                          have ea128 := rf_J eS156 ea128
                          have ea131 := rf_J eS156 ea131
                          have l_a125 := ln_J eS156 l_a125
                          have l_a128 := ln_J eS156 l_a128
                          have l_a131 := ln_J eS156 l_a131
                          have l_a46 := ln_J eS156 l_a46
                          have l_a50 := ln_J eS156 l_a50
                          have g0 := gr_J eS156 g0
                          have gL64 := gr_J eS156 gL64
                          have o_a125 := ob_J eS156 o_a125
                          have o_a128 := ob_J eS156 o_a128
                          have o_a131 := ob_J eS156 o_a131
                          have o_a3 := ob_J eS156 o_a3
                          have o_a46 := ob_J eS156 o_a46
                          have o_a50 := ob_J eS156 o_a50
                          have o_v0 := ob_J eS156 o_v0
                          intro x157 ex157
                          exact ih74 _ _ _ _ _ ⟨hI, gL64, fL65, rfl, rfl, rfl, (qm117 r_x13 r_kv14 wh_x13 c15 c26 c35 c52 dr_x56 c57 i1u62 c75 c85 dr_x93 lr_x93 r_x95 hh_x95 ex96 dv_x96 r_x99 c100 c110 r_x123 q_x123 wh_x123 c133 c135 ex157), (by rw [ex157]; exact sj)⟩ (mu_up (qm118 r_x13 r_kv14 wh_x13 c15 c26 c35 c52 dr_x56 c57 i1u62 c75 c85 dr_x93 lr_x93 r_x95 hh_x95 ex96 dv_x96 r_x99 c100 c110 r_x123 q_x123 wh_x123 c133 c135 ex157) (qm119 r_x13 r_kv14 wh_x13 c15 c26 c35 c52 dr_x56 c57 i1u62 c75 c85 dr_x93 lr_x93 r_x95 hh_x95 ex96 dv_x96 r_x99 c100 c110 r_x123 q_x123 wh_x123 c133 c135 ex157))
                      · obtain ⟨a158, ea158, o_a158, l_a158⟩ := shl 42 rfl hI o_a3
                        refine ⟨a158, ea158, ?_⟩
                        refine ⟨o_a158, ?_⟩
                        refine ⟨(vin l_a158 (m := 4) (by decide) (qm120 r_x13 r_kv14 wh_x13 c15 c26 c35 c52 dr_x56 c57 i1u62 c75 c85 dr_x93 lr_x93 r_x95 hh_x95 ex96 dv_x96 r_x99 c100 c110 r_x123 q_x123 wh_x123 c133)), ?_⟩
                        intro x159 ex159
                        intro _
                        refine u_X11_less ?_
                        refine u_X11_less_0 ?_
                        refine ⟨fun c161 => ?_, fun c161 => ?_⟩
                        · intro _
                          intro _
                          intro x164 ex164
                          have i165 : vp_in (2 : Int32) (hN _ a46) := (vin l_a46 (m := 7) (by decide) (qm121 r_x13 r_kv14 wh_x13 c15 c26 c35 c52 dr_x56 c57 i1u62 c75 c85 dr_x93 lr_x93 r_x95 hh_x95 ex96 dv_x96 r_x99 c100 c110 r_x123 q_x123 wh_x123 c133 c161))
                          refine ⟨i165, ?_⟩
                          intro S166 eS166
                          have hIn : IV S166 := by rw [eS166]; exact iv11_aD hI (de_free (qm122 r_x13 r_kv14 wh_x13 c15 c26 c35 c52 dr_x56 c57 i1u62 c75 c85 dr_x93 lr_x93 r_x95 hh_x95 ex96 dv_x96 r_x99 c100 c110 r_x123 q_x123 wh_x123 c133 c161))
                          have sj := sj_2 eS166 sj
                          have hI := hIn
                          have f0 := fr_J eS166 f0
                          have fL65 := fr_J eS166 fL65
                          have d_kv2 := rd_J eS166 d_kv2
                          have d_x123 := rd_J eS166 d_x123
                          have d_kv14 := rd_J eS166 d_kv14
                          have d_x95 := rd_J eS166 d_x95
                          have d_x99 := rd_J eS166 d_x99
                          have d_x109 := rd_J eS166 d_x109
                          have ea3 := rf_J eS166 ea3
                          have ea46 := rf_J eS166 ea46
                          have ea50 := rf_J eS166 ea50
                          have ea125 := rf_J eS166 ea125
                          have ea128 := rf_J eS166 ea128
                          have ea131 := rf_J eS166 ea131
                          have ea158 := rf_J eS166 ea158
                          have l_a125 := ln_J eS166 l_a125
                          have l_a128 := ln_J eS166 l_a128
                          have l_a131 := ln_J eS166 l_a131
                          have l_a158 := ln_J eS166 l_a158
                          have l_a46 := ln_J eS166 l_a46
                          have l_a50 := ln_J eS166 l_a50
                          have g0 := gr_J eS166 g0
                          have gL64 := gr_J eS166 gL64
                          have o_a125 := ob_J eS166 o_a125
                          have o_a128 := ob_J eS166 o_a128
                          have o_a131 := ob_J eS166 o_a131
                          have o_a158 := ob_J eS166 o_a158
                          have o_a3 := ob_J eS166 o_a3
                          have o_a46 := ob_J eS166 o_a46
                          have o_a50 := ob_J eS166 o_a50
                          have o_v0 := ob_J eS166 o_v0
                          refine u_X11_stay_133 ?_
                          refine ⟨o_v0, ?_⟩
                          refine ⟨a46, ea46, ?_⟩
                          refine ⟨o_a46, ?_⟩
                          refine ⟨(vin l_a46 (m := 7) (by decide) (qm123 r_x13 r_kv14 wh_x13 c15 c26 c35 c52 dr_x56 c57 i1u62 c75 c85 dr_x93 lr_x93 r_x95 hh_x95 ex96 dv_x96 r_x99 c100 c110 r_x123 q_x123 wh_x123 c133 c161)), ?_⟩
                          intro x168 ex168
                          have de_x168 := ml_de hI o_v0 (j := 21) (by decide) ea46 (1 : Int32).toNatClampNeg
                          rw [← ex168] at de_x168
                          have dr_x168 : (0 : Int64) ≤ x168 ∧ x168 ≤ (999 : Int64) := de_x168.2 (by decide)
                          intro x169 ex169
                          have i170 : vp_in (1 : Int32) (hN _ a46) := (vin l_a46 (m := 7) (by decide) (qm123 r_x13 r_kv14 wh_x13 c15 c26 c35 c52 dr_x56 c57 i1u62 c75 c85 dr_x93 lr_x93 r_x95 hh_x95 ex96 dv_x96 r_x99 c100 c110 r_x123 q_x123 wh_x123 c133 c161))
                          refine ⟨i170, ?_⟩
                          intro S171 eS171
                          have hIn : IV S171 := by rw [eS171]; exact iv11_aD hI (sj_de sj ea46 ex168 ex169 dr_x168 (qm124 r_x13 r_kv14 wh_x13 c15 c26 c35 c52 dr_x56 c57 i1u62 c75 c85 dr_x93 lr_x93 r_x95 hh_x95 ex96 dv_x96 r_x99 c100 c110 r_x123 q_x123 wh_x123 c133 c161))
                          have sj := sj_1 (k2 := w72 + 1) eS171 ea46 ex168 ex169 dr_x168 (qm125 r_x13 r_kv14 wh_x13 c15 c26 c35 c52 dr_x56 c57 i1u62 c75 c85 dr_x93 lr_x93 r_x95 hh_x95 ex96 dv_x96 r_x99 c100 c110 r_x123 q_x123 wh_x123 c133 c161) rfl sj
                          have hI := hIn
                          have f0 := fr_J eS171 f0
                          have fL65 := fr_J eS171 fL65
                          have d_kv2 := rd_J eS171 d_kv2
                          have d_x123 := rd_J eS171 d_x123
                          have d_kv14 := rd_J eS171 d_kv14
                          have d_x95 := rd_J eS171 d_x95
                          have d_x99 := rd_J eS171 d_x99
                          have d_x109 := rd_J eS171 d_x109
                          have ea3 := rf_J eS171 ea3
                          have ea46 := rf_J eS171 ea46
                          have ea50 := rf_J eS171 ea50
                          have ea125 := rf_J eS171 ea125
                          have ea128 := rf_J eS171 ea128
                          have ea131 := rf_J eS171 ea131
                          have ea158 := rf_J eS171 ea158
                          have l_a125 := ln_J eS171 l_a125
                          have l_a128 := ln_J eS171 l_a128
                          have l_a131 := ln_J eS171 l_a131
                          have l_a158 := ln_J eS171 l_a158
                          have l_a46 := ln_J eS171 l_a46
                          have l_a50 := ln_J eS171 l_a50
                          have g0 := gr_J eS171 g0
                          have gL64 := gr_J eS171 gL64
                          have o_a125 := ob_J eS171 o_a125
                          have o_a128 := ob_J eS171 o_a128
                          have o_a131 := ob_J eS171 o_a131
                          have o_a158 := ob_J eS171 o_a158
                          have o_a3 := ob_J eS171 o_a3
                          have o_a46 := ob_J eS171 o_a46
                          have o_a50 := ob_J eS171 o_a50
                          have o_v0 := ob_J eS171 o_v0
                          intro x172 ex172
                          exact ih74 _ _ _ _ _ ⟨hI, gL64, fL65, rfl, rfl, rfl, (qm126 r_x13 r_kv14 wh_x13 c15 c26 c35 c52 dr_x56 c57 i1u62 c75 c85 dr_x93 lr_x93 r_x95 hh_x95 ex96 dv_x96 r_x99 c100 c110 r_x123 q_x123 wh_x123 c133 c161 ex172), (by rw [ex172]; exact sj)⟩ (mu_up (qm127 r_x13 r_kv14 wh_x13 c15 c26 c35 c52 dr_x56 c57 i1u62 c75 c85 dr_x93 lr_x93 r_x95 hh_x95 ex96 dv_x96 r_x99 c100 c110 r_x123 q_x123 wh_x123 c133 c161 ex172) (qm128 r_x13 r_kv14 wh_x13 c15 c26 c35 c52 dr_x56 c57 i1u62 c75 c85 dr_x93 lr_x93 r_x95 hh_x95 ex96 dv_x96 r_x99 c100 c110 r_x123 q_x123 wh_x123 c133 c161 ex172))
                        · intro _
                          intro _
                          intro x175 ex175
                          have i176 : vp_in (2 : Int32) (hN _ a46) := (vin l_a46 (m := 7) (by decide) (qm129 r_x13 r_kv14 wh_x13 c15 c26 c35 c52 dr_x56 c57 i1u62 c75 c85 dr_x93 lr_x93 r_x95 hh_x95 ex96 dv_x96 r_x99 c100 c110 r_x123 q_x123 wh_x123 c133 c161))
                          refine ⟨i176, ?_⟩
                          intro S177 eS177
                          have hIn : IV S177 := by rw [eS177]; exact iv11_aD hI (de_free (qm130 r_x13 r_kv14 wh_x13 c15 c26 c35 c52 dr_x56 c57 i1u62 c75 c85 dr_x93 lr_x93 r_x95 hh_x95 ex96 dv_x96 r_x99 c100 c110 r_x123 q_x123 wh_x123 c133 c161))
                          have sj := sj_2 eS177 sj
                          have hI := hIn
                          have f0 := fr_J eS177 f0
                          have fL65 := fr_J eS177 fL65
                          have d_kv2 := rd_J eS177 d_kv2
                          have d_x123 := rd_J eS177 d_x123
                          have d_kv14 := rd_J eS177 d_kv14
                          have d_x95 := rd_J eS177 d_x95
                          have d_x99 := rd_J eS177 d_x99
                          have d_x109 := rd_J eS177 d_x109
                          have ea3 := rf_J eS177 ea3
                          have ea46 := rf_J eS177 ea46
                          have ea50 := rf_J eS177 ea50
                          have ea125 := rf_J eS177 ea125
                          have ea128 := rf_J eS177 ea128
                          have ea131 := rf_J eS177 ea131
                          have ea158 := rf_J eS177 ea158
                          have l_a125 := ln_J eS177 l_a125
                          have l_a128 := ln_J eS177 l_a128
                          have l_a131 := ln_J eS177 l_a131
                          have l_a158 := ln_J eS177 l_a158
                          have l_a46 := ln_J eS177 l_a46
                          have l_a50 := ln_J eS177 l_a50
                          have g0 := gr_J eS177 g0
                          have gL64 := gr_J eS177 gL64
                          have o_a125 := ob_J eS177 o_a125
                          have o_a128 := ob_J eS177 o_a128
                          have o_a131 := ob_J eS177 o_a131
                          have o_a158 := ob_J eS177 o_a158
                          have o_a3 := ob_J eS177 o_a3
                          have o_a46 := ob_J eS177 o_a46
                          have o_a50 := ob_J eS177 o_a50
                          have o_v0 := ob_J eS177 o_v0
                          refine u_X11_stay_133 ?_
                          refine ⟨o_v0, ?_⟩
                          refine ⟨a46, ea46, ?_⟩
                          refine ⟨o_a46, ?_⟩
                          refine ⟨(vin l_a46 (m := 7) (by decide) (qm131 r_x13 r_kv14 wh_x13 c15 c26 c35 c52 dr_x56 c57 i1u62 c75 c85 dr_x93 lr_x93 r_x95 hh_x95 ex96 dv_x96 r_x99 c100 c110 r_x123 q_x123 wh_x123 c133 c161)), ?_⟩
                          intro x179 ex179
                          have de_x179 := ml_de hI o_v0 (j := 21) (by decide) ea46 (1 : Int32).toNatClampNeg
                          rw [← ex179] at de_x179
                          have dr_x179 : (0 : Int64) ≤ x179 ∧ x179 ≤ (999 : Int64) := de_x179.2 (by decide)
                          intro x180 ex180
                          have i181 : vp_in (1 : Int32) (hN _ a46) := (vin l_a46 (m := 7) (by decide) (qm131 r_x13 r_kv14 wh_x13 c15 c26 c35 c52 dr_x56 c57 i1u62 c75 c85 dr_x93 lr_x93 r_x95 hh_x95 ex96 dv_x96 r_x99 c100 c110 r_x123 q_x123 wh_x123 c133 c161))
                          refine ⟨i181, ?_⟩
                          intro S182 eS182
                          have hIn : IV S182 := by rw [eS182]; exact iv11_aD hI (sj_de sj ea46 ex179 ex180 dr_x179 (qm132 r_x13 r_kv14 wh_x13 c15 c26 c35 c52 dr_x56 c57 i1u62 c75 c85 dr_x93 lr_x93 r_x95 hh_x95 ex96 dv_x96 r_x99 c100 c110 r_x123 q_x123 wh_x123 c133 c161))
                          have sj := sj_1 (k2 := w72 + 1) eS182 ea46 ex179 ex180 dr_x179 (qm133 r_x13 r_kv14 wh_x13 c15 c26 c35 c52 dr_x56 c57 i1u62 c75 c85 dr_x93 lr_x93 r_x95 hh_x95 ex96 dv_x96 r_x99 c100 c110 r_x123 q_x123 wh_x123 c133 c161) rfl sj
                          have hI := hIn
                          have f0 := fr_J eS182 f0
                          have fL65 := fr_J eS182 fL65
                          have d_kv2 := rd_J eS182 d_kv2
                          have d_x123 := rd_J eS182 d_x123
                          have d_kv14 := rd_J eS182 d_kv14
                          have d_x95 := rd_J eS182 d_x95
                          have d_x99 := rd_J eS182 d_x99
                          have d_x109 := rd_J eS182 d_x109
                          have ea3 := rf_J eS182 ea3
                          have ea46 := rf_J eS182 ea46
                          have ea50 := rf_J eS182 ea50
                          have ea125 := rf_J eS182 ea125
                          have ea128 := rf_J eS182 ea128
                          have ea131 := rf_J eS182 ea131
                          have ea158 := rf_J eS182 ea158
                          have l_a125 := ln_J eS182 l_a125
                          have l_a128 := ln_J eS182 l_a128
                          have l_a131 := ln_J eS182 l_a131
                          have l_a158 := ln_J eS182 l_a158
                          have l_a46 := ln_J eS182 l_a46
                          have l_a50 := ln_J eS182 l_a50
                          have g0 := gr_J eS182 g0
                          have gL64 := gr_J eS182 gL64
                          have o_a125 := ob_J eS182 o_a125
                          have o_a128 := ob_J eS182 o_a128
                          have o_a131 := ob_J eS182 o_a131
                          have o_a158 := ob_J eS182 o_a158
                          have o_a3 := ob_J eS182 o_a3
                          have o_a46 := ob_J eS182 o_a46
                          have o_a50 := ob_J eS182 o_a50
                          have o_v0 := ob_J eS182 o_v0
                          intro x183 ex183
                          exact ih74 _ _ _ _ _ ⟨hI, gL64, fL65, rfl, rfl, rfl, (qm134 r_x13 r_kv14 wh_x13 c15 c26 c35 c52 dr_x56 c57 i1u62 c75 c85 dr_x93 lr_x93 r_x95 hh_x95 ex96 dv_x96 r_x99 c100 c110 r_x123 q_x123 wh_x123 c133 c161 ex183), (by rw [ex183]; exact sj)⟩ (mu_up (qm135 r_x13 r_kv14 wh_x13 c15 c26 c35 c52 dr_x56 c57 i1u62 c75 c85 dr_x93 lr_x93 r_x95 hh_x95 ex96 dv_x96 r_x99 c100 c110 r_x123 q_x123 wh_x123 c133 c161 ex183) (qm136 r_x13 r_kv14 wh_x13 c15 c26 c35 c52 dr_x56 c57 i1u62 c75 c85 dr_x93 lr_x93 r_x95 hh_x95 ex96 dv_x96 r_x99 c100 c110 r_x123 q_x123 wh_x123 c133 c161 ex183))
            · refine u_X11_denied ?_
              refine u_X11_denied_0 ?_
              refine ⟨o_v0, ?_⟩
              refine u_X11_refused ?_
              refine u_X11_refused_0 ?_
              refine ⟨o_v0, ?_⟩
              intro S184 eS184
              have hIn : IV S184 := by rw [eS184]; exact iv11_sI hI o_v0 (by decide) (nu_free (by decide))
              have hI := hIn
              have f0 := fr_I eS184 g0 f0 o_v0 (by decide)
              have d_kv2 := rd_Ij eS184 (by decide) d_kv2
              have d_x13 := rd_Ij eS184 (by decide) d_x13
              have d_kv14 := rd_Ik eS184 o_v0 o_a3 (by decide) d_kv14
              obtain ⟨kv185, hkv185⟩ : ∃ z : Int32, z = (3 : Int32) := ⟨_, rfl⟩
              have d_kv185 := rd_Is eS184 hkv185
              have ea3 := rf_I eS184 ea3
              have ea46 := rf_I eS184 ea46
              have ea50 := rf_I eS184 ea50
              have l_a46 := ln_I eS184 l_a46
              have l_a50 := ln_I eS184 l_a50
              have g0 := gr_I eS184 g0
              have o_a3 := ob_I eS184 o_a3
              have o_a46 := ob_I eS184 o_a46
              have o_a50 := ob_I eS184 o_a50
              have o_v0 := ob_I eS184 o_v0
              intro S186 eS186
              have hIn : IV S186 := by rw [eS186]; exact iv11_sI hI o_v0 (by decide) (nu_free (by decide))
              have hI := hIn
              have f0 := fr_I eS186 g0 f0 o_v0 (by decide)
              have d_kv2 := rd_Ij eS186 (by decide) d_kv2
              have d_x13 := rd_Ij eS186 (by decide) d_x13
              have d_kv14 := rd_Ik eS186 o_v0 o_a3 (by decide) d_kv14
              have d_kv185 := rd_Ij eS186 (by decide) d_kv185
              obtain ⟨kv187, hkv187⟩ : ∃ z : Int32, z = (-1 : Int32) := ⟨_, rfl⟩
              have d_kv187 := rd_Is eS186 hkv187
              have ea3 := rf_I eS186 ea3
              have ea46 := rf_I eS186 ea46
              have ea50 := rf_I eS186 ea50
              have l_a46 := ln_I eS186 l_a46
              have l_a50 := ln_I eS186 l_a50
              have g0 := gr_I eS186 g0
              have o_a3 := ob_I eS186 o_a3
              have o_a46 := ob_I eS186 o_a46
              have o_a50 := ob_I eS186 o_a50
              have o_v0 := ob_I eS186 o_v0
              intro _
              intro _ _
              refine ⟨(Or.inl rfl), ?_⟩
              exact hq _ _ hI g0 f0 (Or.inl rfl)
          · refine ⟨a3, ea3, ?_⟩
            refine ⟨o_a3, ?_⟩
            obtain ⟨a191, ea191, o_a191, l_a191⟩ := shl 34 rfl hI o_a3
            refine ⟨a191, ea191, ?_⟩
            refine ⟨o_a191, ?_⟩
            refine ⟨(vin l_a191 (m := 8) (by decide) (qm137 r_x13 r_kv14 wh_x13 c15 c26 c35 dr_x47 lr_x47 ex48 c52)), ?_⟩
            intro x192 ex192
            refine ⟨fun c193 => ?_, fun c193 => ?_⟩
            · intro _ _
              refine ⟨fun c195 => absurd (show ¬ (0 : Int32) = 0 from c195) (by decide), fun c195 => ?_⟩
              refine u_X11_denied ?_
              refine u_X11_denied_0 ?_
              refine ⟨o_v0, ?_⟩
              refine u_X11_refused ?_
              refine u_X11_refused_0 ?_
              refine ⟨o_v0, ?_⟩
              intro S196 eS196
              have hIn : IV S196 := by rw [eS196]; exact iv11_sI hI o_v0 (by decide) (nu_free (by decide))
              have hI := hIn
              have f0 := fr_I eS196 g0 f0 o_v0 (by decide)
              have d_kv2 := rd_Ij eS196 (by decide) d_kv2
              have d_x13 := rd_Ij eS196 (by decide) d_x13
              have d_kv14 := rd_Ik eS196 o_v0 o_a3 (by decide) d_kv14
              obtain ⟨kv197, hkv197⟩ : ∃ z : Int32, z = (5 : Int32) := ⟨_, rfl⟩
              have d_kv197 := rd_Is eS196 hkv197
              have ea3 := rf_I eS196 ea3
              have ea46 := rf_I eS196 ea46
              have ea50 := rf_I eS196 ea50
              have ea191 := rf_I eS196 ea191
              have l_a191 := ln_I eS196 l_a191
              have l_a46 := ln_I eS196 l_a46
              have l_a50 := ln_I eS196 l_a50
              have g0 := gr_I eS196 g0
              have o_a191 := ob_I eS196 o_a191
              have o_a3 := ob_I eS196 o_a3
              have o_a46 := ob_I eS196 o_a46
              have o_a50 := ob_I eS196 o_a50
              have o_v0 := ob_I eS196 o_v0
              intro S198 eS198
              have hIn : IV S198 := by rw [eS198]; exact iv11_sI hI o_v0 (by decide) (nu_free (by decide))
              have hI := hIn
              have f0 := fr_I eS198 g0 f0 o_v0 (by decide)
              have d_kv2 := rd_Ij eS198 (by decide) d_kv2
              have d_x13 := rd_Ij eS198 (by decide) d_x13
              have d_kv14 := rd_Ik eS198 o_v0 o_a3 (by decide) d_kv14
              have d_kv197 := rd_Ij eS198 (by decide) d_kv197
              obtain ⟨kv199, hkv199⟩ : ∃ z : Int32, z = (-1 : Int32) := ⟨_, rfl⟩
              have d_kv199 := rd_Is eS198 hkv199
              have ea3 := rf_I eS198 ea3
              have ea46 := rf_I eS198 ea46
              have ea50 := rf_I eS198 ea50
              have ea191 := rf_I eS198 ea191
              have l_a191 := ln_I eS198 l_a191
              have l_a46 := ln_I eS198 l_a46
              have l_a50 := ln_I eS198 l_a50
              have g0 := gr_I eS198 g0
              have o_a191 := ob_I eS198 o_a191
              have o_a3 := ob_I eS198 o_a3
              have o_a46 := ob_I eS198 o_a46
              have o_a50 := ob_I eS198 o_a50
              have o_v0 := ob_I eS198 o_v0
              intro _
              intro _ _
              refine ⟨(Or.inl rfl), ?_⟩
              exact hq _ _ hI g0 f0 (Or.inl rfl)
            · intro _ _
              refine ⟨fun c203 => ?_, fun c203 => absurd (show (1 : Int32) = 0 from c203) (by decide)⟩
              refine ⟨a46, ea46, ?_⟩
              refine ⟨o_a46, ?_⟩
              refine ⟨(vin l_a46 (m := 7) (by decide) (qm138 r_x13 r_kv14 wh_x13 c15 c26 c35 c52 c193)), ?_⟩
              intro x205 ex205
              have de_x205 := ml_de hI o_v0 (j := 21) (by decide) ea46 (1 : Int32).toNatClampNeg
              rw [← ex205] at de_x205
              have dr_x205 : (0 : Int64) ≤ x205 ∧ x205 ≤ (999 : Int64) := de_x205.2 (by decide)
              refine ⟨fun c206 => ?_, fun c206 => ?_⟩
              · refine m_X11_keeps hI o_v0 (fun S208 hJ g209 fc210 p_S208 => ?_)
                have hI := hJ
                have l_a191 := (gr_len g209 o_a191).trans l_a191
                have l_a46 := (gr_len g209 o_a46).trans l_a46
                have l_a50 := (gr_len g209 o_a50).trans l_a50
                have d_kv2 := d_kv2.trans (fri_at fc210 (by decide) (by decide) o_v0).symm
                have d_x13 := d_x13.trans (fri_at fc210 (by decide) (by decide) o_v0).symm
                have d_kv14 := d_kv14.trans (fri_at fc210 (by decide) (by decide) o_a3).symm
                have ea3 := (frr_at fc210 (by decide) (by decide) o_v0).trans ea3
                have ea46 := (frr_at fc210 (by decide) (by decide) o_v0).trans ea46
                have ea50 := (frr_at fc210 (by decide) (by decide) o_a3).trans ea50
                have ea191 := (frr_at fc210 (by decide) (by decide) o_a3).trans ea191
                have f0 := fri_tr (S := S1) g0 f0 fc210 (by decide) (by decide)
                have o_a191 := gr_ob g209 o_a191
                have o_a3 := gr_ob g209 o_a3
                have o_a46 := gr_ob g209 o_a46
                have o_a50 := gr_ob g209 o_a50
                have o_v0 := gr_ob g209 o_v0
                have g0 := gr_tr (T := S1) g0 g209
                intro _
                refine i_X11_stay_84 (fun (y0 : Nat) (y1 : Int32) (y2 : Int32) (y3 : Int32) (Z : HS) => ((60 : Int32).toInt - y3.toInt).toNat) (fun (y0 : Nat) (y1 : Int32) (y2 : Int32) (y3 : Int32) (Z : HS) => (IV Z) ∧ (Gr S208 Z) ∧ (FRI [] [] S208 Z) ∧ (v0 = y0) ∧ (v1 = y1) ∧ (x48 = y2) ∧ (0 ≤ y3 ∧ y3 ≤ 60) ∧ (SJ Z v0 y1 y3)) ?_ _ _ _ _ _ ⟨hI, (gr_rf _), (fri_rf _ _ _), rfl, rfl, rfl, (qm139 r_x13 r_kv14 wh_x13 c15 c26 c35 c52 c193 dr_x205 c206), (sj_init ex205 p_S208 ea46 dr_x205 (qm140 r_x13 r_kv14 wh_x13 c15 c26 c35 c52 c193 dr_x205 c206) (lc_le c206))⟩
                intro w215 w217 w219 w221 S212 X222 ⟨hI, gL213, fL214, q216, q218, q220, i1u211, sj⟩ ih223
                subst q216
                subst q218
                subst q220
                have l_a191 := (gr_len gL213 o_a191).trans l_a191
                have l_a46 := (gr_len gL213 o_a46).trans l_a46
                have l_a50 := (gr_len gL213 o_a50).trans l_a50
                have d_kv2 := d_kv2.trans (fri_at fL214 (by decide) (by decide) o_v0).symm
                have d_x13 := d_x13.trans (fri_at fL214 (by decide) (by decide) o_v0).symm
                have d_kv14 := d_kv14.trans (fri_at fL214 (by decide) (by decide) o_a3).symm
                have ea3 := (frr_at fL214 (by decide) (by decide) o_v0).trans ea3
                have ea46 := (frr_at fL214 (by decide) (by decide) o_v0).trans ea46
                have ea50 := (frr_at fL214 (by decide) (by decide) o_a3).trans ea50
                have ea191 := (frr_at fL214 (by decide) (by decide) o_a3).trans ea191
                have f0 := fri_tr (S := S208) g0 f0 fL214 (by decide) (by decide)
                have o_a191 := gr_ob gL213 o_a191
                have o_a3 := gr_ob gL213 o_a3
                have o_a46 := gr_ob gL213 o_a46
                have o_a50 := gr_ob gL213 o_a50
                have o_v0 := gr_ob gL213 o_v0
                have g0 := gr_tr (T := S208) g0 gL213
                refine u_X11_stay_84 ?_
                refine ⟨fun c224 => ?_, fun c224 => ?_⟩
                · refine ⟨o_v0, ?_⟩
                  refine u_X11_granted ?_
                  refine u_X11_granted_0 ?_
                  refine ⟨o_v0, ?_⟩
                  refine u_X11_good ?_
                  refine u_X11_good_0 ?_
                  refine ⟨o_v0, ?_⟩
                  intro S225 eS225
                  have hIn : IV S225 := by rw [eS225]; exact iv11_sI hI o_v0 (by decide) (nu_free (by decide))
                  have sj := sj_I eS225 sj
                  have hI := hIn
                  have f0 := fr_I eS225 g0 f0 o_v0 (by decide)
                  have d_kv2 := rd_Ij eS225 (by decide) d_kv2
                  have d_x13 := rd_Ij eS225 (by decide) d_x13
                  have d_kv14 := rd_Ik eS225 o_v0 o_a3 (by decide) d_kv14
                  obtain ⟨kv226, hkv226⟩ : ∃ z : Int32, z = (0 : Int32) := ⟨_, rfl⟩
                  have d_kv226 := rd_Is eS225 hkv226
                  have ea3 := rf_I eS225 ea3
                  have ea46 := rf_I eS225 ea46
                  have ea50 := rf_I eS225 ea50
                  have ea191 := rf_I eS225 ea191
                  have l_a191 := ln_I eS225 l_a191
                  have l_a46 := ln_I eS225 l_a46
                  have l_a50 := ln_I eS225 l_a50
                  have g0 := gr_I eS225 g0
                  have o_a191 := ob_I eS225 o_a191
                  have o_a3 := ob_I eS225 o_a3
                  have o_a46 := ob_I eS225 o_a46
                  have o_a50 := ob_I eS225 o_a50
                  have o_v0 := ob_I eS225 o_v0
                  intro S227 eS227
                  have hIn : IV S227 := by rw [eS227]; exact iv11_sI hI o_v0 (by decide) (nu_free (by decide))
                  have sj := sj_I eS227 sj
                  have hI := hIn
                  have f0 := fr_I eS227 g0 f0 o_v0 (by decide)
                  have d_kv2 := rd_Ij eS227 (by decide) d_kv2
                  have d_x13 := rd_Ij eS227 (by decide) d_x13
                  have d_kv14 := rd_Ik eS227 o_v0 o_a3 (by decide) d_kv14
                  have d_kv226 := rd_Ij eS227 (by decide) d_kv226
                  obtain ⟨kv228, hkv228⟩ : ∃ z : Int32, z = (-1 : Int32) := ⟨_, rfl⟩
                  have d_kv228 := rd_Is eS227 hkv228
                  have ea3 := rf_I eS227 ea3
                  have ea46 := rf_I eS227 ea46
                  have ea50 := rf_I eS227 ea50
                  have ea191 := rf_I eS227 ea191
                  have l_a191 := ln_I eS227 l_a191
                  have l_a46 := ln_I eS227 l_a46
                  have l_a50 := ln_I eS227 l_a50
                  have g0 := gr_I eS227 g0
                  have o_a191 := ob_I eS227 o_a191
                  have o_a3 := ob_I eS227 o_a3
                  have o_a46 := ob_I eS227 o_a46
                  have o_a50 := ob_I eS227 o_a50
                  have o_v0 := ob_I eS227 o_v0
                  intro _
                  intro _ _
                  refine ⟨(Or.inr rfl), ?_⟩
                  exact hq _ _ hI g0 f0 (Or.inr rfl)
                · refine ⟨o_v0, ?_⟩
                  refine ⟨a3, ea3, ?_⟩
                  refine ⟨o_a3, ?_⟩
                  refine ⟨a50, ea50, ?_⟩
                  refine ⟨o_a50, ?_⟩
                  refine ⟨(vin l_a50 (m := 8) (by decide) (qm141 r_x13 r_kv14 wh_x13 c15 c26 c35 dr_x47 lr_x47 ex48 c52 c193 dr_x205 c206 i1u211 c224)), ?_⟩
                  intro x233 ex233
                  refine ⟨fun c234 => ?_, fun c234 => ?_⟩
                  · refine u_X11_stay_133 ?_
                    refine ⟨o_v0, ?_⟩
                    refine ⟨a46, ea46, ?_⟩
                    refine ⟨o_a46, ?_⟩
                    refine ⟨(vin l_a46 (m := 7) (by decide) (qm142 r_x13 r_kv14 wh_x13 c15 c26 c35 c52 c193 dr_x205 c206 i1u211 c224 c234)), ?_⟩
                    intro x236 ex236
                    have de_x236 := ml_de hI o_v0 (j := 21) (by decide) ea46 (1 : Int32).toNatClampNeg
                    rw [← ex236] at de_x236
                    have dr_x236 : (0 : Int64) ≤ x236 ∧ x236 ≤ (999 : Int64) := de_x236.2 (by decide)
                    intro x237 ex237
                    have i238 : vp_in (1 : Int32) (hN _ a46) := (vin l_a46 (m := 7) (by decide) (qm142 r_x13 r_kv14 wh_x13 c15 c26 c35 c52 c193 dr_x205 c206 i1u211 c224 c234))
                    refine ⟨i238, ?_⟩
                    intro S239 eS239
                    have hIn : IV S239 := by rw [eS239]; exact iv11_aD hI (sj_de sj ea46 ex236 ex237 dr_x236 (qm143 r_x13 r_kv14 wh_x13 c15 c26 c35 c52 c193 dr_x205 c206 i1u211 c224 c234))
                    have sj := sj_1 (k2 := w221 + 1) eS239 ea46 ex236 ex237 dr_x236 (qm144 r_x13 r_kv14 wh_x13 c15 c26 c35 c52 c193 dr_x205 c206 i1u211 c224 c234) rfl sj
                    have hI := hIn
                    have f0 := fr_J eS239 f0
                    have fL214 := fr_J eS239 fL214
                    have d_kv2 := rd_J eS239 d_kv2
                    have d_x13 := rd_J eS239 d_x13
                    have d_kv14 := rd_J eS239 d_kv14
                    have ea3 := rf_J eS239 ea3
                    have ea46 := rf_J eS239 ea46
                    have ea50 := rf_J eS239 ea50
                    have ea191 := rf_J eS239 ea191
                    have l_a191 := ln_J eS239 l_a191
                    have l_a46 := ln_J eS239 l_a46
                    have l_a50 := ln_J eS239 l_a50
                    have g0 := gr_J eS239 g0
                    have gL213 := gr_J eS239 gL213
                    have o_a191 := ob_J eS239 o_a191
                    have o_a3 := ob_J eS239 o_a3
                    have o_a46 := ob_J eS239 o_a46
                    have o_a50 := ob_J eS239 o_a50
                    have o_v0 := ob_J eS239 o_v0
                    intro x240 ex240
                    exact ih223 _ _ _ _ _ ⟨hI, gL213, fL214, rfl, rfl, rfl, (qm145 r_x13 r_kv14 wh_x13 c15 c26 c35 c52 c193 dr_x205 c206 i1u211 c224 c234 ex240), (by rw [ex240]; exact sj)⟩ (mu_up (qm146 r_x13 r_kv14 wh_x13 c15 c26 c35 c52 c193 dr_x205 c206 i1u211 c224 c234 ex240) (qm147 r_x13 r_kv14 wh_x13 c15 c26 c35 c52 c193 dr_x205 c206 i1u211 c224 c234 ex240))
                  · refine ⟨a46, ea46, ?_⟩
                    refine ⟨o_a46, ?_⟩
                    refine ⟨(vin l_a46 (m := 7) (by decide) (qm148 r_x13 r_kv14 wh_x13 c15 c26 c35 c52 c193 dr_x205 c206 i1u211 c224 c234)), ?_⟩
                    intro x242 ex242
                    have de_x242 := ml_de hI o_v0 (j := 21) (by decide) ea46 (1 : Int32).toNatClampNeg
                    rw [← ex242] at de_x242
                    have dr_x242 : (0 : Int64) ≤ x242 ∧ x242 ≤ (999 : Int64) := de_x242.2 (by decide)
                    have lr_x242 : 0 ≤ x242.toInt32 ∧ x242.toInt32 ≤ (999 : Int32) := l2i_rng (by decide) dr_x242
                    refine u_X11_rainsIn ?_
                    refine u_X11_rainsIn_0 ?_
                    refine ⟨o_v0, ?_⟩
                    refine u_X11_hourOf ?_
                    refine u_X11_hourOf_0 ?_
                    refine ⟨o_v0, ?_⟩
                    refine ⟨a3, ea3, ?_⟩
                    refine ⟨o_a3, ?_⟩
                    intro x244 ex244
                    have r_x244 : (0 : Int32) ≤ x244 ∧ x244 ≤ (60 : Int32) := by rw [ex244]; exact nu 16 rfl hI o_a3
                    have d_x244 := ex244
                    have hh_x244 : 1 ≤ x244 := by rw [ex244]; exact ml_hour hI o_v0 ea3
                    refine ⟨(qm149 r_x13 r_kv14 wh_x13 c15 c26 c35 c52 c193 dr_x205 c206 i1u211 c224 c234 r_x244 hh_x244), ?_⟩
                    intro x245 ex245
                    have dv_x245 : 0 ≤ x245 ∧ x245 ≤ x242.toInt32 := by rw [ex245]; exact dv0 (qm150 r_x13 r_kv14 wh_x13 c15 c26 c35 c52 c193 dr_x205 c206 i1u211 c224 c234 dr_x242 lr_x242 r_x244 hh_x244 ex245) (i32pos (qm151 r_x13 r_kv14 wh_x13 c15 c26 c35 c52 c193 dr_x205 c206 i1u211 c224 c234 dr_x242 lr_x242 r_x244 hh_x244 ex245))
                    intro _
                    refine ⟨a3, ea3, ?_⟩
                    refine ⟨o_a3, ?_⟩
                    intro x248 ex248
                    have r_x248 : (0 : Int32) ≤ x248 ∧ x248 ≤ (6 : Int32) := by rw [ex248]; exact nu 17 rfl hI o_a3
                    have d_x248 := ex248
                    refine ⟨fun c249 => ?_, fun c249 => ?_⟩
                    · intro _ _
                      refine ⟨fun c251 => ?_, fun c251 => absurd (show ¬ (0 : Int32) = 0 from c251) (by decide)⟩
                      refine u_X11_stay_133 ?_
                      refine ⟨o_v0, ?_⟩
                      refine ⟨a46, ea46, ?_⟩
                      refine ⟨o_a46, ?_⟩
                      refine ⟨(vin l_a46 (m := 7) (by decide) (qm152 r_x13 r_kv14 wh_x13 c15 c26 c35 c52 c193 dr_x205 c206 i1u211 c224 c234 dr_x242 lr_x242 r_x244 hh_x244 ex245 dv_x245 r_x248 c249)), ?_⟩
                      intro x253 ex253
                      have de_x253 := ml_de hI o_v0 (j := 21) (by decide) ea46 (1 : Int32).toNatClampNeg
                      rw [← ex253] at de_x253
                      have dr_x253 : (0 : Int64) ≤ x253 ∧ x253 ≤ (999 : Int64) := de_x253.2 (by decide)
                      intro x254 ex254
                      have i255 : vp_in (1 : Int32) (hN _ a46) := (vin l_a46 (m := 7) (by decide) (qm152 r_x13 r_kv14 wh_x13 c15 c26 c35 c52 c193 dr_x205 c206 i1u211 c224 c234 dr_x242 lr_x242 r_x244 hh_x244 ex245 dv_x245 r_x248 c249))
                      refine ⟨i255, ?_⟩
                      intro S256 eS256
                      have hIn : IV S256 := by rw [eS256]; exact iv11_aD hI (sj_de sj ea46 ex253 ex254 dr_x253 (qm153 r_x13 r_kv14 wh_x13 c15 c26 c35 c52 c193 dr_x205 c206 i1u211 c224 c234 dr_x242 lr_x242 r_x244 hh_x244 ex245 dv_x245 r_x248 c249))
                      have sj := sj_1 (k2 := w221 + 1) eS256 ea46 ex253 ex254 dr_x253 (qm154 r_x13 r_kv14 wh_x13 c15 c26 c35 c52 c193 dr_x205 c206 i1u211 c224 c234 dr_x242 lr_x242 r_x244 hh_x244 ex245 dv_x245 r_x248 c249) rfl sj
                      have hI := hIn
                      have f0 := fr_J eS256 f0
                      have fL214 := fr_J eS256 fL214
                      have d_kv2 := rd_J eS256 d_kv2
                      have d_x13 := rd_J eS256 d_x13
                      have d_kv14 := rd_J eS256 d_kv14
                      have d_x244 := rd_J eS256 d_x244
                      have d_x248 := rd_J eS256 d_x248
                      have ea3 := rf_J eS256 ea3
                      have ea46 := rf_J eS256 ea46
                      have ea50 := rf_J eS256 ea50
                      have ea191 := rf_J eS256 ea191
                      have l_a191 := ln_J eS256 l_a191
                      have l_a46 := ln_J eS256 l_a46
                      have l_a50 := ln_J eS256 l_a50
                      have g0 := gr_J eS256 g0
                      have gL213 := gr_J eS256 gL213
                      have o_a191 := ob_J eS256 o_a191
                      have o_a3 := ob_J eS256 o_a3
                      have o_a46 := ob_J eS256 o_a46
                      have o_a50 := ob_J eS256 o_a50
                      have o_v0 := ob_J eS256 o_v0
                      intro x257 ex257
                      exact ih223 _ _ _ _ _ ⟨hI, gL213, fL214, rfl, rfl, rfl, (qm155 r_x13 r_kv14 wh_x13 c15 c26 c35 c52 c193 dr_x205 c206 i1u211 c224 c234 dr_x242 lr_x242 r_x244 hh_x244 ex245 dv_x245 r_x248 c249 ex257), (by rw [ex257]; exact sj)⟩ (mu_up (qm156 r_x13 r_kv14 wh_x13 c15 c26 c35 c52 c193 dr_x205 c206 i1u211 c224 c234 dr_x242 lr_x242 r_x244 hh_x244 ex245 dv_x245 r_x248 c249 ex257) (qm157 r_x13 r_kv14 wh_x13 c15 c26 c35 c52 c193 dr_x205 c206 i1u211 c224 c234 dr_x242 lr_x242 r_x244 hh_x244 ex245 dv_x245 r_x248 c249 ex257))
                    · intro x258 ex258
                      have d_x258 := ex258
                      refine ⟨fun c259 => ?_, fun c259 => ?_⟩
                      · intro _ _
                        refine ⟨fun c261 => ?_, fun c261 => absurd (show ¬ (0 : Int32) = 0 from c261) (by decide)⟩
                        refine u_X11_stay_133 ?_
                        refine ⟨o_v0, ?_⟩
                        refine ⟨a46, ea46, ?_⟩
                        refine ⟨o_a46, ?_⟩
                        refine ⟨(vin l_a46 (m := 7) (by decide) (qm158 r_x13 r_kv14 wh_x13 c15 c26 c35 c52 c193 dr_x205 c206 i1u211 c224 c234 dr_x242 lr_x242 r_x244 hh_x244 ex245 dv_x245 r_x248 c249 c259)), ?_⟩
                        intro x263 ex263
                        have de_x263 := ml_de hI o_v0 (j := 21) (by decide) ea46 (1 : Int32).toNatClampNeg
                        rw [← ex263] at de_x263
                        have dr_x263 : (0 : Int64) ≤ x263 ∧ x263 ≤ (999 : Int64) := de_x263.2 (by decide)
                        intro x264 ex264
                        have i265 : vp_in (1 : Int32) (hN _ a46) := (vin l_a46 (m := 7) (by decide) (qm158 r_x13 r_kv14 wh_x13 c15 c26 c35 c52 c193 dr_x205 c206 i1u211 c224 c234 dr_x242 lr_x242 r_x244 hh_x244 ex245 dv_x245 r_x248 c249 c259))
                        refine ⟨i265, ?_⟩
                        intro S266 eS266
                        have hIn : IV S266 := by rw [eS266]; exact iv11_aD hI (sj_de sj ea46 ex263 ex264 dr_x263 (qm159 r_x13 r_kv14 wh_x13 c15 c26 c35 c52 c193 dr_x205 c206 i1u211 c224 c234 dr_x242 lr_x242 r_x244 hh_x244 ex245 dv_x245 r_x248 c249 c259))
                        have sj := sj_1 (k2 := w221 + 1) eS266 ea46 ex263 ex264 dr_x263 (qm160 r_x13 r_kv14 wh_x13 c15 c26 c35 c52 c193 dr_x205 c206 i1u211 c224 c234 dr_x242 lr_x242 r_x244 hh_x244 ex245 dv_x245 r_x248 c249 c259) rfl sj
                        have hI := hIn
                        have f0 := fr_J eS266 f0
                        have fL214 := fr_J eS266 fL214
                        have d_kv2 := rd_J eS266 d_kv2
                        have d_x13 := rd_J eS266 d_x13
                        have d_kv14 := rd_J eS266 d_kv14
                        have d_x244 := rd_J eS266 d_x244
                        have d_x248 := rd_J eS266 d_x248
                        have d_x258 := rd_J eS266 d_x258
                        have ea3 := rf_J eS266 ea3
                        have ea46 := rf_J eS266 ea46
                        have ea50 := rf_J eS266 ea50
                        have ea191 := rf_J eS266 ea191
                        have l_a191 := ln_J eS266 l_a191
                        have l_a46 := ln_J eS266 l_a46
                        have l_a50 := ln_J eS266 l_a50
                        have g0 := gr_J eS266 g0
                        have gL213 := gr_J eS266 gL213
                        have o_a191 := ob_J eS266 o_a191
                        have o_a3 := ob_J eS266 o_a3
                        have o_a46 := ob_J eS266 o_a46
                        have o_a50 := ob_J eS266 o_a50
                        have o_v0 := ob_J eS266 o_v0
                        intro x267 ex267
                        exact ih223 _ _ _ _ _ ⟨hI, gL213, fL214, rfl, rfl, rfl, (qm161 r_x13 r_kv14 wh_x13 c15 c26 c35 c52 c193 dr_x205 c206 i1u211 c224 c234 dr_x242 lr_x242 r_x244 hh_x244 ex245 dv_x245 r_x248 c249 c259 ex267), (by rw [ex267]; exact sj)⟩ (mu_up (qm162 r_x13 r_kv14 wh_x13 c15 c26 c35 c52 c193 dr_x205 c206 i1u211 c224 c234 dr_x242 lr_x242 r_x244 hh_x244 ex245 dv_x245 r_x248 c249 c259 ex267) (qm163 r_x13 r_kv14 wh_x13 c15 c26 c35 c52 c193 dr_x205 c206 i1u211 c224 c234 dr_x242 lr_x242 r_x244 hh_x244 ex245 dv_x245 r_x248 c249 c259 ex267))
                      · intro _ _
                        refine ⟨fun c269 => absurd (show (1 : Int32) = 0 from c269) (by decide), fun c269 => ?_⟩
                        refine ⟨a46, ea46, ?_⟩
                        refine ⟨o_a46, ?_⟩
                        refine ⟨(vin l_a46 (m := 7) (by decide) (qm164 r_x13 r_kv14 wh_x13 c15 c26 c35 c52 c193 dr_x205 c206 i1u211 c224 c234 dr_x242 lr_x242 r_x244 hh_x244 ex245 dv_x245 r_x248 c249 c259)), ?_⟩
                        intro x271 ex271
                        have de_x271 := ml_de hI o_v0 (j := 21) (by decide) ea46 (2 : Int32).toNatClampNeg
                        rw [← ex271] at de_x271
                        intro x272 ex272
                        have r_x272 : (-2 : Int32) ≤ x272 ∧ x272 ≤ (3 : Int32) := by rw [ex272]; exact nu 26 rfl hI o_v0
                        have q_x272 : x272 = x13 := ex272.trans d_x13.symm
                        have d_x272 := ex272
                        have wh_x272 : x272 = -2 ∨ (0 ≤ x272 ∧ x272 < kv14) := by rw [ex272, d_kv14]; exact ml_who hI o_v0 ea3
                        refine u_X11_drips ?_
                        refine u_X11_drips_0 ?_
                        refine ⟨o_v0, ?_⟩
                        refine ⟨a3, ea3, ?_⟩
                        refine ⟨o_a3, ?_⟩
                        refine ⟨a191, ea191, ?_⟩
                        refine ⟨o_a191, ?_⟩
                        refine ⟨(vin l_a191 (m := 8) (by decide) (qm165 r_x13 r_kv14 wh_x13 c15 c26 c35 dr_x47 lr_x47 ex48 c52 c193 dr_x205 c206 i1u211 c224 c234 dr_x242 lr_x242 r_x244 hh_x244 ex245 dv_x245 r_x248 c249 c259 r_x272 q_x272 wh_x272)), ?_⟩
                        intro x275 ex275
                        refine ⟨a3, ea3, ?_⟩
                        refine ⟨o_a3, ?_⟩
                        obtain ⟨a277, ea277, o_a277, l_a277⟩ := shl 43 rfl hI o_a3
                        refine ⟨a277, ea277, ?_⟩
                        refine ⟨o_a277, ?_⟩
                        refine ⟨(vin l_a277 (m := 4) (by decide) (qm166 r_x13 r_kv14 wh_x13 c15 c26 c35 c52 c193 dr_x205 c206 i1u211 c224 c234 dr_x242 lr_x242 r_x244 hh_x244 ex245 dv_x245 r_x248 c249 c259 r_x272 q_x272 wh_x272)), ?_⟩
                        intro x278 ex278
                        refine ⟨a3, ea3, ?_⟩
                        refine ⟨o_a3, ?_⟩
                        refine u_X10_shield ?_
                        refine u_X10_shield_0 ?_
                        refine ⟨o_a3, ?_⟩
                        obtain ⟨a280, ea280, o_a280, l_a280⟩ := shl 41 rfl hI o_a3
                        refine ⟨a280, ea280, ?_⟩
                        refine ⟨o_a280, ?_⟩
                        refine ⟨(vin l_a280 (m := 4) (by decide) (qm166 r_x13 r_kv14 wh_x13 c15 c26 c35 c52 c193 dr_x205 c206 i1u211 c224 c234 dr_x242 lr_x242 r_x244 hh_x244 ex245 dv_x245 r_x248 c249 c259 r_x272 q_x272 wh_x272)), ?_⟩
                        intro x281 ex281
                        refine ⟨fun c282 => ?_, fun c282 => ?_⟩
                        · intro _
                          refine u_X11_less ?_
                          refine u_X11_less_0 ?_
                          refine ⟨fun c284 => ?_, fun c284 => ?_⟩
                          · intro _
                            intro _
                            intro x287 ex287
                            have i288 : vp_in (2 : Int32) (hN _ a46) := (vin l_a46 (m := 7) (by decide) (qm167 r_x13 r_kv14 wh_x13 c15 c26 c35 c52 c193 dr_x205 c206 i1u211 c224 c234 dr_x242 lr_x242 r_x244 hh_x244 ex245 dv_x245 r_x248 c249 c259 r_x272 q_x272 wh_x272 c282 c284))
                            refine ⟨i288, ?_⟩
                            intro S289 eS289
                            have hIn : IV S289 := by rw [eS289]; exact iv11_aD hI (de_free (qm168 r_x13 r_kv14 wh_x13 c15 c26 c35 c52 c193 dr_x205 c206 i1u211 c224 c234 dr_x242 lr_x242 r_x244 hh_x244 ex245 dv_x245 r_x248 c249 c259 r_x272 q_x272 wh_x272 c282 c284))
                            have sj := sj_2 eS289 sj
                            have hI := hIn
                            have f0 := fr_J eS289 f0
                            have fL214 := fr_J eS289 fL214
                            have d_kv2 := rd_J eS289 d_kv2
                            have d_x272 := rd_J eS289 d_x272
                            have d_kv14 := rd_J eS289 d_kv14
                            have d_x244 := rd_J eS289 d_x244
                            have d_x248 := rd_J eS289 d_x248
                            have d_x258 := rd_J eS289 d_x258
                            have ea3 := rf_J eS289 ea3
                            have ea46 := rf_J eS289 ea46
                            have ea50 := rf_J eS289 ea50
                            have ea191 := rf_J eS289 ea191
                            have ea277 := rf_J eS289 ea277
                            have ea280 := rf_J eS289 ea280
                            have l_a191 := ln_J eS289 l_a191
                            have l_a277 := ln_J eS289 l_a277
                            have l_a280 := ln_J eS289 l_a280
                            have l_a46 := ln_J eS289 l_a46
                            have l_a50 := ln_J eS289 l_a50
                            have g0 := gr_J eS289 g0
                            have gL213 := gr_J eS289 gL213
                            have o_a191 := ob_J eS289 o_a191
                            have o_a277 := ob_J eS289 o_a277
                            have o_a280 := ob_J eS289 o_a280
                            have o_a3 := ob_J eS289 o_a3
                            have o_a46 := ob_J eS289 o_a46
                            have o_a50 := ob_J eS289 o_a50
                            have o_v0 := ob_J eS289 o_v0
                            refine u_X11_stay_133 ?_
                            refine ⟨o_v0, ?_⟩
                            refine ⟨a46, ea46, ?_⟩
                            refine ⟨o_a46, ?_⟩
                            refine ⟨(vin l_a46 (m := 7) (by decide) (qm169 r_x13 r_kv14 wh_x13 c15 c26 c35 c52 c193 dr_x205 c206 i1u211 c224 c234 dr_x242 lr_x242 r_x244 hh_x244 ex245 dv_x245 r_x248 c249 c259 r_x272 q_x272 wh_x272 c282 c284)), ?_⟩
                            intro x291 ex291
                            have de_x291 := ml_de hI o_v0 (j := 21) (by decide) ea46 (1 : Int32).toNatClampNeg
                            rw [← ex291] at de_x291
                            have dr_x291 : (0 : Int64) ≤ x291 ∧ x291 ≤ (999 : Int64) := de_x291.2 (by decide)
                            intro x292 ex292
                            have i293 : vp_in (1 : Int32) (hN _ a46) := (vin l_a46 (m := 7) (by decide) (qm169 r_x13 r_kv14 wh_x13 c15 c26 c35 c52 c193 dr_x205 c206 i1u211 c224 c234 dr_x242 lr_x242 r_x244 hh_x244 ex245 dv_x245 r_x248 c249 c259 r_x272 q_x272 wh_x272 c282 c284))
                            refine ⟨i293, ?_⟩
                            intro S294 eS294
                            have hIn : IV S294 := by rw [eS294]; exact iv11_aD hI (sj_de sj ea46 ex291 ex292 dr_x291 (qm170 r_x13 r_kv14 wh_x13 c15 c26 c35 c52 c193 dr_x205 c206 i1u211 c224 c234 dr_x242 lr_x242 r_x244 hh_x244 ex245 dv_x245 r_x248 c249 c259 r_x272 q_x272 wh_x272 c282 c284))
                            have sj := sj_1 (k2 := w221 + 1) eS294 ea46 ex291 ex292 dr_x291 (qm171 r_x13 r_kv14 wh_x13 c15 c26 c35 c52 c193 dr_x205 c206 i1u211 c224 c234 dr_x242 lr_x242 r_x244 hh_x244 ex245 dv_x245 r_x248 c249 c259 r_x272 q_x272 wh_x272 c282 c284) rfl sj
                            have hI := hIn
                            have f0 := fr_J eS294 f0
                            have fL214 := fr_J eS294 fL214
                            have d_kv2 := rd_J eS294 d_kv2
                            have d_x272 := rd_J eS294 d_x272
                            have d_kv14 := rd_J eS294 d_kv14
                            have d_x244 := rd_J eS294 d_x244
                            have d_x248 := rd_J eS294 d_x248
                            have d_x258 := rd_J eS294 d_x258
                            have ea3 := rf_J eS294 ea3
                            have ea46 := rf_J eS294 ea46
                            have ea50 := rf_J eS294 ea50
                            have ea191 := rf_J eS294 ea191
                            have ea277 := rf_J eS294 ea277
                            have ea280 := rf_J eS294 ea280
                            have l_a191 := ln_J eS294 l_a191
                            have l_a277 := ln_J eS294 l_a277
                            have l_a280 := ln_J eS294 l_a280
                            have l_a46 := ln_J eS294 l_a46
                            have l_a50 := ln_J eS294 l_a50
                            have g0 := gr_J eS294 g0
                            have gL213 := gr_J eS294 gL213
                            have o_a191 := ob_J eS294 o_a191
                            have o_a277 := ob_J eS294 o_a277
                            have o_a280 := ob_J eS294 o_a280
                            have o_a3 := ob_J eS294 o_a3
                            have o_a46 := ob_J eS294 o_a46
                            have o_a50 := ob_J eS294 o_a50
                            have o_v0 := ob_J eS294 o_v0
                            intro x295 ex295
                            exact ih223 _ _ _ _ _ ⟨hI, gL213, fL214, rfl, rfl, rfl, (qm172 r_x13 r_kv14 wh_x13 c15 c26 c35 c52 c193 dr_x205 c206 i1u211 c224 c234 dr_x242 lr_x242 r_x244 hh_x244 ex245 dv_x245 r_x248 c249 c259 r_x272 q_x272 wh_x272 c282 c284 ex295), (by rw [ex295]; exact sj)⟩ (mu_up (qm173 r_x13 r_kv14 wh_x13 c15 c26 c35 c52 c193 dr_x205 c206 i1u211 c224 c234 dr_x242 lr_x242 r_x244 hh_x244 ex245 dv_x245 r_x248 c249 c259 r_x272 q_x272 wh_x272 c282 c284 ex295) (qm174 r_x13 r_kv14 wh_x13 c15 c26 c35 c52 c193 dr_x205 c206 i1u211 c224 c234 dr_x242 lr_x242 r_x244 hh_x244 ex245 dv_x245 r_x248 c249 c259 r_x272 q_x272 wh_x272 c282 c284 ex295))
                          · intro _
                            intro _
                            intro x298 ex298
                            have i299 : vp_in (2 : Int32) (hN _ a46) := (vin l_a46 (m := 7) (by decide) (qm175 r_x13 r_kv14 wh_x13 c15 c26 c35 c52 c193 dr_x205 c206 i1u211 c224 c234 dr_x242 lr_x242 r_x244 hh_x244 ex245 dv_x245 r_x248 c249 c259 r_x272 q_x272 wh_x272 c282 c284))
                            refine ⟨i299, ?_⟩
                            intro S300 eS300
                            have hIn : IV S300 := by rw [eS300]; exact iv11_aD hI (de_free (qm176 r_x13 r_kv14 wh_x13 c15 c26 c35 c52 c193 dr_x205 c206 i1u211 c224 c234 dr_x242 lr_x242 r_x244 hh_x244 ex245 dv_x245 r_x248 c249 c259 r_x272 q_x272 wh_x272 c282 c284))
                            have sj := sj_2 eS300 sj
                            have hI := hIn
                            have f0 := fr_J eS300 f0
                            have fL214 := fr_J eS300 fL214
                            have d_kv2 := rd_J eS300 d_kv2
                            have d_x272 := rd_J eS300 d_x272
                            have d_kv14 := rd_J eS300 d_kv14
                            have d_x244 := rd_J eS300 d_x244
                            have d_x248 := rd_J eS300 d_x248
                            have d_x258 := rd_J eS300 d_x258
                            have ea3 := rf_J eS300 ea3
                            have ea46 := rf_J eS300 ea46
                            have ea50 := rf_J eS300 ea50
                            have ea191 := rf_J eS300 ea191
                            have ea277 := rf_J eS300 ea277
                            have ea280 := rf_J eS300 ea280
                            have l_a191 := ln_J eS300 l_a191
                            have l_a277 := ln_J eS300 l_a277
                            have l_a280 := ln_J eS300 l_a280
                            have l_a46 := ln_J eS300 l_a46
                            have l_a50 := ln_J eS300 l_a50
                            have g0 := gr_J eS300 g0
                            have gL213 := gr_J eS300 gL213
                            have o_a191 := ob_J eS300 o_a191
                            have o_a277 := ob_J eS300 o_a277
                            have o_a280 := ob_J eS300 o_a280
                            have o_a3 := ob_J eS300 o_a3
                            have o_a46 := ob_J eS300 o_a46
                            have o_a50 := ob_J eS300 o_a50
                            have o_v0 := ob_J eS300 o_v0
                            refine u_X11_stay_133 ?_
                            refine ⟨o_v0, ?_⟩
                            refine ⟨a46, ea46, ?_⟩
                            refine ⟨o_a46, ?_⟩
                            refine ⟨(vin l_a46 (m := 7) (by decide) (qm177 r_x13 r_kv14 wh_x13 c15 c26 c35 c52 c193 dr_x205 c206 i1u211 c224 c234 dr_x242 lr_x242 r_x244 hh_x244 ex245 dv_x245 r_x248 c249 c259 r_x272 q_x272 wh_x272 c282 c284)), ?_⟩
                            intro x302 ex302
                            have de_x302 := ml_de hI o_v0 (j := 21) (by decide) ea46 (1 : Int32).toNatClampNeg
                            rw [← ex302] at de_x302
                            have dr_x302 : (0 : Int64) ≤ x302 ∧ x302 ≤ (999 : Int64) := de_x302.2 (by decide)
                            intro x303 ex303
                            have i304 : vp_in (1 : Int32) (hN _ a46) := (vin l_a46 (m := 7) (by decide) (qm177 r_x13 r_kv14 wh_x13 c15 c26 c35 c52 c193 dr_x205 c206 i1u211 c224 c234 dr_x242 lr_x242 r_x244 hh_x244 ex245 dv_x245 r_x248 c249 c259 r_x272 q_x272 wh_x272 c282 c284))
                            refine ⟨i304, ?_⟩
                            intro S305 eS305
                            have hIn : IV S305 := by rw [eS305]; exact iv11_aD hI (sj_de sj ea46 ex302 ex303 dr_x302 (qm178 r_x13 r_kv14 wh_x13 c15 c26 c35 c52 c193 dr_x205 c206 i1u211 c224 c234 dr_x242 lr_x242 r_x244 hh_x244 ex245 dv_x245 r_x248 c249 c259 r_x272 q_x272 wh_x272 c282 c284))
                            have sj := sj_1 (k2 := w221 + 1) eS305 ea46 ex302 ex303 dr_x302 (qm179 r_x13 r_kv14 wh_x13 c15 c26 c35 c52 c193 dr_x205 c206 i1u211 c224 c234 dr_x242 lr_x242 r_x244 hh_x244 ex245 dv_x245 r_x248 c249 c259 r_x272 q_x272 wh_x272 c282 c284) rfl sj
                            have hI := hIn
                            have f0 := fr_J eS305 f0
                            have fL214 := fr_J eS305 fL214
                            have d_kv2 := rd_J eS305 d_kv2
                            have d_x272 := rd_J eS305 d_x272
                            have d_kv14 := rd_J eS305 d_kv14
                            have d_x244 := rd_J eS305 d_x244
                            have d_x248 := rd_J eS305 d_x248
                            have d_x258 := rd_J eS305 d_x258
                            have ea3 := rf_J eS305 ea3
                            have ea46 := rf_J eS305 ea46
                            have ea50 := rf_J eS305 ea50
                            have ea191 := rf_J eS305 ea191
                            have ea277 := rf_J eS305 ea277
                            have ea280 := rf_J eS305 ea280
                            have l_a191 := ln_J eS305 l_a191
                            have l_a277 := ln_J eS305 l_a277
                            have l_a280 := ln_J eS305 l_a280
                            have l_a46 := ln_J eS305 l_a46
                            have l_a50 := ln_J eS305 l_a50
                            have g0 := gr_J eS305 g0
                            have gL213 := gr_J eS305 gL213
                            have o_a191 := ob_J eS305 o_a191
                            have o_a277 := ob_J eS305 o_a277
                            have o_a280 := ob_J eS305 o_a280
                            have o_a3 := ob_J eS305 o_a3
                            have o_a46 := ob_J eS305 o_a46
                            have o_a50 := ob_J eS305 o_a50
                            have o_v0 := ob_J eS305 o_v0
                            intro x306 ex306
                            exact ih223 _ _ _ _ _ ⟨hI, gL213, fL214, rfl, rfl, rfl, (qm180 r_x13 r_kv14 wh_x13 c15 c26 c35 c52 c193 dr_x205 c206 i1u211 c224 c234 dr_x242 lr_x242 r_x244 hh_x244 ex245 dv_x245 r_x248 c249 c259 r_x272 q_x272 wh_x272 c282 c284 ex306), (by rw [ex306]; exact sj)⟩ (mu_up (qm181 r_x13 r_kv14 wh_x13 c15 c26 c35 c52 c193 dr_x205 c206 i1u211 c224 c234 dr_x242 lr_x242 r_x244 hh_x244 ex245 dv_x245 r_x248 c249 c259 r_x272 q_x272 wh_x272 c282 c284 ex306) (qm182 r_x13 r_kv14 wh_x13 c15 c26 c35 c52 c193 dr_x205 c206 i1u211 c224 c234 dr_x242 lr_x242 r_x244 hh_x244 ex245 dv_x245 r_x248 c249 c259 r_x272 q_x272 wh_x272 c282 c284 ex306))
                        · obtain ⟨a307, ea307, o_a307, l_a307⟩ := shl 42 rfl hI o_a3
                          refine ⟨a307, ea307, ?_⟩
                          refine ⟨o_a307, ?_⟩
                          refine ⟨(vin l_a307 (m := 4) (by decide) (qm183 r_x13 r_kv14 wh_x13 c15 c26 c35 c52 c193 dr_x205 c206 i1u211 c224 c234 dr_x242 lr_x242 r_x244 hh_x244 ex245 dv_x245 r_x248 c249 c259 r_x272 q_x272 wh_x272 c282)), ?_⟩
                          intro x308 ex308
                          intro _
                          refine u_X11_less ?_
                          refine u_X11_less_0 ?_
                          refine ⟨fun c310 => ?_, fun c310 => ?_⟩
                          · intro _
                            intro _
                            intro x313 ex313
                            have i314 : vp_in (2 : Int32) (hN _ a46) := (vin l_a46 (m := 7) (by decide) (qm184 r_x13 r_kv14 wh_x13 c15 c26 c35 c52 c193 dr_x205 c206 i1u211 c224 c234 dr_x242 lr_x242 r_x244 hh_x244 ex245 dv_x245 r_x248 c249 c259 r_x272 q_x272 wh_x272 c282 c310))
                            refine ⟨i314, ?_⟩
                            intro S315 eS315
                            have hIn : IV S315 := by rw [eS315]; exact iv11_aD hI (de_free (qm185 r_x13 r_kv14 wh_x13 c15 c26 c35 c52 c193 dr_x205 c206 i1u211 c224 c234 dr_x242 lr_x242 r_x244 hh_x244 ex245 dv_x245 r_x248 c249 c259 r_x272 q_x272 wh_x272 c282 c310))
                            have sj := sj_2 eS315 sj
                            have hI := hIn
                            have f0 := fr_J eS315 f0
                            have fL214 := fr_J eS315 fL214
                            have d_kv2 := rd_J eS315 d_kv2
                            have d_x272 := rd_J eS315 d_x272
                            have d_kv14 := rd_J eS315 d_kv14
                            have d_x244 := rd_J eS315 d_x244
                            have d_x248 := rd_J eS315 d_x248
                            have d_x258 := rd_J eS315 d_x258
                            have ea3 := rf_J eS315 ea3
                            have ea46 := rf_J eS315 ea46
                            have ea50 := rf_J eS315 ea50
                            have ea191 := rf_J eS315 ea191
                            have ea277 := rf_J eS315 ea277
                            have ea280 := rf_J eS315 ea280
                            have ea307 := rf_J eS315 ea307
                            have l_a191 := ln_J eS315 l_a191
                            have l_a277 := ln_J eS315 l_a277
                            have l_a280 := ln_J eS315 l_a280
                            have l_a307 := ln_J eS315 l_a307
                            have l_a46 := ln_J eS315 l_a46
                            have l_a50 := ln_J eS315 l_a50
                            have g0 := gr_J eS315 g0
                            have gL213 := gr_J eS315 gL213
                            have o_a191 := ob_J eS315 o_a191
                            have o_a277 := ob_J eS315 o_a277
                            have o_a280 := ob_J eS315 o_a280
                            have o_a3 := ob_J eS315 o_a3
                            have o_a307 := ob_J eS315 o_a307
                            have o_a46 := ob_J eS315 o_a46
                            have o_a50 := ob_J eS315 o_a50
                            have o_v0 := ob_J eS315 o_v0
                            refine u_X11_stay_133 ?_
                            refine ⟨o_v0, ?_⟩
                            refine ⟨a46, ea46, ?_⟩
                            refine ⟨o_a46, ?_⟩
                            refine ⟨(vin l_a46 (m := 7) (by decide) (qm186 r_x13 r_kv14 wh_x13 c15 c26 c35 c52 c193 dr_x205 c206 i1u211 c224 c234 dr_x242 lr_x242 r_x244 hh_x244 ex245 dv_x245 r_x248 c249 c259 r_x272 q_x272 wh_x272 c282 c310)), ?_⟩
                            intro x317 ex317
                            have de_x317 := ml_de hI o_v0 (j := 21) (by decide) ea46 (1 : Int32).toNatClampNeg
                            rw [← ex317] at de_x317
                            have dr_x317 : (0 : Int64) ≤ x317 ∧ x317 ≤ (999 : Int64) := de_x317.2 (by decide)
                            intro x318 ex318
                            have i319 : vp_in (1 : Int32) (hN _ a46) := (vin l_a46 (m := 7) (by decide) (qm186 r_x13 r_kv14 wh_x13 c15 c26 c35 c52 c193 dr_x205 c206 i1u211 c224 c234 dr_x242 lr_x242 r_x244 hh_x244 ex245 dv_x245 r_x248 c249 c259 r_x272 q_x272 wh_x272 c282 c310))
                            refine ⟨i319, ?_⟩
                            intro S320 eS320
                            have hIn : IV S320 := by rw [eS320]; exact iv11_aD hI (sj_de sj ea46 ex317 ex318 dr_x317 (qm187 r_x13 r_kv14 wh_x13 c15 c26 c35 c52 c193 dr_x205 c206 i1u211 c224 c234 dr_x242 lr_x242 r_x244 hh_x244 ex245 dv_x245 r_x248 c249 c259 r_x272 q_x272 wh_x272 c282 c310))
                            have sj := sj_1 (k2 := w221 + 1) eS320 ea46 ex317 ex318 dr_x317 (qm188 r_x13 r_kv14 wh_x13 c15 c26 c35 c52 c193 dr_x205 c206 i1u211 c224 c234 dr_x242 lr_x242 r_x244 hh_x244 ex245 dv_x245 r_x248 c249 c259 r_x272 q_x272 wh_x272 c282 c310) rfl sj
                            have hI := hIn
                            have f0 := fr_J eS320 f0
                            have fL214 := fr_J eS320 fL214
                            have d_kv2 := rd_J eS320 d_kv2
                            have d_x272 := rd_J eS320 d_x272
                            have d_kv14 := rd_J eS320 d_kv14
                            have d_x244 := rd_J eS320 d_x244
                            have d_x248 := rd_J eS320 d_x248
                            have d_x258 := rd_J eS320 d_x258
                            have ea3 := rf_J eS320 ea3
                            have ea46 := rf_J eS320 ea46
                            have ea50 := rf_J eS320 ea50
                            have ea191 := rf_J eS320 ea191
                            have ea277 := rf_J eS320 ea277
                            have ea280 := rf_J eS320 ea280
                            have ea307 := rf_J eS320 ea307
                            have l_a191 := ln_J eS320 l_a191
                            have l_a277 := ln_J eS320 l_a277
                            have l_a280 := ln_J eS320 l_a280
                            have l_a307 := ln_J eS320 l_a307
                            have l_a46 := ln_J eS320 l_a46
                            have l_a50 := ln_J eS320 l_a50
                            have g0 := gr_J eS320 g0
                            have gL213 := gr_J eS320 gL213
                            have o_a191 := ob_J eS320 o_a191
                            have o_a277 := ob_J eS320 o_a277
                            have o_a280 := ob_J eS320 o_a280
                            have o_a3 := ob_J eS320 o_a3
                            have o_a307 := ob_J eS320 o_a307
                            have o_a46 := ob_J eS320 o_a46
                            have o_a50 := ob_J eS320 o_a50
                            have o_v0 := ob_J eS320 o_v0
                            intro x321 ex321
                            exact ih223 _ _ _ _ _ ⟨hI, gL213, fL214, rfl, rfl, rfl, (qm189 r_x13 r_kv14 wh_x13 c15 c26 c35 c52 c193 dr_x205 c206 i1u211 c224 c234 dr_x242 lr_x242 r_x244 hh_x244 ex245 dv_x245 r_x248 c249 c259 r_x272 q_x272 wh_x272 c282 c310 ex321), (by rw [ex321]; exact sj)⟩ (mu_up (qm190 r_x13 r_kv14 wh_x13 c15 c26 c35 c52 c193 dr_x205 c206 i1u211 c224 c234 dr_x242 lr_x242 r_x244 hh_x244 ex245 dv_x245 r_x248 c249 c259 r_x272 q_x272 wh_x272 c282 c310 ex321) (qm191 r_x13 r_kv14 wh_x13 c15 c26 c35 c52 c193 dr_x205 c206 i1u211 c224 c234 dr_x242 lr_x242 r_x244 hh_x244 ex245 dv_x245 r_x248 c249 c259 r_x272 q_x272 wh_x272 c282 c310 ex321))
                          · intro _
                            intro _
                            intro x324 ex324
                            have i325 : vp_in (2 : Int32) (hN _ a46) := (vin l_a46 (m := 7) (by decide) (qm192 r_x13 r_kv14 wh_x13 c15 c26 c35 c52 c193 dr_x205 c206 i1u211 c224 c234 dr_x242 lr_x242 r_x244 hh_x244 ex245 dv_x245 r_x248 c249 c259 r_x272 q_x272 wh_x272 c282 c310))
                            refine ⟨i325, ?_⟩
                            intro S326 eS326
                            have hIn : IV S326 := by rw [eS326]; exact iv11_aD hI (de_free (qm193 r_x13 r_kv14 wh_x13 c15 c26 c35 c52 c193 dr_x205 c206 i1u211 c224 c234 dr_x242 lr_x242 r_x244 hh_x244 ex245 dv_x245 r_x248 c249 c259 r_x272 q_x272 wh_x272 c282 c310))
                            have sj := sj_2 eS326 sj
                            have hI := hIn
                            have f0 := fr_J eS326 f0
                            have fL214 := fr_J eS326 fL214
                            have d_kv2 := rd_J eS326 d_kv2
                            have d_x272 := rd_J eS326 d_x272
                            have d_kv14 := rd_J eS326 d_kv14
                            have d_x244 := rd_J eS326 d_x244
                            have d_x248 := rd_J eS326 d_x248
                            have d_x258 := rd_J eS326 d_x258
                            have ea3 := rf_J eS326 ea3
                            have ea46 := rf_J eS326 ea46
                            have ea50 := rf_J eS326 ea50
                            have ea191 := rf_J eS326 ea191
                            have ea277 := rf_J eS326 ea277
                            have ea280 := rf_J eS326 ea280
                            have ea307 := rf_J eS326 ea307
                            have l_a191 := ln_J eS326 l_a191
                            have l_a277 := ln_J eS326 l_a277
                            have l_a280 := ln_J eS326 l_a280
                            have l_a307 := ln_J eS326 l_a307
                            have l_a46 := ln_J eS326 l_a46
                            have l_a50 := ln_J eS326 l_a50
                            have g0 := gr_J eS326 g0
                            have gL213 := gr_J eS326 gL213
                            have o_a191 := ob_J eS326 o_a191
                            have o_a277 := ob_J eS326 o_a277
                            have o_a280 := ob_J eS326 o_a280
                            have o_a3 := ob_J eS326 o_a3
                            have o_a307 := ob_J eS326 o_a307
                            have o_a46 := ob_J eS326 o_a46
                            have o_a50 := ob_J eS326 o_a50
                            have o_v0 := ob_J eS326 o_v0
                            refine u_X11_stay_133 ?_
                            refine ⟨o_v0, ?_⟩
                            refine ⟨a46, ea46, ?_⟩
                            refine ⟨o_a46, ?_⟩
                            refine ⟨(vin l_a46 (m := 7) (by decide) (qm194 r_x13 r_kv14 wh_x13 c15 c26 c35 c52 c193 dr_x205 c206 i1u211 c224 c234 dr_x242 lr_x242 r_x244 hh_x244 ex245 dv_x245 r_x248 c249 c259 r_x272 q_x272 wh_x272 c282 c310)), ?_⟩
                            intro x328 ex328
                            have de_x328 := ml_de hI o_v0 (j := 21) (by decide) ea46 (1 : Int32).toNatClampNeg
                            rw [← ex328] at de_x328
                            have dr_x328 : (0 : Int64) ≤ x328 ∧ x328 ≤ (999 : Int64) := de_x328.2 (by decide)
                            intro x329 ex329
                            have i330 : vp_in (1 : Int32) (hN _ a46) := (vin l_a46 (m := 7) (by decide) (qm194 r_x13 r_kv14 wh_x13 c15 c26 c35 c52 c193 dr_x205 c206 i1u211 c224 c234 dr_x242 lr_x242 r_x244 hh_x244 ex245 dv_x245 r_x248 c249 c259 r_x272 q_x272 wh_x272 c282 c310))
                            refine ⟨i330, ?_⟩
                            intro S331 eS331
                            have hIn : IV S331 := by rw [eS331]; exact iv11_aD hI (sj_de sj ea46 ex328 ex329 dr_x328 (qm195 r_x13 r_kv14 wh_x13 c15 c26 c35 c52 c193 dr_x205 c206 i1u211 c224 c234 dr_x242 lr_x242 r_x244 hh_x244 ex245 dv_x245 r_x248 c249 c259 r_x272 q_x272 wh_x272 c282 c310))
                            have sj := sj_1 (k2 := w221 + 1) eS331 ea46 ex328 ex329 dr_x328 (qm196 r_x13 r_kv14 wh_x13 c15 c26 c35 c52 c193 dr_x205 c206 i1u211 c224 c234 dr_x242 lr_x242 r_x244 hh_x244 ex245 dv_x245 r_x248 c249 c259 r_x272 q_x272 wh_x272 c282 c310) rfl sj
                            have hI := hIn
                            have f0 := fr_J eS331 f0
                            have fL214 := fr_J eS331 fL214
                            have d_kv2 := rd_J eS331 d_kv2
                            have d_x272 := rd_J eS331 d_x272
                            have d_kv14 := rd_J eS331 d_kv14
                            have d_x244 := rd_J eS331 d_x244
                            have d_x248 := rd_J eS331 d_x248
                            have d_x258 := rd_J eS331 d_x258
                            have ea3 := rf_J eS331 ea3
                            have ea46 := rf_J eS331 ea46
                            have ea50 := rf_J eS331 ea50
                            have ea191 := rf_J eS331 ea191
                            have ea277 := rf_J eS331 ea277
                            have ea280 := rf_J eS331 ea280
                            have ea307 := rf_J eS331 ea307
                            have l_a191 := ln_J eS331 l_a191
                            have l_a277 := ln_J eS331 l_a277
                            have l_a280 := ln_J eS331 l_a280
                            have l_a307 := ln_J eS331 l_a307
                            have l_a46 := ln_J eS331 l_a46
                            have l_a50 := ln_J eS331 l_a50
                            have g0 := gr_J eS331 g0
                            have gL213 := gr_J eS331 gL213
                            have o_a191 := ob_J eS331 o_a191
                            have o_a277 := ob_J eS331 o_a277
                            have o_a280 := ob_J eS331 o_a280
                            have o_a3 := ob_J eS331 o_a3
                            have o_a307 := ob_J eS331 o_a307
                            have o_a46 := ob_J eS331 o_a46
                            have o_a50 := ob_J eS331 o_a50
                            have o_v0 := ob_J eS331 o_v0
                            intro x332 ex332
                            exact ih223 _ _ _ _ _ ⟨hI, gL213, fL214, rfl, rfl, rfl, (qm197 r_x13 r_kv14 wh_x13 c15 c26 c35 c52 c193 dr_x205 c206 i1u211 c224 c234 dr_x242 lr_x242 r_x244 hh_x244 ex245 dv_x245 r_x248 c249 c259 r_x272 q_x272 wh_x272 c282 c310 ex332), (by rw [ex332]; exact sj)⟩ (mu_up (qm198 r_x13 r_kv14 wh_x13 c15 c26 c35 c52 c193 dr_x205 c206 i1u211 c224 c234 dr_x242 lr_x242 r_x244 hh_x244 ex245 dv_x245 r_x248 c249 c259 r_x272 q_x272 wh_x272 c282 c310 ex332) (qm199 r_x13 r_kv14 wh_x13 c15 c26 c35 c52 c193 dr_x205 c206 i1u211 c224 c234 dr_x242 lr_x242 r_x244 hh_x244 ex245 dv_x245 r_x248 c249 c259 r_x272 q_x272 wh_x272 c282 c310 ex332))
              · refine u_X11_denied ?_
                refine u_X11_denied_0 ?_
                refine ⟨o_v0, ?_⟩
                refine u_X11_refused ?_
                refine u_X11_refused_0 ?_
                refine ⟨o_v0, ?_⟩
                intro S333 eS333
                have hIn : IV S333 := by rw [eS333]; exact iv11_sI hI o_v0 (by decide) (nu_free (by decide))
                have hI := hIn
                have f0 := fr_I eS333 g0 f0 o_v0 (by decide)
                have d_kv2 := rd_Ij eS333 (by decide) d_kv2
                have d_x13 := rd_Ij eS333 (by decide) d_x13
                have d_kv14 := rd_Ik eS333 o_v0 o_a3 (by decide) d_kv14
                obtain ⟨kv334, hkv334⟩ : ∃ z : Int32, z = (3 : Int32) := ⟨_, rfl⟩
                have d_kv334 := rd_Is eS333 hkv334
                have ea3 := rf_I eS333 ea3
                have ea46 := rf_I eS333 ea46
                have ea50 := rf_I eS333 ea50
                have ea191 := rf_I eS333 ea191
                have l_a191 := ln_I eS333 l_a191
                have l_a46 := ln_I eS333 l_a46
                have l_a50 := ln_I eS333 l_a50
                have g0 := gr_I eS333 g0
                have o_a191 := ob_I eS333 o_a191
                have o_a3 := ob_I eS333 o_a3
                have o_a46 := ob_I eS333 o_a46
                have o_a50 := ob_I eS333 o_a50
                have o_v0 := ob_I eS333 o_v0
                intro S335 eS335
                have hIn : IV S335 := by rw [eS335]; exact iv11_sI hI o_v0 (by decide) (nu_free (by decide))
                have hI := hIn
                have f0 := fr_I eS335 g0 f0 o_v0 (by decide)
                have d_kv2 := rd_Ij eS335 (by decide) d_kv2
                have d_x13 := rd_Ij eS335 (by decide) d_x13
                have d_kv14 := rd_Ik eS335 o_v0 o_a3 (by decide) d_kv14
                have d_kv334 := rd_Ij eS335 (by decide) d_kv334
                obtain ⟨kv336, hkv336⟩ : ∃ z : Int32, z = (-1 : Int32) := ⟨_, rfl⟩
                have d_kv336 := rd_Is eS335 hkv336
                have ea3 := rf_I eS335 ea3
                have ea46 := rf_I eS335 ea46
                have ea50 := rf_I eS335 ea50
                have ea191 := rf_I eS335 ea191
                have l_a191 := ln_I eS335 l_a191
                have l_a46 := ln_I eS335 l_a46
                have l_a50 := ln_I eS335 l_a50
                have g0 := gr_I eS335 g0
                have o_a191 := ob_I eS335 o_a191
                have o_a3 := ob_I eS335 o_a3
                have o_a46 := ob_I eS335 o_a46
                have o_a50 := ob_I eS335 o_a50
                have o_v0 := ob_I eS335 o_v0
                intro _
                intro _ _
                refine ⟨(Or.inl rfl), ?_⟩
                exact hq _ _ hI g0 f0 (Or.inl rfl)
end
section
set_option maxHeartbeats 4000000 in
set_option maxRecDepth 20000 in
theorem m_X11_trouble {v0 : Nat} {Q : Int32 → HS → Prop} {S : HS} (hI : IV S) (o_v0 : ob S v0 11)     (hq : ∀ (r : Int32) (T : HS), IV T → Gr S T → FRI [(11, 0)] [] S T → Q r T) : P_X11_trouble v0 Q S := by
  have g0 := gr_rf S
  have f0 := fri_rf [(11, 0)] [] S
  refine u_X11_trouble ?_
  refine u_X11_trouble_0 ?_
  refine ⟨o_v0, ?_⟩
  intro S1 eS1
  have hIn : IV S1 := by rw [eS1]; exact iv11_sI hI o_v0 (by decide) (nu_free (by decide))
  have hI := hIn
  have f0 := fr_I eS1 g0 f0 o_v0 (by decide)
  obtain ⟨kv2, hkv2⟩ : ∃ z : Int32, z = (0 : Int32) := ⟨_, rfl⟩
  have d_kv2 := rd_Is eS1 hkv2
  have g0 := gr_I eS1 g0
  have o_v0 := ob_I eS1 o_v0
  intro x3 ex3
  have d_x3 := ex3
  exact hq _ _ hI g0 f0
set_option maxHeartbeats 4000000 in
set_option maxRecDepth 20000 in
theorem m_X11_undo {v0 : Nat} {Q : Int32 → HS → Prop} {S : HS} (hI : IV S) (o_v0 : ob S v0 11)     (hq : ∀ (r : Int32) (T : HS), IV T → Gr S T → FRI [(11, 0), (11, 1), (11, 2), (11, 24)] [] S T → bl r → Q r T) : P_X11_undo v0 Q S := by
  have g0 := gr_rf S
  have f0 := fri_rf [(11, 0), (11, 1), (11, 2), (11, 24)] [] S
  refine u_X11_undo ?_
  refine u_X11_undo_0 ?_
  refine ⟨o_v0, ?_⟩
  intro S1 eS1
  have hIn : IV S1 := by rw [eS1]; exact iv11_sI hI o_v0 (by decide) (nu_free (by decide))
  have hI := hIn
  have f0 := fr_I eS1 g0 f0 o_v0 (by decide)
  obtain ⟨kv2, hkv2⟩ : ∃ z : Int32, z = (0 : Int32) := ⟨_, rfl⟩
  have d_kv2 := rd_Is eS1 hkv2
  have g0 := gr_I eS1 g0
  have o_v0 := ob_I eS1 o_v0
  refine u_X11_isDay ?_
  refine u_X11_isDay_0 ?_
  refine ⟨o_v0, ?_⟩
  refine ⟨fun e4 => ?_, fun a3 ea3 => ?_⟩
  · intro _ _
    refine ⟨fun c6 => ?_, fun c6 => absurd (show ¬ (0 : Int32) = 0 from c6) (by decide)⟩
    refine u_X11_undo_19 ?_
    refine ⟨o_v0, ?_⟩
    refine u_X11_denied ?_
    refine u_X11_denied_0 ?_
    refine ⟨o_v0, ?_⟩
    refine u_X11_refused ?_
    refine u_X11_refused_0 ?_
    refine ⟨o_v0, ?_⟩
    intro S7 eS7
    have hIn : IV S7 := by rw [eS7]; exact iv11_sI hI o_v0 (by decide) (nu_free (by decide))
    have hI := hIn
    have f0 := fr_I eS7 g0 f0 o_v0 (by decide)
    have d_kv2 := rd_Ij eS7 (by decide) d_kv2
    obtain ⟨kv8, hkv8⟩ : ∃ z : Int32, z = (6 : Int32) := ⟨_, rfl⟩
    have d_kv8 := rd_Is eS7 hkv8
    have g0 := gr_I eS7 g0
    have o_v0 := ob_I eS7 o_v0
    intro S9 eS9
    have hIn : IV S9 := by rw [eS9]; exact iv11_sI hI o_v0 (by decide) (nu_free (by decide))
    have hI := hIn
    have f0 := fr_I eS9 g0 f0 o_v0 (by decide)
    have d_kv2 := rd_Ij eS9 (by decide) d_kv2
    have d_kv8 := rd_Ij eS9 (by decide) d_kv8
    obtain ⟨kv10, hkv10⟩ : ∃ z : Int32, z = (-1 : Int32) := ⟨_, rfl⟩
    have d_kv10 := rd_Is eS9 hkv10
    have g0 := gr_I eS9 g0
    have o_v0 := ob_I eS9 o_v0
    intro _
    intro _ _
    refine ⟨(Or.inl rfl), ?_⟩
    exact hq _ _ hI g0 f0 (Or.inl rfl)
  · have o_a3 := ml_ob hI o_v0 ea3
    intro x13 ex13
    have r_x13 : (-2 : Int32) ≤ x13 ∧ x13 ≤ (3 : Int32) := by rw [ex13]; exact nu 26 rfl hI o_v0
    have d_x13 := ex13
    obtain ⟨kv14, d_kv14⟩ : ∃ z : Int32, z = fI S1 a3 4 := ⟨_, rfl⟩
    have r_kv14 : (0 : Int32) ≤ kv14 ∧ kv14 ≤ (4 : Int32) := by rw [d_kv14]; exact nu 20 rfl hI o_a3
    have wh_x13 : x13 = -2 ∨ (0 ≤ x13 ∧ x13 < kv14) := by rw [ex13, d_kv14]; exact ml_who hI o_v0 ea3
    refine ⟨fun c15 => ?_, fun c15 => ?_⟩
    · intro _ _
      refine ⟨fun c17 => ?_, fun c17 => absurd (show ¬ (0 : Int32) = 0 from c17) (by decide)⟩
      refine u_X11_undo_19 ?_
      refine ⟨o_v0, ?_⟩
      refine u_X11_denied ?_
      refine u_X11_denied_0 ?_
      refine ⟨o_v0, ?_⟩
      refine u_X11_refused ?_
      refine u_X11_refused_0 ?_
      refine ⟨o_v0, ?_⟩
      intro S18 eS18
      have hIn : IV S18 := by rw [eS18]; exact iv11_sI hI o_v0 (by decide) (nu_free (by decide))
      have hI := hIn
      have f0 := fr_I eS18 g0 f0 o_v0 (by decide)
      have d_kv2 := rd_Ij eS18 (by decide) d_kv2
      have d_x13 := rd_Ij eS18 (by decide) d_x13
      have d_kv14 := rd_Ik eS18 o_v0 o_a3 (by decide) d_kv14
      obtain ⟨kv19, hkv19⟩ : ∃ z : Int32, z = (6 : Int32) := ⟨_, rfl⟩
      have d_kv19 := rd_Is eS18 hkv19
      have ea3 := rf_I eS18 ea3
      have g0 := gr_I eS18 g0
      have o_a3 := ob_I eS18 o_a3
      have o_v0 := ob_I eS18 o_v0
      intro S20 eS20
      have hIn : IV S20 := by rw [eS20]; exact iv11_sI hI o_v0 (by decide) (nu_free (by decide))
      have hI := hIn
      have f0 := fr_I eS20 g0 f0 o_v0 (by decide)
      have d_kv2 := rd_Ij eS20 (by decide) d_kv2
      have d_x13 := rd_Ij eS20 (by decide) d_x13
      have d_kv14 := rd_Ik eS20 o_v0 o_a3 (by decide) d_kv14
      have d_kv19 := rd_Ij eS20 (by decide) d_kv19
      obtain ⟨kv21, hkv21⟩ : ∃ z : Int32, z = (-1 : Int32) := ⟨_, rfl⟩
      have d_kv21 := rd_Is eS20 hkv21
      have ea3 := rf_I eS20 ea3
      have g0 := gr_I eS20 g0
      have o_a3 := ob_I eS20 o_a3
      have o_v0 := ob_I eS20 o_v0
      intro _
      intro _ _
      refine ⟨(Or.inl rfl), ?_⟩
      exact hq _ _ hI g0 f0 (Or.inl rfl)
    · intro _ _
      refine ⟨fun c25 => absurd (show (1 : Int32) = 0 from c25) (by decide), fun c25 => ?_⟩
      intro x26 ex26
      have r_x26 : (0 : Int32) ≤ x26 ∧ x26 ≤ (16 : Int32) := by rw [ex26]; exact nu 27 rfl hI o_v0
      have d_x26 := ex26
      refine ⟨fun c27 => ?_, fun c27 => ?_⟩
      · intro x28 ex28
        have r_x28 : (0 : Int32) ≤ x28 ∧ x28 ≤ (16 : Int32) := by rw [ex28]; exact nu 27 rfl hI o_v0
        have q_x28 : x28 = x26 := ex28.trans d_x26.symm
        have d_x28 := ex28
        intro x29 ex29
        intro S30 eS30
        have hIn : IV S30 := by rw [eS30]; exact iv11_sI hI o_v0 (by decide) (nu_one (lo := (0 : Int32)) (hi := (16 : Int32)) (by decide) (qm527 r_x13 r_kv14 wh_x13 c15 r_x26 c27 r_x28 q_x28 ex29))
        have hI := hIn
        have f0 := fr_I eS30 g0 f0 o_v0 (by decide)
        have d_kv2 := rd_Ij eS30 (by decide) d_kv2
        have d_x13 := rd_Ij eS30 (by decide) d_x13
        have d_kv14 := rd_Ik eS30 o_v0 o_a3 (by decide) d_kv14
        have d_x29 := rd_Is eS30 (rfl : x29 = x29)
        have ea3 := rf_I eS30 ea3
        have g0 := gr_I eS30 g0
        have o_a3 := ob_I eS30 o_a3
        have o_v0 := ob_I eS30 o_v0
        refine i_X11_undo_38 (fun (y0 : Nat) (y1 : Int32) (Z : HS) => ((7 : Int32).toInt - y1.toInt).toNat) (fun (y0 : Nat) (y1 : Int32) (Z : HS) => (IV Z) ∧ (Gr S30 Z) ∧ (FRI [] [] S30 Z) ∧ (v0 = y0) ∧ (0 ≤ y1 ∧ y1 ≤ 7)) ?_ _ _ _ ⟨hI, (gr_rf _), (fri_rf _ _ _), rfl, (qm528 r_x13 r_kv14 wh_x13 c15 r_x26 c27 r_x28 q_x28 ex29)⟩
        intro w35 w37 S32 X38 ⟨hI, gL33, fL34, q36, i1u31⟩ ih39
        subst q36
        have d_kv2 := d_kv2.trans (fri_at fL34 (by decide) (by decide) o_v0).symm
        have d_x13 := d_x13.trans (fri_at fL34 (by decide) (by decide) o_v0).symm
        have d_kv14 := d_kv14.trans (fri_at fL34 (by decide) (by decide) o_a3).symm
        have d_x29 := d_x29.trans (fri_at fL34 (by decide) (by decide) o_v0).symm
        have ea3 := (frr_at fL34 (by decide) (by decide) o_v0).trans ea3
        have f0 := fri_tr (S := S30) g0 f0 fL34 (by decide) (by decide)
        have o_a3 := gr_ob gL33 o_a3
        have o_v0 := gr_ob gL33 o_v0
        have g0 := gr_tr (T := S30) g0 gL33
        refine u_X11_undo_38 ?_
        refine ⟨fun c40 => ?_, fun c40 => ?_⟩
        · refine ⟨o_v0, ?_⟩
          refine u_X11_granted ?_
          refine u_X11_granted_0 ?_
          refine ⟨o_v0, ?_⟩
          refine u_X11_good ?_
          refine u_X11_good_0 ?_
          refine ⟨o_v0, ?_⟩
          intro S41 eS41
          have hIn : IV S41 := by rw [eS41]; exact iv11_sI hI o_v0 (by decide) (nu_free (by decide))
          have hI := hIn
          have f0 := fr_I eS41 g0 f0 o_v0 (by decide)
          have d_kv2 := rd_Ij eS41 (by decide) d_kv2
          have d_x13 := rd_Ij eS41 (by decide) d_x13
          have d_kv14 := rd_Ik eS41 o_v0 o_a3 (by decide) d_kv14
          have d_x29 := rd_Ij eS41 (by decide) d_x29
          obtain ⟨kv42, hkv42⟩ : ∃ z : Int32, z = (0 : Int32) := ⟨_, rfl⟩
          have d_kv42 := rd_Is eS41 hkv42
          have ea3 := rf_I eS41 ea3
          have g0 := gr_I eS41 g0
          have o_a3 := ob_I eS41 o_a3
          have o_v0 := ob_I eS41 o_v0
          intro S43 eS43
          have hIn : IV S43 := by rw [eS43]; exact iv11_sI hI o_v0 (by decide) (nu_free (by decide))
          have hI := hIn
          have f0 := fr_I eS43 g0 f0 o_v0 (by decide)
          have d_kv2 := rd_Ij eS43 (by decide) d_kv2
          have d_x13 := rd_Ij eS43 (by decide) d_x13
          have d_kv14 := rd_Ik eS43 o_v0 o_a3 (by decide) d_kv14
          have d_x29 := rd_Ij eS43 (by decide) d_x29
          have d_kv42 := rd_Ij eS43 (by decide) d_kv42
          obtain ⟨kv44, hkv44⟩ : ∃ z : Int32, z = (-1 : Int32) := ⟨_, rfl⟩
          have d_kv44 := rd_Is eS43 hkv44
          have ea3 := rf_I eS43 ea3
          have g0 := gr_I eS43 g0
          have o_a3 := ob_I eS43 o_a3
          have o_v0 := ob_I eS43 o_v0
          intro _
          intro _ _
          refine ⟨(Or.inr rfl), ?_⟩
          exact hq _ _ hI g0 f0 (Or.inr rfl)
        · refine ⟨o_v0, ?_⟩
          obtain ⟨a47, ea47, o_a47, l_a47⟩ := shl 57 rfl hI o_v0
          refine ⟨a47, ea47, ?_⟩
          obtain ⟨a48, ea48, o_a48, l_a48⟩ := shl 58 rfl hI o_v0
          refine ⟨a48, ea48, ?_⟩
          intro x49 ex49
          have r_x49 : (0 : Int32) ≤ x49 ∧ x49 ≤ (16 : Int32) := by rw [ex49]; exact nu 27 rfl hI o_v0
          have q_x49 : x49 = x29 := ex49.trans d_x29.symm
          have d_x49 := ex49
          refine ⟨o_a48, ?_⟩
          intro x50 ex50
          refine ⟨(vin l_a48 (m := 112) (by decide) (qm529 r_x13 r_kv14 wh_x13 c15 r_x26 c27 r_x28 q_x28 ex29 i1u31 c40 r_x49 q_x49 ex50)), ?_⟩
          intro x51 ex51
          have de_x51 := ml_de hI o_v0 (j := 22) (by decide) ea48 x50.toNatClampNeg
          rw [← ex51] at de_x51
          refine ⟨o_a47, ?_⟩
          have i52 : vp_in w37 (hN _ a47) := (vin l_a47 (m := 7) (by decide) (qm530 r_x13 r_kv14 wh_x13 c15 r_x26 c27 r_x28 q_x28 ex29 i1u31 c40 r_x49 q_x49 ex50))
          refine ⟨i52, ?_⟩
          intro S53 eS53
          have hIn : IV S53 := by rw [eS53]; exact iv11_aD hI (de_tr de_x51 (md_mul (a := x49) (k := w37) ex50 (qm531 r_x13 r_kv14 wh_x13 c15 r_x26 c27 r_x28 q_x28 ex29 i1u31 c40 r_x49 q_x49 ex50) (qm532 r_x13 r_kv14 wh_x13 c15 r_x26 c27 r_x28 q_x28 ex29 i1u31 c40 r_x49 q_x49 ex50)).symm)
          have hI := hIn
          have f0 := fr_J eS53 f0
          have fL34 := fr_J eS53 fL34
          have d_kv2 := rd_J eS53 d_kv2
          have d_x13 := rd_J eS53 d_x13
          have d_kv14 := rd_J eS53 d_kv14
          have d_x49 := rd_J eS53 d_x49
          have ea3 := rf_J eS53 ea3
          have ea47 := rf_J eS53 ea47
          have ea48 := rf_J eS53 ea48
          have l_a47 := ln_J eS53 l_a47
          have l_a48 := ln_J eS53 l_a48
          have g0 := gr_J eS53 g0
          have gL33 := gr_J eS53 gL33
          have o_a3 := ob_J eS53 o_a3
          have o_a47 := ob_J eS53 o_a47
          have o_a48 := ob_J eS53 o_a48
          have o_v0 := ob_J eS53 o_v0
          intro x54 ex54
          exact ih39 _ _ _ ⟨hI, gL33, fL34, rfl, (qm533 r_x13 r_kv14 wh_x13 c15 r_x26 c27 r_x28 q_x28 ex29 i1u31 c40 r_x49 q_x49 ex50 ex54)⟩ (mu_up (qm534 r_x13 r_kv14 wh_x13 c15 r_x26 c27 r_x28 q_x28 ex29 i1u31 c40 r_x49 q_x49 ex50 ex54) (qm535 r_x13 r_kv14 wh_x13 c15 r_x26 c27 r_x28 q_x28 ex29 i1u31 c40 r_x49 q_x49 ex50 ex54))
      · refine u_X11_undo_19 ?_
        refine ⟨o_v0, ?_⟩
        refine u_X11_denied ?_
        refine u_X11_denied_0 ?_
        refine ⟨o_v0, ?_⟩
        refine u_X11_refused ?_
        refine u_X11_refused_0 ?_
        refine ⟨o_v0, ?_⟩
        intro S55 eS55
        have hIn : IV S55 := by rw [eS55]; exact iv11_sI hI o_v0 (by decide) (nu_free (by decide))
        have hI := hIn
        have f0 := fr_I eS55 g0 f0 o_v0 (by decide)
        have d_kv2 := rd_Ij eS55 (by decide) d_kv2
        have d_x13 := rd_Ij eS55 (by decide) d_x13
        have d_kv14 := rd_Ik eS55 o_v0 o_a3 (by decide) d_kv14
        have d_x26 := rd_Ij eS55 (by decide) d_x26
        obtain ⟨kv56, hkv56⟩ : ∃ z : Int32, z = (6 : Int32) := ⟨_, rfl⟩
        have d_kv56 := rd_Is eS55 hkv56
        have ea3 := rf_I eS55 ea3
        have g0 := gr_I eS55 g0
        have o_a3 := ob_I eS55 o_a3
        have o_v0 := ob_I eS55 o_v0
        intro S57 eS57
        have hIn : IV S57 := by rw [eS57]; exact iv11_sI hI o_v0 (by decide) (nu_free (by decide))
        have hI := hIn
        have f0 := fr_I eS57 g0 f0 o_v0 (by decide)
        have d_kv2 := rd_Ij eS57 (by decide) d_kv2
        have d_x13 := rd_Ij eS57 (by decide) d_x13
        have d_kv14 := rd_Ik eS57 o_v0 o_a3 (by decide) d_kv14
        have d_x26 := rd_Ij eS57 (by decide) d_x26
        have d_kv56 := rd_Ij eS57 (by decide) d_kv56
        obtain ⟨kv58, hkv58⟩ : ∃ z : Int32, z = (-1 : Int32) := ⟨_, rfl⟩
        have d_kv58 := rd_Is eS57 hkv58
        have ea3 := rf_I eS57 ea3
        have g0 := gr_I eS57 g0
        have o_a3 := ob_I eS57 o_a3
        have o_v0 := ob_I eS57 o_v0
        intro _
        intro _ _
        refine ⟨(Or.inl rfl), ?_⟩
        exact hq _ _ hI g0 f0 (Or.inl rfl)
set_option maxHeartbeats 4000000 in
set_option maxRecDepth 20000 in
theorem m_X11_walker {v0 : Nat} {v1 : Int32} {v2 : Int32} {Q : Int32 → HS → Prop} {S : HS} (hI : IV S) (o_v0 : ob S v0 11)     (hq : ∀ (r : Int32) (T : HS), IV T → Gr S T → FRI [(11, 0), (11, 1), (11, 2)] [] S T → Q r T) : P_X11_walker v0 v1 v2 Q S := by
  have g0 := gr_rf S
  have f0 := fri_rf [(11, 0), (11, 1), (11, 2)] [] S
  refine u_X11_walker ?_
  refine u_X11_walker_0 ?_
  refine ⟨o_v0, ?_⟩
  intro S1 eS1
  have hIn : IV S1 := by rw [eS1]; exact iv11_sI hI o_v0 (by decide) (nu_free (by decide))
  have hI := hIn
  have f0 := fr_I eS1 g0 f0 o_v0 (by decide)
  obtain ⟨kv2, hkv2⟩ : ∃ z : Int32, z = (0 : Int32) := ⟨_, rfl⟩
  have d_kv2 := rd_Is eS1 hkv2
  have g0 := gr_I eS1 g0
  have o_v0 := ob_I eS1 o_v0
  refine u_X11_isWalker ?_
  refine u_X11_isWalker_0 ?_
  refine ⟨o_v0, ?_⟩
  refine ⟨fun e4 => ?_, fun a3 ea3 => ?_⟩
  · intro _ _
    refine ⟨fun c6 => ?_, fun c6 => absurd (show ¬ (0 : Int32) = 0 from c6) (by decide)⟩
    refine u_X11_walker_23 ?_
    refine ⟨o_v0, ?_⟩
    refine u_X11_refused ?_
    refine u_X11_refused_0 ?_
    refine ⟨o_v0, ?_⟩
    intro S7 eS7
    have hIn : IV S7 := by rw [eS7]; exact iv11_sI hI o_v0 (by decide) (nu_free (by decide))
    have hI := hIn
    have f0 := fr_I eS7 g0 f0 o_v0 (by decide)
    have d_kv2 := rd_Ij eS7 (by decide) d_kv2
    obtain ⟨kv8, hkv8⟩ : ∃ z : Int32, z = (1 : Int32) := ⟨_, rfl⟩
    have d_kv8 := rd_Is eS7 hkv8
    have g0 := gr_I eS7 g0
    have o_v0 := ob_I eS7 o_v0
    intro S9 eS9
    have hIn : IV S9 := by rw [eS9]; exact iv11_sI hI o_v0 (by decide) (nu_free (by decide))
    have hI := hIn
    have f0 := fr_I eS9 g0 f0 o_v0 (by decide)
    have d_kv2 := rd_Ij eS9 (by decide) d_kv2
    have d_kv8 := rd_Ij eS9 (by decide) d_kv8
    obtain ⟨kv10, hkv10⟩ : ∃ z : Int32, z = (-1 : Int32) := ⟨_, rfl⟩
    have d_kv10 := rd_Is eS9 hkv10
    have g0 := gr_I eS9 g0
    have o_v0 := ob_I eS9 o_v0
    intro _
    exact hq _ _ hI g0 f0
  · have o_a3 := ml_ob hI o_v0 ea3
    refine ⟨fun c12 => ?_, fun c12 => ?_⟩
    · intro _ _
      refine ⟨fun c14 => ?_, fun c14 => absurd (show ¬ (0 : Int32) = 0 from c14) (by decide)⟩
      refine u_X11_walker_23 ?_
      refine ⟨o_v0, ?_⟩
      refine u_X11_refused ?_
      refine u_X11_refused_0 ?_
      refine ⟨o_v0, ?_⟩
      intro S15 eS15
      have hIn : IV S15 := by rw [eS15]; exact iv11_sI hI o_v0 (by decide) (nu_free (by decide))
      have hI := hIn
      have f0 := fr_I eS15 g0 f0 o_v0 (by decide)
      have d_kv2 := rd_Ij eS15 (by decide) d_kv2
      obtain ⟨kv16, hkv16⟩ : ∃ z : Int32, z = (1 : Int32) := ⟨_, rfl⟩
      have d_kv16 := rd_Is eS15 hkv16
      have ea3 := rf_I eS15 ea3
      have g0 := gr_I eS15 g0
      have o_a3 := ob_I eS15 o_a3
      have o_v0 := ob_I eS15 o_v0
      intro S17 eS17
      have hIn : IV S17 := by rw [eS17]; exact iv11_sI hI o_v0 (by decide) (nu_free (by decide))
      have hI := hIn
      have f0 := fr_I eS17 g0 f0 o_v0 (by decide)
      have d_kv2 := rd_Ij eS17 (by decide) d_kv2
      have d_kv16 := rd_Ij eS17 (by decide) d_kv16
      obtain ⟨kv18, hkv18⟩ : ∃ z : Int32, z = (-1 : Int32) := ⟨_, rfl⟩
      have d_kv18 := rd_Is eS17 hkv18
      have ea3 := rf_I eS17 ea3
      have g0 := gr_I eS17 g0
      have o_a3 := ob_I eS17 o_a3
      have o_v0 := ob_I eS17 o_v0
      intro _
      exact hq _ _ hI g0 f0
    · refine ⟨a3, ea3, ?_⟩
      refine ⟨o_a3, ?_⟩
      intro x21 ex21
      have r_x21 : (0 : Int32) ≤ x21 ∧ x21 ≤ (4 : Int32) := by rw [ex21]; exact nu 20 rfl hI o_a3
      have d_x21 := ex21
      refine ⟨fun c22 => ?_, fun c22 => ?_⟩
      · intro _ _
        refine ⟨fun c24 => ?_, fun c24 => absurd (show ¬ (0 : Int32) = 0 from c24) (by decide)⟩
        refine u_X11_walker_23 ?_
        refine ⟨o_v0, ?_⟩
        refine u_X11_refused ?_
        refine u_X11_refused_0 ?_
        refine ⟨o_v0, ?_⟩
        intro S25 eS25
        have hIn : IV S25 := by rw [eS25]; exact iv11_sI hI o_v0 (by decide) (nu_free (by decide))
        have hI := hIn
        have f0 := fr_I eS25 g0 f0 o_v0 (by decide)
        have d_kv2 := rd_Ij eS25 (by decide) d_kv2
        have d_x21 := rd_Ik eS25 o_v0 o_a3 (by decide) d_x21
        obtain ⟨kv26, hkv26⟩ : ∃ z : Int32, z = (1 : Int32) := ⟨_, rfl⟩
        have d_kv26 := rd_Is eS25 hkv26
        have ea3 := rf_I eS25 ea3
        have g0 := gr_I eS25 g0
        have o_a3 := ob_I eS25 o_a3
        have o_v0 := ob_I eS25 o_v0
        intro S27 eS27
        have hIn : IV S27 := by rw [eS27]; exact iv11_sI hI o_v0 (by decide) (nu_free (by decide))
        have hI := hIn
        have f0 := fr_I eS27 g0 f0 o_v0 (by decide)
        have d_kv2 := rd_Ij eS27 (by decide) d_kv2
        have d_x21 := rd_Ik eS27 o_v0 o_a3 (by decide) d_x21
        have d_kv26 := rd_Ij eS27 (by decide) d_kv26
        obtain ⟨kv28, hkv28⟩ : ∃ z : Int32, z = (-1 : Int32) := ⟨_, rfl⟩
        have d_kv28 := rd_Is eS27 hkv28
        have ea3 := rf_I eS27 ea3
        have g0 := gr_I eS27 g0
        have o_a3 := ob_I eS27 o_a3
        have o_v0 := ob_I eS27 o_v0
        intro _
        exact hq _ _ hI g0 f0
      · intro _ _
        refine ⟨fun c31 => absurd (show (1 : Int32) = 0 from c31) (by decide), fun c31 => ?_⟩
        refine u_X11_in ?_
        refine u_X11_in_0 ?_
        refine ⟨fun c32 => ?_, fun c32 => ?_⟩
        · intro _ _
          refine ⟨fun c34 => absurd (show ¬ (0 : Int32) = 0 from c34) (by decide), fun c34 => ?_⟩
          refine u_X11_walker_23 ?_
          refine ⟨o_v0, ?_⟩
          refine u_X11_refused ?_
          refine u_X11_refused_0 ?_
          refine ⟨o_v0, ?_⟩
          intro S35 eS35
          have hIn : IV S35 := by rw [eS35]; exact iv11_sI hI o_v0 (by decide) (nu_free (by decide))
          have hI := hIn
          have f0 := fr_I eS35 g0 f0 o_v0 (by decide)
          have d_kv2 := rd_Ij eS35 (by decide) d_kv2
          have d_x21 := rd_Ik eS35 o_v0 o_a3 (by decide) d_x21
          obtain ⟨kv36, hkv36⟩ : ∃ z : Int32, z = (1 : Int32) := ⟨_, rfl⟩
          have d_kv36 := rd_Is eS35 hkv36
          have ea3 := rf_I eS35 ea3
          have g0 := gr_I eS35 g0
          have o_a3 := ob_I eS35 o_a3
          have o_v0 := ob_I eS35 o_v0
          intro S37 eS37
          have hIn : IV S37 := by rw [eS37]; exact iv11_sI hI o_v0 (by decide) (nu_free (by decide))
          have hI := hIn
          have f0 := fr_I eS37 g0 f0 o_v0 (by decide)
          have d_kv2 := rd_Ij eS37 (by decide) d_kv2
          have d_x21 := rd_Ik eS37 o_v0 o_a3 (by decide) d_x21
          have d_kv36 := rd_Ij eS37 (by decide) d_kv36
          obtain ⟨kv38, hkv38⟩ : ∃ z : Int32, z = (-1 : Int32) := ⟨_, rfl⟩
          have d_kv38 := rd_Is eS37 hkv38
          have ea3 := rf_I eS37 ea3
          have g0 := gr_I eS37 g0
          have o_a3 := ob_I eS37 o_a3
          have o_v0 := ob_I eS37 o_v0
          intro _
          exact hq _ _ hI g0 f0
        · refine ⟨fun c40 => ?_, fun c40 => ?_⟩
          · intro _ _
            refine ⟨fun c42 => absurd (show ¬ (0 : Int32) = 0 from c42) (by decide), fun c42 => ?_⟩
            refine u_X11_walker_23 ?_
            refine ⟨o_v0, ?_⟩
            refine u_X11_refused ?_
            refine u_X11_refused_0 ?_
            refine ⟨o_v0, ?_⟩
            intro S43 eS43
            have hIn : IV S43 := by rw [eS43]; exact iv11_sI hI o_v0 (by decide) (nu_free (by decide))
            have hI := hIn
            have f0 := fr_I eS43 g0 f0 o_v0 (by decide)
            have d_kv2 := rd_Ij eS43 (by decide) d_kv2
            have d_x21 := rd_Ik eS43 o_v0 o_a3 (by decide) d_x21
            obtain ⟨kv44, hkv44⟩ : ∃ z : Int32, z = (1 : Int32) := ⟨_, rfl⟩
            have d_kv44 := rd_Is eS43 hkv44
            have ea3 := rf_I eS43 ea3
            have g0 := gr_I eS43 g0
            have o_a3 := ob_I eS43 o_a3
            have o_v0 := ob_I eS43 o_v0
            intro S45 eS45
            have hIn : IV S45 := by rw [eS45]; exact iv11_sI hI o_v0 (by decide) (nu_free (by decide))
            have hI := hIn
            have f0 := fr_I eS45 g0 f0 o_v0 (by decide)
            have d_kv2 := rd_Ij eS45 (by decide) d_kv2
            have d_x21 := rd_Ik eS45 o_v0 o_a3 (by decide) d_x21
            have d_kv44 := rd_Ij eS45 (by decide) d_kv44
            obtain ⟨kv46, hkv46⟩ : ∃ z : Int32, z = (-1 : Int32) := ⟨_, rfl⟩
            have d_kv46 := rd_Is eS45 hkv46
            have ea3 := rf_I eS45 ea3
            have g0 := gr_I eS45 g0
            have o_a3 := ob_I eS45 o_a3
            have o_v0 := ob_I eS45 o_v0
            intro _
            exact hq _ _ hI g0 f0
          · intro _ _
            refine ⟨fun c49 => ?_, fun c49 => absurd (show (1 : Int32) = 0 from c49) (by decide)⟩
            refine ⟨fun c50 => ?_, fun c50 => ?_, fun c50 => ?_, fun c50 => ?_, fun c50 => ?_, fun c50 => ?_, fun c50 => ?_⟩
            · refine ⟨a3, ea3, ?_⟩
              refine ⟨o_a3, ?_⟩
              obtain ⟨a52, ea52, o_a52, l_a52⟩ := shl 47 rfl hI o_a3
              refine ⟨a52, ea52, ?_⟩
              refine ⟨o_a52, ?_⟩
              refine ⟨(vin l_a52 (m := 4) (by decide) (qm539 c12 r_x21 c22 c32 c40)), ?_⟩
              intro x53 ex53
              refine u_X11_good ?_
              refine u_X11_good_0 ?_
              refine ⟨o_v0, ?_⟩
              intro S54 eS54
              have hIn : IV S54 := by rw [eS54]; exact iv11_sI hI o_v0 (by decide) (nu_free (by decide))
              have hI := hIn
              have f0 := fr_I eS54 g0 f0 o_v0 (by decide)
              have d_kv2 := rd_Ij eS54 (by decide) d_kv2
              have d_x21 := rd_Ik eS54 o_v0 o_a3 (by decide) d_x21
              obtain ⟨kv55, hkv55⟩ : ∃ z : Int32, z = (0 : Int32) := ⟨_, rfl⟩
              have d_kv55 := rd_Is eS54 hkv55
              have ea3 := rf_I eS54 ea3
              have ea52 := rf_I eS54 ea52
              have l_a52 := ln_I eS54 l_a52
              have g0 := gr_I eS54 g0
              have o_a3 := ob_I eS54 o_a3
              have o_a52 := ob_I eS54 o_a52
              have o_v0 := ob_I eS54 o_v0
              intro S56 eS56
              have hIn : IV S56 := by rw [eS56]; exact iv11_sI hI o_v0 (by decide) (nu_free (by decide))
              have hI := hIn
              have f0 := fr_I eS56 g0 f0 o_v0 (by decide)
              have d_kv2 := rd_Ij eS56 (by decide) d_kv2
              have d_x21 := rd_Ik eS56 o_v0 o_a3 (by decide) d_x21
              have d_kv55 := rd_Ij eS56 (by decide) d_kv55
              obtain ⟨kv57, hkv57⟩ : ∃ z : Int32, z = (-1 : Int32) := ⟨_, rfl⟩
              have d_kv57 := rd_Is eS56 hkv57
              have ea3 := rf_I eS56 ea3
              have ea52 := rf_I eS56 ea52
              have l_a52 := ln_I eS56 l_a52
              have g0 := gr_I eS56 g0
              have o_a3 := ob_I eS56 o_a3
              have o_a52 := ob_I eS56 o_a52
              have o_v0 := ob_I eS56 o_v0
              intro _
              exact hq _ _ hI g0 f0
            · refine ⟨a3, ea3, ?_⟩
              refine ⟨o_a3, ?_⟩
              obtain ⟨a60, ea60, o_a60, l_a60⟩ := shl 41 rfl hI o_a3
              refine ⟨a60, ea60, ?_⟩
              refine ⟨o_a60, ?_⟩
              refine ⟨(vin l_a60 (m := 4) (by decide) (qm539 c12 r_x21 c22 c32 c40)), ?_⟩
              intro x61 ex61
              refine u_X11_good ?_
              refine u_X11_good_0 ?_
              refine ⟨o_v0, ?_⟩
              intro S62 eS62
              have hIn : IV S62 := by rw [eS62]; exact iv11_sI hI o_v0 (by decide) (nu_free (by decide))
              have hI := hIn
              have f0 := fr_I eS62 g0 f0 o_v0 (by decide)
              have d_kv2 := rd_Ij eS62 (by decide) d_kv2
              have d_x21 := rd_Ik eS62 o_v0 o_a3 (by decide) d_x21
              obtain ⟨kv63, hkv63⟩ : ∃ z : Int32, z = (0 : Int32) := ⟨_, rfl⟩
              have d_kv63 := rd_Is eS62 hkv63
              have ea3 := rf_I eS62 ea3
              have ea60 := rf_I eS62 ea60
              have l_a60 := ln_I eS62 l_a60
              have g0 := gr_I eS62 g0
              have o_a3 := ob_I eS62 o_a3
              have o_a60 := ob_I eS62 o_a60
              have o_v0 := ob_I eS62 o_v0
              intro S64 eS64
              have hIn : IV S64 := by rw [eS64]; exact iv11_sI hI o_v0 (by decide) (nu_free (by decide))
              have hI := hIn
              have f0 := fr_I eS64 g0 f0 o_v0 (by decide)
              have d_kv2 := rd_Ij eS64 (by decide) d_kv2
              have d_x21 := rd_Ik eS64 o_v0 o_a3 (by decide) d_x21
              have d_kv63 := rd_Ij eS64 (by decide) d_kv63
              obtain ⟨kv65, hkv65⟩ : ∃ z : Int32, z = (-1 : Int32) := ⟨_, rfl⟩
              have d_kv65 := rd_Is eS64 hkv65
              have ea3 := rf_I eS64 ea3
              have ea60 := rf_I eS64 ea60
              have l_a60 := ln_I eS64 l_a60
              have g0 := gr_I eS64 g0
              have o_a3 := ob_I eS64 o_a3
              have o_a60 := ob_I eS64 o_a60
              have o_v0 := ob_I eS64 o_v0
              intro _
              exact hq _ _ hI g0 f0
            · refine ⟨a3, ea3, ?_⟩
              refine ⟨o_a3, ?_⟩
              obtain ⟨a68, ea68, o_a68, l_a68⟩ := shl 42 rfl hI o_a3
              refine ⟨a68, ea68, ?_⟩
              refine ⟨o_a68, ?_⟩
              refine ⟨(vin l_a68 (m := 4) (by decide) (qm539 c12 r_x21 c22 c32 c40)), ?_⟩
              intro x69 ex69
              refine u_X11_good ?_
              refine u_X11_good_0 ?_
              refine ⟨o_v0, ?_⟩
              intro S70 eS70
              have hIn : IV S70 := by rw [eS70]; exact iv11_sI hI o_v0 (by decide) (nu_free (by decide))
              have hI := hIn
              have f0 := fr_I eS70 g0 f0 o_v0 (by decide)
              have d_kv2 := rd_Ij eS70 (by decide) d_kv2
              have d_x21 := rd_Ik eS70 o_v0 o_a3 (by decide) d_x21
              obtain ⟨kv71, hkv71⟩ : ∃ z : Int32, z = (0 : Int32) := ⟨_, rfl⟩
              have d_kv71 := rd_Is eS70 hkv71
              have ea3 := rf_I eS70 ea3
              have ea68 := rf_I eS70 ea68
              have l_a68 := ln_I eS70 l_a68
              have g0 := gr_I eS70 g0
              have o_a3 := ob_I eS70 o_a3
              have o_a68 := ob_I eS70 o_a68
              have o_v0 := ob_I eS70 o_v0
              intro S72 eS72
              have hIn : IV S72 := by rw [eS72]; exact iv11_sI hI o_v0 (by decide) (nu_free (by decide))
              have hI := hIn
              have f0 := fr_I eS72 g0 f0 o_v0 (by decide)
              have d_kv2 := rd_Ij eS72 (by decide) d_kv2
              have d_x21 := rd_Ik eS72 o_v0 o_a3 (by decide) d_x21
              have d_kv71 := rd_Ij eS72 (by decide) d_kv71
              obtain ⟨kv73, hkv73⟩ : ∃ z : Int32, z = (-1 : Int32) := ⟨_, rfl⟩
              have d_kv73 := rd_Is eS72 hkv73
              have ea3 := rf_I eS72 ea3
              have ea68 := rf_I eS72 ea68
              have l_a68 := ln_I eS72 l_a68
              have g0 := gr_I eS72 g0
              have o_a3 := ob_I eS72 o_a3
              have o_a68 := ob_I eS72 o_a68
              have o_v0 := ob_I eS72 o_v0
              intro _
              exact hq _ _ hI g0 f0
            · refine ⟨a3, ea3, ?_⟩
              refine ⟨o_a3, ?_⟩
              obtain ⟨a76, ea76, o_a76, l_a76⟩ := shl 43 rfl hI o_a3
              refine ⟨a76, ea76, ?_⟩
              refine ⟨o_a76, ?_⟩
              refine ⟨(vin l_a76 (m := 4) (by decide) (qm539 c12 r_x21 c22 c32 c40)), ?_⟩
              intro x77 ex77
              refine u_X11_good ?_
              refine u_X11_good_0 ?_
              refine ⟨o_v0, ?_⟩
              intro S78 eS78
              have hIn : IV S78 := by rw [eS78]; exact iv11_sI hI o_v0 (by decide) (nu_free (by decide))
              have hI := hIn
              have f0 := fr_I eS78 g0 f0 o_v0 (by decide)
              have d_kv2 := rd_Ij eS78 (by decide) d_kv2
              have d_x21 := rd_Ik eS78 o_v0 o_a3 (by decide) d_x21
              obtain ⟨kv79, hkv79⟩ : ∃ z : Int32, z = (0 : Int32) := ⟨_, rfl⟩
              have d_kv79 := rd_Is eS78 hkv79
              have ea3 := rf_I eS78 ea3
              have ea76 := rf_I eS78 ea76
              have l_a76 := ln_I eS78 l_a76
              have g0 := gr_I eS78 g0
              have o_a3 := ob_I eS78 o_a3
              have o_a76 := ob_I eS78 o_a76
              have o_v0 := ob_I eS78 o_v0
              intro S80 eS80
              have hIn : IV S80 := by rw [eS80]; exact iv11_sI hI o_v0 (by decide) (nu_free (by decide))
              have hI := hIn
              have f0 := fr_I eS80 g0 f0 o_v0 (by decide)
              have d_kv2 := rd_Ij eS80 (by decide) d_kv2
              have d_x21 := rd_Ik eS80 o_v0 o_a3 (by decide) d_x21
              have d_kv79 := rd_Ij eS80 (by decide) d_kv79
              obtain ⟨kv81, hkv81⟩ : ∃ z : Int32, z = (-1 : Int32) := ⟨_, rfl⟩
              have d_kv81 := rd_Is eS80 hkv81
              have ea3 := rf_I eS80 ea3
              have ea76 := rf_I eS80 ea76
              have l_a76 := ln_I eS80 l_a76
              have g0 := gr_I eS80 g0
              have o_a3 := ob_I eS80 o_a3
              have o_a76 := ob_I eS80 o_a76
              have o_v0 := ob_I eS80 o_v0
              intro _
              exact hq _ _ hI g0 f0
            · refine ⟨a3, ea3, ?_⟩
              refine ⟨o_a3, ?_⟩
              obtain ⟨a84, ea84, o_a84, l_a84⟩ := shl 44 rfl hI o_a3
              refine ⟨a84, ea84, ?_⟩
              refine ⟨o_a84, ?_⟩
              refine ⟨(vin l_a84 (m := 4) (by decide) (qm539 c12 r_x21 c22 c32 c40)), ?_⟩
              intro x85 ex85
              refine u_X11_good ?_
              refine u_X11_good_0 ?_
              refine ⟨o_v0, ?_⟩
              intro S86 eS86
              have hIn : IV S86 := by rw [eS86]; exact iv11_sI hI o_v0 (by decide) (nu_free (by decide))
              have hI := hIn
              have f0 := fr_I eS86 g0 f0 o_v0 (by decide)
              have d_kv2 := rd_Ij eS86 (by decide) d_kv2
              have d_x21 := rd_Ik eS86 o_v0 o_a3 (by decide) d_x21
              obtain ⟨kv87, hkv87⟩ : ∃ z : Int32, z = (0 : Int32) := ⟨_, rfl⟩
              have d_kv87 := rd_Is eS86 hkv87
              have ea3 := rf_I eS86 ea3
              have ea84 := rf_I eS86 ea84
              have l_a84 := ln_I eS86 l_a84
              have g0 := gr_I eS86 g0
              have o_a3 := ob_I eS86 o_a3
              have o_a84 := ob_I eS86 o_a84
              have o_v0 := ob_I eS86 o_v0
              intro S88 eS88
              have hIn : IV S88 := by rw [eS88]; exact iv11_sI hI o_v0 (by decide) (nu_free (by decide))
              have hI := hIn
              have f0 := fr_I eS88 g0 f0 o_v0 (by decide)
              have d_kv2 := rd_Ij eS88 (by decide) d_kv2
              have d_x21 := rd_Ik eS88 o_v0 o_a3 (by decide) d_x21
              have d_kv87 := rd_Ij eS88 (by decide) d_kv87
              obtain ⟨kv89, hkv89⟩ : ∃ z : Int32, z = (-1 : Int32) := ⟨_, rfl⟩
              have d_kv89 := rd_Is eS88 hkv89
              have ea3 := rf_I eS88 ea3
              have ea84 := rf_I eS88 ea84
              have l_a84 := ln_I eS88 l_a84
              have g0 := gr_I eS88 g0
              have o_a3 := ob_I eS88 o_a3
              have o_a84 := ob_I eS88 o_a84
              have o_v0 := ob_I eS88 o_v0
              intro _
              exact hq _ _ hI g0 f0
            · refine ⟨a3, ea3, ?_⟩
              refine ⟨o_a3, ?_⟩
              obtain ⟨a92, ea92, o_a92, l_a92⟩ := shl 45 rfl hI o_a3
              refine ⟨a92, ea92, ?_⟩
              refine ⟨o_a92, ?_⟩
              refine ⟨(vin l_a92 (m := 4) (by decide) (qm539 c12 r_x21 c22 c32 c40)), ?_⟩
              intro x93 ex93
              refine u_X11_good ?_
              refine u_X11_good_0 ?_
              refine ⟨o_v0, ?_⟩
              intro S94 eS94
              have hIn : IV S94 := by rw [eS94]; exact iv11_sI hI o_v0 (by decide) (nu_free (by decide))
              have hI := hIn
              have f0 := fr_I eS94 g0 f0 o_v0 (by decide)
              have d_kv2 := rd_Ij eS94 (by decide) d_kv2
              have d_x21 := rd_Ik eS94 o_v0 o_a3 (by decide) d_x21
              obtain ⟨kv95, hkv95⟩ : ∃ z : Int32, z = (0 : Int32) := ⟨_, rfl⟩
              have d_kv95 := rd_Is eS94 hkv95
              have ea3 := rf_I eS94 ea3
              have ea92 := rf_I eS94 ea92
              have l_a92 := ln_I eS94 l_a92
              have g0 := gr_I eS94 g0
              have o_a3 := ob_I eS94 o_a3
              have o_a92 := ob_I eS94 o_a92
              have o_v0 := ob_I eS94 o_v0
              intro S96 eS96
              have hIn : IV S96 := by rw [eS96]; exact iv11_sI hI o_v0 (by decide) (nu_free (by decide))
              have hI := hIn
              have f0 := fr_I eS96 g0 f0 o_v0 (by decide)
              have d_kv2 := rd_Ij eS96 (by decide) d_kv2
              have d_x21 := rd_Ik eS96 o_v0 o_a3 (by decide) d_x21
              have d_kv95 := rd_Ij eS96 (by decide) d_kv95
              obtain ⟨kv97, hkv97⟩ : ∃ z : Int32, z = (-1 : Int32) := ⟨_, rfl⟩
              have d_kv97 := rd_Is eS96 hkv97
              have ea3 := rf_I eS96 ea3
              have ea92 := rf_I eS96 ea92
              have l_a92 := ln_I eS96 l_a92
              have g0 := gr_I eS96 g0
              have o_a3 := ob_I eS96 o_a3
              have o_a92 := ob_I eS96 o_a92
              have o_v0 := ob_I eS96 o_v0
              intro _
              exact hq _ _ hI g0 f0
            · refine ⟨a3, ea3, ?_⟩
              refine ⟨o_a3, ?_⟩
              obtain ⟨a100, ea100, o_a100, l_a100⟩ := shl 46 rfl hI o_a3
              refine ⟨a100, ea100, ?_⟩
              refine ⟨o_a100, ?_⟩
              refine ⟨(vin l_a100 (m := 4) (by decide) (qm539 c12 r_x21 c22 c32 c40)), ?_⟩
              intro x101 ex101
              refine u_X11_good ?_
              refine u_X11_good_0 ?_
              refine ⟨o_v0, ?_⟩
              intro S102 eS102
              have hIn : IV S102 := by rw [eS102]; exact iv11_sI hI o_v0 (by decide) (nu_free (by decide))
              have hI := hIn
              have f0 := fr_I eS102 g0 f0 o_v0 (by decide)
              have d_kv2 := rd_Ij eS102 (by decide) d_kv2
              have d_x21 := rd_Ik eS102 o_v0 o_a3 (by decide) d_x21
              obtain ⟨kv103, hkv103⟩ : ∃ z : Int32, z = (0 : Int32) := ⟨_, rfl⟩
              have d_kv103 := rd_Is eS102 hkv103
              have ea3 := rf_I eS102 ea3
              have ea100 := rf_I eS102 ea100
              have l_a100 := ln_I eS102 l_a100
              have g0 := gr_I eS102 g0
              have o_a100 := ob_I eS102 o_a100
              have o_a3 := ob_I eS102 o_a3
              have o_v0 := ob_I eS102 o_v0
              intro S104 eS104
              have hIn : IV S104 := by rw [eS104]; exact iv11_sI hI o_v0 (by decide) (nu_free (by decide))
              have hI := hIn
              have f0 := fr_I eS104 g0 f0 o_v0 (by decide)
              have d_kv2 := rd_Ij eS104 (by decide) d_kv2
              have d_x21 := rd_Ik eS104 o_v0 o_a3 (by decide) d_x21
              have d_kv103 := rd_Ij eS104 (by decide) d_kv103
              obtain ⟨kv105, hkv105⟩ : ∃ z : Int32, z = (-1 : Int32) := ⟨_, rfl⟩
              have d_kv105 := rd_Is eS104 hkv105
              have ea3 := rf_I eS104 ea3
              have ea100 := rf_I eS104 ea100
              have l_a100 := ln_I eS104 l_a100
              have g0 := gr_I eS104 g0
              have o_a100 := ob_I eS104 o_a100
              have o_a3 := ob_I eS104 o_a3
              have o_v0 := ob_I eS104 o_v0
              intro _
              exact hq _ _ hI g0 f0
set_option maxHeartbeats 4000000 in
set_option maxRecDepth 20000 in
theorem m_X11_wet {v0 : Nat} {v1 : Int32} {v2 : Int32} {v3 : Int32} {v4 : Int32} {v5 : Int32} {v6 : Int32} {Q : Int64 → HS → Prop} {S : HS} (hI : IV S) (o_v0 : ob S v0 11)     (hq : ∀ (r : Int64) (T : HS), IV T → Gr S T → FRI [(11, 0), (11, 1), (11, 2)] [] S T → Q r T) : P_X11_wet v0 v1 v2 v3 v4 v5 v6 Q S := by
  have g0 := gr_rf S
  have f0 := fri_rf [(11, 0), (11, 1), (11, 2)] [] S
  refine u_X11_wet ?_
  refine u_X11_wet_0 ?_
  refine ⟨o_v0, ?_⟩
  intro S1 eS1
  have hIn : IV S1 := by rw [eS1]; exact iv11_sI hI o_v0 (by decide) (nu_free (by decide))
  have hI := hIn
  have f0 := fr_I eS1 g0 f0 o_v0 (by decide)
  obtain ⟨kv2, hkv2⟩ : ∃ z : Int32, z = (0 : Int32) := ⟨_, rfl⟩
  have d_kv2 := rd_Is eS1 hkv2
  have g0 := gr_I eS1 g0
  have o_v0 := ob_I eS1 o_v0
  refine u_X11_refuses ?_
  refine u_X11_refuses_0 ?_
  refine ⟨o_v0, ?_⟩
  refine u_X11_isWalker ?_
  refine u_X11_isWalker_0 ?_
  refine ⟨o_v0, ?_⟩
  refine ⟨fun e4 => ?_, fun a3 ea3 => ?_⟩
  · intro _ _
    refine ⟨fun c6 => ?_, fun c6 => absurd (show ¬ (0 : Int32) = 0 from c6) (by decide)⟩
    intro _
    refine ⟨fun c8 => absurd (show (1 : Int32) ≤ 0 from c8) (by decide), fun c8 => ?_⟩
    refine u_X11_refused ?_
    refine u_X11_refused_0 ?_
    refine ⟨o_v0, ?_⟩
    intro S9 eS9
    have hIn : IV S9 := by rw [eS9]; exact iv11_sI hI o_v0 (by decide) (nu_free (by decide))
    have hI := hIn
    have f0 := fr_I eS9 g0 f0 o_v0 (by decide)
    have d_kv2 := rd_Ij eS9 (by decide) d_kv2
    obtain ⟨kv10, hkv10⟩ : ∃ z : Int32, z = (1 : Int32) := ⟨_, rfl⟩
    have d_kv10 := rd_Is eS9 hkv10
    have g0 := gr_I eS9 g0
    have o_v0 := ob_I eS9 o_v0
    intro S11 eS11
    have hIn : IV S11 := by rw [eS11]; exact iv11_sI hI o_v0 (by decide) (nu_free (by decide))
    have hI := hIn
    have f0 := fr_I eS11 g0 f0 o_v0 (by decide)
    have d_kv2 := rd_Ij eS11 (by decide) d_kv2
    have d_kv10 := rd_Ij eS11 (by decide) d_kv10
    obtain ⟨kv12, hkv12⟩ : ∃ z : Int32, z = (-1 : Int32) := ⟨_, rfl⟩
    have d_kv12 := rd_Is eS11 hkv12
    have g0 := gr_I eS11 g0
    have o_v0 := ob_I eS11 o_v0
    intro _
    exact hq _ _ hI g0 f0
  · have o_a3 := ml_ob hI o_v0 ea3
    refine ⟨fun c14 => ?_, fun c14 => ?_⟩
    · intro _ _
      refine ⟨fun c16 => ?_, fun c16 => absurd (show ¬ (0 : Int32) = 0 from c16) (by decide)⟩
      intro _
      refine ⟨fun c18 => absurd (show (1 : Int32) ≤ 0 from c18) (by decide), fun c18 => ?_⟩
      refine u_X11_refused ?_
      refine u_X11_refused_0 ?_
      refine ⟨o_v0, ?_⟩
      intro S19 eS19
      have hIn : IV S19 := by rw [eS19]; exact iv11_sI hI o_v0 (by decide) (nu_free (by decide))
      have hI := hIn
      have f0 := fr_I eS19 g0 f0 o_v0 (by decide)
      have d_kv2 := rd_Ij eS19 (by decide) d_kv2
      obtain ⟨kv20, hkv20⟩ : ∃ z : Int32, z = (1 : Int32) := ⟨_, rfl⟩
      have d_kv20 := rd_Is eS19 hkv20
      have ea3 := rf_I eS19 ea3
      have g0 := gr_I eS19 g0
      have o_a3 := ob_I eS19 o_a3
      have o_v0 := ob_I eS19 o_v0
      intro S21 eS21
      have hIn : IV S21 := by rw [eS21]; exact iv11_sI hI o_v0 (by decide) (nu_free (by decide))
      have hI := hIn
      have f0 := fr_I eS21 g0 f0 o_v0 (by decide)
      have d_kv2 := rd_Ij eS21 (by decide) d_kv2
      have d_kv20 := rd_Ij eS21 (by decide) d_kv20
      obtain ⟨kv22, hkv22⟩ : ∃ z : Int32, z = (-1 : Int32) := ⟨_, rfl⟩
      have d_kv22 := rd_Is eS21 hkv22
      have ea3 := rf_I eS21 ea3
      have g0 := gr_I eS21 g0
      have o_a3 := ob_I eS21 o_a3
      have o_v0 := ob_I eS21 o_v0
      intro _
      exact hq _ _ hI g0 f0
    · refine ⟨a3, ea3, ?_⟩
      refine ⟨o_a3, ?_⟩
      intro x25 ex25
      have r_x25 : (0 : Int32) ≤ x25 ∧ x25 ≤ (4 : Int32) := by rw [ex25]; exact nu 20 rfl hI o_a3
      have d_x25 := ex25
      refine ⟨fun c26 => ?_, fun c26 => ?_⟩
      · intro _ _
        refine ⟨fun c28 => ?_, fun c28 => absurd (show ¬ (0 : Int32) = 0 from c28) (by decide)⟩
        intro _
        refine ⟨fun c30 => absurd (show (1 : Int32) ≤ 0 from c30) (by decide), fun c30 => ?_⟩
        refine u_X11_refused ?_
        refine u_X11_refused_0 ?_
        refine ⟨o_v0, ?_⟩
        intro S31 eS31
        have hIn : IV S31 := by rw [eS31]; exact iv11_sI hI o_v0 (by decide) (nu_free (by decide))
        have hI := hIn
        have f0 := fr_I eS31 g0 f0 o_v0 (by decide)
        have d_kv2 := rd_Ij eS31 (by decide) d_kv2
        have d_x25 := rd_Ik eS31 o_v0 o_a3 (by decide) d_x25
        obtain ⟨kv32, hkv32⟩ : ∃ z : Int32, z = (1 : Int32) := ⟨_, rfl⟩
        have d_kv32 := rd_Is eS31 hkv32
        have ea3 := rf_I eS31 ea3
        have g0 := gr_I eS31 g0
        have o_a3 := ob_I eS31 o_a3
        have o_v0 := ob_I eS31 o_v0
        intro S33 eS33
        have hIn : IV S33 := by rw [eS33]; exact iv11_sI hI o_v0 (by decide) (nu_free (by decide))
        have hI := hIn
        have f0 := fr_I eS33 g0 f0 o_v0 (by decide)
        have d_kv2 := rd_Ij eS33 (by decide) d_kv2
        have d_x25 := rd_Ik eS33 o_v0 o_a3 (by decide) d_x25
        have d_kv32 := rd_Ij eS33 (by decide) d_kv32
        obtain ⟨kv34, hkv34⟩ : ∃ z : Int32, z = (-1 : Int32) := ⟨_, rfl⟩
        have d_kv34 := rd_Is eS33 hkv34
        have ea3 := rf_I eS33 ea3
        have g0 := gr_I eS33 g0
        have o_a3 := ob_I eS33 o_a3
        have o_v0 := ob_I eS33 o_v0
        intro _
        exact hq _ _ hI g0 f0
      · intro _ _
        refine ⟨fun c37 => absurd (show (1 : Int32) = 0 from c37) (by decide), fun c37 => ?_⟩
        refine u_X11_isRoad ?_
        refine u_X11_isRoad_0 ?_
        refine ⟨o_v0, ?_⟩
        refine ⟨fun e39 => (nomatch (e39.symm.trans ea3)), fun a38 ea38 => ?_⟩
        obtain rfl : a3 = a38 := Option.some.inj (ea3.symm.trans ea38)
        refine ⟨fun c40 => ?_, fun c40 => ?_⟩
        · intro _ _
          refine ⟨fun c42 => ?_, fun c42 => absurd (show ¬ (0 : Int32) = 0 from c42) (by decide)⟩
          intro _
          refine ⟨fun c44 => absurd (show (1 : Int32) ≤ 0 from c44) (by decide), fun c44 => ?_⟩
          refine u_X11_refused ?_
          refine u_X11_refused_0 ?_
          refine ⟨o_v0, ?_⟩
          intro S45 eS45
          have hIn : IV S45 := by rw [eS45]; exact iv11_sI hI o_v0 (by decide) (nu_free (by decide))
          have hI := hIn
          have f0 := fr_I eS45 g0 f0 o_v0 (by decide)
          have d_kv2 := rd_Ij eS45 (by decide) d_kv2
          have d_x25 := rd_Ik eS45 o_v0 o_a3 (by decide) d_x25
          obtain ⟨kv46, hkv46⟩ : ∃ z : Int32, z = (1 : Int32) := ⟨_, rfl⟩
          have d_kv46 := rd_Is eS45 hkv46
          have ea3 := rf_I eS45 ea3
          have g0 := gr_I eS45 g0
          have o_a3 := ob_I eS45 o_a3
          have o_v0 := ob_I eS45 o_v0
          intro S47 eS47
          have hIn : IV S47 := by rw [eS47]; exact iv11_sI hI o_v0 (by decide) (nu_free (by decide))
          have hI := hIn
          have f0 := fr_I eS47 g0 f0 o_v0 (by decide)
          have d_kv2 := rd_Ij eS47 (by decide) d_kv2
          have d_x25 := rd_Ik eS47 o_v0 o_a3 (by decide) d_x25
          have d_kv46 := rd_Ij eS47 (by decide) d_kv46
          obtain ⟨kv48, hkv48⟩ : ∃ z : Int32, z = (-1 : Int32) := ⟨_, rfl⟩
          have d_kv48 := rd_Is eS47 hkv48
          have ea3 := rf_I eS47 ea3
          have g0 := gr_I eS47 g0
          have o_a3 := ob_I eS47 o_a3
          have o_v0 := ob_I eS47 o_v0
          intro _
          exact hq _ _ hI g0 f0
        · refine ⟨a3, ea3, ?_⟩
          refine ⟨o_a3, ?_⟩
          intro x51 ex51
          have r_x51 : (0 : Int32) ≤ x51 ∧ x51 ≤ (12 : Int32) := by rw [ex51]; exact nu 19 rfl hI o_a3
          have d_x51 := ex51
          refine ⟨fun c52 => ?_, fun c52 => ?_⟩
          · intro _ _
            refine ⟨fun c54 => ?_, fun c54 => absurd (show ¬ (0 : Int32) = 0 from c54) (by decide)⟩
            intro _
            refine ⟨fun c56 => absurd (show (1 : Int32) ≤ 0 from c56) (by decide), fun c56 => ?_⟩
            refine u_X11_refused ?_
            refine u_X11_refused_0 ?_
            refine ⟨o_v0, ?_⟩
            intro S57 eS57
            have hIn : IV S57 := by rw [eS57]; exact iv11_sI hI o_v0 (by decide) (nu_free (by decide))
            have hI := hIn
            have f0 := fr_I eS57 g0 f0 o_v0 (by decide)
            have d_kv2 := rd_Ij eS57 (by decide) d_kv2
            have d_x25 := rd_Ik eS57 o_v0 o_a3 (by decide) d_x25
            have d_x51 := rd_Ik eS57 o_v0 o_a3 (by decide) d_x51
            obtain ⟨kv58, hkv58⟩ : ∃ z : Int32, z = (1 : Int32) := ⟨_, rfl⟩
            have d_kv58 := rd_Is eS57 hkv58
            have ea3 := rf_I eS57 ea3
            have g0 := gr_I eS57 g0
            have o_a3 := ob_I eS57 o_a3
            have o_v0 := ob_I eS57 o_v0
            intro S59 eS59
            have hIn : IV S59 := by rw [eS59]; exact iv11_sI hI o_v0 (by decide) (nu_free (by decide))
            have hI := hIn
            have f0 := fr_I eS59 g0 f0 o_v0 (by decide)
            have d_kv2 := rd_Ij eS59 (by decide) d_kv2
            have d_x25 := rd_Ik eS59 o_v0 o_a3 (by decide) d_x25
            have d_x51 := rd_Ik eS59 o_v0 o_a3 (by decide) d_x51
            have d_kv58 := rd_Ij eS59 (by decide) d_kv58
            obtain ⟨kv60, hkv60⟩ : ∃ z : Int32, z = (-1 : Int32) := ⟨_, rfl⟩
            have d_kv60 := rd_Is eS59 hkv60
            have ea3 := rf_I eS59 ea3
            have g0 := gr_I eS59 g0
            have o_a3 := ob_I eS59 o_a3
            have o_v0 := ob_I eS59 o_v0
            intro _
            exact hq _ _ hI g0 f0
          · intro _ _
            refine ⟨fun c63 => absurd (show (1 : Int32) = 0 from c63) (by decide), fun c63 => ?_⟩
            refine u_X11_in ?_
            refine u_X11_in_0 ?_
            refine ⟨fun c64 => ?_, fun c64 => ?_⟩
            · intro _ _
              refine ⟨fun c66 => ?_, fun c66 => absurd (show ¬ (0 : Int32) = 0 from c66) (by decide)⟩
              intro _
              refine ⟨fun c68 => absurd (show (1 : Int32) ≤ 0 from c68) (by decide), fun c68 => ?_⟩
              refine u_X11_refused ?_
              refine u_X11_refused_0 ?_
              refine ⟨o_v0, ?_⟩
              intro S69 eS69
              have hIn : IV S69 := by rw [eS69]; exact iv11_sI hI o_v0 (by decide) (nu_free (by decide))
              have hI := hIn
              have f0 := fr_I eS69 g0 f0 o_v0 (by decide)
              have d_kv2 := rd_Ij eS69 (by decide) d_kv2
              have d_x25 := rd_Ik eS69 o_v0 o_a3 (by decide) d_x25
              have d_x51 := rd_Ik eS69 o_v0 o_a3 (by decide) d_x51
              obtain ⟨kv70, hkv70⟩ : ∃ z : Int32, z = (1 : Int32) := ⟨_, rfl⟩
              have d_kv70 := rd_Is eS69 hkv70
              have ea3 := rf_I eS69 ea3
              have g0 := gr_I eS69 g0
              have o_a3 := ob_I eS69 o_a3
              have o_v0 := ob_I eS69 o_v0
              intro S71 eS71
              have hIn : IV S71 := by rw [eS71]; exact iv11_sI hI o_v0 (by decide) (nu_free (by decide))
              have hI := hIn
              have f0 := fr_I eS71 g0 f0 o_v0 (by decide)
              have d_kv2 := rd_Ij eS71 (by decide) d_kv2
              have d_x25 := rd_Ik eS71 o_v0 o_a3 (by decide) d_x25
              have d_x51 := rd_Ik eS71 o_v0 o_a3 (by decide) d_x51
              have d_kv70 := rd_Ij eS71 (by decide) d_kv70
              obtain ⟨kv72, hkv72⟩ : ∃ z : Int32, z = (-1 : Int32) := ⟨_, rfl⟩
              have d_kv72 := rd_Is eS71 hkv72
              have ea3 := rf_I eS71 ea3
              have g0 := gr_I eS71 g0
              have o_a3 := ob_I eS71 o_a3
              have o_v0 := ob_I eS71 o_v0
              intro _
              exact hq _ _ hI g0 f0
            · refine ⟨fun c74 => ?_, fun c74 => ?_⟩
              · intro _ _
                refine ⟨fun c76 => ?_, fun c76 => absurd (show ¬ (0 : Int32) = 0 from c76) (by decide)⟩
                intro _
                refine ⟨fun c78 => absurd (show (1 : Int32) ≤ 0 from c78) (by decide), fun c78 => ?_⟩
                refine u_X11_refused ?_
                refine u_X11_refused_0 ?_
                refine ⟨o_v0, ?_⟩
                intro S79 eS79
                have hIn : IV S79 := by rw [eS79]; exact iv11_sI hI o_v0 (by decide) (nu_free (by decide))
                have hI := hIn
                have f0 := fr_I eS79 g0 f0 o_v0 (by decide)
                have d_kv2 := rd_Ij eS79 (by decide) d_kv2
                have d_x25 := rd_Ik eS79 o_v0 o_a3 (by decide) d_x25
                have d_x51 := rd_Ik eS79 o_v0 o_a3 (by decide) d_x51
                obtain ⟨kv80, hkv80⟩ : ∃ z : Int32, z = (1 : Int32) := ⟨_, rfl⟩
                have d_kv80 := rd_Is eS79 hkv80
                have ea3 := rf_I eS79 ea3
                have g0 := gr_I eS79 g0
                have o_a3 := ob_I eS79 o_a3
                have o_v0 := ob_I eS79 o_v0
                intro S81 eS81
                have hIn : IV S81 := by rw [eS81]; exact iv11_sI hI o_v0 (by decide) (nu_free (by decide))
                have hI := hIn
                have f0 := fr_I eS81 g0 f0 o_v0 (by decide)
                have d_kv2 := rd_Ij eS81 (by decide) d_kv2
                have d_x25 := rd_Ik eS81 o_v0 o_a3 (by decide) d_x25
                have d_x51 := rd_Ik eS81 o_v0 o_a3 (by decide) d_x51
                have d_kv80 := rd_Ij eS81 (by decide) d_kv80
                obtain ⟨kv82, hkv82⟩ : ∃ z : Int32, z = (-1 : Int32) := ⟨_, rfl⟩
                have d_kv82 := rd_Is eS81 hkv82
                have ea3 := rf_I eS81 ea3
                have g0 := gr_I eS81 g0
                have o_a3 := ob_I eS81 o_a3
                have o_v0 := ob_I eS81 o_v0
                intro _
                exact hq _ _ hI g0 f0
              · intro _ _
                refine ⟨fun c85 => absurd (show (1 : Int32) = 0 from c85) (by decide), fun c85 => ?_⟩
                refine u_X11_isHour ?_
                refine u_X11_isHour_0 ?_
                refine ⟨o_v0, ?_⟩
                refine ⟨fun e87 => (nomatch (e87.symm.trans ea3)), fun a86 ea86 => ?_⟩
                obtain rfl : a3 = a86 := Option.some.inj (ea3.symm.trans ea86)
                refine ⟨fun c88 => ?_, fun c88 => ?_⟩
                · intro _ _
                  refine ⟨fun c90 => absurd (show ¬ (0 : Int32) = 0 from c90) (by decide), fun c90 => ?_⟩
                  intro _
                  refine ⟨fun c92 => absurd (show (1 : Int32) ≤ 0 from c92) (by decide), fun c92 => ?_⟩
                  refine u_X11_refused ?_
                  refine u_X11_refused_0 ?_
                  refine ⟨o_v0, ?_⟩
                  intro S93 eS93
                  have hIn : IV S93 := by rw [eS93]; exact iv11_sI hI o_v0 (by decide) (nu_free (by decide))
                  have hI := hIn
                  have f0 := fr_I eS93 g0 f0 o_v0 (by decide)
                  have d_kv2 := rd_Ij eS93 (by decide) d_kv2
                  have d_x25 := rd_Ik eS93 o_v0 o_a3 (by decide) d_x25
                  have d_x51 := rd_Ik eS93 o_v0 o_a3 (by decide) d_x51
                  obtain ⟨kv94, hkv94⟩ : ∃ z : Int32, z = (1 : Int32) := ⟨_, rfl⟩
                  have d_kv94 := rd_Is eS93 hkv94
                  have ea3 := rf_I eS93 ea3
                  have g0 := gr_I eS93 g0
                  have o_a3 := ob_I eS93 o_a3
                  have o_v0 := ob_I eS93 o_v0
                  intro S95 eS95
                  have hIn : IV S95 := by rw [eS95]; exact iv11_sI hI o_v0 (by decide) (nu_free (by decide))
                  have hI := hIn
                  have f0 := fr_I eS95 g0 f0 o_v0 (by decide)
                  have d_kv2 := rd_Ij eS95 (by decide) d_kv2
                  have d_x25 := rd_Ik eS95 o_v0 o_a3 (by decide) d_x25
                  have d_x51 := rd_Ik eS95 o_v0 o_a3 (by decide) d_x51
                  have d_kv94 := rd_Ij eS95 (by decide) d_kv94
                  obtain ⟨kv96, hkv96⟩ : ∃ z : Int32, z = (-1 : Int32) := ⟨_, rfl⟩
                  have d_kv96 := rd_Is eS95 hkv96
                  have ea3 := rf_I eS95 ea3
                  have g0 := gr_I eS95 g0
                  have o_a3 := ob_I eS95 o_a3
                  have o_v0 := ob_I eS95 o_v0
                  intro _
                  exact hq _ _ hI g0 f0
                · refine ⟨a3, ea3, ?_⟩
                  refine ⟨o_a3, ?_⟩
                  intro x99 ex99
                  have r_x99 : (0 : Int32) ≤ x99 ∧ x99 ≤ (6 : Int32) := by rw [ex99]; exact nu 17 rfl hI o_a3
                  have d_x99 := ex99
                  refine ⟨fun c100 => ?_, fun c100 => ?_⟩
                  · intro _ _
                    refine ⟨fun c102 => absurd (show ¬ (0 : Int32) = 0 from c102) (by decide), fun c102 => ?_⟩
                    intro _
                    refine ⟨fun c104 => absurd (show (1 : Int32) ≤ 0 from c104) (by decide), fun c104 => ?_⟩
                    refine u_X11_refused ?_
                    refine u_X11_refused_0 ?_
                    refine ⟨o_v0, ?_⟩
                    intro S105 eS105
                    have hIn : IV S105 := by rw [eS105]; exact iv11_sI hI o_v0 (by decide) (nu_free (by decide))
                    have hI := hIn
                    have f0 := fr_I eS105 g0 f0 o_v0 (by decide)
                    have d_kv2 := rd_Ij eS105 (by decide) d_kv2
                    have d_x25 := rd_Ik eS105 o_v0 o_a3 (by decide) d_x25
                    have d_x51 := rd_Ik eS105 o_v0 o_a3 (by decide) d_x51
                    have d_x99 := rd_Ik eS105 o_v0 o_a3 (by decide) d_x99
                    obtain ⟨kv106, hkv106⟩ : ∃ z : Int32, z = (1 : Int32) := ⟨_, rfl⟩
                    have d_kv106 := rd_Is eS105 hkv106
                    have ea3 := rf_I eS105 ea3
                    have g0 := gr_I eS105 g0
                    have o_a3 := ob_I eS105 o_a3
                    have o_v0 := ob_I eS105 o_v0
                    intro S107 eS107
                    have hIn : IV S107 := by rw [eS107]; exact iv11_sI hI o_v0 (by decide) (nu_free (by decide))
                    have hI := hIn
                    have f0 := fr_I eS107 g0 f0 o_v0 (by decide)
                    have d_kv2 := rd_Ij eS107 (by decide) d_kv2
                    have d_x25 := rd_Ik eS107 o_v0 o_a3 (by decide) d_x25
                    have d_x51 := rd_Ik eS107 o_v0 o_a3 (by decide) d_x51
                    have d_x99 := rd_Ik eS107 o_v0 o_a3 (by decide) d_x99
                    have d_kv106 := rd_Ij eS107 (by decide) d_kv106
                    obtain ⟨kv108, hkv108⟩ : ∃ z : Int32, z = (-1 : Int32) := ⟨_, rfl⟩
                    have d_kv108 := rd_Is eS107 hkv108
                    have ea3 := rf_I eS107 ea3
                    have g0 := gr_I eS107 g0
                    have o_a3 := ob_I eS107 o_a3
                    have o_v0 := ob_I eS107 o_v0
                    intro _
                    exact hq _ _ hI g0 f0
                  · intro _ _
                    refine ⟨fun c111 => ?_, fun c111 => absurd (show (1 : Int32) = 0 from c111) (by decide)⟩
                    refine u_X11_isSpeed ?_
                    refine u_X11_isSpeed_0 ?_
                    refine ⟨o_v0, ?_⟩
                    refine ⟨a3, ea3, ?_⟩
                    refine ⟨o_a3, ?_⟩
                    obtain ⟨a113, ea113, o_a113, l_a113⟩ := shl 46 rfl hI o_a3
                    refine ⟨a113, ea113, ?_⟩
                    refine ⟨o_a113, ?_⟩
                    refine ⟨(vin l_a113 (m := 4) (by decide) (qm664 c14 r_x25 c26 c40 r_x51 c52 c64 c74 c88 r_x99 c100)), ?_⟩
                    intro x114 ex114
                    have gy_x114 : 0 ≤ v1 ∧ v1 < fI S1 a3 4 := by rw [← d_x25]; exact (qm665 c14 r_x25 c26 c40 r_x51 c52 c64 c74 c88 r_x99 c100)
                    have g_x114 : (1 : Int32) ≤ x114 ∧ x114 ≤ (9 : Int32) := by rw [ex114]; exact wg_at (ml_wg hI o_v0 ea3) 3 rfl gy_x114 ea113
                    refine ⟨a3, ea3, ?_⟩
                    refine ⟨o_a3, ?_⟩
                    obtain ⟨a116, ea116, o_a116, l_a116⟩ := shl 47 rfl hI o_a3
                    refine ⟨a116, ea116, ?_⟩
                    refine ⟨o_a116, ?_⟩
                    refine ⟨(vin l_a116 (m := 4) (by decide) (qm664 c14 r_x25 c26 c40 r_x51 c52 c64 c74 c88 r_x99 c100)), ?_⟩
                    intro x117 ex117
                    have gy_x117 : 0 ≤ v1 ∧ v1 < fI S1 a3 4 := by rw [← d_x25]; exact (qm665 c14 r_x25 c26 c40 r_x51 c52 c64 c74 c88 r_x99 c100)
                    have g_x117 : (0 : Int32) ≤ x117 ∧ x117 ≤ (9 : Int32) := by rw [ex117]; exact wg_at (ml_wg hI o_v0 ea3) 4 rfl gy_x117 ea116
                    refine u_X11_in ?_
                    refine u_X11_in_0 ?_
                    refine ⟨fun c118 => ?_, fun c118 => ?_⟩
                    · intro _ _
                      refine ⟨(Or.inl rfl), ?_⟩
                      intro _ _
                      refine ⟨fun c121 => ?_, fun c121 => absurd (show ¬ (0 : Int32) = 0 from c121) (by decide)⟩
                      intro _
                      refine ⟨fun c123 => absurd (show (2 : Int32) ≤ 0 from c123) (by decide), fun c123 => ?_⟩
                      refine u_X11_refused ?_
                      refine u_X11_refused_0 ?_
                      refine ⟨o_v0, ?_⟩
                      intro S124 eS124
                      have hIn : IV S124 := by rw [eS124]; exact iv11_sI hI o_v0 (by decide) (nu_free (by decide))
                      have hI := hIn
                      have f0 := fr_I eS124 g0 f0 o_v0 (by decide)
                      have d_kv2 := rd_Ij eS124 (by decide) d_kv2
                      have d_x25 := rd_Ik eS124 o_v0 o_a3 (by decide) d_x25
                      have d_x51 := rd_Ik eS124 o_v0 o_a3 (by decide) d_x51
                      have d_x99 := rd_Ik eS124 o_v0 o_a3 (by decide) d_x99
                      obtain ⟨kv125, hkv125⟩ : ∃ z : Int32, z = (2 : Int32) := ⟨_, rfl⟩
                      have d_kv125 := rd_Is eS124 hkv125
                      have ea3 := rf_I eS124 ea3
                      have ea113 := rf_I eS124 ea113
                      have ea116 := rf_I eS124 ea116
                      have l_a113 := ln_I eS124 l_a113
                      have l_a116 := ln_I eS124 l_a116
                      have g0 := gr_I eS124 g0
                      have o_a113 := ob_I eS124 o_a113
                      have o_a116 := ob_I eS124 o_a116
                      have o_a3 := ob_I eS124 o_a3
                      have o_v0 := ob_I eS124 o_v0
                      intro S126 eS126
                      have hIn : IV S126 := by rw [eS126]; exact iv11_sI hI o_v0 (by decide) (nu_free (by decide))
                      have hI := hIn
                      have f0 := fr_I eS126 g0 f0 o_v0 (by decide)
                      have d_kv2 := rd_Ij eS126 (by decide) d_kv2
                      have d_x25 := rd_Ik eS126 o_v0 o_a3 (by decide) d_x25
                      have d_x51 := rd_Ik eS126 o_v0 o_a3 (by decide) d_x51
                      have d_x99 := rd_Ik eS126 o_v0 o_a3 (by decide) d_x99
                      have d_kv125 := rd_Ij eS126 (by decide) d_kv125
                      obtain ⟨kv127, hkv127⟩ : ∃ z : Int32, z = (-1 : Int32) := ⟨_, rfl⟩
                      have d_kv127 := rd_Is eS126 hkv127
                      have ea3 := rf_I eS126 ea3
                      have ea113 := rf_I eS126 ea113
                      have ea116 := rf_I eS126 ea116
                      have l_a113 := ln_I eS126 l_a113
                      have l_a116 := ln_I eS126 l_a116
                      have g0 := gr_I eS126 g0
                      have o_a113 := ob_I eS126 o_a113
                      have o_a116 := ob_I eS126 o_a116
                      have o_a3 := ob_I eS126 o_a3
                      have o_v0 := ob_I eS126 o_v0
                      intro _
                      exact hq _ _ hI g0 f0
                    · refine ⟨fun c129 => ?_, fun c129 => ?_⟩
                      · intro _ _
                        refine ⟨(Or.inl rfl), ?_⟩
                        intro _ _
                        refine ⟨fun c132 => ?_, fun c132 => absurd (show ¬ (0 : Int32) = 0 from c132) (by decide)⟩
                        intro _
                        refine ⟨fun c134 => absurd (show (2 : Int32) ≤ 0 from c134) (by decide), fun c134 => ?_⟩
                        refine u_X11_refused ?_
                        refine u_X11_refused_0 ?_
                        refine ⟨o_v0, ?_⟩
                        intro S135 eS135
                        have hIn : IV S135 := by rw [eS135]; exact iv11_sI hI o_v0 (by decide) (nu_free (by decide))
                        have hI := hIn
                        have f0 := fr_I eS135 g0 f0 o_v0 (by decide)
                        have d_kv2 := rd_Ij eS135 (by decide) d_kv2
                        have d_x25 := rd_Ik eS135 o_v0 o_a3 (by decide) d_x25
                        have d_x51 := rd_Ik eS135 o_v0 o_a3 (by decide) d_x51
                        have d_x99 := rd_Ik eS135 o_v0 o_a3 (by decide) d_x99
                        obtain ⟨kv136, hkv136⟩ : ∃ z : Int32, z = (2 : Int32) := ⟨_, rfl⟩
                        have d_kv136 := rd_Is eS135 hkv136
                        have ea3 := rf_I eS135 ea3
                        have ea113 := rf_I eS135 ea113
                        have ea116 := rf_I eS135 ea116
                        have l_a113 := ln_I eS135 l_a113
                        have l_a116 := ln_I eS135 l_a116
                        have g0 := gr_I eS135 g0
                        have o_a113 := ob_I eS135 o_a113
                        have o_a116 := ob_I eS135 o_a116
                        have o_a3 := ob_I eS135 o_a3
                        have o_v0 := ob_I eS135 o_v0
                        intro S137 eS137
                        have hIn : IV S137 := by rw [eS137]; exact iv11_sI hI o_v0 (by decide) (nu_free (by decide))
                        have hI := hIn
                        have f0 := fr_I eS137 g0 f0 o_v0 (by decide)
                        have d_kv2 := rd_Ij eS137 (by decide) d_kv2
                        have d_x25 := rd_Ik eS137 o_v0 o_a3 (by decide) d_x25
                        have d_x51 := rd_Ik eS137 o_v0 o_a3 (by decide) d_x51
                        have d_x99 := rd_Ik eS137 o_v0 o_a3 (by decide) d_x99
                        have d_kv136 := rd_Ij eS137 (by decide) d_kv136
                        obtain ⟨kv138, hkv138⟩ : ∃ z : Int32, z = (-1 : Int32) := ⟨_, rfl⟩
                        have d_kv138 := rd_Is eS137 hkv138
                        have ea3 := rf_I eS137 ea3
                        have ea113 := rf_I eS137 ea113
                        have ea116 := rf_I eS137 ea116
                        have l_a113 := ln_I eS137 l_a113
                        have l_a116 := ln_I eS137 l_a116
                        have g0 := gr_I eS137 g0
                        have o_a113 := ob_I eS137 o_a113
                        have o_a116 := ob_I eS137 o_a116
                        have o_a3 := ob_I eS137 o_a3
                        have o_v0 := ob_I eS137 o_v0
                        intro _
                        exact hq _ _ hI g0 f0
                      · intro _ _
                        refine ⟨(Or.inr rfl), ?_⟩
                        intro _ _
                        refine ⟨fun c142 => absurd (show (1 : Int32) = 0 from c142) (by decide), fun c142 => ?_⟩
                        intro _
                        refine ⟨fun c144 => ?_, fun c144 => absurd (show ¬ (0 : Int32) ≤ 0 from c144) (by decide)⟩
                        refine m_X11_wetOf hI o_v0 (qm715 c14 r_x25 c26 c40 r_x51 c52 c64 c74 c88 r_x99 c100 g_x114 g_x117 c118 c129) (qm716 c14 r_x25 c26 c40 r_x51 c52 c64 c74 c88 r_x99 c100 g_x114 g_x117 c118 c129) (qm717 c14 r_x25 c26 c40 r_x51 c52 c64 c74 c88 r_x99 c100 g_x114 g_x117 c118 c129) (qm718 c14 r_x25 c26 c40 r_x51 c52 c64 c74 c88 r_x99 c100 g_x114 g_x117 c118 c129) ⟨_, ea3⟩ (fun x145 S146 hI2 g147 p_x145 => ?_)
                        subst p_x145
                        intro _
                        refine m_X11_told hI o_v0 (qm721 c14 r_x25 c26 c40 r_x51 c52 c64 c74 c88 r_x99 c100 g_x114 g_x117 c118 c129) (fun x149 S150 hJ g151 fc152 => ?_)
                        have hI := hJ
                        have l_a113 := (gr_len g151 o_a113).trans l_a113
                        have l_a116 := (gr_len g151 o_a116).trans l_a116
                        have d_kv2 := d_kv2.trans (fri_at fc152 (by decide) (by decide) o_v0).symm
                        have d_x25 := d_x25.trans (fri_at fc152 (by decide) (by decide) o_a3).symm
                        have d_x51 := d_x51.trans (fri_at fc152 (by decide) (by decide) o_a3).symm
                        have d_x99 := d_x99.trans (fri_at fc152 (by decide) (by decide) o_a3).symm
                        have ea3 := (frr_at fc152 (by decide) (by decide) o_v0).trans ea3
                        have ea113 := (frr_at fc152 (by decide) (by decide) o_a3).trans ea113
                        have ea116 := (frr_at fc152 (by decide) (by decide) o_a3).trans ea116
                        have f0 := fri_tr (S := S1) g0 f0 fc152 (by decide) (by decide)
                        have o_a113 := gr_ob g151 o_a113
                        have o_a116 := gr_ob g151 o_a116
                        have o_a3 := gr_ob g151 o_a3
                        have o_v0 := gr_ob g151 o_v0
                        have g0 := gr_tr (T := S1) g0 g151
                        intro _
                        exact hq _ _ hI g0 f0
end
section
set_option maxHeartbeats 4000000 in
set_option maxRecDepth 20000 in
theorem m_X11_wetness {v0 : Nat} {v1 : Int32} {Q : Int64 → HS → Prop} {S : HS} (hI : IV S) (o_v0 : ob S v0 11)     (hq : ∀ (r : Int64) (T : HS), IV T → Gr S T → FRI [(11, 0), (11, 1), (11, 2)] [] S T → Q r T) : P_X11_wetness v0 v1 Q S := by
  have g0 := gr_rf S
  have f0 := fri_rf [(11, 0), (11, 1), (11, 2)] [] S
  refine u_X11_wetness ?_
  refine u_X11_wetness_0 ?_
  refine ⟨o_v0, ?_⟩
  intro S1 eS1
  have hIn : IV S1 := by rw [eS1]; exact iv11_sI hI o_v0 (by decide) (nu_free (by decide))
  have hI := hIn
  have f0 := fr_I eS1 g0 f0 o_v0 (by decide)
  obtain ⟨kv2, hkv2⟩ : ∃ z : Int32, z = (0 : Int32) := ⟨_, rfl⟩
  have d_kv2 := rd_Is eS1 hkv2
  have g0 := gr_I eS1 g0
  have o_v0 := ob_I eS1 o_v0
  refine u_X11_isDay ?_
  refine u_X11_isDay_0 ?_
  refine ⟨o_v0, ?_⟩
  refine ⟨fun e4 => ?_, fun a3 ea3 => ?_⟩
  · intro _ _
    refine ⟨fun c6 => absurd (show ¬ (0 : Int32) = 0 from c6) (by decide), fun c6 => ?_⟩
    refine u_X11_refused ?_
    refine u_X11_refused_0 ?_
    refine ⟨o_v0, ?_⟩
    intro S7 eS7
    have hIn : IV S7 := by rw [eS7]; exact iv11_sI hI o_v0 (by decide) (nu_free (by decide))
    have hI := hIn
    have f0 := fr_I eS7 g0 f0 o_v0 (by decide)
    have d_kv2 := rd_Ij eS7 (by decide) d_kv2
    obtain ⟨kv8, hkv8⟩ : ∃ z : Int32, z = (1 : Int32) := ⟨_, rfl⟩
    have d_kv8 := rd_Is eS7 hkv8
    have g0 := gr_I eS7 g0
    have o_v0 := ob_I eS7 o_v0
    intro S9 eS9
    have hIn : IV S9 := by rw [eS9]; exact iv11_sI hI o_v0 (by decide) (nu_free (by decide))
    have hI := hIn
    have f0 := fr_I eS9 g0 f0 o_v0 (by decide)
    have d_kv2 := rd_Ij eS9 (by decide) d_kv2
    have d_kv8 := rd_Ij eS9 (by decide) d_kv8
    obtain ⟨kv10, hkv10⟩ : ∃ z : Int32, z = (-1 : Int32) := ⟨_, rfl⟩
    have d_kv10 := rd_Is eS9 hkv10
    have g0 := gr_I eS9 g0
    have o_v0 := ob_I eS9 o_v0
    intro _
    exact hq _ _ hI g0 f0
  · have o_a3 := ml_ob hI o_v0 ea3
    intro x12 ex12
    have r_x12 : (-2 : Int32) ≤ x12 ∧ x12 ≤ (3 : Int32) := by rw [ex12]; exact nu 26 rfl hI o_v0
    have d_x12 := ex12
    obtain ⟨kv13, d_kv13⟩ : ∃ z : Int32, z = fI S1 a3 4 := ⟨_, rfl⟩
    have r_kv13 : (0 : Int32) ≤ kv13 ∧ kv13 ≤ (4 : Int32) := by rw [d_kv13]; exact nu 20 rfl hI o_a3
    have wh_x12 : x12 = -2 ∨ (0 ≤ x12 ∧ x12 < kv13) := by rw [ex12, d_kv13]; exact ml_who hI o_v0 ea3
    refine ⟨fun c14 => ?_, fun c14 => ?_⟩
    · intro _ _
      refine ⟨fun c16 => absurd (show ¬ (0 : Int32) = 0 from c16) (by decide), fun c16 => ?_⟩
      refine u_X11_refused ?_
      refine u_X11_refused_0 ?_
      refine ⟨o_v0, ?_⟩
      intro S17 eS17
      have hIn : IV S17 := by rw [eS17]; exact iv11_sI hI o_v0 (by decide) (nu_free (by decide))
      have hI := hIn
      have f0 := fr_I eS17 g0 f0 o_v0 (by decide)
      have d_kv2 := rd_Ij eS17 (by decide) d_kv2
      have d_x12 := rd_Ij eS17 (by decide) d_x12
      have d_kv13 := rd_Ik eS17 o_v0 o_a3 (by decide) d_kv13
      obtain ⟨kv18, hkv18⟩ : ∃ z : Int32, z = (1 : Int32) := ⟨_, rfl⟩
      have d_kv18 := rd_Is eS17 hkv18
      have ea3 := rf_I eS17 ea3
      have g0 := gr_I eS17 g0
      have o_a3 := ob_I eS17 o_a3
      have o_v0 := ob_I eS17 o_v0
      intro S19 eS19
      have hIn : IV S19 := by rw [eS19]; exact iv11_sI hI o_v0 (by decide) (nu_free (by decide))
      have hI := hIn
      have f0 := fr_I eS19 g0 f0 o_v0 (by decide)
      have d_kv2 := rd_Ij eS19 (by decide) d_kv2
      have d_x12 := rd_Ij eS19 (by decide) d_x12
      have d_kv13 := rd_Ik eS19 o_v0 o_a3 (by decide) d_kv13
      have d_kv18 := rd_Ij eS19 (by decide) d_kv18
      obtain ⟨kv20, hkv20⟩ : ∃ z : Int32, z = (-1 : Int32) := ⟨_, rfl⟩
      have d_kv20 := rd_Is eS19 hkv20
      have ea3 := rf_I eS19 ea3
      have g0 := gr_I eS19 g0
      have o_a3 := ob_I eS19 o_a3
      have o_v0 := ob_I eS19 o_v0
      intro _
      exact hq _ _ hI g0 f0
    · intro _ _
      refine ⟨fun c23 => ?_, fun c23 => absurd (show (1 : Int32) = 0 from c23) (by decide)⟩
      refine m_X11_gotInAll hI o_v0 (fun x24 S25 hI2 g26 p_x24 => ?_)
      subst p_x24
      intro _
      refine u_X11_holds ?_
      refine u_X11_holds_0 ?_
      refine ⟨o_v0, ?_⟩
      refine ⟨a3, ea3, ?_⟩
      refine ⟨o_a3, ?_⟩
      obtain ⟨a29, ea29, o_a29, l_a29⟩ := shl 41 rfl hI o_a3
      refine ⟨a29, ea29, ?_⟩
      intro x30 ex30
      have r_x30 : (-2 : Int32) ≤ x30 ∧ x30 ≤ (3 : Int32) := by rw [ex30]; exact nu 26 rfl hI o_v0
      have q_x30 : x30 = x12 := ex30.trans d_x12.symm
      have d_x30 := ex30
      have wh_x30 : x30 = -2 ∨ (0 ≤ x30 ∧ x30 < kv13) := by rw [ex30, d_kv13]; exact ml_who hI o_v0 ea3
      refine ⟨o_a29, ?_⟩
      refine ⟨(vin l_a29 (m := 4) (by decide) (qm547 r_x12 r_kv13 wh_x12 c14 r_x30 q_x30 wh_x30)), ?_⟩
      intro x31 ex31
      refine ⟨fun c32 => ?_, fun c32 => ?_⟩
      · intro _
        intro x34 ex34
        refine ⟨fun c35 => ?_, fun c35 => ?_⟩
        · refine u_X11_wetness_41 ?_
          refine ⟨o_v0, ?_⟩
          refine m_X11_told hI o_v0 (qm554 r_x12 r_kv13 wh_x12 c14 r_x30 q_x30 wh_x30 c32 ex34 c35) (fun x36 S37 hJ g38 fc39 => ?_)
          have hI := hJ
          have l_a29 := (gr_len g38 o_a29).trans l_a29
          have d_kv2 := d_kv2.trans (fri_at fc39 (by decide) (by decide) o_v0).symm
          have d_x30 := d_x30.trans (fri_at fc39 (by decide) (by decide) o_v0).symm
          have d_kv13 := d_kv13.trans (fri_at fc39 (by decide) (by decide) o_a3).symm
          have ea3 := (frr_at fc39 (by decide) (by decide) o_v0).trans ea3
          have ea29 := (frr_at fc39 (by decide) (by decide) o_a3).trans ea29
          have f0 := fri_tr (S := S1) g0 f0 fc39 (by decide) (by decide)
          have o_a29 := gr_ob g38 o_a29
          have o_a3 := gr_ob g38 o_a3
          have o_v0 := gr_ob g38 o_v0
          have g0 := gr_tr (T := S1) g0 g38
          intro _
          exact hq _ _ hI g0 f0
        · refine u_X11_wetness_41 ?_
          refine ⟨o_v0, ?_⟩
          refine m_X11_told hI o_v0 (qm555 r_x12 r_kv13 wh_x12 c14 r_x30 q_x30 wh_x30 c32 ex34 c35) (fun x40 S41 hJ g42 fc43 => ?_)
          have hI := hJ
          have l_a29 := (gr_len g42 o_a29).trans l_a29
          have d_kv2 := d_kv2.trans (fri_at fc43 (by decide) (by decide) o_v0).symm
          have d_x30 := d_x30.trans (fri_at fc43 (by decide) (by decide) o_v0).symm
          have d_kv13 := d_kv13.trans (fri_at fc43 (by decide) (by decide) o_a3).symm
          have ea3 := (frr_at fc43 (by decide) (by decide) o_v0).trans ea3
          have ea29 := (frr_at fc43 (by decide) (by decide) o_a3).trans ea29
          have f0 := fri_tr (S := S1) g0 f0 fc43 (by decide) (by decide)
          have o_a29 := gr_ob g42 o_a29
          have o_a3 := gr_ob g42 o_a3
          have o_v0 := gr_ob g42 o_v0
          have g0 := gr_tr (T := S1) g0 g42
          intro _
          exact hq _ _ hI g0 f0
      · refine ⟨a3, ea3, ?_⟩
        refine ⟨o_a3, ?_⟩
        obtain ⟨a45, ea45, o_a45, l_a45⟩ := shl 42 rfl hI o_a3
        refine ⟨a45, ea45, ?_⟩
        intro x46 ex46
        have r_x46 : (-2 : Int32) ≤ x46 ∧ x46 ≤ (3 : Int32) := by rw [ex46]; exact nu 26 rfl hI o_v0
        have q_x46 : x46 = x30 := ex46.trans d_x30.symm
        have d_x46 := ex46
        have wh_x46 : x46 = -2 ∨ (0 ≤ x46 ∧ x46 < kv13) := by rw [ex46, d_kv13]; exact ml_who hI o_v0 ea3
        refine ⟨o_a45, ?_⟩
        refine ⟨(vin l_a45 (m := 4) (by decide) (qm548 r_x12 r_kv13 wh_x12 c14 r_x30 q_x30 wh_x30 c32 r_x46 q_x46 wh_x46)), ?_⟩
        intro x47 ex47
        intro _
        intro x49 ex49
        refine ⟨fun c50 => ?_, fun c50 => ?_⟩
        · refine u_X11_wetness_41 ?_
          refine ⟨o_v0, ?_⟩
          refine m_X11_told hI o_v0 (qm556 r_x12 r_kv13 wh_x12 c14 r_x30 q_x30 wh_x30 c32 r_x46 q_x46 wh_x46 ex49 c50) (fun x51 S52 hJ g53 fc54 => ?_)
          have hI := hJ
          have l_a29 := (gr_len g53 o_a29).trans l_a29
          have l_a45 := (gr_len g53 o_a45).trans l_a45
          have d_kv2 := d_kv2.trans (fri_at fc54 (by decide) (by decide) o_v0).symm
          have d_x46 := d_x46.trans (fri_at fc54 (by decide) (by decide) o_v0).symm
          have d_kv13 := d_kv13.trans (fri_at fc54 (by decide) (by decide) o_a3).symm
          have ea3 := (frr_at fc54 (by decide) (by decide) o_v0).trans ea3
          have ea29 := (frr_at fc54 (by decide) (by decide) o_a3).trans ea29
          have ea45 := (frr_at fc54 (by decide) (by decide) o_a3).trans ea45
          have f0 := fri_tr (S := S1) g0 f0 fc54 (by decide) (by decide)
          have o_a29 := gr_ob g53 o_a29
          have o_a3 := gr_ob g53 o_a3
          have o_a45 := gr_ob g53 o_a45
          have o_v0 := gr_ob g53 o_v0
          have g0 := gr_tr (T := S1) g0 g53
          intro _
          exact hq _ _ hI g0 f0
        · refine u_X11_wetness_41 ?_
          refine ⟨o_v0, ?_⟩
          refine m_X11_told hI o_v0 (qm557 r_x12 r_kv13 wh_x12 c14 r_x30 q_x30 wh_x30 c32 r_x46 q_x46 wh_x46 ex49 c50) (fun x55 S56 hJ g57 fc58 => ?_)
          have hI := hJ
          have l_a29 := (gr_len g57 o_a29).trans l_a29
          have l_a45 := (gr_len g57 o_a45).trans l_a45
          have d_kv2 := d_kv2.trans (fri_at fc58 (by decide) (by decide) o_v0).symm
          have d_x46 := d_x46.trans (fri_at fc58 (by decide) (by decide) o_v0).symm
          have d_kv13 := d_kv13.trans (fri_at fc58 (by decide) (by decide) o_a3).symm
          have ea3 := (frr_at fc58 (by decide) (by decide) o_v0).trans ea3
          have ea29 := (frr_at fc58 (by decide) (by decide) o_a3).trans ea29
          have ea45 := (frr_at fc58 (by decide) (by decide) o_a3).trans ea45
          have f0 := fri_tr (S := S1) g0 f0 fc58 (by decide) (by decide)
          have o_a29 := gr_ob g57 o_a29
          have o_a3 := gr_ob g57 o_a3
          have o_a45 := gr_ob g57 o_a45
          have o_v0 := gr_ob g57 o_v0
          have g0 := gr_tr (T := S1) g0 g57
          intro _
          exact hq _ _ hI g0 f0
set_option maxHeartbeats 4000000 in
set_option maxRecDepth 20000 in
theorem m_X11_where {v0 : Nat} {Q : Int32 → HS → Prop} {S : HS} (hI : IV S) (o_v0 : ob S v0 11)     (hq : ∀ (r : Int32) (T : HS), IV T → Gr S T → FRI [(11, 0)] [] S T → Q r T) : P_X11_where v0 Q S := by
  have g0 := gr_rf S
  have f0 := fri_rf [(11, 0)] [] S
  refine u_X11_where ?_
  refine u_X11_where_0 ?_
  refine ⟨o_v0, ?_⟩
  intro S1 eS1
  have hIn : IV S1 := by rw [eS1]; exact iv11_sI hI o_v0 (by decide) (nu_free (by decide))
  have hI := hIn
  have f0 := fr_I eS1 g0 f0 o_v0 (by decide)
  obtain ⟨kv2, hkv2⟩ : ∃ z : Int32, z = (0 : Int32) := ⟨_, rfl⟩
  have d_kv2 := rd_Is eS1 hkv2
  have g0 := gr_I eS1 g0
  have o_v0 := ob_I eS1 o_v0
  intro x3 ex3
  have d_x3 := ex3
  exact hq _ _ hI g0 f0
set_option maxHeartbeats 4000000 in
set_option maxRecDepth 20000 in
theorem m_X11_worst {v0 : Nat} {v1 : Int32} {v2 : Int32} {v3 : Int32} {v4 : Int32} {Q : Int32 → HS → Prop} {S : HS} (hI : IV S) (o_v0 : ob S v0 11)     (hq : ∀ (r : Int32) (T : HS), IV T → Gr S T → FRI [(11, 0), (11, 1), (11, 2)] [] S T → Q r T) : P_X11_worst v0 v1 v2 v3 v4 Q S := by
  have g0 := gr_rf S
  have f0 := fri_rf [(11, 0), (11, 1), (11, 2)] [] S
  refine u_X11_worst ?_
  refine u_X11_worst_0 ?_
  refine ⟨o_v0, ?_⟩
  intro S1 eS1
  have hIn : IV S1 := by rw [eS1]; exact iv11_sI hI o_v0 (by decide) (nu_free (by decide))
  have hI := hIn
  have f0 := fr_I eS1 g0 f0 o_v0 (by decide)
  obtain ⟨kv2, hkv2⟩ : ∃ z : Int32, z = (0 : Int32) := ⟨_, rfl⟩
  have d_kv2 := rd_Is eS1 hkv2
  have g0 := gr_I eS1 g0
  have o_v0 := ob_I eS1 o_v0
  refine u_X11_isWalker ?_
  refine u_X11_isWalker_0 ?_
  refine ⟨o_v0, ?_⟩
  refine ⟨fun e4 => ?_, fun a3 ea3 => ?_⟩
  · intro _ _
    refine ⟨fun c6 => ?_, fun c6 => absurd (show ¬ (0 : Int32) = 0 from c6) (by decide)⟩
    refine u_X11_worst_39 ?_
    refine ⟨o_v0, ?_⟩
    refine u_X11_refused ?_
    refine u_X11_refused_0 ?_
    refine ⟨o_v0, ?_⟩
    intro S7 eS7
    have hIn : IV S7 := by rw [eS7]; exact iv11_sI hI o_v0 (by decide) (nu_free (by decide))
    have hI := hIn
    have f0 := fr_I eS7 g0 f0 o_v0 (by decide)
    have d_kv2 := rd_Ij eS7 (by decide) d_kv2
    obtain ⟨kv8, hkv8⟩ : ∃ z : Int32, z = (1 : Int32) := ⟨_, rfl⟩
    have d_kv8 := rd_Is eS7 hkv8
    have g0 := gr_I eS7 g0
    have o_v0 := ob_I eS7 o_v0
    intro S9 eS9
    have hIn : IV S9 := by rw [eS9]; exact iv11_sI hI o_v0 (by decide) (nu_free (by decide))
    have hI := hIn
    have f0 := fr_I eS9 g0 f0 o_v0 (by decide)
    have d_kv2 := rd_Ij eS9 (by decide) d_kv2
    have d_kv8 := rd_Ij eS9 (by decide) d_kv8
    obtain ⟨kv10, hkv10⟩ : ∃ z : Int32, z = (-1 : Int32) := ⟨_, rfl⟩
    have d_kv10 := rd_Is eS9 hkv10
    have g0 := gr_I eS9 g0
    have o_v0 := ob_I eS9 o_v0
    intro _
    exact hq _ _ hI g0 f0
  · have o_a3 := ml_ob hI o_v0 ea3
    refine ⟨fun c12 => ?_, fun c12 => ?_⟩
    · intro _ _
      refine ⟨fun c14 => ?_, fun c14 => absurd (show ¬ (0 : Int32) = 0 from c14) (by decide)⟩
      refine u_X11_worst_39 ?_
      refine ⟨o_v0, ?_⟩
      refine u_X11_refused ?_
      refine u_X11_refused_0 ?_
      refine ⟨o_v0, ?_⟩
      intro S15 eS15
      have hIn : IV S15 := by rw [eS15]; exact iv11_sI hI o_v0 (by decide) (nu_free (by decide))
      have hI := hIn
      have f0 := fr_I eS15 g0 f0 o_v0 (by decide)
      have d_kv2 := rd_Ij eS15 (by decide) d_kv2
      obtain ⟨kv16, hkv16⟩ : ∃ z : Int32, z = (1 : Int32) := ⟨_, rfl⟩
      have d_kv16 := rd_Is eS15 hkv16
      have ea3 := rf_I eS15 ea3
      have g0 := gr_I eS15 g0
      have o_a3 := ob_I eS15 o_a3
      have o_v0 := ob_I eS15 o_v0
      intro S17 eS17
      have hIn : IV S17 := by rw [eS17]; exact iv11_sI hI o_v0 (by decide) (nu_free (by decide))
      have hI := hIn
      have f0 := fr_I eS17 g0 f0 o_v0 (by decide)
      have d_kv2 := rd_Ij eS17 (by decide) d_kv2
      have d_kv16 := rd_Ij eS17 (by decide) d_kv16
      obtain ⟨kv18, hkv18⟩ : ∃ z : Int32, z = (-1 : Int32) := ⟨_, rfl⟩
      have d_kv18 := rd_Is eS17 hkv18
      have ea3 := rf_I eS17 ea3
      have g0 := gr_I eS17 g0
      have o_a3 := ob_I eS17 o_a3
      have o_v0 := ob_I eS17 o_v0
      intro _
      exact hq _ _ hI g0 f0
    · refine ⟨a3, ea3, ?_⟩
      refine ⟨o_a3, ?_⟩
      intro x21 ex21
      have r_x21 : (0 : Int32) ≤ x21 ∧ x21 ≤ (4 : Int32) := by rw [ex21]; exact nu 20 rfl hI o_a3
      have d_x21 := ex21
      refine ⟨fun c22 => ?_, fun c22 => ?_⟩
      · intro _ _
        refine ⟨fun c24 => ?_, fun c24 => absurd (show ¬ (0 : Int32) = 0 from c24) (by decide)⟩
        refine u_X11_worst_39 ?_
        refine ⟨o_v0, ?_⟩
        refine u_X11_refused ?_
        refine u_X11_refused_0 ?_
        refine ⟨o_v0, ?_⟩
        intro S25 eS25
        have hIn : IV S25 := by rw [eS25]; exact iv11_sI hI o_v0 (by decide) (nu_free (by decide))
        have hI := hIn
        have f0 := fr_I eS25 g0 f0 o_v0 (by decide)
        have d_kv2 := rd_Ij eS25 (by decide) d_kv2
        have d_x21 := rd_Ik eS25 o_v0 o_a3 (by decide) d_x21
        obtain ⟨kv26, hkv26⟩ : ∃ z : Int32, z = (1 : Int32) := ⟨_, rfl⟩
        have d_kv26 := rd_Is eS25 hkv26
        have ea3 := rf_I eS25 ea3
        have g0 := gr_I eS25 g0
        have o_a3 := ob_I eS25 o_a3
        have o_v0 := ob_I eS25 o_v0
        intro S27 eS27
        have hIn : IV S27 := by rw [eS27]; exact iv11_sI hI o_v0 (by decide) (nu_free (by decide))
        have hI := hIn
        have f0 := fr_I eS27 g0 f0 o_v0 (by decide)
        have d_kv2 := rd_Ij eS27 (by decide) d_kv2
        have d_x21 := rd_Ik eS27 o_v0 o_a3 (by decide) d_x21
        have d_kv26 := rd_Ij eS27 (by decide) d_kv26
        obtain ⟨kv28, hkv28⟩ : ∃ z : Int32, z = (-1 : Int32) := ⟨_, rfl⟩
        have d_kv28 := rd_Is eS27 hkv28
        have ea3 := rf_I eS27 ea3
        have g0 := gr_I eS27 g0
        have o_a3 := ob_I eS27 o_a3
        have o_v0 := ob_I eS27 o_v0
        intro _
        exact hq _ _ hI g0 f0
      · intro _ _
        refine ⟨fun c31 => absurd (show (1 : Int32) = 0 from c31) (by decide), fun c31 => ?_⟩
        refine u_X11_isRoad ?_
        refine u_X11_isRoad_0 ?_
        refine ⟨o_v0, ?_⟩
        refine ⟨fun e33 => (nomatch (e33.symm.trans ea3)), fun a32 ea32 => ?_⟩
        obtain rfl : a3 = a32 := Option.some.inj (ea3.symm.trans ea32)
        refine ⟨fun c34 => ?_, fun c34 => ?_⟩
        · intro _ _
          refine ⟨fun c36 => ?_, fun c36 => absurd (show ¬ (0 : Int32) = 0 from c36) (by decide)⟩
          refine u_X11_worst_39 ?_
          refine ⟨o_v0, ?_⟩
          refine u_X11_refused ?_
          refine u_X11_refused_0 ?_
          refine ⟨o_v0, ?_⟩
          intro S37 eS37
          have hIn : IV S37 := by rw [eS37]; exact iv11_sI hI o_v0 (by decide) (nu_free (by decide))
          have hI := hIn
          have f0 := fr_I eS37 g0 f0 o_v0 (by decide)
          have d_kv2 := rd_Ij eS37 (by decide) d_kv2
          have d_x21 := rd_Ik eS37 o_v0 o_a3 (by decide) d_x21
          obtain ⟨kv38, hkv38⟩ : ∃ z : Int32, z = (1 : Int32) := ⟨_, rfl⟩
          have d_kv38 := rd_Is eS37 hkv38
          have ea3 := rf_I eS37 ea3
          have g0 := gr_I eS37 g0
          have o_a3 := ob_I eS37 o_a3
          have o_v0 := ob_I eS37 o_v0
          intro S39 eS39
          have hIn : IV S39 := by rw [eS39]; exact iv11_sI hI o_v0 (by decide) (nu_free (by decide))
          have hI := hIn
          have f0 := fr_I eS39 g0 f0 o_v0 (by decide)
          have d_kv2 := rd_Ij eS39 (by decide) d_kv2
          have d_x21 := rd_Ik eS39 o_v0 o_a3 (by decide) d_x21
          have d_kv38 := rd_Ij eS39 (by decide) d_kv38
          obtain ⟨kv40, hkv40⟩ : ∃ z : Int32, z = (-1 : Int32) := ⟨_, rfl⟩
          have d_kv40 := rd_Is eS39 hkv40
          have ea3 := rf_I eS39 ea3
          have g0 := gr_I eS39 g0
          have o_a3 := ob_I eS39 o_a3
          have o_v0 := ob_I eS39 o_v0
          intro _
          exact hq _ _ hI g0 f0
        · refine ⟨a3, ea3, ?_⟩
          refine ⟨o_a3, ?_⟩
          intro x43 ex43
          have r_x43 : (0 : Int32) ≤ x43 ∧ x43 ≤ (12 : Int32) := by rw [ex43]; exact nu 19 rfl hI o_a3
          have d_x43 := ex43
          refine ⟨fun c44 => ?_, fun c44 => ?_⟩
          · intro _ _
            refine ⟨fun c46 => ?_, fun c46 => absurd (show ¬ (0 : Int32) = 0 from c46) (by decide)⟩
            refine u_X11_worst_39 ?_
            refine ⟨o_v0, ?_⟩
            refine u_X11_refused ?_
            refine u_X11_refused_0 ?_
            refine ⟨o_v0, ?_⟩
            intro S47 eS47
            have hIn : IV S47 := by rw [eS47]; exact iv11_sI hI o_v0 (by decide) (nu_free (by decide))
            have hI := hIn
            have f0 := fr_I eS47 g0 f0 o_v0 (by decide)
            have d_kv2 := rd_Ij eS47 (by decide) d_kv2
            have d_x21 := rd_Ik eS47 o_v0 o_a3 (by decide) d_x21
            have d_x43 := rd_Ik eS47 o_v0 o_a3 (by decide) d_x43
            obtain ⟨kv48, hkv48⟩ : ∃ z : Int32, z = (1 : Int32) := ⟨_, rfl⟩
            have d_kv48 := rd_Is eS47 hkv48
            have ea3 := rf_I eS47 ea3
            have g0 := gr_I eS47 g0
            have o_a3 := ob_I eS47 o_a3
            have o_v0 := ob_I eS47 o_v0
            intro S49 eS49
            have hIn : IV S49 := by rw [eS49]; exact iv11_sI hI o_v0 (by decide) (nu_free (by decide))
            have hI := hIn
            have f0 := fr_I eS49 g0 f0 o_v0 (by decide)
            have d_kv2 := rd_Ij eS49 (by decide) d_kv2
            have d_x21 := rd_Ik eS49 o_v0 o_a3 (by decide) d_x21
            have d_x43 := rd_Ik eS49 o_v0 o_a3 (by decide) d_x43
            have d_kv48 := rd_Ij eS49 (by decide) d_kv48
            obtain ⟨kv50, hkv50⟩ : ∃ z : Int32, z = (-1 : Int32) := ⟨_, rfl⟩
            have d_kv50 := rd_Is eS49 hkv50
            have ea3 := rf_I eS49 ea3
            have g0 := gr_I eS49 g0
            have o_a3 := ob_I eS49 o_a3
            have o_v0 := ob_I eS49 o_v0
            intro _
            exact hq _ _ hI g0 f0
          · intro _ _
            refine ⟨fun c53 => absurd (show (1 : Int32) = 0 from c53) (by decide), fun c53 => ?_⟩
            refine u_X11_in ?_
            refine u_X11_in_0 ?_
            refine ⟨fun c54 => ?_, fun c54 => ?_⟩
            · intro _ _
              refine ⟨fun c56 => ?_, fun c56 => absurd (show ¬ (0 : Int32) = 0 from c56) (by decide)⟩
              refine u_X11_worst_39 ?_
              refine ⟨o_v0, ?_⟩
              refine u_X11_refused ?_
              refine u_X11_refused_0 ?_
              refine ⟨o_v0, ?_⟩
              intro S57 eS57
              have hIn : IV S57 := by rw [eS57]; exact iv11_sI hI o_v0 (by decide) (nu_free (by decide))
              have hI := hIn
              have f0 := fr_I eS57 g0 f0 o_v0 (by decide)
              have d_kv2 := rd_Ij eS57 (by decide) d_kv2
              have d_x21 := rd_Ik eS57 o_v0 o_a3 (by decide) d_x21
              have d_x43 := rd_Ik eS57 o_v0 o_a3 (by decide) d_x43
              obtain ⟨kv58, hkv58⟩ : ∃ z : Int32, z = (1 : Int32) := ⟨_, rfl⟩
              have d_kv58 := rd_Is eS57 hkv58
              have ea3 := rf_I eS57 ea3
              have g0 := gr_I eS57 g0
              have o_a3 := ob_I eS57 o_a3
              have o_v0 := ob_I eS57 o_v0
              intro S59 eS59
              have hIn : IV S59 := by rw [eS59]; exact iv11_sI hI o_v0 (by decide) (nu_free (by decide))
              have hI := hIn
              have f0 := fr_I eS59 g0 f0 o_v0 (by decide)
              have d_kv2 := rd_Ij eS59 (by decide) d_kv2
              have d_x21 := rd_Ik eS59 o_v0 o_a3 (by decide) d_x21
              have d_x43 := rd_Ik eS59 o_v0 o_a3 (by decide) d_x43
              have d_kv58 := rd_Ij eS59 (by decide) d_kv58
              obtain ⟨kv60, hkv60⟩ : ∃ z : Int32, z = (-1 : Int32) := ⟨_, rfl⟩
              have d_kv60 := rd_Is eS59 hkv60
              have ea3 := rf_I eS59 ea3
              have g0 := gr_I eS59 g0
              have o_a3 := ob_I eS59 o_a3
              have o_v0 := ob_I eS59 o_v0
              intro _
              exact hq _ _ hI g0 f0
            · refine ⟨fun c62 => ?_, fun c62 => ?_⟩
              · intro _ _
                refine ⟨fun c64 => ?_, fun c64 => absurd (show ¬ (0 : Int32) = 0 from c64) (by decide)⟩
                refine u_X11_worst_39 ?_
                refine ⟨o_v0, ?_⟩
                refine u_X11_refused ?_
                refine u_X11_refused_0 ?_
                refine ⟨o_v0, ?_⟩
                intro S65 eS65
                have hIn : IV S65 := by rw [eS65]; exact iv11_sI hI o_v0 (by decide) (nu_free (by decide))
                have hI := hIn
                have f0 := fr_I eS65 g0 f0 o_v0 (by decide)
                have d_kv2 := rd_Ij eS65 (by decide) d_kv2
                have d_x21 := rd_Ik eS65 o_v0 o_a3 (by decide) d_x21
                have d_x43 := rd_Ik eS65 o_v0 o_a3 (by decide) d_x43
                obtain ⟨kv66, hkv66⟩ : ∃ z : Int32, z = (1 : Int32) := ⟨_, rfl⟩
                have d_kv66 := rd_Is eS65 hkv66
                have ea3 := rf_I eS65 ea3
                have g0 := gr_I eS65 g0
                have o_a3 := ob_I eS65 o_a3
                have o_v0 := ob_I eS65 o_v0
                intro S67 eS67
                have hIn : IV S67 := by rw [eS67]; exact iv11_sI hI o_v0 (by decide) (nu_free (by decide))
                have hI := hIn
                have f0 := fr_I eS67 g0 f0 o_v0 (by decide)
                have d_kv2 := rd_Ij eS67 (by decide) d_kv2
                have d_x21 := rd_Ik eS67 o_v0 o_a3 (by decide) d_x21
                have d_x43 := rd_Ik eS67 o_v0 o_a3 (by decide) d_x43
                have d_kv66 := rd_Ij eS67 (by decide) d_kv66
                obtain ⟨kv68, hkv68⟩ : ∃ z : Int32, z = (-1 : Int32) := ⟨_, rfl⟩
                have d_kv68 := rd_Is eS67 hkv68
                have ea3 := rf_I eS67 ea3
                have g0 := gr_I eS67 g0
                have o_a3 := ob_I eS67 o_a3
                have o_v0 := ob_I eS67 o_v0
                intro _
                exact hq _ _ hI g0 f0
              · intro _ _
                refine ⟨fun c71 => absurd (show (1 : Int32) = 0 from c71) (by decide), fun c71 => ?_⟩
                refine u_X11_isHour ?_
                refine u_X11_isHour_0 ?_
                refine ⟨o_v0, ?_⟩
                refine ⟨fun e73 => (nomatch (e73.symm.trans ea3)), fun a72 ea72 => ?_⟩
                obtain rfl : a3 = a72 := Option.some.inj (ea3.symm.trans ea72)
                refine ⟨fun c74 => ?_, fun c74 => ?_⟩
                · intro _ _
                  refine ⟨fun c76 => absurd (show ¬ (0 : Int32) = 0 from c76) (by decide), fun c76 => ?_⟩
                  refine u_X11_worst_39 ?_
                  refine ⟨o_v0, ?_⟩
                  refine u_X11_refused ?_
                  refine u_X11_refused_0 ?_
                  refine ⟨o_v0, ?_⟩
                  intro S77 eS77
                  have hIn : IV S77 := by rw [eS77]; exact iv11_sI hI o_v0 (by decide) (nu_free (by decide))
                  have hI := hIn
                  have f0 := fr_I eS77 g0 f0 o_v0 (by decide)
                  have d_kv2 := rd_Ij eS77 (by decide) d_kv2
                  have d_x21 := rd_Ik eS77 o_v0 o_a3 (by decide) d_x21
                  have d_x43 := rd_Ik eS77 o_v0 o_a3 (by decide) d_x43
                  obtain ⟨kv78, hkv78⟩ : ∃ z : Int32, z = (1 : Int32) := ⟨_, rfl⟩
                  have d_kv78 := rd_Is eS77 hkv78
                  have ea3 := rf_I eS77 ea3
                  have g0 := gr_I eS77 g0
                  have o_a3 := ob_I eS77 o_a3
                  have o_v0 := ob_I eS77 o_v0
                  intro S79 eS79
                  have hIn : IV S79 := by rw [eS79]; exact iv11_sI hI o_v0 (by decide) (nu_free (by decide))
                  have hI := hIn
                  have f0 := fr_I eS79 g0 f0 o_v0 (by decide)
                  have d_kv2 := rd_Ij eS79 (by decide) d_kv2
                  have d_x21 := rd_Ik eS79 o_v0 o_a3 (by decide) d_x21
                  have d_x43 := rd_Ik eS79 o_v0 o_a3 (by decide) d_x43
                  have d_kv78 := rd_Ij eS79 (by decide) d_kv78
                  obtain ⟨kv80, hkv80⟩ : ∃ z : Int32, z = (-1 : Int32) := ⟨_, rfl⟩
                  have d_kv80 := rd_Is eS79 hkv80
                  have ea3 := rf_I eS79 ea3
                  have g0 := gr_I eS79 g0
                  have o_a3 := ob_I eS79 o_a3
                  have o_v0 := ob_I eS79 o_v0
                  intro _
                  exact hq _ _ hI g0 f0
                · refine ⟨a3, ea3, ?_⟩
                  refine ⟨o_a3, ?_⟩
                  intro x83 ex83
                  have r_x83 : (0 : Int32) ≤ x83 ∧ x83 ≤ (6 : Int32) := by rw [ex83]; exact nu 17 rfl hI o_a3
                  have d_x83 := ex83
                  refine ⟨fun c84 => ?_, fun c84 => ?_⟩
                  · intro _ _
                    refine ⟨fun c86 => absurd (show ¬ (0 : Int32) = 0 from c86) (by decide), fun c86 => ?_⟩
                    refine u_X11_worst_39 ?_
                    refine ⟨o_v0, ?_⟩
                    refine u_X11_refused ?_
                    refine u_X11_refused_0 ?_
                    refine ⟨o_v0, ?_⟩
                    intro S87 eS87
                    have hIn : IV S87 := by rw [eS87]; exact iv11_sI hI o_v0 (by decide) (nu_free (by decide))
                    have hI := hIn
                    have f0 := fr_I eS87 g0 f0 o_v0 (by decide)
                    have d_kv2 := rd_Ij eS87 (by decide) d_kv2
                    have d_x21 := rd_Ik eS87 o_v0 o_a3 (by decide) d_x21
                    have d_x43 := rd_Ik eS87 o_v0 o_a3 (by decide) d_x43
                    have d_x83 := rd_Ik eS87 o_v0 o_a3 (by decide) d_x83
                    obtain ⟨kv88, hkv88⟩ : ∃ z : Int32, z = (1 : Int32) := ⟨_, rfl⟩
                    have d_kv88 := rd_Is eS87 hkv88
                    have ea3 := rf_I eS87 ea3
                    have g0 := gr_I eS87 g0
                    have o_a3 := ob_I eS87 o_a3
                    have o_v0 := ob_I eS87 o_v0
                    intro S89 eS89
                    have hIn : IV S89 := by rw [eS89]; exact iv11_sI hI o_v0 (by decide) (nu_free (by decide))
                    have hI := hIn
                    have f0 := fr_I eS89 g0 f0 o_v0 (by decide)
                    have d_kv2 := rd_Ij eS89 (by decide) d_kv2
                    have d_x21 := rd_Ik eS89 o_v0 o_a3 (by decide) d_x21
                    have d_x43 := rd_Ik eS89 o_v0 o_a3 (by decide) d_x43
                    have d_x83 := rd_Ik eS89 o_v0 o_a3 (by decide) d_x83
                    have d_kv88 := rd_Ij eS89 (by decide) d_kv88
                    obtain ⟨kv90, hkv90⟩ : ∃ z : Int32, z = (-1 : Int32) := ⟨_, rfl⟩
                    have d_kv90 := rd_Is eS89 hkv90
                    have ea3 := rf_I eS89 ea3
                    have g0 := gr_I eS89 g0
                    have o_a3 := ob_I eS89 o_a3
                    have o_v0 := ob_I eS89 o_v0
                    intro _
                    exact hq _ _ hI g0 f0
                  · intro _ _
                    refine ⟨fun c93 => ?_, fun c93 => absurd (show (1 : Int32) = 0 from c93) (by decide)⟩
                    refine ⟨a3, ea3, ?_⟩
                    refine ⟨o_a3, ?_⟩
                    obtain ⟨a95, ea95, o_a95, l_a95⟩ := shl 46 rfl hI o_a3
                    refine ⟨a95, ea95, ?_⟩
                    refine ⟨o_a95, ?_⟩
                    refine ⟨(vin l_a95 (m := 4) (by decide) (qm664 c12 r_x21 c22 c34 r_x43 c44 c54 c62 c74 r_x83 c84)), ?_⟩
                    intro x96 ex96
                    have gy_x96 : 0 ≤ v1 ∧ v1 < fI S1 a3 4 := by rw [← d_x21]; exact (qm665 c12 r_x21 c22 c34 r_x43 c44 c54 c62 c74 r_x83 c84)
                    have g_x96 : (1 : Int32) ≤ x96 ∧ x96 ≤ (9 : Int32) := by rw [ex96]; exact wg_at (ml_wg hI o_v0 ea3) 3 rfl gy_x96 ea95
                    intro x97 ex97
                    refine i_X11_worst_62 (fun (y0 : Nat) (y1 : Int32) (y2 : Int32) (y3 : Int32) (y4 : Int32) (y5 : Int32) (y6 : Int32) (Z : HS) => ((2147483647 : Int32).toInt - y6.toInt).toNat) (fun (y0 : Nat) (y1 : Int32) (y2 : Int32) (y3 : Int32) (y4 : Int32) (y5 : Int32) (y6 : Int32) (Z : HS) => (S1 = Z) ∧ (v0 = y0) ∧ (v1 = y1) ∧ (v2 = y2) ∧ (v3 = y3) ∧ (v4 = y4) ∧ (1 ≤ y5 ∧ y5 ≤ 9 ∧ 1 ≤ y6)) ?_ _ _ _ _ _ _ _ _ ⟨rfl, rfl, rfl, rfl, rfl, rfl, (qm681 c12 r_x21 c22 c34 r_x43 c44 c54 c62 c74 r_x83 c84 g_x96 ex97)⟩
                    intro w102 w104 w106 w108 w110 w112 w113 S99 X114 ⟨eS99, q103, q105, q107, q109, q111, i1u98⟩ ih115
                    subst q103
                    subst q105
                    subst q107
                    subst q109
                    subst q111
                    subst eS99
                    refine u_X11_worst_62 ?_
                    refine ⟨o_v0, ?_⟩
                    refine ⟨a3, ea3, ?_⟩
                    refine ⟨o_a3, ?_⟩
                    obtain ⟨a117, ea117, o_a117, l_a117⟩ := shl 47 rfl hI o_a3
                    refine ⟨a117, ea117, ?_⟩
                    refine ⟨o_a117, ?_⟩
                    refine ⟨(vin l_a117 (m := 4) (by decide) (qm664 c12 r_x21 c22 c34 r_x43 c44 c54 c62 c74 r_x83 c84)), ?_⟩
                    intro x118 ex118
                    have gy_x118 : 0 ≤ v1 ∧ v1 < fI S1 a3 4 := by rw [← d_x21]; exact (qm665 c12 r_x21 c22 c34 r_x43 c44 c54 c62 c74 r_x83 c84)
                    have g_x118 : (0 : Int32) ≤ x118 ∧ x118 ≤ (9 : Int32) := by rw [ex118]; exact wg_at (ml_wg hI o_v0 ea3) 4 rfl gy_x118 ea117
                    refine ⟨fun c119 => ?_, fun c119 => ?_⟩
                    · refine u_X11_good ?_
                      refine u_X11_good_0 ?_
                      refine ⟨o_v0, ?_⟩
                      intro S120 eS120
                      have hIn : IV S120 := by rw [eS120]; exact iv11_sI hI o_v0 (by decide) (nu_free (by decide))
                      have hI := hIn
                      have f0 := fr_I eS120 g0 f0 o_v0 (by decide)
                      have d_kv2 := rd_Ij eS120 (by decide) d_kv2
                      have d_x21 := rd_Ik eS120 o_v0 o_a3 (by decide) d_x21
                      have d_x43 := rd_Ik eS120 o_v0 o_a3 (by decide) d_x43
                      have d_x83 := rd_Ik eS120 o_v0 o_a3 (by decide) d_x83
                      obtain ⟨kv121, hkv121⟩ : ∃ z : Int32, z = (0 : Int32) := ⟨_, rfl⟩
                      have d_kv121 := rd_Is eS120 hkv121
                      have ea3 := rf_I eS120 ea3
                      have ea95 := rf_I eS120 ea95
                      have ea117 := rf_I eS120 ea117
                      have l_a117 := ln_I eS120 l_a117
                      have l_a95 := ln_I eS120 l_a95
                      have g0 := gr_I eS120 g0
                      have o_a117 := ob_I eS120 o_a117
                      have o_a3 := ob_I eS120 o_a3
                      have o_a95 := ob_I eS120 o_a95
                      have o_v0 := ob_I eS120 o_v0
                      intro S122 eS122
                      have hIn : IV S122 := by rw [eS122]; exact iv11_sI hI o_v0 (by decide) (nu_free (by decide))
                      have hI := hIn
                      have f0 := fr_I eS122 g0 f0 o_v0 (by decide)
                      have d_kv2 := rd_Ij eS122 (by decide) d_kv2
                      have d_x21 := rd_Ik eS122 o_v0 o_a3 (by decide) d_x21
                      have d_x43 := rd_Ik eS122 o_v0 o_a3 (by decide) d_x43
                      have d_x83 := rd_Ik eS122 o_v0 o_a3 (by decide) d_x83
                      have d_kv121 := rd_Ij eS122 (by decide) d_kv121
                      obtain ⟨kv123, hkv123⟩ : ∃ z : Int32, z = (-1 : Int32) := ⟨_, rfl⟩
                      have d_kv123 := rd_Is eS122 hkv123
                      have ea3 := rf_I eS122 ea3
                      have ea95 := rf_I eS122 ea95
                      have ea117 := rf_I eS122 ea117
                      have l_a117 := ln_I eS122 l_a117
                      have l_a95 := ln_I eS122 l_a95
                      have g0 := gr_I eS122 g0
                      have o_a117 := ob_I eS122 o_a117
                      have o_a3 := ob_I eS122 o_a3
                      have o_a95 := ob_I eS122 o_a95
                      have o_v0 := ob_I eS122 o_v0
                      intro _
                      exact hq _ _ hI g0 f0
                    · refine m_X11_wetOf hI o_v0 (qm682 c12 r_x21 c22 c34 r_x43 c44 c54 c62 c74 r_x83 c84 i1u98 g_x118 c119) (qm683 c12 r_x21 c22 c34 r_x43 c44 c54 c62 c74 r_x83 c84 i1u98 g_x118 c119) (qm684 c12 r_x21 c22 c34 r_x43 c44 c54 c62 c74 r_x83 c84 i1u98 g_x118 c119) (qm685 c12 r_x21 c22 c34 r_x43 c44 c54 c62 c74 r_x83 c84 i1u98 g_x118 c119) ⟨_, ea3⟩ (fun x125 S126 hI2 g127 p_x125 => ?_)
                      subst p_x125
                      intro _
                      refine m_X11_wetOf hI o_v0 (qm682 c12 r_x21 c22 c34 r_x43 c44 c54 c62 c74 r_x83 c84 i1u98 g_x118 c119) (qm683 c12 r_x21 c22 c34 r_x43 c44 c54 c62 c74 r_x83 c84 i1u98 g_x118 c119) (qm684 c12 r_x21 c22 c34 r_x43 c44 c54 c62 c74 r_x83 c84 i1u98 g_x118 c119) (qm686 c12 r_x21 c22 c34 r_x43 c44 c54 c62 c74 r_x83 c84 i1u98 g_x118 c119) ⟨_, ea3⟩ (fun x129 S130 hI2 g131 p_x129 => ?_)
                      subst p_x129
                      intro _
                      refine ⟨fun c133 => ?_, fun c133 => ?_⟩
                      · refine u_X11_worst_106 ?_
                        intro x134 ex134
                        exact ih115 _ _ _ _ _ _ _ _ ⟨rfl, rfl, rfl, rfl, rfl, rfl, (qm687 c12 r_x21 c22 c34 r_x43 c44 c54 c62 c74 r_x83 c84 i1u98 g_x118 c119 c133 ex134)⟩ (mu_up (qm688 c12 r_x21 c22 c34 r_x43 c44 c54 c62 c74 r_x83 c84 i1u98 g_x118 c119 c133 ex134) (qm689 c12 r_x21 c22 c34 r_x43 c44 c54 c62 c74 r_x83 c84 i1u98 g_x118 c119 c133 ex134))
                      · refine u_X11_worst_106 ?_
                        intro x135 ex135
                        exact ih115 _ _ _ _ _ _ _ _ ⟨rfl, rfl, rfl, rfl, rfl, rfl, (qm690 c12 r_x21 c22 c34 r_x43 c44 c54 c62 c74 r_x83 c84 i1u98 g_x118 c119 c133 ex135)⟩ (mu_up (qm691 c12 r_x21 c22 c34 r_x43 c44 c54 c62 c74 r_x83 c84 i1u98 g_x118 c119 c133 ex135) (qm692 c12 r_x21 c22 c34 r_x43 c44 c54 c62 c74 r_x83 c84 i1u98 g_x118 c119 c133 ex135))
end
