set_option maxHeartbeats 4000000 in
set_option maxRecDepth 20000 in
theorem m_X11_minutes {v0 : Nat} {v1 : Int32} {v2 : Int32} {v3 : Int32} {Q : Int32 → HS → Prop} {S : HS} (hI : IV S) (o_v0 : ob S v0 11)     (hq : ∀ (r : Int32) (T : HS), IV T → Gr S T → FRI [(11, 0), (11, 1), (11, 2)] [] S T → Q r T) : P_X11_minutes v0 v1 v2 v3 Q S := by
  have g0 := gr_rf S
  have f0 := fri_rf [(11, 0), (11, 1), (11, 2)] [] S
  refine u_X11_minutes ?_
  refine u_X11_minutes_0 ?_
  refine ⟨o_v0, ?_⟩
  intro S1 eS1
  have hIn : IV S1 := by rw [eS1]; exact iv11_sI hI o_v0 (by decide) (nu_free (by decide))
  have hI := hIn
  have f0 := fr_I eS1 g0 f0 o_v0 (by decide)
  obtain ⟨kv2, hkv2⟩ : ∃ z : Int32, z = (0 : Int32) := ⟨_, rfl⟩
  have d_kv2 := rd_Is eS1 hkv2
  have g0 := gr_I eS1 g0
  have o_v0 := ob_I eS1 o_v0
  refine u_X11_isWalker ?_
  refine u_X11_isWalker_0 ?_
  refine ⟨o_v0, ?_⟩
  refine ⟨fun e4 => ?_, fun a3 ea3 => ?_⟩
  · intro _ _
    refine ⟨fun c6 => ?_, fun c6 => absurd (show ¬ (0 : Int32) = 0 from c6) (by decide)⟩
    refine u_X11_minutes_21 ?_
    refine ⟨o_v0, ?_⟩
    refine u_X11_refused ?_
    refine u_X11_refused_0 ?_
    refine ⟨o_v0, ?_⟩
    intro S7 eS7
    have hIn : IV S7 := by rw [eS7]; exact iv11_sI hI o_v0 (by decide) (nu_free (by decide))
    have hI := hIn
    have f0 := fr_I eS7 g0 f0 o_v0 (by decide)
    have d_kv2 := rd_Ij eS7 (by decide) d_kv2
    obtain ⟨kv8, hkv8⟩ : ∃ z : Int32, z = (1 : Int32) := ⟨_, rfl⟩
    have d_kv8 := rd_Is eS7 hkv8
    have g0 := gr_I eS7 g0
    have o_v0 := ob_I eS7 o_v0
    intro S9 eS9
    have hIn : IV S9 := by rw [eS9]; exact iv11_sI hI o_v0 (by decide) (nu_free (by decide))
    have hI := hIn
    have f0 := fr_I eS9 g0 f0 o_v0 (by decide)
    have d_kv2 := rd_Ij eS9 (by decide) d_kv2
    have d_kv8 := rd_Ij eS9 (by decide) d_kv8
    obtain ⟨kv10, hkv10⟩ : ∃ z : Int32, z = (-1 : Int32) := ⟨_, rfl⟩
    have d_kv10 := rd_Is eS9 hkv10
    have g0 := gr_I eS9 g0
    have o_v0 := ob_I eS9 o_v0
    intro _
    exact hq _ _ hI g0 f0
  · have o_a3 := ml_ob hI o_v0 ea3
    refine ⟨fun c12 => ?_, fun c12 => ?_⟩
    · intro _ _
      refine ⟨fun c14 => ?_, fun c14 => absurd (show ¬ (0 : Int32) = 0 from c14) (by decide)⟩
      refine u_X11_minutes_21 ?_
      refine ⟨o_v0, ?_⟩
      refine u_X11_refused ?_
      refine u_X11_refused_0 ?_
      refine ⟨o_v0, ?_⟩
      intro S15 eS15
      have hIn : IV S15 := by rw [eS15]; exact iv11_sI hI o_v0 (by decide) (nu_free (by decide))
      have hI := hIn
      have f0 := fr_I eS15 g0 f0 o_v0 (by decide)
      have d_kv2 := rd_Ij eS15 (by decide) d_kv2
      obtain ⟨kv16, hkv16⟩ : ∃ z : Int32, z = (1 : Int32) := ⟨_, rfl⟩
      have d_kv16 := rd_Is eS15 hkv16
      have ea3 := rf_I eS15 ea3
      have g0 := gr_I eS15 g0
      have o_a3 := ob_I eS15 o_a3
      have o_v0 := ob_I eS15 o_v0
      intro S17 eS17
      have hIn : IV S17 := by rw [eS17]; exact iv11_sI hI o_v0 (by decide) (nu_free (by decide))
      have hI := hIn
      have f0 := fr_I eS17 g0 f0 o_v0 (by decide)
      have d_kv2 := rd_Ij eS17 (by decide) d_kv2
      have d_kv16 := rd_Ij eS17 (by decide) d_kv16
      obtain ⟨kv18, hkv18⟩ : ∃ z : Int32, z = (-1 : Int32) := ⟨_, rfl⟩
      have d_kv18 := rd_Is eS17 hkv18
      have ea3 := rf_I eS17 ea3
      have g0 := gr_I eS17 g0
      have o_a3 := ob_I eS17 o_a3
      have o_v0 := ob_I eS17 o_v0
      intro _
      exact hq _ _ hI g0 f0
    · refine ⟨a3, ea3, ?_⟩
      refine ⟨o_a3, ?_⟩
      intro x21 ex21
      have r_x21 : (0 : Int32) ≤ x21 ∧ x21 ≤ (4 : Int32) := by rw [ex21]; exact nu 20 rfl hI o_a3
      have d_x21 := ex21
      refine ⟨fun c22 => ?_, fun c22 => ?_⟩
      · intro _ _
        refine ⟨fun c24 => ?_, fun c24 => absurd (show ¬ (0 : Int32) = 0 from c24) (by decide)⟩
        refine u_X11_minutes_21 ?_
        refine ⟨o_v0, ?_⟩
        refine u_X11_refused ?_
        refine u_X11_refused_0 ?_
        refine ⟨o_v0, ?_⟩
        intro S25 eS25
        have hIn : IV S25 := by rw [eS25]; exact iv11_sI hI o_v0 (by decide) (nu_free (by decide))
        have hI := hIn
        have f0 := fr_I eS25 g0 f0 o_v0 (by decide)
        have d_kv2 := rd_Ij eS25 (by decide) d_kv2
        have d_x21 := rd_Ik eS25 o_v0 o_a3 (by decide) d_x21
        obtain ⟨kv26, hkv26⟩ : ∃ z : Int32, z = (1 : Int32) := ⟨_, rfl⟩
        have d_kv26 := rd_Is eS25 hkv26
        have ea3 := rf_I eS25 ea3
        have g0 := gr_I eS25 g0
        have o_a3 := ob_I eS25 o_a3
        have o_v0 := ob_I eS25 o_v0
        intro S27 eS27
        have hIn : IV S27 := by rw [eS27]; exact iv11_sI hI o_v0 (by decide) (nu_free (by decide))
        have hI := hIn
        have f0 := fr_I eS27 g0 f0 o_v0 (by decide)
        have d_kv2 := rd_Ij eS27 (by decide) d_kv2
        have d_x21 := rd_Ik eS27 o_v0 o_a3 (by decide) d_x21
        have d_kv26 := rd_Ij eS27 (by decide) d_kv26
        obtain ⟨kv28, hkv28⟩ : ∃ z : Int32, z = (-1 : Int32) := ⟨_, rfl⟩
        have d_kv28 := rd_Is eS27 hkv28
        have ea3 := rf_I eS27 ea3
        have g0 := gr_I eS27 g0
        have o_a3 := ob_I eS27 o_a3
        have o_v0 := ob_I eS27 o_v0
        intro _
        exact hq _ _ hI g0 f0
      · intro _ _
        refine ⟨fun c31 => absurd (show (1 : Int32) = 0 from c31) (by decide), fun c31 => ?_⟩
        refine u_X11_isRoad ?_
        refine u_X11_isRoad_0 ?_
        refine ⟨o_v0, ?_⟩
        refine ⟨fun e33 => (nomatch (e33.symm.trans ea3)), fun a32 ea32 => ?_⟩
        obtain rfl : a3 = a32 := Option.some.inj (ea3.symm.trans ea32)
        refine ⟨fun c34 => ?_, fun c34 => ?_⟩
        · intro _ _
          refine ⟨fun c36 => absurd (show ¬ (0 : Int32) = 0 from c36) (by decide), fun c36 => ?_⟩
          refine u_X11_minutes_21 ?_
          refine ⟨o_v0, ?_⟩
          refine u_X11_refused ?_
          refine u_X11_refused_0 ?_
          refine ⟨o_v0, ?_⟩
          intro S37 eS37
          have hIn : IV S37 := by rw [eS37]; exact iv11_sI hI o_v0 (by decide) (nu_free (by decide))
          have hI := hIn
          have f0 := fr_I eS37 g0 f0 o_v0 (by decide)
          have d_kv2 := rd_Ij eS37 (by decide) d_kv2
          have d_x21 := rd_Ik eS37 o_v0 o_a3 (by decide) d_x21
          obtain ⟨kv38, hkv38⟩ : ∃ z : Int32, z = (1 : Int32) := ⟨_, rfl⟩
          have d_kv38 := rd_Is eS37 hkv38
          have ea3 := rf_I eS37 ea3
          have g0 := gr_I eS37 g0
          have o_a3 := ob_I eS37 o_a3
          have o_v0 := ob_I eS37 o_v0
          intro S39 eS39
          have hIn : IV S39 := by rw [eS39]; exact iv11_sI hI o_v0 (by decide) (nu_free (by decide))
          have hI := hIn
          have f0 := fr_I eS39 g0 f0 o_v0 (by decide)
          have d_kv2 := rd_Ij eS39 (by decide) d_kv2
          have d_x21 := rd_Ik eS39 o_v0 o_a3 (by decide) d_x21
          have d_kv38 := rd_Ij eS39 (by decide) d_kv38
          obtain ⟨kv40, hkv40⟩ : ∃ z : Int32, z = (-1 : Int32) := ⟨_, rfl⟩
          have d_kv40 := rd_Is eS39 hkv40
          have ea3 := rf_I eS39 ea3
          have g0 := gr_I eS39 g0
          have o_a3 := ob_I eS39 o_a3
          have o_v0 := ob_I eS39 o_v0
          intro _
          exact hq _ _ hI g0 f0
        · refine ⟨a3, ea3, ?_⟩
          refine ⟨o_a3, ?_⟩
          intro x43 ex43
          have r_x43 : (0 : Int32) ≤ x43 ∧ x43 ≤ (12 : Int32) := by rw [ex43]; exact nu 19 rfl hI o_a3
          have d_x43 := ex43
          refine ⟨fun c44 => ?_, fun c44 => ?_⟩
          · intro _ _
            refine ⟨fun c46 => absurd (show ¬ (0 : Int32) = 0 from c46) (by decide), fun c46 => ?_⟩
            refine u_X11_minutes_21 ?_
            refine ⟨o_v0, ?_⟩
            refine u_X11_refused ?_
            refine u_X11_refused_0 ?_
            refine ⟨o_v0, ?_⟩
            intro S47 eS47
            have hIn : IV S47 := by rw [eS47]; exact iv11_sI hI o_v0 (by decide) (nu_free (by decide))
            have hI := hIn
            have f0 := fr_I eS47 g0 f0 o_v0 (by decide)
            have d_kv2 := rd_Ij eS47 (by decide) d_kv2
            have d_x21 := rd_Ik eS47 o_v0 o_a3 (by decide) d_x21
            have d_x43 := rd_Ik eS47 o_v0 o_a3 (by decide) d_x43
            obtain ⟨kv48, hkv48⟩ : ∃ z : Int32, z = (1 : Int32) := ⟨_, rfl⟩
            have d_kv48 := rd_Is eS47 hkv48
            have ea3 := rf_I eS47 ea3
            have g0 := gr_I eS47 g0
            have o_a3 := ob_I eS47 o_a3
            have o_v0 := ob_I eS47 o_v0
            intro S49 eS49
            have hIn : IV S49 := by rw [eS49]; exact iv11_sI hI o_v0 (by decide) (nu_free (by decide))
            have hI := hIn
            have f0 := fr_I eS49 g0 f0 o_v0 (by decide)
            have d_kv2 := rd_Ij eS49 (by decide) d_kv2
            have d_x21 := rd_Ik eS49 o_v0 o_a3 (by decide) d_x21
            have d_x43 := rd_Ik eS49 o_v0 o_a3 (by decide) d_x43
            have d_kv48 := rd_Ij eS49 (by decide) d_kv48
            obtain ⟨kv50, hkv50⟩ : ∃ z : Int32, z = (-1 : Int32) := ⟨_, rfl⟩
            have d_kv50 := rd_Is eS49 hkv50
            have ea3 := rf_I eS49 ea3
            have g0 := gr_I eS49 g0
            have o_a3 := ob_I eS49 o_a3
            have o_v0 := ob_I eS49 o_v0
            intro _
            exact hq _ _ hI g0 f0
          · intro _ _
            refine ⟨fun c53 => ?_, fun c53 => absurd (show (1 : Int32) = 0 from c53) (by decide)⟩
            refine u_X11_isSpeed ?_
            refine u_X11_isSpeed_0 ?_
            refine ⟨o_v0, ?_⟩
            refine ⟨a3, ea3, ?_⟩
            refine ⟨o_a3, ?_⟩
            obtain ⟨a55, ea55, o_a55, l_a55⟩ := shl 46 rfl hI o_a3
            refine ⟨a55, ea55, ?_⟩
            refine ⟨o_a55, ?_⟩
            refine ⟨(vin l_a55 (m := 4) (by decide) (qm706 c12 r_x21 c22 c34 r_x43 c44)), ?_⟩
            intro x56 ex56
            have gy_x56 : 0 ≤ v1 ∧ v1 < fI S1 a3 4 := by rw [← d_x21]; exact (qm707 c12 r_x21 c22 c34 r_x43 c44)
            have g_x56 : (1 : Int32) ≤ x56 ∧ x56 ≤ (9 : Int32) := by rw [ex56]; exact wg_at (ml_wg hI o_v0 ea3) 3 rfl gy_x56 ea55
            refine ⟨a3, ea3, ?_⟩
            refine ⟨o_a3, ?_⟩
            obtain ⟨a58, ea58, o_a58, l_a58⟩ := shl 47 rfl hI o_a3
            refine ⟨a58, ea58, ?_⟩
            refine ⟨o_a58, ?_⟩
            refine ⟨(vin l_a58 (m := 4) (by decide) (qm706 c12 r_x21 c22 c34 r_x43 c44)), ?_⟩
            intro x59 ex59
            have gy_x59 : 0 ≤ v1 ∧ v1 < fI S1 a3 4 := by rw [← d_x21]; exact (qm707 c12 r_x21 c22 c34 r_x43 c44)
            have g_x59 : (0 : Int32) ≤ x59 ∧ x59 ≤ (9 : Int32) := by rw [ex59]; exact wg_at (ml_wg hI o_v0 ea3) 4 rfl gy_x59 ea58
            refine u_X11_in ?_
            refine u_X11_in_0 ?_
            refine ⟨fun c60 => ?_, fun c60 => ?_⟩
            · intro _ _
              refine ⟨(Or.inl rfl), ?_⟩
              intro _ _
              refine ⟨fun c63 => ?_, fun c63 => absurd (show ¬ (0 : Int32) = 0 from c63) (by decide)⟩
              refine u_X11_refused ?_
              refine u_X11_refused_0 ?_
              refine ⟨o_v0, ?_⟩
              intro S64 eS64
              have hIn : IV S64 := by rw [eS64]; exact iv11_sI hI o_v0 (by decide) (nu_free (by decide))
              have hI := hIn
              have f0 := fr_I eS64 g0 f0 o_v0 (by decide)
              have d_kv2 := rd_Ij eS64 (by decide) d_kv2
              have d_x21 := rd_Ik eS64 o_v0 o_a3 (by decide) d_x21
              have d_x43 := rd_Ik eS64 o_v0 o_a3 (by decide) d_x43
              obtain ⟨kv65, hkv65⟩ : ∃ z : Int32, z = (2 : Int32) := ⟨_, rfl⟩
              have d_kv65 := rd_Is eS64 hkv65
              have ea3 := rf_I eS64 ea3
              have ea55 := rf_I eS64 ea55
              have ea58 := rf_I eS64 ea58
              have l_a55 := ln_I eS64 l_a55
              have l_a58 := ln_I eS64 l_a58
              have g0 := gr_I eS64 g0
              have o_a3 := ob_I eS64 o_a3
              have o_a55 := ob_I eS64 o_a55
              have o_a58 := ob_I eS64 o_a58
              have o_v0 := ob_I eS64 o_v0
              intro S66 eS66
              have hIn : IV S66 := by rw [eS66]; exact iv11_sI hI o_v0 (by decide) (nu_free (by decide))
              have hI := hIn
              have f0 := fr_I eS66 g0 f0 o_v0 (by decide)
              have d_kv2 := rd_Ij eS66 (by decide) d_kv2
              have d_x21 := rd_Ik eS66 o_v0 o_a3 (by decide) d_x21
              have d_x43 := rd_Ik eS66 o_v0 o_a3 (by decide) d_x43
              have d_kv65 := rd_Ij eS66 (by decide) d_kv65
              obtain ⟨kv67, hkv67⟩ : ∃ z : Int32, z = (-1 : Int32) := ⟨_, rfl⟩
              have d_kv67 := rd_Is eS66 hkv67
              have ea3 := rf_I eS66 ea3
              have ea55 := rf_I eS66 ea55
              have ea58 := rf_I eS66 ea58
              have l_a55 := ln_I eS66 l_a55
              have l_a58 := ln_I eS66 l_a58
              have g0 := gr_I eS66 g0
              have o_a3 := ob_I eS66 o_a3
              have o_a55 := ob_I eS66 o_a55
              have o_a58 := ob_I eS66 o_a58
              have o_v0 := ob_I eS66 o_v0
              intro _
              exact hq _ _ hI g0 f0
            · refine ⟨fun c69 => ?_, fun c69 => ?_⟩
              · intro _ _
                refine ⟨(Or.inl rfl), ?_⟩
                intro _ _
                refine ⟨fun c72 => ?_, fun c72 => absurd (show ¬ (0 : Int32) = 0 from c72) (by decide)⟩
                refine u_X11_refused ?_
                refine u_X11_refused_0 ?_
                refine ⟨o_v0, ?_⟩
                intro S73 eS73
                have hIn : IV S73 := by rw [eS73]; exact iv11_sI hI o_v0 (by decide) (nu_free (by decide))
                have hI := hIn
                have f0 := fr_I eS73 g0 f0 o_v0 (by decide)
                have d_kv2 := rd_Ij eS73 (by decide) d_kv2
                have d_x21 := rd_Ik eS73 o_v0 o_a3 (by decide) d_x21
                have d_x43 := rd_Ik eS73 o_v0 o_a3 (by decide) d_x43
                obtain ⟨kv74, hkv74⟩ : ∃ z : Int32, z = (2 : Int32) := ⟨_, rfl⟩
                have d_kv74 := rd_Is eS73 hkv74
                have ea3 := rf_I eS73 ea3
                have ea55 := rf_I eS73 ea55
                have ea58 := rf_I eS73 ea58
                have l_a55 := ln_I eS73 l_a55
                have l_a58 := ln_I eS73 l_a58
                have g0 := gr_I eS73 g0
                have o_a3 := ob_I eS73 o_a3
                have o_a55 := ob_I eS73 o_a55
                have o_a58 := ob_I eS73 o_a58
                have o_v0 := ob_I eS73 o_v0
                intro S75 eS75
                have hIn : IV S75 := by rw [eS75]; exact iv11_sI hI o_v0 (by decide) (nu_free (by decide))
                have hI := hIn
                have f0 := fr_I eS75 g0 f0 o_v0 (by decide)
                have d_kv2 := rd_Ij eS75 (by decide) d_kv2
                have d_x21 := rd_Ik eS75 o_v0 o_a3 (by decide) d_x21
                have d_x43 := rd_Ik eS75 o_v0 o_a3 (by decide) d_x43
                have d_kv74 := rd_Ij eS75 (by decide) d_kv74
                obtain ⟨kv76, hkv76⟩ : ∃ z : Int32, z = (-1 : Int32) := ⟨_, rfl⟩
                have d_kv76 := rd_Is eS75 hkv76
                have ea3 := rf_I eS75 ea3
                have ea55 := rf_I eS75 ea55
                have ea58 := rf_I eS75 ea58
                have l_a55 := ln_I eS75 l_a55
                have l_a58 := ln_I eS75 l_a58
                have g0 := gr_I eS75 g0
                have o_a3 := ob_I eS75 o_a3
                have o_a55 := ob_I eS75 o_a55
                have o_a58 := ob_I eS75 o_a58
                have o_v0 := ob_I eS75 o_v0
                intro _
                exact hq _ _ hI g0 f0
              · intro _ _
                refine ⟨(Or.inr rfl), ?_⟩
                intro _ _
                refine ⟨fun c80 => absurd (show (1 : Int32) = 0 from c80) (by decide), fun c80 => ?_⟩
                refine ⟨a3, ea3, ?_⟩
                refine ⟨o_a3, ?_⟩
                refine u_X10_minutes ?_
                refine u_X10_minutes_0 ?_
                refine ⟨o_a3, ?_⟩
                obtain ⟨a82, ea82, o_a82, l_a82⟩ := shl 38 rfl hI o_a3
                refine ⟨a82, ea82, ?_⟩
                refine ⟨o_a82, ?_⟩
                refine ⟨(vin l_a82 (m := 12) (by decide) (qm708 c12 r_x21 c22 c34 r_x43 c44 g_x56 g_x59 c60 c69)), ?_⟩
                intro x83 ex83
                have gy_x83 : 0 ≤ v2 ∧ v2 < fI S1 a3 3 := by rw [← d_x43]; exact (qm709 c12 r_x21 c22 c34 r_x43 c44 g_x56 g_x59 c60 c69)
                have g_x83 : (1 : Int32) ≤ x83 ∧ x83 ≤ (60 : Int32) := by rw [ex83]; exact wg_at (ml_wg hI o_v0 ea3) 2 rfl gy_x83 ea82
                refine ⟨(qm710 c12 r_x21 c22 c34 r_x43 c44 g_x56 g_x59 c60 c69), ?_⟩
                intro x84 ex84
                have dv_x84 : 0 ≤ x84 ∧ x84 ≤ ((x83 + v3) - (1 : Int32)) := by rw [ex84]; exact dv0 (qm711 c12 r_x21 c22 c34 r_x43 c44 g_x56 g_x59 c60 c69 g_x83 ex84) (i32pos (qm712 c12 r_x21 c22 c34 r_x43 c44 g_x56 g_x59 c60 c69 g_x83 ex84))
                have dw_x84 : (1 : Int32) ≤ x84 := by rw [ex84]; exact dv1 (qm713 c12 r_x21 c22 c34 r_x43 c44 g_x56 g_x59 c60 c69 g_x83 ex84) (qm714 c12 r_x21 c22 c34 r_x43 c44 g_x56 g_x59 c60 c69 g_x83 ex84)
                intro _
                refine u_X11_good ?_
                refine u_X11_good_0 ?_
                refine ⟨o_v0, ?_⟩
                intro S86 eS86
                have hIn : IV S86 := by rw [eS86]; exact iv11_sI hI o_v0 (by decide) (nu_free (by decide))
                have hI := hIn
                have f0 := fr_I eS86 g0 f0 o_v0 (by decide)
                have d_kv2 := rd_Ij eS86 (by decide) d_kv2
                have d_x21 := rd_Ik eS86 o_v0 o_a3 (by decide) d_x21
                have d_x43 := rd_Ik eS86 o_v0 o_a3 (by decide) d_x43
                obtain ⟨kv87, hkv87⟩ : ∃ z : Int32, z = (0 : Int32) := ⟨_, rfl⟩
                have d_kv87 := rd_Is eS86 hkv87
                have ea3 := rf_I eS86 ea3
                have ea55 := rf_I eS86 ea55
                have ea58 := rf_I eS86 ea58
                have ea82 := rf_I eS86 ea82
                have l_a55 := ln_I eS86 l_a55
                have l_a58 := ln_I eS86 l_a58
                have l_a82 := ln_I eS86 l_a82
                have g0 := gr_I eS86 g0
                have o_a3 := ob_I eS86 o_a3
                have o_a55 := ob_I eS86 o_a55
                have o_a58 := ob_I eS86 o_a58
                have o_a82 := ob_I eS86 o_a82
                have o_v0 := ob_I eS86 o_v0
                intro S88 eS88
                have hIn : IV S88 := by rw [eS88]; exact iv11_sI hI o_v0 (by decide) (nu_free (by decide))
                have hI := hIn
                have f0 := fr_I eS88 g0 f0 o_v0 (by decide)
                have d_kv2 := rd_Ij eS88 (by decide) d_kv2
                have d_x21 := rd_Ik eS88 o_v0 o_a3 (by decide) d_x21
                have d_x43 := rd_Ik eS88 o_v0 o_a3 (by decide) d_x43
                have d_kv87 := rd_Ij eS88 (by decide) d_kv87
                obtain ⟨kv89, hkv89⟩ : ∃ z : Int32, z = (-1 : Int32) := ⟨_, rfl⟩
                have d_kv89 := rd_Is eS88 hkv89
                have ea3 := rf_I eS88 ea3
                have ea55 := rf_I eS88 ea55
                have ea58 := rf_I eS88 ea58
                have ea82 := rf_I eS88 ea82
                have l_a55 := ln_I eS88 l_a55
                have l_a58 := ln_I eS88 l_a58
                have l_a82 := ln_I eS88 l_a82
                have g0 := gr_I eS88 g0
                have o_a3 := ob_I eS88 o_a3
                have o_a55 := ob_I eS88 o_a55
                have o_a58 := ob_I eS88 o_a58
                have o_a82 := ob_I eS88 o_a82
                have o_v0 := ob_I eS88 o_v0
                intro _
                exact hq _ _ hI g0 f0
set_option maxHeartbeats 4000000 in
set_option maxRecDepth 20000 in
theorem m_X11_road {v0 : Nat} {v1 : Int32} {v2 : Int32} {Q : Int32 → HS → Prop} {S : HS} (hI : IV S) (o_v0 : ob S v0 11)     (hq : ∀ (r : Int32) (T : HS), IV T → Gr S T → FRI [(11, 0), (11, 1), (11, 2)] [] S T → Q r T) : P_X11_road v0 v1 v2 Q S := by
  have g0 := gr_rf S
  have f0 := fri_rf [(11, 0), (11, 1), (11, 2)] [] S
  refine u_X11_road ?_
  refine u_X11_road_0 ?_
  refine ⟨o_v0, ?_⟩
  intro S1 eS1
  have hIn : IV S1 := by rw [eS1]; exact iv11_sI hI o_v0 (by decide) (nu_free (by decide))
  have hI := hIn
  have f0 := fr_I eS1 g0 f0 o_v0 (by decide)
  obtain ⟨kv2, hkv2⟩ : ∃ z : Int32, z = (0 : Int32) := ⟨_, rfl⟩
  have d_kv2 := rd_Is eS1 hkv2
  have g0 := gr_I eS1 g0
  have o_v0 := ob_I eS1 o_v0
  refine u_X11_isRoad ?_
  refine u_X11_isRoad_0 ?_
  refine ⟨o_v0, ?_⟩
  refine ⟨fun e4 => ?_, fun a3 ea3 => ?_⟩
  · intro _ _
    refine ⟨fun c6 => ?_, fun c6 => absurd (show ¬ (0 : Int32) = 0 from c6) (by decide)⟩
    refine u_X11_road_22 ?_
    refine ⟨o_v0, ?_⟩
    refine u_X11_refused ?_
    refine u_X11_refused_0 ?_
    refine ⟨o_v0, ?_⟩
    intro S7 eS7
    have hIn : IV S7 := by rw [eS7]; exact iv11_sI hI o_v0 (by decide) (nu_free (by decide))
    have hI := hIn
    have f0 := fr_I eS7 g0 f0 o_v0 (by decide)
    have d_kv2 := rd_Ij eS7 (by decide) d_kv2
    obtain ⟨kv8, hkv8⟩ : ∃ z : Int32, z = (1 : Int32) := ⟨_, rfl⟩
    have d_kv8 := rd_Is eS7 hkv8
    have g0 := gr_I eS7 g0
    have o_v0 := ob_I eS7 o_v0
    intro S9 eS9
    have hIn : IV S9 := by rw [eS9]; exact iv11_sI hI o_v0 (by decide) (nu_free (by decide))
    have hI := hIn
    have f0 := fr_I eS9 g0 f0 o_v0 (by decide)
    have d_kv2 := rd_Ij eS9 (by decide) d_kv2
    have d_kv8 := rd_Ij eS9 (by decide) d_kv8
    obtain ⟨kv10, hkv10⟩ : ∃ z : Int32, z = (-1 : Int32) := ⟨_, rfl⟩
    have d_kv10 := rd_Is eS9 hkv10
    have g0 := gr_I eS9 g0
    have o_v0 := ob_I eS9 o_v0
    intro _
    exact hq _ _ hI g0 f0
  · have o_a3 := ml_ob hI o_v0 ea3
    refine ⟨fun c12 => ?_, fun c12 => ?_⟩
    · intro _ _
      refine ⟨fun c14 => ?_, fun c14 => absurd (show ¬ (0 : Int32) = 0 from c14) (by decide)⟩
      refine u_X11_road_22 ?_
      refine ⟨o_v0, ?_⟩
      refine u_X11_refused ?_
      refine u_X11_refused_0 ?_
      refine ⟨o_v0, ?_⟩
      intro S15 eS15
      have hIn : IV S15 := by rw [eS15]; exact iv11_sI hI o_v0 (by decide) (nu_free (by decide))
      have hI := hIn
      have f0 := fr_I eS15 g0 f0 o_v0 (by decide)
      have d_kv2 := rd_Ij eS15 (by decide) d_kv2
      obtain ⟨kv16, hkv16⟩ : ∃ z : Int32, z = (1 : Int32) := ⟨_, rfl⟩
      have d_kv16 := rd_Is eS15 hkv16
      have ea3 := rf_I eS15 ea3
      have g0 := gr_I eS15 g0
      have o_a3 := ob_I eS15 o_a3
      have o_v0 := ob_I eS15 o_v0
      intro S17 eS17
      have hIn : IV S17 := by rw [eS17]; exact iv11_sI hI o_v0 (by decide) (nu_free (by decide))
      have hI := hIn
      have f0 := fr_I eS17 g0 f0 o_v0 (by decide)
      have d_kv2 := rd_Ij eS17 (by decide) d_kv2
      have d_kv16 := rd_Ij eS17 (by decide) d_kv16
      obtain ⟨kv18, hkv18⟩ : ∃ z : Int32, z = (-1 : Int32) := ⟨_, rfl⟩
      have d_kv18 := rd_Is eS17 hkv18
      have ea3 := rf_I eS17 ea3
      have g0 := gr_I eS17 g0
      have o_a3 := ob_I eS17 o_a3
      have o_v0 := ob_I eS17 o_v0
      intro _
      exact hq _ _ hI g0 f0
    · refine ⟨a3, ea3, ?_⟩
      refine ⟨o_a3, ?_⟩
      intro x21 ex21
      have r_x21 : (0 : Int32) ≤ x21 ∧ x21 ≤ (12 : Int32) := by rw [ex21]; exact nu 19 rfl hI o_a3
      have d_x21 := ex21
      refine ⟨fun c22 => ?_, fun c22 => ?_⟩
      · intro _ _
        refine ⟨fun c24 => ?_, fun c24 => absurd (show ¬ (0 : Int32) = 0 from c24) (by decide)⟩
        refine u_X11_road_22 ?_
        refine ⟨o_v0, ?_⟩
        refine u_X11_refused ?_
        refine u_X11_refused_0 ?_
        refine ⟨o_v0, ?_⟩
        intro S25 eS25
        have hIn : IV S25 := by rw [eS25]; exact iv11_sI hI o_v0 (by decide) (nu_free (by decide))
        have hI := hIn
        have f0 := fr_I eS25 g0 f0 o_v0 (by decide)
        have d_kv2 := rd_Ij eS25 (by decide) d_kv2
        have d_x21 := rd_Ik eS25 o_v0 o_a3 (by decide) d_x21
        obtain ⟨kv26, hkv26⟩ : ∃ z : Int32, z = (1 : Int32) := ⟨_, rfl⟩
        have d_kv26 := rd_Is eS25 hkv26
        have ea3 := rf_I eS25 ea3
        have g0 := gr_I eS25 g0
        have o_a3 := ob_I eS25 o_a3
        have o_v0 := ob_I eS25 o_v0
        intro S27 eS27
        have hIn : IV S27 := by rw [eS27]; exact iv11_sI hI o_v0 (by decide) (nu_free (by decide))
        have hI := hIn
        have f0 := fr_I eS27 g0 f0 o_v0 (by decide)
        have d_kv2 := rd_Ij eS27 (by decide) d_kv2
        have d_x21 := rd_Ik eS27 o_v0 o_a3 (by decide) d_x21
        have d_kv26 := rd_Ij eS27 (by decide) d_kv26
        obtain ⟨kv28, hkv28⟩ : ∃ z : Int32, z = (-1 : Int32) := ⟨_, rfl⟩
        have d_kv28 := rd_Is eS27 hkv28
        have ea3 := rf_I eS27 ea3
        have g0 := gr_I eS27 g0
        have o_a3 := ob_I eS27 o_a3
        have o_v0 := ob_I eS27 o_v0
        intro _
        exact hq _ _ hI g0 f0
      · intro _ _
        refine ⟨fun c31 => absurd (show (1 : Int32) = 0 from c31) (by decide), fun c31 => ?_⟩
        refine u_X11_in ?_
        refine u_X11_in_0 ?_
        refine ⟨fun c32 => ?_, fun c32 => ?_⟩
        · intro _ _
          refine ⟨fun c34 => absurd (show ¬ (0 : Int32) = 0 from c34) (by decide), fun c34 => ?_⟩
          refine u_X11_road_22 ?_
          refine ⟨o_v0, ?_⟩
          refine u_X11_refused ?_
          refine u_X11_refused_0 ?_
          refine ⟨o_v0, ?_⟩
          intro S35 eS35
          have hIn : IV S35 := by rw [eS35]; exact iv11_sI hI o_v0 (by decide) (nu_free (by decide))
          have hI := hIn
          have f0 := fr_I eS35 g0 f0 o_v0 (by decide)
          have d_kv2 := rd_Ij eS35 (by decide) d_kv2
          have d_x21 := rd_Ik eS35 o_v0 o_a3 (by decide) d_x21
          obtain ⟨kv36, hkv36⟩ : ∃ z : Int32, z = (1 : Int32) := ⟨_, rfl⟩
          have d_kv36 := rd_Is eS35 hkv36
          have ea3 := rf_I eS35 ea3
          have g0 := gr_I eS35 g0
          have o_a3 := ob_I eS35 o_a3
          have o_v0 := ob_I eS35 o_v0
          intro S37 eS37
          have hIn : IV S37 := by rw [eS37]; exact iv11_sI hI o_v0 (by decide) (nu_free (by decide))
          have hI := hIn
          have f0 := fr_I eS37 g0 f0 o_v0 (by decide)
          have d_kv2 := rd_Ij eS37 (by decide) d_kv2
          have d_x21 := rd_Ik eS37 o_v0 o_a3 (by decide) d_x21
          have d_kv36 := rd_Ij eS37 (by decide) d_kv36
          obtain ⟨kv38, hkv38⟩ : ∃ z : Int32, z = (-1 : Int32) := ⟨_, rfl⟩
          have d_kv38 := rd_Is eS37 hkv38
          have ea3 := rf_I eS37 ea3
          have g0 := gr_I eS37 g0
          have o_a3 := ob_I eS37 o_a3
          have o_v0 := ob_I eS37 o_v0
          intro _
          exact hq _ _ hI g0 f0
        · refine ⟨fun c40 => ?_, fun c40 => ?_⟩
          · intro _ _
            refine ⟨fun c42 => absurd (show ¬ (0 : Int32) = 0 from c42) (by decide), fun c42 => ?_⟩
            refine u_X11_road_22 ?_
            refine ⟨o_v0, ?_⟩
            refine u_X11_refused ?_
            refine u_X11_refused_0 ?_
            refine ⟨o_v0, ?_⟩
            intro S43 eS43
            have hIn : IV S43 := by rw [eS43]; exact iv11_sI hI o_v0 (by decide) (nu_free (by decide))
            have hI := hIn
            have f0 := fr_I eS43 g0 f0 o_v0 (by decide)
            have d_kv2 := rd_Ij eS43 (by decide) d_kv2
            have d_x21 := rd_Ik eS43 o_v0 o_a3 (by decide) d_x21
            obtain ⟨kv44, hkv44⟩ : ∃ z : Int32, z = (1 : Int32) := ⟨_, rfl⟩
            have d_kv44 := rd_Is eS43 hkv44
            have ea3 := rf_I eS43 ea3
            have g0 := gr_I eS43 g0
            have o_a3 := ob_I eS43 o_a3
            have o_v0 := ob_I eS43 o_v0
            intro S45 eS45
            have hIn : IV S45 := by rw [eS45]; exact iv11_sI hI o_v0 (by decide) (nu_free (by decide))
            have hI := hIn
            have f0 := fr_I eS45 g0 f0 o_v0 (by decide)
            have d_kv2 := rd_Ij eS45 (by decide) d_kv2
            have d_x21 := rd_Ik eS45 o_v0 o_a3 (by decide) d_x21
            have d_kv44 := rd_Ij eS45 (by decide) d_kv44
            obtain ⟨kv46, hkv46⟩ : ∃ z : Int32, z = (-1 : Int32) := ⟨_, rfl⟩
            have d_kv46 := rd_Is eS45 hkv46
            have ea3 := rf_I eS45 ea3
            have g0 := gr_I eS45 g0
            have o_a3 := ob_I eS45 o_a3
            have o_v0 := ob_I eS45 o_v0
            intro _
            exact hq _ _ hI g0 f0
          · intro _ _
            refine ⟨fun c49 => ?_, fun c49 => absurd (show (1 : Int32) = 0 from c49) (by decide)⟩
            refine ⟨fun c50 => ?_, fun c50 => ?_, fun c50 => ?_, fun c50 => ?_, fun c50 => ?_⟩
            · refine ⟨a3, ea3, ?_⟩
              refine ⟨o_a3, ?_⟩
              obtain ⟨a52, ea52, o_a52, l_a52⟩ := shl 39 rfl hI o_a3
              refine ⟨a52, ea52, ?_⟩
              refine ⟨o_a52, ?_⟩
              refine ⟨(vin l_a52 (m := 12) (by decide) (qm538 c12 r_x21 c22 c32 c40)), ?_⟩
              intro x53 ex53
              refine u_X11_good ?_
              refine u_X11_good_0 ?_
              refine ⟨o_v0, ?_⟩
              intro S54 eS54
              have hIn : IV S54 := by rw [eS54]; exact iv11_sI hI o_v0 (by decide) (nu_free (by decide))
              have hI := hIn
              have f0 := fr_I eS54 g0 f0 o_v0 (by decide)
              have d_kv2 := rd_Ij eS54 (by decide) d_kv2
              have d_x21 := rd_Ik eS54 o_v0 o_a3 (by decide) d_x21
              obtain ⟨kv55, hkv55⟩ : ∃ z : Int32, z = (0 : Int32) := ⟨_, rfl⟩
              have d_kv55 := rd_Is eS54 hkv55
              have ea3 := rf_I eS54 ea3
              have ea52 := rf_I eS54 ea52
              have l_a52 := ln_I eS54 l_a52
              have g0 := gr_I eS54 g0
              have o_a3 := ob_I eS54 o_a3
              have o_a52 := ob_I eS54 o_a52
              have o_v0 := ob_I eS54 o_v0
              intro S56 eS56
              have hIn : IV S56 := by rw [eS56]; exact iv11_sI hI o_v0 (by decide) (nu_free (by decide))
              have hI := hIn
              have f0 := fr_I eS56 g0 f0 o_v0 (by decide)
              have d_kv2 := rd_Ij eS56 (by decide) d_kv2
              have d_x21 := rd_Ik eS56 o_v0 o_a3 (by decide) d_x21
              have d_kv55 := rd_Ij eS56 (by decide) d_kv55
              obtain ⟨kv57, hkv57⟩ : ∃ z : Int32, z = (-1 : Int32) := ⟨_, rfl⟩
              have d_kv57 := rd_Is eS56 hkv57
              have ea3 := rf_I eS56 ea3
              have ea52 := rf_I eS56 ea52
              have l_a52 := ln_I eS56 l_a52
              have g0 := gr_I eS56 g0
              have o_a3 := ob_I eS56 o_a3
              have o_a52 := ob_I eS56 o_a52
              have o_v0 := ob_I eS56 o_v0
              intro _
              exact hq _ _ hI g0 f0
            · refine ⟨a3, ea3, ?_⟩
              refine ⟨o_a3, ?_⟩
              obtain ⟨a60, ea60, o_a60, l_a60⟩ := shl 35 rfl hI o_a3
              refine ⟨a60, ea60, ?_⟩
              refine ⟨o_a60, ?_⟩
              refine ⟨(vin l_a60 (m := 12) (by decide) (qm538 c12 r_x21 c22 c32 c40)), ?_⟩
              intro x61 ex61
              refine u_X11_good ?_
              refine u_X11_good_0 ?_
              refine ⟨o_v0, ?_⟩
              intro S62 eS62
              have hIn : IV S62 := by rw [eS62]; exact iv11_sI hI o_v0 (by decide) (nu_free (by decide))
              have hI := hIn
              have f0 := fr_I eS62 g0 f0 o_v0 (by decide)
              have d_kv2 := rd_Ij eS62 (by decide) d_kv2
              have d_x21 := rd_Ik eS62 o_v0 o_a3 (by decide) d_x21
              obtain ⟨kv63, hkv63⟩ : ∃ z : Int32, z = (0 : Int32) := ⟨_, rfl⟩
              have d_kv63 := rd_Is eS62 hkv63
              have ea3 := rf_I eS62 ea3
              have ea60 := rf_I eS62 ea60
              have l_a60 := ln_I eS62 l_a60
              have g0 := gr_I eS62 g0
              have o_a3 := ob_I eS62 o_a3
              have o_a60 := ob_I eS62 o_a60
              have o_v0 := ob_I eS62 o_v0
              intro S64 eS64
              have hIn : IV S64 := by rw [eS64]; exact iv11_sI hI o_v0 (by decide) (nu_free (by decide))
              have hI := hIn
              have f0 := fr_I eS64 g0 f0 o_v0 (by decide)
              have d_kv2 := rd_Ij eS64 (by decide) d_kv2
              have d_x21 := rd_Ik eS64 o_v0 o_a3 (by decide) d_x21
              have d_kv63 := rd_Ij eS64 (by decide) d_kv63
              obtain ⟨kv65, hkv65⟩ : ∃ z : Int32, z = (-1 : Int32) := ⟨_, rfl⟩
              have d_kv65 := rd_Is eS64 hkv65
              have ea3 := rf_I eS64 ea3
              have ea60 := rf_I eS64 ea60
              have l_a60 := ln_I eS64 l_a60
              have g0 := gr_I eS64 g0
              have o_a3 := ob_I eS64 o_a3
              have o_a60 := ob_I eS64 o_a60
              have o_v0 := ob_I eS64 o_v0
              intro _
              exact hq _ _ hI g0 f0
            · refine ⟨a3, ea3, ?_⟩
              refine ⟨o_a3, ?_⟩
              obtain ⟨a68, ea68, o_a68, l_a68⟩ := shl 36 rfl hI o_a3
              refine ⟨a68, ea68, ?_⟩
              refine ⟨o_a68, ?_⟩
              refine ⟨(vin l_a68 (m := 12) (by decide) (qm538 c12 r_x21 c22 c32 c40)), ?_⟩
              intro x69 ex69
              refine u_X11_good ?_
              refine u_X11_good_0 ?_
              refine ⟨o_v0, ?_⟩
              intro S70 eS70
              have hIn : IV S70 := by rw [eS70]; exact iv11_sI hI o_v0 (by decide) (nu_free (by decide))
              have hI := hIn
              have f0 := fr_I eS70 g0 f0 o_v0 (by decide)
              have d_kv2 := rd_Ij eS70 (by decide) d_kv2
              have d_x21 := rd_Ik eS70 o_v0 o_a3 (by decide) d_x21
              obtain ⟨kv71, hkv71⟩ : ∃ z : Int32, z = (0 : Int32) := ⟨_, rfl⟩
              have d_kv71 := rd_Is eS70 hkv71
              have ea3 := rf_I eS70 ea3
              have ea68 := rf_I eS70 ea68
              have l_a68 := ln_I eS70 l_a68
              have g0 := gr_I eS70 g0
              have o_a3 := ob_I eS70 o_a3
              have o_a68 := ob_I eS70 o_a68
              have o_v0 := ob_I eS70 o_v0
              intro S72 eS72
              have hIn : IV S72 := by rw [eS72]; exact iv11_sI hI o_v0 (by decide) (nu_free (by decide))
              have hI := hIn
              have f0 := fr_I eS72 g0 f0 o_v0 (by decide)
              have d_kv2 := rd_Ij eS72 (by decide) d_kv2
              have d_x21 := rd_Ik eS72 o_v0 o_a3 (by decide) d_x21
              have d_kv71 := rd_Ij eS72 (by decide) d_kv71
              obtain ⟨kv73, hkv73⟩ : ∃ z : Int32, z = (-1 : Int32) := ⟨_, rfl⟩
              have d_kv73 := rd_Is eS72 hkv73
              have ea3 := rf_I eS72 ea3
              have ea68 := rf_I eS72 ea68
              have l_a68 := ln_I eS72 l_a68
              have g0 := gr_I eS72 g0
              have o_a3 := ob_I eS72 o_a3
              have o_a68 := ob_I eS72 o_a68
              have o_v0 := ob_I eS72 o_v0
              intro _
              exact hq _ _ hI g0 f0
            · refine ⟨a3, ea3, ?_⟩
              refine ⟨o_a3, ?_⟩
              obtain ⟨a76, ea76, o_a76, l_a76⟩ := shl 37 rfl hI o_a3
              refine ⟨a76, ea76, ?_⟩
              refine ⟨o_a76, ?_⟩
              refine ⟨(vin l_a76 (m := 12) (by decide) (qm538 c12 r_x21 c22 c32 c40)), ?_⟩
              intro x77 ex77
              refine u_X11_good ?_
              refine u_X11_good_0 ?_
              refine ⟨o_v0, ?_⟩
              intro S78 eS78
              have hIn : IV S78 := by rw [eS78]; exact iv11_sI hI o_v0 (by decide) (nu_free (by decide))
              have hI := hIn
              have f0 := fr_I eS78 g0 f0 o_v0 (by decide)
              have d_kv2 := rd_Ij eS78 (by decide) d_kv2
              have d_x21 := rd_Ik eS78 o_v0 o_a3 (by decide) d_x21
              obtain ⟨kv79, hkv79⟩ : ∃ z : Int32, z = (0 : Int32) := ⟨_, rfl⟩
              have d_kv79 := rd_Is eS78 hkv79
              have ea3 := rf_I eS78 ea3
              have ea76 := rf_I eS78 ea76
              have l_a76 := ln_I eS78 l_a76
              have g0 := gr_I eS78 g0
              have o_a3 := ob_I eS78 o_a3
              have o_a76 := ob_I eS78 o_a76
              have o_v0 := ob_I eS78 o_v0
              intro S80 eS80
              have hIn : IV S80 := by rw [eS80]; exact iv11_sI hI o_v0 (by decide) (nu_free (by decide))
              have hI := hIn
              have f0 := fr_I eS80 g0 f0 o_v0 (by decide)
              have d_kv2 := rd_Ij eS80 (by decide) d_kv2
              have d_x21 := rd_Ik eS80 o_v0 o_a3 (by decide) d_x21
              have d_kv79 := rd_Ij eS80 (by decide) d_kv79
              obtain ⟨kv81, hkv81⟩ : ∃ z : Int32, z = (-1 : Int32) := ⟨_, rfl⟩
              have d_kv81 := rd_Is eS80 hkv81
              have ea3 := rf_I eS80 ea3
              have ea76 := rf_I eS80 ea76
              have l_a76 := ln_I eS80 l_a76
              have g0 := gr_I eS80 g0
              have o_a3 := ob_I eS80 o_a3
              have o_a76 := ob_I eS80 o_a76
              have o_v0 := ob_I eS80 o_v0
              intro _
              exact hq _ _ hI g0 f0
            · refine ⟨a3, ea3, ?_⟩
              refine ⟨o_a3, ?_⟩
              obtain ⟨a84, ea84, o_a84, l_a84⟩ := shl 38 rfl hI o_a3
              refine ⟨a84, ea84, ?_⟩
              refine ⟨o_a84, ?_⟩
              refine ⟨(vin l_a84 (m := 12) (by decide) (qm538 c12 r_x21 c22 c32 c40)), ?_⟩
              intro x85 ex85
              refine u_X11_good ?_
              refine u_X11_good_0 ?_
              refine ⟨o_v0, ?_⟩
              intro S86 eS86
              have hIn : IV S86 := by rw [eS86]; exact iv11_sI hI o_v0 (by decide) (nu_free (by decide))
              have hI := hIn
              have f0 := fr_I eS86 g0 f0 o_v0 (by decide)
              have d_kv2 := rd_Ij eS86 (by decide) d_kv2
              have d_x21 := rd_Ik eS86 o_v0 o_a3 (by decide) d_x21
              obtain ⟨kv87, hkv87⟩ : ∃ z : Int32, z = (0 : Int32) := ⟨_, rfl⟩
              have d_kv87 := rd_Is eS86 hkv87
              have ea3 := rf_I eS86 ea3
              have ea84 := rf_I eS86 ea84
              have l_a84 := ln_I eS86 l_a84
              have g0 := gr_I eS86 g0
              have o_a3 := ob_I eS86 o_a3
              have o_a84 := ob_I eS86 o_a84
              have o_v0 := ob_I eS86 o_v0
              intro S88 eS88
              have hIn : IV S88 := by rw [eS88]; exact iv11_sI hI o_v0 (by decide) (nu_free (by decide))
              have hI := hIn
              have f0 := fr_I eS88 g0 f0 o_v0 (by decide)
              have d_kv2 := rd_Ij eS88 (by decide) d_kv2
              have d_x21 := rd_Ik eS88 o_v0 o_a3 (by decide) d_x21
              have d_kv87 := rd_Ij eS88 (by decide) d_kv87
              obtain ⟨kv89, hkv89⟩ : ∃ z : Int32, z = (-1 : Int32) := ⟨_, rfl⟩
              have d_kv89 := rd_Is eS88 hkv89
              have ea3 := rf_I eS88 ea3
              have ea84 := rf_I eS88 ea84
              have l_a84 := ln_I eS88 l_a84
              have g0 := gr_I eS88 g0
              have o_a3 := ob_I eS88 o_a3
              have o_a84 := ob_I eS88 o_a84
              have o_v0 := ob_I eS88 o_v0
              intro _
              exact hq _ _ hI g0 f0
set_option maxHeartbeats 4000000 in
set_option maxRecDepth 20000 in
theorem m_X11_round {v0 : Nat} {v1 : Int32} {v2 : Int32} {v3 : Int32} {v4 : Int32} {Q : Int64 → HS → Prop} {S : HS} (hI : IV S) (o_v0 : ob S v0 11)     (hq : ∀ (r : Int64) (T : HS), IV T → Gr S T → FRI [(11, 0), (11, 1), (11, 2)] [] S T → Q r T) : P_X11_round v0 v1 v2 v3 v4 Q S := by
  have g0 := gr_rf S
  have f0 := fri_rf [(11, 0), (11, 1), (11, 2)] [] S
  refine u_X11_round ?_
  refine u_X11_round_0 ?_
  refine ⟨o_v0, ?_⟩
  intro S1 eS1
  have hIn : IV S1 := by rw [eS1]; exact iv11_sI hI o_v0 (by decide) (nu_free (by decide))
  have hI := hIn
  have f0 := fr_I eS1 g0 f0 o_v0 (by decide)
  obtain ⟨kv2, hkv2⟩ : ∃ z : Int32, z = (0 : Int32) := ⟨_, rfl⟩
  have d_kv2 := rd_Is eS1 hkv2
  have g0 := gr_I eS1 g0
  have o_v0 := ob_I eS1 o_v0
  refine u_X11_isWalker ?_
  refine u_X11_isWalker_0 ?_
  refine ⟨o_v0, ?_⟩
  refine ⟨fun e4 => ?_, fun a3 ea3 => ?_⟩
  · intro _ _
    refine ⟨fun c6 => ?_, fun c6 => absurd (show ¬ (0 : Int32) = 0 from c6) (by decide)⟩
    refine u_X11_round_29 ?_
    refine ⟨o_v0, ?_⟩
    refine u_X11_refused ?_
    refine u_X11_refused_0 ?_
    refine ⟨o_v0, ?_⟩
    intro S7 eS7
    have hIn : IV S7 := by rw [eS7]; exact iv11_sI hI o_v0 (by decide) (nu_free (by decide))
    have hI := hIn
    have f0 := fr_I eS7 g0 f0 o_v0 (by decide)
    have d_kv2 := rd_Ij eS7 (by decide) d_kv2
    obtain ⟨kv8, hkv8⟩ : ∃ z : Int32, z = (1 : Int32) := ⟨_, rfl⟩
    have d_kv8 := rd_Is eS7 hkv8
    have g0 := gr_I eS7 g0
    have o_v0 := ob_I eS7 o_v0
    intro S9 eS9
    have hIn : IV S9 := by rw [eS9]; exact iv11_sI hI o_v0 (by decide) (nu_free (by decide))
    have hI := hIn
    have f0 := fr_I eS9 g0 f0 o_v0 (by decide)
    have d_kv2 := rd_Ij eS9 (by decide) d_kv2
    have d_kv8 := rd_Ij eS9 (by decide) d_kv8
    obtain ⟨kv10, hkv10⟩ : ∃ z : Int32, z = (-1 : Int32) := ⟨_, rfl⟩
    have d_kv10 := rd_Is eS9 hkv10
    have g0 := gr_I eS9 g0
    have o_v0 := ob_I eS9 o_v0
    intro _
    exact hq _ _ hI g0 f0
  · have o_a3 := ml_ob hI o_v0 ea3
    refine ⟨fun c12 => ?_, fun c12 => ?_⟩
    · intro _ _
      refine ⟨fun c14 => ?_, fun c14 => absurd (show ¬ (0 : Int32) = 0 from c14) (by decide)⟩
      refine u_X11_round_29 ?_
      refine ⟨o_v0, ?_⟩
      refine u_X11_refused ?_
      refine u_X11_refused_0 ?_
      refine ⟨o_v0, ?_⟩
      intro S15 eS15
      have hIn : IV S15 := by rw [eS15]; exact iv11_sI hI o_v0 (by decide) (nu_free (by decide))
      have hI := hIn
      have f0 := fr_I eS15 g0 f0 o_v0 (by decide)
      have d_kv2 := rd_Ij eS15 (by decide) d_kv2
      obtain ⟨kv16, hkv16⟩ : ∃ z : Int32, z = (1 : Int32) := ⟨_, rfl⟩
      have d_kv16 := rd_Is eS15 hkv16
      have ea3 := rf_I eS15 ea3
      have g0 := gr_I eS15 g0
      have o_a3 := ob_I eS15 o_a3
      have o_v0 := ob_I eS15 o_v0
      intro S17 eS17
      have hIn : IV S17 := by rw [eS17]; exact iv11_sI hI o_v0 (by decide) (nu_free (by decide))
      have hI := hIn
      have f0 := fr_I eS17 g0 f0 o_v0 (by decide)
      have d_kv2 := rd_Ij eS17 (by decide) d_kv2
      have d_kv16 := rd_Ij eS17 (by decide) d_kv16
      obtain ⟨kv18, hkv18⟩ : ∃ z : Int32, z = (-1 : Int32) := ⟨_, rfl⟩
      have d_kv18 := rd_Is eS17 hkv18
      have ea3 := rf_I eS17 ea3
      have g0 := gr_I eS17 g0
      have o_a3 := ob_I eS17 o_a3
      have o_v0 := ob_I eS17 o_v0
      intro _
      exact hq _ _ hI g0 f0
    · refine ⟨a3, ea3, ?_⟩
      refine ⟨o_a3, ?_⟩
      intro x21 ex21
      have r_x21 : (0 : Int32) ≤ x21 ∧ x21 ≤ (4 : Int32) := by rw [ex21]; exact nu 20 rfl hI o_a3
      have d_x21 := ex21
      refine ⟨fun c22 => ?_, fun c22 => ?_⟩
      · intro _ _
        refine ⟨fun c24 => ?_, fun c24 => absurd (show ¬ (0 : Int32) = 0 from c24) (by decide)⟩
        refine u_X11_round_29 ?_
        refine ⟨o_v0, ?_⟩
        refine u_X11_refused ?_
        refine u_X11_refused_0 ?_
        refine ⟨o_v0, ?_⟩
        intro S25 eS25
        have hIn : IV S25 := by rw [eS25]; exact iv11_sI hI o_v0 (by decide) (nu_free (by decide))
        have hI := hIn
        have f0 := fr_I eS25 g0 f0 o_v0 (by decide)
        have d_kv2 := rd_Ij eS25 (by decide) d_kv2
        have d_x21 := rd_Ik eS25 o_v0 o_a3 (by decide) d_x21
        obtain ⟨kv26, hkv26⟩ : ∃ z : Int32, z = (1 : Int32) := ⟨_, rfl⟩
        have d_kv26 := rd_Is eS25 hkv26
        have ea3 := rf_I eS25 ea3
        have g0 := gr_I eS25 g0
        have o_a3 := ob_I eS25 o_a3
        have o_v0 := ob_I eS25 o_v0
        intro S27 eS27
        have hIn : IV S27 := by rw [eS27]; exact iv11_sI hI o_v0 (by decide) (nu_free (by decide))
        have hI := hIn
        have f0 := fr_I eS27 g0 f0 o_v0 (by decide)
        have d_kv2 := rd_Ij eS27 (by decide) d_kv2
        have d_x21 := rd_Ik eS27 o_v0 o_a3 (by decide) d_x21
        have d_kv26 := rd_Ij eS27 (by decide) d_kv26
        obtain ⟨kv28, hkv28⟩ : ∃ z : Int32, z = (-1 : Int32) := ⟨_, rfl⟩
        have d_kv28 := rd_Is eS27 hkv28
        have ea3 := rf_I eS27 ea3
        have g0 := gr_I eS27 g0
        have o_a3 := ob_I eS27 o_a3
        have o_v0 := ob_I eS27 o_v0
        intro _
        exact hq _ _ hI g0 f0
      · intro _ _
        refine ⟨fun c31 => absurd (show (1 : Int32) = 0 from c31) (by decide), fun c31 => ?_⟩
        refine u_X11_isRoad ?_
        refine u_X11_isRoad_0 ?_
        refine ⟨o_v0, ?_⟩
        refine ⟨fun e33 => (nomatch (e33.symm.trans ea3)), fun a32 ea32 => ?_⟩
        obtain rfl : a3 = a32 := Option.some.inj (ea3.symm.trans ea32)
        refine ⟨fun c34 => ?_, fun c34 => ?_⟩
        · intro _ _
          refine ⟨fun c36 => ?_, fun c36 => absurd (show ¬ (0 : Int32) = 0 from c36) (by decide)⟩
          refine u_X11_round_29 ?_
          refine ⟨o_v0, ?_⟩
          refine u_X11_refused ?_
          refine u_X11_refused_0 ?_
          refine ⟨o_v0, ?_⟩
          intro S37 eS37
          have hIn : IV S37 := by rw [eS37]; exact iv11_sI hI o_v0 (by decide) (nu_free (by decide))
          have hI := hIn
          have f0 := fr_I eS37 g0 f0 o_v0 (by decide)
          have d_kv2 := rd_Ij eS37 (by decide) d_kv2
          have d_x21 := rd_Ik eS37 o_v0 o_a3 (by decide) d_x21
          obtain ⟨kv38, hkv38⟩ : ∃ z : Int32, z = (1 : Int32) := ⟨_, rfl⟩
          have d_kv38 := rd_Is eS37 hkv38
          have ea3 := rf_I eS37 ea3
          have g0 := gr_I eS37 g0
          have o_a3 := ob_I eS37 o_a3
          have o_v0 := ob_I eS37 o_v0
          intro S39 eS39
          have hIn : IV S39 := by rw [eS39]; exact iv11_sI hI o_v0 (by decide) (nu_free (by decide))
          have hI := hIn
          have f0 := fr_I eS39 g0 f0 o_v0 (by decide)
          have d_kv2 := rd_Ij eS39 (by decide) d_kv2
          have d_x21 := rd_Ik eS39 o_v0 o_a3 (by decide) d_x21
          have d_kv38 := rd_Ij eS39 (by decide) d_kv38
          obtain ⟨kv40, hkv40⟩ : ∃ z : Int32, z = (-1 : Int32) := ⟨_, rfl⟩
          have d_kv40 := rd_Is eS39 hkv40
          have ea3 := rf_I eS39 ea3
          have g0 := gr_I eS39 g0
          have o_a3 := ob_I eS39 o_a3
          have o_v0 := ob_I eS39 o_v0
          intro _
          exact hq _ _ hI g0 f0
        · refine ⟨a3, ea3, ?_⟩
          refine ⟨o_a3, ?_⟩
          intro x43 ex43
          have r_x43 : (0 : Int32) ≤ x43 ∧ x43 ≤ (12 : Int32) := by rw [ex43]; exact nu 19 rfl hI o_a3
          have d_x43 := ex43
          refine ⟨fun c44 => ?_, fun c44 => ?_⟩
          · intro _ _
            refine ⟨fun c46 => ?_, fun c46 => absurd (show ¬ (0 : Int32) = 0 from c46) (by decide)⟩
            refine u_X11_round_29 ?_
            refine ⟨o_v0, ?_⟩
            refine u_X11_refused ?_
            refine u_X11_refused_0 ?_
            refine ⟨o_v0, ?_⟩
            intro S47 eS47
            have hIn : IV S47 := by rw [eS47]; exact iv11_sI hI o_v0 (by decide) (nu_free (by decide))
            have hI := hIn
            have f0 := fr_I eS47 g0 f0 o_v0 (by decide)
            have d_kv2 := rd_Ij eS47 (by decide) d_kv2
            have d_x21 := rd_Ik eS47 o_v0 o_a3 (by decide) d_x21
            have d_x43 := rd_Ik eS47 o_v0 o_a3 (by decide) d_x43
            obtain ⟨kv48, hkv48⟩ : ∃ z : Int32, z = (1 : Int32) := ⟨_, rfl⟩
            have d_kv48 := rd_Is eS47 hkv48
            have ea3 := rf_I eS47 ea3
            have g0 := gr_I eS47 g0
            have o_a3 := ob_I eS47 o_a3
            have o_v0 := ob_I eS47 o_v0
            intro S49 eS49
            have hIn : IV S49 := by rw [eS49]; exact iv11_sI hI o_v0 (by decide) (nu_free (by decide))
            have hI := hIn
            have f0 := fr_I eS49 g0 f0 o_v0 (by decide)
            have d_kv2 := rd_Ij eS49 (by decide) d_kv2
            have d_x21 := rd_Ik eS49 o_v0 o_a3 (by decide) d_x21
            have d_x43 := rd_Ik eS49 o_v0 o_a3 (by decide) d_x43
            have d_kv48 := rd_Ij eS49 (by decide) d_kv48
            obtain ⟨kv50, hkv50⟩ : ∃ z : Int32, z = (-1 : Int32) := ⟨_, rfl⟩
            have d_kv50 := rd_Is eS49 hkv50
            have ea3 := rf_I eS49 ea3
            have g0 := gr_I eS49 g0
            have o_a3 := ob_I eS49 o_a3
            have o_v0 := ob_I eS49 o_v0
            intro _
            exact hq _ _ hI g0 f0
          · intro _ _
            refine ⟨fun c53 => absurd (show (1 : Int32) = 0 from c53) (by decide), fun c53 => ?_⟩
            refine u_X11_isHour ?_
            refine u_X11_isHour_0 ?_
            refine ⟨o_v0, ?_⟩
            refine ⟨fun e55 => (nomatch (e55.symm.trans ea3)), fun a54 ea54 => ?_⟩
            obtain rfl : a3 = a54 := Option.some.inj (ea3.symm.trans ea54)
            refine ⟨fun c56 => ?_, fun c56 => ?_⟩
            · intro _ _
              refine ⟨fun c58 => absurd (show ¬ (0 : Int32) = 0 from c58) (by decide), fun c58 => ?_⟩
              refine u_X11_round_29 ?_
              refine ⟨o_v0, ?_⟩
              refine u_X11_refused ?_
              refine u_X11_refused_0 ?_
              refine ⟨o_v0, ?_⟩
              intro S59 eS59
              have hIn : IV S59 := by rw [eS59]; exact iv11_sI hI o_v0 (by decide) (nu_free (by decide))
              have hI := hIn
              have f0 := fr_I eS59 g0 f0 o_v0 (by decide)
              have d_kv2 := rd_Ij eS59 (by decide) d_kv2
              have d_x21 := rd_Ik eS59 o_v0 o_a3 (by decide) d_x21
              have d_x43 := rd_Ik eS59 o_v0 o_a3 (by decide) d_x43
              obtain ⟨kv60, hkv60⟩ : ∃ z : Int32, z = (1 : Int32) := ⟨_, rfl⟩
              have d_kv60 := rd_Is eS59 hkv60
              have ea3 := rf_I eS59 ea3
              have g0 := gr_I eS59 g0
              have o_a3 := ob_I eS59 o_a3
              have o_v0 := ob_I eS59 o_v0
              intro S61 eS61
              have hIn : IV S61 := by rw [eS61]; exact iv11_sI hI o_v0 (by decide) (nu_free (by decide))
              have hI := hIn
              have f0 := fr_I eS61 g0 f0 o_v0 (by decide)
              have d_kv2 := rd_Ij eS61 (by decide) d_kv2
              have d_x21 := rd_Ik eS61 o_v0 o_a3 (by decide) d_x21
              have d_x43 := rd_Ik eS61 o_v0 o_a3 (by decide) d_x43
              have d_kv60 := rd_Ij eS61 (by decide) d_kv60
              obtain ⟨kv62, hkv62⟩ : ∃ z : Int32, z = (-1 : Int32) := ⟨_, rfl⟩
              have d_kv62 := rd_Is eS61 hkv62
              have ea3 := rf_I eS61 ea3
              have g0 := gr_I eS61 g0
              have o_a3 := ob_I eS61 o_a3
              have o_v0 := ob_I eS61 o_v0
              intro _
              exact hq _ _ hI g0 f0
            · refine ⟨a3, ea3, ?_⟩
              refine ⟨o_a3, ?_⟩
              intro x65 ex65
              have r_x65 : (0 : Int32) ≤ x65 ∧ x65 ≤ (6 : Int32) := by rw [ex65]; exact nu 17 rfl hI o_a3
              have d_x65 := ex65
              refine ⟨fun c66 => ?_, fun c66 => ?_⟩
              · intro _ _
                refine ⟨fun c68 => absurd (show ¬ (0 : Int32) = 0 from c68) (by decide), fun c68 => ?_⟩
                refine u_X11_round_29 ?_
                refine ⟨o_v0, ?_⟩
                refine u_X11_refused ?_
                refine u_X11_refused_0 ?_
                refine ⟨o_v0, ?_⟩
                intro S69 eS69
                have hIn : IV S69 := by rw [eS69]; exact iv11_sI hI o_v0 (by decide) (nu_free (by decide))
                have hI := hIn
                have f0 := fr_I eS69 g0 f0 o_v0 (by decide)
                have d_kv2 := rd_Ij eS69 (by decide) d_kv2
                have d_x21 := rd_Ik eS69 o_v0 o_a3 (by decide) d_x21
                have d_x43 := rd_Ik eS69 o_v0 o_a3 (by decide) d_x43
                have d_x65 := rd_Ik eS69 o_v0 o_a3 (by decide) d_x65
                obtain ⟨kv70, hkv70⟩ : ∃ z : Int32, z = (1 : Int32) := ⟨_, rfl⟩
                have d_kv70 := rd_Is eS69 hkv70
                have ea3 := rf_I eS69 ea3
                have g0 := gr_I eS69 g0
                have o_a3 := ob_I eS69 o_a3
                have o_v0 := ob_I eS69 o_v0
                intro S71 eS71
                have hIn : IV S71 := by rw [eS71]; exact iv11_sI hI o_v0 (by decide) (nu_free (by decide))
                have hI := hIn
                have f0 := fr_I eS71 g0 f0 o_v0 (by decide)
                have d_kv2 := rd_Ij eS71 (by decide) d_kv2
                have d_x21 := rd_Ik eS71 o_v0 o_a3 (by decide) d_x21
                have d_x43 := rd_Ik eS71 o_v0 o_a3 (by decide) d_x43
                have d_x65 := rd_Ik eS71 o_v0 o_a3 (by decide) d_x65
                have d_kv70 := rd_Ij eS71 (by decide) d_kv70
                obtain ⟨kv72, hkv72⟩ : ∃ z : Int32, z = (-1 : Int32) := ⟨_, rfl⟩
                have d_kv72 := rd_Is eS71 hkv72
                have ea3 := rf_I eS71 ea3
                have g0 := gr_I eS71 g0
                have o_a3 := ob_I eS71 o_a3
                have o_v0 := ob_I eS71 o_v0
                intro _
                exact hq _ _ hI g0 f0
              · intro _ _
                refine ⟨fun c75 => ?_, fun c75 => absurd (show (1 : Int32) = 0 from c75) (by decide)⟩
                refine m_X11_wetAtBest hI o_v0 (qm659 c12 r_x21 c22 c34 r_x43 c44 c56 r_x65 c66) (qm660 c12 r_x21 c22 c34 r_x43 c44 c56 r_x65 c66) ⟨_, ea3, (qm661 c12 r_x21 c22 c34 r_x43 c44 c56 r_x65 c66), (by rw [← d_x21]; exact (qm662 c12 r_x21 c22 c34 r_x43 c44 c56 r_x65 c66))⟩ (fun x76 S77 hI2 g78 p_x76 => ?_)
                subst p_x76
                intro _
                refine m_X11_wetAtBest hI o_v0 (qm659 c12 r_x21 c22 c34 r_x43 c44 c56 r_x65 c66) (qm660 c12 r_x21 c22 c34 r_x43 c44 c56 r_x65 c66) ⟨_, ea3, (qm661 c12 r_x21 c22 c34 r_x43 c44 c56 r_x65 c66), (by rw [← d_x21]; exact (qm662 c12 r_x21 c22 c34 r_x43 c44 c56 r_x65 c66))⟩ (fun x80 S81 hI2 g82 p_x80 => ?_)
                subst p_x80
                intro _
                refine m_X11_told hI o_v0 (qm663 c12 r_x21 c22 c34 r_x43 c44 c56 r_x65 c66) (fun x84 S85 hJ g86 fc87 => ?_)
                have hI := hJ
                have d_kv2 := d_kv2.trans (fri_at fc87 (by decide) (by decide) o_v0).symm
                have d_x21 := d_x21.trans (fri_at fc87 (by decide) (by decide) o_a3).symm
                have d_x43 := d_x43.trans (fri_at fc87 (by decide) (by decide) o_a3).symm
                have d_x65 := d_x65.trans (fri_at fc87 (by decide) (by decide) o_a3).symm
                have ea3 := (frr_at fc87 (by decide) (by decide) o_v0).trans ea3
                have f0 := fri_tr (S := S1) g0 f0 fc87 (by decide) (by decide)
                have o_a3 := gr_ob g86 o_a3
                have o_v0 := gr_ob g86 o_v0
                have g0 := gr_tr (T := S1) g0 g86
                intro _
                exact hq _ _ hI g0 f0
