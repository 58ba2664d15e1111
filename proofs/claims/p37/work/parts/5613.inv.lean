set_option maxHeartbeats 4000000 in
set_option maxRecDepth 20000 in
theorem m_X11_wetness {v0 : Nat} {v1 : Int32} {Q : Int64 → HS → Prop} {S : HS} (hI : IV S) (o_v0 : ob S v0 11)     (hq : ∀ (r : Int64) (T : HS), IV T → Gr S T → FRI [(11, 0), (11, 1), (11, 2)] [] S T → Q r T) : P_X11_wetness v0 v1 Q S := by
  have g0 := gr_rf S
  have f0 := fri_rf [(11, 0), (11, 1), (11, 2)] [] S
  refine u_X11_wetness ?_
  refine u_X11_wetness_0 ?_
  refine ⟨o_v0, ?_⟩
  intro S1 eS1
  have hIn : IV S1 := by rw [eS1]; exact iv11_sI hI o_v0 (by decide) (nu_free (by decide))
  have hI := hIn
  have f0 := fr_I eS1 g0 f0 o_v0 (by decide)
  obtain ⟨kv2, hkv2⟩ : ∃ z : Int32, z = (0 : Int32) := ⟨_, rfl⟩
  have d_kv2 := rd_Is eS1 hkv2
  have g0 := gr_I eS1 g0
  have o_v0 := ob_I eS1 o_v0
  refine u_X11_isDay ?_
  refine u_X11_isDay_0 ?_
  refine ⟨o_v0, ?_⟩
  refine ⟨fun e4 => ?_, fun a3 ea3 => ?_⟩
  · intro _ _
    refine ⟨fun c6 => absurd (show ¬ (0 : Int32) = 0 from c6) (by decide), fun c6 => ?_⟩
    refine u_X11_refused ?_
    refine u_X11_refused_0 ?_
    refine ⟨o_v0, ?_⟩
    intro S7 eS7
    have hIn : IV S7 := by rw [eS7]; exact iv11_sI hI o_v0 (by decide) (nu_free (by decide))
    have hI := hIn
    have f0 := fr_I eS7 g0 f0 o_v0 (by decide)
    have d_kv2 := rd_Ij eS7 (by decide) d_kv2
    obtain ⟨kv8, hkv8⟩ : ∃ z : Int32, z = (1 : Int32) := ⟨_, rfl⟩
    have d_kv8 := rd_Is eS7 hkv8
    have g0 := gr_I eS7 g0
    have o_v0 := ob_I eS7 o_v0
    intro S9 eS9
    have hIn : IV S9 := by rw [eS9]; exact iv11_sI hI o_v0 (by decide) (nu_free (by decide))
    have hI := hIn
    have f0 := fr_I eS9 g0 f0 o_v0 (by decide)
    have d_kv2 := rd_Ij eS9 (by decide) d_kv2
    have d_kv8 := rd_Ij eS9 (by decide) d_kv8
    obtain ⟨kv10, hkv10⟩ : ∃ z : Int32, z = (-1 : Int32) := ⟨_, rfl⟩
    have d_kv10 := rd_Is eS9 hkv10
    have g0 := gr_I eS9 g0
    have o_v0 := ob_I eS9 o_v0
    intro _
    exact hq _ _ hI g0 f0
  · have o_a3 := ml_ob hI o_v0 ea3
    intro x12 ex12
    have r_x12 : (-2 : Int32) ≤ x12 ∧ x12 ≤ (3 : Int32) := by rw [ex12]; exact nu 26 rfl hI o_v0
    have d_x12 := ex12
    obtain ⟨kv13, d_kv13⟩ : ∃ z : Int32, z = fI S1 a3 4 := ⟨_, rfl⟩
    have r_kv13 : (0 : Int32) ≤ kv13 ∧ kv13 ≤ (4 : Int32) := by rw [d_kv13]; exact nu 20 rfl hI o_a3
    have wh_x12 : x12 = -2 ∨ (0 ≤ x12 ∧ x12 < kv13) := by rw [ex12, d_kv13]; exact ml_who hI o_v0 ea3
    refine ⟨fun c14 => ?_, fun c14 => ?_⟩
    · intro _ _
      refine ⟨fun c16 => absurd (show ¬ (0 : Int32) = 0 from c16) (by decide), fun c16 => ?_⟩
      refine u_X11_refused ?_
      refine u_X11_refused_0 ?_
      refine ⟨o_v0, ?_⟩
      intro S17 eS17
      have hIn : IV S17 := by rw [eS17]; exact iv11_sI hI o_v0 (by decide) (nu_free (by decide))
      have hI := hIn
      have f0 := fr_I eS17 g0 f0 o_v0 (by decide)
      have d_kv2 := rd_Ij eS17 (by decide) d_kv2
      have d_x12 := rd_Ij eS17 (by decide) d_x12
      have d_kv13 := rd_Ik eS17 o_v0 o_a3 (by decide) d_kv13
      obtain ⟨kv18, hkv18⟩ : ∃ z : Int32, z = (1 : Int32) := ⟨_, rfl⟩
      have d_kv18 := rd_Is eS17 hkv18
      have ea3 := rf_I eS17 ea3
      have g0 := gr_I eS17 g0
      have o_a3 := ob_I eS17 o_a3
      have o_v0 := ob_I eS17 o_v0
      intro S19 eS19
      have hIn : IV S19 := by rw [eS19]; exact iv11_sI hI o_v0 (by decide) (nu_free (by decide))
      have hI := hIn
      have f0 := fr_I eS19 g0 f0 o_v0 (by decide)
      have d_kv2 := rd_Ij eS19 (by decide) d_kv2
      have d_x12 := rd_Ij eS19 (by decide) d_x12
      have d_kv13 := rd_Ik eS19 o_v0 o_a3 (by decide) d_kv13
      have d_kv18 := rd_Ij eS19 (by decide) d_kv18
      obtain ⟨kv20, hkv20⟩ : ∃ z : Int32, z = (-1 : Int32) := ⟨_, rfl⟩
      have d_kv20 := rd_Is eS19 hkv20
      have ea3 := rf_I eS19 ea3
      have g0 := gr_I eS19 g0
      have o_a3 := ob_I eS19 o_a3
      have o_v0 := ob_I eS19 o_v0
      intro _
      exact hq _ _ hI g0 f0
    · intro _ _
      refine ⟨fun c23 => ?_, fun c23 => absurd (show (1 : Int32) = 0 from c23) (by decide)⟩
      refine m_X11_gotInAll hI o_v0 (fun x24 S25 hI2 g26 p_x24 => ?_)
      subst p_x24
      intro _
      refine u_X11_holds ?_
      refine u_X11_holds_0 ?_
      refine ⟨o_v0, ?_⟩
      refine ⟨a3, ea3, ?_⟩
      refine ⟨o_a3, ?_⟩
      obtain ⟨a29, ea29, o_a29, l_a29⟩ := shl 41 rfl hI o_a3
      refine ⟨a29, ea29, ?_⟩
      intro x30 ex30
      have r_x30 : (-2 : Int32) ≤ x30 ∧ x30 ≤ (3 : Int32) := by rw [ex30]; exact nu 26 rfl hI o_v0
      have q_x30 : x30 = x12 := ex30.trans d_x12.symm
      have d_x30 := ex30
      have wh_x30 : x30 = -2 ∨ (0 ≤ x30 ∧ x30 < kv13) := by rw [ex30, d_kv13]; exact ml_who hI o_v0 ea3
      refine ⟨o_a29, ?_⟩
      refine ⟨(vin l_a29 (m := 4) (by decide) (qm547 r_x12 r_kv13 wh_x12 c14 r_x30 q_x30 wh_x30)), ?_⟩
      intro x31 ex31
      refine ⟨fun c32 => ?_, fun c32 => ?_⟩
      · intro _
        intro x34 ex34
        refine ⟨fun c35 => ?_, fun c35 => ?_⟩
        · refine u_X11_wetness_41 ?_
          refine ⟨o_v0, ?_⟩
          refine m_X11_told hI o_v0 (qm554 r_x12 r_kv13 wh_x12 c14 r_x30 q_x30 wh_x30 c32 ex34 c35) (fun x36 S37 hJ g38 fc39 => ?_)
          have hI := hJ
          have l_a29 := (gr_len g38 o_a29).trans l_a29
          have d_kv2 := d_kv2.trans (fri_at fc39 (by decide) (by decide) o_v0).symm
          have d_x30 := d_x30.trans (fri_at fc39 (by decide) (by decide) o_v0).symm
          have d_kv13 := d_kv13.trans (fri_at fc39 (by decide) (by decide) o_a3).symm
          have ea3 := (frr_at fc39 (by decide) (by decide) o_v0).trans ea3
          have ea29 := (frr_at fc39 (by decide) (by decide) o_a3).trans ea29
          have f0 := fri_tr (S := S1) g0 f0 fc39 (by decide) (by decide)
          have o_a29 := gr_ob g38 o_a29
          have o_a3 := gr_ob g38 o_a3
          have o_v0 := gr_ob g38 o_v0
          have g0 := gr_tr (T := S1) g0 g38
          intro _
          exact hq _ _ hI g0 f0
        · refine u_X11_wetness_41 ?_
          refine ⟨o_v0, ?_⟩
          refine m_X11_told hI o_v0 (qm555 r_x12 r_kv13 wh_x12 c14 r_x30 q_x30 wh_x30 c32 ex34 c35) (fun x40 S41 hJ g42 fc43 => ?_)
          have hI := hJ
          have l_a29 := (gr_len g42 o_a29).trans l_a29
          have d_kv2 := d_kv2.trans (fri_at fc43 (by decide) (by decide) o_v0).symm
          have d_x30 := d_x30.trans (fri_at fc43 (by decide) (by decide) o_v0).symm
          have d_kv13 := d_kv13.trans (fri_at fc43 (by decide) (by decide) o_a3).symm
          have ea3 := (frr_at fc43 (by decide) (by decide) o_v0).trans ea3
          have ea29 := (frr_at fc43 (by decide) (by decide) o_a3).trans ea29
          have f0 := fri_tr (S := S1) g0 f0 fc43 (by decide) (by decide)
          have o_a29 := gr_ob g42 o_a29
          have o_a3 := gr_ob g42 o_a3
          have o_v0 := gr_ob g42 o_v0
          have g0 := gr_tr (T := S1) g0 g42
          intro _
          exact hq _ _ hI g0 f0
      · refine ⟨a3, ea3, ?_⟩
        refine ⟨o_a3, ?_⟩
        obtain ⟨a45, ea45, o_a45, l_a45⟩ := shl 42 rfl hI o_a3
        refine ⟨a45, ea45, ?_⟩
        intro x46 ex46
        have r_x46 : (-2 : Int32) ≤ x46 ∧ x46 ≤ (3 : Int32) := by rw [ex46]; exact nu 26 rfl hI o_v0
        have q_x46 : x46 = x30 := ex46.trans d_x30.symm
        have d_x46 := ex46
        have wh_x46 : x46 = -2 ∨ (0 ≤ x46 ∧ x46 < kv13) := by rw [ex46, d_kv13]; exact ml_who hI o_v0 ea3
        refine ⟨o_a45, ?_⟩
        refine ⟨(vin l_a45 (m := 4) (by decide) (qm548 r_x12 r_kv13 wh_x12 c14 r_x30 q_x30 wh_x30 c32 r_x46 q_x46 wh_x46)), ?_⟩
        intro x47 ex47
        intro _
        intro x49 ex49
        refine ⟨fun c50 => ?_, fun c50 => ?_⟩
        · refine u_X11_wetness_41 ?_
          refine ⟨o_v0, ?_⟩
          refine m_X11_told hI o_v0 (qm556 r_x12 r_kv13 wh_x12 c14 r_x30 q_x30 wh_x30 c32 r_x46 q_x46 wh_x46 ex49 c50) (fun x51 S52 hJ g53 fc54 => ?_)
          have hI := hJ
          have l_a29 := (gr_len g53 o_a29).trans l_a29
          have l_a45 := (gr_len g53 o_a45).trans l_a45
          have d_kv2 := d_kv2.trans (fri_at fc54 (by decide) (by decide) o_v0).symm
          have d_x46 := d_x46.trans (fri_at fc54 (by decide) (by decide) o_v0).symm
          have d_kv13 := d_kv13.trans (fri_at fc54 (by decide) (by decide) o_a3).symm
          have ea3 := (frr_at fc54 (by decide) (by decide) o_v0).trans ea3
          have ea29 := (frr_at fc54 (by decide) (by decide) o_a3).trans ea29
          have ea45 := (frr_at fc54 (by decide) (by decide) o_a3).trans ea45
          have f0 := fri_tr (S := S1) g0 f0 fc54 (by decide) (by decide)
          have o_a29 := gr_ob g53 o_a29
          have o_a3 := gr_ob g53 o_a3
          have o_a45 := gr_ob g53 o_a45
          have o_v0 := gr_ob g53 o_v0
          have g0 := gr_tr (T := S1) g0 g53
          intro _
          exact hq _ _ hI g0 f0
        · refine u_X11_wetness_41 ?_
          refine ⟨o_v0, ?_⟩
          refine m_X11_told hI o_v0 (qm557 r_x12 r_kv13 wh_x12 c14 r_x30 q_x30 wh_x30 c32 r_x46 q_x46 wh_x46 ex49 c50) (fun x55 S56 hJ g57 fc58 => ?_)
          have hI := hJ
          have l_a29 := (gr_len g57 o_a29).trans l_a29
          have l_a45 := (gr_len g57 o_a45).trans l_a45
          have d_kv2 := d_kv2.trans (fri_at fc58 (by decide) (by decide) o_v0).symm
          have d_x46 := d_x46.trans (fri_at fc58 (by decide) (by decide) o_v0).symm
          have d_kv13 := d_kv13.trans (fri_at fc58 (by decide) (by decide) o_a3).symm
          have ea3 := (frr_at fc58 (by decide) (by decide) o_v0).trans ea3
          have ea29 := (frr_at fc58 (by decide) (by decide) o_a3).trans ea29
          have ea45 := (frr_at fc58 (by decide) (by decide) o_a3).trans ea45
          have f0 := fri_tr (S := S1) g0 f0 fc58 (by decide) (by decide)
          have o_a29 := gr_ob g57 o_a29
          have o_a3 := gr_ob g57 o_a3
          have o_a45 := gr_ob g57 o_a45
          have o_v0 := gr_ob g57 o_v0
          have g0 := gr_tr (T := S1) g0 g57
          intro _
          exact hq _ _ hI g0 f0
set_option maxHeartbeats 4000000 in
set_option maxRecDepth 20000 in
theorem m_X11_where {v0 : Nat} {Q : Int32 → HS → Prop} {S : HS} (hI : IV S) (o_v0 : ob S v0 11)     (hq : ∀ (r : Int32) (T : HS), IV T → Gr S T → FRI [(11, 0)] [] S T → Q r T) : P_X11_where v0 Q S := by
  have g0 := gr_rf S
  have f0 := fri_rf [(11, 0)] [] S
  refine u_X11_where ?_
  refine u_X11_where_0 ?_
  refine ⟨o_v0, ?_⟩
  intro S1 eS1
  have hIn : IV S1 := by rw [eS1]; exact iv11_sI hI o_v0 (by decide) (nu_free (by decide))
  have hI := hIn
  have f0 := fr_I eS1 g0 f0 o_v0 (by decide)
  obtain ⟨kv2, hkv2⟩ : ∃ z : Int32, z = (0 : Int32) := ⟨_, rfl⟩
  have d_kv2 := rd_Is eS1 hkv2
  have g0 := gr_I eS1 g0
  have o_v0 := ob_I eS1 o_v0
  intro x3 ex3
  have d_x3 := ex3
  exact hq _ _ hI g0 f0
set_option maxHeartbeats 4000000 in
set_option maxRecDepth 20000 in
theorem m_X11_worst {v0 : Nat} {v1 : Int32} {v2 : Int32} {v3 : Int32} {v4 : Int32} {Q : Int32 → HS → Prop} {S : HS} (hI : IV S) (o_v0 : ob S v0 11)     (hq : ∀ (r : Int32) (T : HS), IV T → Gr S T → FRI [(11, 0), (11, 1), (11, 2)] [] S T → Q r T) : P_X11_worst v0 v1 v2 v3 v4 Q S := by
  have g0 := gr_rf S
  have f0 := fri_rf [(11, 0), (11, 1), (11, 2)] [] S
  refine u_X11_worst ?_
  refine u_X11_worst_0 ?_
  refine ⟨o_v0, ?_⟩
  intro S1 eS1
  have hIn : IV S1 := by rw [eS1]; exact iv11_sI hI o_v0 (by decide) (nu_free (by decide))
  have hI := hIn
  have f0 := fr_I eS1 g0 f0 o_v0 (by decide)
  obtain ⟨kv2, hkv2⟩ : ∃ z : Int32, z = (0 : Int32) := ⟨_, rfl⟩
  have d_kv2 := rd_Is eS1 hkv2
  have g0 := gr_I eS1 g0
  have o_v0 := ob_I eS1 o_v0
  refine u_X11_isWalker ?_
  refine u_X11_isWalker_0 ?_
  refine ⟨o_v0, ?_⟩
  refine ⟨fun e4 => ?_, fun a3 ea3 => ?_⟩
  · intro _ _
    refine ⟨fun c6 => ?_, fun c6 => absurd (show ¬ (0 : Int32) = 0 from c6) (by decide)⟩
    refine u_X11_worst_39 ?_
    refine ⟨o_v0, ?_⟩
    refine u_X11_refused ?_
    refine u_X11_refused_0 ?_
    refine ⟨o_v0, ?_⟩
    intro S7 eS7
    have hIn : IV S7 := by rw [eS7]; exact iv11_sI hI o_v0 (by decide) (nu_free (by decide))
    have hI := hIn
    have f0 := fr_I eS7 g0 f0 o_v0 (by decide)
    have d_kv2 := rd_Ij eS7 (by decide) d_kv2
    obtain ⟨kv8, hkv8⟩ : ∃ z : Int32, z = (1 : Int32) := ⟨_, rfl⟩
    have d_kv8 := rd_Is eS7 hkv8
    have g0 := gr_I eS7 g0
    have o_v0 := ob_I eS7 o_v0
    intro S9 eS9
    have hIn : IV S9 := by rw [eS9]; exact iv11_sI hI o_v0 (by decide) (nu_free (by decide))
    have hI := hIn
    have f0 := fr_I eS9 g0 f0 o_v0 (by decide)
    have d_kv2 := rd_Ij eS9 (by decide) d_kv2
    have d_kv8 := rd_Ij eS9 (by decide) d_kv8
    obtain ⟨kv10, hkv10⟩ : ∃ z : Int32, z = (-1 : Int32) := ⟨_, rfl⟩
    have d_kv10 := rd_Is eS9 hkv10
    have g0 := gr_I eS9 g0
    have o_v0 := ob_I eS9 o_v0
    intro _
    exact hq _ _ hI g0 f0
  · have o_a3 := ml_ob hI o_v0 ea3
    refine ⟨fun c12 => ?_, fun c12 => ?_⟩
    · intro _ _
      refine ⟨fun c14 => ?_, fun c14 => absurd (show ¬ (0 : Int32) = 0 from c14) (by decide)⟩
      refine u_X11_worst_39 ?_
      refine ⟨o_v0, ?_⟩
      refine u_X11_refused ?_
      refine u_X11_refused_0 ?_
      refine ⟨o_v0, ?_⟩
      intro S15 eS15
      have hIn : IV S15 := by rw [eS15]; exact iv11_sI hI o_v0 (by decide) (nu_free (by decide))
      have hI := hIn
      have f0 := fr_I eS15 g0 f0 o_v0 (by decide)
      have d_kv2 := rd_Ij eS15 (by decide) d_kv2
      obtain ⟨kv16, hkv16⟩ : ∃ z : Int32, z = (1 : Int32) := ⟨_, rfl⟩
      have d_kv16 := rd_Is eS15 hkv16
      have ea3 := rf_I eS15 ea3
      have g0 := gr_I eS15 g0
      have o_a3 := ob_I eS15 o_a3
      have o_v0 := ob_I eS15 o_v0
      intro S17 eS17
      have hIn : IV S17 := by rw [eS17]; exact iv11_sI hI o_v0 (by decide) (nu_free (by decide))
      have hI := hIn
      have f0 := fr_I eS17 g0 f0 o_v0 (by decide)
      have d_kv2 := rd_Ij eS17 (by decide) d_kv2
      have d_kv16 := rd_Ij eS17 (by decide) d_kv16
      obtain ⟨kv18, hkv18⟩ : ∃ z : Int32, z = (-1 : Int32) := ⟨_, rfl⟩
      have d_kv18 := rd_Is eS17 hkv18
      have ea3 := rf_I eS17 ea3
      have g0 := gr_I eS17 g0
      have o_a3 := ob_I eS17 o_a3
      have o_v0 := ob_I eS17 o_v0
      intro _
      exact hq _ _ hI g0 f0
    · refine ⟨a3, ea3, ?_⟩
      refine ⟨o_a3, ?_⟩
      intro x21 ex21
      have r_x21 : (0 : Int32) ≤ x21 ∧ x21 ≤ (4 : Int32) := by rw [ex21]; exact nu 20 rfl hI o_a3
      have d_x21 := ex21
      refine ⟨fun c22 => ?_, fun c22 => ?_⟩
      · intro _ _
        refine ⟨fun c24 => ?_, fun c24 => absurd (show ¬ (0 : Int32) = 0 from c24) (by decide)⟩
        refine u_X11_worst_39 ?_
        refine ⟨o_v0, ?_⟩
        refine u_X11_refused ?_
        refine u_X11_refused_0 ?_
        refine ⟨o_v0, ?_⟩
        intro S25 eS25
        have hIn : IV S25 := by rw [eS25]; exact iv11_sI hI o_v0 (by decide) (nu_free (by decide))
        have hI := hIn
        have f0 := fr_I eS25 g0 f0 o_v0 (by decide)
        have d_kv2 := rd_Ij eS25 (by decide) d_kv2
        have d_x21 := rd_Ik eS25 o_v0 o_a3 (by decide) d_x21
        obtain ⟨kv26, hkv26⟩ : ∃ z : Int32, z = (1 : Int32) := ⟨_, rfl⟩
        have d_kv26 := rd_Is eS25 hkv26
        have ea3 := rf_I eS25 ea3
        have g0 := gr_I eS25 g0
        have o_a3 := ob_I eS25 o_a3
        have o_v0 := ob_I eS25 o_v0
        intro S27 eS27
        have hIn : IV S27 := by rw [eS27]; exact iv11_sI hI o_v0 (by decide) (nu_free (by decide))
        have hI := hIn
        have f0 := fr_I eS27 g0 f0 o_v0 (by decide)
        have d_kv2 := rd_Ij eS27 (by decide) d_kv2
        have d_x21 := rd_Ik eS27 o_v0 o_a3 (by decide) d_x21
        have d_kv26 := rd_Ij eS27 (by decide) d_kv26
        obtain ⟨kv28, hkv28⟩ : ∃ z : Int32, z = (-1 : Int32) := ⟨_, rfl⟩
        have d_kv28 := rd_Is eS27 hkv28
        have ea3 := rf_I eS27 ea3
        have g0 := gr_I eS27 g0
        have o_a3 := ob_I eS27 o_a3
        have o_v0 := ob_I eS27 o_v0
        intro _
        exact hq _ _ hI g0 f0
      · intro _ _
        refine ⟨fun c31 => absurd (show (1 : Int32) = 0 from c31) (by decide), fun c31 => ?_⟩
        refine u_X11_isRoad ?_
        refine u_X11_isRoad_0 ?_
        refine ⟨o_v0, ?_⟩
        refine ⟨fun e33 => (nomatch (e33.symm.trans ea3)), fun a32 ea32 => ?_⟩
        obtain rfl : a3 = a32 := Option.some.inj (ea3.symm.trans ea32)
        refine ⟨fun c34 => ?_, fun c34 => ?_⟩
        · intro _ _
          refine ⟨fun c36 => ?_, fun c36 => absurd (show ¬ (0 : Int32) = 0 from c36) (by decide)⟩
          refine u_X11_worst_39 ?_
          refine ⟨o_v0, ?_⟩
          refine u_X11_refused ?_
          refine u_X11_refused_0 ?_
          refine ⟨o_v0, ?_⟩
          intro S37 eS37
          have hIn : IV S37 := by rw [eS37]; exact iv11_sI hI o_v0 (by decide) (nu_free (by decide))
          have hI := hIn
          have f0 := fr_I eS37 g0 f0 o_v0 (by decide)
          have d_kv2 := rd_Ij eS37 (by decide) d_kv2
          have d_x21 := rd_Ik eS37 o_v0 o_a3 (by decide) d_x21
          obtain ⟨kv38, hkv38⟩ : ∃ z : Int32, z = (1 : Int32) := ⟨_, rfl⟩
          have d_kv38 := rd_Is eS37 hkv38
          have ea3 := rf_I eS37 ea3
          have g0 := gr_I eS37 g0
          have o_a3 := ob_I eS37 o_a3
          have o_v0 := ob_I eS37 o_v0
          intro S39 eS39
          have hIn : IV S39 := by rw [eS39]; exact iv11_sI hI o_v0 (by decide) (nu_free (by decide))
          have hI := hIn
          have f0 := fr_I eS39 g0 f0 o_v0 (by decide)
          have d_kv2 := rd_Ij eS39 (by decide) d_kv2
          have d_x21 := rd_Ik eS39 o_v0 o_a3 (by decide) d_x21
          have d_kv38 := rd_Ij eS39 (by decide) d_kv38
          obtain ⟨kv40, hkv40⟩ : ∃ z : Int32, z = (-1 : Int32) := ⟨_, rfl⟩
          have d_kv40 := rd_Is eS39 hkv40
          have ea3 := rf_I eS39 ea3
          have g0 := gr_I eS39 g0
          have o_a3 := ob_I eS39 o_a3
          have o_v0 := ob_I eS39 o_v0
          intro _
          exact hq _ _ hI g0 f0
        · refine ⟨a3, ea3, ?_⟩
          refine ⟨o_a3, ?_⟩
          intro x43 ex43
          have r_x43 : (0 : Int32) ≤ x43 ∧ x43 ≤ (12 : Int32) := by rw [ex43]; exact nu 19 rfl hI o_a3
          have d_x43 := ex43
          refine ⟨fun c44 => ?_, fun c44 => ?_⟩
          · intro _ _
            refine ⟨fun c46 => ?_, fun c46 => absurd (show ¬ (0 : Int32) = 0 from c46) (by decide)⟩
            refine u_X11_worst_39 ?_
            refine ⟨o_v0, ?_⟩
            refine u_X11_refused ?_
            refine u_X11_refused_0 ?_
            refine ⟨o_v0, ?_⟩
            intro S47 eS47
            have hIn : IV S47 := by rw [eS47]; exact iv11_sI hI o_v0 (by decide) (nu_free (by decide))
            have hI := hIn
            have f0 := fr_I eS47 g0 f0 o_v0 (by decide)
            have d_kv2 := rd_Ij eS47 (by decide) d_kv2
            have d_x21 := rd_Ik eS47 o_v0 o_a3 (by decide) d_x21
            have d_x43 := rd_Ik eS47 o_v0 o_a3 (by decide) d_x43
            obtain ⟨kv48, hkv48⟩ : ∃ z : Int32, z = (1 : Int32) := ⟨_, rfl⟩
            have d_kv48 := rd_Is eS47 hkv48
            have ea3 := rf_I eS47 ea3
            have g0 := gr_I eS47 g0
            have o_a3 := ob_I eS47 o_a3
            have o_v0 := ob_I eS47 o_v0
            intro S49 eS49
            have hIn : IV S49 := by rw [eS49]; exact iv11_sI hI o_v0 (by decide) (nu_free (by decide))
            have hI := hIn
            have f0 := fr_I eS49 g0 f0 o_v0 (by decide)
            have d_kv2 := rd_Ij eS49 (by decide) d_kv2
            have d_x21 := rd_Ik eS49 o_v0 o_a3 (by decide) d_x21
            have d_x43 := rd_Ik eS49 o_v0 o_a3 (by decide) d_x43
            have d_kv48 := rd_Ij eS49 (by decide) d_kv48
            obtain ⟨kv50, hkv50⟩ : ∃ z : Int32, z = (-1 : Int32) := ⟨_, rfl⟩
            have d_kv50 := rd_Is eS49 hkv50
            have ea3 := rf_I eS49 ea3
            have g0 := gr_I eS49 g0
            have o_a3 := ob_I eS49 o_a3
            have o_v0 := ob_I eS49 o_v0
            intro _
            exact hq _ _ hI g0 f0
          · intro _ _
            refine ⟨fun c53 => absurd (show (1 : Int32) = 0 from c53) (by decide), fun c53 => ?_⟩
            refine u_X11_in ?_
            refine u_X11_in_0 ?_
            refine ⟨fun c54 => ?_, fun c54 => ?_⟩
            · intro _ _
              refine ⟨fun c56 => ?_, fun c56 => absurd (show ¬ (0 : Int32) = 0 from c56) (by decide)⟩
              refine u_X11_worst_39 ?_
              refine ⟨o_v0, ?_⟩
              refine u_X11_refused ?_
              refine u_X11_refused_0 ?_
              refine ⟨o_v0, ?_⟩
              intro S57 eS57
              have hIn : IV S57 := by rw [eS57]; exact iv11_sI hI o_v0 (by decide) (nu_free (by decide))
              have hI := hIn
              have f0 := fr_I eS57 g0 f0 o_v0 (by decide)
              have d_kv2 := rd_Ij eS57 (by decide) d_kv2
              have d_x21 := rd_Ik eS57 o_v0 o_a3 (by decide) d_x21
              have d_x43 := rd_Ik eS57 o_v0 o_a3 (by decide) d_x43
              obtain ⟨kv58, hkv58⟩ : ∃ z : Int32, z = (1 : Int32) := ⟨_, rfl⟩
              have d_kv58 := rd_Is eS57 hkv58
              have ea3 := rf_I eS57 ea3
              have g0 := gr_I eS57 g0
              have o_a3 := ob_I eS57 o_a3
              have o_v0 := ob_I eS57 o_v0
              intro S59 eS59
              have hIn : IV S59 := by rw [eS59]; exact iv11_sI hI o_v0 (by decide) (nu_free (by decide))
              have hI := hIn
              have f0 := fr_I eS59 g0 f0 o_v0 (by decide)
              have d_kv2 := rd_Ij eS59 (by decide) d_kv2
              have d_x21 := rd_Ik eS59 o_v0 o_a3 (by decide) d_x21
              have d_x43 := rd_Ik eS59 o_v0 o_a3 (by decide) d_x43
              have d_kv58 := rd_Ij eS59 (by decide) d_kv58
              obtain ⟨kv60, hkv60⟩ : ∃ z : Int32, z = (-1 : Int32) := ⟨_, rfl⟩
              have d_kv60 := rd_Is eS59 hkv60
              have ea3 := rf_I eS59 ea3
              have g0 := gr_I eS59 g0
              have o_a3 := ob_I eS59 o_a3
              have o_v0 := ob_I eS59 o_v0
              intro _
              exact hq _ _ hI g0 f0
            · refine ⟨fun c62 => ?_, fun c62 => ?_⟩
              · intro _ _
                refine ⟨fun c64 => ?_, fun c64 => absurd (show ¬ (0 : Int32) = 0 from c64) (by decide)⟩
                refine u_X11_worst_39 ?_
                refine ⟨o_v0, ?_⟩
                refine u_X11_refused ?_
                refine u_X11_refused_0 ?_
                refine ⟨o_v0, ?_⟩
                intro S65 eS65
                have hIn : IV S65 := by rw [eS65]; exact iv11_sI hI o_v0 (by decide) (nu_free (by decide))
                have hI := hIn
                have f0 := fr_I eS65 g0 f0 o_v0 (by decide)
                have d_kv2 := rd_Ij eS65 (by decide) d_kv2
                have d_x21 := rd_Ik eS65 o_v0 o_a3 (by decide) d_x21
                have d_x43 := rd_Ik eS65 o_v0 o_a3 (by decide) d_x43
                obtain ⟨kv66, hkv66⟩ : ∃ z : Int32, z = (1 : Int32) := ⟨_, rfl⟩
                have d_kv66 := rd_Is eS65 hkv66
                have ea3 := rf_I eS65 ea3
                have g0 := gr_I eS65 g0
                have o_a3 := ob_I eS65 o_a3
                have o_v0 := ob_I eS65 o_v0
                intro S67 eS67
                have hIn : IV S67 := by rw [eS67]; exact iv11_sI hI o_v0 (by decide) (nu_free (by decide))
                have hI := hIn
                have f0 := fr_I eS67 g0 f0 o_v0 (by decide)
                have d_kv2 := rd_Ij eS67 (by decide) d_kv2
                have d_x21 := rd_Ik eS67 o_v0 o_a3 (by decide) d_x21
                have d_x43 := rd_Ik eS67 o_v0 o_a3 (by decide) d_x43
                have d_kv66 := rd_Ij eS67 (by decide) d_kv66
                obtain ⟨kv68, hkv68⟩ : ∃ z : Int32, z = (-1 : Int32) := ⟨_, rfl⟩
                have d_kv68 := rd_Is eS67 hkv68
                have ea3 := rf_I eS67 ea3
                have g0 := gr_I eS67 g0
                have o_a3 := ob_I eS67 o_a3
                have o_v0 := ob_I eS67 o_v0
                intro _
                exact hq _ _ hI g0 f0
              · intro _ _
                refine ⟨fun c71 => absurd (show (1 : Int32) = 0 from c71) (by decide), fun c71 => ?_⟩
                refine u_X11_isHour ?_
                refine u_X11_isHour_0 ?_
                refine ⟨o_v0, ?_⟩
                refine ⟨fun e73 => (nomatch (e73.symm.trans ea3)), fun a72 ea72 => ?_⟩
                obtain rfl : a3 = a72 := Option.some.inj (ea3.symm.trans ea72)
                refine ⟨fun c74 => ?_, fun c74 => ?_⟩
                · intro _ _
                  refine ⟨fun c76 => absurd (show ¬ (0 : Int32) = 0 from c76) (by decide), fun c76 => ?_⟩
                  refine u_X11_worst_39 ?_
                  refine ⟨o_v0, ?_⟩
                  refine u_X11_refused ?_
                  refine u_X11_refused_0 ?_
                  refine ⟨o_v0, ?_⟩
                  intro S77 eS77
                  have hIn : IV S77 := by rw [eS77]; exact iv11_sI hI o_v0 (by decide) (nu_free (by decide))
                  have hI := hIn
                  have f0 := fr_I eS77 g0 f0 o_v0 (by decide)
                  have d_kv2 := rd_Ij eS77 (by decide) d_kv2
                  have d_x21 := rd_Ik eS77 o_v0 o_a3 (by decide) d_x21
                  have d_x43 := rd_Ik eS77 o_v0 o_a3 (by decide) d_x43
                  obtain ⟨kv78, hkv78⟩ : ∃ z : Int32, z = (1 : Int32) := ⟨_, rfl⟩
                  have d_kv78 := rd_Is eS77 hkv78
                  have ea3 := rf_I eS77 ea3
                  have g0 := gr_I eS77 g0
                  have o_a3 := ob_I eS77 o_a3
                  have o_v0 := ob_I eS77 o_v0
                  intro S79 eS79
                  have hIn : IV S79 := by rw [eS79]; exact iv11_sI hI o_v0 (by decide) (nu_free (by decide))
                  have hI := hIn
                  have f0 := fr_I eS79 g0 f0 o_v0 (by decide)
                  have d_kv2 := rd_Ij eS79 (by decide) d_kv2
                  have d_x21 := rd_Ik eS79 o_v0 o_a3 (by decide) d_x21
                  have d_x43 := rd_Ik eS79 o_v0 o_a3 (by decide) d_x43
                  have d_kv78 := rd_Ij eS79 (by decide) d_kv78
                  obtain ⟨kv80, hkv80⟩ : ∃ z : Int32, z = (-1 : Int32) := ⟨_, rfl⟩
                  have d_kv80 := rd_Is eS79 hkv80
                  have ea3 := rf_I eS79 ea3
                  have g0 := gr_I eS79 g0
                  have o_a3 := ob_I eS79 o_a3
                  have o_v0 := ob_I eS79 o_v0
                  intro _
                  exact hq _ _ hI g0 f0
                · refine ⟨a3, ea3, ?_⟩
                  refine ⟨o_a3, ?_⟩
                  intro x83 ex83
                  have r_x83 : (0 : Int32) ≤ x83 ∧ x83 ≤ (6 : Int32) := by rw [ex83]; exact nu 17 rfl hI o_a3
                  have d_x83 := ex83
                  refine ⟨fun c84 => ?_, fun c84 => ?_⟩
                  · intro _ _
                    refine ⟨fun c86 => absurd (show ¬ (0 : Int32) = 0 from c86) (by decide), fun c86 => ?_⟩
                    refine u_X11_worst_39 ?_
                    refine ⟨o_v0, ?_⟩
                    refine u_X11_refused ?_
                    refine u_X11_refused_0 ?_
                    refine ⟨o_v0, ?_⟩
                    intro S87 eS87
                    have hIn : IV S87 := by rw [eS87]; exact iv11_sI hI o_v0 (by decide) (nu_free (by decide))
                    have hI := hIn
                    have f0 := fr_I eS87 g0 f0 o_v0 (by decide)
                    have d_kv2 := rd_Ij eS87 (by decide) d_kv2
                    have d_x21 := rd_Ik eS87 o_v0 o_a3 (by decide) d_x21
                    have d_x43 := rd_Ik eS87 o_v0 o_a3 (by decide) d_x43
                    have d_x83 := rd_Ik eS87 o_v0 o_a3 (by decide) d_x83
                    obtain ⟨kv88, hkv88⟩ : ∃ z : Int32, z = (1 : Int32) := ⟨_, rfl⟩
                    have d_kv88 := rd_Is eS87 hkv88
                    have ea3 := rf_I eS87 ea3
                    have g0 := gr_I eS87 g0
                    have o_a3 := ob_I eS87 o_a3
                    have o_v0 := ob_I eS87 o_v0
                    intro S89 eS89
                    have hIn : IV S89 := by rw [eS89]; exact iv11_sI hI o_v0 (by decide) (nu_free (by decide))
                    have hI := hIn
                    have f0 := fr_I eS89 g0 f0 o_v0 (by decide)
                    have d_kv2 := rd_Ij eS89 (by decide) d_kv2
                    have d_x21 := rd_Ik eS89 o_v0 o_a3 (by decide) d_x21
                    have d_x43 := rd_Ik eS89 o_v0 o_a3 (by decide) d_x43
                    have d_x83 := rd_Ik eS89 o_v0 o_a3 (by decide) d_x83
                    have d_kv88 := rd_Ij eS89 (by decide) d_kv88
                    obtain ⟨kv90, hkv90⟩ : ∃ z : Int32, z = (-1 : Int32) := ⟨_, rfl⟩
                    have d_kv90 := rd_Is eS89 hkv90
                    have ea3 := rf_I eS89 ea3
                    have g0 := gr_I eS89 g0
                    have o_a3 := ob_I eS89 o_a3
                    have o_v0 := ob_I eS89 o_v0
                    intro _
                    exact hq _ _ hI g0 f0
                  · intro _ _
                    refine ⟨fun c93 => ?_, fun c93 => absurd (show (1 : Int32) = 0 from c93) (by decide)⟩
                    refine ⟨a3, ea3, ?_⟩
                    refine ⟨o_a3, ?_⟩
                    obtain ⟨a95, ea95, o_a95, l_a95⟩ := shl 46 rfl hI o_a3
                    refine ⟨a95, ea95, ?_⟩
                    refine ⟨o_a95, ?_⟩
                    refine ⟨(vin l_a95 (m := 4) (by decide) (qm664 c12 r_x21 c22 c34 r_x43 c44 c54 c62 c74 r_x83 c84)), ?_⟩
                    intro x96 ex96
                    have gy_x96 : 0 ≤ v1 ∧ v1 < fI S1 a3 4 := by rw [← d_x21]; exact (qm665 c12 r_x21 c22 c34 r_x43 c44 c54 c62 c74 r_x83 c84)
                    have g_x96 : (1 : Int32) ≤ x96 ∧ x96 ≤ (9 : Int32) := by rw [ex96]; exact wg_at (ml_wg hI o_v0 ea3) 3 rfl gy_x96 ea95
                    intro x97 ex97
                    refine i_X11_worst_62 (fun (y0 : Nat) (y1 : Int32) (y2 : Int32) (y3 : Int32) (y4 : Int32) (y5 : Int32) (y6 : Int32) (Z : HS) => ((2147483647 : Int32).toInt - y6.toInt).toNat) (fun (y0 : Nat) (y1 : Int32) (y2 : Int32) (y3 : Int32) (y4 : Int32) (y5 : Int32) (y6 : Int32) (Z : HS) => (S1 = Z) ∧ (v0 = y0) ∧ (v1 = y1) ∧ (v2 = y2) ∧ (v3 = y3) ∧ (v4 = y4) ∧ (1 ≤ y5 ∧ y5 ≤ 9 ∧ 1 ≤ y6)) ?_ _ _ _ _ _ _ _ _ ⟨rfl, rfl, rfl, rfl, rfl, rfl, (qm681 c12 r_x21 c22 c34 r_x43 c44 c54 c62 c74 r_x83 c84 g_x96 ex97)⟩
                    intro w102 w104 w106 w108 w110 w112 w113 S99 X114 ⟨eS99, q103, q105, q107, q109, q111, i1u98⟩ ih115
                    subst q103
                    subst q105
                    subst q107
                    subst q109
                    subst q111
                    subst eS99
                    refine u_X11_worst_62 ?_
                    refine ⟨o_v0, ?_⟩
                    refine ⟨a3, ea3, ?_⟩
                    refine ⟨o_a3, ?_⟩
                    obtain ⟨a117, ea117, o_a117, l_a117⟩ := shl 47 rfl hI o_a3
                    refine ⟨a117, ea117, ?_⟩
                    refine ⟨o_a117, ?_⟩
                    refine ⟨(vin l_a117 (m := 4) (by decide) (qm664 c12 r_x21 c22 c34 r_x43 c44 c54 c62 c74 r_x83 c84)), ?_⟩
                    intro x118 ex118
                    have gy_x118 : 0 ≤ v1 ∧ v1 < fI S1 a3 4 := by rw [← d_x21]; exact (qm665 c12 r_x21 c22 c34 r_x43 c44 c54 c62 c74 r_x83 c84)
                    have g_x118 : (0 : Int32) ≤ x118 ∧ x118 ≤ (9 : Int32) := by rw [ex118]; exact wg_at (ml_wg hI o_v0 ea3) 4 rfl gy_x118 ea117
                    refine ⟨fun c119 => ?_, fun c119 => ?_⟩
                    · refine u_X11_good ?_
                      refine u_X11_good_0 ?_
                      refine ⟨o_v0, ?_⟩
                      intro S120 eS120
                      have hIn : IV S120 := by rw [eS120]; exact iv11_sI hI o_v0 (by decide) (nu_free (by decide))
                      have hI := hIn
                      have f0 := fr_I eS120 g0 f0 o_v0 (by decide)
                      have d_kv2 := rd_Ij eS120 (by decide) d_kv2
                      have d_x21 := rd_Ik eS120 o_v0 o_a3 (by decide) d_x21
                      have d_x43 := rd_Ik eS120 o_v0 o_a3 (by decide) d_x43
                      have d_x83 := rd_Ik eS120 o_v0 o_a3 (by decide) d_x83
                      obtain ⟨kv121, hkv121⟩ : ∃ z : Int32, z = (0 : Int32) := ⟨_, rfl⟩
                      have d_kv121 := rd_Is eS120 hkv121
                      have ea3 := rf_I eS120 ea3
                      have ea95 := rf_I eS120 ea95
                      have ea117 := rf_I eS120 ea117
                      have l_a117 := ln_I eS120 l_a117
                      have l_a95 := ln_I eS120 l_a95
                      have g0 := gr_I eS120 g0
                      have o_a117 := ob_I eS120 o_a117
                      have o_a3 := ob_I eS120 o_a3
                      have o_a95 := ob_I eS120 o_a95
                      have o_v0 := ob_I eS120 o_v0
                      intro S122 eS122
                      have hIn : IV S122 := by rw [eS122]; exact iv11_sI hI o_v0 (by decide) (nu_free (by decide))
                      have hI := hIn
                      have f0 := fr_I eS122 g0 f0 o_v0 (by decide)
                      have d_kv2 := rd_Ij eS122 (by decide) d_kv2
                      have d_x21 := rd_Ik eS122 o_v0 o_a3 (by decide) d_x21
                      have d_x43 := rd_Ik eS122 o_v0 o_a3 (by decide) d_x43
                      have d_x83 := rd_Ik eS122 o_v0 o_a3 (by decide) d_x83
                      have d_kv121 := rd_Ij eS122 (by decide) d_kv121
                      obtain ⟨kv123, hkv123⟩ : ∃ z : Int32, z = (-1 : Int32) := ⟨_, rfl⟩
                      have d_kv123 := rd_Is eS122 hkv123
                      have ea3 := rf_I eS122 ea3
                      have ea95 := rf_I eS122 ea95
                      have ea117 := rf_I eS122 ea117
                      have l_a117 := ln_I eS122 l_a117
                      have l_a95 := ln_I eS122 l_a95
                      have g0 := gr_I eS122 g0
                      have o_a117 := ob_I eS122 o_a117
                      have o_a3 := ob_I eS122 o_a3
                      have o_a95 := ob_I eS122 o_a95
                      have o_v0 := ob_I eS122 o_v0
                      intro _
                      exact hq _ _ hI g0 f0
                    · refine m_X11_wetOf hI o_v0 (qm682 c12 r_x21 c22 c34 r_x43 c44 c54 c62 c74 r_x83 c84 i1u98 g_x118 c119) (qm683 c12 r_x21 c22 c34 r_x43 c44 c54 c62 c74 r_x83 c84 i1u98 g_x118 c119) (qm684 c12 r_x21 c22 c34 r_x43 c44 c54 c62 c74 r_x83 c84 i1u98 g_x118 c119) (qm685 c12 r_x21 c22 c34 r_x43 c44 c54 c62 c74 r_x83 c84 i1u98 g_x118 c119) ⟨_, ea3⟩ (fun x125 S126 hI2 g127 p_x125 => ?_)
                      subst p_x125
                      intro _
                      refine m_X11_wetOf hI o_v0 (qm682 c12 r_x21 c22 c34 r_x43 c44 c54 c62 c74 r_x83 c84 i1u98 g_x118 c119) (qm683 c12 r_x21 c22 c34 r_x43 c44 c54 c62 c74 r_x83 c84 i1u98 g_x118 c119) (qm684 c12 r_x21 c22 c34 r_x43 c44 c54 c62 c74 r_x83 c84 i1u98 g_x118 c119) (qm686 c12 r_x21 c22 c34 r_x43 c44 c54 c62 c74 r_x83 c84 i1u98 g_x118 c119) ⟨_, ea3⟩ (fun x129 S130 hI2 g131 p_x129 => ?_)
                      subst p_x129
                      intro _
                      refine ⟨fun c133 => ?_, fun c133 => ?_⟩
                      · refine u_X11_worst_106 ?_
                        intro x134 ex134
                        exact ih115 _ _ _ _ _ _ _ _ ⟨rfl, rfl, rfl, rfl, rfl, rfl, (qm687 c12 r_x21 c22 c34 r_x43 c44 c54 c62 c74 r_x83 c84 i1u98 g_x118 c119 c133 ex134)⟩ (mu_up (qm688 c12 r_x21 c22 c34 r_x43 c44 c54 c62 c74 r_x83 c84 i1u98 g_x118 c119 c133 ex134) (qm689 c12 r_x21 c22 c34 r_x43 c44 c54 c62 c74 r_x83 c84 i1u98 g_x118 c119 c133 ex134))
                      · refine u_X11_worst_106 ?_
                        intro x135 ex135
                        exact ih115 _ _ _ _ _ _ _ _ ⟨rfl, rfl, rfl, rfl, rfl, rfl, (qm690 c12 r_x21 c22 c34 r_x43 c44 c54 c62 c74 r_x83 c84 i1u98 g_x118 c119 c133 ex135)⟩ (mu_up (qm691 c12 r_x21 c22 c34 r_x43 c44 c54 c62 c74 r_x83 c84 i1u98 g_x118 c119 c133 ex135) (qm692 c12 r_x21 c22 c34 r_x43 c44 c54 c62 c74 r_x83 c84 i1u98 g_x118 c119 c133 ex135))
