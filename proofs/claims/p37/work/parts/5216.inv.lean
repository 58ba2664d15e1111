set_option maxHeartbeats 4000000 in
set_option maxRecDepth 20000 in
theorem m_X9_step {v0 : Nat} {v1 : Int32} {v2 : Int32} {v3 : Int32} {v4 : Int32} {v5 : Int32} {v6 : Int32} {Q : Int32 → HS → Prop} {S : HS} (hI : IV S) (o_v0 : ob S v0 9)     (hq : ∀ (r : Int32) (T : HS), IV T → Gr S T → FRI [(7, 3), (7, 9), (7, 10), (7, 11), (7, 12), (7, 13), (9, 9)] [(7, 0), (7, 1), (7, 2), (7, 4), (7, 5), (7, 6), (7, 7), (7, 8)] S T → Q r T) : P_X9_step v0 v1 v2 v3 v4 v5 v6 Q S := by
  have g0 := gr_rf S
  have f0 := fri_rf [(7, 3), (7, 9), (7, 10), (7, 11), (7, 12), (7, 13), (9, 9)] [(7, 0), (7, 1), (7, 2), (7, 4), (7, 5), (7, 6), (7, 7), (7, 8)] S
  refine u_X9_step ?_
  refine u_X9_step_0 ?_
  refine ⟨o_v0, ?_⟩
  refine m_X9_wayTrouble hI o_v0 (fun x1 S2 hJ g3 fc4 => ?_)
  have hI := hJ
  have f0 := fri_tr (S := S) g0 f0 fc4 (by decide) (by decide)
  have o_v0 := gr_ob g3 o_v0
  have g0 := gr_tr (T := S) g0 g3
  intro _
  refine u_X9_refusedBy ?_
  refine u_X9_refusedBy_0 ?_
  refine ⟨o_v0, ?_⟩
  intro S5 eS5
  have hI : IV S5 := by rw [eS5]; exact iv_sI hI o_v0 (by decide) (nu_free (by decide))
  have f0 := fr_I eS5 g0 f0 o_v0 (by decide)
  have d_x1 := rd_Is eS5 (rfl : x1 = x1)
  have g0 := gr_I eS5 g0
  have o_v0 := ob_I eS5 o_v0
  refine ⟨fun c6 => ?_, fun c6 => ?_⟩
  · intro _ _
    refine ⟨fun c8 => ?_, fun c8 => ?_⟩
    · obtain ⟨a9, ea9, o_a9, -⟩ := sh 4 rfl hI o_v0
      refine ⟨a9, ea9, ?_⟩
      obtain ⟨a10, ea10, o_a10, -⟩ := sh 1 rfl hI o_v0
      refine ⟨a10, ea10, ?_⟩
      refine ⟨o_a9, ?_⟩
      refine m_X7_trace hI o_a9 o_a10 (fun x11 S12 hJ g13 fc14 => ?_)
      have hI := hJ
      have d_x1 := d_x1.trans (fri_at fc14 (by decide) (by decide) o_v0).symm
      have ea9 := (frr_at fc14 (by decide) (by decide) o_v0).trans ea9
      have ea10 := (frr_at fc14 (by decide) (by decide) o_v0).trans ea10
      have f0 := fri_tr (S := S5) g0 f0 fc14 (by decide) (by decide)
      have o_a10 := gr_ob g13 o_a10
      have o_a9 := gr_ob g13 o_a9
      have o_v0 := gr_ob g13 o_v0
      have g0 := gr_tr (T := S5) g0 g13
      intro _
      refine ⟨fun c15 => ?_, fun c15 => ?_⟩
      · refine u_X9_step_61 ?_
        refine ⟨o_v0, ?_⟩
        refine u_X9_refuse ?_
        refine u_X9_refuse_0 ?_
        refine ⟨o_v0, ?_⟩
        intro S16 eS16
        have hI : IV S16 := by rw [eS16]; exact iv_sI hI o_v0 (by decide) (nu_free (by decide))
        have f0 := fr_I eS16 g0 f0 o_v0 (by decide)
        obtain ⟨y17, hy17⟩ : ∃ z : Int32, z = (1 : Int32) := ⟨_, rfl⟩
        have d_y17 := rd_Is eS16 hy17
        have ea9 := rf_I eS16 ea9
        have ea10 := rf_I eS16 ea10
        have g0 := gr_I eS16 g0
        have o_a10 := ob_I eS16 o_a10
        have o_a9 := ob_I eS16 o_a9
        have o_v0 := ob_I eS16 o_v0
        intro _
        exact hq _ _ hI g0 f0
      · refine ⟨fun c19 => ?_, fun c19 => ?_⟩
        · refine u_X9_step_61 ?_
          refine ⟨o_v0, ?_⟩
          refine u_X9_refuse ?_
          refine u_X9_refuse_0 ?_
          refine ⟨o_v0, ?_⟩
          intro S20 eS20
          have hI : IV S20 := by rw [eS20]; exact iv_sI hI o_v0 (by decide) (nu_free (by decide))
          have f0 := fr_I eS20 g0 f0 o_v0 (by decide)
          obtain ⟨y21, hy21⟩ : ∃ z : Int32, z = (1 : Int32) := ⟨_, rfl⟩
          have d_y21 := rd_Is eS20 hy21
          have ea9 := rf_I eS20 ea9
          have ea10 := rf_I eS20 ea10
          have g0 := gr_I eS20 g0
          have o_a10 := ob_I eS20 o_a10
          have o_a9 := ob_I eS20 o_a9
          have o_v0 := ob_I eS20 o_v0
          intro _
          exact hq _ _ hI g0 f0
        · refine ⟨a9, ea9, ?_⟩
          refine ⟨o_a9, ?_⟩
          obtain ⟨a24, ea24, o_a24, -⟩ := sh 21 rfl hI o_a9
          have hl_a24 := wyl hI o_a9 0 rfl (by decide) ea24
          refine ⟨a24, ea24, ?_⟩
          refine ⟨o_a24, ?_⟩
          refine ⟨fun c25 => ?_, fun c25 => ?_⟩
          · refine ⟨a9, ea9, ?_⟩
            refine ⟨o_a9, ?_⟩
            refine ⟨a24, ea24, ?_⟩
            refine ⟨o_a24, ?_⟩
            refine ⟨(vinL hl_a24 (q1086 c6 c15 c19 c25)), ?_⟩
            intro x28 ex28
            exact hq _ _ hI g0 f0
          · refine u_X9_step_61 ?_
            refine ⟨o_v0, ?_⟩
            refine u_X9_refuse ?_
            refine u_X9_refuse_0 ?_
            refine ⟨o_v0, ?_⟩
            intro S29 eS29
            have hI : IV S29 := by rw [eS29]; exact iv_sI hI o_v0 (by decide) (nu_free (by decide))
            have f0 := fr_I eS29 g0 f0 o_v0 (by decide)
            obtain ⟨y30, hy30⟩ : ∃ z : Int32, z = (1 : Int32) := ⟨_, rfl⟩
            have d_y30 := rd_Is eS29 hy30
            have ea9 := rf_I eS29 ea9
            have ea10 := rf_I eS29 ea10
            have ea24 := rf_I eS29 ea24
            have hl_a24 := hl_I eS29 hl_a24
            have g0 := gr_I eS29 g0
            have o_a10 := ob_I eS29 o_a10
            have o_a24 := ob_I eS29 o_a24
            have o_a9 := ob_I eS29 o_a9
            have o_v0 := ob_I eS29 o_v0
            intro _
            exact hq _ _ hI g0 f0
    · exact hq _ _ hI g0 f0
  · intro _ _
    refine ⟨fun c33 => ?_, fun c33 => ?_⟩
    · obtain ⟨a34, ea34, o_a34, -⟩ := sh 4 rfl hI o_v0
      refine ⟨a34, ea34, ?_⟩
      obtain ⟨a35, ea35, o_a35, -⟩ := sh 1 rfl hI o_v0
      refine ⟨a35, ea35, ?_⟩
      refine ⟨o_a34, ?_⟩
      refine m_X7_trace hI o_a34 o_a35 (fun x36 S37 hJ g38 fc39 => ?_)
      have hI := hJ
      have d_x1 := d_x1.trans (fri_at fc39 (by decide) (by decide) o_v0).symm
      have ea34 := (frr_at fc39 (by decide) (by decide) o_v0).trans ea34
      have ea35 := (frr_at fc39 (by decide) (by decide) o_v0).trans ea35
      have f0 := fri_tr (S := S5) g0 f0 fc39 (by decide) (by decide)
      have o_a34 := gr_ob g38 o_a34
      have o_a35 := gr_ob g38 o_a35
      have o_v0 := gr_ob g38 o_v0
      have g0 := gr_tr (T := S5) g0 g38
      intro _
      refine ⟨fun c40 => ?_, fun c40 => ?_⟩
      · refine u_X9_step_61 ?_
        refine ⟨o_v0, ?_⟩
        refine u_X9_refuse ?_
        refine u_X9_refuse_0 ?_
        refine ⟨o_v0, ?_⟩
        intro S41 eS41
        have hI : IV S41 := by rw [eS41]; exact iv_sI hI o_v0 (by decide) (nu_free (by decide))
        have f0 := fr_I eS41 g0 f0 o_v0 (by decide)
        obtain ⟨y42, hy42⟩ : ∃ z : Int32, z = (1 : Int32) := ⟨_, rfl⟩
        have d_y42 := rd_Is eS41 hy42
        have ea34 := rf_I eS41 ea34
        have ea35 := rf_I eS41 ea35
        have g0 := gr_I eS41 g0
        have o_a34 := ob_I eS41 o_a34
        have o_a35 := ob_I eS41 o_a35
        have o_v0 := ob_I eS41 o_v0
        intro _
        exact hq _ _ hI g0 f0
      · refine ⟨fun c44 => ?_, fun c44 => ?_⟩
        · refine u_X9_step_61 ?_
          refine ⟨o_v0, ?_⟩
          refine u_X9_refuse ?_
          refine u_X9_refuse_0 ?_
          refine ⟨o_v0, ?_⟩
          intro S45 eS45
          have hI : IV S45 := by rw [eS45]; exact iv_sI hI o_v0 (by decide) (nu_free (by decide))
          have f0 := fr_I eS45 g0 f0 o_v0 (by decide)
          obtain ⟨y46, hy46⟩ : ∃ z : Int32, z = (1 : Int32) := ⟨_, rfl⟩
          have d_y46 := rd_Is eS45 hy46
          have ea34 := rf_I eS45 ea34
          have ea35 := rf_I eS45 ea35
          have g0 := gr_I eS45 g0
          have o_a34 := ob_I eS45 o_a34
          have o_a35 := ob_I eS45 o_a35
          have o_v0 := ob_I eS45 o_v0
          intro _
          exact hq _ _ hI g0 f0
        · refine ⟨a34, ea34, ?_⟩
          refine ⟨o_a34, ?_⟩
          obtain ⟨a49, ea49, o_a49, -⟩ := sh 21 rfl hI o_a34
          have hl_a49 := wyl hI o_a34 0 rfl (by decide) ea49
          refine ⟨a49, ea49, ?_⟩
          refine ⟨o_a49, ?_⟩
          refine ⟨fun c50 => ?_, fun c50 => ?_⟩
          · refine ⟨a34, ea34, ?_⟩
            refine ⟨o_a34, ?_⟩
            refine ⟨a49, ea49, ?_⟩
            refine ⟨o_a49, ?_⟩
            refine ⟨(vinL hl_a49 (q1087 c6 c33 c40 c44 c50)), ?_⟩
            intro x53 ex53
            exact hq _ _ hI g0 f0
          · refine u_X9_step_61 ?_
            refine ⟨o_v0, ?_⟩
            refine u_X9_refuse ?_
            refine u_X9_refuse_0 ?_
            refine ⟨o_v0, ?_⟩
            intro S54 eS54
            have hI : IV S54 := by rw [eS54]; exact iv_sI hI o_v0 (by decide) (nu_free (by decide))
            have f0 := fr_I eS54 g0 f0 o_v0 (by decide)
            obtain ⟨y55, hy55⟩ : ∃ z : Int32, z = (1 : Int32) := ⟨_, rfl⟩
            have d_y55 := rd_Is eS54 hy55
            have ea34 := rf_I eS54 ea34
            have ea35 := rf_I eS54 ea35
            have ea49 := rf_I eS54 ea49
            have hl_a49 := hl_I eS54 hl_a49
            have g0 := gr_I eS54 g0
            have o_a34 := ob_I eS54 o_a34
            have o_a35 := ob_I eS54 o_a35
            have o_a49 := ob_I eS54 o_a49
            have o_v0 := ob_I eS54 o_v0
            intro _
            exact hq _ _ hI g0 f0
    · exact hq _ _ hI g0 f0
set_option maxHeartbeats 4000000 in
set_option maxRecDepth 20000 in
theorem m_X9_steps {v0 : Nat} {v1 : Int32} {v2 : Int32} {v3 : Int32} {v4 : Int32} {v5 : Int32} {Q : Int32 → HS → Prop} {S : HS} (hI : IV S) (o_v0 : ob S v0 9)     (hq : ∀ (r : Int32) (T : HS), IV T → Gr S T → FRI [(7, 3), (7, 9), (7, 10), (7, 11), (7, 12), (7, 13), (9, 9)] [(7, 0), (7, 1), (7, 2), (7, 4), (7, 5), (7, 6), (7, 7), (7, 8)] S T → Q r T) : P_X9_steps v0 v1 v2 v3 v4 v5 Q S := by
  have g0 := gr_rf S
  have f0 := fri_rf [(7, 3), (7, 9), (7, 10), (7, 11), (7, 12), (7, 13), (9, 9)] [(7, 0), (7, 1), (7, 2), (7, 4), (7, 5), (7, 6), (7, 7), (7, 8)] S
  refine u_X9_steps ?_
  refine u_X9_steps_0 ?_
  refine ⟨o_v0, ?_⟩
  refine m_X9_wayTrouble hI o_v0 (fun x1 S2 hJ g3 fc4 => ?_)
  have hI := hJ
  have f0 := fri_tr (S := S) g0 f0 fc4 (by decide) (by decide)
  have o_v0 := gr_ob g3 o_v0
  have g0 := gr_tr (T := S) g0 g3
  intro _
  refine u_X9_refusedBy ?_
  refine u_X9_refusedBy_0 ?_
  refine ⟨o_v0, ?_⟩
  intro S5 eS5
  have hI : IV S5 := by rw [eS5]; exact iv_sI hI o_v0 (by decide) (nu_free (by decide))
  have f0 := fr_I eS5 g0 f0 o_v0 (by decide)
  have d_x1 := rd_Is eS5 (rfl : x1 = x1)
  have g0 := gr_I eS5 g0
  have o_v0 := ob_I eS5 o_v0
  refine ⟨fun c6 => ?_, fun c6 => ?_⟩
  · intro _ _
    refine ⟨fun c8 => ?_, fun c8 => ?_⟩
    · obtain ⟨a9, ea9, o_a9, -⟩ := sh 4 rfl hI o_v0
      refine ⟨a9, ea9, ?_⟩
      obtain ⟨a10, ea10, o_a10, -⟩ := sh 1 rfl hI o_v0
      refine ⟨a10, ea10, ?_⟩
      refine ⟨o_a9, ?_⟩
      refine m_X7_trace hI o_a9 o_a10 (fun x11 S12 hJ g13 fc14 => ?_)
      have hI := hJ
      have d_x1 := d_x1.trans (fri_at fc14 (by decide) (by decide) o_v0).symm
      have ea9 := (frr_at fc14 (by decide) (by decide) o_v0).trans ea9
      have ea10 := (frr_at fc14 (by decide) (by decide) o_v0).trans ea10
      have f0 := fri_tr (S := S5) g0 f0 fc14 (by decide) (by decide)
      have o_a10 := gr_ob g13 o_a10
      have o_a9 := gr_ob g13 o_a9
      have o_v0 := gr_ob g13 o_v0
      have g0 := gr_tr (T := S5) g0 g13
      intro _
      exact hq _ _ hI g0 f0
    · exact hq _ _ hI g0 f0
  · intro _ _
    refine ⟨fun c16 => ?_, fun c16 => ?_⟩
    · obtain ⟨a17, ea17, o_a17, -⟩ := sh 4 rfl hI o_v0
      refine ⟨a17, ea17, ?_⟩
      obtain ⟨a18, ea18, o_a18, -⟩ := sh 1 rfl hI o_v0
      refine ⟨a18, ea18, ?_⟩
      refine ⟨o_a17, ?_⟩
      refine m_X7_trace hI o_a17 o_a18 (fun x19 S20 hJ g21 fc22 => ?_)
      have hI := hJ
      have d_x1 := d_x1.trans (fri_at fc22 (by decide) (by decide) o_v0).symm
      have ea17 := (frr_at fc22 (by decide) (by decide) o_v0).trans ea17
      have ea18 := (frr_at fc22 (by decide) (by decide) o_v0).trans ea18
      have f0 := fri_tr (S := S5) g0 f0 fc22 (by decide) (by decide)
      have o_a17 := gr_ob g21 o_a17
      have o_a18 := gr_ob g21 o_a18
      have o_v0 := gr_ob g21 o_v0
      have g0 := gr_tr (T := S5) g0 g21
      intro _
      exact hq _ _ hI g0 f0
    · exact hq _ _ hI g0 f0
set_option maxHeartbeats 4000000 in
set_option maxRecDepth 20000 in
theorem m_X9_there {v0 : Nat} {v1 : Int32} {v2 : Int32} {v3 : Int32} {v4 : Int32} {v5 : Int32} {Q : Int32 → HS → Prop} {S : HS} (hI : IV S) (o_v0 : ob S v0 9)     (hq : ∀ (r : Int32) (T : HS), IV T → Gr S T → FRI [(7, 3), (7, 9), (7, 10), (7, 11), (7, 12), (7, 13), (9, 9)] [(7, 0), (7, 1), (7, 2), (7, 4), (7, 5), (7, 6), (7, 7), (7, 8)] S T → Q r T) : P_X9_there v0 v1 v2 v3 v4 v5 Q S := by
  have g0 := gr_rf S
  have f0 := fri_rf [(7, 3), (7, 9), (7, 10), (7, 11), (7, 12), (7, 13), (9, 9)] [(7, 0), (7, 1), (7, 2), (7, 4), (7, 5), (7, 6), (7, 7), (7, 8)] S
  refine u_X9_there ?_
  refine u_X9_there_0 ?_
  refine ⟨o_v0, ?_⟩
  refine m_X9_wayTrouble hI o_v0 (fun x1 S2 hJ g3 fc4 => ?_)
  have hI := hJ
  have f0 := fri_tr (S := S) g0 f0 fc4 (by decide) (by decide)
  have o_v0 := gr_ob g3 o_v0
  have g0 := gr_tr (T := S) g0 g3
  intro _
  refine u_X9_refusedBy ?_
  refine u_X9_refusedBy_0 ?_
  refine ⟨o_v0, ?_⟩
  intro S5 eS5
  have hI : IV S5 := by rw [eS5]; exact iv_sI hI o_v0 (by decide) (nu_free (by decide))
  have f0 := fr_I eS5 g0 f0 o_v0 (by decide)
  have d_x1 := rd_Is eS5 (rfl : x1 = x1)
  have g0 := gr_I eS5 g0
  have o_v0 := ob_I eS5 o_v0
  refine ⟨fun c6 => ?_, fun c6 => ?_⟩
  · intro _ _
    refine ⟨fun c8 => ?_, fun c8 => ?_⟩
    · obtain ⟨a9, ea9, o_a9, -⟩ := sh 4 rfl hI o_v0
      refine ⟨a9, ea9, ?_⟩
      refine ⟨o_a9, ?_⟩
      refine m_X7_endFrom hI o_a9 (fun x10 S11 hI2 g12 p_x10 => ?_)
      subst p_x10
      intro _
      exact hq _ _ hI g0 f0
    · exact hq _ _ hI g0 f0
  · intro _ _
    refine ⟨fun c15 => ?_, fun c15 => ?_⟩
    · obtain ⟨a16, ea16, o_a16, -⟩ := sh 4 rfl hI o_v0
      refine ⟨a16, ea16, ?_⟩
      refine ⟨o_a16, ?_⟩
      refine m_X7_endFrom hI o_a16 (fun x17 S18 hI2 g19 p_x17 => ?_)
      subst p_x17
      intro _
      exact hq _ _ hI g0 f0
    · exact hq _ _ hI g0 f0
set_option maxHeartbeats 4000000 in
set_option maxRecDepth 20000 in
theorem m_X9_trouble {v0 : Nat} {Q : Int32 → HS → Prop} {S : HS} (hI : IV S) (o_v0 : ob S v0 9)     (hq : ∀ (r : Int32) (T : HS), IV T → Gr S T → (S = T) → Q r T) : P_X9_trouble v0 Q S := by
  have g0 := gr_rf S
  refine u_X9_trouble ?_
  refine u_X9_trouble_0 ?_
  refine ⟨o_v0, ?_⟩
  intro x1 ex1
  have d_x1 := ex1
  exact hq _ _ hI g0 rfl
set_option maxHeartbeats 4000000 in
set_option maxRecDepth 20000 in
theorem m_X9_undo {v0 : Nat} {Q : Int32 → HS → Prop} {S : HS} (hI : IV S) (o_v0 : ob S v0 9)     (hq : ∀ (r : Int32) (T : HS), IV T → Gr S T → FRI [(0, 2), (2, 0), (2, 1), (9, 9)] [] S T → bl r → Q r T) : P_X9_undo v0 Q S := by
  have g0 := gr_rf S
  have f0 := fri_rf [(0, 2), (2, 0), (2, 1), (9, 9)] [] S
  refine u_X9_undo ?_
  refine u_X9_undo_0 ?_
  refine ⟨o_v0, ?_⟩
  obtain ⟨a1, ea1, o_a1, -⟩ := sh 5 rfl hI o_v0
  refine ⟨a1, ea1, ?_⟩
  refine ⟨o_a1, ?_⟩
  refine m_X0_takeBack hI o_a1 (fun x2 S3 hJ g4 fc5 b_x2 => ?_)
  have hI := hJ
  have ea1 := (frr_at fc5 (by decide) (by decide) o_v0).trans ea1
  have f0 := fri_tr (S := S) g0 f0 fc5 (by decide) (by decide)
  have o_a1 := gr_ob g4 o_a1
  have o_v0 := gr_ob g4 o_v0
  have g0 := gr_tr (T := S) g0 g4
  intro _ _
  have bb_x2 : x2 = 0 ∨ x2 = 1 := b_x2
  refine ⟨fun c6 => ?_, fun c6 => ?_⟩
  · refine u_X9_undo_17 ?_
    refine ⟨o_v0, ?_⟩
    refine u_X9_refusedBy ?_
    refine u_X9_refusedBy_0 ?_
    refine ⟨o_v0, ?_⟩
    intro S7 eS7
    have hI : IV S7 := by rw [eS7]; exact iv_sI hI o_v0 (by decide) (nu_free (by decide))
    have f0 := fr_I eS7 g0 f0 o_v0 (by decide)
    obtain ⟨y8, hy8⟩ : ∃ z : Int32, z = (6 : Int32) := ⟨_, rfl⟩
    have d_y8 := rd_Is eS7 hy8
    have ea1 := rf_I eS7 ea1
    have g0 := gr_I eS7 g0
    have o_a1 := ob_I eS7 o_a1
    have o_v0 := ob_I eS7 o_v0
    refine ⟨fun c9 => ?_, fun c9 => ?_⟩
    · intro _ _
      refine ⟨fun c11 => ?_, fun c11 => ?_⟩
      · exact hq _ _ hI g0 f0 (Or.inl rfl)
      · exact hq _ _ hI g0 f0 (Or.inr rfl)
    · intro _ _
      refine ⟨fun c13 => ?_, fun c13 => ?_⟩
      · exact hq _ _ hI g0 f0 (Or.inl rfl)
      · exact hq _ _ hI g0 f0 (Or.inr rfl)
  · refine u_X9_undo_17 ?_
    refine ⟨o_v0, ?_⟩
    refine u_X9_refusedBy ?_
    refine u_X9_refusedBy_0 ?_
    refine ⟨o_v0, ?_⟩
    intro S14 eS14
    have hI : IV S14 := by rw [eS14]; exact iv_sI hI o_v0 (by decide) (nu_free (by decide))
    have f0 := fr_I eS14 g0 f0 o_v0 (by decide)
    obtain ⟨y15, hy15⟩ : ∃ z : Int32, z = (0 : Int32) := ⟨_, rfl⟩
    have d_y15 := rd_Is eS14 hy15
    have ea1 := rf_I eS14 ea1
    have g0 := gr_I eS14 g0
    have o_a1 := ob_I eS14 o_a1
    have o_v0 := ob_I eS14 o_v0
    refine ⟨fun c16 => ?_, fun c16 => ?_⟩
    · intro _ _
      refine ⟨fun c18 => ?_, fun c18 => ?_⟩
      · exact hq _ _ hI g0 f0 (Or.inl rfl)
      · exact hq _ _ hI g0 f0 (Or.inr rfl)
    · intro _ _
      refine ⟨fun c20 => ?_, fun c20 => ?_⟩
      · exact hq _ _ hI g0 f0 (Or.inl rfl)
      · exact hq _ _ hI g0 f0 (Or.inr rfl)
set_option maxHeartbeats 4000000 in
set_option maxRecDepth 20000 in
theorem m_X9_walker {v0 : Nat} {v1 : Int32} {v2 : Int32} {Q : Int32 → HS → Prop} {S : HS} (hI : IV S) (o_v0 : ob S v0 9)     (hq : ∀ (r : Int32) (T : HS), IV T → Gr S T → FRI [(9, 9)] [] S T → Q r T) : P_X9_walker v0 v1 v2 Q S := by
  have g0 := gr_rf S
  have f0 := fri_rf [(9, 9)] [] S
  refine u_X9_walker ?_
  refine u_X9_walker_0 ?_
  refine ⟨o_v0, ?_⟩
  obtain ⟨a1, ea1, o_a1, -⟩ := sh 1 rfl hI o_v0
  refine ⟨a1, ea1, ?_⟩
  refine ⟨o_a1, ?_⟩
  refine m_X8_hasWalker hI o_a1 (fun x2 S3 hI2 g4 b_x2 p_x2 => ?_)
  obtain ⟨z_S3, p_x2⟩ := p_x2
  subst z_S3
  intro _ _
  have bb_x2 : x2 = 0 ∨ x2 = 1 := b_x2
  refine ⟨fun c6 => ?_, fun c6 => ?_⟩
  · refine u_X9_walker_21 ?_
    refine ⟨o_v0, ?_⟩
    refine u_X9_refuse ?_
    refine u_X9_refuse_0 ?_
    refine ⟨o_v0, ?_⟩
    intro S7 eS7
    have hI : IV S7 := by rw [eS7]; exact iv_sI hI o_v0 (by decide) (nu_free (by decide))
    have f0 := fr_I eS7 g0 f0 o_v0 (by decide)
    obtain ⟨y8, hy8⟩ : ∃ z : Int32, z = (1 : Int32) := ⟨_, rfl⟩
    have d_y8 := rd_Is eS7 hy8
    have ea1 := rf_I eS7 ea1
    have g0 := gr_I eS7 g0
    have o_a1 := ob_I eS7 o_a1
    have o_v0 := ob_I eS7 o_v0
    intro _
    exact hq _ _ hI g0 f0
  · refine ⟨fun c10 => ?_, fun c10 => ?_⟩
    · refine u_X9_walker_21 ?_
      refine ⟨o_v0, ?_⟩
      refine u_X9_refuse ?_
      refine u_X9_refuse_0 ?_
      refine ⟨o_v0, ?_⟩
      intro S11 eS11
      have hI : IV S11 := by rw [eS11]; exact iv_sI hI o_v0 (by decide) (nu_free (by decide))
      have f0 := fr_I eS11 g0 f0 o_v0 (by decide)
      obtain ⟨y12, hy12⟩ : ∃ z : Int32, z = (1 : Int32) := ⟨_, rfl⟩
      have d_y12 := rd_Is eS11 hy12
      have ea1 := rf_I eS11 ea1
      have g0 := gr_I eS11 g0
      have o_a1 := ob_I eS11 o_a1
      have o_v0 := ob_I eS11 o_v0
      intro _
      exact hq _ _ hI g0 f0
    · refine ⟨fun c14 => ?_, fun c14 => ?_⟩
      · refine ⟨a1, ea1, ?_⟩
        refine ⟨o_a1, ?_⟩
        obtain ⟨a16, ea16, o_a16, l_a16⟩ := shl 18 rfl hI o_a1
        refine ⟨a16, ea16, ?_⟩
        refine ⟨o_a16, ?_⟩
        have i18 : vp_in v1 (hN _ a16) := (vin l_a16 (m := 4) (by decide) (q1044 p_x2 bb_x2 c6 c10 c14))
        obtain ⟨a17, ea17, o_a17⟩ := ae hI o_a16 (by decide) (by decide) i18
        replace o_a17 : ob _ a17 6 := o_a17
        refine ⟨i18, a17, ea17, ?_⟩
        refine ⟨o_a17, ?_⟩
        refine m_X6_tell hI o_a17 (fun x19 S20 hI2 g21 p_x19 => ?_)
        subst p_x19
        intro _
        refine u_X9_grant ?_
        refine u_X9_grant_0 ?_
        refine ⟨o_v0, ?_⟩
        intro S23 eS23
        have hI : IV S23 := by rw [eS23]; exact iv_sI hI o_v0 (by decide) (nu_free (by decide))
        have f0 := fr_I eS23 g0 f0 o_v0 (by decide)
        obtain ⟨y24, hy24⟩ : ∃ z : Int32, z = (0 : Int32) := ⟨_, rfl⟩
        have d_y24 := rd_Is eS23 hy24
        have ea1 := rf_I eS23 ea1
        have ea16 := rf_I eS23 ea16
        have l_a16 := ln_I eS23 l_a16
        have g0 := gr_I eS23 g0
        have o_a1 := ob_I eS23 o_a1
        have o_a16 := ob_I eS23 o_a16
        have o_a17 := ob_I eS23 o_a17
        have o_v0 := ob_I eS23 o_v0
        intro _
        exact hq _ _ hI g0 f0
      · refine u_X9_walker_21 ?_
        refine ⟨o_v0, ?_⟩
        refine u_X9_refuse ?_
        refine u_X9_refuse_0 ?_
        refine ⟨o_v0, ?_⟩
        intro S26 eS26
        have hI : IV S26 := by rw [eS26]; exact iv_sI hI o_v0 (by decide) (nu_free (by decide))
        have f0 := fr_I eS26 g0 f0 o_v0 (by decide)
        obtain ⟨y27, hy27⟩ : ∃ z : Int32, z = (1 : Int32) := ⟨_, rfl⟩
        have d_y27 := rd_Is eS26 hy27
        have ea1 := rf_I eS26 ea1
        have g0 := gr_I eS26 g0
        have o_a1 := ob_I eS26 o_a1
        have o_v0 := ob_I eS26 o_v0
        intro _
        exact hq _ _ hI g0 f0
set_option maxHeartbeats 4000000 in
set_option maxRecDepth 20000 in
theorem m_X9_wet {v0 : Nat} {v1 : Int32} {v2 : Int32} {v3 : Int32} {v4 : Int32} {v5 : Int32} {v6 : Int32} {Q : Int64 → HS → Prop} {S : HS} (hI : IV S) (o_v0 : ob S v0 9)     (hq : ∀ (r : Int64) (T : HS), IV T → Gr S T → FRI [(9, 9)] [] S T → Q r T) : P_X9_wet v0 v1 v2 v3 v4 v5 v6 Q S := by
  have g0 := gr_rf S
  have f0 := fri_rf [(9, 9)] [] S
  refine u_X9_wet ?_
  refine u_X9_wet_0 ?_
  refine ⟨o_v0, ?_⟩
  refine m_X9_legTrouble hI o_v0 (fun x1 S2 hI2 g3 p_x1 => ?_)
  obtain ⟨z_S2, p_x1⟩ := p_x1
  subst z_S2
  intro _
  refine u_X9_refusedBy ?_
  refine u_X9_refusedBy_0 ?_
  refine ⟨o_v0, ?_⟩
  intro S5 eS5
  have hI : IV S5 := by rw [eS5]; exact iv_sI hI o_v0 (by decide) (nu_free (by decide))
  have f0 := fr_I eS5 g0 f0 o_v0 (by decide)
  have d_x1 := rd_Is eS5 (rfl : x1 = x1)
  have g0 := gr_I eS5 g0
  have o_v0 := ob_I eS5 o_v0
  refine ⟨fun c6 => ?_, fun c6 => ?_⟩
  · intro _ _
    refine ⟨fun c8 => ?_, fun c8 => ?_⟩
    · obtain ⟨a9, ea9, o_a9, -⟩ := sh 3 rfl hI o_v0
      refine ⟨a9, ea9, ?_⟩
      obtain ⟨a10, ea10, o_a10, -⟩ := sh 1 rfl hI o_v0
      refine ⟨a10, ea10, ?_⟩
      refine ⟨o_a10, ?_⟩
      obtain ⟨a11, ea11, o_a11, l_a11⟩ := shl 18 rfl hI o_a10
      refine ⟨a11, ea11, ?_⟩
      refine ⟨o_a11, ?_⟩
      have i13 : vp_in v1 (hN _ a11) := (vin l_a11 (m := 4) (by decide) (q0 p_x1 c6))
      obtain ⟨a12, ea12, o_a12⟩ := ae hI o_a11 (by decide) (by decide) i13
      replace o_a12 : ob _ a12 6 := o_a12
      refine ⟨i13, a12, ea12, ?_⟩
      refine ⟨a10, ea10, ?_⟩
      refine ⟨o_a10, ?_⟩
      obtain ⟨a15, ea15, o_a15, l_a15⟩ := shl 17 rfl hI o_a10
      refine ⟨a15, ea15, ?_⟩
      refine ⟨o_a15, ?_⟩
      have i17 : vp_in v2 (hN _ a15) := (vin l_a15 (m := 12) (by decide) (q1 p_x1 c6))
      obtain ⟨a16, ea16, o_a16⟩ := ae hI o_a15 (by decide) (by decide) i17
      replace o_a16 : ob _ a16 5 := o_a16
      refine ⟨i17, a16, ea16, ?_⟩
      refine ⟨a10, ea10, ?_⟩
      refine ⟨o_a10, ?_⟩
      obtain ⟨a19, ea19, o_a19, l_a19⟩ := shl 15 rfl hI o_a10
      refine ⟨a19, ea19, ?_⟩
      refine ⟨o_a19, ?_⟩
      have i21 : vp_in v4 (hN _ a19) := (vin l_a19 (m := 6) (by decide) (q2 p_x1 c6))
      obtain ⟨a20, ea20, o_a20⟩ := ae hI o_a19 (by decide) (by decide) i21
      replace o_a20 : ob _ a20 3 := o_a20
      refine ⟨i21, a20, ea20, ?_⟩
      refine ⟨o_a9, ?_⟩
      refine m_X1_wetOf hI o_a9 o_a12 o_a16 o_a20 (fun x22 S23 hJ g24 fc25 => ?_)
      have hI := hJ
      have l_a11 := (gr_len g24 o_a11).trans l_a11
      have l_a15 := (gr_len g24 o_a15).trans l_a15
      have l_a19 := (gr_len g24 o_a19).trans l_a19
      have d_x1 := d_x1.trans (fri_at fc25 (by decide) (by decide) o_v0).symm
      have ea9 := (frr_at fc25 (by decide) (by decide) o_v0).trans ea9
      have ea10 := (frr_at fc25 (by decide) (by decide) o_v0).trans ea10
      have ea11 := (frr_at fc25 (by decide) (by decide) o_a10).trans ea11
      have ea15 := (frr_at fc25 (by decide) (by decide) o_a10).trans ea15
      have ea19 := (frr_at fc25 (by decide) (by decide) o_a10).trans ea19
      have f0 := fri_tr (S := S5) g0 f0 fc25 (by decide) (by decide)
      have o_a10 := gr_ob g24 o_a10
      have o_a11 := gr_ob g24 o_a11
      have o_a12 := gr_ob g24 o_a12
      have o_a15 := gr_ob g24 o_a15
      have o_a16 := gr_ob g24 o_a16
      have o_a19 := gr_ob g24 o_a19
      have o_a20 := gr_ob g24 o_a20
      have o_a9 := gr_ob g24 o_a9
      have o_v0 := gr_ob g24 o_v0
      have g0 := gr_tr (T := S5) g0 g24
      intro _
      refine m_X9_fraction hI (fun x26 S27 hI2 g28 p_x26 => ?_)
      subst p_x26
      intro _
      exact hq _ _ hI g0 f0
    · exact hq _ _ hI g0 f0
  · intro _ _
    refine ⟨fun c31 => ?_, fun c31 => ?_⟩
    · obtain ⟨a32, ea32, o_a32, -⟩ := sh 3 rfl hI o_v0
      refine ⟨a32, ea32, ?_⟩
      obtain ⟨a33, ea33, o_a33, -⟩ := sh 1 rfl hI o_v0
      refine ⟨a33, ea33, ?_⟩
      refine ⟨o_a33, ?_⟩
      obtain ⟨a34, ea34, o_a34, l_a34⟩ := shl 18 rfl hI o_a33
      refine ⟨a34, ea34, ?_⟩
      refine ⟨o_a34, ?_⟩
      have i36 : vp_in v1 (hN _ a34) := (vin l_a34 (m := 4) (by decide) (q3 p_x1 c6 c31))
      obtain ⟨a35, ea35, o_a35⟩ := ae hI o_a34 (by decide) (by decide) i36
      replace o_a35 : ob _ a35 6 := o_a35
      refine ⟨i36, a35, ea35, ?_⟩
      refine ⟨a33, ea33, ?_⟩
      refine ⟨o_a33, ?_⟩
      obtain ⟨a38, ea38, o_a38, l_a38⟩ := shl 17 rfl hI o_a33
      refine ⟨a38, ea38, ?_⟩
      refine ⟨o_a38, ?_⟩
      have i40 : vp_in v2 (hN _ a38) := (vin l_a38 (m := 12) (by decide) (q4 p_x1 c6 c31))
      obtain ⟨a39, ea39, o_a39⟩ := ae hI o_a38 (by decide) (by decide) i40
      replace o_a39 : ob _ a39 5 := o_a39
      refine ⟨i40, a39, ea39, ?_⟩
      refine ⟨a33, ea33, ?_⟩
      refine ⟨o_a33, ?_⟩
      obtain ⟨a42, ea42, o_a42, l_a42⟩ := shl 15 rfl hI o_a33
      refine ⟨a42, ea42, ?_⟩
      refine ⟨o_a42, ?_⟩
      have i44 : vp_in v4 (hN _ a42) := (vin l_a42 (m := 6) (by decide) (q5 p_x1 c6 c31))
      obtain ⟨a43, ea43, o_a43⟩ := ae hI o_a42 (by decide) (by decide) i44
      replace o_a43 : ob _ a43 3 := o_a43
      refine ⟨i44, a43, ea43, ?_⟩
      refine ⟨o_a32, ?_⟩
      refine m_X1_wetOf hI o_a32 o_a35 o_a39 o_a43 (fun x45 S46 hJ g47 fc48 => ?_)
      have hI := hJ
      have l_a34 := (gr_len g47 o_a34).trans l_a34
      have l_a38 := (gr_len g47 o_a38).trans l_a38
      have l_a42 := (gr_len g47 o_a42).trans l_a42
      have d_x1 := d_x1.trans (fri_at fc48 (by decide) (by decide) o_v0).symm
      have ea32 := (frr_at fc48 (by decide) (by decide) o_v0).trans ea32
      have ea33 := (frr_at fc48 (by decide) (by decide) o_v0).trans ea33
      have ea34 := (frr_at fc48 (by decide) (by decide) o_a33).trans ea34
      have ea38 := (frr_at fc48 (by decide) (by decide) o_a33).trans ea38
      have ea42 := (frr_at fc48 (by decide) (by decide) o_a33).trans ea42
      have f0 := fri_tr (S := S5) g0 f0 fc48 (by decide) (by decide)
      have o_a32 := gr_ob g47 o_a32
      have o_a33 := gr_ob g47 o_a33
      have o_a34 := gr_ob g47 o_a34
      have o_a35 := gr_ob g47 o_a35
      have o_a38 := gr_ob g47 o_a38
      have o_a39 := gr_ob g47 o_a39
      have o_a42 := gr_ob g47 o_a42
      have o_a43 := gr_ob g47 o_a43
      have o_v0 := gr_ob g47 o_v0
      have g0 := gr_tr (T := S5) g0 g47
      intro _
      refine m_X9_fraction hI (fun x49 S50 hI2 g51 p_x49 => ?_)
      subst p_x49
      intro _
      exact hq _ _ hI g0 f0
    · exact hq _ _ hI g0 f0
set_option maxHeartbeats 4000000 in
set_option maxRecDepth 20000 in
theorem m_X9_wetness {v0 : Nat} {v1 : Int32} {Q : Int64 → HS → Prop} {S : HS} (hI : IV S) (o_v0 : ob S v0 9)     (hq : ∀ (r : Int64) (T : HS), IV T → Gr S T → FRI [(9, 9)] [] S T → Q r T) : P_X9_wetness v0 v1 Q S := by
  have g0 := gr_rf S
  have f0 := fri_rf [(9, 9)] [] S
  refine u_X9_wetness ?_
  refine u_X9_wetness_0 ?_
  refine ⟨o_v0, ?_⟩
  obtain ⟨a1, ea1, o_a1, -⟩ := sh 5 rfl hI o_v0
  refine ⟨a1, ea1, ?_⟩
  refine ⟨o_a1, ?_⟩
  refine m_X0_isOn hI o_a1 (fun x2 S3 hI2 g4 b_x2 p_x2 => ?_)
  subst p_x2
  intro _ _
  have bb_x2 : x2 = 0 ∨ x2 = 1 := b_x2
  refine ⟨fun c6 => ?_, fun c6 => ?_⟩
  · refine u_X9_wetness_27 ?_
    refine ⟨o_v0, ?_⟩
    refine u_X9_refuse ?_
    refine u_X9_refuse_0 ?_
    refine ⟨o_v0, ?_⟩
    intro S7 eS7
    have hI : IV S7 := by rw [eS7]; exact iv_sI hI o_v0 (by decide) (nu_free (by decide))
    have f0 := fr_I eS7 g0 f0 o_v0 (by decide)
    obtain ⟨y8, hy8⟩ : ∃ z : Int32, z = (1 : Int32) := ⟨_, rfl⟩
    have d_y8 := rd_Is eS7 hy8
    have ea1 := rf_I eS7 ea1
    have g0 := gr_I eS7 g0
    have o_a1 := ob_I eS7 o_a1
    have o_v0 := ob_I eS7 o_v0
    intro _
    exact hq _ _ hI g0 f0
  · obtain ⟨a10, ea10, o_a10, -⟩ := sh 1 rfl hI o_v0
    refine ⟨a10, ea10, ?_⟩
    refine ⟨a1, ea1, ?_⟩
    refine ⟨o_a1, ?_⟩
    intro x12 ex12
    have r_x12 : (-1 : Int32) ≤ x12 ∧ x12 ≤ (3 : Int32) := by rw [ex12]; exact nu 1 rfl hI o_a1
    have d_x12 := ex12
    refine ⟨o_a10, ?_⟩
    refine m_X8_hasWalker hI o_a10 (fun x13 S14 hI2 g15 b_x13 p_x13 => ?_)
    obtain ⟨z_S14, p_x13⟩ := p_x13
    subst z_S14
    intro _ _
    have bb_x13 : x13 = 0 ∨ x13 = 1 := b_x13
    refine ⟨fun c17 => ?_, fun c17 => ?_⟩
    · intro S18 eS18
      have hI : IV S18 := by rw [eS18]; exact iv_sI hI o_v0 (by decide) (nu_free (by decide))
      have f0 := fr_I eS18 g0 f0 o_v0 (by decide)
      have d_x12 := rd_Ik eS18 o_v0 o_a1 (by decide) d_x12
      obtain ⟨y19, hy19⟩ : ∃ z : Int32, z = (0 : Int32) := ⟨_, rfl⟩
      have d_y19 := rd_Is eS18 hy19
      have ea1 := rf_I eS18 ea1
      have ea10 := rf_I eS18 ea10
      have g0 := gr_I eS18 g0
      have o_a1 := ob_I eS18 o_a1
      have o_a10 := ob_I eS18 o_a10
      have o_v0 := ob_I eS18 o_v0
      refine ⟨a1, ea1, ?_⟩
      refine ⟨o_a1, ?_⟩
      obtain ⟨a21, ea21, o_a21, -⟩ := sh 6 rfl hI o_a1
      refine ⟨a21, ea21, ?_⟩
      refine ⟨o_a21, ?_⟩
      refine m_X2_allGot hI o_a21 (fun x22 S23 hI2 g24 p_x22 => ?_)
      subst p_x22
      intro _
      refine ⟨a10, ea10, ?_⟩
      refine ⟨o_a10, ?_⟩
      obtain ⟨a27, ea27, o_a27, l_a27⟩ := shl 18 rfl hI o_a10
      refine ⟨a27, ea27, ?_⟩
      refine ⟨a1, ea1, ?_⟩
      refine ⟨o_a1, ?_⟩
      intro x29 ex29
      have r_x29 : (-1 : Int32) ≤ x29 ∧ x29 ≤ (3 : Int32) := by rw [ex29]; exact nu 1 rfl hI o_a1
      have q_x29 : x29 = x12 := ex29.trans d_x12.symm
      have d_x29 := ex29
      refine ⟨o_a27, ?_⟩
      have i31 : vp_in x29 (hN _ a27) := (vin l_a27 (m := 4) (by decide) (q727 bb_x2 c6 r_x12 p_x13 bb_x13 c17 r_x29 q_x29))
      obtain ⟨a30, ea30, o_a30⟩ := ae hI o_a27 (by decide) (by decide) i31
      replace o_a30 : ob _ a30 6 := o_a30
      refine ⟨i31, a30, ea30, ?_⟩
      refine m_X9_coatParts hI o_a30 (fun x32 S33 hI2 g34 p_x32 => ?_)
      subst p_x32
      intro _
      intro x36 ex36
      intro x37 ex37
      refine m_X9_fraction hI (fun x38 S39 hI2 g40 p_x38 => ?_)
      subst p_x38
      intro _
      exact hq _ _ hI g0 f0
    · refine u_X9_wetness_27 ?_
      refine ⟨o_v0, ?_⟩
      refine u_X9_refuse ?_
      refine u_X9_refuse_0 ?_
      refine ⟨o_v0, ?_⟩
      intro S42 eS42
      have hI : IV S42 := by rw [eS42]; exact iv_sI hI o_v0 (by decide) (nu_free (by decide))
      have f0 := fr_I eS42 g0 f0 o_v0 (by decide)
      have d_x12 := rd_Ik eS42 o_v0 o_a1 (by decide) d_x12
      obtain ⟨y43, hy43⟩ : ∃ z : Int32, z = (1 : Int32) := ⟨_, rfl⟩
      have d_y43 := rd_Is eS42 hy43
      have ea1 := rf_I eS42 ea1
      have ea10 := rf_I eS42 ea10
      have g0 := gr_I eS42 g0
      have o_a1 := ob_I eS42 o_a1
      have o_a10 := ob_I eS42 o_a10
      have o_v0 := ob_I eS42 o_v0
      intro _
      exact hq _ _ hI g0 f0
set_option maxHeartbeats 4000000 in
set_option maxRecDepth 20000 in
theorem m_X9_where {v0 : Nat} {Q : Int32 → HS → Prop} {S : HS} (hI : IV S) (o_v0 : ob S v0 9)     (hq : ∀ (r : Int32) (T : HS), IV T → Gr S T → (S = T) → Q r T) : P_X9_where v0 Q S := by
  have g0 := gr_rf S
  refine u_X9_where ?_
  refine u_X9_where_0 ?_
  refine ⟨o_v0, ?_⟩
  intro x1 ex1
  have d_x1 := ex1
  refine ⟨fun c2 => ?_, fun c2 => ?_⟩
  · exact hq _ _ hI g0 rfl
  · intro x3 ex3
    have d_x3 := ex3
    exact hq _ _ hI g0 rfl
set_option maxHeartbeats 4000000 in
set_option maxRecDepth 20000 in
theorem m_X9_world {v0 : Nat} {v1 : Int32} {Q : Int32 → HS → Prop} {S : HS} (hI : IV S) (o_v0 : ob S v0 9)     (hq : ∀ (r : Int32) (T : HS), IV T → Gr S T → FRI [(0, 0), (0, 2), (0, 3), (3, 0), (3, 1), (3, 2), (3, 3), (3, 4), (4, 0), (4, 1), (4, 3), (4, 4), (4, 6), (4, 7), (4, 9), (4, 10), (5, 0), (5, 1), (5, 2), (5, 3), (5, 4), (6, 0), (6, 1), (6, 2), (6, 3), (6, 4), (6, 5), (6, 6), (7, 10), (8, 0), (8, 1), (8, 2), (8, 3), (8, 4), (8, 5), (9, 1), (9, 7), (9, 8), (9, 9)] [(4, 2), (4, 5), (9, 2)] S T → Q r T) : P_X9_world v0 v1 Q S := by
  have g0 := gr_rf S
  have f0 := fri_rf [(0, 0), (0, 2), (0, 3), (3, 0), (3, 1), (3, 2), (3, 3), (3, 4), (4, 0), (4, 1), (4, 3), (4, 4), (4, 6), (4, 7), (4, 9), (4, 10), (5, 0), (5, 1), (5, 2), (5, 3), (5, 4), (6, 0), (6, 1), (6, 2), (6, 3), (6, 4), (6, 5), (6, 6), (7, 10), (8, 0), (8, 1), (8, 2), (8, 3), (8, 4), (8, 5), (9, 1), (9, 7), (9, 8), (9, 9)] [(4, 2), (4, 5), (9, 2)] S
  refine u_X9_world ?_
  refine u_X9_world_0 ?_
  refine ⟨fun c1 => ?_, fun c1 => ?_⟩
  · refine u_X9_world_12 ?_
    refine ⟨o_v0, ?_⟩
    refine u_X9_refuse ?_
    refine u_X9_refuse_0 ?_
    refine ⟨o_v0, ?_⟩
    intro S2 eS2
    have hI : IV S2 := by rw [eS2]; exact iv_sI hI o_v0 (by decide) (nu_free (by decide))
    have f0 := fr_I eS2 g0 f0 o_v0 (by decide)
    obtain ⟨y3, hy3⟩ : ∃ z : Int32, z = (2 : Int32) := ⟨_, rfl⟩
    have d_y3 := rd_Is eS2 hy3
    have g0 := gr_I eS2 g0
    have o_v0 := ob_I eS2 o_v0
    intro _
    exact hq _ _ hI g0 f0
  · refine ⟨o_v0, ?_⟩
    intro x5 ex5
    have r_x5 : (0 : Int32) ≤ x5 ∧ x5 ≤ (900 : Int32) := by rw [ex5]; exact nu 0 rfl hI o_v0
    have d_x5 := ex5
    refine ⟨fun c6 => ?_, fun c6 => ?_⟩
    · obtain ⟨a7, ea7, o_a7, -⟩ := sh 2 rfl hI o_v0
      refine ⟨a7, ea7, ?_⟩
      obtain ⟨a8, ea8, o_a8, l_a8⟩ := shl 0 rfl hI o_v0
      refine ⟨a8, ea8, ?_⟩
      refine ⟨o_a7, ?_⟩
      refine m_X4_read hI o_a7 o_a8 l_a8 (q76 c1 r_x5 c6) (fun x9 S10 hJ g11 fc12 b_x9 => ?_)
      have hI := hJ
      have l_a8 := (gr_len g11 o_a8).trans l_a8
      have d_x5 := d_x5.trans (fri_at fc12 (by decide) (by decide) o_v0).symm
      have ea7 := (frr_at fc12 (by decide) (by decide) o_v0).trans ea7
      have ea8 := (frr_at fc12 (by decide) (by decide) o_v0).trans ea8
      have f0 := fri_tr (S := S) g0 f0 fc12 (by decide) (by decide)
      have o_a7 := gr_ob g11 o_a7
      have o_a8 := gr_ob g11 o_a8
      have o_v0 := gr_ob g11 o_v0
      have g0 := gr_tr (T := S) g0 g11
      intro _ _
      have bb_x9 : x9 = 0 ∨ x9 = 1 := b_x9
      intro S13 eS13
      have hI : IV S13 := by rw [eS13]; exact iv_sI hI o_v0 (by decide) (nu_one (lo := (0 : Int32)) (hi := (900 : Int32)) (by decide) (q77 c1 r_x5 c6))
      have f0 := fr_I eS13 g0 f0 o_v0 (by decide)
      obtain ⟨y14, hy14⟩ : ∃ z : Int32, z = (0 : Int32) := ⟨_, rfl⟩
      have d_y14 := rd_Is eS13 hy14
      have ea7 := rf_I eS13 ea7
      have ea8 := rf_I eS13 ea8
      have l_a8 := ln_I eS13 l_a8
      have g0 := gr_I eS13 g0
      have o_a7 := ob_I eS13 o_a7
      have o_a8 := ob_I eS13 o_a8
      have o_v0 := ob_I eS13 o_v0
      refine ⟨a7, ea7, ?_⟩
      refine ⟨o_a7, ?_⟩
      intro x16 ex16
      have d_x16 := ex16
      intro S17 eS17
      have hI : IV S17 := by rw [eS17]; exact iv_sI hI o_v0 (by decide) (nu_free (by decide))
      have f0 := fr_I eS17 g0 f0 o_v0 (by decide)
      have d_y14 := rd_Ij eS17 (by decide) d_y14
      have d_x16 := rd_Ik eS17 o_v0 o_a7 (by decide) d_x16
      obtain ⟨y18, hy18⟩ : ∃ z : Int32, z = x16 := ⟨_, rfl⟩
      have d_y18 := rd_Is eS17 hy18
      have ea7 := rf_I eS17 ea7
      have ea8 := rf_I eS17 ea8
      have l_a8 := ln_I eS17 l_a8
      have g0 := gr_I eS17 g0
      have o_a7 := ob_I eS17 o_a7
      have o_a8 := ob_I eS17 o_a8
      have o_v0 := ob_I eS17 o_v0
      refine ⟨a7, ea7, ?_⟩
      refine ⟨o_a7, ?_⟩
      intro x20 ex20
      have d_x20 := ex20
      intro S21 eS21
      have hI : IV S21 := by rw [eS21]; exact iv_sI hI o_v0 (by decide) (nu_free (by decide))
      have f0 := fr_I eS21 g0 f0 o_v0 (by decide)
      have d_y14 := rd_Ij eS21 (by decide) d_y14
      have d_x16 := rd_Ik eS21 o_v0 o_a7 (by decide) d_x16
      have d_y18 := rd_Ij eS21 (by decide) d_y18
      have d_x20 := rd_Ik eS21 o_v0 o_a7 (by decide) d_x20
      obtain ⟨y22, hy22⟩ : ∃ z : Int32, z = x20 := ⟨_, rfl⟩
      have d_y22 := rd_Is eS21 hy22
      have ea7 := rf_I eS21 ea7
      have ea8 := rf_I eS21 ea8
      have l_a8 := ln_I eS21 l_a8
      have g0 := gr_I eS21 g0
      have o_a7 := ob_I eS21 o_a7
      have o_a8 := ob_I eS21 o_a8
      have o_v0 := ob_I eS21 o_v0
      refine ⟨fun c23 => ?_, fun c23 => ?_⟩
      · refine ⟨a7, ea7, ?_⟩
        obtain ⟨a25, ea25, o_a25, -⟩ := sh 1 rfl hI o_v0
        refine ⟨a25, ea25, ?_⟩
        refine ⟨o_a7, ?_⟩
        refine u_X4_exchange ?_
        refine u_X4_exchange_0 ?_
        refine ⟨o_a7, ?_⟩
        obtain ⟨a26, ea26, o_a26, -⟩ := sh 12 rfl hI o_a7
        refine ⟨a26, ea26, ?_⟩
        intro S27 eS27
        have hI : IV S27 := by rw [eS27]; exact iv_sR (j := 5) (v := a25) hI o_a7 (by decide) (by decide) (npr hI.1 o_a25 (by decide)) o_a25.1 (sh_one (by decide) ⟨o_a25, Or.inl rfl⟩)
        have f0 := fr_R eS27 g0 f0 o_a7 (by decide)
        have d_y14 := rd_R eS27 d_y14
        have d_x16 := rd_R eS27 d_x16
        have d_y18 := rd_R eS27 d_y18
        have d_x20 := rd_R eS27 d_x20
        have d_y22 := rd_R eS27 d_y22
        have ea7 := rf_Rk eS27 o_a7 o_v0 (by decide) ea7
        have ea8 := rf_Rk eS27 o_a7 o_v0 (by decide) ea8
        have ea25 := rf_Rk eS27 o_a7 o_v0 (by decide) ea25
        have l_a8 := ln_R eS27 l_a8
        have g0 := gr_R eS27 g0
        have o_a25 := ob_R eS27 o_a25
        have o_a26 := ob_R eS27 o_a26
        have o_a7 := ob_R eS27 o_a7
        have o_a8 := ob_R eS27 o_a8
        have o_v0 := ob_R eS27 o_v0
        intro _
        intro S28 eS28
        have hI : IV S28 := by rw [eS28]; exact iv_sR (j := 2) (v := a26) hI o_v0 (by decide) (by decide) (npr hI.1 o_a26 (by decide)) o_a26.1 (sh_one (by decide) ⟨o_a26, Or.inl rfl⟩)
        have f0 := fr_R eS28 g0 f0 o_v0 (by decide)
        have d_y14 := rd_R eS28 d_y14
        have d_x16 := rd_R eS28 d_x16
        have d_y18 := rd_R eS28 d_y18
        have d_x20 := rd_R eS28 d_x20
        have d_y22 := rd_R eS28 d_y22
        have ea7 := rf_Rj eS28 (by decide) ea7
        have ea8 := rf_Rj eS28 (by decide) ea8
        have l_a8 := ln_R eS28 l_a8
        have g0 := gr_R eS28 g0
        have o_a25 := ob_R eS28 o_a25
        have o_a26 := ob_R eS28 o_a26
        have o_a7 := ob_R eS28 o_a7
        have o_a8 := ob_R eS28 o_a8
        have o_v0 := ob_R eS28 o_v0
        obtain ⟨a29, ea29, o_a29, -⟩ := sh 4 rfl hI o_v0
        refine ⟨a29, ea29, ?_⟩
        refine ⟨o_a29, ?_⟩
        refine u_X7_forget ?_
        refine u_X7_forget_0 ?_
        refine ⟨o_a29, ?_⟩
        intro S30 eS30
        have hI : IV S30 := by rw [eS30]; exact iv_sI hI o_a29 (by decide) (nu_free (by decide))
        have f0 := fr_I eS30 g0 f0 o_a29 (by decide)
        have d_y14 := rd_Ik eS30 o_a29 o_v0 (by decide) d_y14
        have d_x16 := rd_Ik eS30 o_a29 o_a7 (by decide) d_x16
        have d_y18 := rd_Ik eS30 o_a29 o_v0 (by decide) d_y18
        have d_x20 := rd_Ik eS30 o_a29 o_a7 (by decide) d_x20
        have d_y22 := rd_Ik eS30 o_a29 o_v0 (by decide) d_y22
        obtain ⟨y31, hy31⟩ : ∃ z : Int32, z = (-1 : Int32) := ⟨_, rfl⟩
        have d_y31 := rd_Is eS30 hy31
        have ea7 := rf_I eS30 ea7
        have ea8 := rf_I eS30 ea8
        have ea29 := rf_I eS30 ea29
        have l_a8 := ln_I eS30 l_a8
        have g0 := gr_I eS30 g0
        have o_a25 := ob_I eS30 o_a25
        have o_a26 := ob_I eS30 o_a26
        have o_a29 := ob_I eS30 o_a29
        have o_a7 := ob_I eS30 o_a7
        have o_a8 := ob_I eS30 o_a8
        have o_v0 := ob_I eS30 o_v0
        intro _
        obtain ⟨a32, ea32, o_a32, -⟩ := sh 5 rfl hI o_v0
        refine ⟨a32, ea32, ?_⟩
        refine ⟨o_a32, ?_⟩
        refine u_X0_end ?_
        refine u_X0_end_0 ?_
        refine ⟨o_a32, ?_⟩
        intro S33 eS33
        have hI : IV S33 := by rw [eS33]; exact iv_sI hI o_a32 (by decide) (nu_one (lo := (-1 : Int32)) (hi := (3 : Int32)) (by decide) (q78 c1 r_x5 c6 bb_x9 c23))
        have f0 := fr_I eS33 g0 f0 o_a32 (by decide)
        have d_y14 := rd_Ik eS33 o_a32 o_v0 (by decide) d_y14
        have d_x16 := rd_Ik eS33 o_a32 o_a7 (by decide) d_x16
        have d_y18 := rd_Ik eS33 o_a32 o_v0 (by decide) d_y18
        have d_x20 := rd_Ik eS33 o_a32 o_a7 (by decide) d_x20
        have d_y22 := rd_Ik eS33 o_a32 o_v0 (by decide) d_y22
        have d_y31 := rd_Ik eS33 o_a32 o_a29 (by decide) d_y31
        obtain ⟨y34, hy34⟩ : ∃ z : Int32, z = (-1 : Int32) := ⟨_, rfl⟩
        have d_y34 := rd_Is eS33 hy34
        have ea7 := rf_I eS33 ea7
        have ea8 := rf_I eS33 ea8
        have ea29 := rf_I eS33 ea29
        have ea32 := rf_I eS33 ea32
        have l_a8 := ln_I eS33 l_a8
        have g0 := gr_I eS33 g0
        have o_a25 := ob_I eS33 o_a25
        have o_a26 := ob_I eS33 o_a26
        have o_a29 := ob_I eS33 o_a29
        have o_a32 := ob_I eS33 o_a32
        have o_a7 := ob_I eS33 o_a7
        have o_a8 := ob_I eS33 o_a8
        have o_v0 := ob_I eS33 o_v0
        intro S35 eS35
        have hI : IV S35 := by rw [eS35]; exact iv_sI hI o_a32 (by decide) (nu_one (lo := (0 : Int32)) (hi := (16 : Int32)) (by decide) (q79 c1 r_x5 c6 bb_x9 c23))
        have f0 := fr_I eS35 g0 f0 o_a32 (by decide)
        have d_y14 := rd_Ik eS35 o_a32 o_v0 (by decide) d_y14
        have d_x16 := rd_Ik eS35 o_a32 o_a7 (by decide) d_x16
        have d_y18 := rd_Ik eS35 o_a32 o_v0 (by decide) d_y18
        have d_x20 := rd_Ik eS35 o_a32 o_a7 (by decide) d_x20
        have d_y22 := rd_Ik eS35 o_a32 o_v0 (by decide) d_y22
        have d_y31 := rd_Ik eS35 o_a32 o_a29 (by decide) d_y31
        have d_y34 := rd_Ij eS35 (by decide) d_y34
        obtain ⟨y36, hy36⟩ : ∃ z : Int32, z = (0 : Int32) := ⟨_, rfl⟩
        have d_y36 := rd_Is eS35 hy36
        have ea7 := rf_I eS35 ea7
        have ea8 := rf_I eS35 ea8
        have ea29 := rf_I eS35 ea29
        have ea32 := rf_I eS35 ea32
        have l_a8 := ln_I eS35 l_a8
        have g0 := gr_I eS35 g0
        have o_a25 := ob_I eS35 o_a25
        have o_a26 := ob_I eS35 o_a26
        have o_a29 := ob_I eS35 o_a29
        have o_a32 := ob_I eS35 o_a32
        have o_a7 := ob_I eS35 o_a7
        have o_a8 := ob_I eS35 o_a8
        have o_v0 := ob_I eS35 o_v0
        intro S37 eS37
        have hI : IV S37 := by rw [eS37]; exact iv_sI hI o_a32 (by decide) (nu_one (lo := (0 : Int32)) (hi := (3 : Int32)) (by decide) (q80 c1 r_x5 c6 bb_x9 c23))
        have f0 := fr_I eS37 g0 f0 o_a32 (by decide)
        have d_y14 := rd_Ik eS37 o_a32 o_v0 (by decide) d_y14
        have d_x16 := rd_Ik eS37 o_a32 o_a7 (by decide) d_x16
        have d_y18 := rd_Ik eS37 o_a32 o_v0 (by decide) d_y18
        have d_x20 := rd_Ik eS37 o_a32 o_a7 (by decide) d_x20
        have d_y22 := rd_Ik eS37 o_a32 o_v0 (by decide) d_y22
        have d_y31 := rd_Ik eS37 o_a32 o_a29 (by decide) d_y31
        have d_y34 := rd_Ij eS37 (by decide) d_y34
        have d_y36 := rd_Ij eS37 (by decide) d_y36
        obtain ⟨y38, hy38⟩ : ∃ z : Int32, z = (0 : Int32) := ⟨_, rfl⟩
        have d_y38 := rd_Is eS37 hy38
        have ea7 := rf_I eS37 ea7
        have ea8 := rf_I eS37 ea8
        have ea29 := rf_I eS37 ea29
        have ea32 := rf_I eS37 ea32
        have l_a8 := ln_I eS37 l_a8
        have g0 := gr_I eS37 g0
        have o_a25 := ob_I eS37 o_a25
        have o_a26 := ob_I eS37 o_a26
        have o_a29 := ob_I eS37 o_a29
        have o_a32 := ob_I eS37 o_a32
        have o_a7 := ob_I eS37 o_a7
        have o_a8 := ob_I eS37 o_a8
        have o_v0 := ob_I eS37 o_v0
        intro _
        obtain ⟨a39, ea39, o_a39, -⟩ := sh 1 rfl hI o_v0
        refine ⟨a39, ea39, ?_⟩
        refine ⟨o_a39, ?_⟩
        intro x40 ex40
        have r_x40 : (0 : Int32) ≤ x40 ∧ x40 ≤ (4 : Int32) := by rw [ex40]; exact nu 14 rfl hI o_a39
        have d_x40 := ex40
        refine u_X9_grant ?_
        refine u_X9_grant_0 ?_
        refine ⟨o_v0, ?_⟩
        intro S41 eS41
        have hI : IV S41 := by rw [eS41]; exact iv_sI hI o_v0 (by decide) (nu_free (by decide))
        have f0 := fr_I eS41 g0 f0 o_v0 (by decide)
        have d_y14 := rd_Ij eS41 (by decide) d_y14
        have d_x16 := rd_Ik eS41 o_v0 o_a7 (by decide) d_x16
        have d_y18 := rd_Ij eS41 (by decide) d_y18
        have d_x20 := rd_Ik eS41 o_v0 o_a7 (by decide) d_x20
        have d_y22 := rd_Ij eS41 (by decide) d_y22
        have d_y31 := rd_Ik eS41 o_v0 o_a29 (by decide) d_y31
        have d_y34 := rd_Ik eS41 o_v0 o_a32 (by decide) d_y34
        have d_y36 := rd_Ik eS41 o_v0 o_a32 (by decide) d_y36
        have d_y38 := rd_Ik eS41 o_v0 o_a32 (by decide) d_y38
        have d_x40 := rd_Ik eS41 o_v0 o_a39 (by decide) d_x40
        obtain ⟨y42, hy42⟩ : ∃ z : Int32, z = (0 : Int32) := ⟨_, rfl⟩
        have d_y42 := rd_Is eS41 hy42
        have ea7 := rf_I eS41 ea7
        have ea8 := rf_I eS41 ea8
        have ea29 := rf_I eS41 ea29
        have ea32 := rf_I eS41 ea32
        have ea39 := rf_I eS41 ea39
        have l_a8 := ln_I eS41 l_a8
        have g0 := gr_I eS41 g0
        have o_a25 := ob_I eS41 o_a25
        have o_a26 := ob_I eS41 o_a26
        have o_a29 := ob_I eS41 o_a29
        have o_a32 := ob_I eS41 o_a32
        have o_a39 := ob_I eS41 o_a39
        have o_a7 := ob_I eS41 o_a7
        have o_a8 := ob_I eS41 o_a8
        have o_v0 := ob_I eS41 o_v0
        intro _
        exact hq _ _ hI g0 f0
      · refine u_X9_refuse ?_
        refine u_X9_refuse_0 ?_
        refine ⟨o_v0, ?_⟩
        intro S44 eS44
        have hI : IV S44 := by rw [eS44]; exact iv_sI hI o_v0 (by decide) (nu_free (by decide))
        have f0 := fr_I eS44 g0 f0 o_v0 (by decide)
        have d_y14 := rd_Ij eS44 (by decide) d_y14
        have d_x16 := rd_Ik eS44 o_v0 o_a7 (by decide) d_x16
        have d_y18 := rd_Ij eS44 (by decide) d_y18
        have d_x20 := rd_Ik eS44 o_v0 o_a7 (by decide) d_x20
        have d_y22 := rd_Ij eS44 (by decide) d_y22
        obtain ⟨y45, hy45⟩ : ∃ z : Int32, z = (4 : Int32) := ⟨_, rfl⟩
        have d_y45 := rd_Is eS44 hy45
        have ea7 := rf_I eS44 ea7
        have ea8 := rf_I eS44 ea8
        have l_a8 := ln_I eS44 l_a8
        have g0 := gr_I eS44 g0
        have o_a7 := ob_I eS44 o_a7
        have o_a8 := ob_I eS44 o_a8
        have o_v0 := ob_I eS44 o_v0
        intro _
        exact hq _ _ hI g0 f0
    · refine u_X9_world_12 ?_
      refine ⟨o_v0, ?_⟩
      refine u_X9_refuse ?_
      refine u_X9_refuse_0 ?_
      refine ⟨o_v0, ?_⟩
      intro S47 eS47
      have hI : IV S47 := by rw [eS47]; exact iv_sI hI o_v0 (by decide) (nu_free (by decide))
      have f0 := fr_I eS47 g0 f0 o_v0 (by decide)
      have d_x5 := rd_Ij eS47 (by decide) d_x5
      obtain ⟨y48, hy48⟩ : ∃ z : Int32, z = (2 : Int32) := ⟨_, rfl⟩
      have d_y48 := rd_Is eS47 hy48
      have g0 := gr_I eS47 g0
      have o_v0 := ob_I eS47 o_v0
      intro _
      exact hq _ _ hI g0 f0
