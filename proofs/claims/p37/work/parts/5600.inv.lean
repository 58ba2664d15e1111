set_option maxHeartbeats 4000000 in
set_option maxRecDepth 20000 in
theorem m_X10_across {v0 : Nat} {v1 : Int32} {v2 : Int32} {v3 : Int32} {Q : Int32 → HS → Prop} {S : HS} (hI : IV S) (o_v0 : ob S v0 10)   (h0 : 0 ≤ v1 ∧ v1 < 12) (h1 : 0 ≤ v3 ∧ v3 < 6)  (hq : ∀ (r : Int32) (T : HS), IV T → Gr S T → (S = T) → Q r T) : P_X10_across v0 v1 v2 v3 Q S := by
  have g0 := gr_rf S
  refine u_X10_across ?_
  refine u_X10_across_0 ?_
  refine ⟨o_v0, ?_⟩
  obtain ⟨a1, ea1, o_a1, l_a1⟩ := shl 31 rfl hI o_v0
  refine ⟨a1, ea1, ?_⟩
  refine ⟨o_a1, ?_⟩
  refine ⟨(vin l_a1 (m := 6) (by decide) (qm21 h1)), ?_⟩
  intro x2 ex2
  refine u_X10_facing ?_
  refine u_X10_facing_0 ?_
  refine ⟨fun c3 => ?_, fun c3 => ?_⟩
  · refine ⟨o_v0, ?_⟩
    obtain ⟨a4, ea4, o_a4, l_a4⟩ := shl 37 rfl hI o_v0
    refine ⟨a4, ea4, ?_⟩
    refine ⟨o_a4, ?_⟩
    refine ⟨(vin l_a4 (m := 12) (by decide) (qm63 h0 c3)), ?_⟩
    intro x5 ex5
    intro _
    intro x7 ex7
    refine ⟨fun c8 => ?_, fun c8 => ?_⟩
    · refine ⟨fun c9 => ?_, fun c9 => ?_⟩
      · exact hq _ _ hI g0 rfl
      · obtain ⟨a10, ea10, o_a10, l_a10⟩ := shl 32 rfl hI o_v0
        refine ⟨a10, ea10, ?_⟩
        refine ⟨o_a10, ?_⟩
        refine ⟨(vin l_a10 (m := 6) (by decide) (qm69 h1 c3 ex7 c8 c9)), ?_⟩
        intro x11 ex11
        exact hq _ _ hI g0 rfl
    · obtain ⟨a12, ea12, o_a12, l_a12⟩ := shl 32 rfl hI o_v0
      refine ⟨a12, ea12, ?_⟩
      refine ⟨o_a12, ?_⟩
      refine ⟨(vin l_a12 (m := 6) (by decide) (qm70 h1 c3 ex7 c8)), ?_⟩
      intro x13 ex13
      exact hq _ _ hI g0 rfl
  · refine ⟨o_v0, ?_⟩
    obtain ⟨a14, ea14, o_a14, l_a14⟩ := shl 37 rfl hI o_v0
    refine ⟨a14, ea14, ?_⟩
    refine ⟨o_a14, ?_⟩
    refine ⟨(vin l_a14 (m := 12) (by decide) (qm66 h0 c3)), ?_⟩
    intro x15 ex15
    intro _
    intro x17 ex17
    refine ⟨fun c18 => ?_, fun c18 => ?_⟩
    · refine ⟨fun c19 => ?_, fun c19 => ?_⟩
      · exact hq _ _ hI g0 rfl
      · obtain ⟨a20, ea20, o_a20, l_a20⟩ := shl 32 rfl hI o_v0
        refine ⟨a20, ea20, ?_⟩
        refine ⟨o_a20, ?_⟩
        refine ⟨(vin l_a20 (m := 6) (by decide) (qm71 h1 c3 ex17 c18 c19)), ?_⟩
        intro x21 ex21
        exact hq _ _ hI g0 rfl
    · obtain ⟨a22, ea22, o_a22, l_a22⟩ := shl 32 rfl hI o_v0
      refine ⟨a22, ea22, ?_⟩
      refine ⟨o_a22, ?_⟩
      refine ⟨(vin l_a22 (m := 6) (by decide) (qm72 h1 c3 ex17 c18)), ?_⟩
      intro x23 ex23
      exact hq _ _ hI g0 rfl
set_option maxHeartbeats 4000000 in
set_option maxRecDepth 20000 in
theorem m_X10_air {v0 : Nat} {v1 : Int32} {v2 : Int32} {v3 : Int32} {Q : Int32 → HS → Prop} {S : HS} (hI : IV S) (o_v0 : ob S v0 10)   (h0 : 0 ≤ v1 ∧ v1 < 12) (h1 : 0 ≤ v3 ∧ v3 < 6)  (hq : ∀ (r : Int32) (T : HS), IV T → Gr S T → (S = T) → Q r T) : P_X10_air v0 v1 v2 v3 Q S := by
  have g0 := gr_rf S
  refine u_X10_air ?_
  refine u_X10_air_0 ?_
  refine ⟨o_v0, ?_⟩
  obtain ⟨a1, ea1, o_a1, l_a1⟩ := shl 31 rfl hI o_v0
  refine ⟨a1, ea1, ?_⟩
  refine ⟨o_a1, ?_⟩
  refine ⟨(vin l_a1 (m := 6) (by decide) (qm21 h1)), ?_⟩
  intro x2 ex2
  refine u_X10_facing ?_
  refine u_X10_facing_0 ?_
  refine ⟨fun c3 => ?_, fun c3 => ?_⟩
  · refine ⟨o_v0, ?_⟩
    obtain ⟨a4, ea4, o_a4, l_a4⟩ := shl 37 rfl hI o_v0
    refine ⟨a4, ea4, ?_⟩
    refine ⟨o_a4, ?_⟩
    refine ⟨(vin l_a4 (m := 12) (by decide) (qm63 h0 c3)), ?_⟩
    intro x5 ex5
    intro _
    intro x7 ex7
    refine ⟨fun c8 => ?_, fun c8 => ?_⟩
    · refine ⟨fun c9 => ?_, fun c9 => ?_⟩
      · exact hq _ _ hI g0 rfl
      · obtain ⟨a10, ea10, o_a10, l_a10⟩ := shl 32 rfl hI o_v0
        refine ⟨a10, ea10, ?_⟩
        refine ⟨o_a10, ?_⟩
        refine ⟨(vin l_a10 (m := 6) (by decide) (qm64 h1 c3 ex7 c8 c9)), ?_⟩
        intro x11 ex11
        exact hq _ _ hI g0 rfl
    · obtain ⟨a12, ea12, o_a12, l_a12⟩ := shl 32 rfl hI o_v0
      refine ⟨a12, ea12, ?_⟩
      refine ⟨o_a12, ?_⟩
      refine ⟨(vin l_a12 (m := 6) (by decide) (qm65 h1 c3 ex7 c8)), ?_⟩
      intro x13 ex13
      exact hq _ _ hI g0 rfl
  · refine ⟨o_v0, ?_⟩
    obtain ⟨a14, ea14, o_a14, l_a14⟩ := shl 37 rfl hI o_v0
    refine ⟨a14, ea14, ?_⟩
    refine ⟨o_a14, ?_⟩
    refine ⟨(vin l_a14 (m := 12) (by decide) (qm66 h0 c3)), ?_⟩
    intro x15 ex15
    intro _
    intro x17 ex17
    refine ⟨fun c18 => ?_, fun c18 => ?_⟩
    · refine ⟨fun c19 => ?_, fun c19 => ?_⟩
      · exact hq _ _ hI g0 rfl
      · obtain ⟨a20, ea20, o_a20, l_a20⟩ := shl 32 rfl hI o_v0
        refine ⟨a20, ea20, ?_⟩
        refine ⟨o_a20, ?_⟩
        refine ⟨(vin l_a20 (m := 6) (by decide) (qm67 h1 c3 ex17 c18 c19)), ?_⟩
        intro x21 ex21
        exact hq _ _ hI g0 rfl
    · obtain ⟨a22, ea22, o_a22, l_a22⟩ := shl 32 rfl hI o_v0
      refine ⟨a22, ea22, ?_⟩
      refine ⟨o_a22, ?_⟩
      refine ⟨(vin l_a22 (m := 6) (by decide) (qm68 h1 c3 ex17 c18)), ?_⟩
      intro x23 ex23
      exact hq _ _ hI g0 rfl
set_option maxHeartbeats 4000000 in
set_option maxRecDepth 20000 in
theorem m_X11_air {v0 : Nat} {v1 : Int32} {v2 : Int32} {v3 : Int32} {Q : Int32 → HS → Prop} {S : HS} (hI : IV S) (o_v0 : ob S v0 11)     (hq : ∀ (r : Int32) (T : HS), IV T → Gr S T → FRI [(11, 0), (11, 1), (11, 2)] [] S T → Q r T) : P_X11_air v0 v1 v2 v3 Q S := by
  have g0 := gr_rf S
  have f0 := fri_rf [(11, 0), (11, 1), (11, 2)] [] S
  refine u_X11_air ?_
  refine u_X11_air_0 ?_
  refine ⟨o_v0, ?_⟩
  intro S1 eS1
  have hIn : IV S1 := by rw [eS1]; exact iv11_sI hI o_v0 (by decide) (nu_free (by decide))
  have hI := hIn
  have f0 := fr_I eS1 g0 f0 o_v0 (by decide)
  obtain ⟨kv2, hkv2⟩ : ∃ z : Int32, z = (0 : Int32) := ⟨_, rfl⟩
  have d_kv2 := rd_Is eS1 hkv2
  have g0 := gr_I eS1 g0
  have o_v0 := ob_I eS1 o_v0
  refine u_X11_isRoad ?_
  refine u_X11_isRoad_0 ?_
  refine ⟨o_v0, ?_⟩
  refine ⟨fun e4 => ?_, fun a3 ea3 => ?_⟩
  · intro _ _
    refine ⟨fun c6 => ?_, fun c6 => absurd (show ¬ (0 : Int32) = 0 from c6) (by decide)⟩
    refine u_X11_air_30 ?_
    refine ⟨o_v0, ?_⟩
    refine u_X11_lost ?_
    refine u_X11_lost_0 ?_
    refine ⟨o_v0, ?_⟩
    refine u_X11_refused ?_
    refine u_X11_refused_0 ?_
    refine ⟨o_v0, ?_⟩
    intro S7 eS7
    have hIn : IV S7 := by rw [eS7]; exact iv11_sI hI o_v0 (by decide) (nu_free (by decide))
    have hI := hIn
    have f0 := fr_I eS7 g0 f0 o_v0 (by decide)
    have d_kv2 := rd_Ij eS7 (by decide) d_kv2
    obtain ⟨kv8, hkv8⟩ : ∃ z : Int32, z = (1 : Int32) := ⟨_, rfl⟩
    have d_kv8 := rd_Is eS7 hkv8
    have g0 := gr_I eS7 g0
    have o_v0 := ob_I eS7 o_v0
    intro S9 eS9
    have hIn : IV S9 := by rw [eS9]; exact iv11_sI hI o_v0 (by decide) (nu_free (by decide))
    have hI := hIn
    have f0 := fr_I eS9 g0 f0 o_v0 (by decide)
    have d_kv2 := rd_Ij eS9 (by decide) d_kv2
    have d_kv8 := rd_Ij eS9 (by decide) d_kv8
    obtain ⟨kv10, hkv10⟩ : ∃ z : Int32, z = (-1 : Int32) := ⟨_, rfl⟩
    have d_kv10 := rd_Is eS9 hkv10
    have g0 := gr_I eS9 g0
    have o_v0 := ob_I eS9 o_v0
    intro _
    intro _
    exact hq _ _ hI g0 f0
  · have o_a3 := ml_ob hI o_v0 ea3
    refine ⟨fun c13 => ?_, fun c13 => ?_⟩
    · intro _ _
      refine ⟨fun c15 => ?_, fun c15 => absurd (show ¬ (0 : Int32) = 0 from c15) (by decide)⟩
      refine u_X11_air_30 ?_
      refine ⟨o_v0, ?_⟩
      refine u_X11_lost ?_
      refine u_X11_lost_0 ?_
      refine ⟨o_v0, ?_⟩
      refine u_X11_refused ?_
      refine u_X11_refused_0 ?_
      refine ⟨o_v0, ?_⟩
      intro S16 eS16
      have hIn : IV S16 := by rw [eS16]; exact iv11_sI hI o_v0 (by decide) (nu_free (by decide))
      have hI := hIn
      have f0 := fr_I eS16 g0 f0 o_v0 (by decide)
      have d_kv2 := rd_Ij eS16 (by decide) d_kv2
      obtain ⟨kv17, hkv17⟩ : ∃ z : Int32, z = (1 : Int32) := ⟨_, rfl⟩
      have d_kv17 := rd_Is eS16 hkv17
      have ea3 := rf_I eS16 ea3
      have g0 := gr_I eS16 g0
      have o_a3 := ob_I eS16 o_a3
      have o_v0 := ob_I eS16 o_v0
      intro S18 eS18
      have hIn : IV S18 := by rw [eS18]; exact iv11_sI hI o_v0 (by decide) (nu_free (by decide))
      have hI := hIn
      have f0 := fr_I eS18 g0 f0 o_v0 (by decide)
      have d_kv2 := rd_Ij eS18 (by decide) d_kv2
      have d_kv17 := rd_Ij eS18 (by decide) d_kv17
      obtain ⟨kv19, hkv19⟩ : ∃ z : Int32, z = (-1 : Int32) := ⟨_, rfl⟩
      have d_kv19 := rd_Is eS18 hkv19
      have ea3 := rf_I eS18 ea3
      have g0 := gr_I eS18 g0
      have o_a3 := ob_I eS18 o_a3
      have o_v0 := ob_I eS18 o_v0
      intro _
      intro _
      exact hq _ _ hI g0 f0
    · refine ⟨a3, ea3, ?_⟩
      refine ⟨o_a3, ?_⟩
      intro x23 ex23
      have r_x23 : (0 : Int32) ≤ x23 ∧ x23 ≤ (12 : Int32) := by rw [ex23]; exact nu 19 rfl hI o_a3
      have d_x23 := ex23
      refine ⟨fun c24 => ?_, fun c24 => ?_⟩
      · intro _ _
        refine ⟨fun c26 => ?_, fun c26 => absurd (show ¬ (0 : Int32) = 0 from c26) (by decide)⟩
        refine u_X11_air_30 ?_
        refine ⟨o_v0, ?_⟩
        refine u_X11_lost ?_
        refine u_X11_lost_0 ?_
        refine ⟨o_v0, ?_⟩
        refine u_X11_refused ?_
        refine u_X11_refused_0 ?_
        refine ⟨o_v0, ?_⟩
        intro S27 eS27
        have hIn : IV S27 := by rw [eS27]; exact iv11_sI hI o_v0 (by decide) (nu_free (by decide))
        have hI := hIn
        have f0 := fr_I eS27 g0 f0 o_v0 (by decide)
        have d_kv2 := rd_Ij eS27 (by decide) d_kv2
        have d_x23 := rd_Ik eS27 o_v0 o_a3 (by decide) d_x23
        obtain ⟨kv28, hkv28⟩ : ∃ z : Int32, z = (1 : Int32) := ⟨_, rfl⟩
        have d_kv28 := rd_Is eS27 hkv28
        have ea3 := rf_I eS27 ea3
        have g0 := gr_I eS27 g0
        have o_a3 := ob_I eS27 o_a3
        have o_v0 := ob_I eS27 o_v0
        intro S29 eS29
        have hIn : IV S29 := by rw [eS29]; exact iv11_sI hI o_v0 (by decide) (nu_free (by decide))
        have hI := hIn
        have f0 := fr_I eS29 g0 f0 o_v0 (by decide)
        have d_kv2 := rd_Ij eS29 (by decide) d_kv2
        have d_x23 := rd_Ik eS29 o_v0 o_a3 (by decide) d_x23
        have d_kv28 := rd_Ij eS29 (by decide) d_kv28
        obtain ⟨kv30, hkv30⟩ : ∃ z : Int32, z = (-1 : Int32) := ⟨_, rfl⟩
        have d_kv30 := rd_Is eS29 hkv30
        have ea3 := rf_I eS29 ea3
        have g0 := gr_I eS29 g0
        have o_a3 := ob_I eS29 o_a3
        have o_v0 := ob_I eS29 o_v0
        intro _
        intro _
        exact hq _ _ hI g0 f0
      · intro _ _
        refine ⟨fun c34 => absurd (show (1 : Int32) = 0 from c34) (by decide), fun c34 => ?_⟩
        refine u_X11_in ?_
        refine u_X11_in_0 ?_
        refine ⟨fun c35 => ?_, fun c35 => ?_⟩
        · intro _ _
          refine ⟨fun c37 => ?_, fun c37 => absurd (show ¬ (0 : Int32) = 0 from c37) (by decide)⟩
          refine u_X11_air_30 ?_
          refine ⟨o_v0, ?_⟩
          refine u_X11_lost ?_
          refine u_X11_lost_0 ?_
          refine ⟨o_v0, ?_⟩
          refine u_X11_refused ?_
          refine u_X11_refused_0 ?_
          refine ⟨o_v0, ?_⟩
          intro S38 eS38
          have hIn : IV S38 := by rw [eS38]; exact iv11_sI hI o_v0 (by decide) (nu_free (by decide))
          have hI := hIn
          have f0 := fr_I eS38 g0 f0 o_v0 (by decide)
          have d_kv2 := rd_Ij eS38 (by decide) d_kv2
          have d_x23 := rd_Ik eS38 o_v0 o_a3 (by decide) d_x23
          obtain ⟨kv39, hkv39⟩ : ∃ z : Int32, z = (1 : Int32) := ⟨_, rfl⟩
          have d_kv39 := rd_Is eS38 hkv39
          have ea3 := rf_I eS38 ea3
          have g0 := gr_I eS38 g0
          have o_a3 := ob_I eS38 o_a3
          have o_v0 := ob_I eS38 o_v0
          intro S40 eS40
          have hIn : IV S40 := by rw [eS40]; exact iv11_sI hI o_v0 (by decide) (nu_free (by decide))
          have hI := hIn
          have f0 := fr_I eS40 g0 f0 o_v0 (by decide)
          have d_kv2 := rd_Ij eS40 (by decide) d_kv2
          have d_x23 := rd_Ik eS40 o_v0 o_a3 (by decide) d_x23
          have d_kv39 := rd_Ij eS40 (by decide) d_kv39
          obtain ⟨kv41, hkv41⟩ : ∃ z : Int32, z = (-1 : Int32) := ⟨_, rfl⟩
          have d_kv41 := rd_Is eS40 hkv41
          have ea3 := rf_I eS40 ea3
          have g0 := gr_I eS40 g0
          have o_a3 := ob_I eS40 o_a3
          have o_v0 := ob_I eS40 o_v0
          intro _
          intro _
          exact hq _ _ hI g0 f0
        · refine ⟨fun c44 => ?_, fun c44 => ?_⟩
          · intro _ _
            refine ⟨fun c46 => ?_, fun c46 => absurd (show ¬ (0 : Int32) = 0 from c46) (by decide)⟩
            refine u_X11_air_30 ?_
            refine ⟨o_v0, ?_⟩
            refine u_X11_lost ?_
            refine u_X11_lost_0 ?_
            refine ⟨o_v0, ?_⟩
            refine u_X11_refused ?_
            refine u_X11_refused_0 ?_
            refine ⟨o_v0, ?_⟩
            intro S47 eS47
            have hIn : IV S47 := by rw [eS47]; exact iv11_sI hI o_v0 (by decide) (nu_free (by decide))
            have hI := hIn
            have f0 := fr_I eS47 g0 f0 o_v0 (by decide)
            have d_kv2 := rd_Ij eS47 (by decide) d_kv2
            have d_x23 := rd_Ik eS47 o_v0 o_a3 (by decide) d_x23
            obtain ⟨kv48, hkv48⟩ : ∃ z : Int32, z = (1 : Int32) := ⟨_, rfl⟩
            have d_kv48 := rd_Is eS47 hkv48
            have ea3 := rf_I eS47 ea3
            have g0 := gr_I eS47 g0
            have o_a3 := ob_I eS47 o_a3
            have o_v0 := ob_I eS47 o_v0
            intro S49 eS49
            have hIn : IV S49 := by rw [eS49]; exact iv11_sI hI o_v0 (by decide) (nu_free (by decide))
            have hI := hIn
            have f0 := fr_I eS49 g0 f0 o_v0 (by decide)
            have d_kv2 := rd_Ij eS49 (by decide) d_kv2
            have d_x23 := rd_Ik eS49 o_v0 o_a3 (by decide) d_x23
            have d_kv48 := rd_Ij eS49 (by decide) d_kv48
            obtain ⟨kv50, hkv50⟩ : ∃ z : Int32, z = (-1 : Int32) := ⟨_, rfl⟩
            have d_kv50 := rd_Is eS49 hkv50
            have ea3 := rf_I eS49 ea3
            have g0 := gr_I eS49 g0
            have o_a3 := ob_I eS49 o_a3
            have o_v0 := ob_I eS49 o_v0
            intro _
            intro _
            exact hq _ _ hI g0 f0
          · intro _ _
            refine ⟨fun c54 => absurd (show (1 : Int32) = 0 from c54) (by decide), fun c54 => ?_⟩
            refine u_X11_isHour ?_
            refine u_X11_isHour_0 ?_
            refine ⟨o_v0, ?_⟩
            refine ⟨fun e56 => (nomatch (e56.symm.trans ea3)), fun a55 ea55 => ?_⟩
            obtain rfl : a3 = a55 := Option.some.inj (ea3.symm.trans ea55)
            refine ⟨fun c57 => ?_, fun c57 => ?_⟩
            · intro _ _
              refine ⟨fun c59 => absurd (show ¬ (0 : Int32) = 0 from c59) (by decide), fun c59 => ?_⟩
              refine u_X11_air_30 ?_
              refine ⟨o_v0, ?_⟩
              refine u_X11_lost ?_
              refine u_X11_lost_0 ?_
              refine ⟨o_v0, ?_⟩
              refine u_X11_refused ?_
              refine u_X11_refused_0 ?_
              refine ⟨o_v0, ?_⟩
              intro S60 eS60
              have hIn : IV S60 := by rw [eS60]; exact iv11_sI hI o_v0 (by decide) (nu_free (by decide))
              have hI := hIn
              have f0 := fr_I eS60 g0 f0 o_v0 (by decide)
              have d_kv2 := rd_Ij eS60 (by decide) d_kv2
              have d_x23 := rd_Ik eS60 o_v0 o_a3 (by decide) d_x23
              obtain ⟨kv61, hkv61⟩ : ∃ z : Int32, z = (1 : Int32) := ⟨_, rfl⟩
              have d_kv61 := rd_Is eS60 hkv61
              have ea3 := rf_I eS60 ea3
              have g0 := gr_I eS60 g0
              have o_a3 := ob_I eS60 o_a3
              have o_v0 := ob_I eS60 o_v0
              intro S62 eS62
              have hIn : IV S62 := by rw [eS62]; exact iv11_sI hI o_v0 (by decide) (nu_free (by decide))
              have hI := hIn
              have f0 := fr_I eS62 g0 f0 o_v0 (by decide)
              have d_kv2 := rd_Ij eS62 (by decide) d_kv2
              have d_x23 := rd_Ik eS62 o_v0 o_a3 (by decide) d_x23
              have d_kv61 := rd_Ij eS62 (by decide) d_kv61
              obtain ⟨kv63, hkv63⟩ : ∃ z : Int32, z = (-1 : Int32) := ⟨_, rfl⟩
              have d_kv63 := rd_Is eS62 hkv63
              have ea3 := rf_I eS62 ea3
              have g0 := gr_I eS62 g0
              have o_a3 := ob_I eS62 o_a3
              have o_v0 := ob_I eS62 o_v0
              intro _
              intro _
              exact hq _ _ hI g0 f0
            · refine ⟨a3, ea3, ?_⟩
              refine ⟨o_a3, ?_⟩
              intro x67 ex67
              have r_x67 : (0 : Int32) ≤ x67 ∧ x67 ≤ (6 : Int32) := by rw [ex67]; exact nu 17 rfl hI o_a3
              have d_x67 := ex67
              refine ⟨fun c68 => ?_, fun c68 => ?_⟩
              · intro _ _
                refine ⟨fun c70 => absurd (show ¬ (0 : Int32) = 0 from c70) (by decide), fun c70 => ?_⟩
                refine u_X11_air_30 ?_
                refine ⟨o_v0, ?_⟩
                refine u_X11_lost ?_
                refine u_X11_lost_0 ?_
                refine ⟨o_v0, ?_⟩
                refine u_X11_refused ?_
                refine u_X11_refused_0 ?_
                refine ⟨o_v0, ?_⟩
                intro S71 eS71
                have hIn : IV S71 := by rw [eS71]; exact iv11_sI hI o_v0 (by decide) (nu_free (by decide))
                have hI := hIn
                have f0 := fr_I eS71 g0 f0 o_v0 (by decide)
                have d_kv2 := rd_Ij eS71 (by decide) d_kv2
                have d_x23 := rd_Ik eS71 o_v0 o_a3 (by decide) d_x23
                have d_x67 := rd_Ik eS71 o_v0 o_a3 (by decide) d_x67
                obtain ⟨kv72, hkv72⟩ : ∃ z : Int32, z = (1 : Int32) := ⟨_, rfl⟩
                have d_kv72 := rd_Is eS71 hkv72
                have ea3 := rf_I eS71 ea3
                have g0 := gr_I eS71 g0
                have o_a3 := ob_I eS71 o_a3
                have o_v0 := ob_I eS71 o_v0
                intro S73 eS73
                have hIn : IV S73 := by rw [eS73]; exact iv11_sI hI o_v0 (by decide) (nu_free (by decide))
                have hI := hIn
                have f0 := fr_I eS73 g0 f0 o_v0 (by decide)
                have d_kv2 := rd_Ij eS73 (by decide) d_kv2
                have d_x23 := rd_Ik eS73 o_v0 o_a3 (by decide) d_x23
                have d_x67 := rd_Ik eS73 o_v0 o_a3 (by decide) d_x67
                have d_kv72 := rd_Ij eS73 (by decide) d_kv72
                obtain ⟨kv74, hkv74⟩ : ∃ z : Int32, z = (-1 : Int32) := ⟨_, rfl⟩
                have d_kv74 := rd_Is eS73 hkv74
                have ea3 := rf_I eS73 ea3
                have g0 := gr_I eS73 g0
                have o_a3 := ob_I eS73 o_a3
                have o_v0 := ob_I eS73 o_v0
                intro _
                intro _
                exact hq _ _ hI g0 f0
              · intro _ _
                refine ⟨fun c78 => ?_, fun c78 => absurd (show (1 : Int32) = 0 from c78) (by decide)⟩
                refine ⟨a3, ea3, ?_⟩
                refine ⟨o_a3, ?_⟩
                refine m_X10_air hI o_a3 (qm704 c13 r_x23 c24 c35 c44 c57 r_x67 c68) (qm705 c13 r_x23 c24 c35 c44 c57 r_x67 c68) (fun x80 S81 hI2 g82 p_x80 => ?_)
                subst p_x80
                intro _
                refine u_X11_good ?_
                refine u_X11_good_0 ?_
                refine ⟨o_v0, ?_⟩
                intro S84 eS84
                have hIn : IV S84 := by rw [eS84]; exact iv11_sI hI o_v0 (by decide) (nu_free (by decide))
                have hI := hIn
                have f0 := fr_I eS84 g0 f0 o_v0 (by decide)
                have d_kv2 := rd_Ij eS84 (by decide) d_kv2
                have d_x23 := rd_Ik eS84 o_v0 o_a3 (by decide) d_x23
                have d_x67 := rd_Ik eS84 o_v0 o_a3 (by decide) d_x67
                obtain ⟨kv85, hkv85⟩ : ∃ z : Int32, z = (0 : Int32) := ⟨_, rfl⟩
                have d_kv85 := rd_Is eS84 hkv85
                have ea3 := rf_I eS84 ea3
                have g0 := gr_I eS84 g0
                have o_a3 := ob_I eS84 o_a3
                have o_v0 := ob_I eS84 o_v0
                intro S86 eS86
                have hIn : IV S86 := by rw [eS86]; exact iv11_sI hI o_v0 (by decide) (nu_free (by decide))
                have hI := hIn
                have f0 := fr_I eS86 g0 f0 o_v0 (by decide)
                have d_kv2 := rd_Ij eS86 (by decide) d_kv2
                have d_x23 := rd_Ik eS86 o_v0 o_a3 (by decide) d_x23
                have d_x67 := rd_Ik eS86 o_v0 o_a3 (by decide) d_x67
                have d_kv85 := rd_Ij eS86 (by decide) d_kv85
                obtain ⟨kv87, hkv87⟩ : ∃ z : Int32, z = (-1 : Int32) := ⟨_, rfl⟩
                have d_kv87 := rd_Is eS86 hkv87
                have ea3 := rf_I eS86 ea3
                have g0 := gr_I eS86 g0
                have o_a3 := ob_I eS86 o_a3
                have o_v0 := ob_I eS86 o_v0
                intro _
                exact hq _ _ hI g0 f0
set_option maxHeartbeats 4000000 in
set_option maxRecDepth 20000 in
theorem m_X11_back {v0 : Nat} {v1 : Int32} {Q : Int32 → HS → Prop} {S : HS} (hI : IV S) (o_v0 : ob S v0 11)     (hq : ∀ (r : Int32) (T : HS), IV T → Gr S T → FRI [(11, 0), (11, 1), (11, 2), (11, 24)] [] S T → bl r → Q r T) : P_X11_back v0 v1 Q S := by
  have g0 := gr_rf S
  have f0 := fri_rf [(11, 0), (11, 1), (11, 2), (11, 24)] [] S
  refine u_X11_back ?_
  refine u_X11_back_0 ?_
  refine ⟨o_v0, ?_⟩
  intro S1 eS1
  have hIn : IV S1 := by rw [eS1]; exact iv11_sI hI o_v0 (by decide) (nu_free (by decide))
  have hI := hIn
  have f0 := fr_I eS1 g0 f0 o_v0 (by decide)
  obtain ⟨kv2, hkv2⟩ : ∃ z : Int32, z = (0 : Int32) := ⟨_, rfl⟩
  have d_kv2 := rd_Is eS1 hkv2
  have g0 := gr_I eS1 g0
  have o_v0 := ob_I eS1 o_v0
  refine u_X11_isDay ?_
  refine u_X11_isDay_0 ?_
  refine ⟨o_v0, ?_⟩
  refine ⟨fun e4 => ?_, fun a3 ea3 => ?_⟩
  · intro _ _
    refine ⟨fun c6 => ?_, fun c6 => absurd (show ¬ (0 : Int32) = 0 from c6) (by decide)⟩
    refine u_X11_back_24 ?_
    refine ⟨o_v0, ?_⟩
    refine u_X11_denied ?_
    refine u_X11_denied_0 ?_
    refine ⟨o_v0, ?_⟩
    refine u_X11_refused ?_
    refine u_X11_refused_0 ?_
    refine ⟨o_v0, ?_⟩
    intro S7 eS7
    have hIn : IV S7 := by rw [eS7]; exact iv11_sI hI o_v0 (by decide) (nu_free (by decide))
    have hI := hIn
    have f0 := fr_I eS7 g0 f0 o_v0 (by decide)
    have d_kv2 := rd_Ij eS7 (by decide) d_kv2
    obtain ⟨kv8, hkv8⟩ : ∃ z : Int32, z = (1 : Int32) := ⟨_, rfl⟩
    have d_kv8 := rd_Is eS7 hkv8
    have g0 := gr_I eS7 g0
    have o_v0 := ob_I eS7 o_v0
    intro S9 eS9
    have hIn : IV S9 := by rw [eS9]; exact iv11_sI hI o_v0 (by decide) (nu_free (by decide))
    have hI := hIn
    have f0 := fr_I eS9 g0 f0 o_v0 (by decide)
    have d_kv2 := rd_Ij eS9 (by decide) d_kv2
    have d_kv8 := rd_Ij eS9 (by decide) d_kv8
    obtain ⟨kv10, hkv10⟩ : ∃ z : Int32, z = (-1 : Int32) := ⟨_, rfl⟩
    have d_kv10 := rd_Is eS9 hkv10
    have g0 := gr_I eS9 g0
    have o_v0 := ob_I eS9 o_v0
    intro _
    intro _ _
    refine ⟨(Or.inl rfl), ?_⟩
    exact hq _ _ hI g0 f0 (Or.inl rfl)
  · have o_a3 := ml_ob hI o_v0 ea3
    intro x13 ex13
    have r_x13 : (-2 : Int32) ≤ x13 ∧ x13 ≤ (3 : Int32) := by rw [ex13]; exact nu 26 rfl hI o_v0
    have d_x13 := ex13
    obtain ⟨kv14, d_kv14⟩ : ∃ z : Int32, z = fI S1 a3 4 := ⟨_, rfl⟩
    have r_kv14 : (0 : Int32) ≤ kv14 ∧ kv14 ≤ (4 : Int32) := by rw [d_kv14]; exact nu 20 rfl hI o_a3
    have wh_x13 : x13 = -2 ∨ (0 ≤ x13 ∧ x13 < kv14) := by rw [ex13, d_kv14]; exact ml_who hI o_v0 ea3
    refine ⟨fun c15 => ?_, fun c15 => ?_⟩
    · intro _ _
      refine ⟨fun c17 => ?_, fun c17 => absurd (show ¬ (0 : Int32) = 0 from c17) (by decide)⟩
      refine u_X11_back_24 ?_
      refine ⟨o_v0, ?_⟩
      refine u_X11_denied ?_
      refine u_X11_denied_0 ?_
      refine ⟨o_v0, ?_⟩
      refine u_X11_refused ?_
      refine u_X11_refused_0 ?_
      refine ⟨o_v0, ?_⟩
      intro S18 eS18
      have hIn : IV S18 := by rw [eS18]; exact iv11_sI hI o_v0 (by decide) (nu_free (by decide))
      have hI := hIn
      have f0 := fr_I eS18 g0 f0 o_v0 (by decide)
      have d_kv2 := rd_Ij eS18 (by decide) d_kv2
      have d_x13 := rd_Ij eS18 (by decide) d_x13
      have d_kv14 := rd_Ik eS18 o_v0 o_a3 (by decide) d_kv14
      obtain ⟨kv19, hkv19⟩ : ∃ z : Int32, z = (1 : Int32) := ⟨_, rfl⟩
      have d_kv19 := rd_Is eS18 hkv19
      have ea3 := rf_I eS18 ea3
      have g0 := gr_I eS18 g0
      have o_a3 := ob_I eS18 o_a3
      have o_v0 := ob_I eS18 o_v0
      intro S20 eS20
      have hIn : IV S20 := by rw [eS20]; exact iv11_sI hI o_v0 (by decide) (nu_free (by decide))
      have hI := hIn
      have f0 := fr_I eS20 g0 f0 o_v0 (by decide)
      have d_kv2 := rd_Ij eS20 (by decide) d_kv2
      have d_x13 := rd_Ij eS20 (by decide) d_x13
      have d_kv14 := rd_Ik eS20 o_v0 o_a3 (by decide) d_kv14
      have d_kv19 := rd_Ij eS20 (by decide) d_kv19
      obtain ⟨kv21, hkv21⟩ : ∃ z : Int32, z = (-1 : Int32) := ⟨_, rfl⟩
      have d_kv21 := rd_Is eS20 hkv21
      have ea3 := rf_I eS20 ea3
      have g0 := gr_I eS20 g0
      have o_a3 := ob_I eS20 o_a3
      have o_v0 := ob_I eS20 o_v0
      intro _
      intro _ _
      refine ⟨(Or.inl rfl), ?_⟩
      exact hq _ _ hI g0 f0 (Or.inl rfl)
    · intro _ _
      refine ⟨fun c25 => absurd (show (1 : Int32) = 0 from c25) (by decide), fun c25 => ?_⟩
      refine ⟨fun c26 => ?_, fun c26 => ?_⟩
      · refine u_X11_back_24 ?_
        refine ⟨o_v0, ?_⟩
        refine u_X11_denied ?_
        refine u_X11_denied_0 ?_
        refine ⟨o_v0, ?_⟩
        refine u_X11_refused ?_
        refine u_X11_refused_0 ?_
        refine ⟨o_v0, ?_⟩
        intro S27 eS27
        have hIn : IV S27 := by rw [eS27]; exact iv11_sI hI o_v0 (by decide) (nu_free (by decide))
        have hI := hIn
        have f0 := fr_I eS27 g0 f0 o_v0 (by decide)
        have d_kv2 := rd_Ij eS27 (by decide) d_kv2
        have d_x13 := rd_Ij eS27 (by decide) d_x13
        have d_kv14 := rd_Ik eS27 o_v0 o_a3 (by decide) d_kv14
        obtain ⟨kv28, hkv28⟩ : ∃ z : Int32, z = (1 : Int32) := ⟨_, rfl⟩
        have d_kv28 := rd_Is eS27 hkv28
        have ea3 := rf_I eS27 ea3
        have g0 := gr_I eS27 g0
        have o_a3 := ob_I eS27 o_a3
        have o_v0 := ob_I eS27 o_v0
        intro S29 eS29
        have hIn : IV S29 := by rw [eS29]; exact iv11_sI hI o_v0 (by decide) (nu_free (by decide))
        have hI := hIn
        have f0 := fr_I eS29 g0 f0 o_v0 (by decide)
        have d_kv2 := rd_Ij eS29 (by decide) d_kv2
        have d_x13 := rd_Ij eS29 (by decide) d_x13
        have d_kv14 := rd_Ik eS29 o_v0 o_a3 (by decide) d_kv14
        have d_kv28 := rd_Ij eS29 (by decide) d_kv28
        obtain ⟨kv30, hkv30⟩ : ∃ z : Int32, z = (-1 : Int32) := ⟨_, rfl⟩
        have d_kv30 := rd_Is eS29 hkv30
        have ea3 := rf_I eS29 ea3
        have g0 := gr_I eS29 g0
        have o_a3 := ob_I eS29 o_a3
        have o_v0 := ob_I eS29 o_v0
        intro _
        intro _ _
        refine ⟨(Or.inl rfl), ?_⟩
        exact hq _ _ hI g0 f0 (Or.inl rfl)
      · intro x33 ex33
        have r_x33 : (0 : Int32) ≤ x33 ∧ x33 ≤ (3 : Int32) := by rw [ex33]; exact nu 28 rfl hI o_v0
        have d_x33 := ex33
        refine ⟨fun c34 => ?_, fun c34 => ?_⟩
        · refine i_X11_back_32 (fun (y0 : Nat) (y1 : Int32) (y2 : Int32) (Z : HS) => ((7 : Int32).toInt - y2.toInt).toNat) (fun (y0 : Nat) (y1 : Int32) (y2 : Int32) (Z : HS) => (IV Z) ∧ (Gr S1 Z) ∧ (FRI [] [] S1 Z) ∧ (v0 = y0) ∧ (v1 = y1) ∧ (0 ≤ y2 ∧ y2 ≤ 7)) ?_ _ _ _ _ ⟨hI, (gr_rf _), (fri_rf _ _ _), rfl, rfl, (qm509 r_x13 r_kv14 wh_x13 c15 c26 r_x33 c34)⟩
          intro w39 w41 w43 S36 X44 ⟨hI, gL37, fL38, q40, q42, i1u35⟩ ih45
          subst q40
          subst q42
          have d_kv2 := d_kv2.trans (fri_at fL38 (by decide) (by decide) o_v0).symm
          have d_x13 := d_x13.trans (fri_at fL38 (by decide) (by decide) o_v0).symm
          have d_kv14 := d_kv14.trans (fri_at fL38 (by decide) (by decide) o_a3).symm
          have d_x33 := d_x33.trans (fri_at fL38 (by decide) (by decide) o_v0).symm
          have ea3 := (frr_at fL38 (by decide) (by decide) o_v0).trans ea3
          have f0 := fri_tr (S := S1) g0 f0 fL38 (by decide) (by decide)
          have o_a3 := gr_ob gL37 o_a3
          have o_v0 := gr_ob gL37 o_v0
          have g0 := gr_tr (T := S1) g0 gL37
          refine u_X11_back_32 ?_
          refine ⟨fun c46 => ?_, fun c46 => ?_⟩
          · refine ⟨o_v0, ?_⟩
            intro S47 eS47
            have hIn : IV S47 := by rw [eS47]; exact iv11_sI hI o_v0 (by decide) (nu_one (lo := (0 : Int32)) (hi := (16 : Int32)) (by decide) (qm510 r_x13 r_kv14 wh_x13 c15 c26 r_x33 c34 i1u35 c46))
            have hI := hIn
            have f0 := fr_I eS47 g0 f0 o_v0 (by decide)
            have d_kv2 := rd_Ij eS47 (by decide) d_kv2
            have d_x13 := rd_Ij eS47 (by decide) d_x13
            have d_kv14 := rd_Ik eS47 o_v0 o_a3 (by decide) d_kv14
            have d_x33 := rd_Ij eS47 (by decide) d_x33
            obtain ⟨kv48, hkv48⟩ : ∃ z : Int32, z = (0 : Int32) := ⟨_, rfl⟩
            have d_kv48 := rd_Is eS47 hkv48
            have ea3 := rf_I eS47 ea3
            have g0 := gr_I eS47 g0
            have o_a3 := ob_I eS47 o_a3
            have o_v0 := ob_I eS47 o_v0
            refine u_X11_granted ?_
            refine u_X11_granted_0 ?_
            refine ⟨o_v0, ?_⟩
            refine u_X11_good ?_
            refine u_X11_good_0 ?_
            refine ⟨o_v0, ?_⟩
            intro S49 eS49
            have hIn : IV S49 := by rw [eS49]; exact iv11_sI hI o_v0 (by decide) (nu_free (by decide))
            have hI := hIn
            have f0 := fr_I eS49 g0 f0 o_v0 (by decide)
            have d_kv2 := rd_Ij eS49 (by decide) d_kv2
            have d_x13 := rd_Ij eS49 (by decide) d_x13
            have d_kv14 := rd_Ik eS49 o_v0 o_a3 (by decide) d_kv14
            have d_x33 := rd_Ij eS49 (by decide) d_x33
            have d_kv48 := rd_Ij eS49 (by decide) d_kv48
            obtain ⟨kv50, hkv50⟩ : ∃ z : Int32, z = (0 : Int32) := ⟨_, rfl⟩
            have d_kv50 := rd_Is eS49 hkv50
            have ea3 := rf_I eS49 ea3
            have g0 := gr_I eS49 g0
            have o_a3 := ob_I eS49 o_a3
            have o_v0 := ob_I eS49 o_v0
            intro S51 eS51
            have hIn : IV S51 := by rw [eS51]; exact iv11_sI hI o_v0 (by decide) (nu_free (by decide))
            have hI := hIn
            have f0 := fr_I eS51 g0 f0 o_v0 (by decide)
            have d_kv2 := rd_Ij eS51 (by decide) d_kv2
            have d_x13 := rd_Ij eS51 (by decide) d_x13
            have d_kv14 := rd_Ik eS51 o_v0 o_a3 (by decide) d_kv14
            have d_x33 := rd_Ij eS51 (by decide) d_x33
            have d_kv48 := rd_Ij eS51 (by decide) d_kv48
            have d_kv50 := rd_Ij eS51 (by decide) d_kv50
            obtain ⟨kv52, hkv52⟩ : ∃ z : Int32, z = (-1 : Int32) := ⟨_, rfl⟩
            have d_kv52 := rd_Is eS51 hkv52
            have ea3 := rf_I eS51 ea3
            have g0 := gr_I eS51 g0
            have o_a3 := ob_I eS51 o_a3
            have o_v0 := ob_I eS51 o_v0
            intro _
            intro _ _
            refine ⟨(Or.inr rfl), ?_⟩
            exact hq _ _ hI g0 f0 (Or.inr rfl)
          · refine ⟨o_v0, ?_⟩
            obtain ⟨a55, ea55, o_a55, l_a55⟩ := shl 57 rfl hI o_v0
            refine ⟨a55, ea55, ?_⟩
            obtain ⟨a56, ea56, o_a56, l_a56⟩ := shl 59 rfl hI o_v0
            refine ⟨a56, ea56, ?_⟩
            refine ⟨o_a56, ?_⟩
            intro x57 ex57
            refine ⟨(vin l_a56 (m := 21) (by decide) (qm511 r_x13 r_kv14 wh_x13 c15 c26 r_x33 c34 i1u35 c46 ex57)), ?_⟩
            intro x58 ex58
            have de_x58 := ml_de hI o_v0 (j := 23) (by decide) ea56 x57.toNatClampNeg
            rw [← ex58] at de_x58
            refine ⟨o_a55, ?_⟩
            have i59 : vp_in w43 (hN _ a55) := (vin l_a55 (m := 7) (by decide) (qm512 r_x13 r_kv14 wh_x13 c15 c26 r_x33 c34 i1u35 c46 ex57))
            refine ⟨i59, ?_⟩
            intro S60 eS60
            have hIn : IV S60 := by rw [eS60]; exact iv11_aD hI (de_tr de_x58 (md_mul (a := v1) (k := w43) ex57 (qm513 r_x13 r_kv14 wh_x13 c15 c26 r_x33 c34 i1u35 c46 ex57) (qm514 r_x13 r_kv14 wh_x13 c15 c26 r_x33 c34 i1u35 c46 ex57)).symm)
            have hI := hIn
            have f0 := fr_J eS60 f0
            have fL38 := fr_J eS60 fL38
            have d_kv2 := rd_J eS60 d_kv2
            have d_x13 := rd_J eS60 d_x13
            have d_kv14 := rd_J eS60 d_kv14
            have d_x33 := rd_J eS60 d_x33
            have ea3 := rf_J eS60 ea3
            have ea55 := rf_J eS60 ea55
            have ea56 := rf_J eS60 ea56
            have l_a55 := ln_J eS60 l_a55
            have l_a56 := ln_J eS60 l_a56
            have g0 := gr_J eS60 g0
            have gL37 := gr_J eS60 gL37
            have o_a3 := ob_J eS60 o_a3
            have o_a55 := ob_J eS60 o_a55
            have o_a56 := ob_J eS60 o_a56
            have o_v0 := ob_J eS60 o_v0
            intro x61 ex61
            exact ih45 _ _ _ _ ⟨hI, gL37, fL38, rfl, rfl, (qm515 r_x13 r_kv14 wh_x13 c15 c26 r_x33 c34 i1u35 c46 ex57 ex61)⟩ (mu_up (qm516 r_x13 r_kv14 wh_x13 c15 c26 r_x33 c34 i1u35 c46 ex57 ex61) (qm517 r_x13 r_kv14 wh_x13 c15 c26 r_x33 c34 i1u35 c46 ex57 ex61))
        · refine u_X11_back_24 ?_
          refine ⟨o_v0, ?_⟩
          refine u_X11_denied ?_
          refine u_X11_denied_0 ?_
          refine ⟨o_v0, ?_⟩
          refine u_X11_refused ?_
          refine u_X11_refused_0 ?_
          refine ⟨o_v0, ?_⟩
          intro S62 eS62
          have hIn : IV S62 := by rw [eS62]; exact iv11_sI hI o_v0 (by decide) (nu_free (by decide))
          have hI := hIn
          have f0 := fr_I eS62 g0 f0 o_v0 (by decide)
          have d_kv2 := rd_Ij eS62 (by decide) d_kv2
          have d_x13 := rd_Ij eS62 (by decide) d_x13
          have d_kv14 := rd_Ik eS62 o_v0 o_a3 (by decide) d_kv14
          have d_x33 := rd_Ij eS62 (by decide) d_x33
          obtain ⟨kv63, hkv63⟩ : ∃ z : Int32, z = (1 : Int32) := ⟨_, rfl⟩
          have d_kv63 := rd_Is eS62 hkv63
          have ea3 := rf_I eS62 ea3
          have g0 := gr_I eS62 g0
          have o_a3 := ob_I eS62 o_a3
          have o_v0 := ob_I eS62 o_v0
          intro S64 eS64
          have hIn : IV S64 := by rw [eS64]; exact iv11_sI hI o_v0 (by decide) (nu_free (by decide))
          have hI := hIn
          have f0 := fr_I eS64 g0 f0 o_v0 (by decide)
          have d_kv2 := rd_Ij eS64 (by decide) d_kv2
          have d_x13 := rd_Ij eS64 (by decide) d_x13
          have d_kv14 := rd_Ik eS64 o_v0 o_a3 (by decide) d_kv14
          have d_x33 := rd_Ij eS64 (by decide) d_x33
          have d_kv63 := rd_Ij eS64 (by decide) d_kv63
          obtain ⟨kv65, hkv65⟩ : ∃ z : Int32, z = (-1 : Int32) := ⟨_, rfl⟩
          have d_kv65 := rd_Is eS64 hkv65
          have ea3 := rf_I eS64 ea3
          have g0 := gr_I eS64 g0
          have o_a3 := ob_I eS64 o_a3
          have o_v0 := ob_I eS64 o_v0
          intro _
          intro _ _
          refine ⟨(Or.inl rfl), ?_⟩
          exact hq _ _ hI g0 f0 (Or.inl rfl)
set_option maxHeartbeats 4000000 in
set_option maxRecDepth 20000 in
theorem m_X11_isForward {v0 : Nat} {v1 : Int32} {v2 : Int32} {v3 : Int32} {v4 : Int32} {v5 : Int32} {Q : Int32 → HS → Prop} {S : HS} (hI : IV S) (o_v0 : ob S v0 11)   (h0 : 0 ≤ v1 ∧ v1 < 4) (h1 : 0 ≤ v2 ∧ v2 < 12) (h2 : 0 ≤ v4 ∧ v4 < 6)  (hw : WN S v0) (hq : ∀ (r : Int32) (T : HS), IV T → Gr S T → bl r → (S = T) → Q r T) : P_X11_isForward v0 v1 v2 v3 v4 v5 Q S := by
  have g0 := gr_rf S
  obtain ⟨a1, ea1⟩ := hw
  have o_a1 := ml_ob hI o_v0 ea1
  refine u_X11_isForward ?_
  refine u_X11_isForward_0 ?_
  refine ⟨o_v0, ?_⟩
  refine ⟨a1, ea1, ?_⟩
  refine ⟨o_a1, ?_⟩
  refine u_X10_shield ?_
  refine u_X10_shield_0 ?_
  refine ⟨o_a1, ?_⟩
  obtain ⟨a3, ea3, o_a3, l_a3⟩ := shl 41 rfl hI o_a1
  refine ⟨a3, ea3, ?_⟩
  refine ⟨o_a3, ?_⟩
  refine ⟨(vin l_a3 (m := 4) (by decide) (qm22 h0)), ?_⟩
  intro x4 ex4
  refine ⟨fun c5 => ?_, fun c5 => ?_⟩
  · intro _
    refine ⟨a1, ea1, ?_⟩
    refine ⟨o_a1, ?_⟩
    refine m_X10_air hI o_a1 (qm35 h1 c5) (qm36 h2 c5) (fun x8 S9 hI2 g10 p_x8 => ?_)
    subst p_x8
    intro _
    intro x12 ex12
    refine ⟨a1, ea1, ?_⟩
    refine ⟨o_a1, ?_⟩
    obtain ⟨a14, ea14, o_a14, l_a14⟩ := shl 44 rfl hI o_a1
    refine ⟨a14, ea14, ?_⟩
    refine ⟨o_a14, ?_⟩
    refine ⟨(vin l_a14 (m := 4) (by decide) (qm25 h0 c5)), ?_⟩
    intro x15 ex15
    refine ⟨fun c16 => ?_, fun c16 => ?_⟩
    · refine ⟨a1, ea1, ?_⟩
      refine ⟨o_a1, ?_⟩
      refine ⟨a14, ea14, ?_⟩
      refine ⟨o_a14, ?_⟩
      refine ⟨(vin l_a14 (m := 4) (by decide) (qm37 h0 c5 c16)), ?_⟩
      intro x19 ex19
      refine u_X11_isForward_54 ?_
      refine ⟨o_v0, ?_⟩
      refine ⟨a1, ea1, ?_⟩
      refine ⟨o_a1, ?_⟩
      obtain ⟨a21, ea21, o_a21, l_a21⟩ := shl 43 rfl hI o_a1
      refine ⟨a21, ea21, ?_⟩
      refine ⟨o_a21, ?_⟩
      refine ⟨(vin l_a21 (m := 4) (by decide) (qm37 h0 c5 c16)), ?_⟩
      intro x22 ex22
      refine ⟨fun c23 => ?_, fun c23 => ?_⟩
      · refine ⟨a1, ea1, ?_⟩
        refine ⟨o_a1, ?_⟩
        refine ⟨a21, ea21, ?_⟩
        refine ⟨o_a21, ?_⟩
        refine ⟨(vin l_a21 (m := 4) (by decide) (qm38 h0 c5 c16 c23)), ?_⟩
        intro x26 ex26
        refine u_X11_isForward_84 ?_
        refine ⟨o_v0, ?_⟩
        refine ⟨a1, ea1, ?_⟩
        refine ⟨o_a1, ?_⟩
        obtain ⟨a28, ea28, o_a28, l_a28⟩ := shl 39 rfl hI o_a1
        refine ⟨a28, ea28, ?_⟩
        refine ⟨o_a28, ?_⟩
        refine ⟨(vin l_a28 (m := 12) (by decide) (qm39 h1 c5 c16 c23)), ?_⟩
        intro x29 ex29
        refine ⟨a1, ea1, ?_⟩
        refine ⟨o_a1, ?_⟩
        obtain ⟨a31, ea31, o_a31, l_a31⟩ := shl 38 rfl hI o_a1
        refine ⟨a31, ea31, ?_⟩
        refine ⟨o_a31, ?_⟩
        refine ⟨(vin l_a31 (m := 12) (by decide) (qm39 h1 c5 c16 c23)), ?_⟩
        intro x32 ex32
        refine ⟨fun c33 => ?_, fun c33 => ?_⟩
        · refine u_X11_isForward_112 ?_
          refine ⟨fun c34 => ?_, fun c34 => absurd (show ¬ (0 : Int32) = 0 from c34) (by decide)⟩
          exact hq _ _ hI g0 (Or.inl rfl) rfl
        · refine u_X11_isForward_112 ?_
          refine ⟨fun c35 => absurd (show (1 : Int32) = 0 from c35) (by decide), fun c35 => ?_⟩
          refine ⟨fun c36 => ?_, fun c36 => ?_⟩
          · exact hq _ _ hI g0 (Or.inl rfl) rfl
          · refine ⟨o_v0, ?_⟩
            refine ⟨a1, ea1, ?_⟩
            refine ⟨o_a1, ?_⟩
            obtain ⟨a38, ea38, o_a38, l_a38⟩ := shl 29 rfl hI o_a1
            refine ⟨a38, ea38, ?_⟩
            refine ⟨o_a38, ?_⟩
            refine ⟨(vin l_a38 (m := 6) (by decide) (qm40 h2 c5 ex12 c16 c23 c33 c36)), ?_⟩
            intro x39 ex39
            refine ⟨a1, ea1, ?_⟩
            refine ⟨o_a1, ?_⟩
            refine ⟨a38, ea38, ?_⟩
            refine ⟨o_a38, ?_⟩
            refine ⟨(vin l_a38 (m := 6) (by decide) (qm40 h2 c5 ex12 c16 c23 c33 c36)), ?_⟩
            intro x42 ex42
            refine ⟨a1, ea1, ?_⟩
            refine ⟨o_a1, ?_⟩
            obtain ⟨a44, ea44, o_a44, l_a44⟩ := shl 30 rfl hI o_a1
            refine ⟨a44, ea44, ?_⟩
            refine ⟨o_a44, ?_⟩
            refine ⟨(vin l_a44 (m := 6) (by decide) (qm40 h2 c5 ex12 c16 c23 c33 c36)), ?_⟩
            intro x45 ex45
            refine ⟨fun c46 => ?_, fun c46 => ?_⟩
            · exact hq _ _ hI g0 (Or.inl rfl) rfl
            · exact hq _ _ hI g0 (Or.inr rfl) rfl
      · refine u_X11_isForward_84 ?_
        refine ⟨o_v0, ?_⟩
        refine ⟨a1, ea1, ?_⟩
        refine ⟨o_a1, ?_⟩
        obtain ⟨a48, ea48, o_a48, l_a48⟩ := shl 39 rfl hI o_a1
        refine ⟨a48, ea48, ?_⟩
        refine ⟨o_a48, ?_⟩
        refine ⟨(vin l_a48 (m := 12) (by decide) (qm41 h1 c5 c16 c23)), ?_⟩
        intro x49 ex49
        refine ⟨a1, ea1, ?_⟩
        refine ⟨o_a1, ?_⟩
        obtain ⟨a51, ea51, o_a51, l_a51⟩ := shl 38 rfl hI o_a1
        refine ⟨a51, ea51, ?_⟩
        refine ⟨o_a51, ?_⟩
        refine ⟨(vin l_a51 (m := 12) (by decide) (qm41 h1 c5 c16 c23)), ?_⟩
        intro x52 ex52
        refine ⟨fun c53 => ?_, fun c53 => ?_⟩
        · refine u_X11_isForward_112 ?_
          refine ⟨fun c54 => ?_, fun c54 => absurd (show ¬ (0 : Int32) = 0 from c54) (by decide)⟩
          exact hq _ _ hI g0 (Or.inl rfl) rfl
        · refine u_X11_isForward_112 ?_
          refine ⟨fun c55 => absurd (show (1 : Int32) = 0 from c55) (by decide), fun c55 => ?_⟩
          refine ⟨fun c56 => ?_, fun c56 => ?_⟩
          · exact hq _ _ hI g0 (Or.inl rfl) rfl
          · refine ⟨o_v0, ?_⟩
            refine ⟨a1, ea1, ?_⟩
            refine ⟨o_a1, ?_⟩
            obtain ⟨a58, ea58, o_a58, l_a58⟩ := shl 29 rfl hI o_a1
            refine ⟨a58, ea58, ?_⟩
            refine ⟨o_a58, ?_⟩
            refine ⟨(vin l_a58 (m := 6) (by decide) (qm42 h2 c5 ex12 c16 c23 c53 c56)), ?_⟩
            intro x59 ex59
            refine ⟨a1, ea1, ?_⟩
            refine ⟨o_a1, ?_⟩
            refine ⟨a58, ea58, ?_⟩
            refine ⟨o_a58, ?_⟩
            refine ⟨(vin l_a58 (m := 6) (by decide) (qm42 h2 c5 ex12 c16 c23 c53 c56)), ?_⟩
            intro x62 ex62
            refine ⟨a1, ea1, ?_⟩
            refine ⟨o_a1, ?_⟩
            obtain ⟨a64, ea64, o_a64, l_a64⟩ := shl 30 rfl hI o_a1
            refine ⟨a64, ea64, ?_⟩
            refine ⟨o_a64, ?_⟩
            refine ⟨(vin l_a64 (m := 6) (by decide) (qm42 h2 c5 ex12 c16 c23 c53 c56)), ?_⟩
            intro x65 ex65
            refine ⟨fun c66 => ?_, fun c66 => ?_⟩
            · exact hq _ _ hI g0 (Or.inl rfl) rfl
            · exact hq _ _ hI g0 (Or.inr rfl) rfl
    · refine u_X11_isForward_54 ?_
      refine ⟨o_v0, ?_⟩
      refine ⟨a1, ea1, ?_⟩
      refine ⟨o_a1, ?_⟩
      obtain ⟨a68, ea68, o_a68, l_a68⟩ := shl 43 rfl hI o_a1
      refine ⟨a68, ea68, ?_⟩
      refine ⟨o_a68, ?_⟩
      refine ⟨(vin l_a68 (m := 4) (by decide) (qm43 h0 c5 c16)), ?_⟩
      intro x69 ex69
      refine ⟨fun c70 => ?_, fun c70 => ?_⟩
      · refine ⟨a1, ea1, ?_⟩
        refine ⟨o_a1, ?_⟩
        refine ⟨a68, ea68, ?_⟩
        refine ⟨o_a68, ?_⟩
        refine ⟨(vin l_a68 (m := 4) (by decide) (qm44 h0 c5 c16 c70)), ?_⟩
        intro x73 ex73
        refine u_X11_isForward_84 ?_
        refine ⟨o_v0, ?_⟩
        refine ⟨a1, ea1, ?_⟩
        refine ⟨o_a1, ?_⟩
        obtain ⟨a75, ea75, o_a75, l_a75⟩ := shl 39 rfl hI o_a1
        refine ⟨a75, ea75, ?_⟩
        refine ⟨o_a75, ?_⟩
        refine ⟨(vin l_a75 (m := 12) (by decide) (qm45 h1 c5 c16 c70)), ?_⟩
        intro x76 ex76
        refine ⟨a1, ea1, ?_⟩
        refine ⟨o_a1, ?_⟩
        obtain ⟨a78, ea78, o_a78, l_a78⟩ := shl 38 rfl hI o_a1
        refine ⟨a78, ea78, ?_⟩
        refine ⟨o_a78, ?_⟩
        refine ⟨(vin l_a78 (m := 12) (by decide) (qm45 h1 c5 c16 c70)), ?_⟩
        intro x79 ex79
        refine ⟨fun c80 => ?_, fun c80 => ?_⟩
        · refine u_X11_isForward_112 ?_
          refine ⟨fun c81 => ?_, fun c81 => absurd (show ¬ (0 : Int32) = 0 from c81) (by decide)⟩
          exact hq _ _ hI g0 (Or.inl rfl) rfl
        · refine u_X11_isForward_112 ?_
          refine ⟨fun c82 => absurd (show (1 : Int32) = 0 from c82) (by decide), fun c82 => ?_⟩
          refine ⟨fun c83 => ?_, fun c83 => ?_⟩
          · exact hq _ _ hI g0 (Or.inl rfl) rfl
          · refine ⟨o_v0, ?_⟩
            refine ⟨a1, ea1, ?_⟩
            refine ⟨o_a1, ?_⟩
            obtain ⟨a85, ea85, o_a85, l_a85⟩ := shl 29 rfl hI o_a1
            refine ⟨a85, ea85, ?_⟩
            refine ⟨o_a85, ?_⟩
            refine ⟨(vin l_a85 (m := 6) (by decide) (qm46 h2 c5 ex12 c16 c70 c80 c83)), ?_⟩
            intro x86 ex86
            refine ⟨a1, ea1, ?_⟩
            refine ⟨o_a1, ?_⟩
            refine ⟨a85, ea85, ?_⟩
            refine ⟨o_a85, ?_⟩
            refine ⟨(vin l_a85 (m := 6) (by decide) (qm46 h2 c5 ex12 c16 c70 c80 c83)), ?_⟩
            intro x89 ex89
            refine ⟨a1, ea1, ?_⟩
            refine ⟨o_a1, ?_⟩
            obtain ⟨a91, ea91, o_a91, l_a91⟩ := shl 30 rfl hI o_a1
            refine ⟨a91, ea91, ?_⟩
            refine ⟨o_a91, ?_⟩
            refine ⟨(vin l_a91 (m := 6) (by decide) (qm46 h2 c5 ex12 c16 c70 c80 c83)), ?_⟩
            intro x92 ex92
            refine ⟨fun c93 => ?_, fun c93 => ?_⟩
            · exact hq _ _ hI g0 (Or.inl rfl) rfl
            · exact hq _ _ hI g0 (Or.inr rfl) rfl
      · refine u_X11_isForward_84 ?_
        refine ⟨o_v0, ?_⟩
        refine ⟨a1, ea1, ?_⟩
        refine ⟨o_a1, ?_⟩
        obtain ⟨a95, ea95, o_a95, l_a95⟩ := shl 39 rfl hI o_a1
        refine ⟨a95, ea95, ?_⟩
        refine ⟨o_a95, ?_⟩
        refine ⟨(vin l_a95 (m := 12) (by decide) (qm47 h1 c5 c16 c70)), ?_⟩
        intro x96 ex96
        refine ⟨a1, ea1, ?_⟩
        refine ⟨o_a1, ?_⟩
        obtain ⟨a98, ea98, o_a98, l_a98⟩ := shl 38 rfl hI o_a1
        refine ⟨a98, ea98, ?_⟩
        refine ⟨o_a98, ?_⟩
        refine ⟨(vin l_a98 (m := 12) (by decide) (qm47 h1 c5 c16 c70)), ?_⟩
        intro x99 ex99
        refine ⟨fun c100 => ?_, fun c100 => ?_⟩
        · refine u_X11_isForward_112 ?_
          refine ⟨fun c101 => ?_, fun c101 => absurd (show ¬ (0 : Int32) = 0 from c101) (by decide)⟩
          exact hq _ _ hI g0 (Or.inl rfl) rfl
        · refine u_X11_isForward_112 ?_
          refine ⟨fun c102 => absurd (show (1 : Int32) = 0 from c102) (by decide), fun c102 => ?_⟩
          refine ⟨fun c103 => ?_, fun c103 => ?_⟩
          · exact hq _ _ hI g0 (Or.inl rfl) rfl
          · refine ⟨o_v0, ?_⟩
            refine ⟨a1, ea1, ?_⟩
            refine ⟨o_a1, ?_⟩
            obtain ⟨a105, ea105, o_a105, l_a105⟩ := shl 29 rfl hI o_a1
            refine ⟨a105, ea105, ?_⟩
            refine ⟨o_a105, ?_⟩
            refine ⟨(vin l_a105 (m := 6) (by decide) (qm48 h2 c5 ex12 c16 c70 c100 c103)), ?_⟩
            intro x106 ex106
            refine ⟨a1, ea1, ?_⟩
            refine ⟨o_a1, ?_⟩
            refine ⟨a105, ea105, ?_⟩
            refine ⟨o_a105, ?_⟩
            refine ⟨(vin l_a105 (m := 6) (by decide) (qm48 h2 c5 ex12 c16 c70 c100 c103)), ?_⟩
            intro x109 ex109
            refine ⟨a1, ea1, ?_⟩
            refine ⟨o_a1, ?_⟩
            obtain ⟨a111, ea111, o_a111, l_a111⟩ := shl 30 rfl hI o_a1
            refine ⟨a111, ea111, ?_⟩
            refine ⟨o_a111, ?_⟩
            refine ⟨(vin l_a111 (m := 6) (by decide) (qm48 h2 c5 ex12 c16 c70 c100 c103)), ?_⟩
            intro x112 ex112
            refine ⟨fun c113 => ?_, fun c113 => ?_⟩
            · exact hq _ _ hI g0 (Or.inl rfl) rfl
            · exact hq _ _ hI g0 (Or.inr rfl) rfl
  · obtain ⟨a114, ea114, o_a114, l_a114⟩ := shl 42 rfl hI o_a1
    refine ⟨a114, ea114, ?_⟩
    refine ⟨o_a114, ?_⟩
    refine ⟨(vin l_a114 (m := 4) (by decide) (qm29 h0 c5)), ?_⟩
    intro x115 ex115
    intro _
    refine ⟨a1, ea1, ?_⟩
    refine ⟨o_a1, ?_⟩
    refine m_X10_air hI o_a1 (qm49 h1 c5) (qm50 h2 c5) (fun x118 S119 hI2 g120 p_x118 => ?_)
    subst p_x118
    intro _
    intro x122 ex122
    refine ⟨a1, ea1, ?_⟩
    refine ⟨o_a1, ?_⟩
    obtain ⟨a124, ea124, o_a124, l_a124⟩ := shl 44 rfl hI o_a1
    refine ⟨a124, ea124, ?_⟩
    refine ⟨o_a124, ?_⟩
    refine ⟨(vin l_a124 (m := 4) (by decide) (qm29 h0 c5)), ?_⟩
    intro x125 ex125
    refine ⟨fun c126 => ?_, fun c126 => ?_⟩
    · refine ⟨a1, ea1, ?_⟩
      refine ⟨o_a1, ?_⟩
      refine ⟨a124, ea124, ?_⟩
      refine ⟨o_a124, ?_⟩
      refine ⟨(vin l_a124 (m := 4) (by decide) (qm51 h0 c5 c126)), ?_⟩
      intro x129 ex129
      refine u_X11_isForward_54 ?_
      refine ⟨o_v0, ?_⟩
      refine ⟨a1, ea1, ?_⟩
      refine ⟨o_a1, ?_⟩
      obtain ⟨a131, ea131, o_a131, l_a131⟩ := shl 43 rfl hI o_a1
      refine ⟨a131, ea131, ?_⟩
      refine ⟨o_a131, ?_⟩
      refine ⟨(vin l_a131 (m := 4) (by decide) (qm51 h0 c5 c126)), ?_⟩
      intro x132 ex132
      refine ⟨fun c133 => ?_, fun c133 => ?_⟩
      · refine ⟨a1, ea1, ?_⟩
        refine ⟨o_a1, ?_⟩
        refine ⟨a131, ea131, ?_⟩
        refine ⟨o_a131, ?_⟩
        refine ⟨(vin l_a131 (m := 4) (by decide) (qm52 h0 c5 c126 c133)), ?_⟩
        intro x136 ex136
        refine u_X11_isForward_84 ?_
        refine ⟨o_v0, ?_⟩
        refine ⟨a1, ea1, ?_⟩
        refine ⟨o_a1, ?_⟩
        obtain ⟨a138, ea138, o_a138, l_a138⟩ := shl 39 rfl hI o_a1
        refine ⟨a138, ea138, ?_⟩
        refine ⟨o_a138, ?_⟩
        refine ⟨(vin l_a138 (m := 12) (by decide) (qm53 h1 c5 c126 c133)), ?_⟩
        intro x139 ex139
        refine ⟨a1, ea1, ?_⟩
        refine ⟨o_a1, ?_⟩
        obtain ⟨a141, ea141, o_a141, l_a141⟩ := shl 38 rfl hI o_a1
        refine ⟨a141, ea141, ?_⟩
        refine ⟨o_a141, ?_⟩
        refine ⟨(vin l_a141 (m := 12) (by decide) (qm53 h1 c5 c126 c133)), ?_⟩
        intro x142 ex142
        refine ⟨fun c143 => ?_, fun c143 => ?_⟩
        · refine u_X11_isForward_112 ?_
          refine ⟨fun c144 => ?_, fun c144 => absurd (show ¬ (0 : Int32) = 0 from c144) (by decide)⟩
          exact hq _ _ hI g0 (Or.inl rfl) rfl
        · refine u_X11_isForward_112 ?_
          refine ⟨fun c145 => absurd (show (1 : Int32) = 0 from c145) (by decide), fun c145 => ?_⟩
          refine ⟨fun c146 => ?_, fun c146 => ?_⟩
          · exact hq _ _ hI g0 (Or.inl rfl) rfl
          · refine ⟨o_v0, ?_⟩
            refine ⟨a1, ea1, ?_⟩
            refine ⟨o_a1, ?_⟩
            obtain ⟨a148, ea148, o_a148, l_a148⟩ := shl 29 rfl hI o_a1
            refine ⟨a148, ea148, ?_⟩
            refine ⟨o_a148, ?_⟩
            refine ⟨(vin l_a148 (m := 6) (by decide) (qm54 h2 c5 ex122 c126 c133 c143 c146)), ?_⟩
            intro x149 ex149
            refine ⟨a1, ea1, ?_⟩
            refine ⟨o_a1, ?_⟩
            refine ⟨a148, ea148, ?_⟩
            refine ⟨o_a148, ?_⟩
            refine ⟨(vin l_a148 (m := 6) (by decide) (qm54 h2 c5 ex122 c126 c133 c143 c146)), ?_⟩
            intro x152 ex152
            refine ⟨a1, ea1, ?_⟩
            refine ⟨o_a1, ?_⟩
            obtain ⟨a154, ea154, o_a154, l_a154⟩ := shl 30 rfl hI o_a1
            refine ⟨a154, ea154, ?_⟩
            refine ⟨o_a154, ?_⟩
            refine ⟨(vin l_a154 (m := 6) (by decide) (qm54 h2 c5 ex122 c126 c133 c143 c146)), ?_⟩
            intro x155 ex155
            refine ⟨fun c156 => ?_, fun c156 => ?_⟩
            · exact hq _ _ hI g0 (Or.inl rfl) rfl
            · exact hq _ _ hI g0 (Or.inr rfl) rfl
      · refine u_X11_isForward_84 ?_
        refine ⟨o_v0, ?_⟩
        refine ⟨a1, ea1, ?_⟩
        refine ⟨o_a1, ?_⟩
        obtain ⟨a158, ea158, o_a158, l_a158⟩ := shl 39 rfl hI o_a1
        refine ⟨a158, ea158, ?_⟩
        refine ⟨o_a158, ?_⟩
        refine ⟨(vin l_a158 (m := 12) (by decide) (qm55 h1 c5 c126 c133)), ?_⟩
        intro x159 ex159
        refine ⟨a1, ea1, ?_⟩
        refine ⟨o_a1, ?_⟩
        obtain ⟨a161, ea161, o_a161, l_a161⟩ := shl 38 rfl hI o_a1
        refine ⟨a161, ea161, ?_⟩
        refine ⟨o_a161, ?_⟩
        refine ⟨(vin l_a161 (m := 12) (by decide) (qm55 h1 c5 c126 c133)), ?_⟩
        intro x162 ex162
        refine ⟨fun c163 => ?_, fun c163 => ?_⟩
        · refine u_X11_isForward_112 ?_
          refine ⟨fun c164 => ?_, fun c164 => absurd (show ¬ (0 : Int32) = 0 from c164) (by decide)⟩
          exact hq _ _ hI g0 (Or.inl rfl) rfl
        · refine u_X11_isForward_112 ?_
          refine ⟨fun c165 => absurd (show (1 : Int32) = 0 from c165) (by decide), fun c165 => ?_⟩
          refine ⟨fun c166 => ?_, fun c166 => ?_⟩
          · exact hq _ _ hI g0 (Or.inl rfl) rfl
          · refine ⟨o_v0, ?_⟩
            refine ⟨a1, ea1, ?_⟩
            refine ⟨o_a1, ?_⟩
            obtain ⟨a168, ea168, o_a168, l_a168⟩ := shl 29 rfl hI o_a1
            refine ⟨a168, ea168, ?_⟩
            refine ⟨o_a168, ?_⟩
            refine ⟨(vin l_a168 (m := 6) (by decide) (qm56 h2 c5 ex122 c126 c133 c163 c166)), ?_⟩
            intro x169 ex169
            refine ⟨a1, ea1, ?_⟩
            refine ⟨o_a1, ?_⟩
            refine ⟨a168, ea168, ?_⟩
            refine ⟨o_a168, ?_⟩
            refine ⟨(vin l_a168 (m := 6) (by decide) (qm56 h2 c5 ex122 c126 c133 c163 c166)), ?_⟩
            intro x172 ex172
            refine ⟨a1, ea1, ?_⟩
            refine ⟨o_a1, ?_⟩
            obtain ⟨a174, ea174, o_a174, l_a174⟩ := shl 30 rfl hI o_a1
            refine ⟨a174, ea174, ?_⟩
            refine ⟨o_a174, ?_⟩
            refine ⟨(vin l_a174 (m := 6) (by decide) (qm56 h2 c5 ex122 c126 c133 c163 c166)), ?_⟩
            intro x175 ex175
            refine ⟨fun c176 => ?_, fun c176 => ?_⟩
            · exact hq _ _ hI g0 (Or.inl rfl) rfl
            · exact hq _ _ hI g0 (Or.inr rfl) rfl
    · refine u_X11_isForward_54 ?_
      refine ⟨o_v0, ?_⟩
      refine ⟨a1, ea1, ?_⟩
      refine ⟨o_a1, ?_⟩
      obtain ⟨a178, ea178, o_a178, l_a178⟩ := shl 43 rfl hI o_a1
      refine ⟨a178, ea178, ?_⟩
      refine ⟨o_a178, ?_⟩
      refine ⟨(vin l_a178 (m := 4) (by decide) (qm57 h0 c5 c126)), ?_⟩
      intro x179 ex179
      refine ⟨fun c180 => ?_, fun c180 => ?_⟩
      · refine ⟨a1, ea1, ?_⟩
        refine ⟨o_a1, ?_⟩
        refine ⟨a178, ea178, ?_⟩
        refine ⟨o_a178, ?_⟩
        refine ⟨(vin l_a178 (m := 4) (by decide) (qm58 h0 c5 c126 c180)), ?_⟩
        intro x183 ex183
        refine u_X11_isForward_84 ?_
        refine ⟨o_v0, ?_⟩
        refine ⟨a1, ea1, ?_⟩
        refine ⟨o_a1, ?_⟩
        obtain ⟨a185, ea185, o_a185, l_a185⟩ := shl 39 rfl hI o_a1
        refine ⟨a185, ea185, ?_⟩
        refine ⟨o_a185, ?_⟩
        refine ⟨(vin l_a185 (m := 12) (by decide) (qm59 h1 c5 c126 c180)), ?_⟩
        intro x186 ex186
        refine ⟨a1, ea1, ?_⟩
        refine ⟨o_a1, ?_⟩
        obtain ⟨a188, ea188, o_a188, l_a188⟩ := shl 38 rfl hI o_a1
        refine ⟨a188, ea188, ?_⟩
        refine ⟨o_a188, ?_⟩
        refine ⟨(vin l_a188 (m := 12) (by decide) (qm59 h1 c5 c126 c180)), ?_⟩
        intro x189 ex189
        refine ⟨fun c190 => ?_, fun c190 => ?_⟩
        · refine u_X11_isForward_112 ?_
          refine ⟨fun c191 => ?_, fun c191 => absurd (show ¬ (0 : Int32) = 0 from c191) (by decide)⟩
          exact hq _ _ hI g0 (Or.inl rfl) rfl
        · refine u_X11_isForward_112 ?_
          refine ⟨fun c192 => absurd (show (1 : Int32) = 0 from c192) (by decide), fun c192 => ?_⟩
          refine ⟨fun c193 => ?_, fun c193 => ?_⟩
          · exact hq _ _ hI g0 (Or.inl rfl) rfl
          · refine ⟨o_v0, ?_⟩
            refine ⟨a1, ea1, ?_⟩
            refine ⟨o_a1, ?_⟩
            obtain ⟨a195, ea195, o_a195, l_a195⟩ := shl 29 rfl hI o_a1
            refine ⟨a195, ea195, ?_⟩
            refine ⟨o_a195, ?_⟩
            refine ⟨(vin l_a195 (m := 6) (by decide) (qm60 h2 c5 ex122 c126 c180 c190 c193)), ?_⟩
            intro x196 ex196
            refine ⟨a1, ea1, ?_⟩
            refine ⟨o_a1, ?_⟩
            refine ⟨a195, ea195, ?_⟩
            refine ⟨o_a195, ?_⟩
            refine ⟨(vin l_a195 (m := 6) (by decide) (qm60 h2 c5 ex122 c126 c180 c190 c193)), ?_⟩
            intro x199 ex199
            refine ⟨a1, ea1, ?_⟩
            refine ⟨o_a1, ?_⟩
            obtain ⟨a201, ea201, o_a201, l_a201⟩ := shl 30 rfl hI o_a1
            refine ⟨a201, ea201, ?_⟩
            refine ⟨o_a201, ?_⟩
            refine ⟨(vin l_a201 (m := 6) (by decide) (qm60 h2 c5 ex122 c126 c180 c190 c193)), ?_⟩
            intro x202 ex202
            refine ⟨fun c203 => ?_, fun c203 => ?_⟩
            · exact hq _ _ hI g0 (Or.inl rfl) rfl
            · exact hq _ _ hI g0 (Or.inr rfl) rfl
      · refine u_X11_isForward_84 ?_
        refine ⟨o_v0, ?_⟩
        refine ⟨a1, ea1, ?_⟩
        refine ⟨o_a1, ?_⟩
        obtain ⟨a205, ea205, o_a205, l_a205⟩ := shl 39 rfl hI o_a1
        refine ⟨a205, ea205, ?_⟩
        refine ⟨o_a205, ?_⟩
        refine ⟨(vin l_a205 (m := 12) (by decide) (qm61 h1 c5 c126 c180)), ?_⟩
        intro x206 ex206
        refine ⟨a1, ea1, ?_⟩
        refine ⟨o_a1, ?_⟩
        obtain ⟨a208, ea208, o_a208, l_a208⟩ := shl 38 rfl hI o_a1
        refine ⟨a208, ea208, ?_⟩
        refine ⟨o_a208, ?_⟩
        refine ⟨(vin l_a208 (m := 12) (by decide) (qm61 h1 c5 c126 c180)), ?_⟩
        intro x209 ex209
        refine ⟨fun c210 => ?_, fun c210 => ?_⟩
        · refine u_X11_isForward_112 ?_
          refine ⟨fun c211 => ?_, fun c211 => absurd (show ¬ (0 : Int32) = 0 from c211) (by decide)⟩
          exact hq _ _ hI g0 (Or.inl rfl) rfl
        · refine u_X11_isForward_112 ?_
          refine ⟨fun c212 => absurd (show (1 : Int32) = 0 from c212) (by decide), fun c212 => ?_⟩
          refine ⟨fun c213 => ?_, fun c213 => ?_⟩
          · exact hq _ _ hI g0 (Or.inl rfl) rfl
          · refine ⟨o_v0, ?_⟩
            refine ⟨a1, ea1, ?_⟩
            refine ⟨o_a1, ?_⟩
            obtain ⟨a215, ea215, o_a215, l_a215⟩ := shl 29 rfl hI o_a1
            refine ⟨a215, ea215, ?_⟩
            refine ⟨o_a215, ?_⟩
            refine ⟨(vin l_a215 (m := 6) (by decide) (qm62 h2 c5 ex122 c126 c180 c210 c213)), ?_⟩
            intro x216 ex216
            refine ⟨a1, ea1, ?_⟩
            refine ⟨o_a1, ?_⟩
            refine ⟨a215, ea215, ?_⟩
            refine ⟨o_a215, ?_⟩
            refine ⟨(vin l_a215 (m := 6) (by decide) (qm62 h2 c5 ex122 c126 c180 c210 c213)), ?_⟩
            intro x219 ex219
            refine ⟨a1, ea1, ?_⟩
            refine ⟨o_a1, ?_⟩
            obtain ⟨a221, ea221, o_a221, l_a221⟩ := shl 30 rfl hI o_a1
            refine ⟨a221, ea221, ?_⟩
            refine ⟨o_a221, ?_⟩
            refine ⟨(vin l_a221 (m := 6) (by decide) (qm62 h2 c5 ex122 c126 c180 c210 c213)), ?_⟩
            intro x222 ex222
            refine ⟨fun c223 => ?_, fun c223 => ?_⟩
            · exact hq _ _ hI g0 (Or.inl rfl) rfl
            · exact hq _ _ hI g0 (Or.inr rfl) rfl
