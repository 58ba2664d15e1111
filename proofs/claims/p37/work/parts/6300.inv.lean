set_option maxHeartbeats 4000000 in
set_option maxRecDepth 20000 in
theorem m_X11_world {v0 : Nat} {v1 : Int32} {Q : Int32 → HS → Prop} {S : HS} (hI : IV S) (o_v0 : ob S v0 11)     (hq : ∀ (r : Int32) (T : HS), IV T → Gr S T → FRI [(10, 0), (10, 1), (10, 2), (10, 3), (10, 4), (10, 5), (10, 6), (11, 0), (11, 1), (11, 2), (11, 6), (11, 7), (11, 8), (11, 9), (11, 10), (11, 11), (11, 12), (11, 13), (11, 14), (11, 19), (11, 24), (11, 25)] [(10, 7), (10, 8), (10, 9), (10, 10), (10, 11), (10, 12), (10, 13), (10, 14), (10, 15), (10, 16), (10, 17), (10, 18), (10, 19), (10, 20), (10, 21), (10, 22), (10, 23), (10, 24), (10, 25), (10, 26), (10, 27), (10, 28), (10, 29), (10, 30), (11, 3), (11, 4)] S T → ((v1 < 0 ∨ fI S v0 6 < v1 → fI T v0 6 = fI S v0 6) ∧ (0 ≤ v1 ∧ v1 ≤ fI S v0 6 → fI T v0 6 = 0)) → Q r T) : P_X11_world v0 v1 Q S := by
  have g0 := gr_rf S
  have f0 := fri_rf [(10, 0), (10, 1), (10, 2), (10, 3), (10, 4), (10, 5), (10, 6), (11, 0), (11, 1), (11, 2), (11, 6), (11, 7), (11, 8), (11, 9), (11, 10), (11, 11), (11, 12), (11, 13), (11, 14), (11, 19), (11, 24), (11, 25)] [(10, 7), (10, 8), (10, 9), (10, 10), (10, 11), (10, 12), (10, 13), (10, 14), (10, 15), (10, 16), (10, 17), (10, 18), (10, 19), (10, 20), (10, 21), (10, 22), (10, 23), (10, 24), (10, 25), (10, 26), (10, 27), (10, 28), (10, 29), (10, 30), (11, 3), (11, 4)] S
  obtain ⟨kv1, d_kv1⟩ : ∃ z : Int32, z = fI S v0 6 := ⟨_, rfl⟩
  have r_kv1 : (0 : Int32) ≤ kv1 ∧ kv1 ≤ (900 : Int32) := by rw [d_kv1]; exact nu 23 rfl hI o_v0
  obtain ⟨iv2, hiv2⟩ : ∃ z : Int32, z = kv1 := ⟨_, rfl⟩
  have di_6 := hiv2.trans d_kv1
  refine u_X11_world ?_
  refine u_X11_world_0 ?_
  refine ⟨o_v0, ?_⟩
  intro S3 eS3
  have hIn : IV S3 := by rw [eS3]; exact iv11_sI hI o_v0 (by decide) (nu_free (by decide))
  have hI := hIn
  have f0 := fr_I eS3 g0 f0 o_v0 (by decide)
  have d_kv1 := rd_Ij eS3 (by decide) d_kv1
  obtain ⟨kv4, hkv4⟩ : ∃ z : Int32, z = (0 : Int32) := ⟨_, rfl⟩
  have d_kv4 := rd_Is eS3 hkv4
  have g0 := gr_I eS3 g0
  have o_v0 := ob_I eS3 o_v0
  refine ⟨fun c5 => ?_, fun c5 => ?_⟩
  · refine u_X11_world_17 ?_
    refine ⟨o_v0, ?_⟩
    refine u_X11_refused ?_
    refine u_X11_refused_0 ?_
    refine ⟨o_v0, ?_⟩
    intro S6 eS6
    have hIn : IV S6 := by rw [eS6]; exact iv11_sI hI o_v0 (by decide) (nu_free (by decide))
    have hI := hIn
    have f0 := fr_I eS6 g0 f0 o_v0 (by decide)
    have d_kv1 := rd_Ij eS6 (by decide) d_kv1
    have d_kv4 := rd_Ij eS6 (by decide) d_kv4
    obtain ⟨kv7, hkv7⟩ : ∃ z : Int32, z = (2 : Int32) := ⟨_, rfl⟩
    have d_kv7 := rd_Is eS6 hkv7
    have g0 := gr_I eS6 g0
    have o_v0 := ob_I eS6 o_v0
    intro S8 eS8
    have hIn : IV S8 := by rw [eS8]; exact iv11_sI hI o_v0 (by decide) (nu_free (by decide))
    have hI := hIn
    have f0 := fr_I eS8 g0 f0 o_v0 (by decide)
    have d_kv1 := rd_Ij eS8 (by decide) d_kv1
    have d_kv4 := rd_Ij eS8 (by decide) d_kv4
    have d_kv7 := rd_Ij eS8 (by decide) d_kv7
    obtain ⟨kv9, hkv9⟩ : ∃ z : Int32, z = (-1 : Int32) := ⟨_, rfl⟩
    have d_kv9 := rd_Is eS8 hkv9
    have g0 := gr_I eS8 g0
    have o_v0 := ob_I eS8 o_v0
    intro _
    exact hq _ _ hI g0 f0 (by have t : (v1 < 0 ∨ iv2 < v1 → kv1 = iv2) ∧ (0 ≤ v1 ∧ v1 ≤ iv2 → kv1 = 0) := (qx0 r_kv1 hiv2 c5); rw [di_6, d_kv1] at t; exact t)
  · intro x11 ex11
    have r_x11 : (0 : Int32) ≤ x11 ∧ x11 ≤ (900 : Int32) := by rw [ex11]; exact nu 23 rfl hI o_v0
    have q_x11 : x11 = kv1 := ex11.trans d_kv1.symm
    have d_x11 := ex11
    refine ⟨fun c12 => ?_, fun c12 => ?_⟩
    · intro S13 eS13
      have hIn : IV S13 := by rw [eS13]; exact iv11_sI hI o_v0 (by decide) (nu_one (lo := (0 : Int32)) (hi := (900 : Int32)) (by decide) (qx1 r_kv1 hiv2 c5 r_x11 q_x11 c12))
      have hI := hIn
      have f0 := fr_I eS13 g0 f0 o_v0 (by decide)
      have d_x11 := rd_Ij eS13 (by decide) d_x11
      have d_kv4 := rd_Ij eS13 (by decide) d_kv4
      have d_v1 := rd_Is eS13 (rfl : v1 = v1)
      have g0 := gr_I eS13 g0
      have o_v0 := ob_I eS13 o_v0
      intro S14 eS14
      have hIn : IV S14 := by rw [eS14]; exact iv11_sI hI o_v0 (by decide) (nu_one (lo := (0 : Int32)) (hi := (900 : Int32)) (by decide) (qx2 r_kv1 hiv2 c5 r_x11 q_x11 c12))
      have hI := hIn
      have f0 := fr_I eS14 g0 f0 o_v0 (by decide)
      have d_kv4 := rd_Ij eS14 (by decide) d_kv4
      have d_v1 := rd_Ij eS14 (by decide) d_v1
      obtain ⟨kv15, hkv15⟩ : ∃ z : Int32, z = (0 : Int32) := ⟨_, rfl⟩
      have d_kv15 := rd_Is eS14 hkv15
      have g0 := gr_I eS14 g0
      have o_v0 := ob_I eS14 o_v0
      intro S16 eS16
      have hIn : IV S16 := by rw [eS16]; exact iv11_sI hI o_v0 (by decide) (nu_one (lo := (0 : Int32)) (hi := (900 : Int32)) (by decide) (qx2 r_kv1 hiv2 c5 r_x11 q_x11 c12))
      have hI := hIn
      have f0 := fr_I eS16 g0 f0 o_v0 (by decide)
      have d_kv4 := rd_Ij eS16 (by decide) d_kv4
      have d_v1 := rd_Ij eS16 (by decide) d_v1
      have d_kv15 := rd_Ij eS16 (by decide) d_kv15
      obtain ⟨kv17, hkv17⟩ : ∃ z : Int32, z = (0 : Int32) := ⟨_, rfl⟩
      have d_kv17 := rd_Is eS16 hkv17
      have g0 := gr_I eS16 g0
      have o_v0 := ob_I eS16 o_v0
      intro S18 eS18
      have hIn : IV S18 := by rw [eS18]; exact iv11_sI hI o_v0 (by decide) (nu_free (by decide))
      have hI := hIn
      have f0 := fr_I eS18 g0 f0 o_v0 (by decide)
      have d_kv4 := rd_Ij eS18 (by decide) d_kv4
      have d_v1 := rd_Ij eS18 (by decide) d_v1
      have d_kv15 := rd_Ij eS18 (by decide) d_kv15
      have d_kv17 := rd_Ij eS18 (by decide) d_kv17
      obtain ⟨kv19, hkv19⟩ : ∃ z : Int32, z = (0 : Int32) := ⟨_, rfl⟩
      have d_kv19 := rd_Is eS18 hkv19
      have g0 := gr_I eS18 g0
      have o_v0 := ob_I eS18 o_v0
      intro a20 q21 S22 eS22
      refine m_X10_init hI q21 eS22 (fun S23 hJ g24 _ fc25 o_a20 hz_a20 hg_a20 hnw_a20 => ?_)
      intro _
      have d_kv4 := d_kv4.trans (fri_at fc25 (by decide) (by decide) o_v0).symm
      have d_v1 := d_v1.trans (fri_at fc25 (by decide) (by decide) o_v0).symm
      have d_kv15 := d_kv15.trans (fri_at fc25 (by decide) (by decide) o_v0).symm
      have d_kv17 := d_kv17.trans (fri_at fc25 (by decide) (by decide) o_v0).symm
      have d_kv19 := d_kv19.trans (fri_at fc25 (by decide) (by decide) o_v0).symm
      have f0 := fri_tr (S := S18) g0 f0 fc25 (by decide) (by decide)
      have o_v0 := gr_ob g24 o_v0
      have g0 := gr_tr (T := S18) g0 g24
      have hI := hJ
      have oS_v0 := o_v0
      have oS_a20 := o_a20
      intro S26 eS26
      have hIn : IV S26 := by rw [eS26]; exact iv11_read hI o_v0 o_a20
      have hI := hIn
      have f0 := fr_R eS26 g0 f0 o_v0 (by decide)
      have d_kv4 := rd_R eS26 d_kv4
      have d_v1 := rd_R eS26 d_v1
      have d_kv15 := rd_R eS26 d_kv15
      have d_kv17 := rd_R eS26 d_kv17
      have d_kv19 := rd_R eS26 d_kv19
      have g0 := gr_R eS26 g0
      have o_a20 := ob_R eS26 o_a20
      have o_v0 := ob_R eS26 o_v0
      have hG : RG S26 v0 := rg_new eS26 oS_v0 oS_a20 hnw_a20 hg_a20
      have hn : RN S26 v0 := rn_new eS26 hz_a20
      intro S27 eS27
      have hIn : IV S27 := by rw [eS27]; exact iv11_sI hI o_v0 (by decide) (nu_free (by decide))
      have hG := rg_11 eS27 hI o_v0 hG
      have hn := rn_11 eS27 hI o_v0 o_v0 (by decide) hn
      have hI := hIn
      have f0 := fr_I eS27 g0 f0 o_v0 (by decide)
      have d_kv4 := rd_Ij eS27 (by decide) d_kv4
      have d_v1 := rd_Ij eS27 (by decide) d_v1
      have d_kv15 := rd_Ij eS27 (by decide) d_kv15
      have d_kv17 := rd_Ij eS27 (by decide) d_kv17
      have d_kv19 := rd_Ij eS27 (by decide) d_kv19
      obtain ⟨kv28, hkv28⟩ : ∃ z : Int32, z = (0 : Int32) := ⟨_, rfl⟩
      have d_kv28 := rd_Is eS27 hkv28
      have g0 := gr_I eS27 g0
      have o_a20 := ob_I eS27 o_a20
      have o_v0 := ob_I eS27 o_v0
      obtain ⟨iv29, hiv29⟩ : ∃ z : Int32, z = kv19 := ⟨_, rfl⟩
      have d_iv29 := hiv29.trans d_kv19
      have do29_kv17 := d_kv17
      have do29_kv28 := d_kv28
      have do29_iv29 := d_iv29
      refine m_X11_goesOn hI o_v0 hG (by have t : kv28 = 5 → 0 < kv19 := (qx3 r_kv1 hiv2 c5 r_x11 q_x11 c12 hkv19 hkv28); rw [d_kv28, d_kv19] at t; exact t) (fun S31 hJ g32 fc33 p_S31 => ?_)
      obtain ⟨hG, pg0_S31, pg1_S31, pg2_S31⟩ := p_S31
      have hn := rn_fr fc33 g32 hI o_v0 (by decide) hn
      have hI := hJ
      have d_kv4 := d_kv4.trans (fri_at fc33 (by decide) (by decide) o_v0).symm
      have d_v1 := d_v1.trans (fri_at fc33 (by decide) (by decide) o_v0).symm
      have d_kv15 := d_kv15.trans (fri_at fc33 (by decide) (by decide) o_v0).symm
      have d_kv19 := d_kv19.trans (fri_at fc33 (by decide) (by decide) o_v0).symm
      have f0 := fri_tr (S := S27) g0 f0 fc33 (by decide) (by decide)
      have o_a20 := gr_ob g32 o_a20
      have o_v0 := gr_ob g32 o_v0
      have g0 := gr_tr (T := S27) g0 g32
      obtain ⟨kv34, d_kv34⟩ : ∃ z : Int32, z = fI S31 v0 9 := ⟨_, rfl⟩
      have ph0_S31 : kv34 = 5 → 0 < kv19 := by rw [d_kv34, d_kv19]; exact pg0_S31
      have ph1_S31 : kv34 = 5 ∨ ¬ kv28 = 5 := by rw [do29_kv28, d_kv34]; exact pg1_S31
      obtain ⟨kv35, d_kv35⟩ : ∃ z : Int32, z = fI S31 v0 8 := ⟨_, rfl⟩
      have r_kv35 : (0 : Int32) ≤ kv35 ∧ kv35 ≤ (900 : Int32) := by rw [d_kv35]; exact nu 25 rfl hI o_v0
      have ph2_S31 : kv17 ≤ kv35 ∧ (kv34 = 4 → kv17 < kv35 ∨ kv28 = 4) := by rw [do29_kv17, do29_kv28, d_kv35, d_kv34]; exact pg2_S31
      intro _
      have do35_kv34 := d_kv34
      have do35_kv19 := d_kv19
      refine m_X11_readAll hI o_v0 hG hn (by have t : kv34 = 5 → 0 < kv19 := (qx4 r_kv1 hiv2 c5 r_x11 q_x11 c12 hkv19 hkv28 hiv29 ph0_S31 ph1_S31); rw [d_kv34, d_kv19] at t; exact t) (fun S37 hJ g38 fc39 p_S37 => ?_)
      obtain ⟨hG, hn, p_S37, pg0_S37⟩ := p_S37
      have hI := hJ
      have d_kv4 := d_kv4.trans (fri_at fc39 (by decide) (by decide) o_v0).symm
      have d_v1 := d_v1.trans (fri_at fc39 (by decide) (by decide) o_v0).symm
      have d_kv15 := d_kv15.trans (fri_at fc39 (by decide) (by decide) o_v0).symm
      have f0 := fri_tr (S := S31) g0 f0 fc39 (by decide) (by decide)
      have o_a20 := gr_ob g38 o_a20
      have o_v0 := gr_ob g38 o_v0
      have g0 := gr_tr (T := S31) g0 g38
      obtain ⟨kv40, d_kv40⟩ : ∃ z : Int32, z = fI S37 v0 9 := ⟨_, rfl⟩
      obtain ⟨kv41, d_kv41⟩ : ∃ z : Int32, z = fI S37 v0 13 := ⟨_, rfl⟩
      have ph0_S37 : kv40 = 5 → 0 < kv41 := by rw [d_kv40, d_kv41]; exact pg0_S37
      intro _
      have ra_kept := p_S37
      intro x42 ex42
      have q_x42 : x42 = kv41 := ex42.trans d_kv41.symm
      have d_x42 := ex42
      refine ⟨fun c43 => ?_, fun c43 => ?_⟩
      · obtain ⟨a44, ea44, o_a44, -⟩ := id hG
        refine ⟨a44, ea44, ?_⟩
        have hIw := iv11_world hI o_v0 o_a44 (rg_wg hG ea44) (ra_hour ra_kept d_x42 (qx5 r_kv1 hiv2 c5 r_x11 q_x11 c12 ph0_S37 q_x42 c43) ea44)
        intro S45 eS45
        have f0 := fr_R eS45 g0 f0 o_v0 (by decide)
        have d_kv4 := rd_R eS45 d_kv4
        have d_v1 := rd_R eS45 d_v1
        have d_kv15 := rd_R eS45 d_kv15
        have d_kv40 := rd_R eS45 d_kv40
        have d_x42 := rd_R eS45 d_x42
        have ea44 := rf_Rj eS45 (by decide) ea44
        have g0 := gr_R eS45 g0
        have o_a20 := ob_R eS45 o_a20
        have o_a44 := ob_R eS45 o_a44
        have o_v0 := ob_R eS45 o_v0
        have ea44 : fR S45 v0 3 = some a44 := by rw [eS45]; exact u2_self _ _ _ _
        intro S46 eS46
        have hIn : IV S46 := by rw [eS46]; exact (by rw [eS45]; exact hIw)
        have hI := hIn
        have f0 := fr_I eS46 g0 f0 o_v0 (by decide)
        have d_kv4 := rd_Ij eS46 (by decide) d_kv4
        have d_v1 := rd_Ij eS46 (by decide) d_v1
        have d_kv15 := rd_Ij eS46 (by decide) d_kv15
        have d_kv40 := rd_Ij eS46 (by decide) d_kv40
        have d_x42 := rd_Ij eS46 (by decide) d_x42
        obtain ⟨kv47, hkv47⟩ : ∃ z : Int32, z = (-2 : Int32) := ⟨_, rfl⟩
        have d_kv47 := rd_Is eS46 hkv47
        have ea44 := rf_I eS46 ea44
        have g0 := gr_I eS46 g0
        have o_a20 := ob_I eS46 o_a20
        have o_a44 := ob_I eS46 o_a44
        have o_v0 := ob_I eS46 o_v0
        intro S48 eS48
        have hIn : IV S48 := by rw [eS48]; exact iv11_sI hI o_v0 (by decide) (nu_one (lo := (0 : Int32)) (hi := (16 : Int32)) (by decide) (qx6 r_kv1 hiv2 c5 r_x11 q_x11 c12))
        have hI := hIn
        have f0 := fr_I eS48 g0 f0 o_v0 (by decide)
        have d_kv4 := rd_Ij eS48 (by decide) d_kv4
        have d_v1 := rd_Ij eS48 (by decide) d_v1
        have d_kv15 := rd_Ij eS48 (by decide) d_kv15
        have d_kv40 := rd_Ij eS48 (by decide) d_kv40
        have d_x42 := rd_Ij eS48 (by decide) d_x42
        have d_kv47 := rd_Ij eS48 (by decide) d_kv47
        obtain ⟨kv49, hkv49⟩ : ∃ z : Int32, z = (0 : Int32) := ⟨_, rfl⟩
        have d_kv49 := rd_Is eS48 hkv49
        have ea44 := rf_I eS48 ea44
        have g0 := gr_I eS48 g0
        have o_a20 := ob_I eS48 o_a20
        have o_a44 := ob_I eS48 o_a44
        have o_v0 := ob_I eS48 o_v0
        intro S50 eS50
        have hIn : IV S50 := by rw [eS50]; exact iv11_sI hI o_v0 (by decide) (nu_one (lo := (0 : Int32)) (hi := (3 : Int32)) (by decide) (qx7 r_kv1 hiv2 c5 r_x11 q_x11 c12))
        have hI := hIn
        have f0 := fr_I eS50 g0 f0 o_v0 (by decide)
        have d_kv4 := rd_Ij eS50 (by decide) d_kv4
        have d_v1 := rd_Ij eS50 (by decide) d_v1
        have d_kv15 := rd_Ij eS50 (by decide) d_kv15
        have d_kv40 := rd_Ij eS50 (by decide) d_kv40
        have d_x42 := rd_Ij eS50 (by decide) d_x42
        have d_kv47 := rd_Ij eS50 (by decide) d_kv47
        have d_kv49 := rd_Ij eS50 (by decide) d_kv49
        obtain ⟨kv51, hkv51⟩ : ∃ z : Int32, z = (0 : Int32) := ⟨_, rfl⟩
        have d_kv51 := rd_Is eS50 hkv51
        have ea44 := rf_I eS50 ea44
        have g0 := gr_I eS50 g0
        have o_a20 := ob_I eS50 o_a20
        have o_a44 := ob_I eS50 o_a44
        have o_v0 := ob_I eS50 o_v0
        refine ⟨a44, ea44, ?_⟩
        refine ⟨o_a44, ?_⟩
        intro x53 ex53
        have r_x53 : (0 : Int32) ≤ x53 ∧ x53 ≤ (4 : Int32) := by rw [ex53]; exact nu 20 rfl hI o_a44
        have d_x53 := ex53
        refine u_X11_good ?_
        refine u_X11_good_0 ?_
        refine ⟨o_v0, ?_⟩
        intro S54 eS54
        have hIn : IV S54 := by rw [eS54]; exact iv11_sI hI o_v0 (by decide) (nu_free (by decide))
        have hI := hIn
        have f0 := fr_I eS54 g0 f0 o_v0 (by decide)
        have d_kv4 := rd_Ij eS54 (by decide) d_kv4
        have d_v1 := rd_Ij eS54 (by decide) d_v1
        have d_kv15 := rd_Ij eS54 (by decide) d_kv15
        have d_kv40 := rd_Ij eS54 (by decide) d_kv40
        have d_x42 := rd_Ij eS54 (by decide) d_x42
        have d_kv47 := rd_Ij eS54 (by decide) d_kv47
        have d_kv49 := rd_Ij eS54 (by decide) d_kv49
        have d_kv51 := rd_Ij eS54 (by decide) d_kv51
        have d_x53 := rd_Ik eS54 o_v0 o_a44 (by decide) d_x53
        obtain ⟨kv55, hkv55⟩ : ∃ z : Int32, z = (0 : Int32) := ⟨_, rfl⟩
        have d_kv55 := rd_Is eS54 hkv55
        have ea44 := rf_I eS54 ea44
        have g0 := gr_I eS54 g0
        have o_a20 := ob_I eS54 o_a20
        have o_a44 := ob_I eS54 o_a44
        have o_v0 := ob_I eS54 o_v0
        intro S56 eS56
        have hIn : IV S56 := by rw [eS56]; exact iv11_sI hI o_v0 (by decide) (nu_free (by decide))
        have hI := hIn
        have f0 := fr_I eS56 g0 f0 o_v0 (by decide)
        have d_kv4 := rd_Ij eS56 (by decide) d_kv4
        have d_v1 := rd_Ij eS56 (by decide) d_v1
        have d_kv15 := rd_Ij eS56 (by decide) d_kv15
        have d_kv40 := rd_Ij eS56 (by decide) d_kv40
        have d_x42 := rd_Ij eS56 (by decide) d_x42
        have d_kv47 := rd_Ij eS56 (by decide) d_kv47
        have d_kv49 := rd_Ij eS56 (by decide) d_kv49
        have d_kv51 := rd_Ij eS56 (by decide) d_kv51
        have d_x53 := rd_Ik eS56 o_v0 o_a44 (by decide) d_x53
        have d_kv55 := rd_Ij eS56 (by decide) d_kv55
        obtain ⟨kv57, hkv57⟩ : ∃ z : Int32, z = (-1 : Int32) := ⟨_, rfl⟩
        have d_kv57 := rd_Is eS56 hkv57
        have ea44 := rf_I eS56 ea44
        have g0 := gr_I eS56 g0
        have o_a20 := ob_I eS56 o_a20
        have o_a44 := ob_I eS56 o_a44
        have o_v0 := ob_I eS56 o_v0
        intro _
        exact hq _ _ hI g0 f0 (by have t : (v1 < 0 ∨ iv2 < v1 → kv15 = iv2) ∧ (0 ≤ v1 ∧ v1 ≤ iv2 → kv15 = 0) := (qx8 r_kv1 hiv2 c5 r_x11 q_x11 c12 hkv15); rw [di_6, d_kv15] at t; exact t)
      · intro S59 eS59
        have hIn : IV S59 := by rw [eS59]; exact iv11_sI hI o_v0 (by decide) (nu_free (by decide))
        have hG := rg_11 eS59 hI o_v0 hG
        have hn := rn_11 eS59 hI o_v0 o_v0 (by decide) hn
        have hI := hIn
        have f0 := fr_I eS59 g0 f0 o_v0 (by decide)
        have d_kv4 := rd_Ij eS59 (by decide) d_kv4
        have d_v1 := rd_Ij eS59 (by decide) d_v1
        have d_kv15 := rd_Ij eS59 (by decide) d_kv15
        have d_kv40 := rd_Ij eS59 (by decide) d_kv40
        have d_x42 := rd_Ij eS59 (by decide) d_x42
        obtain ⟨kv60, hkv60⟩ : ∃ z : Int32, z = (4 : Int32) := ⟨_, rfl⟩
        have d_kv60 := rd_Is eS59 hkv60
        have g0 := gr_I eS59 g0
        have o_a20 := ob_I eS59 o_a20
        have o_v0 := ob_I eS59 o_v0
        intro x61 ex61
        have d_x61 := ex61
        intro S62 eS62
        have hIn : IV S62 := by rw [eS62]; exact iv11_sI hI o_v0 (by decide) (nu_free (by decide))
        have hG := rg_11 eS62 hI o_v0 hG
        have hn := rn_11 eS62 hI o_v0 o_v0 (by decide) hn
        have hI := hIn
        have f0 := fr_I eS62 g0 f0 o_v0 (by decide)
        have d_kv4 := rd_Ij eS62 (by decide) d_kv4
        have d_v1 := rd_Ij eS62 (by decide) d_v1
        have d_kv15 := rd_Ij eS62 (by decide) d_kv15
        have d_kv40 := rd_Ij eS62 (by decide) d_kv40
        have d_x42 := rd_Ij eS62 (by decide) d_x42
        have d_kv60 := rd_Ij eS62 (by decide) d_kv60
        have d_x61 := rd_Ij eS62 (by decide) d_x61
        obtain ⟨kv63, hkv63⟩ : ∃ z : Int32, z = x61 := ⟨_, rfl⟩
        have d_kv63 := rd_Is eS62 hkv63
        have g0 := gr_I eS62 g0
        have o_a20 := ob_I eS62 o_a20
        have o_v0 := ob_I eS62 o_v0
        exact hq _ _ hI g0 f0 (by have t : (v1 < 0 ∨ iv2 < v1 → kv15 = iv2) ∧ (0 ≤ v1 ∧ v1 ≤ iv2 → kv15 = 0) := (qx8 r_kv1 hiv2 c5 r_x11 q_x11 c12 hkv15); rw [di_6, d_kv15] at t; exact t)
    · refine u_X11_world_17 ?_
      refine ⟨o_v0, ?_⟩
      refine u_X11_refused ?_
      refine u_X11_refused_0 ?_
      refine ⟨o_v0, ?_⟩
      intro S64 eS64
      have hIn : IV S64 := by rw [eS64]; exact iv11_sI hI o_v0 (by decide) (nu_free (by decide))
      have hI := hIn
      have f0 := fr_I eS64 g0 f0 o_v0 (by decide)
      have d_x11 := rd_Ij eS64 (by decide) d_x11
      have d_kv4 := rd_Ij eS64 (by decide) d_kv4
      obtain ⟨kv65, hkv65⟩ : ∃ z : Int32, z = (2 : Int32) := ⟨_, rfl⟩
      have d_kv65 := rd_Is eS64 hkv65
      have g0 := gr_I eS64 g0
      have o_v0 := ob_I eS64 o_v0
      intro S66 eS66
      have hIn : IV S66 := by rw [eS66]; exact iv11_sI hI o_v0 (by decide) (nu_free (by decide))
      have hI := hIn
      have f0 := fr_I eS66 g0 f0 o_v0 (by decide)
      have d_x11 := rd_Ij eS66 (by decide) d_x11
      have d_kv4 := rd_Ij eS66 (by decide) d_kv4
      have d_kv65 := rd_Ij eS66 (by decide) d_kv65
      obtain ⟨kv67, hkv67⟩ : ∃ z : Int32, z = (-1 : Int32) := ⟨_, rfl⟩
      have d_kv67 := rd_Is eS66 hkv67
      have g0 := gr_I eS66 g0
      have o_v0 := ob_I eS66 o_v0
      intro _
      exact hq _ _ hI g0 f0 (by have t : (v1 < 0 ∨ iv2 < v1 → x11 = iv2) ∧ (0 ≤ v1 ∧ v1 ≤ iv2 → x11 = 0) := (qx9 r_kv1 hiv2 c5 r_x11 q_x11 c12); rw [di_6, d_x11] at t; exact t)
