set_option maxHeartbeats 4000000 in
set_option maxRecDepth 20000 in
theorem m_X11_readPart {v0 : Nat} {v1 : Nat} {v2 : Int32} {v3 : Int32} {Q : Int32 → HS → Prop} {S : HS} (hI : IV S) (o_v0 : ob S v0 11)  (hw_v1 : v1 < 54)  (hG : RG S v0) (hO : fI S v0 9 = 5 → 0 < fI S v0 13) (hq : ∀ (r : Int32) (T : HS), IV T → Gr S T → FRI [(11, 8), (11, 9), (11, 10), (11, 11), (11, 12), (11, 13), (11, 14)] [] S T → (RG T v0) ∧ (r = v2 ∨ (v2 ≤ r ∧ r ≤ v3)) ∧ (fI T v0 9 = 5 → 0 < fI T v0 13) ∧ (fI T v0 9 = 5 ∨ ¬ fI S v0 9 = 5) ∧ (fI S v0 8 ≤ fI T v0 8 ∧ (fI T v0 9 = 4 → fI S v0 8 < fI T v0 8 ∨ fI S v0 9 = 4)) → Q r T) : P_X11_readPart v0 v1 v2 v3 Q S := by
  have g0 := gr_rf S
  have f0 := fri_rf [(11, 8), (11, 9), (11, 10), (11, 11), (11, 12), (11, 13), (11, 14)] [] S
  obtain ⟨kv1, d_kv1⟩ : ∃ z : Int32, z = fI S v0 8 := ⟨_, rfl⟩
  have r_kv1 : (0 : Int32) ≤ kv1 ∧ kv1 ≤ (900 : Int32) := by rw [d_kv1]; exact nu 25 rfl hI o_v0
  have di_8 := d_kv1
  obtain ⟨kv2, d_kv2⟩ : ∃ z : Int32, z = fI S v0 9 := ⟨_, rfl⟩
  have di_9 := d_kv2
  obtain ⟨kv3, d_kv3⟩ : ∃ z : Int32, z = fI S v0 13 := ⟨_, rfl⟩
  have di_13 := d_kv3
  have hO : kv2 = 5 → 0 < kv3 := by rw [d_kv2, d_kv3]; exact hO
  refine u_X11_readPart ?_
  refine u_X11_readPart_0 ?_
  refine ⟨o_v0, ?_⟩
  have do3_kv1 := d_kv1
  have do3_kv2 := d_kv2
  have do3_kv3 := d_kv3
  refine m_X11_needs hI o_v0 hw_v1 hG (by have t : kv2 = 5 → 0 < kv3 := (qr1 hO); rw [d_kv2, d_kv3] at t; exact t) (fun S5 hJ g6 fc7 p_S5 => ?_)
  obtain ⟨hG, pg0_S5, pg1_S5, pg2_S5⟩ := p_S5
  have hI := hJ
  have f0 := fri_tr (S := S) g0 f0 fc7 (by decide) (by decide)
  have o_v0 := gr_ob g6 o_v0
  have g0 := gr_tr (T := S) g0 g6
  obtain ⟨kv8, d_kv8⟩ : ∃ z : Int32, z = fI S5 v0 9 := ⟨_, rfl⟩
  obtain ⟨kv9, d_kv9⟩ : ∃ z : Int32, z = fI S5 v0 13 := ⟨_, rfl⟩
  have ph0_S5 : kv8 = 5 → 0 < kv9 := by rw [d_kv8, d_kv9]; exact pg0_S5
  have ph1_S5 : kv8 = 5 ∨ ¬ kv2 = 5 := by rw [do3_kv2, d_kv8]; exact pg1_S5
  obtain ⟨kv10, d_kv10⟩ : ∃ z : Int32, z = fI S5 v0 8 := ⟨_, rfl⟩
  have r_kv10 : (0 : Int32) ≤ kv10 ∧ kv10 ≤ (900 : Int32) := by rw [d_kv10]; exact nu 25 rfl hI o_v0
  have ph2_S5 : kv1 ≤ kv10 ∧ (kv8 = 4 → kv1 < kv10 ∨ kv2 = 4) := by rw [do3_kv1, do3_kv2, d_kv10, d_kv8]; exact pg2_S5
  intro _
  have do10_kv10 := d_kv10
  have do10_kv8 := d_kv8
  have do10_kv9 := d_kv9
  refine m_X11_readWhole hI o_v0 hG (by have t : kv8 = 5 → 0 < kv9 := (qr608 hO ph0_S5 ph1_S5); rw [d_kv8, d_kv9] at t; exact t) (fun x11 S12 hJ g13 fc14 p_x11 => ?_)
  obtain ⟨hG, p_x11, pg0_S12, pg1_S12, pg2_S12⟩ := p_x11
  have hI := hJ
  have f0 := fri_tr (S := S5) g0 f0 fc14 (by decide) (by decide)
  have o_v0 := gr_ob g13 o_v0
  have g0 := gr_tr (T := S5) g0 g13
  obtain ⟨kv15, d_kv15⟩ : ∃ z : Int32, z = fI S12 v0 9 := ⟨_, rfl⟩
  obtain ⟨kv16, d_kv16⟩ : ∃ z : Int32, z = fI S12 v0 13 := ⟨_, rfl⟩
  have ph0_S12 : kv15 = 5 → 0 < kv16 := by rw [d_kv15, d_kv16]; exact pg0_S12
  have ph1_S12 : kv15 = 5 ∨ ¬ kv8 = 5 := by rw [do10_kv8, d_kv15]; exact pg1_S12
  obtain ⟨kv17, d_kv17⟩ : ∃ z : Int32, z = fI S12 v0 8 := ⟨_, rfl⟩
  have r_kv17 : (0 : Int32) ≤ kv17 ∧ kv17 ≤ (900 : Int32) := by rw [d_kv17]; exact nu 25 rfl hI o_v0
  have ph2_S12 : kv10 ≤ kv17 ∧ (kv15 = 4 → kv10 < kv17 ∨ kv8 = 4) := by rw [do10_kv10, do10_kv8, d_kv17, d_kv15]; exact pg2_S12
  intro _
  exact hq _ _ hI g0 f0 ⟨hG, (qr609 p_x11), (by have t : kv15 = 5 → 0 < kv16 := (qr610 hO ph0_S5 ph1_S5 ph0_S12 ph1_S12); rw [d_kv15, d_kv16] at t; exact t), (by have t : kv15 = 5 ∨ ¬ kv2 = 5 := (qr611 ph1_S5 ph1_S12); rw [di_9, d_kv15] at t; exact t), (by have t : kv1 ≤ kv17 ∧ (kv15 = 4 → kv1 < kv17 ∨ kv2 = 4) := (qr612 r_kv1 ph1_S5 r_kv10 ph2_S5 ph1_S12 r_kv17 ph2_S12); rw [di_8, di_9, d_kv17, d_kv15] at t; exact t)⟩
set_option maxHeartbeats 4000000 in
set_option maxRecDepth 20000 in
theorem m_X11_readSide {v0 : Nat} {Q : Int32 → HS → Prop} {S : HS} (hI : IV S) (o_v0 : ob S v0 11)    (hG : RG S v0) (hO : fI S v0 9 = 5 → 0 < fI S v0 13) (hq : ∀ (r : Int32) (T : HS), IV T → Gr S T → FRI [(11, 8), (11, 9), (11, 10), (11, 11), (11, 12), (11, 13), (11, 14)] [] S T → (RG T v0) ∧ (fI T v0 9 = 5 → 0 < fI T v0 13) ∧ (fI T v0 9 = 5 ∨ ¬ fI S v0 9 = 5) ∧ (fI S v0 8 ≤ fI T v0 8 ∧ (fI T v0 9 = 4 → fI S v0 8 < fI T v0 8 ∨ fI S v0 9 = 4)) → Q r T) : P_X11_readSide v0 Q S := by
  have g0 := gr_rf S
  have f0 := fri_rf [(11, 8), (11, 9), (11, 10), (11, 11), (11, 12), (11, 13), (11, 14)] [] S
  obtain ⟨kv1, d_kv1⟩ : ∃ z : Int32, z = fI S v0 8 := ⟨_, rfl⟩
  have r_kv1 : (0 : Int32) ≤ kv1 ∧ kv1 ≤ (900 : Int32) := by rw [d_kv1]; exact nu 25 rfl hI o_v0
  have di_8 := d_kv1
  obtain ⟨kv2, d_kv2⟩ : ∃ z : Int32, z = fI S v0 9 := ⟨_, rfl⟩
  have di_9 := d_kv2
  obtain ⟨kv3, d_kv3⟩ : ∃ z : Int32, z = fI S v0 13 := ⟨_, rfl⟩
  have di_13 := d_kv3
  have hO : kv2 = 5 → 0 < kv3 := by rw [d_kv2, d_kv3]; exact hO
  refine u_X11_readSide ?_
  refine u_X11_readSide_0 ?_
  refine ⟨o_v0, ?_⟩
  refine m_X11_isWord hI o_v0 (by decide) (fun x4 S5 hI2 g6 b_x4 p_x4 => ?_)
  obtain ⟨z_S5, p_x4⟩ := p_x4
  subst z_S5
  intro _ _
  have bb_x4 : x4 = 0 ∨ x4 = 1 := b_x4
  have iw_x4 : x4 = 0 ∨ kv2 = 2 := by rw [d_kv2]; exact p_x4
  refine ⟨fun c8 => ?_, fun c8 => ?_⟩
  · refine m_X11_isWord hI o_v0 (by decide) (fun x9 S10 hI2 g11 b_x9 p_x9 => ?_)
    obtain ⟨z_S10, p_x9⟩ := p_x9
    subst z_S10
    intro _ _
    have bb_x9 : x9 = 0 ∨ x9 = 1 := b_x9
    have iw_x9 : x9 = 0 ∨ kv2 = 2 := by rw [d_kv2]; exact p_x9
    refine ⟨fun c13 => ?_, fun c13 => ?_⟩
    · refine m_X11_isWord hI o_v0 (by decide) (fun x14 S15 hI2 g16 b_x14 p_x14 => ?_)
      obtain ⟨z_S15, p_x14⟩ := p_x14
      subst z_S15
      intro _ _
      have bb_x14 : x14 = 0 ∨ x14 = 1 := b_x14
      have iw_x14 : x14 = 0 ∨ kv2 = 2 := by rw [d_kv2]; exact p_x14
      refine ⟨fun c18 => ?_, fun c18 => ?_⟩
      · refine m_X11_isWord hI o_v0 (by decide) (fun x19 S20 hI2 g21 b_x19 p_x19 => ?_)
        obtain ⟨z_S20, p_x19⟩ := p_x19
        subst z_S20
        intro _ _
        have bb_x19 : x19 = 0 ∨ x19 = 1 := b_x19
        have iw_x19 : x19 = 0 ∨ kv2 = 2 := by rw [d_kv2]; exact p_x19
        refine ⟨fun c23 => ?_, fun c23 => ?_⟩
        · refine u_X11_readSide_53 ?_
          refine ⟨fun c24 => absurd (show ¬ (-1 : Int32) = (-1 : Int32) from c24) (by decide), fun c24 => ?_⟩
          refine ⟨o_v0, ?_⟩
          have do24_kv1 := d_kv1
          have do24_kv2 := d_kv2
          have do24_kv3 := d_kv3
          refine m_X11_flaw hI o_v0 (qr502 bb_x4 iw_x4 c8 bb_x9 iw_x9 c13 bb_x14 iw_x14 c18 bb_x19 iw_x19 c23) hG (by have t : kv2 = 5 → 0 < kv3 := (qr503 hO bb_x4 iw_x4 c8 bb_x9 iw_x9 c13 bb_x14 iw_x14 c18 bb_x19 iw_x19 c23); rw [d_kv2, d_kv3] at t; exact t) (fun S26 hJ g27 fc28 p_S26 => ?_)
          obtain ⟨hG, pg0_S26, pg1_S26, pg2_S26, pg3_S26⟩ := p_S26
          have hI := hJ
          have d_kv1 := d_kv1.trans (fri_at fc28 (by decide) (by decide) o_v0).symm
          have f0 := fri_tr (S := S) g0 f0 fc28 (by decide) (by decide)
          have o_v0 := gr_ob g27 o_v0
          have g0 := gr_tr (T := S) g0 g27
          obtain ⟨kv29, d_kv29⟩ : ∃ z : Int32, z = fI S26 v0 9 := ⟨_, rfl⟩
          obtain ⟨kv30, d_kv30⟩ : ∃ z : Int32, z = fI S26 v0 13 := ⟨_, rfl⟩
          have ph0_S26 : kv29 = 5 → 0 < kv30 := by rw [d_kv29, d_kv30]; exact pg0_S26
          have ph1_S26 : kv29 = 5 ∨ ¬ kv2 = 5 := by rw [do24_kv2, d_kv29]; exact pg1_S26
          have ph2_S26 : kv1 ≤ kv1 ∧ (kv29 = 4 → kv1 < kv1 ∨ kv2 = 4) := by rw [d_kv1, do24_kv2, d_kv29]; exact pg2_S26
          have ph3_S26 : kv29 = 5 := by rw [d_kv29]; exact pg3_S26
          intro _
          refine u_X11_readSide_64 ?_
          refine ⟨o_v0, ?_⟩
          have do30_kv1 := d_kv1
          have do30_kv29 := d_kv29
          have do30_kv30 := d_kv30
          refine m_X11_goesOn hI o_v0 hG (by have t : kv29 = 5 → 0 < kv30 := (qr504 hO bb_x4 iw_x4 c8 bb_x9 iw_x9 c13 bb_x14 iw_x14 c18 bb_x19 iw_x19 c23 ph0_S26 ph1_S26 ph3_S26); rw [d_kv29, d_kv30] at t; exact t) (fun S32 hJ g33 fc34 p_S32 => ?_)
          obtain ⟨hG, pg0_S32, pg1_S32, pg2_S32⟩ := p_S32
          have hI := hJ
          have d_kv30 := d_kv30.trans (fri_at fc34 (by decide) (by decide) o_v0).symm
          have f0 := fri_tr (S := S26) g0 f0 fc34 (by decide) (by decide)
          have o_v0 := gr_ob g33 o_v0
          have g0 := gr_tr (T := S26) g0 g33
          obtain ⟨kv35, d_kv35⟩ : ∃ z : Int32, z = fI S32 v0 9 := ⟨_, rfl⟩
          have ph0_S32 : kv35 = 5 → 0 < kv30 := by rw [d_kv35, d_kv30]; exact pg0_S32
          have ph1_S32 : kv35 = 5 ∨ ¬ kv29 = 5 := by rw [do30_kv29, d_kv35]; exact pg1_S32
          obtain ⟨kv36, d_kv36⟩ : ∃ z : Int32, z = fI S32 v0 8 := ⟨_, rfl⟩
          have r_kv36 : (0 : Int32) ≤ kv36 ∧ kv36 ≤ (900 : Int32) := by rw [d_kv36]; exact nu 25 rfl hI o_v0
          have ph2_S32 : kv1 ≤ kv36 ∧ (kv35 = 4 → kv1 < kv36 ∨ kv29 = 4) := by rw [do30_kv1, do30_kv29, d_kv36, d_kv35]; exact pg2_S32
          intro _
          exact hq _ _ hI g0 f0 ⟨hG, (by have t : kv35 = 5 → 0 < kv30 := (qr505 hO bb_x4 iw_x4 c8 bb_x9 iw_x9 c13 bb_x14 iw_x14 c18 bb_x19 iw_x19 c23 ph0_S26 ph1_S26 ph3_S26 ph0_S32 ph1_S32); rw [d_kv35, d_kv30] at t; exact t), (by have t : kv35 = 5 ∨ ¬ kv2 = 5 := (qr506 bb_x4 iw_x4 c8 bb_x9 iw_x9 c13 bb_x14 iw_x14 c18 bb_x19 iw_x19 c23 ph1_S26 ph3_S26 ph1_S32); rw [di_9, d_kv35] at t; exact t), (by have t : kv1 ≤ kv36 ∧ (kv35 = 4 → kv1 < kv36 ∨ kv2 = 4) := (qr507 r_kv1 bb_x4 iw_x4 c8 bb_x9 iw_x9 c13 bb_x14 iw_x14 c18 bb_x19 iw_x19 c23 ph1_S26 ph2_S26 ph3_S26 ph1_S32 r_kv36 ph2_S32); rw [di_8, di_9, d_kv36, d_kv35] at t; exact t)⟩
        · refine u_X11_readSide_53 ?_
          refine ⟨fun c37 => ?_, fun c37 => absurd (show (3 : Int32) = (-1 : Int32) from c37) (by decide)⟩
          refine u_X11_readSide_64 ?_
          refine ⟨o_v0, ?_⟩
          have do37_kv1 := d_kv1
          have do37_kv2 := d_kv2
          have do37_kv3 := d_kv3
          refine m_X11_goesOn hI o_v0 hG (by have t : kv2 = 5 → 0 < kv3 := (qr50 hO bb_x4 iw_x4 c8 bb_x9 iw_x9 c13 bb_x14 iw_x14 c18 bb_x19 iw_x19 c23); rw [d_kv2, d_kv3] at t; exact t) (fun S39 hJ g40 fc41 p_S39 => ?_)
          obtain ⟨hG, pg0_S39, pg1_S39, pg2_S39⟩ := p_S39
          have hI := hJ
          have d_kv3 := d_kv3.trans (fri_at fc41 (by decide) (by decide) o_v0).symm
          have f0 := fri_tr (S := S) g0 f0 fc41 (by decide) (by decide)
          have o_v0 := gr_ob g40 o_v0
          have g0 := gr_tr (T := S) g0 g40
          obtain ⟨kv42, d_kv42⟩ : ∃ z : Int32, z = fI S39 v0 9 := ⟨_, rfl⟩
          have ph0_S39 : kv42 = 5 → 0 < kv3 := by rw [d_kv42, d_kv3]; exact pg0_S39
          have ph1_S39 : kv42 = 5 ∨ ¬ kv2 = 5 := by rw [do37_kv2, d_kv42]; exact pg1_S39
          obtain ⟨kv43, d_kv43⟩ : ∃ z : Int32, z = fI S39 v0 8 := ⟨_, rfl⟩
          have r_kv43 : (0 : Int32) ≤ kv43 ∧ kv43 ≤ (900 : Int32) := by rw [d_kv43]; exact nu 25 rfl hI o_v0
          have ph2_S39 : kv1 ≤ kv43 ∧ (kv42 = 4 → kv1 < kv43 ∨ kv2 = 4) := by rw [do37_kv1, do37_kv2, d_kv43, d_kv42]; exact pg2_S39
          intro _
          exact hq _ _ hI g0 f0 ⟨hG, (by have t : kv42 = 5 → 0 < kv3 := (qr508 hO bb_x4 iw_x4 c8 bb_x9 iw_x9 c13 bb_x14 iw_x14 c18 bb_x19 iw_x19 c23 ph0_S39 ph1_S39); rw [d_kv42, d_kv3] at t; exact t), (by have t : kv42 = 5 ∨ ¬ kv2 = 5 := (qr509 bb_x4 iw_x4 c8 bb_x9 iw_x9 c13 bb_x14 iw_x14 c18 bb_x19 iw_x19 c23 ph1_S39); rw [di_9, d_kv42] at t; exact t), (by have t : kv1 ≤ kv43 ∧ (kv42 = 4 → kv1 < kv43 ∨ kv2 = 4) := (qr510 r_kv1 bb_x4 iw_x4 c8 bb_x9 iw_x9 c13 bb_x14 iw_x14 c18 bb_x19 iw_x19 c23 ph1_S39 r_kv43 ph2_S39); rw [di_8, di_9, d_kv43, d_kv42] at t; exact t)⟩
      · refine u_X11_readSide_53 ?_
        refine ⟨fun c44 => ?_, fun c44 => absurd (show (2 : Int32) = (-1 : Int32) from c44) (by decide)⟩
        refine u_X11_readSide_64 ?_
        refine ⟨o_v0, ?_⟩
        have do44_kv1 := d_kv1
        have do44_kv2 := d_kv2
        have do44_kv3 := d_kv3
        refine m_X11_goesOn hI o_v0 hG (by have t : kv2 = 5 → 0 < kv3 := (qr53 hO bb_x4 iw_x4 c8 bb_x9 iw_x9 c13 bb_x14 iw_x14 c18); rw [d_kv2, d_kv3] at t; exact t) (fun S46 hJ g47 fc48 p_S46 => ?_)
        obtain ⟨hG, pg0_S46, pg1_S46, pg2_S46⟩ := p_S46
        have hI := hJ
        have d_kv3 := d_kv3.trans (fri_at fc48 (by decide) (by decide) o_v0).symm
        have f0 := fri_tr (S := S) g0 f0 fc48 (by decide) (by decide)
        have o_v0 := gr_ob g47 o_v0
        have g0 := gr_tr (T := S) g0 g47
        obtain ⟨kv49, d_kv49⟩ : ∃ z : Int32, z = fI S46 v0 9 := ⟨_, rfl⟩
        have ph0_S46 : kv49 = 5 → 0 < kv3 := by rw [d_kv49, d_kv3]; exact pg0_S46
        have ph1_S46 : kv49 = 5 ∨ ¬ kv2 = 5 := by rw [do44_kv2, d_kv49]; exact pg1_S46
        obtain ⟨kv50, d_kv50⟩ : ∃ z : Int32, z = fI S46 v0 8 := ⟨_, rfl⟩
        have r_kv50 : (0 : Int32) ≤ kv50 ∧ kv50 ≤ (900 : Int32) := by rw [d_kv50]; exact nu 25 rfl hI o_v0
        have ph2_S46 : kv1 ≤ kv50 ∧ (kv49 = 4 → kv1 < kv50 ∨ kv2 = 4) := by rw [do44_kv1, do44_kv2, d_kv50, d_kv49]; exact pg2_S46
        intro _
        exact hq _ _ hI g0 f0 ⟨hG, (by have t : kv49 = 5 → 0 < kv3 := (qr511 hO bb_x4 iw_x4 c8 bb_x9 iw_x9 c13 bb_x14 iw_x14 c18 ph0_S46 ph1_S46); rw [d_kv49, d_kv3] at t; exact t), (by have t : kv49 = 5 ∨ ¬ kv2 = 5 := (qr512 bb_x4 iw_x4 c8 bb_x9 iw_x9 c13 bb_x14 iw_x14 c18 ph1_S46); rw [di_9, d_kv49] at t; exact t), (by have t : kv1 ≤ kv50 ∧ (kv49 = 4 → kv1 < kv50 ∨ kv2 = 4) := (qr513 r_kv1 bb_x4 iw_x4 c8 bb_x9 iw_x9 c13 bb_x14 iw_x14 c18 ph1_S46 r_kv50 ph2_S46); rw [di_8, di_9, d_kv50, d_kv49] at t; exact t)⟩
    · refine u_X11_readSide_53 ?_
      refine ⟨fun c51 => ?_, fun c51 => absurd (show (1 : Int32) = (-1 : Int32) from c51) (by decide)⟩
      refine u_X11_readSide_64 ?_
      refine ⟨o_v0, ?_⟩
      have do51_kv1 := d_kv1
      have do51_kv2 := d_kv2
      have do51_kv3 := d_kv3
      refine m_X11_goesOn hI o_v0 hG (by have t : kv2 = 5 → 0 < kv3 := (qr56 hO bb_x4 iw_x4 c8 bb_x9 iw_x9 c13); rw [d_kv2, d_kv3] at t; exact t) (fun S53 hJ g54 fc55 p_S53 => ?_)
      obtain ⟨hG, pg0_S53, pg1_S53, pg2_S53⟩ := p_S53
      have hI := hJ
      have d_kv3 := d_kv3.trans (fri_at fc55 (by decide) (by decide) o_v0).symm
      have f0 := fri_tr (S := S) g0 f0 fc55 (by decide) (by decide)
      have o_v0 := gr_ob g54 o_v0
      have g0 := gr_tr (T := S) g0 g54
      obtain ⟨kv56, d_kv56⟩ : ∃ z : Int32, z = fI S53 v0 9 := ⟨_, rfl⟩
      have ph0_S53 : kv56 = 5 → 0 < kv3 := by rw [d_kv56, d_kv3]; exact pg0_S53
      have ph1_S53 : kv56 = 5 ∨ ¬ kv2 = 5 := by rw [do51_kv2, d_kv56]; exact pg1_S53
      obtain ⟨kv57, d_kv57⟩ : ∃ z : Int32, z = fI S53 v0 8 := ⟨_, rfl⟩
      have r_kv57 : (0 : Int32) ≤ kv57 ∧ kv57 ≤ (900 : Int32) := by rw [d_kv57]; exact nu 25 rfl hI o_v0
      have ph2_S53 : kv1 ≤ kv57 ∧ (kv56 = 4 → kv1 < kv57 ∨ kv2 = 4) := by rw [do51_kv1, do51_kv2, d_kv57, d_kv56]; exact pg2_S53
      intro _
      exact hq _ _ hI g0 f0 ⟨hG, (by have t : kv56 = 5 → 0 < kv3 := (qr514 hO bb_x4 iw_x4 c8 bb_x9 iw_x9 c13 ph0_S53 ph1_S53); rw [d_kv56, d_kv3] at t; exact t), (by have t : kv56 = 5 ∨ ¬ kv2 = 5 := (qr515 bb_x4 iw_x4 c8 bb_x9 iw_x9 c13 ph1_S53); rw [di_9, d_kv56] at t; exact t), (by have t : kv1 ≤ kv57 ∧ (kv56 = 4 → kv1 < kv57 ∨ kv2 = 4) := (qr516 r_kv1 bb_x4 iw_x4 c8 bb_x9 iw_x9 c13 ph1_S53 r_kv57 ph2_S53); rw [di_8, di_9, d_kv57, d_kv56] at t; exact t)⟩
  · refine u_X11_readSide_53 ?_
    refine ⟨fun c58 => ?_, fun c58 => absurd (show (0 : Int32) = (-1 : Int32) from c58) (by decide)⟩
    refine u_X11_readSide_64 ?_
    refine ⟨o_v0, ?_⟩
    have do58_kv1 := d_kv1
    have do58_kv2 := d_kv2
    have do58_kv3 := d_kv3
    refine m_X11_goesOn hI o_v0 hG (by have t : kv2 = 5 → 0 < kv3 := (qr59 hO bb_x4 iw_x4 c8); rw [d_kv2, d_kv3] at t; exact t) (fun S60 hJ g61 fc62 p_S60 => ?_)
    obtain ⟨hG, pg0_S60, pg1_S60, pg2_S60⟩ := p_S60
    have hI := hJ
    have d_kv3 := d_kv3.trans (fri_at fc62 (by decide) (by decide) o_v0).symm
    have f0 := fri_tr (S := S) g0 f0 fc62 (by decide) (by decide)
    have o_v0 := gr_ob g61 o_v0
    have g0 := gr_tr (T := S) g0 g61
    obtain ⟨kv63, d_kv63⟩ : ∃ z : Int32, z = fI S60 v0 9 := ⟨_, rfl⟩
    have ph0_S60 : kv63 = 5 → 0 < kv3 := by rw [d_kv63, d_kv3]; exact pg0_S60
    have ph1_S60 : kv63 = 5 ∨ ¬ kv2 = 5 := by rw [do58_kv2, d_kv63]; exact pg1_S60
    obtain ⟨kv64, d_kv64⟩ : ∃ z : Int32, z = fI S60 v0 8 := ⟨_, rfl⟩
    have r_kv64 : (0 : Int32) ≤ kv64 ∧ kv64 ≤ (900 : Int32) := by rw [d_kv64]; exact nu 25 rfl hI o_v0
    have ph2_S60 : kv1 ≤ kv64 ∧ (kv63 = 4 → kv1 < kv64 ∨ kv2 = 4) := by rw [do58_kv1, do58_kv2, d_kv64, d_kv63]; exact pg2_S60
    intro _
    exact hq _ _ hI g0 f0 ⟨hG, (by have t : kv63 = 5 → 0 < kv3 := (qr517 hO bb_x4 iw_x4 c8 ph0_S60 ph1_S60); rw [d_kv63, d_kv3] at t; exact t), (by have t : kv63 = 5 ∨ ¬ kv2 = 5 := (qr518 bb_x4 iw_x4 c8 ph1_S60); rw [di_9, d_kv63] at t; exact t), (by have t : kv1 ≤ kv64 ∧ (kv63 = 4 → kv1 < kv64 ∨ kv2 = 4) := (qr519 r_kv1 bb_x4 iw_x4 c8 ph1_S60 r_kv64 ph2_S60); rw [di_8, di_9, d_kv64, d_kv63] at t; exact t)⟩
set_option maxHeartbeats 4000000 in
set_option maxRecDepth 20000 in
theorem m_X11_readRain {v0 : Nat} {Q : HS → Prop} {S : HS} (hI : IV S) (o_v0 : ob S v0 11)    (hG : RG S v0) (hn : RN S v0) (hO : fI S v0 9 = 5 → 0 < fI S v0 13) (hq : ∀ (T : HS), IV T → Gr S T → FRI [(10, 1), (11, 8), (11, 9), (11, 10), (11, 11), (11, 12), (11, 13), (11, 14)] [] S T → (RG T v0) ∧ (RN T v0) ∧ (fI T v0 9 = 5 → 0 < fI T v0 13) ∧ (fI T v0 9 = 5 ∨ ¬ fI S v0 9 = 5) ∧ (fI S v0 8 ≤ fI T v0 8 ∧ (fI T v0 9 = 4 → fI S v0 8 < fI T v0 8 ∨ fI S v0 9 = 4)) → Q T) : P_X11_readRain v0 Q S := by
  have g0 := gr_rf S
  have f0 := fri_rf [(10, 1), (11, 8), (11, 9), (11, 10), (11, 11), (11, 12), (11, 13), (11, 14)] [] S
  obtain ⟨kv1, d_kv1⟩ : ∃ z : Int32, z = fI S v0 8 := ⟨_, rfl⟩
  have r_kv1 : (0 : Int32) ≤ kv1 ∧ kv1 ≤ (900 : Int32) := by rw [d_kv1]; exact nu 25 rfl hI o_v0
  have di_8 := d_kv1
  obtain ⟨kv2, d_kv2⟩ : ∃ z : Int32, z = fI S v0 9 := ⟨_, rfl⟩
  have di_9 := d_kv2
  obtain ⟨kv3, d_kv3⟩ : ∃ z : Int32, z = fI S v0 13 := ⟨_, rfl⟩
  have di_13 := d_kv3
  have hO : kv2 = 5 → 0 < kv3 := by rw [d_kv2, d_kv3]; exact hO
  obtain ⟨a4, ea4, o_a4, -⟩ := id hG
  obtain ⟨kv5, d_kv5⟩ : ∃ z : Int32, z = fI S a4 6 := ⟨_, rfl⟩
  have r_kv5 : (0 : Int32) ≤ kv5 ∧ kv5 ≤ (12 : Int32) := by rw [d_kv5]; exact nu 22 rfl hI o_a4
  obtain ⟨kv6, d_kv6⟩ : ∃ z : Int32, z = fI S a4 2 := ⟨_, rfl⟩
  have r_kv6 : (0 : Int32) ≤ kv6 ∧ kv6 ≤ (8 : Int32) := by rw [d_kv6]; exact nu 18 rfl hI o_a4
  obtain ⟨kv7, d_kv7⟩ : ∃ z : Int32, z = fI S a4 4 := ⟨_, rfl⟩
  have r_kv7 : (0 : Int32) ≤ kv7 ∧ kv7 ≤ (4 : Int32) := by rw [d_kv7]; exact nu 20 rfl hI o_a4
  have hnf : kv5 = kv6 + kv7 := by rw [d_kv5, d_kv6, d_kv7]; exact hn _ ea4
  refine u_X11_readRain ?_
  refine u_X11_readRain_0 ?_
  refine ⟨o_v0, ?_⟩
  refine ⟨a4, ea4, ?_⟩
  refine ⟨o_a4, ?_⟩
  intro x9 ex9
  have r_x9 : (0 : Int32) ≤ x9 ∧ x9 ≤ (6 : Int32) := by rw [ex9]; exact nu 17 rfl hI o_a4
  have d_x9 := ex9
  have do9_kv1 := d_kv1
  have do9_kv2 := d_kv2
  have do9_kv3 := d_kv3
  refine m_X11_begins hI o_v0 hG (by have t : kv2 = 5 → 0 < kv3 := (qr1 hO); rw [d_kv2, d_kv3] at t; exact t) (fun S11 hJ g12 fc13 p_S11 => ?_)
  obtain ⟨hG, pg0_S11, pg1_S11, pg2_S11, pg3_S11⟩ := p_S11
  have hn := rn_fr fc13 g12 hI o_v0 (by decide) hn
  have hI := hJ
  have d_kv5 := d_kv5.trans (fri_at fc13 (by decide) (by decide) o_a4).symm
  have d_kv6 := d_kv6.trans (fri_at fc13 (by decide) (by decide) o_a4).symm
  have d_kv7 := d_kv7.trans (fri_at fc13 (by decide) (by decide) o_a4).symm
  have d_x9 := d_x9.trans (fri_at fc13 (by decide) (by decide) o_a4).symm
  have ea4 := (frr_at fc13 (by decide) (by decide) o_v0).trans ea4
  have f0 := fri_tr (S := S) g0 f0 fc13 (by decide) (by decide)
  have o_a4 := gr_ob g12 o_a4
  have o_v0 := gr_ob g12 o_v0
  have g0 := gr_tr (T := S) g0 g12
  obtain ⟨kv14, d_kv14⟩ : ∃ z : Int32, z = fI S11 v0 9 := ⟨_, rfl⟩
  obtain ⟨kv15, d_kv15⟩ : ∃ z : Int32, z = fI S11 v0 13 := ⟨_, rfl⟩
  have ph0_S11 : kv14 = 5 → 0 < kv15 := by rw [d_kv14, d_kv15]; exact pg0_S11
  have ph1_S11 : kv14 = 5 ∨ ¬ kv2 = 5 := by rw [do9_kv2, d_kv14]; exact pg1_S11
  obtain ⟨kv16, d_kv16⟩ : ∃ z : Int32, z = fI S11 v0 8 := ⟨_, rfl⟩
  have r_kv16 : (0 : Int32) ≤ kv16 ∧ kv16 ≤ (900 : Int32) := by rw [d_kv16]; exact nu 25 rfl hI o_v0
  have ph2_S11 : kv1 ≤ kv16 ∧ (kv14 = 4 → kv1 < kv16 ∨ kv2 = 4) := by rw [do9_kv1, do9_kv2, d_kv16, d_kv14]; exact pg2_S11
  have ph3_S11 : kv14 = 5 ∨ ¬ x9 = (6 : Int32) := by rw [d_kv14]; exact pg3_S11
  intro _
  have do16_kv16 := d_kv16
  have do16_kv14 := d_kv14
  have do16_kv15 := d_kv15
  refine m_X11_readPart hI o_v0 (by decide) hG (by have t : kv14 = 5 → 0 < kv15 := (qr520 hO r_x9 ph0_S11 ph1_S11 ph3_S11); rw [d_kv14, d_kv15] at t; exact t) (fun x17 S18 hJ g19 fc20 p_x17 => ?_)
  obtain ⟨hG, p_x17, pg0_S18, pg1_S18, pg2_S18⟩ := p_x17
  have hn := rn_fr fc20 g19 hI o_v0 (by decide) hn
  have hI := hJ
  have d_kv5 := d_kv5.trans (fri_at fc20 (by decide) (by decide) o_a4).symm
  have d_kv6 := d_kv6.trans (fri_at fc20 (by decide) (by decide) o_a4).symm
  have d_kv7 := d_kv7.trans (fri_at fc20 (by decide) (by decide) o_a4).symm
  have d_x9 := d_x9.trans (fri_at fc20 (by decide) (by decide) o_a4).symm
  have ea4 := (frr_at fc20 (by decide) (by decide) o_v0).trans ea4
  have f0 := fri_tr (S := S11) g0 f0 fc20 (by decide) (by decide)
  have o_a4 := gr_ob g19 o_a4
  have o_v0 := gr_ob g19 o_v0
  have g0 := gr_tr (T := S11) g0 g19
  obtain ⟨kv21, d_kv21⟩ : ∃ z : Int32, z = fI S18 v0 9 := ⟨_, rfl⟩
  obtain ⟨kv22, d_kv22⟩ : ∃ z : Int32, z = fI S18 v0 13 := ⟨_, rfl⟩
  have ph0_S18 : kv21 = 5 → 0 < kv22 := by rw [d_kv21, d_kv22]; exact pg0_S18
  have ph1_S18 : kv21 = 5 ∨ ¬ kv14 = 5 := by rw [do16_kv14, d_kv21]; exact pg1_S18
  obtain ⟨kv23, d_kv23⟩ : ∃ z : Int32, z = fI S18 v0 8 := ⟨_, rfl⟩
  have r_kv23 : (0 : Int32) ≤ kv23 ∧ kv23 ≤ (900 : Int32) := by rw [d_kv23]; exact nu 25 rfl hI o_v0
  have ph2_S18 : kv16 ≤ kv23 ∧ (kv21 = 4 → kv16 < kv23 ∨ kv14 = 4) := by rw [do16_kv16, do16_kv14, d_kv23, d_kv21]; exact pg2_S18
  intro _
  have do23_kv23 := d_kv23
  have do23_kv21 := d_kv21
  have do23_kv22 := d_kv22
  refine m_X11_readPart hI o_v0 (by decide) hG (by have t : kv21 = 5 → 0 < kv22 := (qr521 hO r_x9 ph0_S11 ph1_S11 ph3_S11 ph0_S18 ph1_S18); rw [d_kv21, d_kv22] at t; exact t) (fun x24 S25 hJ g26 fc27 p_x24 => ?_)
  obtain ⟨hG, p_x24, pg0_S25, pg1_S25, pg2_S25⟩ := p_x24
  have hn := rn_fr fc27 g26 hI o_v0 (by decide) hn
  have hI := hJ
  have d_kv5 := d_kv5.trans (fri_at fc27 (by decide) (by decide) o_a4).symm
  have d_kv6 := d_kv6.trans (fri_at fc27 (by decide) (by decide) o_a4).symm
  have d_kv7 := d_kv7.trans (fri_at fc27 (by decide) (by decide) o_a4).symm
  have d_x9 := d_x9.trans (fri_at fc27 (by decide) (by decide) o_a4).symm
  have ea4 := (frr_at fc27 (by decide) (by decide) o_v0).trans ea4
  have f0 := fri_tr (S := S18) g0 f0 fc27 (by decide) (by decide)
  have o_a4 := gr_ob g26 o_a4
  have o_v0 := gr_ob g26 o_v0
  have g0 := gr_tr (T := S18) g0 g26
  obtain ⟨kv28, d_kv28⟩ : ∃ z : Int32, z = fI S25 v0 9 := ⟨_, rfl⟩
  obtain ⟨kv29, d_kv29⟩ : ∃ z : Int32, z = fI S25 v0 13 := ⟨_, rfl⟩
  have ph0_S25 : kv28 = 5 → 0 < kv29 := by rw [d_kv28, d_kv29]; exact pg0_S25
  have ph1_S25 : kv28 = 5 ∨ ¬ kv21 = 5 := by rw [do23_kv21, d_kv28]; exact pg1_S25
  obtain ⟨kv30, d_kv30⟩ : ∃ z : Int32, z = fI S25 v0 8 := ⟨_, rfl⟩
  have r_kv30 : (0 : Int32) ≤ kv30 ∧ kv30 ≤ (900 : Int32) := by rw [d_kv30]; exact nu 25 rfl hI o_v0
  have ph2_S25 : kv23 ≤ kv30 ∧ (kv28 = 4 → kv23 < kv30 ∨ kv21 = 4) := by rw [do23_kv23, do23_kv21, d_kv30, d_kv28]; exact pg2_S25
  intro _
  have do30_kv30 := d_kv30
  have do30_kv28 := d_kv28
  have do30_kv29 := d_kv29
  refine m_X11_needs hI o_v0 (by decide) hG (by have t : kv28 = 5 → 0 < kv29 := (qr522 hO r_x9 ph0_S11 ph1_S11 ph3_S11 ph0_S18 ph1_S18 ph0_S25 ph1_S25); rw [d_kv28, d_kv29] at t; exact t) (fun S32 hJ g33 fc34 p_S32 => ?_)
  obtain ⟨hG, pg0_S32, pg1_S32, pg2_S32⟩ := p_S32
  have hn := rn_fr fc34 g33 hI o_v0 (by decide) hn
  have hI := hJ
  have d_kv5 := d_kv5.trans (fri_at fc34 (by decide) (by decide) o_a4).symm
  have d_kv6 := d_kv6.trans (fri_at fc34 (by decide) (by decide) o_a4).symm
  have d_kv7 := d_kv7.trans (fri_at fc34 (by decide) (by decide) o_a4).symm
  have d_x9 := d_x9.trans (fri_at fc34 (by decide) (by decide) o_a4).symm
  have ea4 := (frr_at fc34 (by decide) (by decide) o_v0).trans ea4
  have f0 := fri_tr (S := S25) g0 f0 fc34 (by decide) (by decide)
  have o_a4 := gr_ob g33 o_a4
  have o_v0 := gr_ob g33 o_v0
  have g0 := gr_tr (T := S25) g0 g33
  obtain ⟨kv35, d_kv35⟩ : ∃ z : Int32, z = fI S32 v0 9 := ⟨_, rfl⟩
  obtain ⟨kv36, d_kv36⟩ : ∃ z : Int32, z = fI S32 v0 13 := ⟨_, rfl⟩
  have ph0_S32 : kv35 = 5 → 0 < kv36 := by rw [d_kv35, d_kv36]; exact pg0_S32
  have ph1_S32 : kv35 = 5 ∨ ¬ kv28 = 5 := by rw [do30_kv28, d_kv35]; exact pg1_S32
  obtain ⟨kv37, d_kv37⟩ : ∃ z : Int32, z = fI S32 v0 8 := ⟨_, rfl⟩
  have r_kv37 : (0 : Int32) ≤ kv37 ∧ kv37 ≤ (900 : Int32) := by rw [d_kv37]; exact nu 25 rfl hI o_v0
  have ph2_S32 : kv30 ≤ kv37 ∧ (kv35 = 4 → kv30 < kv37 ∨ kv28 = 4) := by rw [do30_kv30, do30_kv28, d_kv37, d_kv35]; exact pg2_S32
  intro _
  have do37_kv37 := d_kv37
  have do37_kv35 := d_kv35
  have do37_kv36 := d_kv36
  refine m_X11_readSide hI o_v0 hG (by have t : kv35 = 5 → 0 < kv36 := (qr523 hO r_x9 ph0_S11 ph1_S11 ph3_S11 ph0_S18 ph1_S18 ph0_S25 ph1_S25 ph0_S32 ph1_S32); rw [d_kv35, d_kv36] at t; exact t) (fun x38 S39 hJ g40 fc41 p_x38 => ?_)
  obtain ⟨hG, pg0_S39, pg1_S39, pg2_S39⟩ := p_x38
  have hn := rn_fr fc41 g40 hI o_v0 (by decide) hn
  have hI := hJ
  have d_kv5 := d_kv5.trans (fri_at fc41 (by decide) (by decide) o_a4).symm
  have d_kv6 := d_kv6.trans (fri_at fc41 (by decide) (by decide) o_a4).symm
  have d_kv7 := d_kv7.trans (fri_at fc41 (by decide) (by decide) o_a4).symm
  have d_x9 := d_x9.trans (fri_at fc41 (by decide) (by decide) o_a4).symm
  have ea4 := (frr_at fc41 (by decide) (by decide) o_v0).trans ea4
  have f0 := fri_tr (S := S32) g0 f0 fc41 (by decide) (by decide)
  have o_a4 := gr_ob g40 o_a4
  have o_v0 := gr_ob g40 o_v0
  have g0 := gr_tr (T := S32) g0 g40
  obtain ⟨kv42, d_kv42⟩ : ∃ z : Int32, z = fI S39 v0 9 := ⟨_, rfl⟩
  obtain ⟨kv43, d_kv43⟩ : ∃ z : Int32, z = fI S39 v0 13 := ⟨_, rfl⟩
  have ph0_S39 : kv42 = 5 → 0 < kv43 := by rw [d_kv42, d_kv43]; exact pg0_S39
  have ph1_S39 : kv42 = 5 ∨ ¬ kv35 = 5 := by rw [do37_kv35, d_kv42]; exact pg1_S39
  obtain ⟨kv44, d_kv44⟩ : ∃ z : Int32, z = fI S39 v0 8 := ⟨_, rfl⟩
  have r_kv44 : (0 : Int32) ≤ kv44 ∧ kv44 ≤ (900 : Int32) := by rw [d_kv44]; exact nu 25 rfl hI o_v0
  have ph2_S39 : kv37 ≤ kv44 ∧ (kv42 = 4 → kv37 < kv44 ∨ kv35 = 4) := by rw [do37_kv37, do37_kv35, d_kv44, d_kv42]; exact pg2_S39
  intro _
  have do44_kv44 := d_kv44
  have do44_kv42 := d_kv42
  have do44_kv43 := d_kv43
  refine m_X11_readWhole hI o_v0 hG (by have t : kv42 = 5 → 0 < kv43 := (qr524 hO r_x9 ph0_S11 ph1_S11 ph3_S11 ph0_S18 ph1_S18 ph0_S25 ph1_S25 ph0_S32 ph1_S32 ph0_S39 ph1_S39); rw [d_kv42, d_kv43] at t; exact t) (fun x45 S46 hJ g47 fc48 p_x45 => ?_)
  obtain ⟨hG, p_x45, pg0_S46, pg1_S46, pg2_S46⟩ := p_x45
  have hn := rn_fr fc48 g47 hI o_v0 (by decide) hn
  have hI := hJ
  have d_kv5 := d_kv5.trans (fri_at fc48 (by decide) (by decide) o_a4).symm
  have d_kv6 := d_kv6.trans (fri_at fc48 (by decide) (by decide) o_a4).symm
  have d_kv7 := d_kv7.trans (fri_at fc48 (by decide) (by decide) o_a4).symm
  have d_x9 := d_x9.trans (fri_at fc48 (by decide) (by decide) o_a4).symm
  have ea4 := (frr_at fc48 (by decide) (by decide) o_v0).trans ea4
  have f0 := fri_tr (S := S39) g0 f0 fc48 (by decide) (by decide)
  have o_a4 := gr_ob g47 o_a4
  have o_v0 := gr_ob g47 o_v0
  have g0 := gr_tr (T := S39) g0 g47
  obtain ⟨kv49, d_kv49⟩ : ∃ z : Int32, z = fI S46 v0 9 := ⟨_, rfl⟩
  obtain ⟨kv50, d_kv50⟩ : ∃ z : Int32, z = fI S46 v0 13 := ⟨_, rfl⟩
  have ph0_S46 : kv49 = 5 → 0 < kv50 := by rw [d_kv49, d_kv50]; exact pg0_S46
  have ph1_S46 : kv49 = 5 ∨ ¬ kv42 = 5 := by rw [do44_kv42, d_kv49]; exact pg1_S46
  obtain ⟨kv51, d_kv51⟩ : ∃ z : Int32, z = fI S46 v0 8 := ⟨_, rfl⟩
  have r_kv51 : (0 : Int32) ≤ kv51 ∧ kv51 ≤ (900 : Int32) := by rw [d_kv51]; exact nu 25 rfl hI o_v0
  have ph2_S46 : kv44 ≤ kv51 ∧ (kv49 = 4 → kv44 < kv51 ∨ kv42 = 4) := by rw [do44_kv44, do44_kv42, d_kv51, d_kv49]; exact pg2_S46
  intro _
  have do51_kv51 := d_kv51
  have do51_kv49 := d_kv49
  have do51_kv50 := d_kv50
  refine m_X11_readPart hI o_v0 (by decide) hG (by have t : kv49 = 5 → 0 < kv50 := (qr525 hO r_x9 ph0_S11 ph1_S11 ph3_S11 ph0_S18 ph1_S18 ph0_S25 ph1_S25 ph0_S32 ph1_S32 ph0_S39 ph1_S39 ph0_S46 ph1_S46); rw [d_kv49, d_kv50] at t; exact t) (fun x52 S53 hJ g54 fc55 p_x52 => ?_)
  obtain ⟨hG, p_x52, pg0_S53, pg1_S53, pg2_S53⟩ := p_x52
  have hn := rn_fr fc55 g54 hI o_v0 (by decide) hn
  have hI := hJ
  have d_kv5 := d_kv5.trans (fri_at fc55 (by decide) (by decide) o_a4).symm
  have d_kv6 := d_kv6.trans (fri_at fc55 (by decide) (by decide) o_a4).symm
  have d_kv7 := d_kv7.trans (fri_at fc55 (by decide) (by decide) o_a4).symm
  have d_x9 := d_x9.trans (fri_at fc55 (by decide) (by decide) o_a4).symm
  have ea4 := (frr_at fc55 (by decide) (by decide) o_v0).trans ea4
  have f0 := fri_tr (S := S46) g0 f0 fc55 (by decide) (by decide)
  have o_a4 := gr_ob g54 o_a4
  have o_v0 := gr_ob g54 o_v0
  have g0 := gr_tr (T := S46) g0 g54
  obtain ⟨kv56, d_kv56⟩ : ∃ z : Int32, z = fI S53 v0 9 := ⟨_, rfl⟩
  obtain ⟨kv57, d_kv57⟩ : ∃ z : Int32, z = fI S53 v0 13 := ⟨_, rfl⟩
  have ph0_S53 : kv56 = 5 → 0 < kv57 := by rw [d_kv56, d_kv57]; exact pg0_S53
  have ph1_S53 : kv56 = 5 ∨ ¬ kv49 = 5 := by rw [do51_kv49, d_kv56]; exact pg1_S53
  obtain ⟨kv58, d_kv58⟩ : ∃ z : Int32, z = fI S53 v0 8 := ⟨_, rfl⟩
  have r_kv58 : (0 : Int32) ≤ kv58 ∧ kv58 ≤ (900 : Int32) := by rw [d_kv58]; exact nu 25 rfl hI o_v0
  have ph2_S53 : kv51 ≤ kv58 ∧ (kv56 = 4 → kv51 < kv58 ∨ kv49 = 4) := by rw [do51_kv51, do51_kv49, d_kv58, d_kv56]; exact pg2_S53
  intro _
  intro x59 ex59
  have q_x59 : x59 = kv56 := ex59.trans d_kv56.symm
  have d_x59 := ex59
  refine ⟨fun c60 => ?_, fun c60 => ?_⟩
  · refine ⟨a4, ea4, ?_⟩
    refine ⟨o_a4, ?_⟩
    obtain ⟨a62, ea62, o_a62, l_a62⟩ := shl 29 rfl hI o_a4
    refine ⟨a62, ea62, ?_⟩
    refine ⟨a4, ea4, ?_⟩
    refine ⟨o_a4, ?_⟩
    intro x64 ex64
    have r_x64 : (0 : Int32) ≤ x64 ∧ x64 ≤ (6 : Int32) := by rw [ex64]; exact nu 17 rfl hI o_a4
    have q_x64 : x64 = x9 := ex64.trans d_x9.symm
    have d_x64 := ex64
    refine ⟨o_a62, ?_⟩
    have i65 : vp_in x64 (hN _ a62) := (vin l_a62 (m := 6) (by decide) (qr526 r_x9 ph1_S11 ph3_S11 ph1_S18 ph1_S25 ph1_S32 ph1_S39 ph1_S46 ph1_S53 q_x59 c60 r_x64 q_x64))
    refine ⟨i65, ?_⟩
    intro S66 eS66
    have hIn : IV S66 := by rw [eS66]; exact iv10_aI hI o_a4 (rg_nw hG ea4) ea62 o_a62 (by decide)
    have hG := rg_a (jj := 7) (x := x64) eS66 hI ea4 o_a4 ea62 o_a62 (by decide) (h1_no (by decide)) (h2_no (y := 0) (by decide)) hG
    have hn := rn_11 eS66 hI o_v0 o_a62 (by decide) hn
    have hI := hIn
    have f0 := fr_A eS66 g0 f0 o_a62 (by decide)
    have d_kv5 := rd_Ik eS66 o_a62 o_a4 (by decide) d_kv5
    have d_kv6 := rd_Ik eS66 o_a62 o_a4 (by decide) d_kv6
    have d_kv7 := rd_Ik eS66 o_a62 o_a4 (by decide) d_kv7
    have d_x64 := rd_Ik eS66 o_a62 o_a4 (by decide) d_x64
    have d_x59 := rd_Ik eS66 o_a62 o_v0 (by decide) d_x59
    have d_kv57 := rd_Ik eS66 o_a62 o_v0 (by decide) d_kv57
    have d_kv58 := rd_Ik eS66 o_a62 o_v0 (by decide) d_kv58
    have ea4 := rf_I eS66 ea4
    have ea62 := rf_I eS66 ea62
    have l_a62 := ln_I eS66 l_a62
    have g0 := gr_I eS66 g0
    have o_a4 := ob_I eS66 o_a4
    have o_a62 := ob_I eS66 o_a62
    have o_v0 := ob_I eS66 o_v0
    refine ⟨a4, ea4, ?_⟩
    refine ⟨o_a4, ?_⟩
    obtain ⟨a68, ea68, o_a68, l_a68⟩ := shl 30 rfl hI o_a4
    refine ⟨a68, ea68, ?_⟩
    refine ⟨a4, ea4, ?_⟩
    refine ⟨o_a4, ?_⟩
    intro x70 ex70
    have r_x70 : (0 : Int32) ≤ x70 ∧ x70 ≤ (6 : Int32) := by rw [ex70]; exact nu 17 rfl hI o_a4
    have q_x70 : x70 = x64 := ex70.trans d_x64.symm
    have d_x70 := ex70
    refine ⟨o_a68, ?_⟩
    have i71 : vp_in x70 (hN _ a68) := (vin l_a68 (m := 6) (by decide) (qr527 r_x9 ph1_S11 ph3_S11 ph1_S18 ph1_S25 ph1_S32 ph1_S39 ph1_S46 ph1_S53 q_x59 c60 r_x64 q_x64 r_x70 q_x70))
    refine ⟨i71, ?_⟩
    intro S72 eS72
    have hIn : IV S72 := by rw [eS72]; exact iv10_aI hI o_a4 (rg_nw hG ea4) ea68 o_a68 (by decide)
    have hG := rg_a (jj := 8) (x := x70) eS72 hI ea4 o_a4 ea68 o_a68 (by decide) (h1_no (by decide)) (h2_no (y := 0) (by decide)) hG
    have hn := rn_11 eS72 hI o_v0 o_a68 (by decide) hn
    have hI := hIn
    have f0 := fr_A eS72 g0 f0 o_a68 (by decide)
    have d_kv5 := rd_Ik eS72 o_a68 o_a4 (by decide) d_kv5
    have d_kv6 := rd_Ik eS72 o_a68 o_a4 (by decide) d_kv6
    have d_kv7 := rd_Ik eS72 o_a68 o_a4 (by decide) d_kv7
    have d_x70 := rd_Ik eS72 o_a68 o_a4 (by decide) d_x70
    have d_x59 := rd_Ik eS72 o_a68 o_v0 (by decide) d_x59
    have d_kv57 := rd_Ik eS72 o_a68 o_v0 (by decide) d_kv57
    have d_kv58 := rd_Ik eS72 o_a68 o_v0 (by decide) d_kv58
    have ea4 := rf_I eS72 ea4
    have ea62 := rf_I eS72 ea62
    have ea68 := rf_I eS72 ea68
    have l_a62 := ln_I eS72 l_a62
    have l_a68 := ln_I eS72 l_a68
    have g0 := gr_I eS72 g0
    have o_a4 := ob_I eS72 o_a4
    have o_a62 := ob_I eS72 o_a62
    have o_a68 := ob_I eS72 o_a68
    have o_v0 := ob_I eS72 o_v0
    refine ⟨a4, ea4, ?_⟩
    refine ⟨o_a4, ?_⟩
    obtain ⟨a74, ea74, o_a74, l_a74⟩ := shl 31 rfl hI o_a4
    refine ⟨a74, ea74, ?_⟩
    refine ⟨a4, ea4, ?_⟩
    refine ⟨o_a4, ?_⟩
    intro x76 ex76
    have r_x76 : (0 : Int32) ≤ x76 ∧ x76 ≤ (6 : Int32) := by rw [ex76]; exact nu 17 rfl hI o_a4
    have q_x76 : x76 = x70 := ex76.trans d_x70.symm
    have d_x76 := ex76
    refine ⟨o_a74, ?_⟩
    have i77 : vp_in x76 (hN _ a74) := (vin l_a74 (m := 6) (by decide) (qr528 r_x9 ph1_S11 ph3_S11 ph1_S18 ph1_S25 ph1_S32 ph1_S39 ph1_S46 ph1_S53 q_x59 c60 r_x64 q_x64 r_x70 q_x70 r_x76 q_x76))
    refine ⟨i77, ?_⟩
    intro S78 eS78
    have hIn : IV S78 := by rw [eS78]; exact iv10_aI hI o_a4 (rg_nw hG ea4) ea74 o_a74 (by decide)
    have hG := rg_a (jj := 9) (x := x76) eS78 hI ea4 o_a4 ea74 o_a74 (by decide) (h1_no (by decide)) (h2_no (y := 0) (by decide)) hG
    have hn := rn_11 eS78 hI o_v0 o_a74 (by decide) hn
    have hI := hIn
    have f0 := fr_A eS78 g0 f0 o_a74 (by decide)
    have d_kv5 := rd_Ik eS78 o_a74 o_a4 (by decide) d_kv5
    have d_kv6 := rd_Ik eS78 o_a74 o_a4 (by decide) d_kv6
    have d_kv7 := rd_Ik eS78 o_a74 o_a4 (by decide) d_kv7
    have d_x76 := rd_Ik eS78 o_a74 o_a4 (by decide) d_x76
    have d_x59 := rd_Ik eS78 o_a74 o_v0 (by decide) d_x59
    have d_kv57 := rd_Ik eS78 o_a74 o_v0 (by decide) d_kv57
    have d_kv58 := rd_Ik eS78 o_a74 o_v0 (by decide) d_kv58
    have ea4 := rf_I eS78 ea4
    have ea62 := rf_I eS78 ea62
    have ea68 := rf_I eS78 ea68
    have ea74 := rf_I eS78 ea74
    have l_a62 := ln_I eS78 l_a62
    have l_a68 := ln_I eS78 l_a68
    have l_a74 := ln_I eS78 l_a74
    have g0 := gr_I eS78 g0
    have o_a4 := ob_I eS78 o_a4
    have o_a62 := ob_I eS78 o_a62
    have o_a68 := ob_I eS78 o_a68
    have o_a74 := ob_I eS78 o_a74
    have o_v0 := ob_I eS78 o_v0
    refine ⟨a4, ea4, ?_⟩
    refine ⟨o_a4, ?_⟩
    obtain ⟨a80, ea80, o_a80, l_a80⟩ := shl 32 rfl hI o_a4
    refine ⟨a80, ea80, ?_⟩
    refine ⟨a4, ea4, ?_⟩
    refine ⟨o_a4, ?_⟩
    intro x82 ex82
    have r_x82 : (0 : Int32) ≤ x82 ∧ x82 ≤ (6 : Int32) := by rw [ex82]; exact nu 17 rfl hI o_a4
    have q_x82 : x82 = x76 := ex82.trans d_x76.symm
    have d_x82 := ex82
    refine ⟨o_a80, ?_⟩
    have i83 : vp_in x82 (hN _ a80) := (vin l_a80 (m := 6) (by decide) (qr529 r_x9 ph1_S11 ph3_S11 ph1_S18 ph1_S25 ph1_S32 ph1_S39 ph1_S46 ph1_S53 q_x59 c60 r_x64 q_x64 r_x70 q_x70 r_x76 q_x76 r_x82 q_x82))
    refine ⟨i83, ?_⟩
    intro S84 eS84
    have hIn : IV S84 := by rw [eS84]; exact iv10_aI hI o_a4 (rg_nw hG ea4) ea80 o_a80 (by decide)
    have hG := rg_a (jj := 10) (x := x82) eS84 hI ea4 o_a4 ea80 o_a80 (by decide) (h1_no (by decide)) (h2_no (y := 0) (by decide)) hG
    have hn := rn_11 eS84 hI o_v0 o_a80 (by decide) hn
    have hI := hIn
    have f0 := fr_A eS84 g0 f0 o_a80 (by decide)
    have d_kv5 := rd_Ik eS84 o_a80 o_a4 (by decide) d_kv5
    have d_kv6 := rd_Ik eS84 o_a80 o_a4 (by decide) d_kv6
    have d_kv7 := rd_Ik eS84 o_a80 o_a4 (by decide) d_kv7
    have d_x82 := rd_Ik eS84 o_a80 o_a4 (by decide) d_x82
    have d_x59 := rd_Ik eS84 o_a80 o_v0 (by decide) d_x59
    have d_kv57 := rd_Ik eS84 o_a80 o_v0 (by decide) d_kv57
    have d_kv58 := rd_Ik eS84 o_a80 o_v0 (by decide) d_kv58
    have ea4 := rf_I eS84 ea4
    have ea62 := rf_I eS84 ea62
    have ea68 := rf_I eS84 ea68
    have ea74 := rf_I eS84 ea74
    have ea80 := rf_I eS84 ea80
    have l_a62 := ln_I eS84 l_a62
    have l_a68 := ln_I eS84 l_a68
    have l_a74 := ln_I eS84 l_a74
    have l_a80 := ln_I eS84 l_a80
    have g0 := gr_I eS84 g0
    have o_a4 := ob_I eS84 o_a4
    have o_a62 := ob_I eS84 o_a62
    have o_a68 := ob_I eS84 o_a68
    have o_a74 := ob_I eS84 o_a74
    have o_a80 := ob_I eS84 o_a80
    have o_v0 := ob_I eS84 o_v0
    refine ⟨a4, ea4, ?_⟩
    refine ⟨o_a4, ?_⟩
    obtain ⟨a86, ea86, o_a86, l_a86⟩ := shl 33 rfl hI o_a4
    refine ⟨a86, ea86, ?_⟩
    refine ⟨a4, ea4, ?_⟩
    refine ⟨o_a4, ?_⟩
    intro x88 ex88
    have r_x88 : (0 : Int32) ≤ x88 ∧ x88 ≤ (6 : Int32) := by rw [ex88]; exact nu 17 rfl hI o_a4
    have q_x88 : x88 = x82 := ex88.trans d_x82.symm
    have d_x88 := ex88
    refine ⟨o_a86, ?_⟩
    have i89 : vp_in x88 (hN _ a86) := (vin l_a86 (m := 6) (by decide) (qr530 r_x9 ph1_S11 ph3_S11 ph1_S18 ph1_S25 ph1_S32 ph1_S39 ph1_S46 ph1_S53 q_x59 c60 r_x64 q_x64 r_x70 q_x70 r_x76 q_x76 r_x82 q_x82 r_x88 q_x88))
    refine ⟨i89, ?_⟩
    intro S90 eS90
    have hIn : IV S90 := by rw [eS90]; exact iv10_aI hI o_a4 (rg_nw hG ea4) ea86 o_a86 (by decide)
    have hG := rg_a (jj := 11) (x := x88) eS90 hI ea4 o_a4 ea86 o_a86 (by decide) (h1_no (by decide)) (h2_no (y := 0) (by decide)) hG
    have hn := rn_11 eS90 hI o_v0 o_a86 (by decide) hn
    have hI := hIn
    have f0 := fr_A eS90 g0 f0 o_a86 (by decide)
    have d_kv5 := rd_Ik eS90 o_a86 o_a4 (by decide) d_kv5
    have d_kv6 := rd_Ik eS90 o_a86 o_a4 (by decide) d_kv6
    have d_kv7 := rd_Ik eS90 o_a86 o_a4 (by decide) d_kv7
    have d_x88 := rd_Ik eS90 o_a86 o_a4 (by decide) d_x88
    have d_x59 := rd_Ik eS90 o_a86 o_v0 (by decide) d_x59
    have d_kv57 := rd_Ik eS90 o_a86 o_v0 (by decide) d_kv57
    have d_kv58 := rd_Ik eS90 o_a86 o_v0 (by decide) d_kv58
    have ea4 := rf_I eS90 ea4
    have ea62 := rf_I eS90 ea62
    have ea68 := rf_I eS90 ea68
    have ea74 := rf_I eS90 ea74
    have ea80 := rf_I eS90 ea80
    have ea86 := rf_I eS90 ea86
    have l_a62 := ln_I eS90 l_a62
    have l_a68 := ln_I eS90 l_a68
    have l_a74 := ln_I eS90 l_a74
    have l_a80 := ln_I eS90 l_a80
    have l_a86 := ln_I eS90 l_a86
    have g0 := gr_I eS90 g0
    have o_a4 := ob_I eS90 o_a4
    have o_a62 := ob_I eS90 o_a62
    have o_a68 := ob_I eS90 o_a68
    have o_a74 := ob_I eS90 o_a74
    have o_a80 := ob_I eS90 o_a80
    have o_a86 := ob_I eS90 o_a86
    have o_v0 := ob_I eS90 o_v0
    refine ⟨a4, ea4, ?_⟩
    refine ⟨o_a4, ?_⟩
    intro x92 ex92
    have r_x92 : (0 : Int32) ≤ x92 ∧ x92 ≤ (6 : Int32) := by rw [ex92]; exact nu 17 rfl hI o_a4
    have q_x92 : x92 = x88 := ex92.trans d_x88.symm
    have d_x92 := ex92
    intro x93 ex93
    intro S94 eS94
    have hIn : IV S94 := by rw [eS94]; exact iv10_sI hI o_a4 (rg_nw hG ea4) (nu_one (lo := (0 : Int32)) (hi := (6 : Int32)) (by decide) (qr531 r_x9 ph1_S11 ph3_S11 ph1_S18 ph1_S25 ph1_S32 ph1_S39 ph1_S46 ph1_S53 q_x59 c60 r_x64 q_x64 r_x70 q_x70 r_x76 q_x76 r_x82 q_x82 r_x88 q_x88 r_x92 q_x92 ex93))
    have hG := rg_c eS94 hI ea4 o_a4 (by decide) hG
    have hn := rn_c eS94 (by decide) hn
    have hI := hIn
    have f0 := fr_I eS94 g0 f0 o_a4 (by decide)
    have d_kv5 := rd_Ij eS94 (by decide) d_kv5
    have d_kv6 := rd_Ij eS94 (by decide) d_kv6
    have d_kv7 := rd_Ij eS94 (by decide) d_kv7
    have d_x59 := rd_Ik eS94 o_a4 o_v0 (by decide) d_x59
    have d_kv57 := rd_Ik eS94 o_a4 o_v0 (by decide) d_kv57
    have d_kv58 := rd_Ik eS94 o_a4 o_v0 (by decide) d_kv58
    have d_x93 := rd_Is eS94 (rfl : x93 = x93)
    have ea4 := rf_I eS94 ea4
    have ea62 := rf_I eS94 ea62
    have ea68 := rf_I eS94 ea68
    have ea74 := rf_I eS94 ea74
    have ea80 := rf_I eS94 ea80
    have ea86 := rf_I eS94 ea86
    have l_a62 := ln_I eS94 l_a62
    have l_a68 := ln_I eS94 l_a68
    have l_a74 := ln_I eS94 l_a74
    have l_a80 := ln_I eS94 l_a80
    have l_a86 := ln_I eS94 l_a86
    have g0 := gr_I eS94 g0
    have o_a4 := ob_I eS94 o_a4
    have o_a62 := ob_I eS94 o_a62
    have o_a68 := ob_I eS94 o_a68
    have o_a74 := ob_I eS94 o_a74
    have o_a80 := ob_I eS94 o_a80
    have o_a86 := ob_I eS94 o_a86
    have o_v0 := ob_I eS94 o_v0
    exact hq _ hI g0 f0 ⟨hG, hn, (by have t : x59 = 5 → 0 < kv57 := (qr532 hO r_x9 ph0_S11 ph1_S11 ph3_S11 ph0_S18 ph1_S18 ph0_S25 ph1_S25 ph0_S32 ph1_S32 ph0_S39 ph1_S39 ph0_S46 ph1_S46 ph0_S53 ph1_S53 q_x59 c60 r_x64 q_x64 r_x70 q_x70 r_x76 q_x76 r_x82 q_x82 r_x88 q_x88 r_x92 q_x92 ex93); rw [d_x59, d_kv57] at t; exact t), (by have t : x59 = 5 ∨ ¬ kv2 = 5 := (qr533 r_x9 ph1_S11 ph3_S11 ph1_S18 ph1_S25 ph1_S32 ph1_S39 ph1_S46 ph1_S53 q_x59 c60 r_x64 q_x64 r_x70 q_x70 r_x76 q_x76 r_x82 q_x82 r_x88 q_x88 r_x92 q_x92 ex93); rw [di_9, d_x59] at t; exact t), (by have t : kv1 ≤ kv58 ∧ (x59 = 4 → kv1 < kv58 ∨ kv2 = 4) := (qr534 r_kv1 r_x9 ph1_S11 r_kv16 ph2_S11 ph3_S11 ph1_S18 r_kv23 ph2_S18 ph1_S25 r_kv30 ph2_S25 ph1_S32 r_kv37 ph2_S32 ph1_S39 r_kv44 ph2_S39 ph1_S46 r_kv51 ph2_S46 ph1_S53 r_kv58 ph2_S53 q_x59 c60 r_x64 q_x64 r_x70 q_x70 r_x76 q_x76 r_x82 q_x82 r_x88 q_x88 r_x92 q_x92 ex93); rw [di_8, di_9, d_kv58, d_x59] at t; exact t)⟩
  · exact hq _ hI g0 f0 ⟨hG, hn, (by have t : x59 = 5 → 0 < kv57 := (qr535 hO r_x9 ph0_S11 ph1_S11 ph3_S11 ph0_S18 ph1_S18 ph0_S25 ph1_S25 ph0_S32 ph1_S32 ph0_S39 ph1_S39 ph0_S46 ph1_S46 ph0_S53 ph1_S53 q_x59 c60); rw [d_x59, d_kv57] at t; exact t), (by have t : x59 = 5 ∨ ¬ kv2 = 5 := (qr536 r_x9 ph1_S11 ph3_S11 ph1_S18 ph1_S25 ph1_S32 ph1_S39 ph1_S46 ph1_S53 q_x59 c60); rw [di_9, d_x59] at t; exact t), (by have t : kv1 ≤ kv58 ∧ (x59 = 4 → kv1 < kv58 ∨ kv2 = 4) := (qr537 r_kv1 r_x9 ph1_S11 r_kv16 ph2_S11 ph3_S11 ph1_S18 r_kv23 ph2_S18 ph1_S25 r_kv30 ph2_S25 ph1_S32 r_kv37 ph2_S32 ph1_S39 r_kv44 ph2_S39 ph1_S46 r_kv51 ph2_S46 ph1_S53 r_kv58 ph2_S53 q_x59 c60); rw [di_8, di_9, d_kv58, d_x59] at t; exact t)⟩
