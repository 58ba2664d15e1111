set_option maxHeartbeats 4000000 in
set_option maxRecDepth 20000 in
theorem m_X11_readPart {v0 : Nat} {v1 : Nat} {v2 : Int32} {v3 : Int32} {Q : Int32 → HS → Prop} {S : HS} (hI : IV S) (o_v0 : ob S v0 11)  (hw_v1 : v1 < 54)  (hG : RG S v0) (hO : fI S v0 9 = 5 → 0 < fI S v0 13) (hq : ∀ (r : Int32) (T : HS), IV T → Gr S T → FRI [(11, 8), (11, 9), (11, 10), (11, 11), (11, 12), (11, 13), (11, 14)] [] S T → (RG T v0) ∧ (r = v2 ∨ (v2 ≤ r ∧ r ≤ v3)) ∧ (fI T v0 9 = 5 → 0 < fI T v0 13) ∧ (fI T v0 9 = 5 ∨ ¬ fI S v0 9 = 5) ∧ (fI S v0 8 ≤ fI T v0 8 ∧ (fI T v0 9 = 4 → fI S v0 8 < fI T v0 8 ∨ fI S v0 9 = 4)) → Q r T) : P_X11_readPart v0 v1 v2 v3 Q S := by
  have g0 := gr_rf S
  have f0 := fri_rf [(11, 8), (11, 9), (11, 10), (11, 11), (11, 12), (11, 13), (11, 14)] [] S
  obtain ⟨kv1, d_kv1⟩ : ∃ z : Int32, z = fI S v0 8 := ⟨_, rfl⟩
  have r_kv1 : (0 : Int32) ≤ kv1 ∧ kv1 ≤ (900 : Int32) := by rw [d_kv1]; exact nu 25 rfl hI o_v0
  obtain ⟨iv2, hiv2⟩ : ∃ z : Int32, z = kv1 := ⟨_, rfl⟩
  have di_8 := hiv2.trans d_kv1
  obtain ⟨kv3, d_kv3⟩ : ∃ z : Int32, z = fI S v0 9 := ⟨_, rfl⟩
  obtain ⟨iv4, hiv4⟩ : ∃ z : Int32, z = kv3 := ⟨_, rfl⟩
  have di_9 := hiv4.trans d_kv3
  obtain ⟨kv5, d_kv5⟩ : ∃ z : Int32, z = fI S v0 13 := ⟨_, rfl⟩
  obtain ⟨iv6, hiv6⟩ : ∃ z : Int32, z = kv5 := ⟨_, rfl⟩
  have di_13 := hiv6.trans d_kv5
  have hO : iv4 = 5 → 0 < iv6 := by rw [di_9, di_13]; exact hO
  refine u_X11_readPart ?_
  refine u_X11_readPart_0 ?_
  refine ⟨o_v0, ?_⟩
  have do6_kv1 := d_kv1
  have do6_kv3 := d_kv3
  have do6_kv5 := d_kv5
  refine m_X11_needs hI o_v0 hw_v1 hG (by have t : kv3 = 5 → 0 < kv5 := (qr1 hiv4 hiv6 hO); rw [d_kv3, d_kv5] at t; exact t) (fun S8 hJ g9 fc10 p_S8 => ?_)
  obtain ⟨hG, pg0_S8, pg1_S8, pg2_S8⟩ := p_S8
  have hI := hJ
  have f0 := fri_tr (S := S) g0 f0 fc10 (by decide) (by decide)
  have o_v0 := gr_ob g9 o_v0
  have g0 := gr_tr (T := S) g0 g9
  obtain ⟨kv11, d_kv11⟩ : ∃ z : Int32, z = fI S8 v0 9 := ⟨_, rfl⟩
  obtain ⟨kv12, d_kv12⟩ : ∃ z : Int32, z = fI S8 v0 13 := ⟨_, rfl⟩
  have ph0_S8 : kv11 = 5 → 0 < kv12 := by rw [d_kv11, d_kv12]; exact pg0_S8
  have ph1_S8 : kv11 = 5 ∨ ¬ kv3 = 5 := by rw [do6_kv3, d_kv11]; exact pg1_S8
  obtain ⟨kv13, d_kv13⟩ : ∃ z : Int32, z = fI S8 v0 8 := ⟨_, rfl⟩
  have r_kv13 : (0 : Int32) ≤ kv13 ∧ kv13 ≤ (900 : Int32) := by rw [d_kv13]; exact nu 25 rfl hI o_v0
  have ph2_S8 : kv1 ≤ kv13 ∧ (kv11 = 4 → kv1 < kv13 ∨ kv3 = 4) := by rw [do6_kv1, do6_kv3, d_kv13, d_kv11]; exact pg2_S8
  intro _
  have do13_kv13 := d_kv13
  have do13_kv11 := d_kv11
  have do13_kv12 := d_kv12
  refine m_X11_readWhole hI o_v0 hG (by have t : kv11 = 5 → 0 < kv12 := (qr596 hiv4 hiv6 hO ph0_S8 ph1_S8); rw [d_kv11, d_kv12] at t; exact t) (fun x14 S15 hJ g16 fc17 p_x14 => ?_)
  obtain ⟨hG, p_x14, pg0_S15, pg1_S15, pg2_S15⟩ := p_x14
  have hI := hJ
  have f0 := fri_tr (S := S8) g0 f0 fc17 (by decide) (by decide)
  have o_v0 := gr_ob g16 o_v0
  have g0 := gr_tr (T := S8) g0 g16
  obtain ⟨kv18, d_kv18⟩ : ∃ z : Int32, z = fI S15 v0 9 := ⟨_, rfl⟩
  obtain ⟨kv19, d_kv19⟩ : ∃ z : Int32, z = fI S15 v0 13 := ⟨_, rfl⟩
  have ph0_S15 : kv18 = 5 → 0 < kv19 := by rw [d_kv18, d_kv19]; exact pg0_S15
  have ph1_S15 : kv18 = 5 ∨ ¬ kv11 = 5 := by rw [do13_kv11, d_kv18]; exact pg1_S15
  have mo20 : kv18 = 5 ∨ ¬ kv3 = 5 := ph1_S15.elim Or.inl (fun h => Or.inr (ph1_S8.resolve_left h))
  obtain ⟨kv21, d_kv21⟩ : ∃ z : Int32, z = fI S15 v0 8 := ⟨_, rfl⟩
  have r_kv21 : (0 : Int32) ≤ kv21 ∧ kv21 ≤ (900 : Int32) := by rw [d_kv21]; exact nu 25 rfl hI o_v0
  have ph2_S15 : kv13 ≤ kv21 ∧ (kv18 = 4 → kv13 < kv21 ∨ kv11 = 4) := by rw [do13_kv13, do13_kv11, d_kv21, d_kv18]; exact pg2_S15
  intro _
  exact hq _ _ hI g0 f0 ⟨hG, (qr597 p_x14), (by have t : kv18 = 5 → 0 < kv19 := (qr598 hiv4 hiv6 hO ph0_S8 mo20 ph0_S15 ph1_S15); rw [d_kv18, d_kv19] at t; exact t), (by have t : kv18 = 5 ∨ ¬ iv4 = 5 := (qr599 hiv4 mo20 ph1_S15); rw [di_9, d_kv18] at t; exact t), (by have t : iv2 ≤ kv21 ∧ (kv18 = 4 → iv2 < kv21 ∨ iv4 = 4) := (qr600 r_kv1 hiv2 hiv4 mo20 r_kv13 ph2_S8 ph1_S15 r_kv21 ph2_S15); rw [di_8, di_9, d_kv21, d_kv18] at t; exact t)⟩
set_option maxHeartbeats 4000000 in
set_option maxRecDepth 20000 in
theorem m_X11_readSide {v0 : Nat} {Q : Int32 → HS → Prop} {S : HS} (hI : IV S) (o_v0 : ob S v0 11)    (hG : RG S v0) (hO : fI S v0 9 = 5 → 0 < fI S v0 13) (hq : ∀ (r : Int32) (T : HS), IV T → Gr S T → FRI [(11, 8), (11, 9), (11, 10), (11, 11), (11, 12), (11, 13), (11, 14)] [] S T → (RG T v0) ∧ (fI T v0 9 = 5 → 0 < fI T v0 13) ∧ (fI T v0 9 = 5 ∨ ¬ fI S v0 9 = 5) ∧ (fI S v0 8 ≤ fI T v0 8 ∧ (fI T v0 9 = 4 → fI S v0 8 < fI T v0 8 ∨ fI S v0 9 = 4)) → Q r T) : P_X11_readSide v0 Q S := by
  have g0 := gr_rf S
  have f0 := fri_rf [(11, 8), (11, 9), (11, 10), (11, 11), (11, 12), (11, 13), (11, 14)] [] S
  obtain ⟨kv1, d_kv1⟩ : ∃ z : Int32, z = fI S v0 8 := ⟨_, rfl⟩
  have r_kv1 : (0 : Int32) ≤ kv1 ∧ kv1 ≤ (900 : Int32) := by rw [d_kv1]; exact nu 25 rfl hI o_v0
  obtain ⟨iv2, hiv2⟩ : ∃ z : Int32, z = kv1 := ⟨_, rfl⟩
  have di_8 := hiv2.trans d_kv1
  obtain ⟨kv3, d_kv3⟩ : ∃ z : Int32, z = fI S v0 9 := ⟨_, rfl⟩
  obtain ⟨iv4, hiv4⟩ : ∃ z : Int32, z = kv3 := ⟨_, rfl⟩
  have di_9 := hiv4.trans d_kv3
  obtain ⟨kv5, d_kv5⟩ : ∃ z : Int32, z = fI S v0 13 := ⟨_, rfl⟩
  obtain ⟨iv6, hiv6⟩ : ∃ z : Int32, z = kv5 := ⟨_, rfl⟩
  have di_13 := hiv6.trans d_kv5
  have hO : iv4 = 5 → 0 < iv6 := by rw [di_9, di_13]; exact hO
  refine u_X11_readSide ?_
  refine u_X11_readSide_0 ?_
  refine ⟨o_v0, ?_⟩
  refine m_X11_isWord hI o_v0 (by decide) (fun x7 S8 hI2 g9 b_x7 p_x7 => ?_)
  obtain ⟨z_S8, p_x7⟩ := p_x7
  subst z_S8
  intro _ _
  have bb_x7 : x7 = 0 ∨ x7 = 1 := b_x7
  have iw_x7 : x7 = 0 ∨ kv3 = 2 := by rw [d_kv3]; exact p_x7
  refine ⟨fun c11 => ?_, fun c11 => ?_⟩
  · refine m_X11_isWord hI o_v0 (by decide) (fun x12 S13 hI2 g14 b_x12 p_x12 => ?_)
    obtain ⟨z_S13, p_x12⟩ := p_x12
    subst z_S13
    intro _ _
    have bb_x12 : x12 = 0 ∨ x12 = 1 := b_x12
    have iw_x12 : x12 = 0 ∨ kv3 = 2 := by rw [d_kv3]; exact p_x12
    refine ⟨fun c16 => ?_, fun c16 => ?_⟩
    · refine m_X11_isWord hI o_v0 (by decide) (fun x17 S18 hI2 g19 b_x17 p_x17 => ?_)
      obtain ⟨z_S18, p_x17⟩ := p_x17
      subst z_S18
      intro _ _
      have bb_x17 : x17 = 0 ∨ x17 = 1 := b_x17
      have iw_x17 : x17 = 0 ∨ kv3 = 2 := by rw [d_kv3]; exact p_x17
      refine ⟨fun c21 => ?_, fun c21 => ?_⟩
      · refine m_X11_isWord hI o_v0 (by decide) (fun x22 S23 hI2 g24 b_x22 p_x22 => ?_)
        obtain ⟨z_S23, p_x22⟩ := p_x22
        subst z_S23
        intro _ _
        have bb_x22 : x22 = 0 ∨ x22 = 1 := b_x22
        have iw_x22 : x22 = 0 ∨ kv3 = 2 := by rw [d_kv3]; exact p_x22
        refine ⟨fun c26 => ?_, fun c26 => ?_⟩
        · refine u_X11_readSide_53 ?_
          refine ⟨fun c27 => absurd (show ¬ (-1 : Int32) = (-1 : Int32) from c27) (by decide), fun c27 => ?_⟩
          refine ⟨o_v0, ?_⟩
          obtain ⟨iv28, hiv28⟩ : ∃ z : Int32, z = kv1 := ⟨_, rfl⟩
          have d_iv28 := hiv28.trans d_kv1
          have do28_iv28 := d_iv28
          have do28_kv3 := d_kv3
          have do28_kv5 := d_kv5
          refine m_X11_flaw hI o_v0 (qr490 hiv4 bb_x7 iw_x7 c11 bb_x12 iw_x12 c16 bb_x17 iw_x17 c21 bb_x22 iw_x22 c26) hG (by have t : kv3 = 5 → 0 < kv5 := (qr491 hiv4 hiv6 hO bb_x7 iw_x7 c11 bb_x12 iw_x12 c16 bb_x17 iw_x17 c21 bb_x22 iw_x22 c26); rw [d_kv3, d_kv5] at t; exact t) (fun S30 hJ g31 fc32 p_S30 => ?_)
          obtain ⟨hG, pg0_S30, pg1_S30, pg2_S30, pg3_S30⟩ := p_S30
          have hI := hJ
          have d_kv1 := d_kv1.trans (fri_at fc32 (by decide) (by decide) o_v0).symm
          have f0 := fri_tr (S := S) g0 f0 fc32 (by decide) (by decide)
          have o_v0 := gr_ob g31 o_v0
          have g0 := gr_tr (T := S) g0 g31
          obtain ⟨kv33, d_kv33⟩ : ∃ z : Int32, z = fI S30 v0 9 := ⟨_, rfl⟩
          obtain ⟨kv34, d_kv34⟩ : ∃ z : Int32, z = fI S30 v0 13 := ⟨_, rfl⟩
          have ph0_S30 : kv33 = 5 → 0 < kv34 := by rw [d_kv33, d_kv34]; exact pg0_S30
          have ph1_S30 : kv33 = 5 ∨ ¬ kv3 = 5 := by rw [do28_kv3, d_kv33]; exact pg1_S30
          have ph2_S30 : iv28 ≤ kv1 ∧ (kv33 = 4 → iv28 < kv1 ∨ kv3 = 4) := by rw [do28_iv28, do28_kv3, d_kv1, d_kv33]; exact pg2_S30
          have ph3_S30 : kv33 = 5 := by rw [d_kv33]; exact pg3_S30
          intro _
          refine u_X11_readSide_64 ?_
          refine ⟨o_v0, ?_⟩
          obtain ⟨iv35, hiv35⟩ : ∃ z : Int32, z = kv34 := ⟨_, rfl⟩
          have d_iv35 := hiv35.trans d_kv34
          have do35_kv1 := d_kv1
          have do35_kv33 := d_kv33
          have do35_iv35 := d_iv35
          refine m_X11_goesOn hI o_v0 hG (by have t : kv33 = 5 → 0 < kv34 := (qr492 hiv4 hiv6 hO bb_x7 iw_x7 c11 bb_x12 iw_x12 c16 bb_x17 iw_x17 c21 bb_x22 iw_x22 c26 ph0_S30 ph1_S30 ph3_S30); rw [d_kv33, d_kv34] at t; exact t) (fun S37 hJ g38 fc39 p_S37 => ?_)
          obtain ⟨hG, pg0_S37, pg1_S37, pg2_S37⟩ := p_S37
          have hI := hJ
          have d_kv34 := d_kv34.trans (fri_at fc39 (by decide) (by decide) o_v0).symm
          have f0 := fri_tr (S := S30) g0 f0 fc39 (by decide) (by decide)
          have o_v0 := gr_ob g38 o_v0
          have g0 := gr_tr (T := S30) g0 g38
          obtain ⟨kv40, d_kv40⟩ : ∃ z : Int32, z = fI S37 v0 9 := ⟨_, rfl⟩
          have ph0_S37 : kv40 = 5 → 0 < kv34 := by rw [d_kv40, d_kv34]; exact pg0_S37
          have ph1_S37 : kv40 = 5 ∨ ¬ kv33 = 5 := by rw [do35_kv33, d_kv40]; exact pg1_S37
          have mo41 : kv40 = 5 ∨ ¬ kv3 = 5 := ph1_S37.elim Or.inl (fun h => Or.inr (ph1_S30.resolve_left h))
          obtain ⟨kv42, d_kv42⟩ : ∃ z : Int32, z = fI S37 v0 8 := ⟨_, rfl⟩
          have r_kv42 : (0 : Int32) ≤ kv42 ∧ kv42 ≤ (900 : Int32) := by rw [d_kv42]; exact nu 25 rfl hI o_v0
          have ph2_S37 : kv1 ≤ kv42 ∧ (kv40 = 4 → kv1 < kv42 ∨ kv33 = 4) := by rw [do35_kv1, do35_kv33, d_kv42, d_kv40]; exact pg2_S37
          intro _
          exact hq _ _ hI g0 f0 ⟨hG, (by have t : kv40 = 5 → 0 < kv34 := (qr493 hiv4 hiv6 hO bb_x7 iw_x7 c11 bb_x12 iw_x12 c16 bb_x17 iw_x17 c21 bb_x22 iw_x22 c26 ph0_S30 mo41 ph3_S30 hiv35 ph0_S37 ph1_S37); rw [d_kv40, d_kv34] at t; exact t), (by have t : kv40 = 5 ∨ ¬ iv4 = 5 := (qr494 hiv4 bb_x7 iw_x7 c11 bb_x12 iw_x12 c16 bb_x17 iw_x17 c21 bb_x22 iw_x22 c26 mo41 ph3_S30 ph1_S37); rw [di_9, d_kv40] at t; exact t), (by have t : iv2 ≤ kv42 ∧ (kv40 = 4 → iv2 < kv42 ∨ iv4 = 4) := (qr495 r_kv1 hiv2 hiv4 bb_x7 iw_x7 c11 bb_x12 iw_x12 c16 bb_x17 iw_x17 c21 bb_x22 iw_x22 c26 hiv28 mo41 ph2_S30 ph3_S30 ph1_S37 r_kv42 ph2_S37); rw [di_8, di_9, d_kv42, d_kv40] at t; exact t)⟩
        · refine u_X11_readSide_53 ?_
          refine ⟨fun c43 => ?_, fun c43 => absurd (show (3 : Int32) = (-1 : Int32) from c43) (by decide)⟩
          refine u_X11_readSide_64 ?_
          refine ⟨o_v0, ?_⟩
          obtain ⟨iv44, hiv44⟩ : ∃ z : Int32, z = kv5 := ⟨_, rfl⟩
          have d_iv44 := hiv44.trans d_kv5
          have do44_kv1 := d_kv1
          have do44_kv3 := d_kv3
          have do44_iv44 := d_iv44
          refine m_X11_goesOn hI o_v0 hG (by have t : kv3 = 5 → 0 < kv5 := (qr50 hiv4 hiv6 hO bb_x7 iw_x7 c11 bb_x12 iw_x12 c16 bb_x17 iw_x17 c21 bb_x22 iw_x22 c26); rw [d_kv3, d_kv5] at t; exact t) (fun S46 hJ g47 fc48 p_S46 => ?_)
          obtain ⟨hG, pg0_S46, pg1_S46, pg2_S46⟩ := p_S46
          have hI := hJ
          have d_kv5 := d_kv5.trans (fri_at fc48 (by decide) (by decide) o_v0).symm
          have f0 := fri_tr (S := S) g0 f0 fc48 (by decide) (by decide)
          have o_v0 := gr_ob g47 o_v0
          have g0 := gr_tr (T := S) g0 g47
          obtain ⟨kv49, d_kv49⟩ : ∃ z : Int32, z = fI S46 v0 9 := ⟨_, rfl⟩
          have ph0_S46 : kv49 = 5 → 0 < kv5 := by rw [d_kv49, d_kv5]; exact pg0_S46
          have ph1_S46 : kv49 = 5 ∨ ¬ kv3 = 5 := by rw [do44_kv3, d_kv49]; exact pg1_S46
          obtain ⟨kv50, d_kv50⟩ : ∃ z : Int32, z = fI S46 v0 8 := ⟨_, rfl⟩
          have r_kv50 : (0 : Int32) ≤ kv50 ∧ kv50 ≤ (900 : Int32) := by rw [d_kv50]; exact nu 25 rfl hI o_v0
          have ph2_S46 : kv1 ≤ kv50 ∧ (kv49 = 4 → kv1 < kv50 ∨ kv3 = 4) := by rw [do44_kv1, do44_kv3, d_kv50, d_kv49]; exact pg2_S46
          intro _
          exact hq _ _ hI g0 f0 ⟨hG, (by have t : kv49 = 5 → 0 < kv5 := (qr496 hiv4 hiv6 hO bb_x7 iw_x7 c11 bb_x12 iw_x12 c16 bb_x17 iw_x17 c21 bb_x22 iw_x22 c26 hiv44 ph0_S46 ph1_S46); rw [d_kv49, d_kv5] at t; exact t), (by have t : kv49 = 5 ∨ ¬ iv4 = 5 := (qr497 hiv4 bb_x7 iw_x7 c11 bb_x12 iw_x12 c16 bb_x17 iw_x17 c21 bb_x22 iw_x22 c26 ph1_S46); rw [di_9, d_kv49] at t; exact t), (by have t : iv2 ≤ kv50 ∧ (kv49 = 4 → iv2 < kv50 ∨ iv4 = 4) := (qr498 r_kv1 hiv2 hiv4 bb_x7 iw_x7 c11 bb_x12 iw_x12 c16 bb_x17 iw_x17 c21 bb_x22 iw_x22 c26 ph1_S46 r_kv50 ph2_S46); rw [di_8, di_9, d_kv50, d_kv49] at t; exact t)⟩
      · refine u_X11_readSide_53 ?_
        refine ⟨fun c51 => ?_, fun c51 => absurd (show (2 : Int32) = (-1 : Int32) from c51) (by decide)⟩
        refine u_X11_readSide_64 ?_
        refine ⟨o_v0, ?_⟩
        obtain ⟨iv52, hiv52⟩ : ∃ z : Int32, z = kv5 := ⟨_, rfl⟩
        have d_iv52 := hiv52.trans d_kv5
        have do52_kv1 := d_kv1
        have do52_kv3 := d_kv3
        have do52_iv52 := d_iv52
        refine m_X11_goesOn hI o_v0 hG (by have t : kv3 = 5 → 0 < kv5 := (qr53 hiv4 hiv6 hO bb_x7 iw_x7 c11 bb_x12 iw_x12 c16 bb_x17 iw_x17 c21); rw [d_kv3, d_kv5] at t; exact t) (fun S54 hJ g55 fc56 p_S54 => ?_)
        obtain ⟨hG, pg0_S54, pg1_S54, pg2_S54⟩ := p_S54
        have hI := hJ
        have d_kv5 := d_kv5.trans (fri_at fc56 (by decide) (by decide) o_v0).symm
        have f0 := fri_tr (S := S) g0 f0 fc56 (by decide) (by decide)
        have o_v0 := gr_ob g55 o_v0
        have g0 := gr_tr (T := S) g0 g55
        obtain ⟨kv57, d_kv57⟩ : ∃ z : Int32, z = fI S54 v0 9 := ⟨_, rfl⟩
        have ph0_S54 : kv57 = 5 → 0 < kv5 := by rw [d_kv57, d_kv5]; exact pg0_S54
        have ph1_S54 : kv57 = 5 ∨ ¬ kv3 = 5 := by rw [do52_kv3, d_kv57]; exact pg1_S54
        obtain ⟨kv58, d_kv58⟩ : ∃ z : Int32, z = fI S54 v0 8 := ⟨_, rfl⟩
        have r_kv58 : (0 : Int32) ≤ kv58 ∧ kv58 ≤ (900 : Int32) := by rw [d_kv58]; exact nu 25 rfl hI o_v0
        have ph2_S54 : kv1 ≤ kv58 ∧ (kv57 = 4 → kv1 < kv58 ∨ kv3 = 4) := by rw [do52_kv1, do52_kv3, d_kv58, d_kv57]; exact pg2_S54
        intro _
        exact hq _ _ hI g0 f0 ⟨hG, (by have t : kv57 = 5 → 0 < kv5 := (qr499 hiv4 hiv6 hO bb_x7 iw_x7 c11 bb_x12 iw_x12 c16 bb_x17 iw_x17 c21 hiv52 ph0_S54 ph1_S54); rw [d_kv57, d_kv5] at t; exact t), (by have t : kv57 = 5 ∨ ¬ iv4 = 5 := (qr500 hiv4 bb_x7 iw_x7 c11 bb_x12 iw_x12 c16 bb_x17 iw_x17 c21 ph1_S54); rw [di_9, d_kv57] at t; exact t), (by have t : iv2 ≤ kv58 ∧ (kv57 = 4 → iv2 < kv58 ∨ iv4 = 4) := (qr501 r_kv1 hiv2 hiv4 bb_x7 iw_x7 c11 bb_x12 iw_x12 c16 bb_x17 iw_x17 c21 ph1_S54 r_kv58 ph2_S54); rw [di_8, di_9, d_kv58, d_kv57] at t; exact t)⟩
    · refine u_X11_readSide_53 ?_
      refine ⟨fun c59 => ?_, fun c59 => absurd (show (1 : Int32) = (-1 : Int32) from c59) (by decide)⟩
      refine u_X11_readSide_64 ?_
      refine ⟨o_v0, ?_⟩
      obtain ⟨iv60, hiv60⟩ : ∃ z : Int32, z = kv5 := ⟨_, rfl⟩
      have d_iv60 := hiv60.trans d_kv5
      have do60_kv1 := d_kv1
      have do60_kv3 := d_kv3
      have do60_iv60 := d_iv60
      refine m_X11_goesOn hI o_v0 hG (by have t : kv3 = 5 → 0 < kv5 := (qr56 hiv4 hiv6 hO bb_x7 iw_x7 c11 bb_x12 iw_x12 c16); rw [d_kv3, d_kv5] at t; exact t) (fun S62 hJ g63 fc64 p_S62 => ?_)
      obtain ⟨hG, pg0_S62, pg1_S62, pg2_S62⟩ := p_S62
      have hI := hJ
      have d_kv5 := d_kv5.trans (fri_at fc64 (by decide) (by decide) o_v0).symm
      have f0 := fri_tr (S := S) g0 f0 fc64 (by decide) (by decide)
      have o_v0 := gr_ob g63 o_v0
      have g0 := gr_tr (T := S) g0 g63
      obtain ⟨kv65, d_kv65⟩ : ∃ z : Int32, z = fI S62 v0 9 := ⟨_, rfl⟩
      have ph0_S62 : kv65 = 5 → 0 < kv5 := by rw [d_kv65, d_kv5]; exact pg0_S62
      have ph1_S62 : kv65 = 5 ∨ ¬ kv3 = 5 := by rw [do60_kv3, d_kv65]; exact pg1_S62
      obtain ⟨kv66, d_kv66⟩ : ∃ z : Int32, z = fI S62 v0 8 := ⟨_, rfl⟩
      have r_kv66 : (0 : Int32) ≤ kv66 ∧ kv66 ≤ (900 : Int32) := by rw [d_kv66]; exact nu 25 rfl hI o_v0
      have ph2_S62 : kv1 ≤ kv66 ∧ (kv65 = 4 → kv1 < kv66 ∨ kv3 = 4) := by rw [do60_kv1, do60_kv3, d_kv66, d_kv65]; exact pg2_S62
      intro _
      exact hq _ _ hI g0 f0 ⟨hG, (by have t : kv65 = 5 → 0 < kv5 := (qr502 hiv4 hiv6 hO bb_x7 iw_x7 c11 bb_x12 iw_x12 c16 hiv60 ph0_S62 ph1_S62); rw [d_kv65, d_kv5] at t; exact t), (by have t : kv65 = 5 ∨ ¬ iv4 = 5 := (qr503 hiv4 bb_x7 iw_x7 c11 bb_x12 iw_x12 c16 ph1_S62); rw [di_9, d_kv65] at t; exact t), (by have t : iv2 ≤ kv66 ∧ (kv65 = 4 → iv2 < kv66 ∨ iv4 = 4) := (qr504 r_kv1 hiv2 hiv4 bb_x7 iw_x7 c11 bb_x12 iw_x12 c16 ph1_S62 r_kv66 ph2_S62); rw [di_8, di_9, d_kv66, d_kv65] at t; exact t)⟩
  · refine u_X11_readSide_53 ?_
    refine ⟨fun c67 => ?_, fun c67 => absurd (show (0 : Int32) = (-1 : Int32) from c67) (by decide)⟩
    refine u_X11_readSide_64 ?_
    refine ⟨o_v0, ?_⟩
    obtain ⟨iv68, hiv68⟩ : ∃ z : Int32, z = kv5 := ⟨_, rfl⟩
    have d_iv68 := hiv68.trans d_kv5
    have do68_kv1 := d_kv1
    have do68_kv3 := d_kv3
    have do68_iv68 := d_iv68
    refine m_X11_goesOn hI o_v0 hG (by have t : kv3 = 5 → 0 < kv5 := (qr59 hiv4 hiv6 hO bb_x7 iw_x7 c11); rw [d_kv3, d_kv5] at t; exact t) (fun S70 hJ g71 fc72 p_S70 => ?_)
    obtain ⟨hG, pg0_S70, pg1_S70, pg2_S70⟩ := p_S70
    have hI := hJ
    have d_kv5 := d_kv5.trans (fri_at fc72 (by decide) (by decide) o_v0).symm
    have f0 := fri_tr (S := S) g0 f0 fc72 (by decide) (by decide)
    have o_v0 := gr_ob g71 o_v0
    have g0 := gr_tr (T := S) g0 g71
    obtain ⟨kv73, d_kv73⟩ : ∃ z : Int32, z = fI S70 v0 9 := ⟨_, rfl⟩
    have ph0_S70 : kv73 = 5 → 0 < kv5 := by rw [d_kv73, d_kv5]; exact pg0_S70
    have ph1_S70 : kv73 = 5 ∨ ¬ kv3 = 5 := by rw [do68_kv3, d_kv73]; exact pg1_S70
    obtain ⟨kv74, d_kv74⟩ : ∃ z : Int32, z = fI S70 v0 8 := ⟨_, rfl⟩
    have r_kv74 : (0 : Int32) ≤ kv74 ∧ kv74 ≤ (900 : Int32) := by rw [d_kv74]; exact nu 25 rfl hI o_v0
    have ph2_S70 : kv1 ≤ kv74 ∧ (kv73 = 4 → kv1 < kv74 ∨ kv3 = 4) := by rw [do68_kv1, do68_kv3, d_kv74, d_kv73]; exact pg2_S70
    intro _
    exact hq _ _ hI g0 f0 ⟨hG, (by have t : kv73 = 5 → 0 < kv5 := (qr505 hiv4 hiv6 hO bb_x7 iw_x7 c11 hiv68 ph0_S70 ph1_S70); rw [d_kv73, d_kv5] at t; exact t), (by have t : kv73 = 5 ∨ ¬ iv4 = 5 := (qr506 hiv4 bb_x7 iw_x7 c11 ph1_S70); rw [di_9, d_kv73] at t; exact t), (by have t : iv2 ≤ kv74 ∧ (kv73 = 4 → iv2 < kv74 ∨ iv4 = 4) := (qr507 r_kv1 hiv2 hiv4 bb_x7 iw_x7 c11 ph1_S70 r_kv74 ph2_S70); rw [di_8, di_9, d_kv74, d_kv73] at t; exact t)⟩
set_option maxHeartbeats 4000000 in
set_option maxRecDepth 20000 in
theorem m_X11_readRain {v0 : Nat} {Q : HS → Prop} {S : HS} (hI : IV S) (o_v0 : ob S v0 11)    (hG : RG S v0) (hn : RN S v0) (hO : fI S v0 9 = 5 → 0 < fI S v0 13) (hq : ∀ (T : HS), IV T → Gr S T → FRI [(10, 1), (11, 8), (11, 9), (11, 10), (11, 11), (11, 12), (11, 13), (11, 14)] [] S T → (RG T v0) ∧ (RN T v0) ∧ (fI T v0 9 = 5 → 0 < fI T v0 13) ∧ (fI T v0 9 = 5 ∨ ¬ fI S v0 9 = 5) ∧ (fI S v0 8 ≤ fI T v0 8 ∧ (fI T v0 9 = 4 → fI S v0 8 < fI T v0 8 ∨ fI S v0 9 = 4)) → Q T) : P_X11_readRain v0 Q S := by
  have g0 := gr_rf S
  have f0 := fri_rf [(10, 1), (11, 8), (11, 9), (11, 10), (11, 11), (11, 12), (11, 13), (11, 14)] [] S
  obtain ⟨kv1, d_kv1⟩ : ∃ z : Int32, z = fI S v0 8 := ⟨_, rfl⟩
  have r_kv1 : (0 : Int32) ≤ kv1 ∧ kv1 ≤ (900 : Int32) := by rw [d_kv1]; exact nu 25 rfl hI o_v0
  obtain ⟨iv2, hiv2⟩ : ∃ z : Int32, z = kv1 := ⟨_, rfl⟩
  have di_8 := hiv2.trans d_kv1
  obtain ⟨kv3, d_kv3⟩ : ∃ z : Int32, z = fI S v0 9 := ⟨_, rfl⟩
  obtain ⟨iv4, hiv4⟩ : ∃ z : Int32, z = kv3 := ⟨_, rfl⟩
  have di_9 := hiv4.trans d_kv3
  obtain ⟨kv5, d_kv5⟩ : ∃ z : Int32, z = fI S v0 13 := ⟨_, rfl⟩
  obtain ⟨iv6, hiv6⟩ : ∃ z : Int32, z = kv5 := ⟨_, rfl⟩
  have di_13 := hiv6.trans d_kv5
  have hO : iv4 = 5 → 0 < iv6 := by rw [di_9, di_13]; exact hO
  obtain ⟨a7, ea7, o_a7, -⟩ := id hG
  obtain ⟨kv8, d_kv8⟩ : ∃ z : Int32, z = fI S a7 6 := ⟨_, rfl⟩
  have r_kv8 : (0 : Int32) ≤ kv8 ∧ kv8 ≤ (12 : Int32) := by rw [d_kv8]; exact nu 22 rfl hI o_a7
  obtain ⟨kv9, d_kv9⟩ : ∃ z : Int32, z = fI S a7 2 := ⟨_, rfl⟩
  have r_kv9 : (0 : Int32) ≤ kv9 ∧ kv9 ≤ (8 : Int32) := by rw [d_kv9]; exact nu 18 rfl hI o_a7
  obtain ⟨kv10, d_kv10⟩ : ∃ z : Int32, z = fI S a7 4 := ⟨_, rfl⟩
  have r_kv10 : (0 : Int32) ≤ kv10 ∧ kv10 ≤ (4 : Int32) := by rw [d_kv10]; exact nu 20 rfl hI o_a7
  have hnf : kv8 = kv9 + kv10 := by rw [d_kv8, d_kv9, d_kv10]; exact hn _ ea7
  refine u_X11_readRain ?_
  refine u_X11_readRain_0 ?_
  refine ⟨o_v0, ?_⟩
  refine ⟨a7, ea7, ?_⟩
  refine ⟨o_a7, ?_⟩
  intro x12 ex12
  have r_x12 : (0 : Int32) ≤ x12 ∧ x12 ≤ (6 : Int32) := by rw [ex12]; exact nu 17 rfl hI o_a7
  have d_x12 := ex12
  have do12_kv1 := d_kv1
  have do12_kv3 := d_kv3
  have do12_kv5 := d_kv5
  refine m_X11_begins hI o_v0 hG (by have t : kv3 = 5 → 0 < kv5 := (qr1 hiv4 hiv6 hO); rw [d_kv3, d_kv5] at t; exact t) (fun S14 hJ g15 fc16 p_S14 => ?_)
  obtain ⟨hG, pg0_S14, pg1_S14, pg2_S14, pg3_S14⟩ := p_S14
  have hn := rn_fr fc16 g15 hI o_v0 (by decide) hn
  have hI := hJ
  have d_kv8 := d_kv8.trans (fri_at fc16 (by decide) (by decide) o_a7).symm
  have d_kv9 := d_kv9.trans (fri_at fc16 (by decide) (by decide) o_a7).symm
  have d_kv10 := d_kv10.trans (fri_at fc16 (by decide) (by decide) o_a7).symm
  have d_x12 := d_x12.trans (fri_at fc16 (by decide) (by decide) o_a7).symm
  have ea7 := (frr_at fc16 (by decide) (by decide) o_v0).trans ea7
  have f0 := fri_tr (S := S) g0 f0 fc16 (by decide) (by decide)
  have o_a7 := gr_ob g15 o_a7
  have o_v0 := gr_ob g15 o_v0
  have g0 := gr_tr (T := S) g0 g15
  obtain ⟨kv17, d_kv17⟩ : ∃ z : Int32, z = fI S14 v0 9 := ⟨_, rfl⟩
  obtain ⟨kv18, d_kv18⟩ : ∃ z : Int32, z = fI S14 v0 13 := ⟨_, rfl⟩
  have ph0_S14 : kv17 = 5 → 0 < kv18 := by rw [d_kv17, d_kv18]; exact pg0_S14
  have ph1_S14 : kv17 = 5 ∨ ¬ kv3 = 5 := by rw [do12_kv3, d_kv17]; exact pg1_S14
  obtain ⟨kv19, d_kv19⟩ : ∃ z : Int32, z = fI S14 v0 8 := ⟨_, rfl⟩
  have r_kv19 : (0 : Int32) ≤ kv19 ∧ kv19 ≤ (900 : Int32) := by rw [d_kv19]; exact nu 25 rfl hI o_v0
  have ph2_S14 : kv1 ≤ kv19 ∧ (kv17 = 4 → kv1 < kv19 ∨ kv3 = 4) := by rw [do12_kv1, do12_kv3, d_kv19, d_kv17]; exact pg2_S14
  have ph3_S14 : kv17 = 5 ∨ ¬ x12 = (6 : Int32) := by rw [d_kv17]; exact pg3_S14
  intro _
  have do19_kv19 := d_kv19
  have do19_kv17 := d_kv17
  have do19_kv18 := d_kv18
  refine m_X11_readPart hI o_v0 (by decide) hG (by have t : kv17 = 5 → 0 < kv18 := (qr508 hiv4 hiv6 hO r_x12 ph0_S14 ph1_S14 ph3_S14); rw [d_kv17, d_kv18] at t; exact t) (fun x20 S21 hJ g22 fc23 p_x20 => ?_)
  obtain ⟨hG, p_x20, pg0_S21, pg1_S21, pg2_S21⟩ := p_x20
  have hn := rn_fr fc23 g22 hI o_v0 (by decide) hn
  have hI := hJ
  have d_kv8 := d_kv8.trans (fri_at fc23 (by decide) (by decide) o_a7).symm
  have d_kv9 := d_kv9.trans (fri_at fc23 (by decide) (by decide) o_a7).symm
  have d_kv10 := d_kv10.trans (fri_at fc23 (by decide) (by decide) o_a7).symm
  have d_x12 := d_x12.trans (fri_at fc23 (by decide) (by decide) o_a7).symm
  have ea7 := (frr_at fc23 (by decide) (by decide) o_v0).trans ea7
  have f0 := fri_tr (S := S14) g0 f0 fc23 (by decide) (by decide)
  have o_a7 := gr_ob g22 o_a7
  have o_v0 := gr_ob g22 o_v0
  have g0 := gr_tr (T := S14) g0 g22
  obtain ⟨kv24, d_kv24⟩ : ∃ z : Int32, z = fI S21 v0 9 := ⟨_, rfl⟩
  obtain ⟨kv25, d_kv25⟩ : ∃ z : Int32, z = fI S21 v0 13 := ⟨_, rfl⟩
  have ph0_S21 : kv24 = 5 → 0 < kv25 := by rw [d_kv24, d_kv25]; exact pg0_S21
  have ph1_S21 : kv24 = 5 ∨ ¬ kv17 = 5 := by rw [do19_kv17, d_kv24]; exact pg1_S21
  have mo26 : kv24 = 5 ∨ ¬ kv3 = 5 := ph1_S21.elim Or.inl (fun h => Or.inr (ph1_S14.resolve_left h))
  have mo27 : kv24 = 5 ∨ ¬ x12 = (6 : Int32) := ph1_S21.elim Or.inl (fun h => Or.inr (ph3_S14.resolve_left h))
  obtain ⟨kv28, d_kv28⟩ : ∃ z : Int32, z = fI S21 v0 8 := ⟨_, rfl⟩
  have r_kv28 : (0 : Int32) ≤ kv28 ∧ kv28 ≤ (900 : Int32) := by rw [d_kv28]; exact nu 25 rfl hI o_v0
  have ph2_S21 : kv19 ≤ kv28 ∧ (kv24 = 4 → kv19 < kv28 ∨ kv17 = 4) := by rw [do19_kv19, do19_kv17, d_kv28, d_kv24]; exact pg2_S21
  intro _
  have do28_kv28 := d_kv28
  have do28_kv24 := d_kv24
  have do28_kv25 := d_kv25
  refine m_X11_readPart hI o_v0 (by decide) hG (by have t : kv24 = 5 → 0 < kv25 := (qr509 hiv4 hiv6 hO r_x12 ph0_S14 mo26 mo27 ph0_S21 ph1_S21); rw [d_kv24, d_kv25] at t; exact t) (fun x29 S30 hJ g31 fc32 p_x29 => ?_)
  obtain ⟨hG, p_x29, pg0_S30, pg1_S30, pg2_S30⟩ := p_x29
  have hn := rn_fr fc32 g31 hI o_v0 (by decide) hn
  have hI := hJ
  have d_kv8 := d_kv8.trans (fri_at fc32 (by decide) (by decide) o_a7).symm
  have d_kv9 := d_kv9.trans (fri_at fc32 (by decide) (by decide) o_a7).symm
  have d_kv10 := d_kv10.trans (fri_at fc32 (by decide) (by decide) o_a7).symm
  have d_x12 := d_x12.trans (fri_at fc32 (by decide) (by decide) o_a7).symm
  have ea7 := (frr_at fc32 (by decide) (by decide) o_v0).trans ea7
  have f0 := fri_tr (S := S21) g0 f0 fc32 (by decide) (by decide)
  have o_a7 := gr_ob g31 o_a7
  have o_v0 := gr_ob g31 o_v0
  have g0 := gr_tr (T := S21) g0 g31
  obtain ⟨kv33, d_kv33⟩ : ∃ z : Int32, z = fI S30 v0 9 := ⟨_, rfl⟩
  obtain ⟨kv34, d_kv34⟩ : ∃ z : Int32, z = fI S30 v0 13 := ⟨_, rfl⟩
  have ph0_S30 : kv33 = 5 → 0 < kv34 := by rw [d_kv33, d_kv34]; exact pg0_S30
  have ph1_S30 : kv33 = 5 ∨ ¬ kv24 = 5 := by rw [do28_kv24, d_kv33]; exact pg1_S30
  have mo35 : kv33 = 5 ∨ ¬ kv3 = 5 := ph1_S30.elim Or.inl (fun h => Or.inr (mo26.resolve_left h))
  have mo36 : kv33 = 5 ∨ ¬ x12 = (6 : Int32) := ph1_S30.elim Or.inl (fun h => Or.inr (mo27.resolve_left h))
  have mo37 : kv33 = 5 ∨ ¬ kv17 = 5 := ph1_S30.elim Or.inl (fun h => Or.inr (ph1_S21.resolve_left h))
  obtain ⟨kv38, d_kv38⟩ : ∃ z : Int32, z = fI S30 v0 8 := ⟨_, rfl⟩
  have r_kv38 : (0 : Int32) ≤ kv38 ∧ kv38 ≤ (900 : Int32) := by rw [d_kv38]; exact nu 25 rfl hI o_v0
  have ph2_S30 : kv28 ≤ kv38 ∧ (kv33 = 4 → kv28 < kv38 ∨ kv24 = 4) := by rw [do28_kv28, do28_kv24, d_kv38, d_kv33]; exact pg2_S30
  intro _
  have do38_kv38 := d_kv38
  have do38_kv33 := d_kv33
  have do38_kv34 := d_kv34
  refine m_X11_needs hI o_v0 (by decide) hG (by have t : kv33 = 5 → 0 < kv34 := (qr510 hiv4 hiv6 hO r_x12 ph0_S14 mo35 mo36 ph0_S21 mo37 ph0_S30 ph1_S30); rw [d_kv33, d_kv34] at t; exact t) (fun S40 hJ g41 fc42 p_S40 => ?_)
  obtain ⟨hG, pg0_S40, pg1_S40, pg2_S40⟩ := p_S40
  have hn := rn_fr fc42 g41 hI o_v0 (by decide) hn
  have hI := hJ
  have d_kv8 := d_kv8.trans (fri_at fc42 (by decide) (by decide) o_a7).symm
  have d_kv9 := d_kv9.trans (fri_at fc42 (by decide) (by decide) o_a7).symm
  have d_kv10 := d_kv10.trans (fri_at fc42 (by decide) (by decide) o_a7).symm
  have d_x12 := d_x12.trans (fri_at fc42 (by decide) (by decide) o_a7).symm
  have ea7 := (frr_at fc42 (by decide) (by decide) o_v0).trans ea7
  have f0 := fri_tr (S := S30) g0 f0 fc42 (by decide) (by decide)
  have o_a7 := gr_ob g41 o_a7
  have o_v0 := gr_ob g41 o_v0
  have g0 := gr_tr (T := S30) g0 g41
  obtain ⟨kv43, d_kv43⟩ : ∃ z : Int32, z = fI S40 v0 9 := ⟨_, rfl⟩
  obtain ⟨kv44, d_kv44⟩ : ∃ z : Int32, z = fI S40 v0 13 := ⟨_, rfl⟩
  have ph0_S40 : kv43 = 5 → 0 < kv44 := by rw [d_kv43, d_kv44]; exact pg0_S40
  have ph1_S40 : kv43 = 5 ∨ ¬ kv33 = 5 := by rw [do38_kv33, d_kv43]; exact pg1_S40
  have mo45 : kv43 = 5 ∨ ¬ kv3 = 5 := ph1_S40.elim Or.inl (fun h => Or.inr (mo35.resolve_left h))
  have mo46 : kv43 = 5 ∨ ¬ x12 = (6 : Int32) := ph1_S40.elim Or.inl (fun h => Or.inr (mo36.resolve_left h))
  have mo47 : kv43 = 5 ∨ ¬ kv17 = 5 := ph1_S40.elim Or.inl (fun h => Or.inr (mo37.resolve_left h))
  have mo48 : kv43 = 5 ∨ ¬ kv24 = 5 := ph1_S40.elim Or.inl (fun h => Or.inr (ph1_S30.resolve_left h))
  obtain ⟨kv49, d_kv49⟩ : ∃ z : Int32, z = fI S40 v0 8 := ⟨_, rfl⟩
  have r_kv49 : (0 : Int32) ≤ kv49 ∧ kv49 ≤ (900 : Int32) := by rw [d_kv49]; exact nu 25 rfl hI o_v0
  have ph2_S40 : kv38 ≤ kv49 ∧ (kv43 = 4 → kv38 < kv49 ∨ kv33 = 4) := by rw [do38_kv38, do38_kv33, d_kv49, d_kv43]; exact pg2_S40
  intro _
  have do49_kv49 := d_kv49
  have do49_kv43 := d_kv43
  have do49_kv44 := d_kv44
  refine m_X11_readSide hI o_v0 hG (by have t : kv43 = 5 → 0 < kv44 := (qr511 hiv4 hiv6 hO r_x12 ph0_S14 mo45 mo46 ph0_S21 mo47 ph0_S30 mo48 ph0_S40 ph1_S40); rw [d_kv43, d_kv44] at t; exact t) (fun x50 S51 hJ g52 fc53 p_x50 => ?_)
  obtain ⟨hG, pg0_S51, pg1_S51, pg2_S51⟩ := p_x50
  have hn := rn_fr fc53 g52 hI o_v0 (by decide) hn
  have hI := hJ
  have d_kv8 := d_kv8.trans (fri_at fc53 (by decide) (by decide) o_a7).symm
  have d_kv9 := d_kv9.trans (fri_at fc53 (by decide) (by decide) o_a7).symm
  have d_kv10 := d_kv10.trans (fri_at fc53 (by decide) (by decide) o_a7).symm
  have d_x12 := d_x12.trans (fri_at fc53 (by decide) (by decide) o_a7).symm
  have ea7 := (frr_at fc53 (by decide) (by decide) o_v0).trans ea7
  have f0 := fri_tr (S := S40) g0 f0 fc53 (by decide) (by decide)
  have o_a7 := gr_ob g52 o_a7
  have o_v0 := gr_ob g52 o_v0
  have g0 := gr_tr (T := S40) g0 g52
  obtain ⟨kv54, d_kv54⟩ : ∃ z : Int32, z = fI S51 v0 9 := ⟨_, rfl⟩
  obtain ⟨kv55, d_kv55⟩ : ∃ z : Int32, z = fI S51 v0 13 := ⟨_, rfl⟩
  have ph0_S51 : kv54 = 5 → 0 < kv55 := by rw [d_kv54, d_kv55]; exact pg0_S51
  have ph1_S51 : kv54 = 5 ∨ ¬ kv43 = 5 := by rw [do49_kv43, d_kv54]; exact pg1_S51
  have mo56 : kv54 = 5 ∨ ¬ kv3 = 5 := ph1_S51.elim Or.inl (fun h => Or.inr (mo45.resolve_left h))
  have mo57 : kv54 = 5 ∨ ¬ x12 = (6 : Int32) := ph1_S51.elim Or.inl (fun h => Or.inr (mo46.resolve_left h))
  have mo58 : kv54 = 5 ∨ ¬ kv17 = 5 := ph1_S51.elim Or.inl (fun h => Or.inr (mo47.resolve_left h))
  have mo59 : kv54 = 5 ∨ ¬ kv24 = 5 := ph1_S51.elim Or.inl (fun h => Or.inr (mo48.resolve_left h))
  have mo60 : kv54 = 5 ∨ ¬ kv33 = 5 := ph1_S51.elim Or.inl (fun h => Or.inr (ph1_S40.resolve_left h))
  obtain ⟨kv61, d_kv61⟩ : ∃ z : Int32, z = fI S51 v0 8 := ⟨_, rfl⟩
  have r_kv61 : (0 : Int32) ≤ kv61 ∧ kv61 ≤ (900 : Int32) := by rw [d_kv61]; exact nu 25 rfl hI o_v0
  have ph2_S51 : kv49 ≤ kv61 ∧ (kv54 = 4 → kv49 < kv61 ∨ kv43 = 4) := by rw [do49_kv49, do49_kv43, d_kv61, d_kv54]; exact pg2_S51
  intro _
  have do61_kv61 := d_kv61
  have do61_kv54 := d_kv54
  have do61_kv55 := d_kv55
  refine m_X11_readWhole hI o_v0 hG (by have t : kv54 = 5 → 0 < kv55 := (qr512 hiv4 hiv6 hO r_x12 ph0_S14 mo56 mo57 ph0_S21 mo58 ph0_S30 mo59 ph0_S40 mo60 ph0_S51 ph1_S51); rw [d_kv54, d_kv55] at t; exact t) (fun x62 S63 hJ g64 fc65 p_x62 => ?_)
  obtain ⟨hG, p_x62, pg0_S63, pg1_S63, pg2_S63⟩ := p_x62
  have hn := rn_fr fc65 g64 hI o_v0 (by decide) hn
  have hI := hJ
  have d_kv8 := d_kv8.trans (fri_at fc65 (by decide) (by decide) o_a7).symm
  have d_kv9 := d_kv9.trans (fri_at fc65 (by decide) (by decide) o_a7).symm
  have d_kv10 := d_kv10.trans (fri_at fc65 (by decide) (by decide) o_a7).symm
  have d_x12 := d_x12.trans (fri_at fc65 (by decide) (by decide) o_a7).symm
  have ea7 := (frr_at fc65 (by decide) (by decide) o_v0).trans ea7
  have f0 := fri_tr (S := S51) g0 f0 fc65 (by decide) (by decide)
  have o_a7 := gr_ob g64 o_a7
  have o_v0 := gr_ob g64 o_v0
  have g0 := gr_tr (T := S51) g0 g64
  obtain ⟨kv66, d_kv66⟩ : ∃ z : Int32, z = fI S63 v0 9 := ⟨_, rfl⟩
  obtain ⟨kv67, d_kv67⟩ : ∃ z : Int32, z = fI S63 v0 13 := ⟨_, rfl⟩
  have ph0_S63 : kv66 = 5 → 0 < kv67 := by rw [d_kv66, d_kv67]; exact pg0_S63
  have ph1_S63 : kv66 = 5 ∨ ¬ kv54 = 5 := by rw [do61_kv54, d_kv66]; exact pg1_S63
  have mo68 : kv66 = 5 ∨ ¬ kv3 = 5 := ph1_S63.elim Or.inl (fun h => Or.inr (mo56.resolve_left h))
  have mo69 : kv66 = 5 ∨ ¬ x12 = (6 : Int32) := ph1_S63.elim Or.inl (fun h => Or.inr (mo57.resolve_left h))
  have mo70 : kv66 = 5 ∨ ¬ kv17 = 5 := ph1_S63.elim Or.inl (fun h => Or.inr (mo58.resolve_left h))
  have mo71 : kv66 = 5 ∨ ¬ kv24 = 5 := ph1_S63.elim Or.inl (fun h => Or.inr (mo59.resolve_left h))
  have mo72 : kv66 = 5 ∨ ¬ kv33 = 5 := ph1_S63.elim Or.inl (fun h => Or.inr (mo60.resolve_left h))
  have mo73 : kv66 = 5 ∨ ¬ kv43 = 5 := ph1_S63.elim Or.inl (fun h => Or.inr (ph1_S51.resolve_left h))
  obtain ⟨kv74, d_kv74⟩ : ∃ z : Int32, z = fI S63 v0 8 := ⟨_, rfl⟩
  have r_kv74 : (0 : Int32) ≤ kv74 ∧ kv74 ≤ (900 : Int32) := by rw [d_kv74]; exact nu 25 rfl hI o_v0
  have ph2_S63 : kv61 ≤ kv74 ∧ (kv66 = 4 → kv61 < kv74 ∨ kv54 = 4) := by rw [do61_kv61, do61_kv54, d_kv74, d_kv66]; exact pg2_S63
  intro _
  have do74_kv74 := d_kv74
  have do74_kv66 := d_kv66
  have do74_kv67 := d_kv67
  refine m_X11_readPart hI o_v0 (by decide) hG (by have t : kv66 = 5 → 0 < kv67 := (qr513 hiv4 hiv6 hO r_x12 ph0_S14 mo68 mo69 ph0_S21 mo70 ph0_S30 mo71 ph0_S40 mo72 ph0_S51 mo73 ph0_S63 ph1_S63); rw [d_kv66, d_kv67] at t; exact t) (fun x75 S76 hJ g77 fc78 p_x75 => ?_)
  obtain ⟨hG, p_x75, pg0_S76, pg1_S76, pg2_S76⟩ := p_x75
  have hn := rn_fr fc78 g77 hI o_v0 (by decide) hn
  have hI := hJ
  have d_kv8 := d_kv8.trans (fri_at fc78 (by decide) (by decide) o_a7).symm
  have d_kv9 := d_kv9.trans (fri_at fc78 (by decide) (by decide) o_a7).symm
  have d_kv10 := d_kv10.trans (fri_at fc78 (by decide) (by decide) o_a7).symm
  have d_x12 := d_x12.trans (fri_at fc78 (by decide) (by decide) o_a7).symm
  have ea7 := (frr_at fc78 (by decide) (by decide) o_v0).trans ea7
  have f0 := fri_tr (S := S63) g0 f0 fc78 (by decide) (by decide)
  have o_a7 := gr_ob g77 o_a7
  have o_v0 := gr_ob g77 o_v0
  have g0 := gr_tr (T := S63) g0 g77
  obtain ⟨kv79, d_kv79⟩ : ∃ z : Int32, z = fI S76 v0 9 := ⟨_, rfl⟩
  obtain ⟨kv80, d_kv80⟩ : ∃ z : Int32, z = fI S76 v0 13 := ⟨_, rfl⟩
  have ph0_S76 : kv79 = 5 → 0 < kv80 := by rw [d_kv79, d_kv80]; exact pg0_S76
  have ph1_S76 : kv79 = 5 ∨ ¬ kv66 = 5 := by rw [do74_kv66, d_kv79]; exact pg1_S76
  have mo81 : kv79 = 5 ∨ ¬ kv3 = 5 := ph1_S76.elim Or.inl (fun h => Or.inr (mo68.resolve_left h))
  have mo82 : kv79 = 5 ∨ ¬ x12 = (6 : Int32) := ph1_S76.elim Or.inl (fun h => Or.inr (mo69.resolve_left h))
  have mo83 : kv79 = 5 ∨ ¬ kv17 = 5 := ph1_S76.elim Or.inl (fun h => Or.inr (mo70.resolve_left h))
  have mo84 : kv79 = 5 ∨ ¬ kv24 = 5 := ph1_S76.elim Or.inl (fun h => Or.inr (mo71.resolve_left h))
  have mo85 : kv79 = 5 ∨ ¬ kv33 = 5 := ph1_S76.elim Or.inl (fun h => Or.inr (mo72.resolve_left h))
  have mo86 : kv79 = 5 ∨ ¬ kv43 = 5 := ph1_S76.elim Or.inl (fun h => Or.inr (mo73.resolve_left h))
  have mo87 : kv79 = 5 ∨ ¬ kv54 = 5 := ph1_S76.elim Or.inl (fun h => Or.inr (ph1_S63.resolve_left h))
  obtain ⟨kv88, d_kv88⟩ : ∃ z : Int32, z = fI S76 v0 8 := ⟨_, rfl⟩
  have r_kv88 : (0 : Int32) ≤ kv88 ∧ kv88 ≤ (900 : Int32) := by rw [d_kv88]; exact nu 25 rfl hI o_v0
  have ph2_S76 : kv74 ≤ kv88 ∧ (kv79 = 4 → kv74 < kv88 ∨ kv66 = 4) := by rw [do74_kv74, do74_kv66, d_kv88, d_kv79]; exact pg2_S76
  intro _
  intro x89 ex89
  have q_x89 : x89 = kv79 := ex89.trans d_kv79.symm
  have mo90 : x89 = 5 ∨ ¬ kv3 = 5 := mo81.imp_left (fun z => q_x89.trans z)
  have mo91 : x89 = 5 ∨ ¬ x12 = (6 : Int32) := mo82.imp_left (fun z => q_x89.trans z)
  have mo92 : x89 = 5 ∨ ¬ kv17 = 5 := mo83.imp_left (fun z => q_x89.trans z)
  have mo93 : x89 = 5 ∨ ¬ kv24 = 5 := mo84.imp_left (fun z => q_x89.trans z)
  have mo94 : x89 = 5 ∨ ¬ kv33 = 5 := mo85.imp_left (fun z => q_x89.trans z)
  have mo95 : x89 = 5 ∨ ¬ kv43 = 5 := mo86.imp_left (fun z => q_x89.trans z)
  have mo96 : x89 = 5 ∨ ¬ kv54 = 5 := mo87.imp_left (fun z => q_x89.trans z)
  have mo97 : x89 = 5 ∨ ¬ kv66 = 5 := ph1_S76.imp_left (fun z => q_x89.trans z)
  have d_x89 := ex89
  refine ⟨fun c98 => ?_, fun c98 => ?_⟩
  · refine ⟨a7, ea7, ?_⟩
    refine ⟨o_a7, ?_⟩
    obtain ⟨a100, ea100, o_a100, l_a100⟩ := shl 29 rfl hI o_a7
    refine ⟨a100, ea100, ?_⟩
    refine ⟨a7, ea7, ?_⟩
    refine ⟨o_a7, ?_⟩
    intro x102 ex102
    have r_x102 : (0 : Int32) ≤ x102 ∧ x102 ≤ (6 : Int32) := by rw [ex102]; exact nu 17 rfl hI o_a7
    have q_x102 : x102 = x12 := ex102.trans d_x12.symm
    have d_x102 := ex102
    refine ⟨o_a100, ?_⟩
    have i103 : vp_in x102 (hN _ a100) := (vin l_a100 (m := 6) (by decide) (qr514 hiv4 r_x12 mo90 mo91 mo92 mo93 mo94 mo95 mo96 mo97 q_x89 c98 r_x102 q_x102))
    refine ⟨i103, ?_⟩
    intro S104 eS104
    have hIn : IV S104 := by rw [eS104]; exact iv10_aI hI o_a7 (rg_nw hG ea7) ea100 o_a100 (by decide)
    have hG := rg_a (jj := 7) (x := x102) eS104 hI ea7 o_a7 ea100 o_a100 (by decide) (h1_no (by decide)) (h2_no (y := 0) (by decide)) hG
    have hn := rn_11 eS104 hI o_v0 o_a100 (by decide) hn
    have hI := hIn
    have f0 := fr_A eS104 g0 f0 o_a100 (by decide)
    have d_kv8 := rd_Ik eS104 o_a100 o_a7 (by decide) d_kv8
    have d_kv9 := rd_Ik eS104 o_a100 o_a7 (by decide) d_kv9
    have d_kv10 := rd_Ik eS104 o_a100 o_a7 (by decide) d_kv10
    have d_x102 := rd_Ik eS104 o_a100 o_a7 (by decide) d_x102
    have d_x89 := rd_Ik eS104 o_a100 o_v0 (by decide) d_x89
    have d_kv80 := rd_Ik eS104 o_a100 o_v0 (by decide) d_kv80
    have d_kv88 := rd_Ik eS104 o_a100 o_v0 (by decide) d_kv88
    have ea7 := rf_I eS104 ea7
    have ea100 := rf_I eS104 ea100
    have l_a100 := ln_I eS104 l_a100
    have g0 := gr_I eS104 g0
    have o_a100 := ob_I eS104 o_a100
    have o_a7 := ob_I eS104 o_a7
    have o_v0 := ob_I eS104 o_v0
    refine ⟨a7, ea7, ?_⟩
    refine ⟨o_a7, ?_⟩
    obtain ⟨a106, ea106, o_a106, l_a106⟩ := shl 30 rfl hI o_a7
    refine ⟨a106, ea106, ?_⟩
    refine ⟨a7, ea7, ?_⟩
    refine ⟨o_a7, ?_⟩
    intro x108 ex108
    have r_x108 : (0 : Int32) ≤ x108 ∧ x108 ≤ (6 : Int32) := by rw [ex108]; exact nu 17 rfl hI o_a7
    have q_x108 : x108 = x102 := ex108.trans d_x102.symm
    have d_x108 := ex108
    refine ⟨o_a106, ?_⟩
    have i109 : vp_in x108 (hN _ a106) := (vin l_a106 (m := 6) (by decide) (qr515 hiv4 r_x12 mo90 mo91 mo92 mo93 mo94 mo95 mo96 mo97 q_x89 c98 r_x102 q_x102 r_x108 q_x108))
    refine ⟨i109, ?_⟩
    intro S110 eS110
    have hIn : IV S110 := by rw [eS110]; exact iv10_aI hI o_a7 (rg_nw hG ea7) ea106 o_a106 (by decide)
    have hG := rg_a (jj := 8) (x := x108) eS110 hI ea7 o_a7 ea106 o_a106 (by decide) (h1_no (by decide)) (h2_no (y := 0) (by decide)) hG
    have hn := rn_11 eS110 hI o_v0 o_a106 (by decide) hn
    have hI := hIn
    have f0 := fr_A eS110 g0 f0 o_a106 (by decide)
    have d_kv8 := rd_Ik eS110 o_a106 o_a7 (by decide) d_kv8
    have d_kv9 := rd_Ik eS110 o_a106 o_a7 (by decide) d_kv9
    have d_kv10 := rd_Ik eS110 o_a106 o_a7 (by decide) d_kv10
    have d_x108 := rd_Ik eS110 o_a106 o_a7 (by decide) d_x108
    have d_x89 := rd_Ik eS110 o_a106 o_v0 (by decide) d_x89
    have d_kv80 := rd_Ik eS110 o_a106 o_v0 (by decide) d_kv80
    have d_kv88 := rd_Ik eS110 o_a106 o_v0 (by decide) d_kv88
    have ea7 := rf_I eS110 ea7
    have ea100 := rf_I eS110 ea100
    have ea106 := rf_I eS110 ea106
    have l_a100 := ln_I eS110 l_a100
    have l_a106 := ln_I eS110 l_a106
    have g0 := gr_I eS110 g0
    have o_a100 := ob_I eS110 o_a100
    have o_a106 := ob_I eS110 o_a106
    have o_a7 := ob_I eS110 o_a7
    have o_v0 := ob_I eS110 o_v0
    refine ⟨a7, ea7, ?_⟩
    refine ⟨o_a7, ?_⟩
    obtain ⟨a112, ea112, o_a112, l_a112⟩ := shl 31 rfl hI o_a7
    refine ⟨a112, ea112, ?_⟩
    refine ⟨a7, ea7, ?_⟩
    refine ⟨o_a7, ?_⟩
    intro x114 ex114
    have r_x114 : (0 : Int32) ≤ x114 ∧ x114 ≤ (6 : Int32) := by rw [ex114]; exact nu 17 rfl hI o_a7
    have q_x114 : x114 = x108 := ex114.trans d_x108.symm
    have d_x114 := ex114
    refine ⟨o_a112, ?_⟩
    have i115 : vp_in x114 (hN _ a112) := (vin l_a112 (m := 6) (by decide) (qr516 hiv4 r_x12 mo90 mo91 mo92 mo93 mo94 mo95 mo96 mo97 q_x89 c98 r_x102 q_x102 r_x108 q_x108 r_x114 q_x114))
    refine ⟨i115, ?_⟩
    intro S116 eS116
    have hIn : IV S116 := by rw [eS116]; exact iv10_aI hI o_a7 (rg_nw hG ea7) ea112 o_a112 (by decide)
    have hG := rg_a (jj := 9) (x := x114) eS116 hI ea7 o_a7 ea112 o_a112 (by decide) (h1_no (by decide)) (h2_no (y := 0) (by decide)) hG
    have hn := rn_11 eS116 hI o_v0 o_a112 (by decide) hn
    have hI := hIn
    have f0 := fr_A eS116 g0 f0 o_a112 (by decide)
    have d_kv8 := rd_Ik eS116 o_a112 o_a7 (by decide) d_kv8
    have d_kv9 := rd_Ik eS116 o_a112 o_a7 (by decide) d_kv9
    have d_kv10 := rd_Ik eS116 o_a112 o_a7 (by decide) d_kv10
    have d_x114 := rd_Ik eS116 o_a112 o_a7 (by decide) d_x114
    have d_x89 := rd_Ik eS116 o_a112 o_v0 (by decide) d_x89
    have d_kv80 := rd_Ik eS116 o_a112 o_v0 (by decide) d_kv80
    have d_kv88 := rd_Ik eS116 o_a112 o_v0 (by decide) d_kv88
    have ea7 := rf_I eS116 ea7
    have ea100 := rf_I eS116 ea100
    have ea106 := rf_I eS116 ea106
    have ea112 := rf_I eS116 ea112
    have l_a100 := ln_I eS116 l_a100
    have l_a106 := ln_I eS116 l_a106
    have l_a112 := ln_I eS116 l_a112
    have g0 := gr_I eS116 g0
    have o_a100 := ob_I eS116 o_a100
    have o_a106 := ob_I eS116 o_a106
    have o_a112 := ob_I eS116 o_a112
    have o_a7 := ob_I eS116 o_a7
    have o_v0 := ob_I eS116 o_v0
    refine ⟨a7, ea7, ?_⟩
    refine ⟨o_a7, ?_⟩
    obtain ⟨a118, ea118, o_a118, l_a118⟩ := shl 32 rfl hI o_a7
    refine ⟨a118, ea118, ?_⟩
    refine ⟨a7, ea7, ?_⟩
    refine ⟨o_a7, ?_⟩
    intro x120 ex120
    have r_x120 : (0 : Int32) ≤ x120 ∧ x120 ≤ (6 : Int32) := by rw [ex120]; exact nu 17 rfl hI o_a7
    have q_x120 : x120 = x114 := ex120.trans d_x114.symm
    have d_x120 := ex120
    refine ⟨o_a118, ?_⟩
    have i121 : vp_in x120 (hN _ a118) := (vin l_a118 (m := 6) (by decide) (qr517 hiv4 r_x12 mo90 mo91 mo92 mo93 mo94 mo95 mo96 mo97 q_x89 c98 r_x102 q_x102 r_x108 q_x108 r_x114 q_x114 r_x120 q_x120))
    refine ⟨i121, ?_⟩
    intro S122 eS122
    have hIn : IV S122 := by rw [eS122]; exact iv10_aI hI o_a7 (rg_nw hG ea7) ea118 o_a118 (by decide)
    have hG := rg_a (jj := 10) (x := x120) eS122 hI ea7 o_a7 ea118 o_a118 (by decide) (h1_no (by decide)) (h2_no (y := 0) (by decide)) hG
    have hn := rn_11 eS122 hI o_v0 o_a118 (by decide) hn
    have hI := hIn
    have f0 := fr_A eS122 g0 f0 o_a118 (by decide)
    have d_kv8 := rd_Ik eS122 o_a118 o_a7 (by decide) d_kv8
    have d_kv9 := rd_Ik eS122 o_a118 o_a7 (by decide) d_kv9
    have d_kv10 := rd_Ik eS122 o_a118 o_a7 (by decide) d_kv10
    have d_x120 := rd_Ik eS122 o_a118 o_a7 (by decide) d_x120
    have d_x89 := rd_Ik eS122 o_a118 o_v0 (by decide) d_x89
    have d_kv80 := rd_Ik eS122 o_a118 o_v0 (by decide) d_kv80
    have d_kv88 := rd_Ik eS122 o_a118 o_v0 (by decide) d_kv88
    have ea7 := rf_I eS122 ea7
    have ea100 := rf_I eS122 ea100
    have ea106 := rf_I eS122 ea106
    have ea112 := rf_I eS122 ea112
    have ea118 := rf_I eS122 ea118
    have l_a100 := ln_I eS122 l_a100
    have l_a106 := ln_I eS122 l_a106
    have l_a112 := ln_I eS122 l_a112
    have l_a118 := ln_I eS122 l_a118
    have g0 := gr_I eS122 g0
    have o_a100 := ob_I eS122 o_a100
    have o_a106 := ob_I eS122 o_a106
    have o_a112 := ob_I eS122 o_a112
    have o_a118 := ob_I eS122 o_a118
    have o_a7 := ob_I eS122 o_a7
    have o_v0 := ob_I eS122 o_v0
    refine ⟨a7, ea7, ?_⟩
    refine ⟨o_a7, ?_⟩
    obtain ⟨a124, ea124, o_a124, l_a124⟩ := shl 33 rfl hI o_a7
    refine ⟨a124, ea124, ?_⟩
    refine ⟨a7, ea7, ?_⟩
    refine ⟨o_a7, ?_⟩
    intro x126 ex126
    have r_x126 : (0 : Int32) ≤ x126 ∧ x126 ≤ (6 : Int32) := by rw [ex126]; exact nu 17 rfl hI o_a7
    have q_x126 : x126 = x120 := ex126.trans d_x120.symm
    have d_x126 := ex126
    refine ⟨o_a124, ?_⟩
    have i127 : vp_in x126 (hN _ a124) := (vin l_a124 (m := 6) (by decide) (qr518 hiv4 r_x12 mo90 mo91 mo92 mo93 mo94 mo95 mo96 mo97 q_x89 c98 r_x102 q_x102 r_x108 q_x108 r_x114 q_x114 r_x120 q_x120 r_x126 q_x126))
    refine ⟨i127, ?_⟩
    intro S128 eS128
    have hIn : IV S128 := by rw [eS128]; exact iv10_aI hI o_a7 (rg_nw hG ea7) ea124 o_a124 (by decide)
    have hG := rg_a (jj := 11) (x := x126) eS128 hI ea7 o_a7 ea124 o_a124 (by decide) (h1_no (by decide)) (h2_no (y := 0) (by decide)) hG
    have hn := rn_11 eS128 hI o_v0 o_a124 (by decide) hn
    have hI := hIn
    have f0 := fr_A eS128 g0 f0 o_a124 (by decide)
    have d_kv8 := rd_Ik eS128 o_a124 o_a7 (by decide) d_kv8
    have d_kv9 := rd_Ik eS128 o_a124 o_a7 (by decide) d_kv9
    have d_kv10 := rd_Ik eS128 o_a124 o_a7 (by decide) d_kv10
    have d_x126 := rd_Ik eS128 o_a124 o_a7 (by decide) d_x126
    have d_x89 := rd_Ik eS128 o_a124 o_v0 (by decide) d_x89
    have d_kv80 := rd_Ik eS128 o_a124 o_v0 (by decide) d_kv80
    have d_kv88 := rd_Ik eS128 o_a124 o_v0 (by decide) d_kv88
    have ea7 := rf_I eS128 ea7
    have ea100 := rf_I eS128 ea100
    have ea106 := rf_I eS128 ea106
    have ea112 := rf_I eS128 ea112
    have ea118 := rf_I eS128 ea118
    have ea124 := rf_I eS128 ea124
    have l_a100 := ln_I eS128 l_a100
    have l_a106 := ln_I eS128 l_a106
    have l_a112 := ln_I eS128 l_a112
    have l_a118 := ln_I eS128 l_a118
    have l_a124 := ln_I eS128 l_a124
    have g0 := gr_I eS128 g0
    have o_a100 := ob_I eS128 o_a100
    have o_a106 := ob_I eS128 o_a106
    have o_a112 := ob_I eS128 o_a112
    have o_a118 := ob_I eS128 o_a118
    have o_a124 := ob_I eS128 o_a124
    have o_a7 := ob_I eS128 o_a7
    have o_v0 := ob_I eS128 o_v0
    refine ⟨a7, ea7, ?_⟩
    refine ⟨o_a7, ?_⟩
    intro x130 ex130
    have r_x130 : (0 : Int32) ≤ x130 ∧ x130 ≤ (6 : Int32) := by rw [ex130]; exact nu 17 rfl hI o_a7
    have q_x130 : x130 = x126 := ex130.trans d_x126.symm
    have d_x130 := ex130
    intro x131 ex131
    intro S132 eS132
    have hIn : IV S132 := by rw [eS132]; exact iv10_sI hI o_a7 (rg_nw hG ea7) (nu_one (lo := (0 : Int32)) (hi := (6 : Int32)) (by decide) (qr519 hiv4 r_x12 mo90 mo91 mo92 mo93 mo94 mo95 mo96 mo97 q_x89 c98 r_x102 q_x102 r_x108 q_x108 r_x114 q_x114 r_x120 q_x120 r_x126 q_x126 r_x130 q_x130 ex131))
    have hG := rg_c eS132 hI ea7 o_a7 (by decide) hG
    have hn := rn_c eS132 (by decide) hn
    have hI := hIn
    have f0 := fr_I eS132 g0 f0 o_a7 (by decide)
    have d_kv8 := rd_Ij eS132 (by decide) d_kv8
    have d_kv9 := rd_Ij eS132 (by decide) d_kv9
    have d_kv10 := rd_Ij eS132 (by decide) d_kv10
    have d_x89 := rd_Ik eS132 o_a7 o_v0 (by decide) d_x89
    have d_kv80 := rd_Ik eS132 o_a7 o_v0 (by decide) d_kv80
    have d_kv88 := rd_Ik eS132 o_a7 o_v0 (by decide) d_kv88
    have d_x131 := rd_Is eS132 (rfl : x131 = x131)
    have ea7 := rf_I eS132 ea7
    have ea100 := rf_I eS132 ea100
    have ea106 := rf_I eS132 ea106
    have ea112 := rf_I eS132 ea112
    have ea118 := rf_I eS132 ea118
    have ea124 := rf_I eS132 ea124
    have l_a100 := ln_I eS132 l_a100
    have l_a106 := ln_I eS132 l_a106
    have l_a112 := ln_I eS132 l_a112
    have l_a118 := ln_I eS132 l_a118
    have l_a124 := ln_I eS132 l_a124
    have g0 := gr_I eS132 g0
    have o_a100 := ob_I eS132 o_a100
    have o_a106 := ob_I eS132 o_a106
    have o_a112 := ob_I eS132 o_a112
    have o_a118 := ob_I eS132 o_a118
    have o_a124 := ob_I eS132 o_a124
    have o_a7 := ob_I eS132 o_a7
    have o_v0 := ob_I eS132 o_v0
    exact hq _ hI g0 f0 ⟨hG, hn, (by have t : x89 = 5 → 0 < kv80 := (qr520 hiv4 hiv6 hO r_x12 ph0_S14 mo90 mo91 ph0_S21 mo92 ph0_S30 mo93 ph0_S40 mo94 ph0_S51 mo95 ph0_S63 mo96 ph0_S76 mo97 q_x89 c98 r_x102 q_x102 r_x108 q_x108 r_x114 q_x114 r_x120 q_x120 r_x126 q_x126 r_x130 q_x130 ex131); rw [d_x89, d_kv80] at t; exact t), (by have t : x89 = 5 ∨ ¬ iv4 = 5 := (qr521 hiv4 r_x12 mo90 mo91 mo92 mo93 mo94 mo95 mo96 mo97 q_x89 c98 r_x102 q_x102 r_x108 q_x108 r_x114 q_x114 r_x120 q_x120 r_x126 q_x126 r_x130 q_x130 ex131); rw [di_9, d_x89] at t; exact t), (by have t : iv2 ≤ kv88 ∧ (x89 = 4 → iv2 < kv88 ∨ iv4 = 4) := (qr522 r_kv1 hiv2 hiv4 r_x12 mo90 r_kv19 ph2_S14 mo91 mo92 r_kv28 ph2_S21 mo93 r_kv38 ph2_S30 mo94 r_kv49 ph2_S40 mo95 r_kv61 ph2_S51 mo96 r_kv74 ph2_S63 mo97 r_kv88 ph2_S76 q_x89 c98 r_x102 q_x102 r_x108 q_x108 r_x114 q_x114 r_x120 q_x120 r_x126 q_x126 r_x130 q_x130 ex131); rw [di_8, di_9, d_kv88, d_x89] at t; exact t)⟩
  · exact hq _ hI g0 f0 ⟨hG, hn, (by have t : x89 = 5 → 0 < kv80 := (qr523 hiv4 hiv6 hO r_x12 ph0_S14 mo90 mo91 ph0_S21 mo92 ph0_S30 mo93 ph0_S40 mo94 ph0_S51 mo95 ph0_S63 mo96 ph0_S76 mo97 q_x89 c98); rw [d_x89, d_kv80] at t; exact t), (by have t : x89 = 5 ∨ ¬ iv4 = 5 := (qr524 hiv4 r_x12 mo90 mo91 mo92 mo93 mo94 mo95 mo96 mo97 q_x89 c98); rw [di_9, d_x89] at t; exact t), (by have t : iv2 ≤ kv88 ∧ (x89 = 4 → iv2 < kv88 ∨ iv4 = 4) := (qr525 r_kv1 hiv2 hiv4 r_x12 mo90 r_kv19 ph2_S14 mo91 mo92 r_kv28 ph2_S21 mo93 r_kv38 ph2_S30 mo94 r_kv49 ph2_S40 mo95 r_kv61 ph2_S51 mo96 r_kv74 ph2_S63 mo97 r_kv88 ph2_S76 q_x89 c98); rw [di_8, di_9, d_kv88, d_x89] at t; exact t)⟩
