set_option maxHeartbeats 4000000 in
set_option maxRecDepth 20000 in
theorem m_X11_needs {v0 : Nat} {v1 : Nat} {Q : HS → Prop} {S : HS} (hI : IV S) (o_v0 : ob S v0 11)  (hw_v1 : v1 < 54)  (hG : RG S v0) (hO : fI S v0 9 = 5 → 0 < fI S v0 13) (hq : ∀ (T : HS), IV T → Gr S T → FRI [(11, 8), (11, 9), (11, 10), (11, 11), (11, 12), (11, 13), (11, 14)] [] S T → (RG T v0) ∧ (fI T v0 9 = 5 → 0 < fI T v0 13) ∧ (fI T v0 9 = 5 ∨ ¬ fI S v0 9 = 5) ∧ (fI S v0 8 ≤ fI T v0 8 ∧ (fI T v0 9 = 4 → fI S v0 8 < fI T v0 8 ∨ fI S v0 9 = 4)) → Q T) : P_X11_needs v0 v1 Q S := by
  have g0 := gr_rf S
  have f0 := fri_rf [(11, 8), (11, 9), (11, 10), (11, 11), (11, 12), (11, 13), (11, 14)] [] S
  obtain ⟨kv1, d_kv1⟩ : ∃ z : Int32, z = fI S v0 8 := ⟨_, rfl⟩
  have r_kv1 : (0 : Int32) ≤ kv1 ∧ kv1 ≤ (900 : Int32) := by rw [d_kv1]; exact nu 25 rfl hI o_v0
  obtain ⟨iv2, hiv2⟩ : ∃ z : Int32, z = kv1 := ⟨_, rfl⟩
  have di_8 := hiv2.trans d_kv1
  obtain ⟨kv3, d_kv3⟩ : ∃ z : Int32, z = fI S v0 9 := ⟨_, rfl⟩
  obtain ⟨iv4, hiv4⟩ : ∃ z : Int32, z = kv3 := ⟨_, rfl⟩
  have di_9 := hiv4.trans d_kv3
  obtain ⟨kv5, d_kv5⟩ : ∃ z : Int32, z = fI S v0 13 := ⟨_, rfl⟩
  obtain ⟨iv6, hiv6⟩ : ∃ z : Int32, z = kv5 := ⟨_, rfl⟩
  have di_13 := hiv6.trans d_kv5
  have hO : iv4 = 5 → 0 < iv6 := by rw [di_9, di_13]; exact hO
  refine u_X11_needs ?_
  refine u_X11_needs_0 ?_
  refine ⟨o_v0, ?_⟩
  refine m_X11_isWord hI o_v0 hw_v1 (fun x7 S8 hI2 g9 b_x7 p_x7 => ?_)
  obtain ⟨z_S8, p_x7⟩ := p_x7
  subst z_S8
  intro _ _
  have bb_x7 : x7 = 0 ∨ x7 = 1 := b_x7
  have iw_x7 : x7 = 0 ∨ kv3 = 2 := by rw [d_kv3]; exact p_x7
  refine ⟨fun c11 => ?_, fun c11 => ?_⟩
  · refine u_X11_needs_13 ?_
    refine ⟨o_v0, ?_⟩
    obtain ⟨iv12, hiv12⟩ : ∃ z : Int32, z = kv5 := ⟨_, rfl⟩
    have d_iv12 := hiv12.trans d_kv5
    have do12_kv1 := d_kv1
    have do12_kv3 := d_kv3
    have do12_iv12 := d_iv12
    refine m_X11_goesOn hI o_v0 hG (by have t : kv3 = 5 → 0 < kv5 := (qr59 hiv4 hiv6 hO bb_x7 iw_x7 c11); rw [d_kv3, d_kv5] at t; exact t) (fun S14 hJ g15 fc16 p_S14 => ?_)
    obtain ⟨hG, pg0_S14, pg1_S14, pg2_S14⟩ := p_S14
    have hI := hJ
    have d_kv5 := d_kv5.trans (fri_at fc16 (by decide) (by decide) o_v0).symm
    have f0 := fri_tr (S := S) g0 f0 fc16 (by decide) (by decide)
    have o_v0 := gr_ob g15 o_v0
    have g0 := gr_tr (T := S) g0 g15
    obtain ⟨kv17, d_kv17⟩ : ∃ z : Int32, z = fI S14 v0 9 := ⟨_, rfl⟩
    have ph0_S14 : kv17 = 5 → 0 < kv5 := by rw [d_kv17, d_kv5]; exact pg0_S14
    have ph1_S14 : kv17 = 5 ∨ ¬ kv3 = 5 := by rw [do12_kv3, d_kv17]; exact pg1_S14
    obtain ⟨kv18, d_kv18⟩ : ∃ z : Int32, z = fI S14 v0 8 := ⟨_, rfl⟩
    have r_kv18 : (0 : Int32) ≤ kv18 ∧ kv18 ≤ (900 : Int32) := by rw [d_kv18]; exact nu 25 rfl hI o_v0
    have ph2_S14 : kv1 ≤ kv18 ∧ (kv17 = 4 → kv1 < kv18 ∨ kv3 = 4) := by rw [do12_kv1, do12_kv3, d_kv18, d_kv17]; exact pg2_S14
    intro _
    exact hq _ hI g0 f0 ⟨hG, (by have t : kv17 = 5 → 0 < kv5 := (qr505 hiv4 hiv6 hO bb_x7 iw_x7 c11 hiv12 ph0_S14 ph1_S14); rw [d_kv17, d_kv5] at t; exact t), (by have t : kv17 = 5 ∨ ¬ iv4 = 5 := (qr506 hiv4 bb_x7 iw_x7 c11 ph1_S14); rw [di_9, d_kv17] at t; exact t), (by have t : iv2 ≤ kv18 ∧ (kv17 = 4 → iv2 < kv18 ∨ iv4 = 4) := (qr507 r_kv1 hiv2 hiv4 bb_x7 iw_x7 c11 ph1_S14 r_kv18 ph2_S14); rw [di_8, di_9, d_kv18, d_kv17] at t; exact t)⟩
  · obtain ⟨iv19, hiv19⟩ : ∃ z : Int32, z = kv1 := ⟨_, rfl⟩
    have d_iv19 := hiv19.trans d_kv1
    have do19_iv19 := d_iv19
    have do19_kv3 := d_kv3
    have do19_kv5 := d_kv5
    refine m_X11_flaw hI o_v0 (qr623 hiv4 bb_x7 iw_x7 c11) hG (by have t : kv3 = 5 → 0 < kv5 := (qr624 hiv4 hiv6 hO bb_x7 iw_x7 c11); rw [d_kv3, d_kv5] at t; exact t) (fun S21 hJ g22 fc23 p_S21 => ?_)
    obtain ⟨hG, pg0_S21, pg1_S21, pg2_S21, pg3_S21⟩ := p_S21
    have hI := hJ
    have d_kv1 := d_kv1.trans (fri_at fc23 (by decide) (by decide) o_v0).symm
    have f0 := fri_tr (S := S) g0 f0 fc23 (by decide) (by decide)
    have o_v0 := gr_ob g22 o_v0
    have g0 := gr_tr (T := S) g0 g22
    obtain ⟨kv24, d_kv24⟩ : ∃ z : Int32, z = fI S21 v0 9 := ⟨_, rfl⟩
    obtain ⟨kv25, d_kv25⟩ : ∃ z : Int32, z = fI S21 v0 13 := ⟨_, rfl⟩
    have ph0_S21 : kv24 = 5 → 0 < kv25 := by rw [d_kv24, d_kv25]; exact pg0_S21
    have ph1_S21 : kv24 = 5 ∨ ¬ kv3 = 5 := by rw [do19_kv3, d_kv24]; exact pg1_S21
    have ph2_S21 : iv19 ≤ kv1 ∧ (kv24 = 4 → iv19 < kv1 ∨ kv3 = 4) := by rw [do19_iv19, do19_kv3, d_kv1, d_kv24]; exact pg2_S21
    have ph3_S21 : kv24 = 5 := by rw [d_kv24]; exact pg3_S21
    intro _
    refine u_X11_needs_13 ?_
    refine ⟨o_v0, ?_⟩
    obtain ⟨iv26, hiv26⟩ : ∃ z : Int32, z = kv25 := ⟨_, rfl⟩
    have d_iv26 := hiv26.trans d_kv25
    have do26_kv1 := d_kv1
    have do26_kv24 := d_kv24
    have do26_iv26 := d_iv26
    refine m_X11_goesOn hI o_v0 hG (by have t : kv24 = 5 → 0 < kv25 := (qr625 hiv4 hiv6 hO bb_x7 iw_x7 c11 ph0_S21 ph1_S21 ph3_S21); rw [d_kv24, d_kv25] at t; exact t) (fun S28 hJ g29 fc30 p_S28 => ?_)
    obtain ⟨hG, pg0_S28, pg1_S28, pg2_S28⟩ := p_S28
    have hI := hJ
    have d_kv25 := d_kv25.trans (fri_at fc30 (by decide) (by decide) o_v0).symm
    have f0 := fri_tr (S := S21) g0 f0 fc30 (by decide) (by decide)
    have o_v0 := gr_ob g29 o_v0
    have g0 := gr_tr (T := S21) g0 g29
    obtain ⟨kv31, d_kv31⟩ : ∃ z : Int32, z = fI S28 v0 9 := ⟨_, rfl⟩
    have ph0_S28 : kv31 = 5 → 0 < kv25 := by rw [d_kv31, d_kv25]; exact pg0_S28
    have ph1_S28 : kv31 = 5 ∨ ¬ kv24 = 5 := by rw [do26_kv24, d_kv31]; exact pg1_S28
    have mo32 : kv31 = 5 ∨ ¬ kv3 = 5 := ph1_S28.elim Or.inl (fun h => Or.inr (ph1_S21.resolve_left h))
    obtain ⟨kv33, d_kv33⟩ : ∃ z : Int32, z = fI S28 v0 8 := ⟨_, rfl⟩
    have r_kv33 : (0 : Int32) ≤ kv33 ∧ kv33 ≤ (900 : Int32) := by rw [d_kv33]; exact nu 25 rfl hI o_v0
    have ph2_S28 : kv1 ≤ kv33 ∧ (kv31 = 4 → kv1 < kv33 ∨ kv24 = 4) := by rw [do26_kv1, do26_kv24, d_kv33, d_kv31]; exact pg2_S28
    intro _
    exact hq _ hI g0 f0 ⟨hG, (by have t : kv31 = 5 → 0 < kv25 := (qr626 hiv4 hiv6 hO bb_x7 iw_x7 c11 ph0_S21 mo32 ph3_S21 hiv26 ph0_S28 ph1_S28); rw [d_kv31, d_kv25] at t; exact t), (by have t : kv31 = 5 ∨ ¬ iv4 = 5 := (qr627 hiv4 bb_x7 iw_x7 c11 mo32 ph3_S21 ph1_S28); rw [di_9, d_kv31] at t; exact t), (by have t : iv2 ≤ kv33 ∧ (kv31 = 4 → iv2 < kv33 ∨ iv4 = 4) := (qr628 r_kv1 hiv2 hiv4 bb_x7 iw_x7 c11 hiv19 mo32 ph2_S21 ph3_S21 ph1_S28 r_kv33 ph2_S28); rw [di_8, di_9, d_kv33, d_kv31] at t; exact t)⟩
set_option maxHeartbeats 4000000 in
set_option maxRecDepth 20000 in
theorem m_X11_readFresh {v0 : Nat} {Q : Int64 → HS → Prop} {S : HS} (hI : IV S) (o_v0 : ob S v0 11)    (hG : RG S v0) (hO : fI S v0 9 = 5 → 0 < fI S v0 13) (hq : ∀ (r : Int64) (T : HS), IV T → Gr S T → FRI [(11, 8), (11, 9), (11, 10), (11, 11), (11, 12), (11, 13), (11, 14)] [] S T → (RG T v0) ∧ (fI T v0 9 = 5 → 0 < fI T v0 13) ∧ (fI T v0 9 = 5 ∨ ¬ fI S v0 9 = 5) ∧ (fI S v0 8 ≤ fI T v0 8 ∧ (fI T v0 9 = 4 → fI S v0 8 < fI T v0 8 ∨ fI S v0 9 = 4)) → Q r T) : P_X11_readFresh v0 Q S := by
  have g0 := gr_rf S
  have f0 := fri_rf [(11, 8), (11, 9), (11, 10), (11, 11), (11, 12), (11, 13), (11, 14)] [] S
  obtain ⟨kv1, d_kv1⟩ : ∃ z : Int32, z = fI S v0 8 := ⟨_, rfl⟩
  have r_kv1 : (0 : Int32) ≤ kv1 ∧ kv1 ≤ (900 : Int32) := by rw [d_kv1]; exact nu 25 rfl hI o_v0
  obtain ⟨iv2, hiv2⟩ : ∃ z : Int32, z = kv1 := ⟨_, rfl⟩
  have di_8 := hiv2.trans d_kv1
  obtain ⟨kv3, d_kv3⟩ : ∃ z : Int32, z = fI S v0 9 := ⟨_, rfl⟩
  obtain ⟨iv4, hiv4⟩ : ∃ z : Int32, z = kv3 := ⟨_, rfl⟩
  have di_9 := hiv4.trans d_kv3
  obtain ⟨kv5, d_kv5⟩ : ∃ z : Int32, z = fI S v0 13 := ⟨_, rfl⟩
  obtain ⟨iv6, hiv6⟩ : ∃ z : Int32, z = kv5 := ⟨_, rfl⟩
  have di_13 := hiv6.trans d_kv5
  have hO : iv4 = 5 → 0 < iv6 := by rw [di_9, di_13]; exact hO
  refine u_X11_readFresh ?_
  refine u_X11_readFresh_0 ?_
  refine ⟨o_v0, ?_⟩
  refine m_X11_isName hI o_v0 (fun x7 S8 hI2 g9 b_x7 p_x7 => ?_)
  subst p_x7
  intro _ _
  have bb_x7 : x7 = 0 ∨ x7 = 1 := b_x7
  refine ⟨fun c11 => ?_, fun c11 => ?_⟩
  · refine u_X11_readFresh_12 ?_
    refine ⟨o_v0, ?_⟩
    obtain ⟨a12, ea12, o_a12, -⟩ := id hG
    refine ⟨a12, ea12, ?_⟩
    intro x13 ex13
    have dj_x13 := ex13
    refine ⟨o_a12, ?_⟩
    refine m_X10_find hI o_a12 (fun x14 S15 hI2 g16 p_x14 => ?_)
    obtain ⟨z_S15, p_x14⟩ := p_x14
    subst z_S15
    intro _
    obtain ⟨kv18, d_kv18⟩ : ∃ z : Int32, z = fI S a12 6 := ⟨_, rfl⟩
    have r_kv18 : (0 : Int32) ≤ kv18 ∧ kv18 ≤ (12 : Int32) := by rw [d_kv18]; exact nu 22 rfl hI o_a12
    have fn_x14 : x14 = -1 ∨ (0 ≤ x14 ∧ x14 < kv18) := by rw [d_kv18]; exact p_x14
    refine ⟨fun c19 => ?_, fun c19 => ?_⟩
    · refine u_X11_readFresh_32 ?_
      refine ⟨o_v0, ?_⟩
      intro x20 ex20
      have q_x20 : x20 = x13 := ex20.trans dj_x13.symm
      have dj_x20 := ex20
      obtain ⟨iv21, hiv21⟩ : ∃ z : Int32, z = kv5 := ⟨_, rfl⟩
      have d_iv21 := hiv21.trans d_kv5
      have do21_kv1 := d_kv1
      have do21_kv3 := d_kv3
      have do21_iv21 := d_iv21
      refine m_X11_goesOn hI o_v0 hG (by have t : kv3 = 5 → 0 < kv5 := (qr601 hiv4 hiv6 hO bb_x7 c11 r_kv18 fn_x14 c19); rw [d_kv3, d_kv5] at t; exact t) (fun S23 hJ g24 fc25 p_S23 => ?_)
      obtain ⟨hG, pg0_S23, pg1_S23, pg2_S23⟩ := p_S23
      have hI := hJ
      have d_kv5 := d_kv5.trans (fri_at fc25 (by decide) (by decide) o_v0).symm
      have d_kv18 := d_kv18.trans (fri_at fc25 (by decide) (by decide) o_a12).symm
      have ea12 := (frr_at fc25 (by decide) (by decide) o_v0).trans ea12
      have f0 := fri_tr (S := S) g0 f0 fc25 (by decide) (by decide)
      have o_a12 := gr_ob g24 o_a12
      have o_v0 := gr_ob g24 o_v0
      have g0 := gr_tr (T := S) g0 g24
      obtain ⟨kv26, d_kv26⟩ : ∃ z : Int32, z = fI S23 v0 9 := ⟨_, rfl⟩
      have ph0_S23 : kv26 = 5 → 0 < kv5 := by rw [d_kv26, d_kv5]; exact pg0_S23
      have ph1_S23 : kv26 = 5 ∨ ¬ kv3 = 5 := by rw [do21_kv3, d_kv26]; exact pg1_S23
      obtain ⟨kv27, d_kv27⟩ : ∃ z : Int32, z = fI S23 v0 8 := ⟨_, rfl⟩
      have r_kv27 : (0 : Int32) ≤ kv27 ∧ kv27 ≤ (900 : Int32) := by rw [d_kv27]; exact nu 25 rfl hI o_v0
      have ph2_S23 : kv1 ≤ kv27 ∧ (kv26 = 4 → kv1 < kv27 ∨ kv3 = 4) := by rw [do21_kv1, do21_kv3, d_kv27, d_kv26]; exact pg2_S23
      intro _
      exact hq _ _ hI g0 f0 ⟨hG, (by have t : kv26 = 5 → 0 < kv5 := (qr602 hiv4 hiv6 hO bb_x7 c11 r_kv18 fn_x14 c19 hiv21 ph0_S23 ph1_S23); rw [d_kv26, d_kv5] at t; exact t), (by have t : kv26 = 5 ∨ ¬ iv4 = 5 := (qr603 hiv4 bb_x7 c11 r_kv18 fn_x14 c19 ph1_S23); rw [di_9, d_kv26] at t; exact t), (by have t : iv2 ≤ kv27 ∧ (kv26 = 4 → iv2 < kv27 ∨ iv4 = 4) := (qr604 r_kv1 hiv2 hiv4 bb_x7 c11 r_kv18 fn_x14 c19 ph1_S23 r_kv27 ph2_S23); rw [di_8, di_9, d_kv27, d_kv26] at t; exact t)⟩
    · obtain ⟨iv28, hiv28⟩ : ∃ z : Int32, z = kv1 := ⟨_, rfl⟩
      have d_iv28 := hiv28.trans d_kv1
      have do28_iv28 := d_iv28
      have do28_kv3 := d_kv3
      have do28_kv5 := d_kv5
      refine m_X11_flaw hI o_v0 (qr605 bb_x7 c11 r_kv18 fn_x14 c19) hG (by have t : kv3 = 5 → 0 < kv5 := (qr606 hiv4 hiv6 hO bb_x7 c11 r_kv18 fn_x14 c19); rw [d_kv3, d_kv5] at t; exact t) (fun S30 hJ g31 fc32 p_S30 => ?_)
      obtain ⟨hG, pg0_S30, pg1_S30, pg2_S30, pg3_S30⟩ := p_S30
      have hI := hJ
      have d_kv1 := d_kv1.trans (fri_at fc32 (by decide) (by decide) o_v0).symm
      have d_kv18 := d_kv18.trans (fri_at fc32 (by decide) (by decide) o_a12).symm
      have ea12 := (frr_at fc32 (by decide) (by decide) o_v0).trans ea12
      have f0 := fri_tr (S := S) g0 f0 fc32 (by decide) (by decide)
      have o_a12 := gr_ob g31 o_a12
      have o_v0 := gr_ob g31 o_v0
      have g0 := gr_tr (T := S) g0 g31
      obtain ⟨kv33, d_kv33⟩ : ∃ z : Int32, z = fI S30 v0 9 := ⟨_, rfl⟩
      obtain ⟨kv34, d_kv34⟩ : ∃ z : Int32, z = fI S30 v0 13 := ⟨_, rfl⟩
      have ph0_S30 : kv33 = 5 → 0 < kv34 := by rw [d_kv33, d_kv34]; exact pg0_S30
      have ph1_S30 : kv33 = 5 ∨ ¬ kv3 = 5 := by rw [do28_kv3, d_kv33]; exact pg1_S30
      have ph2_S30 : iv28 ≤ kv1 ∧ (kv33 = 4 → iv28 < kv1 ∨ kv3 = 4) := by rw [do28_iv28, do28_kv3, d_kv1, d_kv33]; exact pg2_S30
      have ph3_S30 : kv33 = 5 := by rw [d_kv33]; exact pg3_S30
      intro _
      refine u_X11_readFresh_32 ?_
      refine ⟨o_v0, ?_⟩
      intro x35 ex35
      have dj_x35 := ex35
      obtain ⟨iv36, hiv36⟩ : ∃ z : Int32, z = kv34 := ⟨_, rfl⟩
      have d_iv36 := hiv36.trans d_kv34
      have do36_kv1 := d_kv1
      have do36_kv33 := d_kv33
      have do36_iv36 := d_iv36
      refine m_X11_goesOn hI o_v0 hG (by have t : kv33 = 5 → 0 < kv34 := (qr607 hiv4 hiv6 hO bb_x7 c11 r_kv18 fn_x14 c19 ph0_S30 ph1_S30 ph3_S30); rw [d_kv33, d_kv34] at t; exact t) (fun S38 hJ g39 fc40 p_S38 => ?_)
      obtain ⟨hG, pg0_S38, pg1_S38, pg2_S38⟩ := p_S38
      have hI := hJ
      have d_kv18 := d_kv18.trans (fri_at fc40 (by decide) (by decide) o_a12).symm
      have d_kv34 := d_kv34.trans (fri_at fc40 (by decide) (by decide) o_v0).symm
      have ea12 := (frr_at fc40 (by decide) (by decide) o_v0).trans ea12
      have f0 := fri_tr (S := S30) g0 f0 fc40 (by decide) (by decide)
      have o_a12 := gr_ob g39 o_a12
      have o_v0 := gr_ob g39 o_v0
      have g0 := gr_tr (T := S30) g0 g39
      obtain ⟨kv41, d_kv41⟩ : ∃ z : Int32, z = fI S38 v0 9 := ⟨_, rfl⟩
      have ph0_S38 : kv41 = 5 → 0 < kv34 := by rw [d_kv41, d_kv34]; exact pg0_S38
      have ph1_S38 : kv41 = 5 ∨ ¬ kv33 = 5 := by rw [do36_kv33, d_kv41]; exact pg1_S38
      have mo42 : kv41 = 5 ∨ ¬ kv3 = 5 := ph1_S38.elim Or.inl (fun h => Or.inr (ph1_S30.resolve_left h))
      obtain ⟨kv43, d_kv43⟩ : ∃ z : Int32, z = fI S38 v0 8 := ⟨_, rfl⟩
      have r_kv43 : (0 : Int32) ≤ kv43 ∧ kv43 ≤ (900 : Int32) := by rw [d_kv43]; exact nu 25 rfl hI o_v0
      have ph2_S38 : kv1 ≤ kv43 ∧ (kv41 = 4 → kv1 < kv43 ∨ kv33 = 4) := by rw [do36_kv1, do36_kv33, d_kv43, d_kv41]; exact pg2_S38
      intro _
      exact hq _ _ hI g0 f0 ⟨hG, (by have t : kv41 = 5 → 0 < kv34 := (qr608 hiv4 hiv6 hO bb_x7 c11 r_kv18 fn_x14 c19 ph0_S30 mo42 ph3_S30 hiv36 ph0_S38 ph1_S38); rw [d_kv41, d_kv34] at t; exact t), (by have t : kv41 = 5 ∨ ¬ iv4 = 5 := (qr609 hiv4 bb_x7 c11 r_kv18 fn_x14 c19 mo42 ph3_S30 ph1_S38); rw [di_9, d_kv41] at t; exact t), (by have t : iv2 ≤ kv43 ∧ (kv41 = 4 → iv2 < kv43 ∨ iv4 = 4) := (qr610 r_kv1 hiv2 hiv4 bb_x7 c11 r_kv18 fn_x14 c19 hiv28 mo42 ph2_S30 ph3_S30 ph1_S38 r_kv43 ph2_S38); rw [di_8, di_9, d_kv43, d_kv41] at t; exact t)⟩
  · obtain ⟨iv44, hiv44⟩ : ∃ z : Int32, z = kv1 := ⟨_, rfl⟩
    have d_iv44 := hiv44.trans d_kv1
    have do44_iv44 := d_iv44
    have do44_kv3 := d_kv3
    have do44_kv5 := d_kv5
    refine m_X11_flaw hI o_v0 (qr611 bb_x7 c11) hG (by have t : kv3 = 5 → 0 < kv5 := (qr612 hiv4 hiv6 hO bb_x7 c11); rw [d_kv3, d_kv5] at t; exact t) (fun S46 hJ g47 fc48 p_S46 => ?_)
    obtain ⟨hG, pg0_S46, pg1_S46, pg2_S46, pg3_S46⟩ := p_S46
    have hI := hJ
    have d_kv1 := d_kv1.trans (fri_at fc48 (by decide) (by decide) o_v0).symm
    have f0 := fri_tr (S := S) g0 f0 fc48 (by decide) (by decide)
    have o_v0 := gr_ob g47 o_v0
    have g0 := gr_tr (T := S) g0 g47
    obtain ⟨kv49, d_kv49⟩ : ∃ z : Int32, z = fI S46 v0 9 := ⟨_, rfl⟩
    obtain ⟨kv50, d_kv50⟩ : ∃ z : Int32, z = fI S46 v0 13 := ⟨_, rfl⟩
    have ph0_S46 : kv49 = 5 → 0 < kv50 := by rw [d_kv49, d_kv50]; exact pg0_S46
    have ph1_S46 : kv49 = 5 ∨ ¬ kv3 = 5 := by rw [do44_kv3, d_kv49]; exact pg1_S46
    have ph2_S46 : iv44 ≤ kv1 ∧ (kv49 = 4 → iv44 < kv1 ∨ kv3 = 4) := by rw [do44_iv44, do44_kv3, d_kv1, d_kv49]; exact pg2_S46
    have ph3_S46 : kv49 = 5 := by rw [d_kv49]; exact pg3_S46
    intro _
    refine u_X11_readFresh_12 ?_
    refine ⟨o_v0, ?_⟩
    obtain ⟨a51, ea51, o_a51, -⟩ := id hG
    refine ⟨a51, ea51, ?_⟩
    intro x52 ex52
    have dj_x52 := ex52
    refine ⟨o_a51, ?_⟩
    refine m_X10_find hI o_a51 (fun x53 S54 hI2 g55 p_x53 => ?_)
    obtain ⟨z_S54, p_x53⟩ := p_x53
    subst z_S54
    intro _
    obtain ⟨kv57, d_kv57⟩ : ∃ z : Int32, z = fI S46 a51 6 := ⟨_, rfl⟩
    have r_kv57 : (0 : Int32) ≤ kv57 ∧ kv57 ≤ (12 : Int32) := by rw [d_kv57]; exact nu 22 rfl hI o_a51
    have fn_x53 : x53 = -1 ∨ (0 ≤ x53 ∧ x53 < kv57) := by rw [d_kv57]; exact p_x53
    refine ⟨fun c58 => ?_, fun c58 => ?_⟩
    · refine u_X11_readFresh_32 ?_
      refine ⟨o_v0, ?_⟩
      intro x59 ex59
      have q_x59 : x59 = x52 := ex59.trans dj_x52.symm
      have dj_x59 := ex59
      obtain ⟨iv60, hiv60⟩ : ∃ z : Int32, z = kv50 := ⟨_, rfl⟩
      have d_iv60 := hiv60.trans d_kv50
      have do60_kv1 := d_kv1
      have do60_kv49 := d_kv49
      have do60_iv60 := d_iv60
      refine m_X11_goesOn hI o_v0 hG (by have t : kv49 = 5 → 0 < kv50 := (qr613 hiv4 hiv6 hO bb_x7 c11 ph0_S46 ph1_S46 ph3_S46 r_kv57 fn_x53 c58); rw [d_kv49, d_kv50] at t; exact t) (fun S62 hJ g63 fc64 p_S62 => ?_)
      obtain ⟨hG, pg0_S62, pg1_S62, pg2_S62⟩ := p_S62
      have hI := hJ
      have d_kv50 := d_kv50.trans (fri_at fc64 (by decide) (by decide) o_v0).symm
      have d_kv57 := d_kv57.trans (fri_at fc64 (by decide) (by decide) o_a51).symm
      have ea51 := (frr_at fc64 (by decide) (by decide) o_v0).trans ea51
      have f0 := fri_tr (S := S46) g0 f0 fc64 (by decide) (by decide)
      have o_a51 := gr_ob g63 o_a51
      have o_v0 := gr_ob g63 o_v0
      have g0 := gr_tr (T := S46) g0 g63
      obtain ⟨kv65, d_kv65⟩ : ∃ z : Int32, z = fI S62 v0 9 := ⟨_, rfl⟩
      have ph0_S62 : kv65 = 5 → 0 < kv50 := by rw [d_kv65, d_kv50]; exact pg0_S62
      have ph1_S62 : kv65 = 5 ∨ ¬ kv49 = 5 := by rw [do60_kv49, d_kv65]; exact pg1_S62
      have mo66 : kv65 = 5 ∨ ¬ kv3 = 5 := ph1_S62.elim Or.inl (fun h => Or.inr (ph1_S46.resolve_left h))
      obtain ⟨kv67, d_kv67⟩ : ∃ z : Int32, z = fI S62 v0 8 := ⟨_, rfl⟩
      have r_kv67 : (0 : Int32) ≤ kv67 ∧ kv67 ≤ (900 : Int32) := by rw [d_kv67]; exact nu 25 rfl hI o_v0
      have ph2_S62 : kv1 ≤ kv67 ∧ (kv65 = 4 → kv1 < kv67 ∨ kv49 = 4) := by rw [do60_kv1, do60_kv49, d_kv67, d_kv65]; exact pg2_S62
      intro _
      exact hq _ _ hI g0 f0 ⟨hG, (by have t : kv65 = 5 → 0 < kv50 := (qr614 hiv4 hiv6 hO bb_x7 c11 ph0_S46 mo66 ph3_S46 r_kv57 fn_x53 c58 hiv60 ph0_S62 ph1_S62); rw [d_kv65, d_kv50] at t; exact t), (by have t : kv65 = 5 ∨ ¬ iv4 = 5 := (qr615 hiv4 bb_x7 c11 mo66 ph3_S46 r_kv57 fn_x53 c58 ph1_S62); rw [di_9, d_kv65] at t; exact t), (by have t : iv2 ≤ kv67 ∧ (kv65 = 4 → iv2 < kv67 ∨ iv4 = 4) := (qr616 r_kv1 hiv2 hiv4 bb_x7 c11 hiv44 mo66 ph2_S46 ph3_S46 r_kv57 fn_x53 c58 ph1_S62 r_kv67 ph2_S62); rw [di_8, di_9, d_kv67, d_kv65] at t; exact t)⟩
    · obtain ⟨iv68, hiv68⟩ : ∃ z : Int32, z = kv1 := ⟨_, rfl⟩
      have d_iv68 := hiv68.trans d_kv1
      have do68_iv68 := d_iv68
      have do68_kv49 := d_kv49
      have do68_kv50 := d_kv50
      refine m_X11_flaw hI o_v0 (qr617 bb_x7 c11 r_kv57 fn_x53 c58) hG (by have t : kv49 = 5 → 0 < kv50 := (qr618 hiv4 hiv6 hO bb_x7 c11 ph0_S46 ph1_S46 ph3_S46 r_kv57 fn_x53 c58); rw [d_kv49, d_kv50] at t; exact t) (fun S70 hJ g71 fc72 p_S70 => ?_)
      obtain ⟨hG, pg0_S70, pg1_S70, pg2_S70, pg3_S70⟩ := p_S70
      have hI := hJ
      have d_kv1 := d_kv1.trans (fri_at fc72 (by decide) (by decide) o_v0).symm
      have d_kv57 := d_kv57.trans (fri_at fc72 (by decide) (by decide) o_a51).symm
      have ea51 := (frr_at fc72 (by decide) (by decide) o_v0).trans ea51
      have f0 := fri_tr (S := S46) g0 f0 fc72 (by decide) (by decide)
      have o_a51 := gr_ob g71 o_a51
      have o_v0 := gr_ob g71 o_v0
      have g0 := gr_tr (T := S46) g0 g71
      obtain ⟨kv73, d_kv73⟩ : ∃ z : Int32, z = fI S70 v0 9 := ⟨_, rfl⟩
      obtain ⟨kv74, d_kv74⟩ : ∃ z : Int32, z = fI S70 v0 13 := ⟨_, rfl⟩
      have ph0_S70 : kv73 = 5 → 0 < kv74 := by rw [d_kv73, d_kv74]; exact pg0_S70
      have ph1_S70 : kv73 = 5 ∨ ¬ kv49 = 5 := by rw [do68_kv49, d_kv73]; exact pg1_S70
      have mo75 : kv73 = 5 ∨ ¬ kv3 = 5 := ph1_S70.elim Or.inl (fun h => Or.inr (ph1_S46.resolve_left h))
      have ph2_S70 : iv68 ≤ kv1 ∧ (kv73 = 4 → iv68 < kv1 ∨ kv49 = 4) := by rw [do68_iv68, do68_kv49, d_kv1, d_kv73]; exact pg2_S70
      have ph3_S70 : kv73 = 5 := by rw [d_kv73]; exact pg3_S70
      intro _
      refine u_X11_readFresh_32 ?_
      refine ⟨o_v0, ?_⟩
      intro x76 ex76
      have dj_x76 := ex76
      obtain ⟨iv77, hiv77⟩ : ∃ z : Int32, z = kv74 := ⟨_, rfl⟩
      have d_iv77 := hiv77.trans d_kv74
      have do77_kv1 := d_kv1
      have do77_kv73 := d_kv73
      have do77_iv77 := d_iv77
      refine m_X11_goesOn hI o_v0 hG (by have t : kv73 = 5 → 0 < kv74 := (qr619 hiv4 hiv6 hO bb_x7 c11 ph0_S46 mo75 ph3_S46 r_kv57 fn_x53 c58 ph0_S70 ph1_S70 ph3_S70); rw [d_kv73, d_kv74] at t; exact t) (fun S79 hJ g80 fc81 p_S79 => ?_)
      obtain ⟨hG, pg0_S79, pg1_S79, pg2_S79⟩ := p_S79
      have hI := hJ
      have d_kv57 := d_kv57.trans (fri_at fc81 (by decide) (by decide) o_a51).symm
      have d_kv74 := d_kv74.trans (fri_at fc81 (by decide) (by decide) o_v0).symm
      have ea51 := (frr_at fc81 (by decide) (by decide) o_v0).trans ea51
      have f0 := fri_tr (S := S70) g0 f0 fc81 (by decide) (by decide)
      have o_a51 := gr_ob g80 o_a51
      have o_v0 := gr_ob g80 o_v0
      have g0 := gr_tr (T := S70) g0 g80
      obtain ⟨kv82, d_kv82⟩ : ∃ z : Int32, z = fI S79 v0 9 := ⟨_, rfl⟩
      have ph0_S79 : kv82 = 5 → 0 < kv74 := by rw [d_kv82, d_kv74]; exact pg0_S79
      have ph1_S79 : kv82 = 5 ∨ ¬ kv73 = 5 := by rw [do77_kv73, d_kv82]; exact pg1_S79
      have mo83 : kv82 = 5 ∨ ¬ kv3 = 5 := ph1_S79.elim Or.inl (fun h => Or.inr (mo75.resolve_left h))
      have mo84 : kv82 = 5 ∨ ¬ kv49 = 5 := ph1_S79.elim Or.inl (fun h => Or.inr (ph1_S70.resolve_left h))
      obtain ⟨kv85, d_kv85⟩ : ∃ z : Int32, z = fI S79 v0 8 := ⟨_, rfl⟩
      have r_kv85 : (0 : Int32) ≤ kv85 ∧ kv85 ≤ (900 : Int32) := by rw [d_kv85]; exact nu 25 rfl hI o_v0
      have ph2_S79 : kv1 ≤ kv85 ∧ (kv82 = 4 → kv1 < kv85 ∨ kv73 = 4) := by rw [do77_kv1, do77_kv73, d_kv85, d_kv82]; exact pg2_S79
      intro _
      exact hq _ _ hI g0 f0 ⟨hG, (by have t : kv82 = 5 → 0 < kv74 := (qr620 hiv4 hiv6 hO bb_x7 c11 ph0_S46 mo83 ph3_S46 r_kv57 fn_x53 c58 ph0_S70 mo84 ph3_S70 hiv77 ph0_S79 ph1_S79); rw [d_kv82, d_kv74] at t; exact t), (by have t : kv82 = 5 ∨ ¬ iv4 = 5 := (qr621 hiv4 bb_x7 c11 mo83 ph3_S46 r_kv57 fn_x53 c58 mo84 ph3_S70 ph1_S79); rw [di_9, d_kv82] at t; exact t), (by have t : iv2 ≤ kv85 ∧ (kv82 = 4 → iv2 < kv85 ∨ iv4 = 4) := (qr622 r_kv1 hiv2 hiv4 bb_x7 c11 hiv44 mo83 ph2_S46 ph3_S46 r_kv57 fn_x53 c58 hiv68 mo84 ph2_S70 ph3_S70 ph1_S79 r_kv85 ph2_S79); rw [di_8, di_9, d_kv85, d_kv82] at t; exact t)⟩
set_option maxHeartbeats 4000000 in
set_option maxRecDepth 20000 in
theorem m_X11_readWhole {v0 : Nat} {v1 : Int32} {v2 : Int32} {Q : Int32 → HS → Prop} {S : HS} (hI : IV S) (o_v0 : ob S v0 11)    (hG : RG S v0) (hO : fI S v0 9 = 5 → 0 < fI S v0 13) (hq : ∀ (r : Int32) (T : HS), IV T → Gr S T → FRI [(11, 8), (11, 9), (11, 10), (11, 11), (11, 12), (11, 13), (11, 14)] [] S T → (RG T v0) ∧ (r = v1 ∨ (v1 ≤ r ∧ r ≤ v2)) ∧ (fI T v0 9 = 5 → 0 < fI T v0 13) ∧ (fI T v0 9 = 5 ∨ ¬ fI S v0 9 = 5) ∧ (fI S v0 8 ≤ fI T v0 8 ∧ (fI T v0 9 = 4 → fI S v0 8 < fI T v0 8 ∨ fI S v0 9 = 4)) → Q r T) : P_X11_readWhole v0 v1 v2 Q S := by
  have g0 := gr_rf S
  have f0 := fri_rf [(11, 8), (11, 9), (11, 10), (11, 11), (11, 12), (11, 13), (11, 14)] [] S
  obtain ⟨kv1, d_kv1⟩ : ∃ z : Int32, z = fI S v0 8 := ⟨_, rfl⟩
  have r_kv1 : (0 : Int32) ≤ kv1 ∧ kv1 ≤ (900 : Int32) := by rw [d_kv1]; exact nu 25 rfl hI o_v0
  obtain ⟨iv2, hiv2⟩ : ∃ z : Int32, z = kv1 := ⟨_, rfl⟩
  have di_8 := hiv2.trans d_kv1
  obtain ⟨kv3, d_kv3⟩ : ∃ z : Int32, z = fI S v0 9 := ⟨_, rfl⟩
  obtain ⟨iv4, hiv4⟩ : ∃ z : Int32, z = kv3 := ⟨_, rfl⟩
  have di_9 := hiv4.trans d_kv3
  obtain ⟨kv5, d_kv5⟩ : ∃ z : Int32, z = fI S v0 13 := ⟨_, rfl⟩
  obtain ⟨iv6, hiv6⟩ : ∃ z : Int32, z = kv5 := ⟨_, rfl⟩
  have di_13 := hiv6.trans d_kv5
  have hO : iv4 = 5 → 0 < iv6 := by rw [di_9, di_13]; exact hO
  refine u_X11_readWhole ?_
  refine u_X11_readWhole_0 ?_
  refine ⟨o_v0, ?_⟩
  intro x7 ex7
  have q_x7 : x7 = kv3 := ex7.trans d_kv3.symm
  have d_x7 := ex7
  refine ⟨fun c8 => ?_, fun c8 => ?_⟩
  · intro x9 ex9
    have d_x9 := ex9
    refine u_X11_in ?_
    refine u_X11_in_0 ?_
    refine ⟨fun c10 => ?_, fun c10 => ?_⟩
    · intro _ _
      refine ⟨fun c12 => absurd (show ¬ (0 : Int32) = 0 from c12) (by decide), fun c12 => ?_⟩
      obtain ⟨iv13, hiv13⟩ : ∃ z : Int32, z = kv1 := ⟨_, rfl⟩
      have d_iv13 := hiv13.trans d_kv1
      have do13_iv13 := d_iv13
      have do13_x7 := d_x7
      have do13_kv5 := d_kv5
      refine m_X11_flaw hI o_v0 (qr248 hiv4 q_x7 c8 c10) hG (by have t : x7 = 5 → 0 < kv5 := (qr249 hiv4 hiv6 hO q_x7 c8 c10); rw [d_x7, d_kv5] at t; exact t) (fun S15 hJ g16 fc17 p_S15 => ?_)
      obtain ⟨hG, pg0_S15, pg1_S15, pg2_S15, pg3_S15⟩ := p_S15
      have hI := hJ
      have d_kv1 := d_kv1.trans (fri_at fc17 (by decide) (by decide) o_v0).symm
      have d_x9 := d_x9.trans (fri_at fc17 (by decide) (by decide) o_v0).symm
      have f0 := fri_tr (S := S) g0 f0 fc17 (by decide) (by decide)
      have o_v0 := gr_ob g16 o_v0
      have g0 := gr_tr (T := S) g0 g16
      obtain ⟨kv18, d_kv18⟩ : ∃ z : Int32, z = fI S15 v0 9 := ⟨_, rfl⟩
      obtain ⟨kv19, d_kv19⟩ : ∃ z : Int32, z = fI S15 v0 13 := ⟨_, rfl⟩
      have ph0_S15 : kv18 = 5 → 0 < kv19 := by rw [d_kv18, d_kv19]; exact pg0_S15
      have ph1_S15 : kv18 = 5 ∨ ¬ x7 = 5 := by rw [do13_x7, d_kv18]; exact pg1_S15
      have ph2_S15 : iv13 ≤ kv1 ∧ (kv18 = 4 → iv13 < kv1 ∨ x7 = 4) := by rw [do13_iv13, do13_x7, d_kv1, d_kv18]; exact pg2_S15
      have ph3_S15 : kv18 = 5 := by rw [d_kv18]; exact pg3_S15
      intro _
      refine u_X11_readWhole_33 ?_
      refine ⟨o_v0, ?_⟩
      intro x20 ex20
      have q_x20 : x20 = kv18 := ex20.trans d_kv18.symm
      have mo21 : x20 = 5 ∨ ¬ x7 = 5 := ph1_S15.imp_left (fun z => q_x20.trans z)
      have d_x20 := ex20
      refine ⟨fun c22 => ?_, fun c22 => ?_⟩
      · intro x23 ex23
        have q_x23 : x23 = x9 := ex23.trans d_x9.symm
        have d_x23 := ex23
        refine u_X11_readWhole_49 ?_
        refine ⟨o_v0, ?_⟩
        obtain ⟨iv24, hiv24⟩ : ∃ z : Int32, z = kv19 := ⟨_, rfl⟩
        have d_iv24 := hiv24.trans d_kv19
        have do24_kv1 := d_kv1
        have do24_x20 := d_x20
        have do24_iv24 := d_iv24
        refine m_X11_goesOn hI o_v0 hG (by have t : x20 = 5 → 0 < kv19 := (qr250 hiv4 hiv6 hO q_x7 c8 c10 ph0_S15 mo21 ph3_S15 q_x20 c22 q_x23); rw [d_x20, d_kv19] at t; exact t) (fun S26 hJ g27 fc28 p_S26 => ?_)
        obtain ⟨hG, pg0_S26, pg1_S26, pg2_S26⟩ := p_S26
        have hI := hJ
        have d_kv19 := d_kv19.trans (fri_at fc28 (by decide) (by decide) o_v0).symm
        have f0 := fri_tr (S := S15) g0 f0 fc28 (by decide) (by decide)
        have o_v0 := gr_ob g27 o_v0
        have g0 := gr_tr (T := S15) g0 g27
        obtain ⟨kv29, d_kv29⟩ : ∃ z : Int32, z = fI S26 v0 9 := ⟨_, rfl⟩
        have ph0_S26 : kv29 = 5 → 0 < kv19 := by rw [d_kv29, d_kv19]; exact pg0_S26
        have ph1_S26 : kv29 = 5 ∨ ¬ x20 = 5 := by rw [do24_x20, d_kv29]; exact pg1_S26
        have mo30 : kv29 = 5 ∨ ¬ x7 = 5 := ph1_S26.elim Or.inl (fun h => Or.inr (mo21.resolve_left h))
        obtain ⟨kv31, d_kv31⟩ : ∃ z : Int32, z = fI S26 v0 8 := ⟨_, rfl⟩
        have r_kv31 : (0 : Int32) ≤ kv31 ∧ kv31 ≤ (900 : Int32) := by rw [d_kv31]; exact nu 25 rfl hI o_v0
        have ph2_S26 : kv1 ≤ kv31 ∧ (kv29 = 4 → kv1 < kv31 ∨ x20 = 4) := by rw [do24_kv1, do24_x20, d_kv31, d_kv29]; exact pg2_S26
        intro _
        exact hq _ _ hI g0 f0 ⟨hG, (qr251 hiv4 q_x7 c8 c10 mo30 ph3_S15 q_x20 c22 q_x23 ph1_S26), (by have t : kv29 = 5 → 0 < kv19 := (qr252 hiv4 hiv6 hO q_x7 c8 c10 ph0_S15 mo30 ph3_S15 q_x20 c22 q_x23 hiv24 ph0_S26 ph1_S26); rw [d_kv29, d_kv19] at t; exact t), (by have t : kv29 = 5 ∨ ¬ iv4 = 5 := (qr253 hiv4 q_x7 c8 c10 mo30 ph3_S15 q_x20 c22 q_x23 ph1_S26); rw [di_9, d_kv29] at t; exact t), (by have t : iv2 ≤ kv31 ∧ (kv29 = 4 → iv2 < kv31 ∨ iv4 = 4) := (qr254 r_kv1 hiv2 hiv4 q_x7 c8 c10 hiv13 mo30 ph2_S15 ph3_S15 q_x20 c22 q_x23 ph1_S26 r_kv31 ph2_S26); rw [di_8, di_9, d_kv31, d_kv29] at t; exact t)⟩
      · refine u_X11_readWhole_49 ?_
        refine ⟨o_v0, ?_⟩
        obtain ⟨iv32, hiv32⟩ : ∃ z : Int32, z = kv19 := ⟨_, rfl⟩
        have d_iv32 := hiv32.trans d_kv19
        have do32_kv1 := d_kv1
        have do32_x20 := d_x20
        have do32_iv32 := d_iv32
        refine m_X11_goesOn hI o_v0 hG (by have t : x20 = 5 → 0 < kv19 := (qr255 hiv4 hiv6 hO q_x7 c8 c10 ph0_S15 mo21 ph3_S15 q_x20 c22); rw [d_x20, d_kv19] at t; exact t) (fun S34 hJ g35 fc36 p_S34 => ?_)
        obtain ⟨hG, pg0_S34, pg1_S34, pg2_S34⟩ := p_S34
        have hI := hJ
        have d_kv19 := d_kv19.trans (fri_at fc36 (by decide) (by decide) o_v0).symm
        have f0 := fri_tr (S := S15) g0 f0 fc36 (by decide) (by decide)
        have o_v0 := gr_ob g35 o_v0
        have g0 := gr_tr (T := S15) g0 g35
        obtain ⟨kv37, d_kv37⟩ : ∃ z : Int32, z = fI S34 v0 9 := ⟨_, rfl⟩
        have ph0_S34 : kv37 = 5 → 0 < kv19 := by rw [d_kv37, d_kv19]; exact pg0_S34
        have ph1_S34 : kv37 = 5 ∨ ¬ x20 = 5 := by rw [do32_x20, d_kv37]; exact pg1_S34
        have mo38 : kv37 = 5 ∨ ¬ x7 = 5 := ph1_S34.elim Or.inl (fun h => Or.inr (mo21.resolve_left h))
        obtain ⟨kv39, d_kv39⟩ : ∃ z : Int32, z = fI S34 v0 8 := ⟨_, rfl⟩
        have r_kv39 : (0 : Int32) ≤ kv39 ∧ kv39 ≤ (900 : Int32) := by rw [d_kv39]; exact nu 25 rfl hI o_v0
        have ph2_S34 : kv1 ≤ kv39 ∧ (kv37 = 4 → kv1 < kv39 ∨ x20 = 4) := by rw [do32_kv1, do32_x20, d_kv39, d_kv37]; exact pg2_S34
        intro _
        exact hq _ _ hI g0 f0 ⟨hG, (qr256 hiv4 q_x7 c8 c10 mo38 ph3_S15 q_x20 c22 ph1_S34), (by have t : kv37 = 5 → 0 < kv19 := (qr257 hiv4 hiv6 hO q_x7 c8 c10 ph0_S15 mo38 ph3_S15 q_x20 c22 hiv32 ph0_S34 ph1_S34); rw [d_kv37, d_kv19] at t; exact t), (by have t : kv37 = 5 ∨ ¬ iv4 = 5 := (qr258 hiv4 q_x7 c8 c10 mo38 ph3_S15 q_x20 c22 ph1_S34); rw [di_9, d_kv37] at t; exact t), (by have t : iv2 ≤ kv39 ∧ (kv37 = 4 → iv2 < kv39 ∨ iv4 = 4) := (qr259 r_kv1 hiv2 hiv4 q_x7 c8 c10 hiv13 mo38 ph2_S15 ph3_S15 q_x20 c22 ph1_S34 r_kv39 ph2_S34); rw [di_8, di_9, d_kv39, d_kv37] at t; exact t)⟩
    · refine ⟨fun c40 => ?_, fun c40 => ?_⟩
      · intro _ _
        refine ⟨fun c42 => absurd (show ¬ (0 : Int32) = 0 from c42) (by decide), fun c42 => ?_⟩
        obtain ⟨iv43, hiv43⟩ : ∃ z : Int32, z = kv1 := ⟨_, rfl⟩
        have d_iv43 := hiv43.trans d_kv1
        have do43_iv43 := d_iv43
        have do43_x7 := d_x7
        have do43_kv5 := d_kv5
        refine m_X11_flaw hI o_v0 (qr260 hiv4 q_x7 c8 c10 c40) hG (by have t : x7 = 5 → 0 < kv5 := (qr261 hiv4 hiv6 hO q_x7 c8 c10 c40); rw [d_x7, d_kv5] at t; exact t) (fun S45 hJ g46 fc47 p_S45 => ?_)
        obtain ⟨hG, pg0_S45, pg1_S45, pg2_S45, pg3_S45⟩ := p_S45
        have hI := hJ
        have d_kv1 := d_kv1.trans (fri_at fc47 (by decide) (by decide) o_v0).symm
        have d_x9 := d_x9.trans (fri_at fc47 (by decide) (by decide) o_v0).symm
        have f0 := fri_tr (S := S) g0 f0 fc47 (by decide) (by decide)
        have o_v0 := gr_ob g46 o_v0
        have g0 := gr_tr (T := S) g0 g46
        obtain ⟨kv48, d_kv48⟩ : ∃ z : Int32, z = fI S45 v0 9 := ⟨_, rfl⟩
        obtain ⟨kv49, d_kv49⟩ : ∃ z : Int32, z = fI S45 v0 13 := ⟨_, rfl⟩
        have ph0_S45 : kv48 = 5 → 0 < kv49 := by rw [d_kv48, d_kv49]; exact pg0_S45
        have ph1_S45 : kv48 = 5 ∨ ¬ x7 = 5 := by rw [do43_x7, d_kv48]; exact pg1_S45
        have ph2_S45 : iv43 ≤ kv1 ∧ (kv48 = 4 → iv43 < kv1 ∨ x7 = 4) := by rw [do43_iv43, do43_x7, d_kv1, d_kv48]; exact pg2_S45
        have ph3_S45 : kv48 = 5 := by rw [d_kv48]; exact pg3_S45
        intro _
        refine u_X11_readWhole_33 ?_
        refine ⟨o_v0, ?_⟩
        intro x50 ex50
        have q_x50 : x50 = kv48 := ex50.trans d_kv48.symm
        have mo51 : x50 = 5 ∨ ¬ x7 = 5 := ph1_S45.imp_left (fun z => q_x50.trans z)
        have d_x50 := ex50
        refine ⟨fun c52 => ?_, fun c52 => ?_⟩
        · intro x53 ex53
          have q_x53 : x53 = x9 := ex53.trans d_x9.symm
          have d_x53 := ex53
          refine u_X11_readWhole_49 ?_
          refine ⟨o_v0, ?_⟩
          obtain ⟨iv54, hiv54⟩ : ∃ z : Int32, z = kv49 := ⟨_, rfl⟩
          have d_iv54 := hiv54.trans d_kv49
          have do54_kv1 := d_kv1
          have do54_x50 := d_x50
          have do54_iv54 := d_iv54
          refine m_X11_goesOn hI o_v0 hG (by have t : x50 = 5 → 0 < kv49 := (qr262 hiv4 hiv6 hO q_x7 c8 c10 c40 ph0_S45 mo51 ph3_S45 q_x50 c52 q_x53); rw [d_x50, d_kv49] at t; exact t) (fun S56 hJ g57 fc58 p_S56 => ?_)
          obtain ⟨hG, pg0_S56, pg1_S56, pg2_S56⟩ := p_S56
          have hI := hJ
          have d_kv49 := d_kv49.trans (fri_at fc58 (by decide) (by decide) o_v0).symm
          have f0 := fri_tr (S := S45) g0 f0 fc58 (by decide) (by decide)
          have o_v0 := gr_ob g57 o_v0
          have g0 := gr_tr (T := S45) g0 g57
          obtain ⟨kv59, d_kv59⟩ : ∃ z : Int32, z = fI S56 v0 9 := ⟨_, rfl⟩
          have ph0_S56 : kv59 = 5 → 0 < kv49 := by rw [d_kv59, d_kv49]; exact pg0_S56
          have ph1_S56 : kv59 = 5 ∨ ¬ x50 = 5 := by rw [do54_x50, d_kv59]; exact pg1_S56
          have mo60 : kv59 = 5 ∨ ¬ x7 = 5 := ph1_S56.elim Or.inl (fun h => Or.inr (mo51.resolve_left h))
          obtain ⟨kv61, d_kv61⟩ : ∃ z : Int32, z = fI S56 v0 8 := ⟨_, rfl⟩
          have r_kv61 : (0 : Int32) ≤ kv61 ∧ kv61 ≤ (900 : Int32) := by rw [d_kv61]; exact nu 25 rfl hI o_v0
          have ph2_S56 : kv1 ≤ kv61 ∧ (kv59 = 4 → kv1 < kv61 ∨ x50 = 4) := by rw [do54_kv1, do54_x50, d_kv61, d_kv59]; exact pg2_S56
          intro _
          exact hq _ _ hI g0 f0 ⟨hG, (qr263 hiv4 q_x7 c8 c10 c40 mo60 ph3_S45 q_x50 c52 q_x53 ph1_S56), (by have t : kv59 = 5 → 0 < kv49 := (qr264 hiv4 hiv6 hO q_x7 c8 c10 c40 ph0_S45 mo60 ph3_S45 q_x50 c52 q_x53 hiv54 ph0_S56 ph1_S56); rw [d_kv59, d_kv49] at t; exact t), (by have t : kv59 = 5 ∨ ¬ iv4 = 5 := (qr265 hiv4 q_x7 c8 c10 c40 mo60 ph3_S45 q_x50 c52 q_x53 ph1_S56); rw [di_9, d_kv59] at t; exact t), (by have t : iv2 ≤ kv61 ∧ (kv59 = 4 → iv2 < kv61 ∨ iv4 = 4) := (qr266 r_kv1 hiv2 hiv4 q_x7 c8 c10 c40 hiv43 mo60 ph2_S45 ph3_S45 q_x50 c52 q_x53 ph1_S56 r_kv61 ph2_S56); rw [di_8, di_9, d_kv61, d_kv59] at t; exact t)⟩
        · refine u_X11_readWhole_49 ?_
          refine ⟨o_v0, ?_⟩
          obtain ⟨iv62, hiv62⟩ : ∃ z : Int32, z = kv49 := ⟨_, rfl⟩
          have d_iv62 := hiv62.trans d_kv49
          have do62_kv1 := d_kv1
          have do62_x50 := d_x50
          have do62_iv62 := d_iv62
          refine m_X11_goesOn hI o_v0 hG (by have t : x50 = 5 → 0 < kv49 := (qr267 hiv4 hiv6 hO q_x7 c8 c10 c40 ph0_S45 mo51 ph3_S45 q_x50 c52); rw [d_x50, d_kv49] at t; exact t) (fun S64 hJ g65 fc66 p_S64 => ?_)
          obtain ⟨hG, pg0_S64, pg1_S64, pg2_S64⟩ := p_S64
          have hI := hJ
          have d_kv49 := d_kv49.trans (fri_at fc66 (by decide) (by decide) o_v0).symm
          have f0 := fri_tr (S := S45) g0 f0 fc66 (by decide) (by decide)
          have o_v0 := gr_ob g65 o_v0
          have g0 := gr_tr (T := S45) g0 g65
          obtain ⟨kv67, d_kv67⟩ : ∃ z : Int32, z = fI S64 v0 9 := ⟨_, rfl⟩
          have ph0_S64 : kv67 = 5 → 0 < kv49 := by rw [d_kv67, d_kv49]; exact pg0_S64
          have ph1_S64 : kv67 = 5 ∨ ¬ x50 = 5 := by rw [do62_x50, d_kv67]; exact pg1_S64
          have mo68 : kv67 = 5 ∨ ¬ x7 = 5 := ph1_S64.elim Or.inl (fun h => Or.inr (mo51.resolve_left h))
          obtain ⟨kv69, d_kv69⟩ : ∃ z : Int32, z = fI S64 v0 8 := ⟨_, rfl⟩
          have r_kv69 : (0 : Int32) ≤ kv69 ∧ kv69 ≤ (900 : Int32) := by rw [d_kv69]; exact nu 25 rfl hI o_v0
          have ph2_S64 : kv1 ≤ kv69 ∧ (kv67 = 4 → kv1 < kv69 ∨ x50 = 4) := by rw [do62_kv1, do62_x50, d_kv69, d_kv67]; exact pg2_S64
          intro _
          exact hq _ _ hI g0 f0 ⟨hG, (qr268 hiv4 q_x7 c8 c10 c40 mo68 ph3_S45 q_x50 c52 ph1_S64), (by have t : kv67 = 5 → 0 < kv49 := (qr269 hiv4 hiv6 hO q_x7 c8 c10 c40 ph0_S45 mo68 ph3_S45 q_x50 c52 hiv62 ph0_S64 ph1_S64); rw [d_kv67, d_kv49] at t; exact t), (by have t : kv67 = 5 ∨ ¬ iv4 = 5 := (qr270 hiv4 q_x7 c8 c10 c40 mo68 ph3_S45 q_x50 c52 ph1_S64); rw [di_9, d_kv67] at t; exact t), (by have t : iv2 ≤ kv69 ∧ (kv67 = 4 → iv2 < kv69 ∨ iv4 = 4) := (qr271 r_kv1 hiv2 hiv4 q_x7 c8 c10 c40 hiv43 mo68 ph2_S45 ph3_S45 q_x50 c52 ph1_S64 r_kv69 ph2_S64); rw [di_8, di_9, d_kv69, d_kv67] at t; exact t)⟩
      · intro _ _
        refine ⟨fun c71 => ?_, fun c71 => absurd (show (1 : Int32) = 0 from c71) (by decide)⟩
        refine u_X11_readWhole_33 ?_
        refine ⟨o_v0, ?_⟩
        intro x72 ex72
        have q_x72 : x72 = x7 := ex72.trans d_x7.symm
        have d_x72 := ex72
        refine ⟨fun c73 => ?_, fun c73 => ?_⟩
        · intro x74 ex74
          have q_x74 : x74 = x9 := ex74.trans d_x9.symm
          have d_x74 := ex74
          refine u_X11_readWhole_49 ?_
          refine ⟨o_v0, ?_⟩
          obtain ⟨iv75, hiv75⟩ : ∃ z : Int32, z = kv5 := ⟨_, rfl⟩
          have d_iv75 := hiv75.trans d_kv5
          have do75_kv1 := d_kv1
          have do75_x72 := d_x72
          have do75_iv75 := d_iv75
          refine m_X11_goesOn hI o_v0 hG (by have t : x72 = 5 → 0 < kv5 := (qr272 hiv4 hiv6 hO q_x7 c8 c10 c40 q_x72 c73 q_x74); rw [d_x72, d_kv5] at t; exact t) (fun S77 hJ g78 fc79 p_S77 => ?_)
          obtain ⟨hG, pg0_S77, pg1_S77, pg2_S77⟩ := p_S77
          have hI := hJ
          have d_kv5 := d_kv5.trans (fri_at fc79 (by decide) (by decide) o_v0).symm
          have f0 := fri_tr (S := S) g0 f0 fc79 (by decide) (by decide)
          have o_v0 := gr_ob g78 o_v0
          have g0 := gr_tr (T := S) g0 g78
          obtain ⟨kv80, d_kv80⟩ : ∃ z : Int32, z = fI S77 v0 9 := ⟨_, rfl⟩
          have ph0_S77 : kv80 = 5 → 0 < kv5 := by rw [d_kv80, d_kv5]; exact pg0_S77
          have ph1_S77 : kv80 = 5 ∨ ¬ x72 = 5 := by rw [do75_x72, d_kv80]; exact pg1_S77
          obtain ⟨kv81, d_kv81⟩ : ∃ z : Int32, z = fI S77 v0 8 := ⟨_, rfl⟩
          have r_kv81 : (0 : Int32) ≤ kv81 ∧ kv81 ≤ (900 : Int32) := by rw [d_kv81]; exact nu 25 rfl hI o_v0
          have ph2_S77 : kv1 ≤ kv81 ∧ (kv80 = 4 → kv1 < kv81 ∨ x72 = 4) := by rw [do75_kv1, do75_x72, d_kv81, d_kv80]; exact pg2_S77
          intro _
          exact hq _ _ hI g0 f0 ⟨hG, (qr273 hiv4 q_x7 c8 c10 c40 q_x72 c73 q_x74 ph1_S77), (by have t : kv80 = 5 → 0 < kv5 := (qr274 hiv4 hiv6 hO q_x7 c8 c10 c40 q_x72 c73 q_x74 hiv75 ph0_S77 ph1_S77); rw [d_kv80, d_kv5] at t; exact t), (by have t : kv80 = 5 ∨ ¬ iv4 = 5 := (qr275 hiv4 q_x7 c8 c10 c40 q_x72 c73 q_x74 ph1_S77); rw [di_9, d_kv80] at t; exact t), (by have t : iv2 ≤ kv81 ∧ (kv80 = 4 → iv2 < kv81 ∨ iv4 = 4) := (qr276 r_kv1 hiv2 hiv4 q_x7 c8 c10 c40 q_x72 c73 q_x74 ph1_S77 r_kv81 ph2_S77); rw [di_8, di_9, d_kv81, d_kv80] at t; exact t)⟩
        · refine u_X11_readWhole_49 ?_
          refine ⟨o_v0, ?_⟩
          obtain ⟨iv82, hiv82⟩ : ∃ z : Int32, z = kv5 := ⟨_, rfl⟩
          have d_iv82 := hiv82.trans d_kv5
          have do82_kv1 := d_kv1
          have do82_x72 := d_x72
          have do82_iv82 := d_iv82
          refine m_X11_goesOn hI o_v0 hG (by have t : x72 = 5 → 0 < kv5 := (qr277 hiv4 hiv6 hO q_x7 c8 c10 c40 q_x72 c73); rw [d_x72, d_kv5] at t; exact t) (fun S84 hJ g85 fc86 p_S84 => ?_)
          obtain ⟨hG, pg0_S84, pg1_S84, pg2_S84⟩ := p_S84
          have hI := hJ
          have d_kv5 := d_kv5.trans (fri_at fc86 (by decide) (by decide) o_v0).symm
          have f0 := fri_tr (S := S) g0 f0 fc86 (by decide) (by decide)
          have o_v0 := gr_ob g85 o_v0
          have g0 := gr_tr (T := S) g0 g85
          obtain ⟨kv87, d_kv87⟩ : ∃ z : Int32, z = fI S84 v0 9 := ⟨_, rfl⟩
          have ph0_S84 : kv87 = 5 → 0 < kv5 := by rw [d_kv87, d_kv5]; exact pg0_S84
          have ph1_S84 : kv87 = 5 ∨ ¬ x72 = 5 := by rw [do82_x72, d_kv87]; exact pg1_S84
          obtain ⟨kv88, d_kv88⟩ : ∃ z : Int32, z = fI S84 v0 8 := ⟨_, rfl⟩
          have r_kv88 : (0 : Int32) ≤ kv88 ∧ kv88 ≤ (900 : Int32) := by rw [d_kv88]; exact nu 25 rfl hI o_v0
          have ph2_S84 : kv1 ≤ kv88 ∧ (kv87 = 4 → kv1 < kv88 ∨ x72 = 4) := by rw [do82_kv1, do82_x72, d_kv88, d_kv87]; exact pg2_S84
          intro _
          exact hq _ _ hI g0 f0 ⟨hG, (qr278 hiv4 q_x7 c8 c10 c40 q_x72 c73 ph1_S84), (by have t : kv87 = 5 → 0 < kv5 := (qr279 hiv4 hiv6 hO q_x7 c8 c10 c40 q_x72 c73 hiv82 ph0_S84 ph1_S84); rw [d_kv87, d_kv5] at t; exact t), (by have t : kv87 = 5 ∨ ¬ iv4 = 5 := (qr280 hiv4 q_x7 c8 c10 c40 q_x72 c73 ph1_S84); rw [di_9, d_kv87] at t; exact t), (by have t : iv2 ≤ kv88 ∧ (kv87 = 4 → iv2 < kv88 ∨ iv4 = 4) := (qr281 r_kv1 hiv2 hiv4 q_x7 c8 c10 c40 q_x72 c73 ph1_S84 r_kv88 ph2_S84); rw [di_8, di_9, d_kv88, d_kv87] at t; exact t)⟩
  · obtain ⟨iv89, hiv89⟩ : ∃ z : Int32, z = kv1 := ⟨_, rfl⟩
    have d_iv89 := hiv89.trans d_kv1
    have do89_iv89 := d_iv89
    have do89_x7 := d_x7
    have do89_kv5 := d_kv5
    refine m_X11_flaw hI o_v0 (qr282 hiv4 q_x7 c8) hG (by have t : x7 = 5 → 0 < kv5 := (qr283 hiv4 hiv6 hO q_x7 c8); rw [d_x7, d_kv5] at t; exact t) (fun S91 hJ g92 fc93 p_S91 => ?_)
    obtain ⟨hG, pg0_S91, pg1_S91, pg2_S91, pg3_S91⟩ := p_S91
    have hI := hJ
    have d_kv1 := d_kv1.trans (fri_at fc93 (by decide) (by decide) o_v0).symm
    have f0 := fri_tr (S := S) g0 f0 fc93 (by decide) (by decide)
    have o_v0 := gr_ob g92 o_v0
    have g0 := gr_tr (T := S) g0 g92
    obtain ⟨kv94, d_kv94⟩ : ∃ z : Int32, z = fI S91 v0 9 := ⟨_, rfl⟩
    obtain ⟨kv95, d_kv95⟩ : ∃ z : Int32, z = fI S91 v0 13 := ⟨_, rfl⟩
    have ph0_S91 : kv94 = 5 → 0 < kv95 := by rw [d_kv94, d_kv95]; exact pg0_S91
    have ph1_S91 : kv94 = 5 ∨ ¬ x7 = 5 := by rw [do89_x7, d_kv94]; exact pg1_S91
    have ph2_S91 : iv89 ≤ kv1 ∧ (kv94 = 4 → iv89 < kv1 ∨ x7 = 4) := by rw [do89_iv89, do89_x7, d_kv1, d_kv94]; exact pg2_S91
    have ph3_S91 : kv94 = 5 := by rw [d_kv94]; exact pg3_S91
    intro _
    refine u_X11_readWhole_33 ?_
    refine ⟨o_v0, ?_⟩
    intro x96 ex96
    have q_x96 : x96 = kv94 := ex96.trans d_kv94.symm
    have mo97 : x96 = 5 ∨ ¬ x7 = 5 := ph1_S91.imp_left (fun z => q_x96.trans z)
    have d_x96 := ex96
    refine ⟨fun c98 => ?_, fun c98 => ?_⟩
    · intro x99 ex99
      have d_x99 := ex99
      refine u_X11_readWhole_49 ?_
      refine ⟨o_v0, ?_⟩
      obtain ⟨iv100, hiv100⟩ : ∃ z : Int32, z = kv95 := ⟨_, rfl⟩
      have d_iv100 := hiv100.trans d_kv95
      have do100_kv1 := d_kv1
      have do100_x96 := d_x96
      have do100_iv100 := d_iv100
      refine m_X11_goesOn hI o_v0 hG (by have t : x96 = 5 → 0 < kv95 := (qr284 hiv4 hiv6 hO q_x7 c8 ph0_S91 mo97 ph3_S91 q_x96 c98); rw [d_x96, d_kv95] at t; exact t) (fun S102 hJ g103 fc104 p_S102 => ?_)
      obtain ⟨hG, pg0_S102, pg1_S102, pg2_S102⟩ := p_S102
      have hI := hJ
      have d_kv95 := d_kv95.trans (fri_at fc104 (by decide) (by decide) o_v0).symm
      have f0 := fri_tr (S := S91) g0 f0 fc104 (by decide) (by decide)
      have o_v0 := gr_ob g103 o_v0
      have g0 := gr_tr (T := S91) g0 g103
      obtain ⟨kv105, d_kv105⟩ : ∃ z : Int32, z = fI S102 v0 9 := ⟨_, rfl⟩
      have ph0_S102 : kv105 = 5 → 0 < kv95 := by rw [d_kv105, d_kv95]; exact pg0_S102
      have ph1_S102 : kv105 = 5 ∨ ¬ x96 = 5 := by rw [do100_x96, d_kv105]; exact pg1_S102
      have mo106 : kv105 = 5 ∨ ¬ x7 = 5 := ph1_S102.elim Or.inl (fun h => Or.inr (mo97.resolve_left h))
      obtain ⟨kv107, d_kv107⟩ : ∃ z : Int32, z = fI S102 v0 8 := ⟨_, rfl⟩
      have r_kv107 : (0 : Int32) ≤ kv107 ∧ kv107 ≤ (900 : Int32) := by rw [d_kv107]; exact nu 25 rfl hI o_v0
      have ph2_S102 : kv1 ≤ kv107 ∧ (kv105 = 4 → kv1 < kv107 ∨ x96 = 4) := by rw [do100_kv1, do100_x96, d_kv107, d_kv105]; exact pg2_S102
      intro _
      exact hq _ _ hI g0 f0 ⟨hG, (qr285 hiv4 q_x7 c8 mo106 ph3_S91 q_x96 c98 ph1_S102), (by have t : kv105 = 5 → 0 < kv95 := (qr286 hiv4 hiv6 hO q_x7 c8 ph0_S91 mo106 ph3_S91 q_x96 c98 hiv100 ph0_S102 ph1_S102); rw [d_kv105, d_kv95] at t; exact t), (by have t : kv105 = 5 ∨ ¬ iv4 = 5 := (qr287 hiv4 q_x7 c8 mo106 ph3_S91 q_x96 c98 ph1_S102); rw [di_9, d_kv105] at t; exact t), (by have t : iv2 ≤ kv107 ∧ (kv105 = 4 → iv2 < kv107 ∨ iv4 = 4) := (qr288 r_kv1 hiv2 hiv4 q_x7 c8 hiv89 mo106 ph2_S91 ph3_S91 q_x96 c98 ph1_S102 r_kv107 ph2_S102); rw [di_8, di_9, d_kv107, d_kv105] at t; exact t)⟩
    · refine u_X11_readWhole_49 ?_
      refine ⟨o_v0, ?_⟩
      obtain ⟨iv108, hiv108⟩ : ∃ z : Int32, z = kv95 := ⟨_, rfl⟩
      have d_iv108 := hiv108.trans d_kv95
      have do108_kv1 := d_kv1
      have do108_x96 := d_x96
      have do108_iv108 := d_iv108
      refine m_X11_goesOn hI o_v0 hG (by have t : x96 = 5 → 0 < kv95 := (qr289 hiv4 hiv6 hO q_x7 c8 ph0_S91 mo97 ph3_S91 q_x96 c98); rw [d_x96, d_kv95] at t; exact t) (fun S110 hJ g111 fc112 p_S110 => ?_)
      obtain ⟨hG, pg0_S110, pg1_S110, pg2_S110⟩ := p_S110
      have hI := hJ
      have d_kv95 := d_kv95.trans (fri_at fc112 (by decide) (by decide) o_v0).symm
      have f0 := fri_tr (S := S91) g0 f0 fc112 (by decide) (by decide)
      have o_v0 := gr_ob g111 o_v0
      have g0 := gr_tr (T := S91) g0 g111
      obtain ⟨kv113, d_kv113⟩ : ∃ z : Int32, z = fI S110 v0 9 := ⟨_, rfl⟩
      have ph0_S110 : kv113 = 5 → 0 < kv95 := by rw [d_kv113, d_kv95]; exact pg0_S110
      have ph1_S110 : kv113 = 5 ∨ ¬ x96 = 5 := by rw [do108_x96, d_kv113]; exact pg1_S110
      have mo114 : kv113 = 5 ∨ ¬ x7 = 5 := ph1_S110.elim Or.inl (fun h => Or.inr (mo97.resolve_left h))
      obtain ⟨kv115, d_kv115⟩ : ∃ z : Int32, z = fI S110 v0 8 := ⟨_, rfl⟩
      have r_kv115 : (0 : Int32) ≤ kv115 ∧ kv115 ≤ (900 : Int32) := by rw [d_kv115]; exact nu 25 rfl hI o_v0
      have ph2_S110 : kv1 ≤ kv115 ∧ (kv113 = 4 → kv1 < kv115 ∨ x96 = 4) := by rw [do108_kv1, do108_x96, d_kv115, d_kv113]; exact pg2_S110
      intro _
      exact hq _ _ hI g0 f0 ⟨hG, (qr290 hiv4 q_x7 c8 mo114 ph3_S91 q_x96 c98 ph1_S110), (by have t : kv113 = 5 → 0 < kv95 := (qr291 hiv4 hiv6 hO q_x7 c8 ph0_S91 mo114 ph3_S91 q_x96 c98 hiv108 ph0_S110 ph1_S110); rw [d_kv113, d_kv95] at t; exact t), (by have t : kv113 = 5 ∨ ¬ iv4 = 5 := (qr292 hiv4 q_x7 c8 mo114 ph3_S91 q_x96 c98 ph1_S110); rw [di_9, d_kv113] at t; exact t), (by have t : iv2 ≤ kv115 ∧ (kv113 = 4 → iv2 < kv115 ∨ iv4 = 4) := (qr293 r_kv1 hiv2 hiv4 q_x7 c8 hiv89 mo114 ph2_S91 ph3_S91 q_x96 c98 ph1_S110 r_kv115 ph2_S110); rw [di_8, di_9, d_kv115, d_kv113] at t; exact t)⟩
