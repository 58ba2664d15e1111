set_option maxHeartbeats 4000000 in
set_option maxRecDepth 20000 in
theorem m_X11_needs {v0 : Nat} {v1 : Nat} {Q : HS → Prop} {S : HS} (hI : IV S) (o_v0 : ob S v0 11)  (hw_v1 : v1 < 54)  (hG : RG S v0) (hO : fI S v0 9 = 5 → 0 < fI S v0 13) (hq : ∀ (T : HS), IV T → Gr S T → FRI [(11, 8), (11, 9), (11, 10), (11, 11), (11, 12), (11, 13), (11, 14)] [] S T → (RG T v0) ∧ (fI T v0 9 = 5 → 0 < fI T v0 13) ∧ (fI T v0 9 = 5 ∨ ¬ fI S v0 9 = 5) ∧ (fI S v0 8 ≤ fI T v0 8 ∧ (fI T v0 9 = 4 → fI S v0 8 < fI T v0 8 ∨ fI S v0 9 = 4)) → Q T) : P_X11_needs v0 v1 Q S := by
  have g0 := gr_rf S
  have f0 := fri_rf [(11, 8), (11, 9), (11, 10), (11, 11), (11, 12), (11, 13), (11, 14)] [] S
  obtain ⟨kv1, d_kv1⟩ : ∃ z : Int32, z = fI S v0 8 := ⟨_, rfl⟩
  have r_kv1 : (0 : Int32) ≤ kv1 ∧ kv1 ≤ (900 : Int32) := by rw [d_kv1]; exact nu 25 rfl hI o_v0
  have di_8 := d_kv1
  obtain ⟨kv2, d_kv2⟩ : ∃ z : Int32, z = fI S v0 9 := ⟨_, rfl⟩
  have di_9 := d_kv2
  obtain ⟨kv3, d_kv3⟩ : ∃ z : Int32, z = fI S v0 13 := ⟨_, rfl⟩
  have di_13 := d_kv3
  have hO : kv2 = 5 → 0 < kv3 := by rw [d_kv2, d_kv3]; exact hO
  refine u_X11_needs ?_
  refine u_X11_needs_0 ?_
  refine ⟨o_v0, ?_⟩
  refine m_X11_isWord hI o_v0 hw_v1 (fun x4 S5 hI2 g6 b_x4 p_x4 => ?_)
  obtain ⟨z_S5, p_x4⟩ := p_x4
  subst z_S5
  intro _ _
  have bb_x4 : x4 = 0 ∨ x4 = 1 := b_x4
  have iw_x4 : x4 = 0 ∨ kv2 = 2 := by rw [d_kv2]; exact p_x4
  refine ⟨fun c8 => ?_, fun c8 => ?_⟩
  · refine u_X11_needs_13 ?_
    refine ⟨o_v0, ?_⟩
    have do8_kv1 := d_kv1
    have do8_kv2 := d_kv2
    have do8_kv3 := d_kv3
    refine m_X11_goesOn hI o_v0 hG (by have t : kv2 = 5 → 0 < kv3 := (qr59 hO bb_x4 iw_x4 c8); rw [d_kv2, d_kv3] at t; exact t) (fun S10 hJ g11 fc12 p_S10 => ?_)
    obtain ⟨hG, pg0_S10, pg1_S10, pg2_S10⟩ := p_S10
    have hI := hJ
    have d_kv3 := d_kv3.trans (fri_at fc12 (by decide) (by decide) o_v0).symm
    have f0 := fri_tr (S := S) g0 f0 fc12 (by decide) (by decide)
    have o_v0 := gr_ob g11 o_v0
    have g0 := gr_tr (T := S) g0 g11
    obtain ⟨kv13, d_kv13⟩ : ∃ z : Int32, z = fI S10 v0 9 := ⟨_, rfl⟩
    have ph0_S10 : kv13 = 5 → 0 < kv3 := by rw [d_kv13, d_kv3]; exact pg0_S10
    have ph1_S10 : kv13 = 5 ∨ ¬ kv2 = 5 := by rw [do8_kv2, d_kv13]; exact pg1_S10
    obtain ⟨kv14, d_kv14⟩ : ∃ z : Int32, z = fI S10 v0 8 := ⟨_, rfl⟩
    have r_kv14 : (0 : Int32) ≤ kv14 ∧ kv14 ≤ (900 : Int32) := by rw [d_kv14]; exact nu 25 rfl hI o_v0
    have ph2_S10 : kv1 ≤ kv14 ∧ (kv13 = 4 → kv1 < kv14 ∨ kv2 = 4) := by rw [do8_kv1, do8_kv2, d_kv14, d_kv13]; exact pg2_S10
    intro _
    exact hq _ hI g0 f0 ⟨hG, (by have t : kv13 = 5 → 0 < kv3 := (qr517 hO bb_x4 iw_x4 c8 ph0_S10 ph1_S10); rw [d_kv13, d_kv3] at t; exact t), (by have t : kv13 = 5 ∨ ¬ kv2 = 5 := (qr518 bb_x4 iw_x4 c8 ph1_S10); rw [di_9, d_kv13] at t; exact t), (by have t : kv1 ≤ kv14 ∧ (kv13 = 4 → kv1 < kv14 ∨ kv2 = 4) := (qr519 r_kv1 bb_x4 iw_x4 c8 ph1_S10 r_kv14 ph2_S10); rw [di_8, di_9, d_kv14, d_kv13] at t; exact t)⟩
  · have do14_kv1 := d_kv1
    have do14_kv2 := d_kv2
    have do14_kv3 := d_kv3
    refine m_X11_flaw hI o_v0 (qr635 bb_x4 iw_x4 c8) hG (by have t : kv2 = 5 → 0 < kv3 := (qr636 hO bb_x4 iw_x4 c8); rw [d_kv2, d_kv3] at t; exact t) (fun S16 hJ g17 fc18 p_S16 => ?_)
    obtain ⟨hG, pg0_S16, pg1_S16, pg2_S16, pg3_S16⟩ := p_S16
    have hI := hJ
    have d_kv1 := d_kv1.trans (fri_at fc18 (by decide) (by decide) o_v0).symm
    have f0 := fri_tr (S := S) g0 f0 fc18 (by decide) (by decide)
    have o_v0 := gr_ob g17 o_v0
    have g0 := gr_tr (T := S) g0 g17
    obtain ⟨kv19, d_kv19⟩ : ∃ z : Int32, z = fI S16 v0 9 := ⟨_, rfl⟩
    obtain ⟨kv20, d_kv20⟩ : ∃ z : Int32, z = fI S16 v0 13 := ⟨_, rfl⟩
    have ph0_S16 : kv19 = 5 → 0 < kv20 := by rw [d_kv19, d_kv20]; exact pg0_S16
    have ph1_S16 : kv19 = 5 ∨ ¬ kv2 = 5 := by rw [do14_kv2, d_kv19]; exact pg1_S16
    have ph2_S16 : kv1 ≤ kv1 ∧ (kv19 = 4 → kv1 < kv1 ∨ kv2 = 4) := by rw [d_kv1, do14_kv2, d_kv19]; exact pg2_S16
    have ph3_S16 : kv19 = 5 := by rw [d_kv19]; exact pg3_S16
    intro _
    refine u_X11_needs_13 ?_
    refine ⟨o_v0, ?_⟩
    have do20_kv1 := d_kv1
    have do20_kv19 := d_kv19
    have do20_kv20 := d_kv20
    refine m_X11_goesOn hI o_v0 hG (by have t : kv19 = 5 → 0 < kv20 := (qr637 hO bb_x4 iw_x4 c8 ph0_S16 ph1_S16 ph3_S16); rw [d_kv19, d_kv20] at t; exact t) (fun S22 hJ g23 fc24 p_S22 => ?_)
    obtain ⟨hG, pg0_S22, pg1_S22, pg2_S22⟩ := p_S22
    have hI := hJ
    have d_kv20 := d_kv20.trans (fri_at fc24 (by decide) (by decide) o_v0).symm
    have f0 := fri_tr (S := S16) g0 f0 fc24 (by decide) (by decide)
    have o_v0 := gr_ob g23 o_v0
    have g0 := gr_tr (T := S16) g0 g23
    obtain ⟨kv25, d_kv25⟩ : ∃ z : Int32, z = fI S22 v0 9 := ⟨_, rfl⟩
    have ph0_S22 : kv25 = 5 → 0 < kv20 := by rw [d_kv25, d_kv20]; exact pg0_S22
    have ph1_S22 : kv25 = 5 ∨ ¬ kv19 = 5 := by rw [do20_kv19, d_kv25]; exact pg1_S22
    obtain ⟨kv26, d_kv26⟩ : ∃ z : Int32, z = fI S22 v0 8 := ⟨_, rfl⟩
    have r_kv26 : (0 : Int32) ≤ kv26 ∧ kv26 ≤ (900 : Int32) := by rw [d_kv26]; exact nu 25 rfl hI o_v0
    have ph2_S22 : kv1 ≤ kv26 ∧ (kv25 = 4 → kv1 < kv26 ∨ kv19 = 4) := by rw [do20_kv1, do20_kv19, d_kv26, d_kv25]; exact pg2_S22
    intro _
    exact hq _ hI g0 f0 ⟨hG, (by have t : kv25 = 5 → 0 < kv20 := (qr638 hO bb_x4 iw_x4 c8 ph0_S16 ph1_S16 ph3_S16 ph0_S22 ph1_S22); rw [d_kv25, d_kv20] at t; exact t), (by have t : kv25 = 5 ∨ ¬ kv2 = 5 := (qr639 bb_x4 iw_x4 c8 ph1_S16 ph3_S16 ph1_S22); rw [di_9, d_kv25] at t; exact t), (by have t : kv1 ≤ kv26 ∧ (kv25 = 4 → kv1 < kv26 ∨ kv2 = 4) := (qr640 r_kv1 bb_x4 iw_x4 c8 ph1_S16 ph2_S16 ph3_S16 ph1_S22 r_kv26 ph2_S22); rw [di_8, di_9, d_kv26, d_kv25] at t; exact t)⟩
set_option maxHeartbeats 4000000 in
set_option maxRecDepth 20000 in
theorem m_X11_readFresh {v0 : Nat} {Q : Int64 → HS → Prop} {S : HS} (hI : IV S) (o_v0 : ob S v0 11)    (hG : RG S v0) (hO : fI S v0 9 = 5 → 0 < fI S v0 13) (hq : ∀ (r : Int64) (T : HS), IV T → Gr S T → FRI [(11, 8), (11, 9), (11, 10), (11, 11), (11, 12), (11, 13), (11, 14)] [] S T → (RG T v0) ∧ (fI T v0 9 = 5 → 0 < fI T v0 13) ∧ (fI T v0 9 = 5 ∨ ¬ fI S v0 9 = 5) ∧ (fI S v0 8 ≤ fI T v0 8 ∧ (fI T v0 9 = 4 → fI S v0 8 < fI T v0 8 ∨ fI S v0 9 = 4)) → Q r T) : P_X11_readFresh v0 Q S := by
  have g0 := gr_rf S
  have f0 := fri_rf [(11, 8), (11, 9), (11, 10), (11, 11), (11, 12), (11, 13), (11, 14)] [] S
  obtain ⟨kv1, d_kv1⟩ : ∃ z : Int32, z = fI S v0 8 := ⟨_, rfl⟩
  have r_kv1 : (0 : Int32) ≤ kv1 ∧ kv1 ≤ (900 : Int32) := by rw [d_kv1]; exact nu 25 rfl hI o_v0
  have di_8 := d_kv1
  obtain ⟨kv2, d_kv2⟩ : ∃ z : Int32, z = fI S v0 9 := ⟨_, rfl⟩
  have di_9 := d_kv2
  obtain ⟨kv3, d_kv3⟩ : ∃ z : Int32, z = fI S v0 13 := ⟨_, rfl⟩
  have di_13 := d_kv3
  have hO : kv2 = 5 → 0 < kv3 := by rw [d_kv2, d_kv3]; exact hO
  refine u_X11_readFresh ?_
  refine u_X11_readFresh_0 ?_
  refine ⟨o_v0, ?_⟩
  refine m_X11_isName hI o_v0 (fun x4 S5 hI2 g6 b_x4 p_x4 => ?_)
  subst p_x4
  intro _ _
  have bb_x4 : x4 = 0 ∨ x4 = 1 := b_x4
  refine ⟨fun c8 => ?_, fun c8 => ?_⟩
  · refine u_X11_readFresh_12 ?_
    refine ⟨o_v0, ?_⟩
    obtain ⟨a9, ea9, o_a9, -⟩ := id hG
    refine ⟨a9, ea9, ?_⟩
    intro x10 ex10
    have dj_x10 := ex10
    refine ⟨o_a9, ?_⟩
    refine m_X10_find hI o_a9 (fun x11 S12 hI2 g13 p_x11 => ?_)
    obtain ⟨z_S12, p_x11⟩ := p_x11
    subst z_S12
    intro _
    obtain ⟨kv15, d_kv15⟩ : ∃ z : Int32, z = fI S a9 6 := ⟨_, rfl⟩
    have r_kv15 : (0 : Int32) ≤ kv15 ∧ kv15 ≤ (12 : Int32) := by rw [d_kv15]; exact nu 22 rfl hI o_a9
    have fn_x11 : x11 = -1 ∨ (0 ≤ x11 ∧ x11 < kv15) := by rw [d_kv15]; exact p_x11
    refine ⟨fun c16 => ?_, fun c16 => ?_⟩
    · refine u_X11_readFresh_32 ?_
      refine ⟨o_v0, ?_⟩
      intro x17 ex17
      have q_x17 : x17 = x10 := ex17.trans dj_x10.symm
      have dj_x17 := ex17
      have do17_kv1 := d_kv1
      have do17_kv2 := d_kv2
      have do17_kv3 := d_kv3
      refine m_X11_goesOn hI o_v0 hG (by have t : kv2 = 5 → 0 < kv3 := (qr613 hO bb_x4 c8 r_kv15 fn_x11 c16); rw [d_kv2, d_kv3] at t; exact t) (fun S19 hJ g20 fc21 p_S19 => ?_)
      obtain ⟨hG, pg0_S19, pg1_S19, pg2_S19⟩ := p_S19
      have hI := hJ
      have d_kv3 := d_kv3.trans (fri_at fc21 (by decide) (by decide) o_v0).symm
      have d_kv15 := d_kv15.trans (fri_at fc21 (by decide) (by decide) o_a9).symm
      have ea9 := (frr_at fc21 (by decide) (by decide) o_v0).trans ea9
      have f0 := fri_tr (S := S) g0 f0 fc21 (by decide) (by decide)
      have o_a9 := gr_ob g20 o_a9
      have o_v0 := gr_ob g20 o_v0
      have g0 := gr_tr (T := S) g0 g20
      obtain ⟨kv22, d_kv22⟩ : ∃ z : Int32, z = fI S19 v0 9 := ⟨_, rfl⟩
      have ph0_S19 : kv22 = 5 → 0 < kv3 := by rw [d_kv22, d_kv3]; exact pg0_S19
      have ph1_S19 : kv22 = 5 ∨ ¬ kv2 = 5 := by rw [do17_kv2, d_kv22]; exact pg1_S19
      obtain ⟨kv23, d_kv23⟩ : ∃ z : Int32, z = fI S19 v0 8 := ⟨_, rfl⟩
      have r_kv23 : (0 : Int32) ≤ kv23 ∧ kv23 ≤ (900 : Int32) := by rw [d_kv23]; exact nu 25 rfl hI o_v0
      have ph2_S19 : kv1 ≤ kv23 ∧ (kv22 = 4 → kv1 < kv23 ∨ kv2 = 4) := by rw [do17_kv1, do17_kv2, d_kv23, d_kv22]; exact pg2_S19
      intro _
      exact hq _ _ hI g0 f0 ⟨hG, (by have t : kv22 = 5 → 0 < kv3 := (qr614 hO bb_x4 c8 r_kv15 fn_x11 c16 ph0_S19 ph1_S19); rw [d_kv22, d_kv3] at t; exact t), (by have t : kv22 = 5 ∨ ¬ kv2 = 5 := (qr615 bb_x4 c8 r_kv15 fn_x11 c16 ph1_S19); rw [di_9, d_kv22] at t; exact t), (by have t : kv1 ≤ kv23 ∧ (kv22 = 4 → kv1 < kv23 ∨ kv2 = 4) := (qr616 r_kv1 bb_x4 c8 r_kv15 fn_x11 c16 ph1_S19 r_kv23 ph2_S19); rw [di_8, di_9, d_kv23, d_kv22] at t; exact t)⟩
    · have do23_kv1 := d_kv1
      have do23_kv2 := d_kv2
      have do23_kv3 := d_kv3
      refine m_X11_flaw hI o_v0 (qr617 bb_x4 c8 r_kv15 fn_x11 c16) hG (by have t : kv2 = 5 → 0 < kv3 := (qr618 hO bb_x4 c8 r_kv15 fn_x11 c16); rw [d_kv2, d_kv3] at t; exact t) (fun S25 hJ g26 fc27 p_S25 => ?_)
      obtain ⟨hG, pg0_S25, pg1_S25, pg2_S25, pg3_S25⟩ := p_S25
      have hI := hJ
      have d_kv1 := d_kv1.trans (fri_at fc27 (by decide) (by decide) o_v0).symm
      have d_kv15 := d_kv15.trans (fri_at fc27 (by decide) (by decide) o_a9).symm
      have ea9 := (frr_at fc27 (by decide) (by decide) o_v0).trans ea9
      have f0 := fri_tr (S := S) g0 f0 fc27 (by decide) (by decide)
      have o_a9 := gr_ob g26 o_a9
      have o_v0 := gr_ob g26 o_v0
      have g0 := gr_tr (T := S) g0 g26
      obtain ⟨kv28, d_kv28⟩ : ∃ z : Int32, z = fI S25 v0 9 := ⟨_, rfl⟩
      obtain ⟨kv29, d_kv29⟩ : ∃ z : Int32, z = fI S25 v0 13 := ⟨_, rfl⟩
      have ph0_S25 : kv28 = 5 → 0 < kv29 := by rw [d_kv28, d_kv29]; exact pg0_S25
      have ph1_S25 : kv28 = 5 ∨ ¬ kv2 = 5 := by rw [do23_kv2, d_kv28]; exact pg1_S25
      have ph2_S25 : kv1 ≤ kv1 ∧ (kv28 = 4 → kv1 < kv1 ∨ kv2 = 4) := by rw [d_kv1, do23_kv2, d_kv28]; exact pg2_S25
      have ph3_S25 : kv28 = 5 := by rw [d_kv28]; exact pg3_S25
      intro _
      refine u_X11_readFresh_32 ?_
      refine ⟨o_v0, ?_⟩
      intro x30 ex30
      have dj_x30 := ex30
      have do30_kv1 := d_kv1
      have do30_kv28 := d_kv28
      have do30_kv29 := d_kv29
      refine m_X11_goesOn hI o_v0 hG (by have t : kv28 = 5 → 0 < kv29 := (qr619 hO bb_x4 c8 r_kv15 fn_x11 c16 ph0_S25 ph1_S25 ph3_S25); rw [d_kv28, d_kv29] at t; exact t) (fun S32 hJ g33 fc34 p_S32 => ?_)
      obtain ⟨hG, pg0_S32, pg1_S32, pg2_S32⟩ := p_S32
      have hI := hJ
      have d_kv15 := d_kv15.trans (fri_at fc34 (by decide) (by decide) o_a9).symm
      have d_kv29 := d_kv29.trans (fri_at fc34 (by decide) (by decide) o_v0).symm
      have ea9 := (frr_at fc34 (by decide) (by decide) o_v0).trans ea9
      have f0 := fri_tr (S := S25) g0 f0 fc34 (by decide) (by decide)
      have o_a9 := gr_ob g33 o_a9
      have o_v0 := gr_ob g33 o_v0
      have g0 := gr_tr (T := S25) g0 g33
      obtain ⟨kv35, d_kv35⟩ : ∃ z : Int32, z = fI S32 v0 9 := ⟨_, rfl⟩
      have ph0_S32 : kv35 = 5 → 0 < kv29 := by rw [d_kv35, d_kv29]; exact pg0_S32
      have ph1_S32 : kv35 = 5 ∨ ¬ kv28 = 5 := by rw [do30_kv28, d_kv35]; exact pg1_S32
      obtain ⟨kv36, d_kv36⟩ : ∃ z : Int32, z = fI S32 v0 8 := ⟨_, rfl⟩
      have r_kv36 : (0 : Int32) ≤ kv36 ∧ kv36 ≤ (900 : Int32) := by rw [d_kv36]; exact nu 25 rfl hI o_v0
      have ph2_S32 : kv1 ≤ kv36 ∧ (kv35 = 4 → kv1 < kv36 ∨ kv28 = 4) := by rw [do30_kv1, do30_kv28, d_kv36, d_kv35]; exact pg2_S32
      intro _
      exact hq _ _ hI g0 f0 ⟨hG, (by have t : kv35 = 5 → 0 < kv29 := (qr620 hO bb_x4 c8 r_kv15 fn_x11 c16 ph0_S25 ph1_S25 ph3_S25 ph0_S32 ph1_S32); rw [d_kv35, d_kv29] at t; exact t), (by have t : kv35 = 5 ∨ ¬ kv2 = 5 := (qr621 bb_x4 c8 r_kv15 fn_x11 c16 ph1_S25 ph3_S25 ph1_S32); rw [di_9, d_kv35] at t; exact t), (by have t : kv1 ≤ kv36 ∧ (kv35 = 4 → kv1 < kv36 ∨ kv2 = 4) := (qr622 r_kv1 bb_x4 c8 r_kv15 fn_x11 c16 ph1_S25 ph2_S25 ph3_S25 ph1_S32 r_kv36 ph2_S32); rw [di_8, di_9, d_kv36, d_kv35] at t; exact t)⟩
  · have do36_kv1 := d_kv1
    have do36_kv2 := d_kv2
    have do36_kv3 := d_kv3
    refine m_X11_flaw hI o_v0 (qr623 bb_x4 c8) hG (by have t : kv2 = 5 → 0 < kv3 := (qr624 hO bb_x4 c8); rw [d_kv2, d_kv3] at t; exact t) (fun S38 hJ g39 fc40 p_S38 => ?_)
    obtain ⟨hG, pg0_S38, pg1_S38, pg2_S38, pg3_S38⟩ := p_S38
    have hI := hJ
    have d_kv1 := d_kv1.trans (fri_at fc40 (by decide) (by decide) o_v0).symm
    have f0 := fri_tr (S := S) g0 f0 fc40 (by decide) (by decide)
    have o_v0 := gr_ob g39 o_v0
    have g0 := gr_tr (T := S) g0 g39
    obtain ⟨kv41, d_kv41⟩ : ∃ z : Int32, z = fI S38 v0 9 := ⟨_, rfl⟩
    obtain ⟨kv42, d_kv42⟩ : ∃ z : Int32, z = fI S38 v0 13 := ⟨_, rfl⟩
    have ph0_S38 : kv41 = 5 → 0 < kv42 := by rw [d_kv41, d_kv42]; exact pg0_S38
    have ph1_S38 : kv41 = 5 ∨ ¬ kv2 = 5 := by rw [do36_kv2, d_kv41]; exact pg1_S38
    have ph2_S38 : kv1 ≤ kv1 ∧ (kv41 = 4 → kv1 < kv1 ∨ kv2 = 4) := by rw [d_kv1, do36_kv2, d_kv41]; exact pg2_S38
    have ph3_S38 : kv41 = 5 := by rw [d_kv41]; exact pg3_S38
    intro _
    refine u_X11_readFresh_12 ?_
    refine ⟨o_v0, ?_⟩
    obtain ⟨a43, ea43, o_a43, -⟩ := id hG
    refine ⟨a43, ea43, ?_⟩
    intro x44 ex44
    have dj_x44 := ex44
    refine ⟨o_a43, ?_⟩
    refine m_X10_find hI o_a43 (fun x45 S46 hI2 g47 p_x45 => ?_)
    obtain ⟨z_S46, p_x45⟩ := p_x45
    subst z_S46
    intro _
    obtain ⟨kv49, d_kv49⟩ : ∃ z : Int32, z = fI S38 a43 6 := ⟨_, rfl⟩
    have r_kv49 : (0 : Int32) ≤ kv49 ∧ kv49 ≤ (12 : Int32) := by rw [d_kv49]; exact nu 22 rfl hI o_a43
    have fn_x45 : x45 = -1 ∨ (0 ≤ x45 ∧ x45 < kv49) := by rw [d_kv49]; exact p_x45
    refine ⟨fun c50 => ?_, fun c50 => ?_⟩
    · refine u_X11_readFresh_32 ?_
      refine ⟨o_v0, ?_⟩
      intro x51 ex51
      have q_x51 : x51 = x44 := ex51.trans dj_x44.symm
      have dj_x51 := ex51
      have do51_kv1 := d_kv1
      have do51_kv41 := d_kv41
      have do51_kv42 := d_kv42
      refine m_X11_goesOn hI o_v0 hG (by have t : kv41 = 5 → 0 < kv42 := (qr625 hO bb_x4 c8 ph0_S38 ph1_S38 ph3_S38 r_kv49 fn_x45 c50); rw [d_kv41, d_kv42] at t; exact t) (fun S53 hJ g54 fc55 p_S53 => ?_)
      obtain ⟨hG, pg0_S53, pg1_S53, pg2_S53⟩ := p_S53
      have hI := hJ
      have d_kv42 := d_kv42.trans (fri_at fc55 (by decide) (by decide) o_v0).symm
      have d_kv49 := d_kv49.trans (fri_at fc55 (by decide) (by decide) o_a43).symm
      have ea43 := (frr_at fc55 (by decide) (by decide) o_v0).trans ea43
      have f0 := fri_tr (S := S38) g0 f0 fc55 (by decide) (by decide)
      have o_a43 := gr_ob g54 o_a43
      have o_v0 := gr_ob g54 o_v0
      have g0 := gr_tr (T := S38) g0 g54
      obtain ⟨kv56, d_kv56⟩ : ∃ z : Int32, z = fI S53 v0 9 := ⟨_, rfl⟩
      have ph0_S53 : kv56 = 5 → 0 < kv42 := by rw [d_kv56, d_kv42]; exact pg0_S53
      have ph1_S53 : kv56 = 5 ∨ ¬ kv41 = 5 := by rw [do51_kv41, d_kv56]; exact pg1_S53
      obtain ⟨kv57, d_kv57⟩ : ∃ z : Int32, z = fI S53 v0 8 := ⟨_, rfl⟩
      have r_kv57 : (0 : Int32) ≤ kv57 ∧ kv57 ≤ (900 : Int32) := by rw [d_kv57]; exact nu 25 rfl hI o_v0
      have ph2_S53 : kv1 ≤ kv57 ∧ (kv56 = 4 → kv1 < kv57 ∨ kv41 = 4) := by rw [do51_kv1, do51_kv41, d_kv57, d_kv56]; exact pg2_S53
      intro _
      exact hq _ _ hI g0 f0 ⟨hG, (by have t : kv56 = 5 → 0 < kv42 := (qr626 hO bb_x4 c8 ph0_S38 ph1_S38 ph3_S38 r_kv49 fn_x45 c50 ph0_S53 ph1_S53); rw [d_kv56, d_kv42] at t; exact t), (by have t : kv56 = 5 ∨ ¬ kv2 = 5 := (qr627 bb_x4 c8 ph1_S38 ph3_S38 r_kv49 fn_x45 c50 ph1_S53); rw [di_9, d_kv56] at t; exact t), (by have t : kv1 ≤ kv57 ∧ (kv56 = 4 → kv1 < kv57 ∨ kv2 = 4) := (qr628 r_kv1 bb_x4 c8 ph1_S38 ph2_S38 ph3_S38 r_kv49 fn_x45 c50 ph1_S53 r_kv57 ph2_S53); rw [di_8, di_9, d_kv57, d_kv56] at t; exact t)⟩
    · have do57_kv1 := d_kv1
      have do57_kv41 := d_kv41
      have do57_kv42 := d_kv42
      refine m_X11_flaw hI o_v0 (qr629 bb_x4 c8 r_kv49 fn_x45 c50) hG (by have t : kv41 = 5 → 0 < kv42 := (qr630 hO bb_x4 c8 ph0_S38 ph1_S38 ph3_S38 r_kv49 fn_x45 c50); rw [d_kv41, d_kv42] at t; exact t) (fun S59 hJ g60 fc61 p_S59 => ?_)
      obtain ⟨hG, pg0_S59, pg1_S59, pg2_S59, pg3_S59⟩ := p_S59
      have hI := hJ
      have d_kv1 := d_kv1.trans (fri_at fc61 (by decide) (by decide) o_v0).symm
      have d_kv49 := d_kv49.trans (fri_at fc61 (by decide) (by decide) o_a43).symm
      have ea43 := (frr_at fc61 (by decide) (by decide) o_v0).trans ea43
      have f0 := fri_tr (S := S38) g0 f0 fc61 (by decide) (by decide)
      have o_a43 := gr_ob g60 o_a43
      have o_v0 := gr_ob g60 o_v0
      have g0 := gr_tr (T := S38) g0 g60
      obtain ⟨kv62, d_kv62⟩ : ∃ z : Int32, z = fI S59 v0 9 := ⟨_, rfl⟩
      obtain ⟨kv63, d_kv63⟩ : ∃ z : Int32, z = fI S59 v0 13 := ⟨_, rfl⟩
      have ph0_S59 : kv62 = 5 → 0 < kv63 := by rw [d_kv62, d_kv63]; exact pg0_S59
      have ph1_S59 : kv62 = 5 ∨ ¬ kv41 = 5 := by rw [do57_kv41, d_kv62]; exact pg1_S59
      have ph2_S59 : kv1 ≤ kv1 ∧ (kv62 = 4 → kv1 < kv1 ∨ kv41 = 4) := by rw [d_kv1, do57_kv41, d_kv62]; exact pg2_S59
      have ph3_S59 : kv62 = 5 := by rw [d_kv62]; exact pg3_S59
      intro _
      refine u_X11_readFresh_32 ?_
      refine ⟨o_v0, ?_⟩
      intro x64 ex64
      have dj_x64 := ex64
      have do64_kv1 := d_kv1
      have do64_kv62 := d_kv62
      have do64_kv63 := d_kv63
      refine m_X11_goesOn hI o_v0 hG (by have t : kv62 = 5 → 0 < kv63 := (qr631 hO bb_x4 c8 ph0_S38 ph1_S38 ph3_S38 r_kv49 fn_x45 c50 ph0_S59 ph1_S59 ph3_S59); rw [d_kv62, d_kv63] at t; exact t) (fun S66 hJ g67 fc68 p_S66 => ?_)
      obtain ⟨hG, pg0_S66, pg1_S66, pg2_S66⟩ := p_S66
      have hI := hJ
      have d_kv49 := d_kv49.trans (fri_at fc68 (by decide) (by decide) o_a43).symm
      have d_kv63 := d_kv63.trans (fri_at fc68 (by decide) (by decide) o_v0).symm
      have ea43 := (frr_at fc68 (by decide) (by decide) o_v0).trans ea43
      have f0 := fri_tr (S := S59) g0 f0 fc68 (by decide) (by decide)
      have o_a43 := gr_ob g67 o_a43
      have o_v0 := gr_ob g67 o_v0
      have g0 := gr_tr (T := S59) g0 g67
      obtain ⟨kv69, d_kv69⟩ : ∃ z : Int32, z = fI S66 v0 9 := ⟨_, rfl⟩
      have ph0_S66 : kv69 = 5 → 0 < kv63 := by rw [d_kv69, d_kv63]; exact pg0_S66
      have ph1_S66 : kv69 = 5 ∨ ¬ kv62 = 5 := by rw [do64_kv62, d_kv69]; exact pg1_S66
      obtain ⟨kv70, d_kv70⟩ : ∃ z : Int32, z = fI S66 v0 8 := ⟨_, rfl⟩
      have r_kv70 : (0 : Int32) ≤ kv70 ∧ kv70 ≤ (900 : Int32) := by rw [d_kv70]; exact nu 25 rfl hI o_v0
      have ph2_S66 : kv1 ≤ kv70 ∧ (kv69 = 4 → kv1 < kv70 ∨ kv62 = 4) := by rw [do64_kv1, do64_kv62, d_kv70, d_kv69]; exact pg2_S66
      intro _
      exact hq _ _ hI g0 f0 ⟨hG, (by have t : kv69 = 5 → 0 < kv63 := (qr632 hO bb_x4 c8 ph0_S38 ph1_S38 ph3_S38 r_kv49 fn_x45 c50 ph0_S59 ph1_S59 ph3_S59 ph0_S66 ph1_S66); rw [d_kv69, d_kv63] at t; exact t), (by have t : kv69 = 5 ∨ ¬ kv2 = 5 := (qr633 bb_x4 c8 ph1_S38 ph3_S38 r_kv49 fn_x45 c50 ph1_S59 ph3_S59 ph1_S66); rw [di_9, d_kv69] at t; exact t), (by have t : kv1 ≤ kv70 ∧ (kv69 = 4 → kv1 < kv70 ∨ kv2 = 4) := (qr634 r_kv1 bb_x4 c8 ph1_S38 ph2_S38 ph3_S38 r_kv49 fn_x45 c50 ph1_S59 ph2_S59 ph3_S59 ph1_S66 r_kv70 ph2_S66); rw [di_8, di_9, d_kv70, d_kv69] at t; exact t)⟩
set_option maxHeartbeats 4000000 in
set_option maxRecDepth 20000 in
theorem m_X11_readWhole {v0 : Nat} {v1 : Int32} {v2 : Int32} {Q : Int32 → HS → Prop} {S : HS} (hI : IV S) (o_v0 : ob S v0 11)    (hG : RG S v0) (hO : fI S v0 9 = 5 → 0 < fI S v0 13) (hq : ∀ (r : Int32) (T : HS), IV T → Gr S T → FRI [(11, 8), (11, 9), (11, 10), (11, 11), (11, 12), (11, 13), (11, 14)] [] S T → (RG T v0) ∧ (r = v1 ∨ (v1 ≤ r ∧ r ≤ v2)) ∧ (fI T v0 9 = 5 → 0 < fI T v0 13) ∧ (fI T v0 9 = 5 ∨ ¬ fI S v0 9 = 5) ∧ (fI S v0 8 ≤ fI T v0 8 ∧ (fI T v0 9 = 4 → fI S v0 8 < fI T v0 8 ∨ fI S v0 9 = 4)) → Q r T) : P_X11_readWhole v0 v1 v2 Q S := by
  have g0 := gr_rf S
  have f0 := fri_rf [(11, 8), (11, 9), (11, 10), (11, 11), (11, 12), (11, 13), (11, 14)] [] S
  obtain ⟨kv1, d_kv1⟩ : ∃ z : Int32, z = fI S v0 8 := ⟨_, rfl⟩
  have r_kv1 : (0 : Int32) ≤ kv1 ∧ kv1 ≤ (900 : Int32) := by rw [d_kv1]; exact nu 25 rfl hI o_v0
  have di_8 := d_kv1
  obtain ⟨kv2, d_kv2⟩ : ∃ z : Int32, z = fI S v0 9 := ⟨_, rfl⟩
  have di_9 := d_kv2
  obtain ⟨kv3, d_kv3⟩ : ∃ z : Int32, z = fI S v0 13 := ⟨_, rfl⟩
  have di_13 := d_kv3
  have hO : kv2 = 5 → 0 < kv3 := by rw [d_kv2, d_kv3]; exact hO
  refine u_X11_readWhole ?_
  refine u_X11_readWhole_0 ?_
  refine ⟨o_v0, ?_⟩
  intro x4 ex4
  have q_x4 : x4 = kv2 := ex4.trans d_kv2.symm
  have d_x4 := ex4
  refine ⟨fun c5 => ?_, fun c5 => ?_⟩
  · intro x6 ex6
    have d_x6 := ex6
    refine u_X11_in ?_
    refine u_X11_in_0 ?_
    refine ⟨fun c7 => ?_, fun c7 => ?_⟩
    · intro _ _
      refine ⟨fun c9 => absurd (show ¬ (0 : Int32) = 0 from c9) (by decide), fun c9 => ?_⟩
      have do9_kv1 := d_kv1
      have do9_x4 := d_x4
      have do9_kv3 := d_kv3
      refine m_X11_flaw hI o_v0 (qr253 q_x4 c5 c7) hG (by have t : x4 = 5 → 0 < kv3 := (qr254 hO q_x4 c5 c7); rw [d_x4, d_kv3] at t; exact t) (fun S11 hJ g12 fc13 p_S11 => ?_)
      obtain ⟨hG, pg0_S11, pg1_S11, pg2_S11, pg3_S11⟩ := p_S11
      have hI := hJ
      have d_kv1 := d_kv1.trans (fri_at fc13 (by decide) (by decide) o_v0).symm
      have d_x6 := d_x6.trans (fri_at fc13 (by decide) (by decide) o_v0).symm
      have f0 := fri_tr (S := S) g0 f0 fc13 (by decide) (by decide)
      have o_v0 := gr_ob g12 o_v0
      have g0 := gr_tr (T := S) g0 g12
      obtain ⟨kv14, d_kv14⟩ : ∃ z : Int32, z = fI S11 v0 9 := ⟨_, rfl⟩
      obtain ⟨kv15, d_kv15⟩ : ∃ z : Int32, z = fI S11 v0 13 := ⟨_, rfl⟩
      have ph0_S11 : kv14 = 5 → 0 < kv15 := by rw [d_kv14, d_kv15]; exact pg0_S11
      have ph1_S11 : kv14 = 5 ∨ ¬ x4 = 5 := by rw [do9_x4, d_kv14]; exact pg1_S11
      have ph2_S11 : kv1 ≤ kv1 ∧ (kv14 = 4 → kv1 < kv1 ∨ x4 = 4) := by rw [d_kv1, do9_x4, d_kv14]; exact pg2_S11
      have ph3_S11 : kv14 = 5 := by rw [d_kv14]; exact pg3_S11
      intro _
      refine u_X11_readWhole_33 ?_
      refine ⟨o_v0, ?_⟩
      intro x16 ex16
      have q_x16 : x16 = kv14 := ex16.trans d_kv14.symm
      have d_x16 := ex16
      refine ⟨fun c17 => ?_, fun c17 => ?_⟩
      · intro x18 ex18
        have q_x18 : x18 = x6 := ex18.trans d_x6.symm
        have d_x18 := ex18
        refine u_X11_readWhole_49 ?_
        refine ⟨o_v0, ?_⟩
        have do18_kv1 := d_kv1
        have do18_x16 := d_x16
        have do18_kv15 := d_kv15
        refine m_X11_goesOn hI o_v0 hG (by have t : x16 = 5 → 0 < kv15 := (qr255 hO q_x4 c5 c7 ph0_S11 ph1_S11 ph3_S11 q_x16 c17 q_x18); rw [d_x16, d_kv15] at t; exact t) (fun S20 hJ g21 fc22 p_S20 => ?_)
        obtain ⟨hG, pg0_S20, pg1_S20, pg2_S20⟩ := p_S20
        have hI := hJ
        have d_kv15 := d_kv15.trans (fri_at fc22 (by decide) (by decide) o_v0).symm
        have f0 := fri_tr (S := S11) g0 f0 fc22 (by decide) (by decide)
        have o_v0 := gr_ob g21 o_v0
        have g0 := gr_tr (T := S11) g0 g21
        obtain ⟨kv23, d_kv23⟩ : ∃ z : Int32, z = fI S20 v0 9 := ⟨_, rfl⟩
        have ph0_S20 : kv23 = 5 → 0 < kv15 := by rw [d_kv23, d_kv15]; exact pg0_S20
        have ph1_S20 : kv23 = 5 ∨ ¬ x16 = 5 := by rw [do18_x16, d_kv23]; exact pg1_S20
        obtain ⟨kv24, d_kv24⟩ : ∃ z : Int32, z = fI S20 v0 8 := ⟨_, rfl⟩
        have r_kv24 : (0 : Int32) ≤ kv24 ∧ kv24 ≤ (900 : Int32) := by rw [d_kv24]; exact nu 25 rfl hI o_v0
        have ph2_S20 : kv1 ≤ kv24 ∧ (kv23 = 4 → kv1 < kv24 ∨ x16 = 4) := by rw [do18_kv1, do18_x16, d_kv24, d_kv23]; exact pg2_S20
        intro _
        exact hq _ _ hI g0 f0 ⟨hG, (qr256 q_x4 c5 c7 ph1_S11 ph3_S11 q_x16 c17 q_x18 ph1_S20), (by have t : kv23 = 5 → 0 < kv15 := (qr257 hO q_x4 c5 c7 ph0_S11 ph1_S11 ph3_S11 q_x16 c17 q_x18 ph0_S20 ph1_S20); rw [d_kv23, d_kv15] at t; exact t), (by have t : kv23 = 5 ∨ ¬ kv2 = 5 := (qr258 q_x4 c5 c7 ph1_S11 ph3_S11 q_x16 c17 q_x18 ph1_S20); rw [di_9, d_kv23] at t; exact t), (by have t : kv1 ≤ kv24 ∧ (kv23 = 4 → kv1 < kv24 ∨ kv2 = 4) := (qr259 r_kv1 q_x4 c5 c7 ph1_S11 ph2_S11 ph3_S11 q_x16 c17 q_x18 ph1_S20 r_kv24 ph2_S20); rw [di_8, di_9, d_kv24, d_kv23] at t; exact t)⟩
      · refine u_X11_readWhole_49 ?_
        refine ⟨o_v0, ?_⟩
        have do24_kv1 := d_kv1
        have do24_x16 := d_x16
        have do24_kv15 := d_kv15
        refine m_X11_goesOn hI o_v0 hG (by have t : x16 = 5 → 0 < kv15 := (qr260 hO q_x4 c5 c7 ph0_S11 ph1_S11 ph3_S11 q_x16 c17); rw [d_x16, d_kv15] at t; exact t) (fun S26 hJ g27 fc28 p_S26 => ?_)
        obtain ⟨hG, pg0_S26, pg1_S26, pg2_S26⟩ := p_S26
        have hI := hJ
        have d_kv15 := d_kv15.trans (fri_at fc28 (by decide) (by decide) o_v0).symm
        have f0 := fri_tr (S := S11) g0 f0 fc28 (by decide) (by decide)
        have o_v0 := gr_ob g27 o_v0
        have g0 := gr_tr (T := S11) g0 g27
        obtain ⟨kv29, d_kv29⟩ : ∃ z : Int32, z = fI S26 v0 9 := ⟨_, rfl⟩
        have ph0_S26 : kv29 = 5 → 0 < kv15 := by rw [d_kv29, d_kv15]; exact pg0_S26
        have ph1_S26 : kv29 = 5 ∨ ¬ x16 = 5 := by rw [do24_x16, d_kv29]; exact pg1_S26
        obtain ⟨kv30, d_kv30⟩ : ∃ z : Int32, z = fI S26 v0 8 := ⟨_, rfl⟩
        have r_kv30 : (0 : Int32) ≤ kv30 ∧ kv30 ≤ (900 : Int32) := by rw [d_kv30]; exact nu 25 rfl hI o_v0
        have ph2_S26 : kv1 ≤ kv30 ∧ (kv29 = 4 → kv1 < kv30 ∨ x16 = 4) := by rw [do24_kv1, do24_x16, d_kv30, d_kv29]; exact pg2_S26
        intro _
        exact hq _ _ hI g0 f0 ⟨hG, (qr261 q_x4 c5 c7 ph1_S11 ph3_S11 q_x16 c17 ph1_S26), (by have t : kv29 = 5 → 0 < kv15 := (qr262 hO q_x4 c5 c7 ph0_S11 ph1_S11 ph3_S11 q_x16 c17 ph0_S26 ph1_S26); rw [d_kv29, d_kv15] at t; exact t), (by have t : kv29 = 5 ∨ ¬ kv2 = 5 := (qr263 q_x4 c5 c7 ph1_S11 ph3_S11 q_x16 c17 ph1_S26); rw [di_9, d_kv29] at t; exact t), (by have t : kv1 ≤ kv30 ∧ (kv29 = 4 → kv1 < kv30 ∨ kv2 = 4) := (qr264 r_kv1 q_x4 c5 c7 ph1_S11 ph2_S11 ph3_S11 q_x16 c17 ph1_S26 r_kv30 ph2_S26); rw [di_8, di_9, d_kv30, d_kv29] at t; exact t)⟩
    · refine ⟨fun c31 => ?_, fun c31 => ?_⟩
      · intro _ _
        refine ⟨fun c33 => absurd (show ¬ (0 : Int32) = 0 from c33) (by decide), fun c33 => ?_⟩
        have do33_kv1 := d_kv1
        have do33_x4 := d_x4
        have do33_kv3 := d_kv3
        refine m_X11_flaw hI o_v0 (qr265 q_x4 c5 c7 c31) hG (by have t : x4 = 5 → 0 < kv3 := (qr266 hO q_x4 c5 c7 c31); rw [d_x4, d_kv3] at t; exact t) (fun S35 hJ g36 fc37 p_S35 => ?_)
        obtain ⟨hG, pg0_S35, pg1_S35, pg2_S35, pg3_S35⟩ := p_S35
        have hI := hJ
        have d_kv1 := d_kv1.trans (fri_at fc37 (by decide) (by decide) o_v0).symm
        have d_x6 := d_x6.trans (fri_at fc37 (by decide) (by decide) o_v0).symm
        have f0 := fri_tr (S := S) g0 f0 fc37 (by decide) (by decide)
        have o_v0 := gr_ob g36 o_v0
        have g0 := gr_tr (T := S) g0 g36
        obtain ⟨kv38, d_kv38⟩ : ∃ z : Int32, z = fI S35 v0 9 := ⟨_, rfl⟩
        obtain ⟨kv39, d_kv39⟩ : ∃ z : Int32, z = fI S35 v0 13 := ⟨_, rfl⟩
        have ph0_S35 : kv38 = 5 → 0 < kv39 := by rw [d_kv38, d_kv39]; exact pg0_S35
        have ph1_S35 : kv38 = 5 ∨ ¬ x4 = 5 := by rw [do33_x4, d_kv38]; exact pg1_S35
        have ph2_S35 : kv1 ≤ kv1 ∧ (kv38 = 4 → kv1 < kv1 ∨ x4 = 4) := by rw [d_kv1, do33_x4, d_kv38]; exact pg2_S35
        have ph3_S35 : kv38 = 5 := by rw [d_kv38]; exact pg3_S35
        intro _
        refine u_X11_readWhole_33 ?_
        refine ⟨o_v0, ?_⟩
        intro x40 ex40
        have q_x40 : x40 = kv38 := ex40.trans d_kv38.symm
        have d_x40 := ex40
        refine ⟨fun c41 => ?_, fun c41 => ?_⟩
        · intro x42 ex42
          have q_x42 : x42 = x6 := ex42.trans d_x6.symm
          have d_x42 := ex42
          refine u_X11_readWhole_49 ?_
          refine ⟨o_v0, ?_⟩
          have do42_kv1 := d_kv1
          have do42_x40 := d_x40
          have do42_kv39 := d_kv39
          refine m_X11_goesOn hI o_v0 hG (by have t : x40 = 5 → 0 < kv39 := (qr267 hO q_x4 c5 c7 c31 ph0_S35 ph1_S35 ph3_S35 q_x40 c41 q_x42); rw [d_x40, d_kv39] at t; exact t) (fun S44 hJ g45 fc46 p_S44 => ?_)
          obtain ⟨hG, pg0_S44, pg1_S44, pg2_S44⟩ := p_S44
          have hI := hJ
          have d_kv39 := d_kv39.trans (fri_at fc46 (by decide) (by decide) o_v0).symm
          have f0 := fri_tr (S := S35) g0 f0 fc46 (by decide) (by decide)
          have o_v0 := gr_ob g45 o_v0
          have g0 := gr_tr (T := S35) g0 g45
          obtain ⟨kv47, d_kv47⟩ : ∃ z : Int32, z = fI S44 v0 9 := ⟨_, rfl⟩
          have ph0_S44 : kv47 = 5 → 0 < kv39 := by rw [d_kv47, d_kv39]; exact pg0_S44
          have ph1_S44 : kv47 = 5 ∨ ¬ x40 = 5 := by rw [do42_x40, d_kv47]; exact pg1_S44
          obtain ⟨kv48, d_kv48⟩ : ∃ z : Int32, z = fI S44 v0 8 := ⟨_, rfl⟩
          have r_kv48 : (0 : Int32) ≤ kv48 ∧ kv48 ≤ (900 : Int32) := by rw [d_kv48]; exact nu 25 rfl hI o_v0
          have ph2_S44 : kv1 ≤ kv48 ∧ (kv47 = 4 → kv1 < kv48 ∨ x40 = 4) := by rw [do42_kv1, do42_x40, d_kv48, d_kv47]; exact pg2_S44
          intro _
          exact hq _ _ hI g0 f0 ⟨hG, (qr268 q_x4 c5 c7 c31 ph1_S35 ph3_S35 q_x40 c41 q_x42 ph1_S44), (by have t : kv47 = 5 → 0 < kv39 := (qr269 hO q_x4 c5 c7 c31 ph0_S35 ph1_S35 ph3_S35 q_x40 c41 q_x42 ph0_S44 ph1_S44); rw [d_kv47, d_kv39] at t; exact t), (by have t : kv47 = 5 ∨ ¬ kv2 = 5 := (qr270 q_x4 c5 c7 c31 ph1_S35 ph3_S35 q_x40 c41 q_x42 ph1_S44); rw [di_9, d_kv47] at t; exact t), (by have t : kv1 ≤ kv48 ∧ (kv47 = 4 → kv1 < kv48 ∨ kv2 = 4) := (qr271 r_kv1 q_x4 c5 c7 c31 ph1_S35 ph2_S35 ph3_S35 q_x40 c41 q_x42 ph1_S44 r_kv48 ph2_S44); rw [di_8, di_9, d_kv48, d_kv47] at t; exact t)⟩
        · refine u_X11_readWhole_49 ?_
          refine ⟨o_v0, ?_⟩
          have do48_kv1 := d_kv1
          have do48_x40 := d_x40
          have do48_kv39 := d_kv39
          refine m_X11_goesOn hI o_v0 hG (by have t : x40 = 5 → 0 < kv39 := (qr272 hO q_x4 c5 c7 c31 ph0_S35 ph1_S35 ph3_S35 q_x40 c41); rw [d_x40, d_kv39] at t; exact t) (fun S50 hJ g51 fc52 p_S50 => ?_)
          obtain ⟨hG, pg0_S50, pg1_S50, pg2_S50⟩ := p_S50
          have hI := hJ
          have d_kv39 := d_kv39.trans (fri_at fc52 (by decide) (by decide) o_v0).symm
          have f0 := fri_tr (S := S35) g0 f0 fc52 (by decide) (by decide)
          have o_v0 := gr_ob g51 o_v0
          have g0 := gr_tr (T := S35) g0 g51
          obtain ⟨kv53, d_kv53⟩ : ∃ z : Int32, z = fI S50 v0 9 := ⟨_, rfl⟩
          have ph0_S50 : kv53 = 5 → 0 < kv39 := by rw [d_kv53, d_kv39]; exact pg0_S50
          have ph1_S50 : kv53 = 5 ∨ ¬ x40 = 5 := by rw [do48_x40, d_kv53]; exact pg1_S50
          obtain ⟨kv54, d_kv54⟩ : ∃ z : Int32, z = fI S50 v0 8 := ⟨_, rfl⟩
          have r_kv54 : (0 : Int32) ≤ kv54 ∧ kv54 ≤ (900 : Int32) := by rw [d_kv54]; exact nu 25 rfl hI o_v0
          have ph2_S50 : kv1 ≤ kv54 ∧ (kv53 = 4 → kv1 < kv54 ∨ x40 = 4) := by rw [do48_kv1, do48_x40, d_kv54, d_kv53]; exact pg2_S50
          intro _
          exact hq _ _ hI g0 f0 ⟨hG, (qr273 q_x4 c5 c7 c31 ph1_S35 ph3_S35 q_x40 c41 ph1_S50), (by have t : kv53 = 5 → 0 < kv39 := (qr274 hO q_x4 c5 c7 c31 ph0_S35 ph1_S35 ph3_S35 q_x40 c41 ph0_S50 ph1_S50); rw [d_kv53, d_kv39] at t; exact t), (by have t : kv53 = 5 ∨ ¬ kv2 = 5 := (qr275 q_x4 c5 c7 c31 ph1_S35 ph3_S35 q_x40 c41 ph1_S50); rw [di_9, d_kv53] at t; exact t), (by have t : kv1 ≤ kv54 ∧ (kv53 = 4 → kv1 < kv54 ∨ kv2 = 4) := (qr276 r_kv1 q_x4 c5 c7 c31 ph1_S35 ph2_S35 ph3_S35 q_x40 c41 ph1_S50 r_kv54 ph2_S50); rw [di_8, di_9, d_kv54, d_kv53] at t; exact t)⟩
      · intro _ _
        refine ⟨fun c56 => ?_, fun c56 => absurd (show (1 : Int32) = 0 from c56) (by decide)⟩
        refine u_X11_readWhole_33 ?_
        refine ⟨o_v0, ?_⟩
        intro x57 ex57
        have q_x57 : x57 = x4 := ex57.trans d_x4.symm
        have d_x57 := ex57
        refine ⟨fun c58 => ?_, fun c58 => ?_⟩
        · intro x59 ex59
          have q_x59 : x59 = x6 := ex59.trans d_x6.symm
          have d_x59 := ex59
          refine u_X11_readWhole_49 ?_
          refine ⟨o_v0, ?_⟩
          have do59_kv1 := d_kv1
          have do59_x57 := d_x57
          have do59_kv3 := d_kv3
          refine m_X11_goesOn hI o_v0 hG (by have t : x57 = 5 → 0 < kv3 := (qr277 hO q_x4 c5 c7 c31 q_x57 c58 q_x59); rw [d_x57, d_kv3] at t; exact t) (fun S61 hJ g62 fc63 p_S61 => ?_)
          obtain ⟨hG, pg0_S61, pg1_S61, pg2_S61⟩ := p_S61
          have hI := hJ
          have d_kv3 := d_kv3.trans (fri_at fc63 (by decide) (by decide) o_v0).symm
          have f0 := fri_tr (S := S) g0 f0 fc63 (by decide) (by decide)
          have o_v0 := gr_ob g62 o_v0
          have g0 := gr_tr (T := S) g0 g62
          obtain ⟨kv64, d_kv64⟩ : ∃ z : Int32, z = fI S61 v0 9 := ⟨_, rfl⟩
          have ph0_S61 : kv64 = 5 → 0 < kv3 := by rw [d_kv64, d_kv3]; exact pg0_S61
          have ph1_S61 : kv64 = 5 ∨ ¬ x57 = 5 := by rw [do59_x57, d_kv64]; exact pg1_S61
          obtain ⟨kv65, d_kv65⟩ : ∃ z : Int32, z = fI S61 v0 8 := ⟨_, rfl⟩
          have r_kv65 : (0 : Int32) ≤ kv65 ∧ kv65 ≤ (900 : Int32) := by rw [d_kv65]; exact nu 25 rfl hI o_v0
          have ph2_S61 : kv1 ≤ kv65 ∧ (kv64 = 4 → kv1 < kv65 ∨ x57 = 4) := by rw [do59_kv1, do59_x57, d_kv65, d_kv64]; exact pg2_S61
          intro _
          exact hq _ _ hI g0 f0 ⟨hG, (qr278 q_x4 c5 c7 c31 q_x57 c58 q_x59 ph1_S61), (by have t : kv64 = 5 → 0 < kv3 := (qr279 hO q_x4 c5 c7 c31 q_x57 c58 q_x59 ph0_S61 ph1_S61); rw [d_kv64, d_kv3] at t; exact t), (by have t : kv64 = 5 ∨ ¬ kv2 = 5 := (qr280 q_x4 c5 c7 c31 q_x57 c58 q_x59 ph1_S61); rw [di_9, d_kv64] at t; exact t), (by have t : kv1 ≤ kv65 ∧ (kv64 = 4 → kv1 < kv65 ∨ kv2 = 4) := (qr281 r_kv1 q_x4 c5 c7 c31 q_x57 c58 q_x59 ph1_S61 r_kv65 ph2_S61); rw [di_8, di_9, d_kv65, d_kv64] at t; exact t)⟩
        · refine u_X11_readWhole_49 ?_
          refine ⟨o_v0, ?_⟩
          have do65_kv1 := d_kv1
          have do65_x57 := d_x57
          have do65_kv3 := d_kv3
          refine m_X11_goesOn hI o_v0 hG (by have t : x57 = 5 → 0 < kv3 := (qr282 hO q_x4 c5 c7 c31 q_x57 c58); rw [d_x57, d_kv3] at t; exact t) (fun S67 hJ g68 fc69 p_S67 => ?_)
          obtain ⟨hG, pg0_S67, pg1_S67, pg2_S67⟩ := p_S67
          have hI := hJ
          have d_kv3 := d_kv3.trans (fri_at fc69 (by decide) (by decide) o_v0).symm
          have f0 := fri_tr (S := S) g0 f0 fc69 (by decide) (by decide)
          have o_v0 := gr_ob g68 o_v0
          have g0 := gr_tr (T := S) g0 g68
          obtain ⟨kv70, d_kv70⟩ : ∃ z : Int32, z = fI S67 v0 9 := ⟨_, rfl⟩
          have ph0_S67 : kv70 = 5 → 0 < kv3 := by rw [d_kv70, d_kv3]; exact pg0_S67
          have ph1_S67 : kv70 = 5 ∨ ¬ x57 = 5 := by rw [do65_x57, d_kv70]; exact pg1_S67
          obtain ⟨kv71, d_kv71⟩ : ∃ z : Int32, z = fI S67 v0 8 := ⟨_, rfl⟩
          have r_kv71 : (0 : Int32) ≤ kv71 ∧ kv71 ≤ (900 : Int32) := by rw [d_kv71]; exact nu 25 rfl hI o_v0
          have ph2_S67 : kv1 ≤ kv71 ∧ (kv70 = 4 → kv1 < kv71 ∨ x57 = 4) := by rw [do65_kv1, do65_x57, d_kv71, d_kv70]; exact pg2_S67
          intro _
          exact hq _ _ hI g0 f0 ⟨hG, (qr283 q_x4 c5 c7 c31 q_x57 c58 ph1_S67), (by have t : kv70 = 5 → 0 < kv3 := (qr284 hO q_x4 c5 c7 c31 q_x57 c58 ph0_S67 ph1_S67); rw [d_kv70, d_kv3] at t; exact t), (by have t : kv70 = 5 ∨ ¬ kv2 = 5 := (qr285 q_x4 c5 c7 c31 q_x57 c58 ph1_S67); rw [di_9, d_kv70] at t; exact t), (by have t : kv1 ≤ kv71 ∧ (kv70 = 4 → kv1 < kv71 ∨ kv2 = 4) := (qr286 r_kv1 q_x4 c5 c7 c31 q_x57 c58 ph1_S67 r_kv71 ph2_S67); rw [di_8, di_9, d_kv71, d_kv70] at t; exact t)⟩
  · have do71_kv1 := d_kv1
    have do71_x4 := d_x4
    have do71_kv3 := d_kv3
    refine m_X11_flaw hI o_v0 (qr287 q_x4 c5) hG (by have t : x4 = 5 → 0 < kv3 := (qr288 hO q_x4 c5); rw [d_x4, d_kv3] at t; exact t) (fun S73 hJ g74 fc75 p_S73 => ?_)
    obtain ⟨hG, pg0_S73, pg1_S73, pg2_S73, pg3_S73⟩ := p_S73
    have hI := hJ
    have d_kv1 := d_kv1.trans (fri_at fc75 (by decide) (by decide) o_v0).symm
    have f0 := fri_tr (S := S) g0 f0 fc75 (by decide) (by decide)
    have o_v0 := gr_ob g74 o_v0
    have g0 := gr_tr (T := S) g0 g74
    obtain ⟨kv76, d_kv76⟩ : ∃ z : Int32, z = fI S73 v0 9 := ⟨_, rfl⟩
    obtain ⟨kv77, d_kv77⟩ : ∃ z : Int32, z = fI S73 v0 13 := ⟨_, rfl⟩
    have ph0_S73 : kv76 = 5 → 0 < kv77 := by rw [d_kv76, d_kv77]; exact pg0_S73
    have ph1_S73 : kv76 = 5 ∨ ¬ x4 = 5 := by rw [do71_x4, d_kv76]; exact pg1_S73
    have ph2_S73 : kv1 ≤ kv1 ∧ (kv76 = 4 → kv1 < kv1 ∨ x4 = 4) := by rw [d_kv1, do71_x4, d_kv76]; exact pg2_S73
    have ph3_S73 : kv76 = 5 := by rw [d_kv76]; exact pg3_S73
    intro _
    refine u_X11_readWhole_33 ?_
    refine ⟨o_v0, ?_⟩
    intro x78 ex78
    have q_x78 : x78 = kv76 := ex78.trans d_kv76.symm
    have d_x78 := ex78
    refine ⟨fun c79 => ?_, fun c79 => ?_⟩
    · intro x80 ex80
      have d_x80 := ex80
      refine u_X11_readWhole_49 ?_
      refine ⟨o_v0, ?_⟩
      have do80_kv1 := d_kv1
      have do80_x78 := d_x78
      have do80_kv77 := d_kv77
      refine m_X11_goesOn hI o_v0 hG (by have t : x78 = 5 → 0 < kv77 := (qr289 hO q_x4 c5 ph0_S73 ph1_S73 ph3_S73 q_x78 c79); rw [d_x78, d_kv77] at t; exact t) (fun S82 hJ g83 fc84 p_S82 => ?_)
      obtain ⟨hG, pg0_S82, pg1_S82, pg2_S82⟩ := p_S82
      have hI := hJ
      have d_kv77 := d_kv77.trans (fri_at fc84 (by decide) (by decide) o_v0).symm
      have f0 := fri_tr (S := S73) g0 f0 fc84 (by decide) (by decide)
      have o_v0 := gr_ob g83 o_v0
      have g0 := gr_tr (T := S73) g0 g83
      obtain ⟨kv85, d_kv85⟩ : ∃ z : Int32, z = fI S82 v0 9 := ⟨_, rfl⟩
      have ph0_S82 : kv85 = 5 → 0 < kv77 := by rw [d_kv85, d_kv77]; exact pg0_S82
      have ph1_S82 : kv85 = 5 ∨ ¬ x78 = 5 := by rw [do80_x78, d_kv85]; exact pg1_S82
      obtain ⟨kv86, d_kv86⟩ : ∃ z : Int32, z = fI S82 v0 8 := ⟨_, rfl⟩
      have r_kv86 : (0 : Int32) ≤ kv86 ∧ kv86 ≤ (900 : Int32) := by rw [d_kv86]; exact nu 25 rfl hI o_v0
      have ph2_S82 : kv1 ≤ kv86 ∧ (kv85 = 4 → kv1 < kv86 ∨ x78 = 4) := by rw [do80_kv1, do80_x78, d_kv86, d_kv85]; exact pg2_S82
      intro _
      exact hq _ _ hI g0 f0 ⟨hG, (qr290 q_x4 c5 ph1_S73 ph3_S73 q_x78 c79 ph1_S82), (by have t : kv85 = 5 → 0 < kv77 := (qr291 hO q_x4 c5 ph0_S73 ph1_S73 ph3_S73 q_x78 c79 ph0_S82 ph1_S82); rw [d_kv85, d_kv77] at t; exact t), (by have t : kv85 = 5 ∨ ¬ kv2 = 5 := (qr292 q_x4 c5 ph1_S73 ph3_S73 q_x78 c79 ph1_S82); rw [di_9, d_kv85] at t; exact t), (by have t : kv1 ≤ kv86 ∧ (kv85 = 4 → kv1 < kv86 ∨ kv2 = 4) := (qr293 r_kv1 q_x4 c5 ph1_S73 ph2_S73 ph3_S73 q_x78 c79 ph1_S82 r_kv86 ph2_S82); rw [di_8, di_9, d_kv86, d_kv85] at t; exact t)⟩
    · refine u_X11_readWhole_49 ?_
      refine ⟨o_v0, ?_⟩
      have do86_kv1 := d_kv1
      have do86_x78 := d_x78
      have do86_kv77 := d_kv77
      refine m_X11_goesOn hI o_v0 hG (by have t : x78 = 5 → 0 < kv77 := (qr294 hO q_x4 c5 ph0_S73 ph1_S73 ph3_S73 q_x78 c79); rw [d_x78, d_kv77] at t; exact t) (fun S88 hJ g89 fc90 p_S88 => ?_)
      obtain ⟨hG, pg0_S88, pg1_S88, pg2_S88⟩ := p_S88
      have hI := hJ
      have d_kv77 := d_kv77.trans (fri_at fc90 (by decide) (by decide) o_v0).symm
      have f0 := fri_tr (S := S73) g0 f0 fc90 (by decide) (by decide)
      have o_v0 := gr_ob g89 o_v0
      have g0 := gr_tr (T := S73) g0 g89
      obtain ⟨kv91, d_kv91⟩ : ∃ z : Int32, z = fI S88 v0 9 := ⟨_, rfl⟩
      have ph0_S88 : kv91 = 5 → 0 < kv77 := by rw [d_kv91, d_kv77]; exact pg0_S88
      have ph1_S88 : kv91 = 5 ∨ ¬ x78 = 5 := by rw [do86_x78, d_kv91]; exact pg1_S88
      obtain ⟨kv92, d_kv92⟩ : ∃ z : Int32, z = fI S88 v0 8 := ⟨_, rfl⟩
      have r_kv92 : (0 : Int32) ≤ kv92 ∧ kv92 ≤ (900 : Int32) := by rw [d_kv92]; exact nu 25 rfl hI o_v0
      have ph2_S88 : kv1 ≤ kv92 ∧ (kv91 = 4 → kv1 < kv92 ∨ x78 = 4) := by rw [do86_kv1, do86_x78, d_kv92, d_kv91]; exact pg2_S88
      intro _
      exact hq _ _ hI g0 f0 ⟨hG, (qr295 q_x4 c5 ph1_S73 ph3_S73 q_x78 c79 ph1_S88), (by have t : kv91 = 5 → 0 < kv77 := (qr296 hO q_x4 c5 ph0_S73 ph1_S73 ph3_S73 q_x78 c79 ph0_S88 ph1_S88); rw [d_kv91, d_kv77] at t; exact t), (by have t : kv91 = 5 ∨ ¬ kv2 = 5 := (qr297 q_x4 c5 ph1_S73 ph3_S73 q_x78 c79 ph1_S88); rw [di_9, d_kv91] at t; exact t), (by have t : kv1 ≤ kv92 ∧ (kv91 = 4 → kv1 < kv92 ∨ kv2 = 4) := (qr298 r_kv1 q_x4 c5 ph1_S73 ph2_S73 ph3_S73 q_x78 c79 ph1_S88 r_kv92 ph2_S88); rw [di_8, di_9, d_kv92, d_kv91] at t; exact t)⟩
