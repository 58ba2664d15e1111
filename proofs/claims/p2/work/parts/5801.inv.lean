set_option maxHeartbeats 4000000 in
set_option maxRecDepth 20000 in
theorem m_X11_begins {v0 : Nat} {v1 : Int32} {v2 : Int32} {Q : HS → Prop} {S : HS} (hI : IV S) (o_v0 : ob S v0 11)    (hG : RG S v0) (hO : fI S v0 9 = 5 → 0 < fI S v0 13) (hq : ∀ (T : HS), IV T → Gr S T → FRI [(11, 8), (11, 9), (11, 10), (11, 11), (11, 12), (11, 13), (11, 14)] [] S T → (RG T v0) ∧ (fI T v0 9 = 5 → 0 < fI T v0 13) ∧ (fI T v0 9 = 5 ∨ ¬ fI S v0 9 = 5) ∧ (fI S v0 8 ≤ fI T v0 8 ∧ (fI T v0 9 = 4 → fI S v0 8 < fI T v0 8 ∨ fI S v0 9 = 4)) ∧ (fI T v0 9 = 5 ∨ ¬ v1 = v2) → Q T) : P_X11_begins v0 v1 v2 Q S := by
  have g0 := gr_rf S
  have f0 := fri_rf [(11, 8), (11, 9), (11, 10), (11, 11), (11, 12), (11, 13), (11, 14)] [] S
  obtain ⟨kv1, d_kv1⟩ : ∃ z : Int32, z = fI S v0 8 := ⟨_, rfl⟩
  have r_kv1 : (0 : Int32) ≤ kv1 ∧ kv1 ≤ (900 : Int32) := by rw [d_kv1]; exact nu 25 rfl hI o_v0
  have di_8 := d_kv1
  obtain ⟨kv2, d_kv2⟩ : ∃ z : Int32, z = fI S v0 9 := ⟨_, rfl⟩
  have di_9 := d_kv2
  obtain ⟨kv3, d_kv3⟩ : ∃ z : Int32, z = fI S v0 13 := ⟨_, rfl⟩
  have di_13 := d_kv3
  have hO : kv2 = 5 → 0 < kv3 := by rw [d_kv2, d_kv3]; exact hO
  refine u_X11_begins ?_
  refine u_X11_begins_0 ?_
  refine ⟨fun c4 => ?_, fun c4 => ?_⟩
  · refine u_X11_begins_10 ?_
    refine ⟨o_v0, ?_⟩
    obtain ⟨a5, ea5, o_a5, -⟩ := id hG
    refine ⟨a5, ea5, ?_⟩
    refine ⟨o_a5, ?_⟩
    intro x6 ex6
    have r_x6 : (0 : Int32) ≤ x6 ∧ x6 ≤ (60 : Int32) := by rw [ex6]; exact nu 16 rfl hI o_a5
    have d_x6 := ex6
    refine ⟨fun c7 => ?_, fun c7 => ?_⟩
    · refine u_X11_begins_26 ?_
      refine ⟨o_v0, ?_⟩
      have do7_kv1 := d_kv1
      have do7_kv2 := d_kv2
      have do7_kv3 := d_kv3
      refine m_X11_goesOn hI o_v0 hG (by have t : kv2 = 5 → 0 < kv3 := (qr797 hO c4 r_x6 c7); rw [d_kv2, d_kv3] at t; exact t) (fun S9 hJ g10 fc11 p_S9 => ?_)
      obtain ⟨hG, pg0_S9, pg1_S9, pg2_S9⟩ := p_S9
      have hI := hJ
      have d_kv3 := d_kv3.trans (fri_at fc11 (by decide) (by decide) o_v0).symm
      have d_x6 := d_x6.trans (fri_at fc11 (by decide) (by decide) o_a5).symm
      have ea5 := (frr_at fc11 (by decide) (by decide) o_v0).trans ea5
      have f0 := fri_tr (S := S) g0 f0 fc11 (by decide) (by decide)
      have o_a5 := gr_ob g10 o_a5
      have o_v0 := gr_ob g10 o_v0
      have g0 := gr_tr (T := S) g0 g10
      obtain ⟨kv12, d_kv12⟩ : ∃ z : Int32, z = fI S9 v0 9 := ⟨_, rfl⟩
      have ph0_S9 : kv12 = 5 → 0 < kv3 := by rw [d_kv12, d_kv3]; exact pg0_S9
      have ph1_S9 : kv12 = 5 ∨ ¬ kv2 = 5 := by rw [do7_kv2, d_kv12]; exact pg1_S9
      obtain ⟨kv13, d_kv13⟩ : ∃ z : Int32, z = fI S9 v0 8 := ⟨_, rfl⟩
      have r_kv13 : (0 : Int32) ≤ kv13 ∧ kv13 ≤ (900 : Int32) := by rw [d_kv13]; exact nu 25 rfl hI o_v0
      have ph2_S9 : kv1 ≤ kv13 ∧ (kv12 = 4 → kv1 < kv13 ∨ kv2 = 4) := by rw [do7_kv1, do7_kv2, d_kv13, d_kv12]; exact pg2_S9
      intro _
      exact hq _ hI g0 f0 ⟨hG, (by have t : kv12 = 5 → 0 < kv3 := (qr798 hO c4 r_x6 c7 ph0_S9 ph1_S9); rw [d_kv12, d_kv3] at t; exact t), (by have t : kv12 = 5 ∨ ¬ kv2 = 5 := (qr799 c4 r_x6 c7 ph1_S9); rw [di_9, d_kv12] at t; exact t), (by have t : kv1 ≤ kv13 ∧ (kv12 = 4 → kv1 < kv13 ∨ kv2 = 4) := (qr800 r_kv1 c4 r_x6 c7 ph1_S9 r_kv13 ph2_S9); rw [di_8, di_9, d_kv13, d_kv12] at t; exact t), (by have t : kv12 = 5 ∨ ¬ v1 = v2 := (qr801 c4 r_x6 c7 ph1_S9); rw [d_kv12] at t; exact t)⟩
    · have do13_kv1 := d_kv1
      have do13_kv2 := d_kv2
      have do13_kv3 := d_kv3
      refine m_X11_flaw hI o_v0 (qr802 c4 r_x6 c7) hG (by have t : kv2 = 5 → 0 < kv3 := (qr803 hO c4 r_x6 c7); rw [d_kv2, d_kv3] at t; exact t) (fun S15 hJ g16 fc17 p_S15 => ?_)
      obtain ⟨hG, pg0_S15, pg1_S15, pg2_S15, pg3_S15⟩ := p_S15
      have hI := hJ
      have d_kv1 := d_kv1.trans (fri_at fc17 (by decide) (by decide) o_v0).symm
      have d_x6 := d_x6.trans (fri_at fc17 (by decide) (by decide) o_a5).symm
      have ea5 := (frr_at fc17 (by decide) (by decide) o_v0).trans ea5
      have f0 := fri_tr (S := S) g0 f0 fc17 (by decide) (by decide)
      have o_a5 := gr_ob g16 o_a5
      have o_v0 := gr_ob g16 o_v0
      have g0 := gr_tr (T := S) g0 g16
      obtain ⟨kv18, d_kv18⟩ : ∃ z : Int32, z = fI S15 v0 9 := ⟨_, rfl⟩
      obtain ⟨kv19, d_kv19⟩ : ∃ z : Int32, z = fI S15 v0 13 := ⟨_, rfl⟩
      have ph0_S15 : kv18 = 5 → 0 < kv19 := by rw [d_kv18, d_kv19]; exact pg0_S15
      have ph1_S15 : kv18 = 5 ∨ ¬ kv2 = 5 := by rw [do13_kv2, d_kv18]; exact pg1_S15
      have ph2_S15 : kv1 ≤ kv1 ∧ (kv18 = 4 → kv1 < kv1 ∨ kv2 = 4) := by rw [d_kv1, do13_kv2, d_kv18]; exact pg2_S15
      have ph3_S15 : kv18 = 5 := by rw [d_kv18]; exact pg3_S15
      intro _
      refine u_X11_begins_26 ?_
      refine ⟨o_v0, ?_⟩
      have do19_kv1 := d_kv1
      have do19_kv18 := d_kv18
      have do19_kv19 := d_kv19
      refine m_X11_goesOn hI o_v0 hG (by have t : kv18 = 5 → 0 < kv19 := (qr804 hO c4 r_x6 c7 ph0_S15 ph1_S15 ph3_S15); rw [d_kv18, d_kv19] at t; exact t) (fun S21 hJ g22 fc23 p_S21 => ?_)
      obtain ⟨hG, pg0_S21, pg1_S21, pg2_S21⟩ := p_S21
      have hI := hJ
      have d_x6 := d_x6.trans (fri_at fc23 (by decide) (by decide) o_a5).symm
      have d_kv19 := d_kv19.trans (fri_at fc23 (by decide) (by decide) o_v0).symm
      have ea5 := (frr_at fc23 (by decide) (by decide) o_v0).trans ea5
      have f0 := fri_tr (S := S15) g0 f0 fc23 (by decide) (by decide)
      have o_a5 := gr_ob g22 o_a5
      have o_v0 := gr_ob g22 o_v0
      have g0 := gr_tr (T := S15) g0 g22
      obtain ⟨kv24, d_kv24⟩ : ∃ z : Int32, z = fI S21 v0 9 := ⟨_, rfl⟩
      have ph0_S21 : kv24 = 5 → 0 < kv19 := by rw [d_kv24, d_kv19]; exact pg0_S21
      have ph1_S21 : kv24 = 5 ∨ ¬ kv18 = 5 := by rw [do19_kv18, d_kv24]; exact pg1_S21
      obtain ⟨kv25, d_kv25⟩ : ∃ z : Int32, z = fI S21 v0 8 := ⟨_, rfl⟩
      have r_kv25 : (0 : Int32) ≤ kv25 ∧ kv25 ≤ (900 : Int32) := by rw [d_kv25]; exact nu 25 rfl hI o_v0
      have ph2_S21 : kv1 ≤ kv25 ∧ (kv24 = 4 → kv1 < kv25 ∨ kv18 = 4) := by rw [do19_kv1, do19_kv18, d_kv25, d_kv24]; exact pg2_S21
      intro _
      exact hq _ hI g0 f0 ⟨hG, (by have t : kv24 = 5 → 0 < kv19 := (qr805 hO c4 r_x6 c7 ph0_S15 ph1_S15 ph3_S15 ph0_S21 ph1_S21); rw [d_kv24, d_kv19] at t; exact t), (by have t : kv24 = 5 ∨ ¬ kv2 = 5 := (qr806 c4 r_x6 c7 ph1_S15 ph3_S15 ph1_S21); rw [di_9, d_kv24] at t; exact t), (by have t : kv1 ≤ kv25 ∧ (kv24 = 4 → kv1 < kv25 ∨ kv2 = 4) := (qr807 r_kv1 c4 r_x6 c7 ph1_S15 ph2_S15 ph3_S15 ph1_S21 r_kv25 ph2_S21); rw [di_8, di_9, d_kv25, d_kv24] at t; exact t), (by have t : kv24 = 5 ∨ ¬ v1 = v2 := (qr808 c4 r_x6 c7 ph1_S15 ph3_S15 ph1_S21); rw [d_kv24] at t; exact t)⟩
  · refine ⟨o_v0, ?_⟩
    have do25_kv1 := d_kv1
    have do25_kv2 := d_kv2
    have do25_kv3 := d_kv3
    refine m_X11_flaw hI o_v0 (qr809 c4) hG (by have t : kv2 = 5 → 0 < kv3 := (qr810 hO c4); rw [d_kv2, d_kv3] at t; exact t) (fun S27 hJ g28 fc29 p_S27 => ?_)
    obtain ⟨hG, pg0_S27, pg1_S27, pg2_S27, pg3_S27⟩ := p_S27
    have hI := hJ
    have d_kv1 := d_kv1.trans (fri_at fc29 (by decide) (by decide) o_v0).symm
    have f0 := fri_tr (S := S) g0 f0 fc29 (by decide) (by decide)
    have o_v0 := gr_ob g28 o_v0
    have g0 := gr_tr (T := S) g0 g28
    obtain ⟨kv30, d_kv30⟩ : ∃ z : Int32, z = fI S27 v0 9 := ⟨_, rfl⟩
    obtain ⟨kv31, d_kv31⟩ : ∃ z : Int32, z = fI S27 v0 13 := ⟨_, rfl⟩
    have ph0_S27 : kv30 = 5 → 0 < kv31 := by rw [d_kv30, d_kv31]; exact pg0_S27
    have ph1_S27 : kv30 = 5 ∨ ¬ kv2 = 5 := by rw [do25_kv2, d_kv30]; exact pg1_S27
    have ph2_S27 : kv1 ≤ kv1 ∧ (kv30 = 4 → kv1 < kv1 ∨ kv2 = 4) := by rw [d_kv1, do25_kv2, d_kv30]; exact pg2_S27
    have ph3_S27 : kv30 = 5 := by rw [d_kv30]; exact pg3_S27
    intro _
    refine u_X11_begins_10 ?_
    refine ⟨o_v0, ?_⟩
    obtain ⟨a32, ea32, o_a32, -⟩ := id hG
    refine ⟨a32, ea32, ?_⟩
    refine ⟨o_a32, ?_⟩
    intro x33 ex33
    have r_x33 : (0 : Int32) ≤ x33 ∧ x33 ≤ (60 : Int32) := by rw [ex33]; exact nu 16 rfl hI o_a32
    have d_x33 := ex33
    refine ⟨fun c34 => ?_, fun c34 => ?_⟩
    · refine u_X11_begins_26 ?_
      refine ⟨o_v0, ?_⟩
      have do34_kv1 := d_kv1
      have do34_kv30 := d_kv30
      have do34_kv31 := d_kv31
      refine m_X11_goesOn hI o_v0 hG (by have t : kv30 = 5 → 0 < kv31 := (qr811 hO c4 ph0_S27 ph1_S27 ph3_S27 r_x33 c34); rw [d_kv30, d_kv31] at t; exact t) (fun S36 hJ g37 fc38 p_S36 => ?_)
      obtain ⟨hG, pg0_S36, pg1_S36, pg2_S36⟩ := p_S36
      have hI := hJ
      have d_kv31 := d_kv31.trans (fri_at fc38 (by decide) (by decide) o_v0).symm
      have d_x33 := d_x33.trans (fri_at fc38 (by decide) (by decide) o_a32).symm
      have ea32 := (frr_at fc38 (by decide) (by decide) o_v0).trans ea32
      have f0 := fri_tr (S := S27) g0 f0 fc38 (by decide) (by decide)
      have o_a32 := gr_ob g37 o_a32
      have o_v0 := gr_ob g37 o_v0
      have g0 := gr_tr (T := S27) g0 g37
      obtain ⟨kv39, d_kv39⟩ : ∃ z : Int32, z = fI S36 v0 9 := ⟨_, rfl⟩
      have ph0_S36 : kv39 = 5 → 0 < kv31 := by rw [d_kv39, d_kv31]; exact pg0_S36
      have ph1_S36 : kv39 = 5 ∨ ¬ kv30 = 5 := by rw [do34_kv30, d_kv39]; exact pg1_S36
      obtain ⟨kv40, d_kv40⟩ : ∃ z : Int32, z = fI S36 v0 8 := ⟨_, rfl⟩
      have r_kv40 : (0 : Int32) ≤ kv40 ∧ kv40 ≤ (900 : Int32) := by rw [d_kv40]; exact nu 25 rfl hI o_v0
      have ph2_S36 : kv1 ≤ kv40 ∧ (kv39 = 4 → kv1 < kv40 ∨ kv30 = 4) := by rw [do34_kv1, do34_kv30, d_kv40, d_kv39]; exact pg2_S36
      intro _
      exact hq _ hI g0 f0 ⟨hG, (by have t : kv39 = 5 → 0 < kv31 := (qr812 hO c4 ph0_S27 ph1_S27 ph3_S27 r_x33 c34 ph0_S36 ph1_S36); rw [d_kv39, d_kv31] at t; exact t), (by have t : kv39 = 5 ∨ ¬ kv2 = 5 := (qr813 c4 ph1_S27 ph3_S27 r_x33 c34 ph1_S36); rw [di_9, d_kv39] at t; exact t), (by have t : kv1 ≤ kv40 ∧ (kv39 = 4 → kv1 < kv40 ∨ kv2 = 4) := (qr814 r_kv1 c4 ph1_S27 ph2_S27 ph3_S27 r_x33 c34 ph1_S36 r_kv40 ph2_S36); rw [di_8, di_9, d_kv40, d_kv39] at t; exact t), (by have t : kv39 = 5 ∨ ¬ v1 = v2 := (qr815 c4 ph1_S27 ph3_S27 r_x33 c34 ph1_S36); rw [d_kv39] at t; exact t)⟩
    · have do40_kv1 := d_kv1
      have do40_kv30 := d_kv30
      have do40_kv31 := d_kv31
      refine m_X11_flaw hI o_v0 (qr816 c4 r_x33 c34) hG (by have t : kv30 = 5 → 0 < kv31 := (qr817 hO c4 ph0_S27 ph1_S27 ph3_S27 r_x33 c34); rw [d_kv30, d_kv31] at t; exact t) (fun S42 hJ g43 fc44 p_S42 => ?_)
      obtain ⟨hG, pg0_S42, pg1_S42, pg2_S42, pg3_S42⟩ := p_S42
      have hI := hJ
      have d_kv1 := d_kv1.trans (fri_at fc44 (by decide) (by decide) o_v0).symm
      have d_x33 := d_x33.trans (fri_at fc44 (by decide) (by decide) o_a32).symm
      have ea32 := (frr_at fc44 (by decide) (by decide) o_v0).trans ea32
      have f0 := fri_tr (S := S27) g0 f0 fc44 (by decide) (by decide)
      have o_a32 := gr_ob g43 o_a32
      have o_v0 := gr_ob g43 o_v0
      have g0 := gr_tr (T := S27) g0 g43
      obtain ⟨kv45, d_kv45⟩ : ∃ z : Int32, z = fI S42 v0 9 := ⟨_, rfl⟩
      obtain ⟨kv46, d_kv46⟩ : ∃ z : Int32, z = fI S42 v0 13 := ⟨_, rfl⟩
      have ph0_S42 : kv45 = 5 → 0 < kv46 := by rw [d_kv45, d_kv46]; exact pg0_S42
      have ph1_S42 : kv45 = 5 ∨ ¬ kv30 = 5 := by rw [do40_kv30, d_kv45]; exact pg1_S42
      have ph2_S42 : kv1 ≤ kv1 ∧ (kv45 = 4 → kv1 < kv1 ∨ kv30 = 4) := by rw [d_kv1, do40_kv30, d_kv45]; exact pg2_S42
      have ph3_S42 : kv45 = 5 := by rw [d_kv45]; exact pg3_S42
      intro _
      refine u_X11_begins_26 ?_
      refine ⟨o_v0, ?_⟩
      have do46_kv1 := d_kv1
      have do46_kv45 := d_kv45
      have do46_kv46 := d_kv46
      refine m_X11_goesOn hI o_v0 hG (by have t : kv45 = 5 → 0 < kv46 := (qr818 hO c4 ph0_S27 ph1_S27 ph3_S27 r_x33 c34 ph0_S42 ph1_S42 ph3_S42); rw [d_kv45, d_kv46] at t; exact t) (fun S48 hJ g49 fc50 p_S48 => ?_)
      obtain ⟨hG, pg0_S48, pg1_S48, pg2_S48⟩ := p_S48
      have hI := hJ
      have d_x33 := d_x33.trans (fri_at fc50 (by decide) (by decide) o_a32).symm
      have d_kv46 := d_kv46.trans (fri_at fc50 (by decide) (by decide) o_v0).symm
      have ea32 := (frr_at fc50 (by decide) (by decide) o_v0).trans ea32
      have f0 := fri_tr (S := S42) g0 f0 fc50 (by decide) (by decide)
      have o_a32 := gr_ob g49 o_a32
      have o_v0 := gr_ob g49 o_v0
      have g0 := gr_tr (T := S42) g0 g49
      obtain ⟨kv51, d_kv51⟩ : ∃ z : Int32, z = fI S48 v0 9 := ⟨_, rfl⟩
      have ph0_S48 : kv51 = 5 → 0 < kv46 := by rw [d_kv51, d_kv46]; exact pg0_S48
      have ph1_S48 : kv51 = 5 ∨ ¬ kv45 = 5 := by rw [do46_kv45, d_kv51]; exact pg1_S48
      obtain ⟨kv52, d_kv52⟩ : ∃ z : Int32, z = fI S48 v0 8 := ⟨_, rfl⟩
      have r_kv52 : (0 : Int32) ≤ kv52 ∧ kv52 ≤ (900 : Int32) := by rw [d_kv52]; exact nu 25 rfl hI o_v0
      have ph2_S48 : kv1 ≤ kv52 ∧ (kv51 = 4 → kv1 < kv52 ∨ kv45 = 4) := by rw [do46_kv1, do46_kv45, d_kv52, d_kv51]; exact pg2_S48
      intro _
      exact hq _ hI g0 f0 ⟨hG, (by have t : kv51 = 5 → 0 < kv46 := (qr819 hO c4 ph0_S27 ph1_S27 ph3_S27 r_x33 c34 ph0_S42 ph1_S42 ph3_S42 ph0_S48 ph1_S48); rw [d_kv51, d_kv46] at t; exact t), (by have t : kv51 = 5 ∨ ¬ kv2 = 5 := (qr820 c4 ph1_S27 ph3_S27 r_x33 c34 ph1_S42 ph3_S42 ph1_S48); rw [di_9, d_kv51] at t; exact t), (by have t : kv1 ≤ kv52 ∧ (kv51 = 4 → kv1 < kv52 ∨ kv2 = 4) := (qr821 r_kv1 c4 ph1_S27 ph2_S27 ph3_S27 r_x33 c34 ph1_S42 ph2_S42 ph3_S42 ph1_S48 r_kv52 ph2_S48); rw [di_8, di_9, d_kv52, d_kv51] at t; exact t), (by have t : kv51 = 5 ∨ ¬ v1 = v2 := (qr822 c4 ph1_S27 ph3_S27 r_x33 c34 ph1_S42 ph3_S42 ph1_S48); rw [d_kv51] at t; exact t)⟩
set_option maxHeartbeats 4000000 in
set_option maxRecDepth 20000 in
theorem m_X11_eatsSign {v0 : Nat} {v1 : Int32} {Q : Int32 → HS → Prop} {S : HS} (hI : IV S) (o_v0 : ob S v0 11)    (hG : RG S v0) (hO : fI S v0 9 = 5 → 0 < fI S v0 13) (hq : ∀ (r : Int32) (T : HS), IV T → Gr S T → FRI [(11, 8), (11, 9), (11, 10), (11, 11), (11, 12)] [] S T → bl r → (RG T v0) ∧ (fI T v0 9 = 5 → 0 < fI T v0 13) ∧ (fI T v0 9 = 5 ∨ ¬ fI S v0 9 = 5) ∧ (fI S v0 8 ≤ fI T v0 8 ∧ (fI T v0 9 = 4 → fI S v0 8 < fI T v0 8 ∨ fI S v0 9 = 4)) ∧ (r = 0 ∨ fI S v0 9 = 4) → Q r T) : P_X11_eatsSign v0 v1 Q S := by
  have g0 := gr_rf S
  have f0 := fri_rf [(11, 8), (11, 9), (11, 10), (11, 11), (11, 12)] [] S
  obtain ⟨kv1, d_kv1⟩ : ∃ z : Int32, z = fI S v0 8 := ⟨_, rfl⟩
  have r_kv1 : (0 : Int32) ≤ kv1 ∧ kv1 ≤ (900 : Int32) := by rw [d_kv1]; exact nu 25 rfl hI o_v0
  have di_8 := d_kv1
  obtain ⟨kv2, d_kv2⟩ : ∃ z : Int32, z = fI S v0 9 := ⟨_, rfl⟩
  have di_9 := d_kv2
  obtain ⟨kv3, d_kv3⟩ : ∃ z : Int32, z = fI S v0 13 := ⟨_, rfl⟩
  have di_13 := d_kv3
  have hO : kv2 = 5 → 0 < kv3 := by rw [d_kv2, d_kv3]; exact hO
  refine u_X11_eatsSign ?_
  refine u_X11_eatsSign_0 ?_
  refine ⟨o_v0, ?_⟩
  intro x4 ex4
  have q_x4 : x4 = kv2 := ex4.trans d_kv2.symm
  have d_x4 := ex4
  refine ⟨fun c5 => ?_, fun c5 => ?_⟩
  · refine u_X11_eatsSign_20 ?_
    refine u_X11_eatsSign_21 ?_
    refine ⟨fun c6 => ?_, fun c6 => absurd (show ¬ (0 : Int32) = 0 from c6) (by decide)⟩
    refine ⟨(Or.inl rfl), ?_⟩
    exact hq _ _ hI g0 f0 (Or.inl rfl) ⟨hG, (by have t : x4 = 5 → 0 < kv3 := (qr782 hO q_x4 c5); rw [d_x4, d_kv3] at t; exact t), (by have t : x4 = 5 ∨ ¬ kv2 = 5 := (qr783 q_x4 c5); rw [di_9, d_x4] at t; exact t), (by have t : kv1 ≤ kv1 ∧ (x4 = 4 → kv1 < kv1 ∨ kv2 = 4) := (qr784 r_kv1 q_x4 c5); rw [d_kv1, di_9, d_x4] at t; exact t), (by have t : (0 : Int32) = 0 ∨ kv2 = 4 := (qr785 q_x4 c5); rw [di_9] at t; exact t)⟩
  · intro x7 ex7
    have d_x7 := ex7
    refine ⟨fun c8 => ?_, fun c8 => ?_⟩
    · refine u_X11_eatsSign_20 ?_
      refine u_X11_eatsSign_21 ?_
      refine ⟨fun c9 => ?_, fun c9 => absurd (show ¬ (0 : Int32) = 0 from c9) (by decide)⟩
      refine ⟨(Or.inl rfl), ?_⟩
      exact hq _ _ hI g0 f0 (Or.inl rfl) ⟨hG, (by have t : x4 = 5 → 0 < kv3 := (qr786 hO q_x4 c5 c8); rw [d_x4, d_kv3] at t; exact t), (by have t : x4 = 5 ∨ ¬ kv2 = 5 := (qr787 q_x4 c5 c8); rw [di_9, d_x4] at t; exact t), (by have t : kv1 ≤ kv1 ∧ (x4 = 4 → kv1 < kv1 ∨ kv2 = 4) := (qr788 r_kv1 q_x4 c5 c8); rw [d_kv1, di_9, d_x4] at t; exact t), (by have t : (0 : Int32) = 0 ∨ kv2 = 4 := (qr789 q_x4 c5 c8); rw [di_9] at t; exact t)⟩
    · refine u_X11_eatsSign_21 ?_
      refine ⟨fun c10 => absurd (show (1 : Int32) = 0 from c10) (by decide), fun c10 => ?_⟩
      refine ⟨o_v0, ?_⟩
      have do10_kv1 := d_kv1
      have do10_x4 := d_x4
      have do10_kv3 := d_kv3
      refine m_X11_goesOn hI o_v0 hG (by have t : x4 = 5 → 0 < kv3 := (qr790 hO q_x4 c5 c8); rw [d_x4, d_kv3] at t; exact t) (fun S12 hJ g13 fc14 p_S12 => ?_)
      obtain ⟨hG, pg0_S12, pg1_S12, pg2_S12⟩ := p_S12
      have hI := hJ
      have d_kv3 := d_kv3.trans (fri_at fc14 (by decide) (by decide) o_v0).symm
      have f0 := fri_tr (S := S) g0 f0 fc14 (by decide) (by decide)
      have o_v0 := gr_ob g13 o_v0
      have g0 := gr_tr (T := S) g0 g13
      obtain ⟨kv15, d_kv15⟩ : ∃ z : Int32, z = fI S12 v0 9 := ⟨_, rfl⟩
      have ph0_S12 : kv15 = 5 → 0 < kv3 := by rw [d_kv15, d_kv3]; exact pg0_S12
      have ph1_S12 : kv15 = 5 ∨ ¬ x4 = 5 := by rw [do10_x4, d_kv15]; exact pg1_S12
      obtain ⟨kv16, d_kv16⟩ : ∃ z : Int32, z = fI S12 v0 8 := ⟨_, rfl⟩
      have r_kv16 : (0 : Int32) ≤ kv16 ∧ kv16 ≤ (900 : Int32) := by rw [d_kv16]; exact nu 25 rfl hI o_v0
      have ph2_S12 : kv1 ≤ kv16 ∧ (kv15 = 4 → kv1 < kv16 ∨ x4 = 4) := by rw [do10_kv1, do10_x4, d_kv16, d_kv15]; exact pg2_S12
      intro _
      refine ⟨(Or.inr rfl), ?_⟩
      exact hq _ _ hI g0 f0 (Or.inr rfl) ⟨hG, (by have t : kv15 = 5 → 0 < kv3 := (qr791 hO q_x4 c5 c8 ph0_S12 ph1_S12); rw [d_kv15, d_kv3] at t; exact t), (by have t : kv15 = 5 ∨ ¬ kv2 = 5 := (qr792 q_x4 c5 c8 ph1_S12); rw [di_9, d_kv15] at t; exact t), (by have t : kv1 ≤ kv16 ∧ (kv15 = 4 → kv1 < kv16 ∨ kv2 = 4) := (qr793 r_kv1 q_x4 c5 c8 ph1_S12 r_kv16 ph2_S12); rw [di_8, di_9, d_kv16, d_kv15] at t; exact t), (by have t : (1 : Int32) = 0 ∨ kv2 = 4 := (qr794 q_x4 c5 c8 ph1_S12); rw [di_9] at t; exact t)⟩
set_option maxHeartbeats 4000000 in
set_option maxRecDepth 20000 in
theorem m_X11_wordOf {v0 : Nat} {Q : Int64 → HS → Prop} {S : HS} (hI : IV S)   (hw_v0 : v0 < 54)   (hq : ∀ (r : Int64) (T : HS), IV T → Gr S T → (S = T) → Q r T) : P_X11_wordOf v0 Q S := by
  have g0 := gr_rf S
  refine u_X11_wordOf ?_
  refine u_X11_wordOf_0 ?_
  refine i_X11_wordOf_4 (fun (y0 : Nat) (y1 : Int64) (y3 : Int32) (Z : HS) => ((2147483647 : Int32).toInt - y3.toInt).toNat) (fun (y0 : Nat) (y1 : Int64) (y3 : Int32) (Z : HS) => (S = Z) ∧ (v0 = y0) ∧ (0 ≤ y3)) ?_ _ _ _ _ ⟨rfl, rfl, (qr706)⟩
  intro w5 w7 w8 S2 X9 ⟨eS2, q6, i1u1⟩ ih10
  subst q6
  subst eS2
  refine u_X11_wordOf_4 ?_
  refine ⟨hw_v0, ?_⟩
  intro x11 ex11
  refine ⟨fun c12 => ?_, fun c12 => ?_⟩
  · exact hq _ _ hI g0 rfl
  · refine ⟨hw_v0, (vinL (sl_lt v0) (by rw [← ex11]; exact (qr707 i1u1 c12))), ?_⟩
    intro x13 ex13
    intro x14 ex14
    intro x15 ex15
    exact ih10 _ _ _ _ ⟨rfl, rfl, (qr708 i1u1 c12 ex15)⟩ (mu_up (qr709 i1u1 c12 ex15) (qr710 i1u1 c12 ex15))
set_option maxHeartbeats 4000000 in
set_option maxRecDepth 20000 in
theorem m_X11_isWord {v0 : Nat} {v1 : Nat} {Q : Int32 → HS → Prop} {S : HS} (hI : IV S) (o_v0 : ob S v0 11)  (hw_v1 : v1 < 54)   (hq : ∀ (r : Int32) (T : HS), IV T → Gr S T → bl r → (S = T) ∧ (r = 0 ∨ fI S v0 9 = 2) → Q r T) : P_X11_isWord v0 v1 Q S := by
  have g0 := gr_rf S
  refine u_X11_isWord ?_
  refine u_X11_isWord_0 ?_
  refine ⟨o_v0, ?_⟩
  intro x1 ex1
  have d_x1 := ex1
  refine ⟨fun c2 => ?_, fun c2 => ?_⟩
  · exact hq _ _ hI g0 (Or.inl rfl) ⟨rfl, (Or.inl rfl)⟩
  · intro x3 ex3
    have dj_x3 := ex3
    refine m_X11_wordOf hI hw_v1 (fun x4 S5 hI2 g6 p_x4 => ?_)
    subst p_x4
    intro _
    refine ⟨fun c8 => ?_, fun c8 => ?_⟩
    · exact hq _ _ hI g0 (Or.inl rfl) ⟨rfl, (Or.inl rfl)⟩
    · exact hq _ _ hI g0 (Or.inr rfl) ⟨rfl, (Or.inr (by rw [← d_x1]; exact (qr705 c2 c8)))⟩
set_option maxHeartbeats 4000000 in
set_option maxRecDepth 20000 in
theorem m_X11_eatsWord {v0 : Nat} {v1 : Nat} {Q : Int32 → HS → Prop} {S : HS} (hI : IV S) (o_v0 : ob S v0 11)  (hw_v1 : v1 < 54)  (hG : RG S v0) (hO : fI S v0 9 = 5 → 0 < fI S v0 13) (hq : ∀ (r : Int32) (T : HS), IV T → Gr S T → FRI [(11, 8), (11, 9), (11, 10), (11, 11), (11, 12)] [] S T → bl r → (RG T v0) ∧ (fI T v0 9 = 5 → 0 < fI T v0 13) ∧ (fI T v0 9 = 5 ∨ ¬ fI S v0 9 = 5) ∧ (fI S v0 8 ≤ fI T v0 8 ∧ (fI T v0 9 = 4 → fI S v0 8 < fI T v0 8 ∨ fI S v0 9 = 4)) → Q r T) : P_X11_eatsWord v0 v1 Q S := by
  have g0 := gr_rf S
  have f0 := fri_rf [(11, 8), (11, 9), (11, 10), (11, 11), (11, 12)] [] S
  obtain ⟨kv1, d_kv1⟩ : ∃ z : Int32, z = fI S v0 8 := ⟨_, rfl⟩
  have r_kv1 : (0 : Int32) ≤ kv1 ∧ kv1 ≤ (900 : Int32) := by rw [d_kv1]; exact nu 25 rfl hI o_v0
  have di_8 := d_kv1
  obtain ⟨kv2, d_kv2⟩ : ∃ z : Int32, z = fI S v0 9 := ⟨_, rfl⟩
  have di_9 := d_kv2
  obtain ⟨kv3, d_kv3⟩ : ∃ z : Int32, z = fI S v0 13 := ⟨_, rfl⟩
  have di_13 := d_kv3
  have hO : kv2 = 5 → 0 < kv3 := by rw [d_kv2, d_kv3]; exact hO
  refine u_X11_eatsWord ?_
  refine u_X11_eatsWord_0 ?_
  refine ⟨o_v0, ?_⟩
  refine m_X11_isWord hI o_v0 hw_v1 (fun x4 S5 hI2 g6 b_x4 p_x4 => ?_)
  obtain ⟨z_S5, p_x4⟩ := p_x4
  subst z_S5
  intro _ _
  have bb_x4 : x4 = 0 ∨ x4 = 1 := b_x4
  have iw_x4 : x4 = 0 ∨ kv2 = 2 := by rw [d_kv2]; exact p_x4
  refine ⟨fun c8 => ?_, fun c8 => ?_⟩
  · refine ⟨b_x4, ?_⟩
    exact hq _ _ hI g0 f0 b_x4 ⟨hG, (by have t : kv2 = 5 → 0 < kv3 := (qr636 hO bb_x4 iw_x4 c8); rw [d_kv2, d_kv3] at t; exact t), (by have t : kv2 = 5 ∨ ¬ kv2 = 5 := (qr780 bb_x4 iw_x4 c8); rw [d_kv2] at t; exact t), (by have t : kv1 ≤ kv1 ∧ (kv2 = 4 → kv1 < kv1 ∨ kv2 = 4) := (qr781 r_kv1 bb_x4 iw_x4 c8); rw [d_kv1, d_kv2] at t; exact t)⟩
  · have do8_kv1 := d_kv1
    have do8_kv2 := d_kv2
    have do8_kv3 := d_kv3
    refine m_X11_goesOn hI o_v0 hG (by have t : kv2 = 5 → 0 < kv3 := (qr59 hO bb_x4 iw_x4 c8); rw [d_kv2, d_kv3] at t; exact t) (fun S10 hJ g11 fc12 p_S10 => ?_)
    obtain ⟨hG, pg0_S10, pg1_S10, pg2_S10⟩ := p_S10
    have hI := hJ
    have d_kv3 := d_kv3.trans (fri_at fc12 (by decide) (by decide) o_v0).symm
    have f0 := fri_tr (S := S) g0 f0 fc12 (by decide) (by decide)
    have o_v0 := gr_ob g11 o_v0
    have g0 := gr_tr (T := S) g0 g11
    obtain ⟨kv13, d_kv13⟩ : ∃ z : Int32, z = fI S10 v0 9 := ⟨_, rfl⟩
    have ph0_S10 : kv13 = 5 → 0 < kv3 := by rw [d_kv13, d_kv3]; exact pg0_S10
    have ph1_S10 : kv13 = 5 ∨ ¬ kv2 = 5 := by rw [do8_kv2, d_kv13]; exact pg1_S10
    obtain ⟨kv14, d_kv14⟩ : ∃ z : Int32, z = fI S10 v0 8 := ⟨_, rfl⟩
    have r_kv14 : (0 : Int32) ≤ kv14 ∧ kv14 ≤ (900 : Int32) := by rw [d_kv14]; exact nu 25 rfl hI o_v0
    have ph2_S10 : kv1 ≤ kv14 ∧ (kv13 = 4 → kv1 < kv14 ∨ kv2 = 4) := by rw [do8_kv1, do8_kv2, d_kv14, d_kv13]; exact pg2_S10
    intro _
    refine ⟨b_x4, ?_⟩
    exact hq _ _ hI g0 f0 b_x4 ⟨hG, (by have t : kv13 = 5 → 0 < kv3 := (qr517 hO bb_x4 iw_x4 c8 ph0_S10 ph1_S10); rw [d_kv13, d_kv3] at t; exact t), (by have t : kv13 = 5 ∨ ¬ kv2 = 5 := (qr518 bb_x4 iw_x4 c8 ph1_S10); rw [di_9, d_kv13] at t; exact t), (by have t : kv1 ≤ kv14 ∧ (kv13 = 4 → kv1 < kv14 ∨ kv2 = 4) := (qr519 r_kv1 bb_x4 iw_x4 c8 ph1_S10 r_kv14 ph2_S10); rw [di_8, di_9, d_kv14, d_kv13] at t; exact t)⟩
set_option maxHeartbeats 4000000 in
set_option maxRecDepth 20000 in
theorem m_X11_isName {v0 : Nat} {Q : Int32 → HS → Prop} {S : HS} (hI : IV S) (o_v0 : ob S v0 11)     (hq : ∀ (r : Int32) (T : HS), IV T → Gr S T → bl r → (S = T) → Q r T) : P_X11_isName v0 Q S := by
  have g0 := gr_rf S
  refine u_X11_isName ?_
  refine u_X11_isName_0 ?_
  refine ⟨o_v0, ?_⟩
  intro x1 ex1
  have d_x1 := ex1
  refine ⟨fun c2 => ?_, fun c2 => ?_⟩
  · exact hq _ _ hI g0 (Or.inl rfl) rfl
  · refine m_X11_isWord hI o_v0 (by decide) (fun x3 S4 hI2 g5 b_x3 p_x3 => ?_)
    obtain ⟨z_S4, p_x3⟩ := p_x3
    subst z_S4
    intro _ _
    have bb_x3 : x3 = 0 ∨ x3 = 1 := b_x3
    have iw_x3 : x3 = 0 ∨ x1 = 2 := by rw [d_x1]; exact p_x3
    refine ⟨fun c7 => ?_, fun c7 => ?_⟩
    · exact hq _ _ hI g0 (Or.inl rfl) rfl
    · refine m_X11_isWord hI o_v0 (by decide) (fun x8 S9 hI2 g10 b_x8 p_x8 => ?_)
      obtain ⟨z_S9, p_x8⟩ := p_x8
      subst z_S9
      intro _ _
      have bb_x8 : x8 = 0 ∨ x8 = 1 := b_x8
      have iw_x8 : x8 = 0 ∨ x1 = 2 := by rw [d_x1]; exact p_x8
      refine ⟨fun c12 => ?_, fun c12 => ?_⟩
      · exact hq _ _ hI g0 (Or.inl rfl) rfl
      · refine m_X11_isWord hI o_v0 (by decide) (fun x13 S14 hI2 g15 b_x13 p_x13 => ?_)
        obtain ⟨z_S14, p_x13⟩ := p_x13
        subst z_S14
        intro _ _
        have bb_x13 : x13 = 0 ∨ x13 = 1 := b_x13
        have iw_x13 : x13 = 0 ∨ x1 = 2 := by rw [d_x1]; exact p_x13
        refine ⟨fun c17 => ?_, fun c17 => ?_⟩
        · exact hq _ _ hI g0 (Or.inl rfl) rfl
        · refine m_X11_isWord hI o_v0 (by decide) (fun x18 S19 hI2 g20 b_x18 p_x18 => ?_)
          obtain ⟨z_S19, p_x18⟩ := p_x18
          subst z_S19
          intro _ _
          have bb_x18 : x18 = 0 ∨ x18 = 1 := b_x18
          have iw_x18 : x18 = 0 ∨ x1 = 2 := by rw [d_x1]; exact p_x18
          refine ⟨fun c22 => ?_, fun c22 => ?_⟩
          · refine m_X11_isWord hI o_v0 (by decide) (fun x23 S24 hI2 g25 b_x23 p_x23 => ?_)
            obtain ⟨z_S24, p_x23⟩ := p_x23
            subst z_S24
            intro _ _
            have bb_x23 : x23 = 0 ∨ x23 = 1 := b_x23
            have iw_x23 : x23 = 0 ∨ x1 = 2 := by rw [d_x1]; exact p_x23
            refine ⟨fun c27 => ?_, fun c27 => ?_⟩
            · exact hq _ _ hI g0 (Or.inl rfl) rfl
            · refine m_X11_isWord hI o_v0 (by decide) (fun x28 S29 hI2 g30 b_x28 p_x28 => ?_)
              obtain ⟨z_S29, p_x28⟩ := p_x28
              subst z_S29
              intro _ _
              have bb_x28 : x28 = 0 ∨ x28 = 1 := b_x28
              have iw_x28 : x28 = 0 ∨ x1 = 2 := by rw [d_x1]; exact p_x28
              refine ⟨fun c32 => ?_, fun c32 => ?_⟩
              · exact hq _ _ hI g0 (Or.inl rfl) rfl
              · refine m_X11_isWord hI o_v0 (by decide) (fun x33 S34 hI2 g35 b_x33 p_x33 => ?_)
                obtain ⟨z_S34, p_x33⟩ := p_x33
                subst z_S34
                intro _ _
                have bb_x33 : x33 = 0 ∨ x33 = 1 := b_x33
                have iw_x33 : x33 = 0 ∨ x1 = 2 := by rw [d_x1]; exact p_x33
                refine ⟨fun c37 => ?_, fun c37 => ?_⟩
                · exact hq _ _ hI g0 (Or.inl rfl) rfl
                · refine m_X11_isWord hI o_v0 (by decide) (fun x38 S39 hI2 g40 b_x38 p_x38 => ?_)
                  obtain ⟨z_S39, p_x38⟩ := p_x38
                  subst z_S39
                  intro _ _
                  have bb_x38 : x38 = 0 ∨ x38 = 1 := b_x38
                  have iw_x38 : x38 = 0 ∨ x1 = 2 := by rw [d_x1]; exact p_x38
                  refine ⟨fun c42 => ?_, fun c42 => ?_⟩
                  · exact hq _ _ hI g0 (Or.inl rfl) rfl
                  · refine m_X11_isWord hI o_v0 (by decide) (fun x43 S44 hI2 g45 b_x43 p_x43 => ?_)
                    obtain ⟨z_S44, p_x43⟩ := p_x43
                    subst z_S44
                    intro _ _
                    have bb_x43 : x43 = 0 ∨ x43 = 1 := b_x43
                    have iw_x43 : x43 = 0 ∨ x1 = 2 := by rw [d_x1]; exact p_x43
                    refine ⟨fun c47 => ?_, fun c47 => ?_⟩
                    · exact hq _ _ hI g0 (Or.inl rfl) rfl
                    · exact hq _ _ hI g0 (Or.inr rfl) rfl
          · exact hq _ _ hI g0 (Or.inl rfl) rfl
set_option maxHeartbeats 4000000 in
set_option maxRecDepth 20000 in
theorem m_X11_known {v0 : Nat} {v1 : Int32} {Q : Int32 → HS → Prop} {S : HS} (hI : IV S) (o_v0 : ob S v0 11)   (h1 : v1 = 0 ∨ v1 = 1) (hG : RG S v0) (hn : RN S v0) (hO : fI S v0 9 = 5 → 0 < fI S v0 13) (hq : ∀ (r : Int32) (T : HS), IV T → Gr S T → FRI [(11, 9), (11, 13), (11, 14)] [] S T → (RG T v0) ∧ (RN T v0) ∧ (KR T v0 v1 r) ∧ (fI T v0 9 = 5 → 0 < fI T v0 13) ∧ (fI T v0 9 = 5 ∨ ¬ fI S v0 9 = 5) ∧ (fI S v0 8 ≤ fI T v0 8 ∧ (fI T v0 9 = 4 → fI S v0 8 < fI T v0 8 ∨ fI S v0 9 = 4)) → Q r T) : P_X11_known v0 v1 Q S := by
  have g0 := gr_rf S
  have f0 := fri_rf [(11, 9), (11, 13), (11, 14)] [] S
  obtain ⟨kv1, d_kv1⟩ : ∃ z : Int32, z = fI S v0 8 := ⟨_, rfl⟩
  have r_kv1 : (0 : Int32) ≤ kv1 ∧ kv1 ≤ (900 : Int32) := by rw [d_kv1]; exact nu 25 rfl hI o_v0
  have di_8 := d_kv1
  obtain ⟨kv2, d_kv2⟩ : ∃ z : Int32, z = fI S v0 9 := ⟨_, rfl⟩
  have di_9 := d_kv2
  obtain ⟨kv3, d_kv3⟩ : ∃ z : Int32, z = fI S v0 13 := ⟨_, rfl⟩
  have di_13 := d_kv3
  have hO : kv2 = 5 → 0 < kv3 := by rw [d_kv2, d_kv3]; exact hO
  refine u_X11_known ?_
  refine u_X11_known_0 ?_
  refine ⟨o_v0, ?_⟩
  refine m_X11_isName hI o_v0 (fun x4 S5 hI2 g6 b_x4 p_x4 => ?_)
  subst p_x4
  intro _ _
  have bb_x4 : x4 = 0 ∨ x4 = 1 := b_x4
  refine ⟨fun c8 => ?_, fun c8 => ?_⟩
  · refine u_X11_known_12 ?_
    refine ⟨o_v0, ?_⟩
    obtain ⟨a9, ea9, o_a9, -⟩ := id hG
    refine ⟨a9, ea9, ?_⟩
    intro x10 ex10
    have dj_x10 := ex10
    refine ⟨o_a9, ?_⟩
    refine m_X10_find hI o_a9 (fun x11 S12 hI2 g13 p_x11 => ?_)
    obtain ⟨z_S12, p_x11⟩ := p_x11
    subst z_S12
    intro _
    obtain ⟨kv15, d_kv15⟩ : ∃ z : Int32, z = fI S a9 6 := ⟨_, rfl⟩
    have r_kv15 : (0 : Int32) ≤ kv15 ∧ kv15 ≤ (12 : Int32) := by rw [d_kv15]; exact nu 22 rfl hI o_a9
    have fn_x11 : x11 = -1 ∨ (0 ≤ x11 ∧ x11 < kv15) := by rw [d_kv15]; exact p_x11
    refine ⟨fun c16 => ?_, fun c16 => ?_⟩
    · refine u_X11_known_42 ?_
      refine ⟨o_v0, ?_⟩
      have do16_kv1 := d_kv1
      have do16_kv2 := d_kv2
      have do16_kv3 := d_kv3
      refine m_X11_flaw hI o_v0 (qr641 bb_x4 c8 r_kv15 fn_x11 c16) hG (by have t : kv2 = 5 → 0 < kv3 := (qr613 hO bb_x4 c8 r_kv15 fn_x11 c16); rw [d_kv2, d_kv3] at t; exact t) (fun S18 hJ g19 fc20 p_S18 => ?_)
      obtain ⟨hG, pg0_S18, pg1_S18, pg2_S18, pg3_S18⟩ := p_S18
      have hn := rn_fr fc20 g19 hI o_v0 (by decide) hn
      have hI := hJ
      have d_kv1 := d_kv1.trans (fri_at fc20 (by decide) (by decide) o_v0).symm
      have d_kv15 := d_kv15.trans (fri_at fc20 (by decide) (by decide) o_a9).symm
      have ea9 := (frr_at fc20 (by decide) (by decide) o_v0).trans ea9
      have f0 := fri_tr (S := S) g0 f0 fc20 (by decide) (by decide)
      have o_a9 := gr_ob g19 o_a9
      have o_v0 := gr_ob g19 o_v0
      have g0 := gr_tr (T := S) g0 g19
      obtain ⟨kv21, d_kv21⟩ : ∃ z : Int32, z = fI S18 v0 9 := ⟨_, rfl⟩
      obtain ⟨kv22, d_kv22⟩ : ∃ z : Int32, z = fI S18 v0 13 := ⟨_, rfl⟩
      have ph0_S18 : kv21 = 5 → 0 < kv22 := by rw [d_kv21, d_kv22]; exact pg0_S18
      have ph1_S18 : kv21 = 5 ∨ ¬ kv2 = 5 := by rw [do16_kv2, d_kv21]; exact pg1_S18
      have ph2_S18 : kv1 ≤ kv1 ∧ (kv21 = 4 → kv1 < kv1 ∨ kv2 = 4) := by rw [d_kv1, do16_kv2, d_kv21]; exact pg2_S18
      have ph3_S18 : kv21 = 5 := by rw [d_kv21]; exact pg3_S18
      intro _
      refine u_X11_known_47 ?_
      refine ⟨o_v0, ?_⟩
      intro x23 ex23
      have q_x23 : x23 = kv21 := ex23.trans d_kv21.symm
      have d_x23 := ex23
      refine ⟨fun c24 => ?_, fun c24 => ?_⟩
      · refine ⟨a9, ea9, ?_⟩
        refine ⟨o_a9, ?_⟩
        obtain ⟨a26, ea26, o_a26, l_a26⟩ := shl 52 rfl hI o_a9
        refine ⟨a26, ea26, ?_⟩
        refine ⟨o_a26, ?_⟩
        refine ⟨(vin l_a26 (m := 12) (by decide) (qr642 bb_x4 c8 r_kv15 fn_x11 c16 ph1_S18 ph3_S18 q_x23 c24)), ?_⟩
        intro x27 ex27
        exact hq _ _ hI g0 f0 ⟨hG, hn, (Or.inl (by rw [← d_x23]; exact (qr643 bb_x4 c8 r_kv15 fn_x11 c16 ph1_S18 ph3_S18 q_x23 c24))), (by have t : x23 = 5 → 0 < kv22 := (qr644 hO bb_x4 c8 r_kv15 fn_x11 c16 ph0_S18 ph1_S18 ph3_S18 q_x23 c24); rw [d_x23, d_kv22] at t; exact t), (by have t : x23 = 5 ∨ ¬ kv2 = 5 := (qr645 bb_x4 c8 r_kv15 fn_x11 c16 ph1_S18 ph3_S18 q_x23 c24); rw [di_9, d_x23] at t; exact t), (by have t : kv1 ≤ kv1 ∧ (x23 = 4 → kv1 < kv1 ∨ kv2 = 4) := (qr646 r_kv1 bb_x4 c8 r_kv15 fn_x11 c16 ph1_S18 ph2_S18 ph3_S18 q_x23 c24); rw [d_kv1, di_9, d_x23] at t; exact t)⟩
      · exact hq _ _ hI g0 f0 ⟨hG, hn, (Or.inl (by rw [← d_x23]; exact (qr647 bb_x4 c8 r_kv15 fn_x11 c16 ph1_S18 ph3_S18 q_x23 c24))), (by have t : x23 = 5 → 0 < kv22 := (qr648 hO bb_x4 c8 r_kv15 fn_x11 c16 ph0_S18 ph1_S18 ph3_S18 q_x23 c24); rw [d_x23, d_kv22] at t; exact t), (by have t : x23 = 5 ∨ ¬ kv2 = 5 := (qr649 bb_x4 c8 r_kv15 fn_x11 c16 ph1_S18 ph3_S18 q_x23 c24); rw [di_9, d_x23] at t; exact t), (by have t : kv1 ≤ kv1 ∧ (x23 = 4 → kv1 < kv1 ∨ kv2 = 4) := (qr650 r_kv1 bb_x4 c8 r_kv15 fn_x11 c16 ph1_S18 ph2_S18 ph3_S18 q_x23 c24); rw [d_kv1, di_9, d_x23] at t; exact t)⟩
    · refine ⟨a9, ea9, ?_⟩
      refine ⟨o_a9, ?_⟩
      obtain ⟨a29, ea29, o_a29, l_a29⟩ := shl 51 rfl hI o_a9
      refine ⟨a29, ea29, ?_⟩
      refine ⟨o_a29, ?_⟩
      refine ⟨(vin l_a29 (m := 12) (by decide) (qr651 bb_x4 c8 r_kv15 fn_x11 c16)), ?_⟩
      intro x30 ex30
      refine ⟨fun c31 => ?_, fun c31 => ?_⟩
      · refine u_X11_known_47 ?_
        refine ⟨o_v0, ?_⟩
        intro x32 ex32
        have q_x32 : x32 = kv2 := ex32.trans d_kv2.symm
        have d_x32 := ex32
        refine ⟨fun c33 => ?_, fun c33 => ?_⟩
        · refine ⟨a9, ea9, ?_⟩
          refine ⟨o_a9, ?_⟩
          obtain ⟨a35, ea35, o_a35, l_a35⟩ := shl 52 rfl hI o_a9
          refine ⟨a35, ea35, ?_⟩
          refine ⟨o_a35, ?_⟩
          refine ⟨(vin l_a35 (m := 12) (by decide) (qr652 h1 bb_x4 c8 r_kv15 fn_x11 c16 c31 q_x32 c33)), ?_⟩
          intro x36 ex36
          exact hq _ _ hI g0 f0 ⟨hG, hn, (kn_ok (y := x11) hG hn ea9 ea29 ea35 (qr653 h1 bb_x4 c8 r_kv15 fn_x11 c16 c31 q_x32 c33) (by rw [← d_kv15]; exact (qr654 h1 bb_x4 c8 r_kv15 fn_x11 c16 c31 q_x32 c33)) (ex30.symm.trans (qr655 h1 bb_x4 c8 r_kv15 fn_x11 c16 c31 q_x32 c33)) ex36), (by have t : x32 = 5 → 0 < kv3 := (qr656 h1 hO bb_x4 c8 r_kv15 fn_x11 c16 c31 q_x32 c33); rw [d_x32, d_kv3] at t; exact t), (by have t : x32 = 5 ∨ ¬ kv2 = 5 := (qr657 h1 bb_x4 c8 r_kv15 fn_x11 c16 c31 q_x32 c33); rw [di_9, d_x32] at t; exact t), (by have t : kv1 ≤ kv1 ∧ (x32 = 4 → kv1 < kv1 ∨ kv2 = 4) := (qr658 h1 r_kv1 bb_x4 c8 r_kv15 fn_x11 c16 c31 q_x32 c33); rw [d_kv1, di_9, d_x32] at t; exact t)⟩
        · exact hq _ _ hI g0 f0 ⟨hG, hn, (Or.inl (by rw [← d_x32]; exact (qr659 h1 bb_x4 c8 r_kv15 fn_x11 c16 c31 q_x32 c33))), (by have t : x32 = 5 → 0 < kv3 := (qr660 h1 hO bb_x4 c8 r_kv15 fn_x11 c16 c31 q_x32 c33); rw [d_x32, d_kv3] at t; exact t), (by have t : x32 = 5 ∨ ¬ kv2 = 5 := (qr661 h1 bb_x4 c8 r_kv15 fn_x11 c16 c31 q_x32 c33); rw [di_9, d_x32] at t; exact t), (by have t : kv1 ≤ kv1 ∧ (x32 = 4 → kv1 < kv1 ∨ kv2 = 4) := (qr662 h1 r_kv1 bb_x4 c8 r_kv15 fn_x11 c16 c31 q_x32 c33); rw [d_kv1, di_9, d_x32] at t; exact t)⟩
      · refine u_X11_known_42 ?_
        refine ⟨o_v0, ?_⟩
        have do36_kv1 := d_kv1
        have do36_kv2 := d_kv2
        have do36_kv3 := d_kv3
        refine m_X11_flaw hI o_v0 (qr663 h1 bb_x4 c8 r_kv15 fn_x11 c16 c31) hG (by have t : kv2 = 5 → 0 < kv3 := (qr664 h1 hO bb_x4 c8 r_kv15 fn_x11 c16 c31); rw [d_kv2, d_kv3] at t; exact t) (fun S38 hJ g39 fc40 p_S38 => ?_)
        obtain ⟨hG, pg0_S38, pg1_S38, pg2_S38, pg3_S38⟩ := p_S38
        have hn := rn_fr fc40 g39 hI o_v0 (by decide) hn
        have hI := hJ
        have l_a29 := (gr_len g39 o_a29).trans l_a29
        have d_kv1 := d_kv1.trans (fri_at fc40 (by decide) (by decide) o_v0).symm
        have d_kv15 := d_kv15.trans (fri_at fc40 (by decide) (by decide) o_a9).symm
        have ea9 := (frr_at fc40 (by decide) (by decide) o_v0).trans ea9
        have ea29 := (frr_at fc40 (by decide) (by decide) o_a9).trans ea29
        have f0 := fri_tr (S := S) g0 f0 fc40 (by decide) (by decide)
        have o_a29 := gr_ob g39 o_a29
        have o_a9 := gr_ob g39 o_a9
        have o_v0 := gr_ob g39 o_v0
        have g0 := gr_tr (T := S) g0 g39
        obtain ⟨kv41, d_kv41⟩ : ∃ z : Int32, z = fI S38 v0 9 := ⟨_, rfl⟩
        obtain ⟨kv42, d_kv42⟩ : ∃ z : Int32, z = fI S38 v0 13 := ⟨_, rfl⟩
        have ph0_S38 : kv41 = 5 → 0 < kv42 := by rw [d_kv41, d_kv42]; exact pg0_S38
        have ph1_S38 : kv41 = 5 ∨ ¬ kv2 = 5 := by rw [do36_kv2, d_kv41]; exact pg1_S38
        have ph2_S38 : kv1 ≤ kv1 ∧ (kv41 = 4 → kv1 < kv1 ∨ kv2 = 4) := by rw [d_kv1, do36_kv2, d_kv41]; exact pg2_S38
        have ph3_S38 : kv41 = 5 := by rw [d_kv41]; exact pg3_S38
        intro _
        refine u_X11_known_47 ?_
        refine ⟨o_v0, ?_⟩
        intro x43 ex43
        have q_x43 : x43 = kv41 := ex43.trans d_kv41.symm
        have d_x43 := ex43
        refine ⟨fun c44 => ?_, fun c44 => ?_⟩
        · refine ⟨a9, ea9, ?_⟩
          refine ⟨o_a9, ?_⟩
          obtain ⟨a46, ea46, o_a46, l_a46⟩ := shl 52 rfl hI o_a9
          refine ⟨a46, ea46, ?_⟩
          refine ⟨o_a46, ?_⟩
          refine ⟨(vin l_a46 (m := 12) (by decide) (qr665 h1 bb_x4 c8 r_kv15 fn_x11 c16 c31 ph1_S38 ph3_S38 q_x43 c44)), ?_⟩
          intro x47 ex47
          exact hq _ _ hI g0 f0 ⟨hG, hn, (Or.inl (by rw [← d_x43]; exact (qr666 h1 bb_x4 c8 r_kv15 fn_x11 c16 c31 ph1_S38 ph3_S38 q_x43 c44))), (by have t : x43 = 5 → 0 < kv42 := (qr667 h1 hO bb_x4 c8 r_kv15 fn_x11 c16 c31 ph0_S38 ph1_S38 ph3_S38 q_x43 c44); rw [d_x43, d_kv42] at t; exact t), (by have t : x43 = 5 ∨ ¬ kv2 = 5 := (qr668 h1 bb_x4 c8 r_kv15 fn_x11 c16 c31 ph1_S38 ph3_S38 q_x43 c44); rw [di_9, d_x43] at t; exact t), (by have t : kv1 ≤ kv1 ∧ (x43 = 4 → kv1 < kv1 ∨ kv2 = 4) := (qr669 h1 r_kv1 bb_x4 c8 r_kv15 fn_x11 c16 c31 ph1_S38 ph2_S38 ph3_S38 q_x43 c44); rw [d_kv1, di_9, d_x43] at t; exact t)⟩
        · exact hq _ _ hI g0 f0 ⟨hG, hn, (Or.inl (by rw [← d_x43]; exact (qr670 h1 bb_x4 c8 r_kv15 fn_x11 c16 c31 ph1_S38 ph3_S38 q_x43 c44))), (by have t : x43 = 5 → 0 < kv42 := (qr671 h1 hO bb_x4 c8 r_kv15 fn_x11 c16 c31 ph0_S38 ph1_S38 ph3_S38 q_x43 c44); rw [d_x43, d_kv42] at t; exact t), (by have t : x43 = 5 ∨ ¬ kv2 = 5 := (qr672 h1 bb_x4 c8 r_kv15 fn_x11 c16 c31 ph1_S38 ph3_S38 q_x43 c44); rw [di_9, d_x43] at t; exact t), (by have t : kv1 ≤ kv1 ∧ (x43 = 4 → kv1 < kv1 ∨ kv2 = 4) := (qr673 h1 r_kv1 bb_x4 c8 r_kv15 fn_x11 c16 c31 ph1_S38 ph2_S38 ph3_S38 q_x43 c44); rw [d_kv1, di_9, d_x43] at t; exact t)⟩
  · have do47_kv1 := d_kv1
    have do47_kv2 := d_kv2
    have do47_kv3 := d_kv3
    refine m_X11_flaw hI o_v0 (qr623 bb_x4 c8) hG (by have t : kv2 = 5 → 0 < kv3 := (qr624 hO bb_x4 c8); rw [d_kv2, d_kv3] at t; exact t) (fun S49 hJ g50 fc51 p_S49 => ?_)
    obtain ⟨hG, pg0_S49, pg1_S49, pg2_S49, pg3_S49⟩ := p_S49
    have hn := rn_fr fc51 g50 hI o_v0 (by decide) hn
    have hI := hJ
    have d_kv1 := d_kv1.trans (fri_at fc51 (by decide) (by decide) o_v0).symm
    have f0 := fri_tr (S := S) g0 f0 fc51 (by decide) (by decide)
    have o_v0 := gr_ob g50 o_v0
    have g0 := gr_tr (T := S) g0 g50
    obtain ⟨kv52, d_kv52⟩ : ∃ z : Int32, z = fI S49 v0 9 := ⟨_, rfl⟩
    obtain ⟨kv53, d_kv53⟩ : ∃ z : Int32, z = fI S49 v0 13 := ⟨_, rfl⟩
    have ph0_S49 : kv52 = 5 → 0 < kv53 := by rw [d_kv52, d_kv53]; exact pg0_S49
    have ph1_S49 : kv52 = 5 ∨ ¬ kv2 = 5 := by rw [do47_kv2, d_kv52]; exact pg1_S49
    have ph2_S49 : kv1 ≤ kv1 ∧ (kv52 = 4 → kv1 < kv1 ∨ kv2 = 4) := by rw [d_kv1, do47_kv2, d_kv52]; exact pg2_S49
    have ph3_S49 : kv52 = 5 := by rw [d_kv52]; exact pg3_S49
    intro _
    refine u_X11_known_12 ?_
    refine ⟨o_v0, ?_⟩
    obtain ⟨a54, ea54, o_a54, -⟩ := id hG
    refine ⟨a54, ea54, ?_⟩
    intro x55 ex55
    have dj_x55 := ex55
    refine ⟨o_a54, ?_⟩
    refine m_X10_find hI o_a54 (fun x56 S57 hI2 g58 p_x56 => ?_)
    obtain ⟨z_S57, p_x56⟩ := p_x56
    subst z_S57
    intro _
    obtain ⟨kv60, d_kv60⟩ : ∃ z : Int32, z = fI S49 a54 6 := ⟨_, rfl⟩
    have r_kv60 : (0 : Int32) ≤ kv60 ∧ kv60 ≤ (12 : Int32) := by rw [d_kv60]; exact nu 22 rfl hI o_a54
    have fn_x56 : x56 = -1 ∨ (0 ≤ x56 ∧ x56 < kv60) := by rw [d_kv60]; exact p_x56
    refine ⟨fun c61 => ?_, fun c61 => ?_⟩
    · refine u_X11_known_42 ?_
      refine ⟨o_v0, ?_⟩
      have do61_kv1 := d_kv1
      have do61_kv52 := d_kv52
      have do61_kv53 := d_kv53
      refine m_X11_flaw hI o_v0 (qr674 bb_x4 c8 r_kv60 fn_x56 c61) hG (by have t : kv52 = 5 → 0 < kv53 := (qr625 hO bb_x4 c8 ph0_S49 ph1_S49 ph3_S49 r_kv60 fn_x56 c61); rw [d_kv52, d_kv53] at t; exact t) (fun S63 hJ g64 fc65 p_S63 => ?_)
      obtain ⟨hG, pg0_S63, pg1_S63, pg2_S63, pg3_S63⟩ := p_S63
      have hn := rn_fr fc65 g64 hI o_v0 (by decide) hn
      have hI := hJ
      have d_kv1 := d_kv1.trans (fri_at fc65 (by decide) (by decide) o_v0).symm
      have d_kv60 := d_kv60.trans (fri_at fc65 (by decide) (by decide) o_a54).symm
      have ea54 := (frr_at fc65 (by decide) (by decide) o_v0).trans ea54
      have f0 := fri_tr (S := S49) g0 f0 fc65 (by decide) (by decide)
      have o_a54 := gr_ob g64 o_a54
      have o_v0 := gr_ob g64 o_v0
      have g0 := gr_tr (T := S49) g0 g64
      obtain ⟨kv66, d_kv66⟩ : ∃ z : Int32, z = fI S63 v0 9 := ⟨_, rfl⟩
      obtain ⟨kv67, d_kv67⟩ : ∃ z : Int32, z = fI S63 v0 13 := ⟨_, rfl⟩
      have ph0_S63 : kv66 = 5 → 0 < kv67 := by rw [d_kv66, d_kv67]; exact pg0_S63
      have ph1_S63 : kv66 = 5 ∨ ¬ kv52 = 5 := by rw [do61_kv52, d_kv66]; exact pg1_S63
      have ph2_S63 : kv1 ≤ kv1 ∧ (kv66 = 4 → kv1 < kv1 ∨ kv52 = 4) := by rw [d_kv1, do61_kv52, d_kv66]; exact pg2_S63
      have ph3_S63 : kv66 = 5 := by rw [d_kv66]; exact pg3_S63
      intro _
      refine u_X11_known_47 ?_
      refine ⟨o_v0, ?_⟩
      intro x68 ex68
      have q_x68 : x68 = kv66 := ex68.trans d_kv66.symm
      have d_x68 := ex68
      refine ⟨fun c69 => ?_, fun c69 => ?_⟩
      · refine ⟨a54, ea54, ?_⟩
        refine ⟨o_a54, ?_⟩
        obtain ⟨a71, ea71, o_a71, l_a71⟩ := shl 52 rfl hI o_a54
        refine ⟨a71, ea71, ?_⟩
        refine ⟨o_a71, ?_⟩
        refine ⟨(vin l_a71 (m := 12) (by decide) (qr675 bb_x4 c8 ph1_S49 ph3_S49 r_kv60 fn_x56 c61 ph1_S63 ph3_S63 q_x68 c69)), ?_⟩
        intro x72 ex72
        exact hq _ _ hI g0 f0 ⟨hG, hn, (Or.inl (by rw [← d_x68]; exact (qr676 bb_x4 c8 ph1_S49 ph3_S49 r_kv60 fn_x56 c61 ph1_S63 ph3_S63 q_x68 c69))), (by have t : x68 = 5 → 0 < kv67 := (qr677 hO bb_x4 c8 ph0_S49 ph1_S49 ph3_S49 r_kv60 fn_x56 c61 ph0_S63 ph1_S63 ph3_S63 q_x68 c69); rw [d_x68, d_kv67] at t; exact t), (by have t : x68 = 5 ∨ ¬ kv2 = 5 := (qr678 bb_x4 c8 ph1_S49 ph3_S49 r_kv60 fn_x56 c61 ph1_S63 ph3_S63 q_x68 c69); rw [di_9, d_x68] at t; exact t), (by have t : kv1 ≤ kv1 ∧ (x68 = 4 → kv1 < kv1 ∨ kv2 = 4) := (qr679 r_kv1 bb_x4 c8 ph1_S49 ph2_S49 ph3_S49 r_kv60 fn_x56 c61 ph1_S63 ph2_S63 ph3_S63 q_x68 c69); rw [d_kv1, di_9, d_x68] at t; exact t)⟩
      · exact hq _ _ hI g0 f0 ⟨hG, hn, (Or.inl (by rw [← d_x68]; exact (qr680 bb_x4 c8 ph1_S49 ph3_S49 r_kv60 fn_x56 c61 ph1_S63 ph3_S63 q_x68 c69))), (by have t : x68 = 5 → 0 < kv67 := (qr681 hO bb_x4 c8 ph0_S49 ph1_S49 ph3_S49 r_kv60 fn_x56 c61 ph0_S63 ph1_S63 ph3_S63 q_x68 c69); rw [d_x68, d_kv67] at t; exact t), (by have t : x68 = 5 ∨ ¬ kv2 = 5 := (qr682 bb_x4 c8 ph1_S49 ph3_S49 r_kv60 fn_x56 c61 ph1_S63 ph3_S63 q_x68 c69); rw [di_9, d_x68] at t; exact t), (by have t : kv1 ≤ kv1 ∧ (x68 = 4 → kv1 < kv1 ∨ kv2 = 4) := (qr683 r_kv1 bb_x4 c8 ph1_S49 ph2_S49 ph3_S49 r_kv60 fn_x56 c61 ph1_S63 ph2_S63 ph3_S63 q_x68 c69); rw [d_kv1, di_9, d_x68] at t; exact t)⟩
    · refine ⟨a54, ea54, ?_⟩
      refine ⟨o_a54, ?_⟩
      obtain ⟨a74, ea74, o_a74, l_a74⟩ := shl 51 rfl hI o_a54
      refine ⟨a74, ea74, ?_⟩
      refine ⟨o_a74, ?_⟩
      refine ⟨(vin l_a74 (m := 12) (by decide) (qr684 bb_x4 c8 r_kv60 fn_x56 c61)), ?_⟩
      intro x75 ex75
      refine ⟨fun c76 => ?_, fun c76 => ?_⟩
      · refine u_X11_known_47 ?_
        refine ⟨o_v0, ?_⟩
        intro x77 ex77
        have q_x77 : x77 = kv52 := ex77.trans d_kv52.symm
        have d_x77 := ex77
        refine ⟨fun c78 => ?_, fun c78 => ?_⟩
        · refine ⟨a54, ea54, ?_⟩
          refine ⟨o_a54, ?_⟩
          obtain ⟨a80, ea80, o_a80, l_a80⟩ := shl 52 rfl hI o_a54
          refine ⟨a80, ea80, ?_⟩
          refine ⟨o_a80, ?_⟩
          refine ⟨(vin l_a80 (m := 12) (by decide) (qr685 h1 bb_x4 c8 ph1_S49 ph3_S49 r_kv60 fn_x56 c61 c76 q_x77 c78)), ?_⟩
          intro x81 ex81
          exact hq _ _ hI g0 f0 ⟨hG, hn, (Or.inl (by rw [← d_x77]; exact (qr686 h1 bb_x4 c8 ph1_S49 ph3_S49 r_kv60 fn_x56 c61 c76 q_x77 c78))), (by have t : x77 = 5 → 0 < kv53 := (qr687 h1 hO bb_x4 c8 ph0_S49 ph1_S49 ph3_S49 r_kv60 fn_x56 c61 c76 q_x77 c78); rw [d_x77, d_kv53] at t; exact t), (by have t : x77 = 5 ∨ ¬ kv2 = 5 := (qr688 h1 bb_x4 c8 ph1_S49 ph3_S49 r_kv60 fn_x56 c61 c76 q_x77 c78); rw [di_9, d_x77] at t; exact t), (by have t : kv1 ≤ kv1 ∧ (x77 = 4 → kv1 < kv1 ∨ kv2 = 4) := (qr689 h1 r_kv1 bb_x4 c8 ph1_S49 ph2_S49 ph3_S49 r_kv60 fn_x56 c61 c76 q_x77 c78); rw [d_kv1, di_9, d_x77] at t; exact t)⟩
        · exact hq _ _ hI g0 f0 ⟨hG, hn, (Or.inl (by rw [← d_x77]; exact (qr690 h1 bb_x4 c8 ph1_S49 ph3_S49 r_kv60 fn_x56 c61 c76 q_x77 c78))), (by have t : x77 = 5 → 0 < kv53 := (qr691 h1 hO bb_x4 c8 ph0_S49 ph1_S49 ph3_S49 r_kv60 fn_x56 c61 c76 q_x77 c78); rw [d_x77, d_kv53] at t; exact t), (by have t : x77 = 5 ∨ ¬ kv2 = 5 := (qr692 h1 bb_x4 c8 ph1_S49 ph3_S49 r_kv60 fn_x56 c61 c76 q_x77 c78); rw [di_9, d_x77] at t; exact t), (by have t : kv1 ≤ kv1 ∧ (x77 = 4 → kv1 < kv1 ∨ kv2 = 4) := (qr693 h1 r_kv1 bb_x4 c8 ph1_S49 ph2_S49 ph3_S49 r_kv60 fn_x56 c61 c76 q_x77 c78); rw [d_kv1, di_9, d_x77] at t; exact t)⟩
      · refine u_X11_known_42 ?_
        refine ⟨o_v0, ?_⟩
        have do81_kv1 := d_kv1
        have do81_kv52 := d_kv52
        have do81_kv53 := d_kv53
        refine m_X11_flaw hI o_v0 (qr694 h1 bb_x4 c8 r_kv60 fn_x56 c61 c76) hG (by have t : kv52 = 5 → 0 < kv53 := (qr695 h1 hO bb_x4 c8 ph0_S49 ph1_S49 ph3_S49 r_kv60 fn_x56 c61 c76); rw [d_kv52, d_kv53] at t; exact t) (fun S83 hJ g84 fc85 p_S83 => ?_)
        obtain ⟨hG, pg0_S83, pg1_S83, pg2_S83, pg3_S83⟩ := p_S83
        have hn := rn_fr fc85 g84 hI o_v0 (by decide) hn
        have hI := hJ
        have l_a74 := (gr_len g84 o_a74).trans l_a74
        have d_kv1 := d_kv1.trans (fri_at fc85 (by decide) (by decide) o_v0).symm
        have d_kv60 := d_kv60.trans (fri_at fc85 (by decide) (by decide) o_a54).symm
        have ea54 := (frr_at fc85 (by decide) (by decide) o_v0).trans ea54
        have ea74 := (frr_at fc85 (by decide) (by decide) o_a54).trans ea74
        have f0 := fri_tr (S := S49) g0 f0 fc85 (by decide) (by decide)
        have o_a54 := gr_ob g84 o_a54
        have o_a74 := gr_ob g84 o_a74
        have o_v0 := gr_ob g84 o_v0
        have g0 := gr_tr (T := S49) g0 g84
        obtain ⟨kv86, d_kv86⟩ : ∃ z : Int32, z = fI S83 v0 9 := ⟨_, rfl⟩
        obtain ⟨kv87, d_kv87⟩ : ∃ z : Int32, z = fI S83 v0 13 := ⟨_, rfl⟩
        have ph0_S83 : kv86 = 5 → 0 < kv87 := by rw [d_kv86, d_kv87]; exact pg0_S83
        have ph1_S83 : kv86 = 5 ∨ ¬ kv52 = 5 := by rw [do81_kv52, d_kv86]; exact pg1_S83
        have ph2_S83 : kv1 ≤ kv1 ∧ (kv86 = 4 → kv1 < kv1 ∨ kv52 = 4) := by rw [d_kv1, do81_kv52, d_kv86]; exact pg2_S83
        have ph3_S83 : kv86 = 5 := by rw [d_kv86]; exact pg3_S83
        intro _
        refine u_X11_known_47 ?_
        refine ⟨o_v0, ?_⟩
        intro x88 ex88
        have q_x88 : x88 = kv86 := ex88.trans d_kv86.symm
        have d_x88 := ex88
        refine ⟨fun c89 => ?_, fun c89 => ?_⟩
        · refine ⟨a54, ea54, ?_⟩
          refine ⟨o_a54, ?_⟩
          obtain ⟨a91, ea91, o_a91, l_a91⟩ := shl 52 rfl hI o_a54
          refine ⟨a91, ea91, ?_⟩
          refine ⟨o_a91, ?_⟩
          refine ⟨(vin l_a91 (m := 12) (by decide) (qr696 h1 bb_x4 c8 ph1_S49 ph3_S49 r_kv60 fn_x56 c61 c76 ph1_S83 ph3_S83 q_x88 c89)), ?_⟩
          intro x92 ex92
          exact hq _ _ hI g0 f0 ⟨hG, hn, (Or.inl (by rw [← d_x88]; exact (qr697 h1 bb_x4 c8 ph1_S49 ph3_S49 r_kv60 fn_x56 c61 c76 ph1_S83 ph3_S83 q_x88 c89))), (by have t : x88 = 5 → 0 < kv87 := (qr698 h1 hO bb_x4 c8 ph0_S49 ph1_S49 ph3_S49 r_kv60 fn_x56 c61 c76 ph0_S83 ph1_S83 ph3_S83 q_x88 c89); rw [d_x88, d_kv87] at t; exact t), (by have t : x88 = 5 ∨ ¬ kv2 = 5 := (qr699 h1 bb_x4 c8 ph1_S49 ph3_S49 r_kv60 fn_x56 c61 c76 ph1_S83 ph3_S83 q_x88 c89); rw [di_9, d_x88] at t; exact t), (by have t : kv1 ≤ kv1 ∧ (x88 = 4 → kv1 < kv1 ∨ kv2 = 4) := (qr700 h1 r_kv1 bb_x4 c8 ph1_S49 ph2_S49 ph3_S49 r_kv60 fn_x56 c61 c76 ph1_S83 ph2_S83 ph3_S83 q_x88 c89); rw [d_kv1, di_9, d_x88] at t; exact t)⟩
        · exact hq _ _ hI g0 f0 ⟨hG, hn, (Or.inl (by rw [← d_x88]; exact (qr701 h1 bb_x4 c8 ph1_S49 ph3_S49 r_kv60 fn_x56 c61 c76 ph1_S83 ph3_S83 q_x88 c89))), (by have t : x88 = 5 → 0 < kv87 := (qr702 h1 hO bb_x4 c8 ph0_S49 ph1_S49 ph3_S49 r_kv60 fn_x56 c61 c76 ph0_S83 ph1_S83 ph3_S83 q_x88 c89); rw [d_x88, d_kv87] at t; exact t), (by have t : x88 = 5 ∨ ¬ kv2 = 5 := (qr703 h1 bb_x4 c8 ph1_S49 ph3_S49 r_kv60 fn_x56 c61 c76 ph1_S83 ph3_S83 q_x88 c89); rw [di_9, d_x88] at t; exact t), (by have t : kv1 ≤ kv1 ∧ (x88 = 4 → kv1 < kv1 ∨ kv2 = 4) := (qr704 h1 r_kv1 bb_x4 c8 ph1_S49 ph2_S49 ph3_S49 r_kv60 fn_x56 c61 c76 ph1_S83 ph2_S83 ph3_S83 q_x88 c89); rw [d_kv1, di_9, d_x88] at t; exact t)⟩
