set_option maxHeartbeats 4000000 in
set_option maxRecDepth 20000 in
theorem m_X11_begins {v0 : Nat} {v1 : Int32} {v2 : Int32} {Q : HS → Prop} {S : HS} (hI : IV S) (o_v0 : ob S v0 11)    (hG : RG S v0) (hO : fI S v0 9 = 5 → 0 < fI S v0 13) (hq : ∀ (T : HS), IV T → Gr S T → FRI [(11, 8), (11, 9), (11, 10), (11, 11), (11, 12), (11, 13), (11, 14)] [] S T → (RG T v0) ∧ (fI T v0 9 = 5 → 0 < fI T v0 13) ∧ (fI T v0 9 = 5 ∨ ¬ fI S v0 9 = 5) ∧ (fI S v0 8 ≤ fI T v0 8 ∧ (fI T v0 9 = 4 → fI S v0 8 < fI T v0 8 ∨ fI S v0 9 = 4)) ∧ (fI T v0 9 = 5 ∨ ¬ v1 = v2) → Q T) : P_X11_begins v0 v1 v2 Q S := by
  have g0 := gr_rf S
  have f0 := fri_rf [(11, 8), (11, 9), (11, 10), (11, 11), (11, 12), (11, 13), (11, 14)] [] S
  obtain ⟨kv1, d_kv1⟩ : ∃ z : Int32, z = fI S v0 8 := ⟨_, rfl⟩
  have r_kv1 : (0 : Int32) ≤ kv1 ∧ kv1 ≤ (900 : Int32) := by rw [d_kv1]; exact nu 25 rfl hI o_v0
  obtain ⟨iv2, hiv2⟩ : ∃ z : Int32, z = kv1 := ⟨_, rfl⟩
  have di_8 := hiv2.trans d_kv1
  obtain ⟨kv3, d_kv3⟩ : ∃ z : Int32, z = fI S v0 9 := ⟨_, rfl⟩
  obtain ⟨iv4, hiv4⟩ : ∃ z : Int32, z = kv3 := ⟨_, rfl⟩
  have di_9 := hiv4.trans d_kv3
  obtain ⟨kv5, d_kv5⟩ : ∃ z : Int32, z = fI S v0 13 := ⟨_, rfl⟩
  obtain ⟨iv6, hiv6⟩ : ∃ z : Int32, z = kv5 := ⟨_, rfl⟩
  have di_13 := hiv6.trans d_kv5
  have hO : iv4 = 5 → 0 < iv6 := by rw [di_9, di_13]; exact hO
  refine u_X11_begins ?_
  refine u_X11_begins_0 ?_
  refine ⟨fun c7 => ?_, fun c7 => ?_⟩
  · refine u_X11_begins_10 ?_
    refine ⟨o_v0, ?_⟩
    obtain ⟨a8, ea8, o_a8, -⟩ := id hG
    refine ⟨a8, ea8, ?_⟩
    refine ⟨o_a8, ?_⟩
    intro x9 ex9
    have r_x9 : (0 : Int32) ≤ x9 ∧ x9 ≤ (60 : Int32) := by rw [ex9]; exact nu 16 rfl hI o_a8
    have d_x9 := ex9
    refine ⟨fun c10 => ?_, fun c10 => ?_⟩
    · refine u_X11_begins_26 ?_
      refine ⟨o_v0, ?_⟩
      obtain ⟨iv11, hiv11⟩ : ∃ z : Int32, z = kv5 := ⟨_, rfl⟩
      have d_iv11 := hiv11.trans d_kv5
      have do11_kv1 := d_kv1
      have do11_kv3 := d_kv3
      have do11_iv11 := d_iv11
      refine m_X11_goesOn hI o_v0 hG (by have t : kv3 = 5 → 0 < kv5 := (qr783 hiv4 hiv6 hO c7 r_x9 c10); rw [d_kv3, d_kv5] at t; exact t) (fun S13 hJ g14 fc15 p_S13 => ?_)
      obtain ⟨hG, pg0_S13, pg1_S13, pg2_S13⟩ := p_S13
      have hI := hJ
      have d_kv5 := d_kv5.trans (fri_at fc15 (by decide) (by decide) o_v0).symm
      have d_x9 := d_x9.trans (fri_at fc15 (by decide) (by decide) o_a8).symm
      have ea8 := (frr_at fc15 (by decide) (by decide) o_v0).trans ea8
      have f0 := fri_tr (S := S) g0 f0 fc15 (by decide) (by decide)
      have o_a8 := gr_ob g14 o_a8
      have o_v0 := gr_ob g14 o_v0
      have g0 := gr_tr (T := S) g0 g14
      obtain ⟨kv16, d_kv16⟩ : ∃ z : Int32, z = fI S13 v0 9 := ⟨_, rfl⟩
      have ph0_S13 : kv16 = 5 → 0 < kv5 := by rw [d_kv16, d_kv5]; exact pg0_S13
      have ph1_S13 : kv16 = 5 ∨ ¬ kv3 = 5 := by rw [do11_kv3, d_kv16]; exact pg1_S13
      obtain ⟨kv17, d_kv17⟩ : ∃ z : Int32, z = fI S13 v0 8 := ⟨_, rfl⟩
      have r_kv17 : (0 : Int32) ≤ kv17 ∧ kv17 ≤ (900 : Int32) := by rw [d_kv17]; exact nu 25 rfl hI o_v0
      have ph2_S13 : kv1 ≤ kv17 ∧ (kv16 = 4 → kv1 < kv17 ∨ kv3 = 4) := by rw [do11_kv1, do11_kv3, d_kv17, d_kv16]; exact pg2_S13
      intro _
      exact hq _ hI g0 f0 ⟨hG, (by have t : kv16 = 5 → 0 < kv5 := (qr784 hiv4 hiv6 hO c7 r_x9 c10 hiv11 ph0_S13 ph1_S13); rw [d_kv16, d_kv5] at t; exact t), (by have t : kv16 = 5 ∨ ¬ iv4 = 5 := (qr785 hiv4 c7 r_x9 c10 ph1_S13); rw [di_9, d_kv16] at t; exact t), (by have t : iv2 ≤ kv17 ∧ (kv16 = 4 → iv2 < kv17 ∨ iv4 = 4) := (qr786 r_kv1 hiv2 hiv4 c7 r_x9 c10 ph1_S13 r_kv17 ph2_S13); rw [di_8, di_9, d_kv17, d_kv16] at t; exact t), (by have t : kv16 = 5 ∨ ¬ v1 = v2 := (qr787 hiv4 c7 r_x9 c10 ph1_S13); rw [d_kv16] at t; exact t)⟩
    · obtain ⟨iv18, hiv18⟩ : ∃ z : Int32, z = kv1 := ⟨_, rfl⟩
      have d_iv18 := hiv18.trans d_kv1
      have do18_iv18 := d_iv18
      have do18_kv3 := d_kv3
      have do18_kv5 := d_kv5
      refine m_X11_flaw hI o_v0 (qr788 c7 r_x9 c10) hG (by have t : kv3 = 5 → 0 < kv5 := (qr789 hiv4 hiv6 hO c7 r_x9 c10); rw [d_kv3, d_kv5] at t; exact t) (fun S20 hJ g21 fc22 p_S20 => ?_)
      obtain ⟨hG, pg0_S20, pg1_S20, pg2_S20, pg3_S20⟩ := p_S20
      have hI := hJ
      have d_kv1 := d_kv1.trans (fri_at fc22 (by decide) (by decide) o_v0).symm
      have d_x9 := d_x9.trans (fri_at fc22 (by decide) (by decide) o_a8).symm
      have ea8 := (frr_at fc22 (by decide) (by decide) o_v0).trans ea8
      have f0 := fri_tr (S := S) g0 f0 fc22 (by decide) (by decide)
      have o_a8 := gr_ob g21 o_a8
      have o_v0 := gr_ob g21 o_v0
      have g0 := gr_tr (T := S) g0 g21
      obtain ⟨kv23, d_kv23⟩ : ∃ z : Int32, z = fI S20 v0 9 := ⟨_, rfl⟩
      obtain ⟨kv24, d_kv24⟩ : ∃ z : Int32, z = fI S20 v0 13 := ⟨_, rfl⟩
      have ph0_S20 : kv23 = 5 → 0 < kv24 := by rw [d_kv23, d_kv24]; exact pg0_S20
      have ph1_S20 : kv23 = 5 ∨ ¬ kv3 = 5 := by rw [do18_kv3, d_kv23]; exact pg1_S20
      have ph2_S20 : iv18 ≤ kv1 ∧ (kv23 = 4 → iv18 < kv1 ∨ kv3 = 4) := by rw [do18_iv18, do18_kv3, d_kv1, d_kv23]; exact pg2_S20
      have ph3_S20 : kv23 = 5 := by rw [d_kv23]; exact pg3_S20
      intro _
      refine u_X11_begins_26 ?_
      refine ⟨o_v0, ?_⟩
      obtain ⟨iv25, hiv25⟩ : ∃ z : Int32, z = kv24 := ⟨_, rfl⟩
      have d_iv25 := hiv25.trans d_kv24
      have do25_kv1 := d_kv1
      have do25_kv23 := d_kv23
      have do25_iv25 := d_iv25
      refine m_X11_goesOn hI o_v0 hG (by have t : kv23 = 5 → 0 < kv24 := (qr790 hiv4 hiv6 hO c7 r_x9 c10 ph0_S20 ph1_S20 ph3_S20); rw [d_kv23, d_kv24] at t; exact t) (fun S27 hJ g28 fc29 p_S27 => ?_)
      obtain ⟨hG, pg0_S27, pg1_S27, pg2_S27⟩ := p_S27
      have hI := hJ
      have d_x9 := d_x9.trans (fri_at fc29 (by decide) (by decide) o_a8).symm
      have d_kv24 := d_kv24.trans (fri_at fc29 (by decide) (by decide) o_v0).symm
      have ea8 := (frr_at fc29 (by decide) (by decide) o_v0).trans ea8
      have f0 := fri_tr (S := S20) g0 f0 fc29 (by decide) (by decide)
      have o_a8 := gr_ob g28 o_a8
      have o_v0 := gr_ob g28 o_v0
      have g0 := gr_tr (T := S20) g0 g28
      obtain ⟨kv30, d_kv30⟩ : ∃ z : Int32, z = fI S27 v0 9 := ⟨_, rfl⟩
      have ph0_S27 : kv30 = 5 → 0 < kv24 := by rw [d_kv30, d_kv24]; exact pg0_S27
      have ph1_S27 : kv30 = 5 ∨ ¬ kv23 = 5 := by rw [do25_kv23, d_kv30]; exact pg1_S27
      have mo31 : kv30 = 5 ∨ ¬ kv3 = 5 := ph1_S27.elim Or.inl (fun h => Or.inr (ph1_S20.resolve_left h))
      obtain ⟨kv32, d_kv32⟩ : ∃ z : Int32, z = fI S27 v0 8 := ⟨_, rfl⟩
      have r_kv32 : (0 : Int32) ≤ kv32 ∧ kv32 ≤ (900 : Int32) := by rw [d_kv32]; exact nu 25 rfl hI o_v0
      have ph2_S27 : kv1 ≤ kv32 ∧ (kv30 = 4 → kv1 < kv32 ∨ kv23 = 4) := by rw [do25_kv1, do25_kv23, d_kv32, d_kv30]; exact pg2_S27
      intro _
      exact hq _ hI g0 f0 ⟨hG, (by have t : kv30 = 5 → 0 < kv24 := (qr791 hiv4 hiv6 hO c7 r_x9 c10 ph0_S20 mo31 ph3_S20 hiv25 ph0_S27 ph1_S27); rw [d_kv30, d_kv24] at t; exact t), (by have t : kv30 = 5 ∨ ¬ iv4 = 5 := (qr792 hiv4 c7 r_x9 c10 mo31 ph3_S20 ph1_S27); rw [di_9, d_kv30] at t; exact t), (by have t : iv2 ≤ kv32 ∧ (kv30 = 4 → iv2 < kv32 ∨ iv4 = 4) := (qr793 r_kv1 hiv2 hiv4 c7 r_x9 c10 hiv18 mo31 ph2_S20 ph3_S20 ph1_S27 r_kv32 ph2_S27); rw [di_8, di_9, d_kv32, d_kv30] at t; exact t), (by have t : kv30 = 5 ∨ ¬ v1 = v2 := (qr794 hiv4 c7 r_x9 c10 mo31 ph3_S20 ph1_S27); rw [d_kv30] at t; exact t)⟩
  · refine ⟨o_v0, ?_⟩
    obtain ⟨iv33, hiv33⟩ : ∃ z : Int32, z = kv1 := ⟨_, rfl⟩
    have d_iv33 := hiv33.trans d_kv1
    have do33_iv33 := d_iv33
    have do33_kv3 := d_kv3
    have do33_kv5 := d_kv5
    refine m_X11_flaw hI o_v0 (qr795 c7) hG (by have t : kv3 = 5 → 0 < kv5 := (qr796 hiv4 hiv6 hO c7); rw [d_kv3, d_kv5] at t; exact t) (fun S35 hJ g36 fc37 p_S35 => ?_)
    obtain ⟨hG, pg0_S35, pg1_S35, pg2_S35, pg3_S35⟩ := p_S35
    have hI := hJ
    have d_kv1 := d_kv1.trans (fri_at fc37 (by decide) (by decide) o_v0).symm
    have f0 := fri_tr (S := S) g0 f0 fc37 (by decide) (by decide)
    have o_v0 := gr_ob g36 o_v0
    have g0 := gr_tr (T := S) g0 g36
    obtain ⟨kv38, d_kv38⟩ : ∃ z : Int32, z = fI S35 v0 9 := ⟨_, rfl⟩
    obtain ⟨kv39, d_kv39⟩ : ∃ z : Int32, z = fI S35 v0 13 := ⟨_, rfl⟩
    have ph0_S35 : kv38 = 5 → 0 < kv39 := by rw [d_kv38, d_kv39]; exact pg0_S35
    have ph1_S35 : kv38 = 5 ∨ ¬ kv3 = 5 := by rw [do33_kv3, d_kv38]; exact pg1_S35
    have ph2_S35 : iv33 ≤ kv1 ∧ (kv38 = 4 → iv33 < kv1 ∨ kv3 = 4) := by rw [do33_iv33, do33_kv3, d_kv1, d_kv38]; exact pg2_S35
    have ph3_S35 : kv38 = 5 := by rw [d_kv38]; exact pg3_S35
    intro _
    refine u_X11_begins_10 ?_
    refine ⟨o_v0, ?_⟩
    obtain ⟨a40, ea40, o_a40, -⟩ := id hG
    refine ⟨a40, ea40, ?_⟩
    refine ⟨o_a40, ?_⟩
    intro x41 ex41
    have r_x41 : (0 : Int32) ≤ x41 ∧ x41 ≤ (60 : Int32) := by rw [ex41]; exact nu 16 rfl hI o_a40
    have d_x41 := ex41
    refine ⟨fun c42 => ?_, fun c42 => ?_⟩
    · refine u_X11_begins_26 ?_
      refine ⟨o_v0, ?_⟩
      obtain ⟨iv43, hiv43⟩ : ∃ z : Int32, z = kv39 := ⟨_, rfl⟩
      have d_iv43 := hiv43.trans d_kv39
      have do43_kv1 := d_kv1
      have do43_kv38 := d_kv38
      have do43_iv43 := d_iv43
      refine m_X11_goesOn hI o_v0 hG (by have t : kv38 = 5 → 0 < kv39 := (qr797 hiv4 hiv6 hO c7 ph0_S35 ph1_S35 ph3_S35 r_x41 c42); rw [d_kv38, d_kv39] at t; exact t) (fun S45 hJ g46 fc47 p_S45 => ?_)
      obtain ⟨hG, pg0_S45, pg1_S45, pg2_S45⟩ := p_S45
      have hI := hJ
      have d_kv39 := d_kv39.trans (fri_at fc47 (by decide) (by decide) o_v0).symm
      have d_x41 := d_x41.trans (fri_at fc47 (by decide) (by decide) o_a40).symm
      have ea40 := (frr_at fc47 (by decide) (by decide) o_v0).trans ea40
      have f0 := fri_tr (S := S35) g0 f0 fc47 (by decide) (by decide)
      have o_a40 := gr_ob g46 o_a40
      have o_v0 := gr_ob g46 o_v0
      have g0 := gr_tr (T := S35) g0 g46
      obtain ⟨kv48, d_kv48⟩ : ∃ z : Int32, z = fI S45 v0 9 := ⟨_, rfl⟩
      have ph0_S45 : kv48 = 5 → 0 < kv39 := by rw [d_kv48, d_kv39]; exact pg0_S45
      have ph1_S45 : kv48 = 5 ∨ ¬ kv38 = 5 := by rw [do43_kv38, d_kv48]; exact pg1_S45
      have mo49 : kv48 = 5 ∨ ¬ kv3 = 5 := ph1_S45.elim Or.inl (fun h => Or.inr (ph1_S35.resolve_left h))
      obtain ⟨kv50, d_kv50⟩ : ∃ z : Int32, z = fI S45 v0 8 := ⟨_, rfl⟩
      have r_kv50 : (0 : Int32) ≤ kv50 ∧ kv50 ≤ (900 : Int32) := by rw [d_kv50]; exact nu 25 rfl hI o_v0
      have ph2_S45 : kv1 ≤ kv50 ∧ (kv48 = 4 → kv1 < kv50 ∨ kv38 = 4) := by rw [do43_kv1, do43_kv38, d_kv50, d_kv48]; exact pg2_S45
      intro _
      exact hq _ hI g0 f0 ⟨hG, (by have t : kv48 = 5 → 0 < kv39 := (qr798 hiv4 hiv6 hO c7 ph0_S35 mo49 ph3_S35 r_x41 c42 hiv43 ph0_S45 ph1_S45); rw [d_kv48, d_kv39] at t; exact t), (by have t : kv48 = 5 ∨ ¬ iv4 = 5 := (qr799 hiv4 c7 mo49 ph3_S35 r_x41 c42 ph1_S45); rw [di_9, d_kv48] at t; exact t), (by have t : iv2 ≤ kv50 ∧ (kv48 = 4 → iv2 < kv50 ∨ iv4 = 4) := (qr800 r_kv1 hiv2 hiv4 c7 hiv33 mo49 ph2_S35 ph3_S35 r_x41 c42 ph1_S45 r_kv50 ph2_S45); rw [di_8, di_9, d_kv50, d_kv48] at t; exact t), (by have t : kv48 = 5 ∨ ¬ v1 = v2 := (qr801 hiv4 c7 mo49 ph3_S35 r_x41 c42 ph1_S45); rw [d_kv48] at t; exact t)⟩
    · obtain ⟨iv51, hiv51⟩ : ∃ z : Int32, z = kv1 := ⟨_, rfl⟩
      have d_iv51 := hiv51.trans d_kv1
      have do51_iv51 := d_iv51
      have do51_kv38 := d_kv38
      have do51_kv39 := d_kv39
      refine m_X11_flaw hI o_v0 (qr802 c7 r_x41 c42) hG (by have t : kv38 = 5 → 0 < kv39 := (qr803 hiv4 hiv6 hO c7 ph0_S35 ph1_S35 ph3_S35 r_x41 c42); rw [d_kv38, d_kv39] at t; exact t) (fun S53 hJ g54 fc55 p_S53 => ?_)
      obtain ⟨hG, pg0_S53, pg1_S53, pg2_S53, pg3_S53⟩ := p_S53
      have hI := hJ
      have d_kv1 := d_kv1.trans (fri_at fc55 (by decide) (by decide) o_v0).symm
      have d_x41 := d_x41.trans (fri_at fc55 (by decide) (by decide) o_a40).symm
      have ea40 := (frr_at fc55 (by decide) (by decide) o_v0).trans ea40
      have f0 := fri_tr (S := S35) g0 f0 fc55 (by decide) (by decide)
      have o_a40 := gr_ob g54 o_a40
      have o_v0 := gr_ob g54 o_v0
      have g0 := gr_tr (T := S35) g0 g54
      obtain ⟨kv56, d_kv56⟩ : ∃ z : Int32, z = fI S53 v0 9 := ⟨_, rfl⟩
      obtain ⟨kv57, d_kv57⟩ : ∃ z : Int32, z = fI S53 v0 13 := ⟨_, rfl⟩
      have ph0_S53 : kv56 = 5 → 0 < kv57 := by rw [d_kv56, d_kv57]; exact pg0_S53
      have ph1_S53 : kv56 = 5 ∨ ¬ kv38 = 5 := by rw [do51_kv38, d_kv56]; exact pg1_S53
      have mo58 : kv56 = 5 ∨ ¬ kv3 = 5 := ph1_S53.elim Or.inl (fun h => Or.inr (ph1_S35.resolve_left h))
      have ph2_S53 : iv51 ≤ kv1 ∧ (kv56 = 4 → iv51 < kv1 ∨ kv38 = 4) := by rw [do51_iv51, do51_kv38, d_kv1, d_kv56]; exact pg2_S53
      have ph3_S53 : kv56 = 5 := by rw [d_kv56]; exact pg3_S53
      intro _
      refine u_X11_begins_26 ?_
      refine ⟨o_v0, ?_⟩
      obtain ⟨iv59, hiv59⟩ : ∃ z : Int32, z = kv57 := ⟨_, rfl⟩
      have d_iv59 := hiv59.trans d_kv57
      have do59_kv1 := d_kv1
      have do59_kv56 := d_kv56
      have do59_iv59 := d_iv59
      refine m_X11_goesOn hI o_v0 hG (by have t : kv56 = 5 → 0 < kv57 := (qr804 hiv4 hiv6 hO c7 ph0_S35 mo58 ph3_S35 r_x41 c42 ph0_S53 ph1_S53 ph3_S53); rw [d_kv56, d_kv57] at t; exact t) (fun S61 hJ g62 fc63 p_S61 => ?_)
      obtain ⟨hG, pg0_S61, pg1_S61, pg2_S61⟩ := p_S61
      have hI := hJ
      have d_x41 := d_x41.trans (fri_at fc63 (by decide) (by decide) o_a40).symm
      have d_kv57 := d_kv57.trans (fri_at fc63 (by decide) (by decide) o_v0).symm
      have ea40 := (frr_at fc63 (by decide) (by decide) o_v0).trans ea40
      have f0 := fri_tr (S := S53) g0 f0 fc63 (by decide) (by decide)
      have o_a40 := gr_ob g62 o_a40
      have o_v0 := gr_ob g62 o_v0
      have g0 := gr_tr (T := S53) g0 g62
      obtain ⟨kv64, d_kv64⟩ : ∃ z : Int32, z = fI S61 v0 9 := ⟨_, rfl⟩
      have ph0_S61 : kv64 = 5 → 0 < kv57 := by rw [d_kv64, d_kv57]; exact pg0_S61
      have ph1_S61 : kv64 = 5 ∨ ¬ kv56 = 5 := by rw [do59_kv56, d_kv64]; exact pg1_S61
      have mo65 : kv64 = 5 ∨ ¬ kv3 = 5 := ph1_S61.elim Or.inl (fun h => Or.inr (mo58.resolve_left h))
      have mo66 : kv64 = 5 ∨ ¬ kv38 = 5 := ph1_S61.elim Or.inl (fun h => Or.inr (ph1_S53.resolve_left h))
      obtain ⟨kv67, d_kv67⟩ : ∃ z : Int32, z = fI S61 v0 8 := ⟨_, rfl⟩
      have r_kv67 : (0 : Int32) ≤ kv67 ∧ kv67 ≤ (900 : Int32) := by rw [d_kv67]; exact nu 25 rfl hI o_v0
      have ph2_S61 : kv1 ≤ kv67 ∧ (kv64 = 4 → kv1 < kv67 ∨ kv56 = 4) := by rw [do59_kv1, do59_kv56, d_kv67, d_kv64]; exact pg2_S61
      intro _
      exact hq _ hI g0 f0 ⟨hG, (by have t : kv64 = 5 → 0 < kv57 := (qr805 hiv4 hiv6 hO c7 ph0_S35 mo65 ph3_S35 r_x41 c42 ph0_S53 mo66 ph3_S53 hiv59 ph0_S61 ph1_S61); rw [d_kv64, d_kv57] at t; exact t), (by have t : kv64 = 5 ∨ ¬ iv4 = 5 := (qr806 hiv4 c7 mo65 ph3_S35 r_x41 c42 mo66 ph3_S53 ph1_S61); rw [di_9, d_kv64] at t; exact t), (by have t : iv2 ≤ kv67 ∧ (kv64 = 4 → iv2 < kv67 ∨ iv4 = 4) := (qr807 r_kv1 hiv2 hiv4 c7 hiv33 mo65 ph2_S35 ph3_S35 r_x41 c42 hiv51 mo66 ph2_S53 ph3_S53 ph1_S61 r_kv67 ph2_S61); rw [di_8, di_9, d_kv67, d_kv64] at t; exact t), (by have t : kv64 = 5 ∨ ¬ v1 = v2 := (qr808 hiv4 c7 mo65 ph3_S35 r_x41 c42 mo66 ph3_S53 ph1_S61); rw [d_kv64] at t; exact t)⟩
set_option maxHeartbeats 4000000 in
set_option maxRecDepth 20000 in
theorem m_X11_eatsSign {v0 : Nat} {v1 : Int32} {Q : Int32 → HS → Prop} {S : HS} (hI : IV S) (o_v0 : ob S v0 11)    (hG : RG S v0) (hO : fI S v0 9 = 5 → 0 < fI S v0 13) (hq : ∀ (r : Int32) (T : HS), IV T → Gr S T → FRI [(11, 8), (11, 9), (11, 10), (11, 11), (11, 12)] [] S T → bl r → (RG T v0) ∧ (fI T v0 9 = 5 → 0 < fI T v0 13) ∧ (fI T v0 9 = 5 ∨ ¬ fI S v0 9 = 5) ∧ (fI S v0 8 ≤ fI T v0 8 ∧ (fI T v0 9 = 4 → fI S v0 8 < fI T v0 8 ∨ fI S v0 9 = 4)) ∧ (r = 0 ∨ fI S v0 9 = 4) → Q r T) : P_X11_eatsSign v0 v1 Q S := by
  have g0 := gr_rf S
  have f0 := fri_rf [(11, 8), (11, 9), (11, 10), (11, 11), (11, 12)] [] S
  obtain ⟨kv1, d_kv1⟩ : ∃ z : Int32, z = fI S v0 8 := ⟨_, rfl⟩
  have r_kv1 : (0 : Int32) ≤ kv1 ∧ kv1 ≤ (900 : Int32) := by rw [d_kv1]; exact nu 25 rfl hI o_v0
  obtain ⟨iv2, hiv2⟩ : ∃ z : Int32, z = kv1 := ⟨_, rfl⟩
  have di_8 := hiv2.trans d_kv1
  obtain ⟨kv3, d_kv3⟩ : ∃ z : Int32, z = fI S v0 9 := ⟨_, rfl⟩
  obtain ⟨iv4, hiv4⟩ : ∃ z : Int32, z = kv3 := ⟨_, rfl⟩
  have di_9 := hiv4.trans d_kv3
  obtain ⟨kv5, d_kv5⟩ : ∃ z : Int32, z = fI S v0 13 := ⟨_, rfl⟩
  obtain ⟨iv6, hiv6⟩ : ∃ z : Int32, z = kv5 := ⟨_, rfl⟩
  have di_13 := hiv6.trans d_kv5
  have hO : iv4 = 5 → 0 < iv6 := by rw [di_9, di_13]; exact hO
  refine u_X11_eatsSign ?_
  refine u_X11_eatsSign_0 ?_
  refine ⟨o_v0, ?_⟩
  intro x7 ex7
  have q_x7 : x7 = kv3 := ex7.trans d_kv3.symm
  have d_x7 := ex7
  refine ⟨fun c8 => ?_, fun c8 => ?_⟩
  · refine u_X11_eatsSign_20 ?_
    refine u_X11_eatsSign_21 ?_
    refine ⟨fun c9 => ?_, fun c9 => absurd (show ¬ (0 : Int32) = 0 from c9) (by decide)⟩
    refine ⟨(Or.inl rfl), ?_⟩
    exact hq _ _ hI g0 f0 (Or.inl rfl) ⟨hG, (by have t : x7 = 5 → 0 < kv5 := (qr768 hiv4 hiv6 hO q_x7 c8); rw [d_x7, d_kv5] at t; exact t), (by have t : x7 = 5 ∨ ¬ iv4 = 5 := (qr769 hiv4 q_x7 c8); rw [di_9, d_x7] at t; exact t), (by have t : iv2 ≤ kv1 ∧ (x7 = 4 → iv2 < kv1 ∨ iv4 = 4) := (qr770 r_kv1 hiv2 hiv4 q_x7 c8); rw [di_8, di_9, d_kv1, d_x7] at t; exact t), (by have t : (0 : Int32) = 0 ∨ iv4 = 4 := (qr771 hiv4 q_x7 c8); rw [di_9] at t; exact t)⟩
  · intro x10 ex10
    have d_x10 := ex10
    refine ⟨fun c11 => ?_, fun c11 => ?_⟩
    · refine u_X11_eatsSign_20 ?_
      refine u_X11_eatsSign_21 ?_
      refine ⟨fun c12 => ?_, fun c12 => absurd (show ¬ (0 : Int32) = 0 from c12) (by decide)⟩
      refine ⟨(Or.inl rfl), ?_⟩
      exact hq _ _ hI g0 f0 (Or.inl rfl) ⟨hG, (by have t : x7 = 5 → 0 < kv5 := (qr772 hiv4 hiv6 hO q_x7 c8 c11); rw [d_x7, d_kv5] at t; exact t), (by have t : x7 = 5 ∨ ¬ iv4 = 5 := (qr773 hiv4 q_x7 c8 c11); rw [di_9, d_x7] at t; exact t), (by have t : iv2 ≤ kv1 ∧ (x7 = 4 → iv2 < kv1 ∨ iv4 = 4) := (qr774 r_kv1 hiv2 hiv4 q_x7 c8 c11); rw [di_8, di_9, d_kv1, d_x7] at t; exact t), (by have t : (0 : Int32) = 0 ∨ iv4 = 4 := (qr775 hiv4 q_x7 c8 c11); rw [di_9] at t; exact t)⟩
    · refine u_X11_eatsSign_21 ?_
      refine ⟨fun c13 => absurd (show (1 : Int32) = 0 from c13) (by decide), fun c13 => ?_⟩
      refine ⟨o_v0, ?_⟩
      obtain ⟨iv14, hiv14⟩ : ∃ z : Int32, z = kv5 := ⟨_, rfl⟩
      have d_iv14 := hiv14.trans d_kv5
      have do14_kv1 := d_kv1
      have do14_x7 := d_x7
      have do14_iv14 := d_iv14
      refine m_X11_goesOn hI o_v0 hG (by have t : x7 = 5 → 0 < kv5 := (qr776 hiv4 hiv6 hO q_x7 c8 c11); rw [d_x7, d_kv5] at t; exact t) (fun S16 hJ g17 fc18 p_S16 => ?_)
      obtain ⟨hG, pg0_S16, pg1_S16, pg2_S16⟩ := p_S16
      have hI := hJ
      have d_kv5 := d_kv5.trans (fri_at fc18 (by decide) (by decide) o_v0).symm
      have f0 := fri_tr (S := S) g0 f0 fc18 (by decide) (by decide)
      have o_v0 := gr_ob g17 o_v0
      have g0 := gr_tr (T := S) g0 g17
      obtain ⟨kv19, d_kv19⟩ : ∃ z : Int32, z = fI S16 v0 9 := ⟨_, rfl⟩
      have ph0_S16 : kv19 = 5 → 0 < kv5 := by rw [d_kv19, d_kv5]; exact pg0_S16
      have ph1_S16 : kv19 = 5 ∨ ¬ x7 = 5 := by rw [do14_x7, d_kv19]; exact pg1_S16
      obtain ⟨kv20, d_kv20⟩ : ∃ z : Int32, z = fI S16 v0 8 := ⟨_, rfl⟩
      have r_kv20 : (0 : Int32) ≤ kv20 ∧ kv20 ≤ (900 : Int32) := by rw [d_kv20]; exact nu 25 rfl hI o_v0
      have ph2_S16 : kv1 ≤ kv20 ∧ (kv19 = 4 → kv1 < kv20 ∨ x7 = 4) := by rw [do14_kv1, do14_x7, d_kv20, d_kv19]; exact pg2_S16
      intro _
      refine ⟨(Or.inr rfl), ?_⟩
      exact hq _ _ hI g0 f0 (Or.inr rfl) ⟨hG, (by have t : kv19 = 5 → 0 < kv5 := (qr777 hiv4 hiv6 hO q_x7 c8 c11 hiv14 ph0_S16 ph1_S16); rw [d_kv19, d_kv5] at t; exact t), (by have t : kv19 = 5 ∨ ¬ iv4 = 5 := (qr778 hiv4 q_x7 c8 c11 ph1_S16); rw [di_9, d_kv19] at t; exact t), (by have t : iv2 ≤ kv20 ∧ (kv19 = 4 → iv2 < kv20 ∨ iv4 = 4) := (qr779 r_kv1 hiv2 hiv4 q_x7 c8 c11 ph1_S16 r_kv20 ph2_S16); rw [di_8, di_9, d_kv20, d_kv19] at t; exact t), (by have t : (1 : Int32) = 0 ∨ iv4 = 4 := (qr780 hiv4 q_x7 c8 c11 ph1_S16); rw [di_9] at t; exact t)⟩
set_option maxHeartbeats 4000000 in
set_option maxRecDepth 20000 in
theorem m_X11_wordOf {v0 : Nat} {Q : Int64 → HS → Prop} {S : HS} (hI : IV S)   (hw_v0 : v0 < 54)   (hq : ∀ (r : Int64) (T : HS), IV T → Gr S T → (S = T) → Q r T) : P_X11_wordOf v0 Q S := by
  have g0 := gr_rf S
  refine u_X11_wordOf ?_
  refine u_X11_wordOf_0 ?_
  refine i_X11_wordOf_4 (fun (y0 : Nat) (y1 : Int64) (y3 : Int32) (Z : HS) => ((2147483647 : Int32).toInt - y3.toInt).toNat) (fun (y0 : Nat) (y1 : Int64) (y3 : Int32) (Z : HS) => (S = Z) ∧ (v0 = y0) ∧ (0 ≤ y3)) ?_ _ _ _ _ ⟨rfl, rfl, (qr694)⟩
  intro w5 w7 w8 S2 X9 ⟨eS2, q6, i1u1⟩ ih10
  subst q6
  subst eS2
  refine u_X11_wordOf_4 ?_
  refine ⟨hw_v0, ?_⟩
  intro x11 ex11
  refine ⟨fun c12 => ?_, fun c12 => ?_⟩
  · exact hq _ _ hI g0 rfl
  · refine ⟨hw_v0, (vinL (sl_lt v0) (by rw [← ex11]; exact (qr695 i1u1 c12))), ?_⟩
    intro x13 ex13
    intro x14 ex14
    intro x15 ex15
    exact ih10 _ _ _ _ ⟨rfl, rfl, (qr696 i1u1 c12 ex15)⟩ (mu_up (qr697 i1u1 c12 ex15) (qr698 i1u1 c12 ex15))
set_option maxHeartbeats 4000000 in
set_option maxRecDepth 20000 in
theorem m_X11_isWord {v0 : Nat} {v1 : Nat} {Q : Int32 → HS → Prop} {S : HS} (hI : IV S) (o_v0 : ob S v0 11)  (hw_v1 : v1 < 54)   (hq : ∀ (r : Int32) (T : HS), IV T → Gr S T → bl r → (S = T) ∧ (r = 0 ∨ fI S v0 9 = 2) → Q r T) : P_X11_isWord v0 v1 Q S := by
  have g0 := gr_rf S
  refine u_X11_isWord ?_
  refine u_X11_isWord_0 ?_
  refine ⟨o_v0, ?_⟩
  intro x1 ex1
  have d_x1 := ex1
  refine ⟨fun c2 => ?_, fun c2 => ?_⟩
  · exact hq _ _ hI g0 (Or.inl rfl) ⟨rfl, (Or.inl rfl)⟩
  · intro x3 ex3
    have dj_x3 := ex3
    refine m_X11_wordOf hI hw_v1 (fun x4 S5 hI2 g6 p_x4 => ?_)
    subst p_x4
    intro _
    refine ⟨fun c8 => ?_, fun c8 => ?_⟩
    · exact hq _ _ hI g0 (Or.inl rfl) ⟨rfl, (Or.inl rfl)⟩
    · exact hq _ _ hI g0 (Or.inr rfl) ⟨rfl, (Or.inr (by rw [← d_x1]; exact (qr693 c2 c8)))⟩
set_option maxHeartbeats 4000000 in
set_option maxRecDepth 20000 in
theorem m_X11_eatsWord {v0 : Nat} {v1 : Nat} {Q : Int32 → HS → Prop} {S : HS} (hI : IV S) (o_v0 : ob S v0 11)  (hw_v1 : v1 < 54)  (hG : RG S v0) (hO : fI S v0 9 = 5 → 0 < fI S v0 13) (hq : ∀ (r : Int32) (T : HS), IV T → Gr S T → FRI [(11, 8), (11, 9), (11, 10), (11, 11), (11, 12)] [] S T → bl r → (RG T v0) ∧ (fI T v0 9 = 5 → 0 < fI T v0 13) ∧ (fI T v0 9 = 5 ∨ ¬ fI S v0 9 = 5) ∧ (fI S v0 8 ≤ fI T v0 8 ∧ (fI T v0 9 = 4 → fI S v0 8 < fI T v0 8 ∨ fI S v0 9 = 4)) → Q r T) : P_X11_eatsWord v0 v1 Q S := by
  have g0 := gr_rf S
  have f0 := fri_rf [(11, 8), (11, 9), (11, 10), (11, 11), (11, 12)] [] S
  obtain ⟨kv1, d_kv1⟩ : ∃ z : Int32, z = fI S v0 8 := ⟨_, rfl⟩
  have r_kv1 : (0 : Int32) ≤ kv1 ∧ kv1 ≤ (900 : Int32) := by rw [d_kv1]; exact nu 25 rfl hI o_v0
  obtain ⟨iv2, hiv2⟩ : ∃ z : Int32, z = kv1 := ⟨_, rfl⟩
  have di_8 := hiv2.trans d_kv1
  obtain ⟨kv3, d_kv3⟩ : ∃ z : Int32, z = fI S v0 9 := ⟨_, rfl⟩
  obtain ⟨iv4, hiv4⟩ : ∃ z : Int32, z = kv3 := ⟨_, rfl⟩
  have di_9 := hiv4.trans d_kv3
  obtain ⟨kv5, d_kv5⟩ : ∃ z : Int32, z = fI S v0 13 := ⟨_, rfl⟩
  obtain ⟨iv6, hiv6⟩ : ∃ z : Int32, z = kv5 := ⟨_, rfl⟩
  have di_13 := hiv6.trans d_kv5
  have hO : iv4 = 5 → 0 < iv6 := by rw [di_9, di_13]; exact hO
  refine u_X11_eatsWord ?_
  refine u_X11_eatsWord_0 ?_
  refine ⟨o_v0, ?_⟩
  refine m_X11_isWord hI o_v0 hw_v1 (fun x7 S8 hI2 g9 b_x7 p_x7 => ?_)
  obtain ⟨z_S8, p_x7⟩ := p_x7
  subst z_S8
  intro _ _
  have bb_x7 : x7 = 0 ∨ x7 = 1 := b_x7
  have iw_x7 : x7 = 0 ∨ kv3 = 2 := by rw [d_kv3]; exact p_x7
  refine ⟨fun c11 => ?_, fun c11 => ?_⟩
  · refine ⟨b_x7, ?_⟩
    exact hq _ _ hI g0 f0 b_x7 ⟨hG, (by have t : kv3 = 5 → 0 < kv5 := (qr624 hiv4 hiv6 hO bb_x7 iw_x7 c11); rw [d_kv3, d_kv5] at t; exact t), (by have t : kv3 = 5 ∨ ¬ iv4 = 5 := (qr766 hiv4 bb_x7 iw_x7 c11); rw [di_9, d_kv3] at t; exact t), (by have t : iv2 ≤ kv1 ∧ (kv3 = 4 → iv2 < kv1 ∨ iv4 = 4) := (qr767 r_kv1 hiv2 hiv4 bb_x7 iw_x7 c11); rw [di_8, di_9, d_kv1, d_kv3] at t; exact t)⟩
  · obtain ⟨iv12, hiv12⟩ : ∃ z : Int32, z = kv5 := ⟨_, rfl⟩
    have d_iv12 := hiv12.trans d_kv5
    have do12_kv1 := d_kv1
    have do12_kv3 := d_kv3
    have do12_iv12 := d_iv12
    refine m_X11_goesOn hI o_v0 hG (by have t : kv3 = 5 → 0 < kv5 := (qr59 hiv4 hiv6 hO bb_x7 iw_x7 c11); rw [d_kv3, d_kv5] at t; exact t) (fun S14 hJ g15 fc16 p_S14 => ?_)
    obtain ⟨hG, pg0_S14, pg1_S14, pg2_S14⟩ := p_S14
    have hI := hJ
    have d_kv5 := d_kv5.trans (fri_at fc16 (by decide) (by decide) o_v0).symm
    have f0 := fri_tr (S := S) g0 f0 fc16 (by decide) (by decide)
    have o_v0 := gr_ob g15 o_v0
    have g0 := gr_tr (T := S) g0 g15
    obtain ⟨kv17, d_kv17⟩ : ∃ z : Int32, z = fI S14 v0 9 := ⟨_, rfl⟩
    have ph0_S14 : kv17 = 5 → 0 < kv5 := by rw [d_kv17, d_kv5]; exact pg0_S14
    have ph1_S14 : kv17 = 5 ∨ ¬ kv3 = 5 := by rw [do12_kv3, d_kv17]; exact pg1_S14
    obtain ⟨kv18, d_kv18⟩ : ∃ z : Int32, z = fI S14 v0 8 := ⟨_, rfl⟩
    have r_kv18 : (0 : Int32) ≤ kv18 ∧ kv18 ≤ (900 : Int32) := by rw [d_kv18]; exact nu 25 rfl hI o_v0
    have ph2_S14 : kv1 ≤ kv18 ∧ (kv17 = 4 → kv1 < kv18 ∨ kv3 = 4) := by rw [do12_kv1, do12_kv3, d_kv18, d_kv17]; exact pg2_S14
    intro _
    refine ⟨b_x7, ?_⟩
    exact hq _ _ hI g0 f0 b_x7 ⟨hG, (by have t : kv17 = 5 → 0 < kv5 := (qr505 hiv4 hiv6 hO bb_x7 iw_x7 c11 hiv12 ph0_S14 ph1_S14); rw [d_kv17, d_kv5] at t; exact t), (by have t : kv17 = 5 ∨ ¬ iv4 = 5 := (qr506 hiv4 bb_x7 iw_x7 c11 ph1_S14); rw [di_9, d_kv17] at t; exact t), (by have t : iv2 ≤ kv18 ∧ (kv17 = 4 → iv2 < kv18 ∨ iv4 = 4) := (qr507 r_kv1 hiv2 hiv4 bb_x7 iw_x7 c11 ph1_S14 r_kv18 ph2_S14); rw [di_8, di_9, d_kv18, d_kv17] at t; exact t)⟩
set_option maxHeartbeats 4000000 in
set_option maxRecDepth 20000 in
theorem m_X11_isName {v0 : Nat} {Q : Int32 → HS → Prop} {S : HS} (hI : IV S) (o_v0 : ob S v0 11)     (hq : ∀ (r : Int32) (T : HS), IV T → Gr S T → bl r → (S = T) → Q r T) : P_X11_isName v0 Q S := by
  have g0 := gr_rf S
  refine u_X11_isName ?_
  refine u_X11_isName_0 ?_
  refine ⟨o_v0, ?_⟩
  intro x1 ex1
  have d_x1 := ex1
  refine ⟨fun c2 => ?_, fun c2 => ?_⟩
  · exact hq _ _ hI g0 (Or.inl rfl) rfl
  · refine m_X11_isWord hI o_v0 (by decide) (fun x3 S4 hI2 g5 b_x3 p_x3 => ?_)
    obtain ⟨z_S4, p_x3⟩ := p_x3
    subst z_S4
    intro _ _
    have bb_x3 : x3 = 0 ∨ x3 = 1 := b_x3
    have iw_x3 : x3 = 0 ∨ x1 = 2 := by rw [d_x1]; exact p_x3
    refine ⟨fun c7 => ?_, fun c7 => ?_⟩
    · exact hq _ _ hI g0 (Or.inl rfl) rfl
    · refine m_X11_isWord hI o_v0 (by decide) (fun x8 S9 hI2 g10 b_x8 p_x8 => ?_)
      obtain ⟨z_S9, p_x8⟩ := p_x8
      subst z_S9
      intro _ _
      have bb_x8 : x8 = 0 ∨ x8 = 1 := b_x8
      have iw_x8 : x8 = 0 ∨ x1 = 2 := by rw [d_x1]; exact p_x8
      refine ⟨fun c12 => ?_, fun c12 => ?_⟩
      · exact hq _ _ hI g0 (Or.inl rfl) rfl
      · refine m_X11_isWord hI o_v0 (by decide) (fun x13 S14 hI2 g15 b_x13 p_x13 => ?_)
        obtain ⟨z_S14, p_x13⟩ := p_x13
        subst z_S14
        intro _ _
        have bb_x13 : x13 = 0 ∨ x13 = 1 := b_x13
        have iw_x13 : x13 = 0 ∨ x1 = 2 := by rw [d_x1]; exact p_x13
        refine ⟨fun c17 => ?_, fun c17 => ?_⟩
        · exact hq _ _ hI g0 (Or.inl rfl) rfl
        · refine m_X11_isWord hI o_v0 (by decide) (fun x18 S19 hI2 g20 b_x18 p_x18 => ?_)
          obtain ⟨z_S19, p_x18⟩ := p_x18
          subst z_S19
          intro _ _
          have bb_x18 : x18 = 0 ∨ x18 = 1 := b_x18
          have iw_x18 : x18 = 0 ∨ x1 = 2 := by rw [d_x1]; exact p_x18
          refine ⟨fun c22 => ?_, fun c22 => ?_⟩
          · refine m_X11_isWord hI o_v0 (by decide) (fun x23 S24 hI2 g25 b_x23 p_x23 => ?_)
            obtain ⟨z_S24, p_x23⟩ := p_x23
            subst z_S24
            intro _ _
            have bb_x23 : x23 = 0 ∨ x23 = 1 := b_x23
            have iw_x23 : x23 = 0 ∨ x1 = 2 := by rw [d_x1]; exact p_x23
            refine ⟨fun c27 => ?_, fun c27 => ?_⟩
            · exact hq _ _ hI g0 (Or.inl rfl) rfl
            · refine m_X11_isWord hI o_v0 (by decide) (fun x28 S29 hI2 g30 b_x28 p_x28 => ?_)
              obtain ⟨z_S29, p_x28⟩ := p_x28
              subst z_S29
              intro _ _
              have bb_x28 : x28 = 0 ∨ x28 = 1 := b_x28
              have iw_x28 : x28 = 0 ∨ x1 = 2 := by rw [d_x1]; exact p_x28
              refine ⟨fun c32 => ?_, fun c32 => ?_⟩
              · exact hq _ _ hI g0 (Or.inl rfl) rfl
              · refine m_X11_isWord hI o_v0 (by decide) (fun x33 S34 hI2 g35 b_x33 p_x33 => ?_)
                obtain ⟨z_S34, p_x33⟩ := p_x33
                subst z_S34
                intro _ _
                have bb_x33 : x33 = 0 ∨ x33 = 1 := b_x33
                have iw_x33 : x33 = 0 ∨ x1 = 2 := by rw [d_x1]; exact p_x33
                refine ⟨fun c37 => ?_, fun c37 => ?_⟩
                · exact hq _ _ hI g0 (Or.inl rfl) rfl
                · refine m_X11_isWord hI o_v0 (by decide) (fun x38 S39 hI2 g40 b_x38 p_x38 => ?_)
                  obtain ⟨z_S39, p_x38⟩ := p_x38
                  subst z_S39
                  intro _ _
                  have bb_x38 : x38 = 0 ∨ x38 = 1 := b_x38
                  have iw_x38 : x38 = 0 ∨ x1 = 2 := by rw [d_x1]; exact p_x38
                  refine ⟨fun c42 => ?_, fun c42 => ?_⟩
                  · exact hq _ _ hI g0 (Or.inl rfl) rfl
                  · refine m_X11_isWord hI o_v0 (by decide) (fun x43 S44 hI2 g45 b_x43 p_x43 => ?_)
                    obtain ⟨z_S44, p_x43⟩ := p_x43
                    subst z_S44
                    intro _ _
                    have bb_x43 : x43 = 0 ∨ x43 = 1 := b_x43
                    have iw_x43 : x43 = 0 ∨ x1 = 2 := by rw [d_x1]; exact p_x43
                    refine ⟨fun c47 => ?_, fun c47 => ?_⟩
                    · exact hq _ _ hI g0 (Or.inl rfl) rfl
                    · exact hq _ _ hI g0 (Or.inr rfl) rfl
          · exact hq _ _ hI g0 (Or.inl rfl) rfl
set_option maxHeartbeats 4000000 in
set_option maxRecDepth 20000 in
theorem m_X11_known {v0 : Nat} {v1 : Int32} {Q : Int32 → HS → Prop} {S : HS} (hI : IV S) (o_v0 : ob S v0 11)   (h1 : v1 = 0 ∨ v1 = 1) (hG : RG S v0) (hn : RN S v0) (hO : fI S v0 9 = 5 → 0 < fI S v0 13) (hq : ∀ (r : Int32) (T : HS), IV T → Gr S T → FRI [(11, 9), (11, 13), (11, 14)] [] S T → (RG T v0) ∧ (RN T v0) ∧ (KR T v0 v1 r) ∧ (fI T v0 9 = 5 → 0 < fI T v0 13) ∧ (fI T v0 9 = 5 ∨ ¬ fI S v0 9 = 5) ∧ (fI S v0 8 ≤ fI T v0 8 ∧ (fI T v0 9 = 4 → fI S v0 8 < fI T v0 8 ∨ fI S v0 9 = 4)) → Q r T) : P_X11_known v0 v1 Q S := by
  have g0 := gr_rf S
  have f0 := fri_rf [(11, 9), (11, 13), (11, 14)] [] S
  obtain ⟨kv1, d_kv1⟩ : ∃ z : Int32, z = fI S v0 8 := ⟨_, rfl⟩
  have r_kv1 : (0 : Int32) ≤ kv1 ∧ kv1 ≤ (900 : Int32) := by rw [d_kv1]; exact nu 25 rfl hI o_v0
  obtain ⟨iv2, hiv2⟩ : ∃ z : Int32, z = kv1 := ⟨_, rfl⟩
  have di_8 := hiv2.trans d_kv1
  obtain ⟨kv3, d_kv3⟩ : ∃ z : Int32, z = fI S v0 9 := ⟨_, rfl⟩
  obtain ⟨iv4, hiv4⟩ : ∃ z : Int32, z = kv3 := ⟨_, rfl⟩
  have di_9 := hiv4.trans d_kv3
  obtain ⟨kv5, d_kv5⟩ : ∃ z : Int32, z = fI S v0 13 := ⟨_, rfl⟩
  obtain ⟨iv6, hiv6⟩ : ∃ z : Int32, z = kv5 := ⟨_, rfl⟩
  have di_13 := hiv6.trans d_kv5
  have hO : iv4 = 5 → 0 < iv6 := by rw [di_9, di_13]; exact hO
  refine u_X11_known ?_
  refine u_X11_known_0 ?_
  refine ⟨o_v0, ?_⟩
  refine m_X11_isName hI o_v0 (fun x7 S8 hI2 g9 b_x7 p_x7 => ?_)
  subst p_x7
  intro _ _
  have bb_x7 : x7 = 0 ∨ x7 = 1 := b_x7
  refine ⟨fun c11 => ?_, fun c11 => ?_⟩
  · refine u_X11_known_12 ?_
    refine ⟨o_v0, ?_⟩
    obtain ⟨a12, ea12, o_a12, -⟩ := id hG
    refine ⟨a12, ea12, ?_⟩
    intro x13 ex13
    have dj_x13 := ex13
    refine ⟨o_a12, ?_⟩
    refine m_X10_find hI o_a12 (fun x14 S15 hI2 g16 p_x14 => ?_)
    obtain ⟨z_S15, p_x14⟩ := p_x14
    subst z_S15
    intro _
    obtain ⟨kv18, d_kv18⟩ : ∃ z : Int32, z = fI S a12 6 := ⟨_, rfl⟩
    have r_kv18 : (0 : Int32) ≤ kv18 ∧ kv18 ≤ (12 : Int32) := by rw [d_kv18]; exact nu 22 rfl hI o_a12
    have fn_x14 : x14 = -1 ∨ (0 ≤ x14 ∧ x14 < kv18) := by rw [d_kv18]; exact p_x14
    refine ⟨fun c19 => ?_, fun c19 => ?_⟩
    · refine u_X11_known_42 ?_
      refine ⟨o_v0, ?_⟩
      obtain ⟨iv20, hiv20⟩ : ∃ z : Int32, z = kv1 := ⟨_, rfl⟩
      have d_iv20 := hiv20.trans d_kv1
      have do20_iv20 := d_iv20
      have do20_kv3 := d_kv3
      have do20_kv5 := d_kv5
      refine m_X11_flaw hI o_v0 (qr629 bb_x7 c11 r_kv18 fn_x14 c19) hG (by have t : kv3 = 5 → 0 < kv5 := (qr601 hiv4 hiv6 hO bb_x7 c11 r_kv18 fn_x14 c19); rw [d_kv3, d_kv5] at t; exact t) (fun S22 hJ g23 fc24 p_S22 => ?_)
      obtain ⟨hG, pg0_S22, pg1_S22, pg2_S22, pg3_S22⟩ := p_S22
      have hn := rn_fr fc24 g23 hI o_v0 (by decide) hn
      have hI := hJ
      have d_kv1 := d_kv1.trans (fri_at fc24 (by decide) (by decide) o_v0).symm
      have d_kv18 := d_kv18.trans (fri_at fc24 (by decide) (by decide) o_a12).symm
      have ea12 := (frr_at fc24 (by decide) (by decide) o_v0).trans ea12
      have f0 := fri_tr (S := S) g0 f0 fc24 (by decide) (by decide)
      have o_a12 := gr_ob g23 o_a12
      have o_v0 := gr_ob g23 o_v0
      have g0 := gr_tr (T := S) g0 g23
      obtain ⟨kv25, d_kv25⟩ : ∃ z : Int32, z = fI S22 v0 9 := ⟨_, rfl⟩
      obtain ⟨kv26, d_kv26⟩ : ∃ z : Int32, z = fI S22 v0 13 := ⟨_, rfl⟩
      have ph0_S22 : kv25 = 5 → 0 < kv26 := by rw [d_kv25, d_kv26]; exact pg0_S22
      have ph1_S22 : kv25 = 5 ∨ ¬ kv3 = 5 := by rw [do20_kv3, d_kv25]; exact pg1_S22
      have ph2_S22 : iv20 ≤ kv1 ∧ (kv25 = 4 → iv20 < kv1 ∨ kv3 = 4) := by rw [do20_iv20, do20_kv3, d_kv1, d_kv25]; exact pg2_S22
      have ph3_S22 : kv25 = 5 := by rw [d_kv25]; exact pg3_S22
      intro _
      refine u_X11_known_47 ?_
      refine ⟨o_v0, ?_⟩
      intro x27 ex27
      have q_x27 : x27 = kv25 := ex27.trans d_kv25.symm
      have mo28 : x27 = 5 ∨ ¬ kv3 = 5 := ph1_S22.imp_left (fun z => q_x27.trans z)
      have d_x27 := ex27
      refine ⟨fun c29 => ?_, fun c29 => ?_⟩
      · refine ⟨a12, ea12, ?_⟩
        refine ⟨o_a12, ?_⟩
        obtain ⟨a31, ea31, o_a31, l_a31⟩ := shl 52 rfl hI o_a12
        refine ⟨a31, ea31, ?_⟩
        refine ⟨o_a31, ?_⟩
        refine ⟨(vin l_a31 (m := 12) (by decide) (qr630 hiv4 bb_x7 c11 r_kv18 fn_x14 c19 mo28 ph3_S22 q_x27 c29)), ?_⟩
        intro x32 ex32
        exact hq _ _ hI g0 f0 ⟨hG, hn, (Or.inl (by rw [← d_x27]; exact (qr631 hiv4 bb_x7 c11 r_kv18 fn_x14 c19 mo28 ph3_S22 q_x27 c29))), (by have t : x27 = 5 → 0 < kv26 := (qr632 hiv4 hiv6 hO bb_x7 c11 r_kv18 fn_x14 c19 ph0_S22 mo28 ph3_S22 q_x27 c29); rw [d_x27, d_kv26] at t; exact t), (by have t : x27 = 5 ∨ ¬ iv4 = 5 := (qr633 hiv4 bb_x7 c11 r_kv18 fn_x14 c19 mo28 ph3_S22 q_x27 c29); rw [di_9, d_x27] at t; exact t), (by have t : iv2 ≤ kv1 ∧ (x27 = 4 → iv2 < kv1 ∨ iv4 = 4) := (qr634 r_kv1 hiv2 hiv4 bb_x7 c11 r_kv18 fn_x14 c19 hiv20 mo28 ph2_S22 ph3_S22 q_x27 c29); rw [di_8, di_9, d_kv1, d_x27] at t; exact t)⟩
      · exact hq _ _ hI g0 f0 ⟨hG, hn, (Or.inl (by rw [← d_x27]; exact (qr635 hiv4 bb_x7 c11 r_kv18 fn_x14 c19 mo28 ph3_S22 q_x27 c29))), (by have t : x27 = 5 → 0 < kv26 := (qr636 hiv4 hiv6 hO bb_x7 c11 r_kv18 fn_x14 c19 ph0_S22 mo28 ph3_S22 q_x27 c29); rw [d_x27, d_kv26] at t; exact t), (by have t : x27 = 5 ∨ ¬ iv4 = 5 := (qr637 hiv4 bb_x7 c11 r_kv18 fn_x14 c19 mo28 ph3_S22 q_x27 c29); rw [di_9, d_x27] at t; exact t), (by have t : iv2 ≤ kv1 ∧ (x27 = 4 → iv2 < kv1 ∨ iv4 = 4) := (qr638 r_kv1 hiv2 hiv4 bb_x7 c11 r_kv18 fn_x14 c19 hiv20 mo28 ph2_S22 ph3_S22 q_x27 c29); rw [di_8, di_9, d_kv1, d_x27] at t; exact t)⟩
    · refine ⟨a12, ea12, ?_⟩
      refine ⟨o_a12, ?_⟩
      obtain ⟨a34, ea34, o_a34, l_a34⟩ := shl 51 rfl hI o_a12
      refine ⟨a34, ea34, ?_⟩
      refine ⟨o_a34, ?_⟩
      refine ⟨(vin l_a34 (m := 12) (by decide) (qr639 bb_x7 c11 r_kv18 fn_x14 c19)), ?_⟩
      intro x35 ex35
      refine ⟨fun c36 => ?_, fun c36 => ?_⟩
      · refine u_X11_known_47 ?_
        refine ⟨o_v0, ?_⟩
        intro x37 ex37
        have q_x37 : x37 = kv3 := ex37.trans d_kv3.symm
        have d_x37 := ex37
        refine ⟨fun c38 => ?_, fun c38 => ?_⟩
        · refine ⟨a12, ea12, ?_⟩
          refine ⟨o_a12, ?_⟩
          obtain ⟨a40, ea40, o_a40, l_a40⟩ := shl 52 rfl hI o_a12
          refine ⟨a40, ea40, ?_⟩
          refine ⟨o_a40, ?_⟩
          refine ⟨(vin l_a40 (m := 12) (by decide) (qr640 h1 hiv4 bb_x7 c11 r_kv18 fn_x14 c19 c36 q_x37 c38)), ?_⟩
          intro x41 ex41
          exact hq _ _ hI g0 f0 ⟨hG, hn, (kn_ok (n := 0) (y := x14) hG hn ea12 ea34 ea40 (qr641 h1 hiv4 bb_x7 c11 r_kv18 fn_x14 c19 c36 q_x37 c38) (by rw [← d_kv18]; exact (qr642 h1 hiv4 bb_x7 c11 r_kv18 fn_x14 c19 c36 q_x37 c38)) (ex35.symm.trans (qr643 h1 hiv4 bb_x7 c11 r_kv18 fn_x14 c19 c36 q_x37 c38)) ex41), (by have t : x37 = 5 → 0 < kv5 := (qr644 h1 hiv4 hiv6 hO bb_x7 c11 r_kv18 fn_x14 c19 c36 q_x37 c38); rw [d_x37, d_kv5] at t; exact t), (by have t : x37 = 5 ∨ ¬ iv4 = 5 := (qr645 h1 hiv4 bb_x7 c11 r_kv18 fn_x14 c19 c36 q_x37 c38); rw [di_9, d_x37] at t; exact t), (by have t : iv2 ≤ kv1 ∧ (x37 = 4 → iv2 < kv1 ∨ iv4 = 4) := (qr646 h1 r_kv1 hiv2 hiv4 bb_x7 c11 r_kv18 fn_x14 c19 c36 q_x37 c38); rw [di_8, di_9, d_kv1, d_x37] at t; exact t)⟩
        · exact hq _ _ hI g0 f0 ⟨hG, hn, (Or.inl (by rw [← d_x37]; exact (qr647 h1 hiv4 bb_x7 c11 r_kv18 fn_x14 c19 c36 q_x37 c38))), (by have t : x37 = 5 → 0 < kv5 := (qr648 h1 hiv4 hiv6 hO bb_x7 c11 r_kv18 fn_x14 c19 c36 q_x37 c38); rw [d_x37, d_kv5] at t; exact t), (by have t : x37 = 5 ∨ ¬ iv4 = 5 := (qr649 h1 hiv4 bb_x7 c11 r_kv18 fn_x14 c19 c36 q_x37 c38); rw [di_9, d_x37] at t; exact t), (by have t : iv2 ≤ kv1 ∧ (x37 = 4 → iv2 < kv1 ∨ iv4 = 4) := (qr650 h1 r_kv1 hiv2 hiv4 bb_x7 c11 r_kv18 fn_x14 c19 c36 q_x37 c38); rw [di_8, di_9, d_kv1, d_x37] at t; exact t)⟩
      · refine u_X11_known_42 ?_
        refine ⟨o_v0, ?_⟩
        obtain ⟨iv42, hiv42⟩ : ∃ z : Int32, z = kv1 := ⟨_, rfl⟩
        have d_iv42 := hiv42.trans d_kv1
        have do42_iv42 := d_iv42
        have do42_kv3 := d_kv3
        have do42_kv5 := d_kv5
        refine m_X11_flaw hI o_v0 (qr651 h1 bb_x7 c11 r_kv18 fn_x14 c19 c36) hG (by have t : kv3 = 5 → 0 < kv5 := (qr652 h1 hiv4 hiv6 hO bb_x7 c11 r_kv18 fn_x14 c19 c36); rw [d_kv3, d_kv5] at t; exact t) (fun S44 hJ g45 fc46 p_S44 => ?_)
        obtain ⟨hG, pg0_S44, pg1_S44, pg2_S44, pg3_S44⟩ := p_S44
        have hn := rn_fr fc46 g45 hI o_v0 (by decide) hn
        have hI := hJ
        have l_a34 := (gr_len g45 o_a34).trans l_a34
        have d_kv1 := d_kv1.trans (fri_at fc46 (by decide) (by decide) o_v0).symm
        have d_kv18 := d_kv18.trans (fri_at fc46 (by decide) (by decide) o_a12).symm
        have ea12 := (frr_at fc46 (by decide) (by decide) o_v0).trans ea12
        have ea34 := (frr_at fc46 (by decide) (by decide) o_a12).trans ea34
        have f0 := fri_tr (S := S) g0 f0 fc46 (by decide) (by decide)
        have o_a12 := gr_ob g45 o_a12
        have o_a34 := gr_ob g45 o_a34
        have o_v0 := gr_ob g45 o_v0
        have g0 := gr_tr (T := S) g0 g45
        obtain ⟨kv47, d_kv47⟩ : ∃ z : Int32, z = fI S44 v0 9 := ⟨_, rfl⟩
        obtain ⟨kv48, d_kv48⟩ : ∃ z : Int32, z = fI S44 v0 13 := ⟨_, rfl⟩
        have ph0_S44 : kv47 = 5 → 0 < kv48 := by rw [d_kv47, d_kv48]; exact pg0_S44
        have ph1_S44 : kv47 = 5 ∨ ¬ kv3 = 5 := by rw [do42_kv3, d_kv47]; exact pg1_S44
        have ph2_S44 : iv42 ≤ kv1 ∧ (kv47 = 4 → iv42 < kv1 ∨ kv3 = 4) := by rw [do42_iv42, do42_kv3, d_kv1, d_kv47]; exact pg2_S44
        have ph3_S44 : kv47 = 5 := by rw [d_kv47]; exact pg3_S44
        intro _
        refine u_X11_known_47 ?_
        refine ⟨o_v0, ?_⟩
        intro x49 ex49
        have q_x49 : x49 = kv47 := ex49.trans d_kv47.symm
        have mo50 : x49 = 5 ∨ ¬ kv3 = 5 := ph1_S44.imp_left (fun z => q_x49.trans z)
        have d_x49 := ex49
        refine ⟨fun c51 => ?_, fun c51 => ?_⟩
        · refine ⟨a12, ea12, ?_⟩
          refine ⟨o_a12, ?_⟩
          obtain ⟨a53, ea53, o_a53, l_a53⟩ := shl 52 rfl hI o_a12
          refine ⟨a53, ea53, ?_⟩
          refine ⟨o_a53, ?_⟩
          refine ⟨(vin l_a53 (m := 12) (by decide) (qr653 h1 hiv4 bb_x7 c11 r_kv18 fn_x14 c19 c36 mo50 ph3_S44 q_x49 c51)), ?_⟩
          intro x54 ex54
          exact hq _ _ hI g0 f0 ⟨hG, hn, (Or.inl (by rw [← d_x49]; exact (qr654 h1 hiv4 bb_x7 c11 r_kv18 fn_x14 c19 c36 mo50 ph3_S44 q_x49 c51))), (by have t : x49 = 5 → 0 < kv48 := (qr655 h1 hiv4 hiv6 hO bb_x7 c11 r_kv18 fn_x14 c19 c36 ph0_S44 mo50 ph3_S44 q_x49 c51); rw [d_x49, d_kv48] at t; exact t), (by have t : x49 = 5 ∨ ¬ iv4 = 5 := (qr656 h1 hiv4 bb_x7 c11 r_kv18 fn_x14 c19 c36 mo50 ph3_S44 q_x49 c51); rw [di_9, d_x49] at t; exact t), (by have t : iv2 ≤ kv1 ∧ (x49 = 4 → iv2 < kv1 ∨ iv4 = 4) := (qr657 h1 r_kv1 hiv2 hiv4 bb_x7 c11 r_kv18 fn_x14 c19 c36 hiv42 mo50 ph2_S44 ph3_S44 q_x49 c51); rw [di_8, di_9, d_kv1, d_x49] at t; exact t)⟩
        · exact hq _ _ hI g0 f0 ⟨hG, hn, (Or.inl (by rw [← d_x49]; exact (qr658 h1 hiv4 bb_x7 c11 r_kv18 fn_x14 c19 c36 mo50 ph3_S44 q_x49 c51))), (by have t : x49 = 5 → 0 < kv48 := (qr659 h1 hiv4 hiv6 hO bb_x7 c11 r_kv18 fn_x14 c19 c36 ph0_S44 mo50 ph3_S44 q_x49 c51); rw [d_x49, d_kv48] at t; exact t), (by have t : x49 = 5 ∨ ¬ iv4 = 5 := (qr660 h1 hiv4 bb_x7 c11 r_kv18 fn_x14 c19 c36 mo50 ph3_S44 q_x49 c51); rw [di_9, d_x49] at t; exact t), (by have t : iv2 ≤ kv1 ∧ (x49 = 4 → iv2 < kv1 ∨ iv4 = 4) := (qr661 h1 r_kv1 hiv2 hiv4 bb_x7 c11 r_kv18 fn_x14 c19 c36 hiv42 mo50 ph2_S44 ph3_S44 q_x49 c51); rw [di_8, di_9, d_kv1, d_x49] at t; exact t)⟩
  · obtain ⟨iv55, hiv55⟩ : ∃ z : Int32, z = kv1 := ⟨_, rfl⟩
    have d_iv55 := hiv55.trans d_kv1
    have do55_iv55 := d_iv55
    have do55_kv3 := d_kv3
    have do55_kv5 := d_kv5
    refine m_X11_flaw hI o_v0 (qr611 bb_x7 c11) hG (by have t : kv3 = 5 → 0 < kv5 := (qr612 hiv4 hiv6 hO bb_x7 c11); rw [d_kv3, d_kv5] at t; exact t) (fun S57 hJ g58 fc59 p_S57 => ?_)
    obtain ⟨hG, pg0_S57, pg1_S57, pg2_S57, pg3_S57⟩ := p_S57
    have hn := rn_fr fc59 g58 hI o_v0 (by decide) hn
    have hI := hJ
    have d_kv1 := d_kv1.trans (fri_at fc59 (by decide) (by decide) o_v0).symm
    have f0 := fri_tr (S := S) g0 f0 fc59 (by decide) (by decide)
    have o_v0 := gr_ob g58 o_v0
    have g0 := gr_tr (T := S) g0 g58
    obtain ⟨kv60, d_kv60⟩ : ∃ z : Int32, z = fI S57 v0 9 := ⟨_, rfl⟩
    obtain ⟨kv61, d_kv61⟩ : ∃ z : Int32, z = fI S57 v0 13 := ⟨_, rfl⟩
    have ph0_S57 : kv60 = 5 → 0 < kv61 := by rw [d_kv60, d_kv61]; exact pg0_S57
    have ph1_S57 : kv60 = 5 ∨ ¬ kv3 = 5 := by rw [do55_kv3, d_kv60]; exact pg1_S57
    have ph2_S57 : iv55 ≤ kv1 ∧ (kv60 = 4 → iv55 < kv1 ∨ kv3 = 4) := by rw [do55_iv55, do55_kv3, d_kv1, d_kv60]; exact pg2_S57
    have ph3_S57 : kv60 = 5 := by rw [d_kv60]; exact pg3_S57
    intro _
    refine u_X11_known_12 ?_
    refine ⟨o_v0, ?_⟩
    obtain ⟨a62, ea62, o_a62, -⟩ := id hG
    refine ⟨a62, ea62, ?_⟩
    intro x63 ex63
    have dj_x63 := ex63
    refine ⟨o_a62, ?_⟩
    refine m_X10_find hI o_a62 (fun x64 S65 hI2 g66 p_x64 => ?_)
    obtain ⟨z_S65, p_x64⟩ := p_x64
    subst z_S65
    intro _
    obtain ⟨kv68, d_kv68⟩ : ∃ z : Int32, z = fI S57 a62 6 := ⟨_, rfl⟩
    have r_kv68 : (0 : Int32) ≤ kv68 ∧ kv68 ≤ (12 : Int32) := by rw [d_kv68]; exact nu 22 rfl hI o_a62
    have fn_x64 : x64 = -1 ∨ (0 ≤ x64 ∧ x64 < kv68) := by rw [d_kv68]; exact p_x64
    refine ⟨fun c69 => ?_, fun c69 => ?_⟩
    · refine u_X11_known_42 ?_
      refine ⟨o_v0, ?_⟩
      obtain ⟨iv70, hiv70⟩ : ∃ z : Int32, z = kv1 := ⟨_, rfl⟩
      have d_iv70 := hiv70.trans d_kv1
      have do70_iv70 := d_iv70
      have do70_kv60 := d_kv60
      have do70_kv61 := d_kv61
      refine m_X11_flaw hI o_v0 (qr662 bb_x7 c11 r_kv68 fn_x64 c69) hG (by have t : kv60 = 5 → 0 < kv61 := (qr613 hiv4 hiv6 hO bb_x7 c11 ph0_S57 ph1_S57 ph3_S57 r_kv68 fn_x64 c69); rw [d_kv60, d_kv61] at t; exact t) (fun S72 hJ g73 fc74 p_S72 => ?_)
      obtain ⟨hG, pg0_S72, pg1_S72, pg2_S72, pg3_S72⟩ := p_S72
      have hn := rn_fr fc74 g73 hI o_v0 (by decide) hn
      have hI := hJ
      have d_kv1 := d_kv1.trans (fri_at fc74 (by decide) (by decide) o_v0).symm
      have d_kv68 := d_kv68.trans (fri_at fc74 (by decide) (by decide) o_a62).symm
      have ea62 := (frr_at fc74 (by decide) (by decide) o_v0).trans ea62
      have f0 := fri_tr (S := S57) g0 f0 fc74 (by decide) (by decide)
      have o_a62 := gr_ob g73 o_a62
      have o_v0 := gr_ob g73 o_v0
      have g0 := gr_tr (T := S57) g0 g73
      obtain ⟨kv75, d_kv75⟩ : ∃ z : Int32, z = fI S72 v0 9 := ⟨_, rfl⟩
      obtain ⟨kv76, d_kv76⟩ : ∃ z : Int32, z = fI S72 v0 13 := ⟨_, rfl⟩
      have ph0_S72 : kv75 = 5 → 0 < kv76 := by rw [d_kv75, d_kv76]; exact pg0_S72
      have ph1_S72 : kv75 = 5 ∨ ¬ kv60 = 5 := by rw [do70_kv60, d_kv75]; exact pg1_S72
      have mo77 : kv75 = 5 ∨ ¬ kv3 = 5 := ph1_S72.elim Or.inl (fun h => Or.inr (ph1_S57.resolve_left h))
      have ph2_S72 : iv70 ≤ kv1 ∧ (kv75 = 4 → iv70 < kv1 ∨ kv60 = 4) := by rw [do70_iv70, do70_kv60, d_kv1, d_kv75]; exact pg2_S72
      have ph3_S72 : kv75 = 5 := by rw [d_kv75]; exact pg3_S72
      intro _
      refine u_X11_known_47 ?_
      refine ⟨o_v0, ?_⟩
      intro x78 ex78
      have q_x78 : x78 = kv75 := ex78.trans d_kv75.symm
      have mo79 : x78 = 5 ∨ ¬ kv3 = 5 := mo77.imp_left (fun z => q_x78.trans z)
      have mo80 : x78 = 5 ∨ ¬ kv60 = 5 := ph1_S72.imp_left (fun z => q_x78.trans z)
      have d_x78 := ex78
      refine ⟨fun c81 => ?_, fun c81 => ?_⟩
      · refine ⟨a62, ea62, ?_⟩
        refine ⟨o_a62, ?_⟩
        obtain ⟨a83, ea83, o_a83, l_a83⟩ := shl 52 rfl hI o_a62
        refine ⟨a83, ea83, ?_⟩
        refine ⟨o_a83, ?_⟩
        refine ⟨(vin l_a83 (m := 12) (by decide) (qr663 hiv4 bb_x7 c11 mo79 ph3_S57 r_kv68 fn_x64 c69 mo80 ph3_S72 q_x78 c81)), ?_⟩
        intro x84 ex84
        exact hq _ _ hI g0 f0 ⟨hG, hn, (Or.inl (by rw [← d_x78]; exact (qr664 hiv4 bb_x7 c11 mo79 ph3_S57 r_kv68 fn_x64 c69 mo80 ph3_S72 q_x78 c81))), (by have t : x78 = 5 → 0 < kv76 := (qr665 hiv4 hiv6 hO bb_x7 c11 ph0_S57 mo79 ph3_S57 r_kv68 fn_x64 c69 ph0_S72 mo80 ph3_S72 q_x78 c81); rw [d_x78, d_kv76] at t; exact t), (by have t : x78 = 5 ∨ ¬ iv4 = 5 := (qr666 hiv4 bb_x7 c11 mo79 ph3_S57 r_kv68 fn_x64 c69 mo80 ph3_S72 q_x78 c81); rw [di_9, d_x78] at t; exact t), (by have t : iv2 ≤ kv1 ∧ (x78 = 4 → iv2 < kv1 ∨ iv4 = 4) := (qr667 r_kv1 hiv2 hiv4 bb_x7 c11 hiv55 mo79 ph2_S57 ph3_S57 r_kv68 fn_x64 c69 hiv70 mo80 ph2_S72 ph3_S72 q_x78 c81); rw [di_8, di_9, d_kv1, d_x78] at t; exact t)⟩
      · exact hq _ _ hI g0 f0 ⟨hG, hn, (Or.inl (by rw [← d_x78]; exact (qr668 hiv4 bb_x7 c11 mo79 ph3_S57 r_kv68 fn_x64 c69 mo80 ph3_S72 q_x78 c81))), (by have t : x78 = 5 → 0 < kv76 := (qr669 hiv4 hiv6 hO bb_x7 c11 ph0_S57 mo79 ph3_S57 r_kv68 fn_x64 c69 ph0_S72 mo80 ph3_S72 q_x78 c81); rw [d_x78, d_kv76] at t; exact t), (by have t : x78 = 5 ∨ ¬ iv4 = 5 := (qr670 hiv4 bb_x7 c11 mo79 ph3_S57 r_kv68 fn_x64 c69 mo80 ph3_S72 q_x78 c81); rw [di_9, d_x78] at t; exact t), (by have t : iv2 ≤ kv1 ∧ (x78 = 4 → iv2 < kv1 ∨ iv4 = 4) := (qr671 r_kv1 hiv2 hiv4 bb_x7 c11 hiv55 mo79 ph2_S57 ph3_S57 r_kv68 fn_x64 c69 hiv70 mo80 ph2_S72 ph3_S72 q_x78 c81); rw [di_8, di_9, d_kv1, d_x78] at t; exact t)⟩
    · refine ⟨a62, ea62, ?_⟩
      refine ⟨o_a62, ?_⟩
      obtain ⟨a86, ea86, o_a86, l_a86⟩ := shl 51 rfl hI o_a62
      refine ⟨a86, ea86, ?_⟩
      refine ⟨o_a86, ?_⟩
      refine ⟨(vin l_a86 (m := 12) (by decide) (qr672 bb_x7 c11 r_kv68 fn_x64 c69)), ?_⟩
      intro x87 ex87
      refine ⟨fun c88 => ?_, fun c88 => ?_⟩
      · refine u_X11_known_47 ?_
        refine ⟨o_v0, ?_⟩
        intro x89 ex89
        have q_x89 : x89 = kv60 := ex89.trans d_kv60.symm
        have mo90 : x89 = 5 ∨ ¬ kv3 = 5 := ph1_S57.imp_left (fun z => q_x89.trans z)
        have d_x89 := ex89
        refine ⟨fun c91 => ?_, fun c91 => ?_⟩
        · refine ⟨a62, ea62, ?_⟩
          refine ⟨o_a62, ?_⟩
          obtain ⟨a93, ea93, o_a93, l_a93⟩ := shl 52 rfl hI o_a62
          refine ⟨a93, ea93, ?_⟩
          refine ⟨o_a93, ?_⟩
          refine ⟨(vin l_a93 (m := 12) (by decide) (qr673 h1 hiv4 bb_x7 c11 mo90 ph3_S57 r_kv68 fn_x64 c69 c88 q_x89 c91)), ?_⟩
          intro x94 ex94
          exact hq _ _ hI g0 f0 ⟨hG, hn, (Or.inl (by rw [← d_x89]; exact (qr674 h1 hiv4 bb_x7 c11 mo90 ph3_S57 r_kv68 fn_x64 c69 c88 q_x89 c91))), (by have t : x89 = 5 → 0 < kv61 := (qr675 h1 hiv4 hiv6 hO bb_x7 c11 ph0_S57 mo90 ph3_S57 r_kv68 fn_x64 c69 c88 q_x89 c91); rw [d_x89, d_kv61] at t; exact t), (by have t : x89 = 5 ∨ ¬ iv4 = 5 := (qr676 h1 hiv4 bb_x7 c11 mo90 ph3_S57 r_kv68 fn_x64 c69 c88 q_x89 c91); rw [di_9, d_x89] at t; exact t), (by have t : iv2 ≤ kv1 ∧ (x89 = 4 → iv2 < kv1 ∨ iv4 = 4) := (qr677 h1 r_kv1 hiv2 hiv4 bb_x7 c11 hiv55 mo90 ph2_S57 ph3_S57 r_kv68 fn_x64 c69 c88 q_x89 c91); rw [di_8, di_9, d_kv1, d_x89] at t; exact t)⟩
        · exact hq _ _ hI g0 f0 ⟨hG, hn, (Or.inl (by rw [← d_x89]; exact (qr678 h1 hiv4 bb_x7 c11 mo90 ph3_S57 r_kv68 fn_x64 c69 c88 q_x89 c91))), (by have t : x89 = 5 → 0 < kv61 := (qr679 h1 hiv4 hiv6 hO bb_x7 c11 ph0_S57 mo90 ph3_S57 r_kv68 fn_x64 c69 c88 q_x89 c91); rw [d_x89, d_kv61] at t; exact t), (by have t : x89 = 5 ∨ ¬ iv4 = 5 := (qr680 h1 hiv4 bb_x7 c11 mo90 ph3_S57 r_kv68 fn_x64 c69 c88 q_x89 c91); rw [di_9, d_x89] at t; exact t), (by have t : iv2 ≤ kv1 ∧ (x89 = 4 → iv2 < kv1 ∨ iv4 = 4) := (qr681 h1 r_kv1 hiv2 hiv4 bb_x7 c11 hiv55 mo90 ph2_S57 ph3_S57 r_kv68 fn_x64 c69 c88 q_x89 c91); rw [di_8, di_9, d_kv1, d_x89] at t; exact t)⟩
      · refine u_X11_known_42 ?_
        refine ⟨o_v0, ?_⟩
        obtain ⟨iv95, hiv95⟩ : ∃ z : Int32, z = kv1 := ⟨_, rfl⟩
        have d_iv95 := hiv95.trans d_kv1
        have do95_iv95 := d_iv95
        have do95_kv60 := d_kv60
        have do95_kv61 := d_kv61
        refine m_X11_flaw hI o_v0 (qr682 h1 bb_x7 c11 r_kv68 fn_x64 c69 c88) hG (by have t : kv60 = 5 → 0 < kv61 := (qr683 h1 hiv4 hiv6 hO bb_x7 c11 ph0_S57 ph1_S57 ph3_S57 r_kv68 fn_x64 c69 c88); rw [d_kv60, d_kv61] at t; exact t) (fun S97 hJ g98 fc99 p_S97 => ?_)
        obtain ⟨hG, pg0_S97, pg1_S97, pg2_S97, pg3_S97⟩ := p_S97
        have hn := rn_fr fc99 g98 hI o_v0 (by decide) hn
        have hI := hJ
        have l_a86 := (gr_len g98 o_a86).trans l_a86
        have d_kv1 := d_kv1.trans (fri_at fc99 (by decide) (by decide) o_v0).symm
        have d_kv68 := d_kv68.trans (fri_at fc99 (by decide) (by decide) o_a62).symm
        have ea62 := (frr_at fc99 (by decide) (by decide) o_v0).trans ea62
        have ea86 := (frr_at fc99 (by decide) (by decide) o_a62).trans ea86
        have f0 := fri_tr (S := S57) g0 f0 fc99 (by decide) (by decide)
        have o_a62 := gr_ob g98 o_a62
        have o_a86 := gr_ob g98 o_a86
        have o_v0 := gr_ob g98 o_v0
        have g0 := gr_tr (T := S57) g0 g98
        obtain ⟨kv100, d_kv100⟩ : ∃ z : Int32, z = fI S97 v0 9 := ⟨_, rfl⟩
        obtain ⟨kv101, d_kv101⟩ : ∃ z : Int32, z = fI S97 v0 13 := ⟨_, rfl⟩
        have ph0_S97 : kv100 = 5 → 0 < kv101 := by rw [d_kv100, d_kv101]; exact pg0_S97
        have ph1_S97 : kv100 = 5 ∨ ¬ kv60 = 5 := by rw [do95_kv60, d_kv100]; exact pg1_S97
        have mo102 : kv100 = 5 ∨ ¬ kv3 = 5 := ph1_S97.elim Or.inl (fun h => Or.inr (ph1_S57.resolve_left h))
        have ph2_S97 : iv95 ≤ kv1 ∧ (kv100 = 4 → iv95 < kv1 ∨ kv60 = 4) := by rw [do95_iv95, do95_kv60, d_kv1, d_kv100]; exact pg2_S97
        have ph3_S97 : kv100 = 5 := by rw [d_kv100]; exact pg3_S97
        intro _
        refine u_X11_known_47 ?_
        refine ⟨o_v0, ?_⟩
        intro x103 ex103
        have q_x103 : x103 = kv100 := ex103.trans d_kv100.symm
        have mo104 : x103 = 5 ∨ ¬ kv3 = 5 := mo102.imp_left (fun z => q_x103.trans z)
        have mo105 : x103 = 5 ∨ ¬ kv60 = 5 := ph1_S97.imp_left (fun z => q_x103.trans z)
        have d_x103 := ex103
        refine ⟨fun c106 => ?_, fun c106 => ?_⟩
        · refine ⟨a62, ea62, ?_⟩
          refine ⟨o_a62, ?_⟩
          obtain ⟨a108, ea108, o_a108, l_a108⟩ := shl 52 rfl hI o_a62
          refine ⟨a108, ea108, ?_⟩
          refine ⟨o_a108, ?_⟩
          refine ⟨(vin l_a108 (m := 12) (by decide) (qr684 h1 hiv4 bb_x7 c11 mo104 ph3_S57 r_kv68 fn_x64 c69 c88 mo105 ph3_S97 q_x103 c106)), ?_⟩
          intro x109 ex109
          exact hq _ _ hI g0 f0 ⟨hG, hn, (Or.inl (by rw [← d_x103]; exact (qr685 h1 hiv4 bb_x7 c11 mo104 ph3_S57 r_kv68 fn_x64 c69 c88 mo105 ph3_S97 q_x103 c106))), (by have t : x103 = 5 → 0 < kv101 := (qr686 h1 hiv4 hiv6 hO bb_x7 c11 ph0_S57 mo104 ph3_S57 r_kv68 fn_x64 c69 c88 ph0_S97 mo105 ph3_S97 q_x103 c106); rw [d_x103, d_kv101] at t; exact t), (by have t : x103 = 5 ∨ ¬ iv4 = 5 := (qr687 h1 hiv4 bb_x7 c11 mo104 ph3_S57 r_kv68 fn_x64 c69 c88 mo105 ph3_S97 q_x103 c106); rw [di_9, d_x103] at t; exact t), (by have t : iv2 ≤ kv1 ∧ (x103 = 4 → iv2 < kv1 ∨ iv4 = 4) := (qr688 h1 r_kv1 hiv2 hiv4 bb_x7 c11 hiv55 mo104 ph2_S57 ph3_S57 r_kv68 fn_x64 c69 c88 hiv95 mo105 ph2_S97 ph3_S97 q_x103 c106); rw [di_8, di_9, d_kv1, d_x103] at t; exact t)⟩
        · exact hq _ _ hI g0 f0 ⟨hG, hn, (Or.inl (by rw [← d_x103]; exact (qr689 h1 hiv4 bb_x7 c11 mo104 ph3_S57 r_kv68 fn_x64 c69 c88 mo105 ph3_S97 q_x103 c106))), (by have t : x103 = 5 → 0 < kv101 := (qr690 h1 hiv4 hiv6 hO bb_x7 c11 ph0_S57 mo104 ph3_S57 r_kv68 fn_x64 c69 c88 ph0_S97 mo105 ph3_S97 q_x103 c106); rw [d_x103, d_kv101] at t; exact t), (by have t : x103 = 5 ∨ ¬ iv4 = 5 := (qr691 h1 hiv4 bb_x7 c11 mo104 ph3_S57 r_kv68 fn_x64 c69 c88 mo105 ph3_S97 q_x103 c106); rw [di_9, d_x103] at t; exact t), (by have t : iv2 ≤ kv1 ∧ (x103 = 4 → iv2 < kv1 ∨ iv4 = 4) := (qr692 h1 r_kv1 hiv2 hiv4 bb_x7 c11 hiv55 mo104 ph2_S57 ph3_S57 r_kv68 fn_x64 c69 c88 hiv95 mo105 ph2_S97 ph3_S97 q_x103 c106); rw [di_8, di_9, d_kv1, d_x103] at t; exact t)⟩
