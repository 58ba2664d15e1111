set_option maxHeartbeats 4000000 in
set_option maxRecDepth 20000 in
theorem m_X11_readRoad {v0 : Nat} {Q : HS → Prop} {S : HS} (hI : IV S) (o_v0 : ob S v0 11)    (hG : RG S v0) (hn : RN S v0) (hO : fI S v0 9 = 5 → 0 < fI S v0 13) (hq : ∀ (T : HS), IV T → Gr S T → FRI [(10, 3), (11, 8), (11, 9), (11, 10), (11, 11), (11, 12), (11, 13), (11, 14)] [] S T → (RG T v0) ∧ (RN T v0) ∧ (fI T v0 9 = 5 → 0 < fI T v0 13) ∧ (fI T v0 9 = 5 ∨ ¬ fI S v0 9 = 5) ∧ (fI S v0 8 ≤ fI T v0 8 ∧ (fI T v0 9 = 4 → fI S v0 8 < fI T v0 8 ∨ fI S v0 9 = 4)) → Q T) : P_X11_readRoad v0 Q S := by
  have g0 := gr_rf S
  have f0 := fri_rf [(10, 3), (11, 8), (11, 9), (11, 10), (11, 11), (11, 12), (11, 13), (11, 14)] [] S
  obtain ⟨kv1, d_kv1⟩ : ∃ z : Int32, z = fI S v0 8 := ⟨_, rfl⟩
  have r_kv1 : (0 : Int32) ≤ kv1 ∧ kv1 ≤ (900 : Int32) := by rw [d_kv1]; exact nu 25 rfl hI o_v0
  obtain ⟨iv2, hiv2⟩ : ∃ z : Int32, z = kv1 := ⟨_, rfl⟩
  have di_8 := hiv2.trans d_kv1
  obtain ⟨kv3, d_kv3⟩ : ∃ z : Int32, z = fI S v0 9 := ⟨_, rfl⟩
  obtain ⟨iv4, hiv4⟩ : ∃ z : Int32, z = kv3 := ⟨_, rfl⟩
  have di_9 := hiv4.trans d_kv3
  obtain ⟨kv5, d_kv5⟩ : ∃ z : Int32, z = fI S v0 13 := ⟨_, rfl⟩
  obtain ⟨iv6, hiv6⟩ : ∃ z : Int32, z = kv5 := ⟨_, rfl⟩
  have di_13 := hiv6.trans d_kv5
  have hO : iv4 = 5 → 0 < iv6 := by rw [di_9, di_13]; exact hO
  obtain ⟨a7, ea7, o_a7, -⟩ := id hG
  obtain ⟨kv8, d_kv8⟩ : ∃ z : Int32, z = fI S a7 6 := ⟨_, rfl⟩
  have r_kv8 : (0 : Int32) ≤ kv8 ∧ kv8 ≤ (12 : Int32) := by rw [d_kv8]; exact nu 22 rfl hI o_a7
  obtain ⟨kv9, d_kv9⟩ : ∃ z : Int32, z = fI S a7 2 := ⟨_, rfl⟩
  have r_kv9 : (0 : Int32) ≤ kv9 ∧ kv9 ≤ (8 : Int32) := by rw [d_kv9]; exact nu 18 rfl hI o_a7
  obtain ⟨kv10, d_kv10⟩ : ∃ z : Int32, z = fI S a7 4 := ⟨_, rfl⟩
  have r_kv10 : (0 : Int32) ≤ kv10 ∧ kv10 ≤ (4 : Int32) := by rw [d_kv10]; exact nu 20 rfl hI o_a7
  have hnf : kv8 = kv9 + kv10 := by rw [d_kv8, d_kv9, d_kv10]; exact hn _ ea7
  refine u_X11_readRoad ?_
  refine u_X11_readRoad_0 ?_
  refine ⟨o_v0, ?_⟩
  refine ⟨a7, ea7, ?_⟩
  refine ⟨o_a7, ?_⟩
  intro x12 ex12
  have r_x12 : (0 : Int32) ≤ x12 ∧ x12 ≤ (12 : Int32) := by rw [ex12]; exact nu 19 rfl hI o_a7
  have d_x12 := ex12
  have do12_kv1 := d_kv1
  have do12_kv3 := d_kv3
  have do12_kv5 := d_kv5
  refine m_X11_begins hI o_v0 hG (by have t : kv3 = 5 → 0 < kv5 := (qr1 hiv4 hiv6 hO); rw [d_kv3, d_kv5] at t; exact t) (fun S14 hJ g15 fc16 p_S14 => ?_)
  obtain ⟨hG, pg0_S14, pg1_S14, pg2_S14, pg3_S14⟩ := p_S14
  have hn := rn_fr fc16 g15 hI o_v0 (by decide) hn
  have hI := hJ
  have d_kv8 := d_kv8.trans (fri_at fc16 (by decide) (by decide) o_a7).symm
  have d_kv9 := d_kv9.trans (fri_at fc16 (by decide) (by decide) o_a7).symm
  have d_kv10 := d_kv10.trans (fri_at fc16 (by decide) (by decide) o_a7).symm
  have d_x12 := d_x12.trans (fri_at fc16 (by decide) (by decide) o_a7).symm
  have ea7 := (frr_at fc16 (by decide) (by decide) o_v0).trans ea7
  have f0 := fri_tr (S := S) g0 f0 fc16 (by decide) (by decide)
  have o_a7 := gr_ob g15 o_a7
  have o_v0 := gr_ob g15 o_v0
  have g0 := gr_tr (T := S) g0 g15
  obtain ⟨kv17, d_kv17⟩ : ∃ z : Int32, z = fI S14 v0 9 := ⟨_, rfl⟩
  obtain ⟨kv18, d_kv18⟩ : ∃ z : Int32, z = fI S14 v0 13 := ⟨_, rfl⟩
  have ph0_S14 : kv17 = 5 → 0 < kv18 := by rw [d_kv17, d_kv18]; exact pg0_S14
  have ph1_S14 : kv17 = 5 ∨ ¬ kv3 = 5 := by rw [do12_kv3, d_kv17]; exact pg1_S14
  obtain ⟨kv19, d_kv19⟩ : ∃ z : Int32, z = fI S14 v0 8 := ⟨_, rfl⟩
  have r_kv19 : (0 : Int32) ≤ kv19 ∧ kv19 ≤ (900 : Int32) := by rw [d_kv19]; exact nu 25 rfl hI o_v0
  have ph2_S14 : kv1 ≤ kv19 ∧ (kv17 = 4 → kv1 < kv19 ∨ kv3 = 4) := by rw [do12_kv1, do12_kv3, d_kv19, d_kv17]; exact pg2_S14
  have ph3_S14 : kv17 = 5 ∨ ¬ x12 = (12 : Int32) := by rw [d_kv17]; exact pg3_S14
  intro _
  obtain ⟨iv20, hiv20⟩ : ∃ z : Int32, z = kv19 := ⟨_, rfl⟩
  have d_iv20 := hiv20.trans d_kv19
  have do20_iv20 := d_iv20
  have do20_kv17 := d_kv17
  have do20_kv18 := d_kv18
  refine m_X11_known hI o_v0 (qr359) hG hn (by have t : kv17 = 5 → 0 < kv18 := (qr360 hiv4 hiv6 hO r_x12 ph0_S14 ph1_S14 ph3_S14); rw [d_kv17, d_kv18] at t; exact t) (fun x21 S22 hJ g23 fc24 p_x21 => ?_)
  obtain ⟨hG, hn, p_x21, pg0_S22, pg1_S22, pg2_S22⟩ := p_x21
  have hI := hJ
  have d_kv8 := d_kv8.trans (fri_at fc24 (by decide) (by decide) o_a7).symm
  have d_kv9 := d_kv9.trans (fri_at fc24 (by decide) (by decide) o_a7).symm
  have d_kv10 := d_kv10.trans (fri_at fc24 (by decide) (by decide) o_a7).symm
  have d_x12 := d_x12.trans (fri_at fc24 (by decide) (by decide) o_a7).symm
  have d_kv19 := d_kv19.trans (fri_at fc24 (by decide) (by decide) o_v0).symm
  have ea7 := (frr_at fc24 (by decide) (by decide) o_v0).trans ea7
  have f0 := fri_tr (S := S14) g0 f0 fc24 (by decide) (by decide)
  have o_a7 := gr_ob g23 o_a7
  have o_v0 := gr_ob g23 o_v0
  have g0 := gr_tr (T := S14) g0 g23
  obtain ⟨kv25, d_kv25⟩ : ∃ z : Int32, z = fI S22 v0 9 := ⟨_, rfl⟩
  obtain ⟨kv26, d_kv26⟩ : ∃ z : Int32, z = fI S22 v0 13 := ⟨_, rfl⟩
  have ph0_S22 : kv25 = 5 → 0 < kv26 := by rw [d_kv25, d_kv26]; exact pg0_S22
  have ph1_S22 : kv25 = 5 ∨ ¬ kv17 = 5 := by rw [do20_kv17, d_kv25]; exact pg1_S22
  have mo27 : kv25 = 5 ∨ ¬ kv3 = 5 := ph1_S22.elim Or.inl (fun h => Or.inr (ph1_S14.resolve_left h))
  have mo28 : kv25 = 5 ∨ ¬ x12 = (12 : Int32) := ph1_S22.elim Or.inl (fun h => Or.inr (ph3_S14.resolve_left h))
  have ph2_S22 : iv20 ≤ kv19 ∧ (kv25 = 4 → iv20 < kv19 ∨ kv17 = 4) := by rw [do20_iv20, do20_kv17, d_kv19, d_kv25]; exact pg2_S22
  intro _
  have kk_x21 : kv25 = 5 ∨ (0 ≤ x21 ∧ x21 < kv9) := by rw [d_kv25, d_kv9]; exact kr0 p_x21 ea7
  obtain ⟨iv29, hiv29⟩ : ∃ z : Int32, z = kv26 := ⟨_, rfl⟩
  have d_iv29 := hiv29.trans d_kv26
  have do29_kv19 := d_kv19
  have do29_kv25 := d_kv25
  have do29_iv29 := d_iv29
  refine m_X11_goesOn hI o_v0 hG (by have t : kv25 = 5 → 0 < kv26 := (qr361 hiv4 hiv6 hO r_kv8 r_kv9 r_kv10 hnf r_x12 ph0_S14 mo27 mo28 ph0_S22 ph1_S22 kk_x21); rw [d_kv25, d_kv26] at t; exact t) (fun S31 hJ g32 fc33 p_S31 => ?_)
  obtain ⟨hG, pg0_S31, pg1_S31, pg2_S31⟩ := p_S31
  have hn := rn_fr fc33 g32 hI o_v0 (by decide) hn
  have hI := hJ
  have d_kv8 := d_kv8.trans (fri_at fc33 (by decide) (by decide) o_a7).symm
  have d_kv9 := d_kv9.trans (fri_at fc33 (by decide) (by decide) o_a7).symm
  have d_kv10 := d_kv10.trans (fri_at fc33 (by decide) (by decide) o_a7).symm
  have d_x12 := d_x12.trans (fri_at fc33 (by decide) (by decide) o_a7).symm
  have d_kv26 := d_kv26.trans (fri_at fc33 (by decide) (by decide) o_v0).symm
  have ea7 := (frr_at fc33 (by decide) (by decide) o_v0).trans ea7
  have f0 := fri_tr (S := S22) g0 f0 fc33 (by decide) (by decide)
  have o_a7 := gr_ob g32 o_a7
  have o_v0 := gr_ob g32 o_v0
  have g0 := gr_tr (T := S22) g0 g32
  obtain ⟨kv34, d_kv34⟩ : ∃ z : Int32, z = fI S31 v0 9 := ⟨_, rfl⟩
  have ph0_S31 : kv34 = 5 → 0 < kv26 := by rw [d_kv34, d_kv26]; exact pg0_S31
  have ph1_S31 : kv34 = 5 ∨ ¬ kv25 = 5 := by rw [do29_kv25, d_kv34]; exact pg1_S31
  have mo35 : kv34 = 5 ∨ ¬ kv3 = 5 := ph1_S31.elim Or.inl (fun h => Or.inr (mo27.resolve_left h))
  have mo36 : kv34 = 5 ∨ ¬ x12 = (12 : Int32) := ph1_S31.elim Or.inl (fun h => Or.inr (mo28.resolve_left h))
  have mo37 : kv34 = 5 ∨ ¬ kv17 = 5 := ph1_S31.elim Or.inl (fun h => Or.inr (ph1_S22.resolve_left h))
  have mo38 : kv34 = 5 ∨ (0 ≤ x21 ∧ x21 < kv9) := ph1_S31.elim Or.inl (fun h => Or.inr (kk_x21.resolve_left h))
  obtain ⟨kv39, d_kv39⟩ : ∃ z : Int32, z = fI S31 v0 8 := ⟨_, rfl⟩
  have r_kv39 : (0 : Int32) ≤ kv39 ∧ kv39 ≤ (900 : Int32) := by rw [d_kv39]; exact nu 25 rfl hI o_v0
  have ph2_S31 : kv19 ≤ kv39 ∧ (kv34 = 4 → kv19 < kv39 ∨ kv25 = 4) := by rw [do29_kv19, do29_kv25, d_kv39, d_kv34]; exact pg2_S31
  intro _
  have do39_kv39 := d_kv39
  have do39_kv34 := d_kv34
  have do39_kv26 := d_kv26
  refine m_X11_readSide hI o_v0 hG (by have t : kv34 = 5 → 0 < kv26 := (qr362 hiv4 hiv6 hO r_kv8 r_kv9 r_kv10 hnf r_x12 ph0_S14 mo35 mo36 ph0_S22 mo37 mo38 hiv29 ph0_S31 ph1_S31); rw [d_kv34, d_kv26] at t; exact t) (fun x40 S41 hJ g42 fc43 p_x40 => ?_)
  obtain ⟨hG, pg0_S41, pg1_S41, pg2_S41⟩ := p_x40
  have hn := rn_fr fc43 g42 hI o_v0 (by decide) hn
  have hI := hJ
  have d_kv8 := d_kv8.trans (fri_at fc43 (by decide) (by decide) o_a7).symm
  have d_kv9 := d_kv9.trans (fri_at fc43 (by decide) (by decide) o_a7).symm
  have d_kv10 := d_kv10.trans (fri_at fc43 (by decide) (by decide) o_a7).symm
  have d_x12 := d_x12.trans (fri_at fc43 (by decide) (by decide) o_a7).symm
  have ea7 := (frr_at fc43 (by decide) (by decide) o_v0).trans ea7
  have f0 := fri_tr (S := S31) g0 f0 fc43 (by decide) (by decide)
  have o_a7 := gr_ob g42 o_a7
  have o_v0 := gr_ob g42 o_v0
  have g0 := gr_tr (T := S31) g0 g42
  obtain ⟨kv44, d_kv44⟩ : ∃ z : Int32, z = fI S41 v0 9 := ⟨_, rfl⟩
  obtain ⟨kv45, d_kv45⟩ : ∃ z : Int32, z = fI S41 v0 13 := ⟨_, rfl⟩
  have ph0_S41 : kv44 = 5 → 0 < kv45 := by rw [d_kv44, d_kv45]; exact pg0_S41
  have ph1_S41 : kv44 = 5 ∨ ¬ kv34 = 5 := by rw [do39_kv34, d_kv44]; exact pg1_S41
  have mo46 : kv44 = 5 ∨ ¬ kv3 = 5 := ph1_S41.elim Or.inl (fun h => Or.inr (mo35.resolve_left h))
  have mo47 : kv44 = 5 ∨ ¬ x12 = (12 : Int32) := ph1_S41.elim Or.inl (fun h => Or.inr (mo36.resolve_left h))
  have mo48 : kv44 = 5 ∨ ¬ kv17 = 5 := ph1_S41.elim Or.inl (fun h => Or.inr (mo37.resolve_left h))
  have mo49 : kv44 = 5 ∨ (0 ≤ x21 ∧ x21 < kv9) := ph1_S41.elim Or.inl (fun h => Or.inr (mo38.resolve_left h))
  have mo50 : kv44 = 5 ∨ ¬ kv25 = 5 := ph1_S41.elim Or.inl (fun h => Or.inr (ph1_S31.resolve_left h))
  obtain ⟨kv51, d_kv51⟩ : ∃ z : Int32, z = fI S41 v0 8 := ⟨_, rfl⟩
  have r_kv51 : (0 : Int32) ≤ kv51 ∧ kv51 ≤ (900 : Int32) := by rw [d_kv51]; exact nu 25 rfl hI o_v0
  have ph2_S41 : kv39 ≤ kv51 ∧ (kv44 = 4 → kv39 < kv51 ∨ kv34 = 4) := by rw [do39_kv39, do39_kv34, d_kv51, d_kv44]; exact pg2_S41
  intro _
  have do51_kv51 := d_kv51
  have do51_kv44 := d_kv44
  have do51_kv45 := d_kv45
  refine m_X11_readWhole hI o_v0 hG (by have t : kv44 = 5 → 0 < kv45 := (qr363 hiv4 hiv6 hO r_kv8 r_kv9 r_kv10 hnf r_x12 ph0_S14 mo46 mo47 ph0_S22 mo48 mo49 hiv29 ph0_S31 mo50 ph0_S41 ph1_S41); rw [d_kv44, d_kv45] at t; exact t) (fun x52 S53 hJ g54 fc55 p_x52 => ?_)
  obtain ⟨hG, p_x52, pg0_S53, pg1_S53, pg2_S53⟩ := p_x52
  have hn := rn_fr fc55 g54 hI o_v0 (by decide) hn
  have hI := hJ
  have d_kv8 := d_kv8.trans (fri_at fc55 (by decide) (by decide) o_a7).symm
  have d_kv9 := d_kv9.trans (fri_at fc55 (by decide) (by decide) o_a7).symm
  have d_kv10 := d_kv10.trans (fri_at fc55 (by decide) (by decide) o_a7).symm
  have d_x12 := d_x12.trans (fri_at fc55 (by decide) (by decide) o_a7).symm
  have ea7 := (frr_at fc55 (by decide) (by decide) o_v0).trans ea7
  have f0 := fri_tr (S := S41) g0 f0 fc55 (by decide) (by decide)
  have o_a7 := gr_ob g54 o_a7
  have o_v0 := gr_ob g54 o_v0
  have g0 := gr_tr (T := S41) g0 g54
  obtain ⟨kv56, d_kv56⟩ : ∃ z : Int32, z = fI S53 v0 9 := ⟨_, rfl⟩
  obtain ⟨kv57, d_kv57⟩ : ∃ z : Int32, z = fI S53 v0 13 := ⟨_, rfl⟩
  have ph0_S53 : kv56 = 5 → 0 < kv57 := by rw [d_kv56, d_kv57]; exact pg0_S53
  have ph1_S53 : kv56 = 5 ∨ ¬ kv44 = 5 := by rw [do51_kv44, d_kv56]; exact pg1_S53
  have mo58 : kv56 = 5 ∨ ¬ kv3 = 5 := ph1_S53.elim Or.inl (fun h => Or.inr (mo46.resolve_left h))
  have mo59 : kv56 = 5 ∨ ¬ x12 = (12 : Int32) := ph1_S53.elim Or.inl (fun h => Or.inr (mo47.resolve_left h))
  have mo60 : kv56 = 5 ∨ ¬ kv17 = 5 := ph1_S53.elim Or.inl (fun h => Or.inr (mo48.resolve_left h))
  have mo61 : kv56 = 5 ∨ (0 ≤ x21 ∧ x21 < kv9) := ph1_S53.elim Or.inl (fun h => Or.inr (mo49.resolve_left h))
  have mo62 : kv56 = 5 ∨ ¬ kv25 = 5 := ph1_S53.elim Or.inl (fun h => Or.inr (mo50.resolve_left h))
  have mo63 : kv56 = 5 ∨ ¬ kv34 = 5 := ph1_S53.elim Or.inl (fun h => Or.inr (ph1_S41.resolve_left h))
  obtain ⟨kv64, d_kv64⟩ : ∃ z : Int32, z = fI S53 v0 8 := ⟨_, rfl⟩
  have r_kv64 : (0 : Int32) ≤ kv64 ∧ kv64 ≤ (900 : Int32) := by rw [d_kv64]; exact nu 25 rfl hI o_v0
  have ph2_S53 : kv51 ≤ kv64 ∧ (kv56 = 4 → kv51 < kv64 ∨ kv44 = 4) := by rw [do51_kv51, do51_kv44, d_kv64, d_kv56]; exact pg2_S53
  intro _
  obtain ⟨iv65, hiv65⟩ : ∃ z : Int32, z = kv64 := ⟨_, rfl⟩
  have d_iv65 := hiv65.trans d_kv64
  have do65_iv65 := d_iv65
  have do65_kv56 := d_kv56
  have do65_kv57 := d_kv57
  refine m_X11_known hI o_v0 (qr359) hG hn (by have t : kv56 = 5 → 0 < kv57 := (qr364 hiv4 hiv6 hO r_kv8 r_kv9 r_kv10 hnf r_x12 ph0_S14 mo58 mo59 ph0_S22 mo60 mo61 hiv29 ph0_S31 mo62 ph0_S41 mo63 ph0_S53 ph1_S53); rw [d_kv56, d_kv57] at t; exact t) (fun x66 S67 hJ g68 fc69 p_x66 => ?_)
  obtain ⟨hG, hn, p_x66, pg0_S67, pg1_S67, pg2_S67⟩ := p_x66
  have hI := hJ
  have d_kv8 := d_kv8.trans (fri_at fc69 (by decide) (by decide) o_a7).symm
  have d_kv9 := d_kv9.trans (fri_at fc69 (by decide) (by decide) o_a7).symm
  have d_kv10 := d_kv10.trans (fri_at fc69 (by decide) (by decide) o_a7).symm
  have d_x12 := d_x12.trans (fri_at fc69 (by decide) (by decide) o_a7).symm
  have d_kv64 := d_kv64.trans (fri_at fc69 (by decide) (by decide) o_v0).symm
  have ea7 := (frr_at fc69 (by decide) (by decide) o_v0).trans ea7
  have f0 := fri_tr (S := S53) g0 f0 fc69 (by decide) (by decide)
  have o_a7 := gr_ob g68 o_a7
  have o_v0 := gr_ob g68 o_v0
  have g0 := gr_tr (T := S53) g0 g68
  obtain ⟨kv70, d_kv70⟩ : ∃ z : Int32, z = fI S67 v0 9 := ⟨_, rfl⟩
  obtain ⟨kv71, d_kv71⟩ : ∃ z : Int32, z = fI S67 v0 13 := ⟨_, rfl⟩
  have ph0_S67 : kv70 = 5 → 0 < kv71 := by rw [d_kv70, d_kv71]; exact pg0_S67
  have ph1_S67 : kv70 = 5 ∨ ¬ kv56 = 5 := by rw [do65_kv56, d_kv70]; exact pg1_S67
  have mo72 : kv70 = 5 ∨ ¬ kv3 = 5 := ph1_S67.elim Or.inl (fun h => Or.inr (mo58.resolve_left h))
  have mo73 : kv70 = 5 ∨ ¬ x12 = (12 : Int32) := ph1_S67.elim Or.inl (fun h => Or.inr (mo59.resolve_left h))
  have mo74 : kv70 = 5 ∨ ¬ kv17 = 5 := ph1_S67.elim Or.inl (fun h => Or.inr (mo60.resolve_left h))
  have mo75 : kv70 = 5 ∨ (0 ≤ x21 ∧ x21 < kv9) := ph1_S67.elim Or.inl (fun h => Or.inr (mo61.resolve_left h))
  have mo76 : kv70 = 5 ∨ ¬ kv25 = 5 := ph1_S67.elim Or.inl (fun h => Or.inr (mo62.resolve_left h))
  have mo77 : kv70 = 5 ∨ ¬ kv34 = 5 := ph1_S67.elim Or.inl (fun h => Or.inr (mo63.resolve_left h))
  have mo78 : kv70 = 5 ∨ ¬ kv44 = 5 := ph1_S67.elim Or.inl (fun h => Or.inr (ph1_S53.resolve_left h))
  have ph2_S67 : iv65 ≤ kv64 ∧ (kv70 = 4 → iv65 < kv64 ∨ kv56 = 4) := by rw [do65_iv65, do65_kv56, d_kv64, d_kv70]; exact pg2_S67
  intro _
  have kk_x66 : kv70 = 5 ∨ (0 ≤ x66 ∧ x66 < kv9) := by rw [d_kv70, d_kv9]; exact kr0 p_x66 ea7
  intro x79 ex79
  have q_x79 : x79 = kv70 := ex79.trans d_kv70.symm
  have mo80 : x79 = 5 ∨ ¬ kv3 = 5 := mo72.imp_left (fun z => q_x79.trans z)
  have mo81 : x79 = 5 ∨ ¬ x12 = (12 : Int32) := mo73.imp_left (fun z => q_x79.trans z)
  have mo82 : x79 = 5 ∨ ¬ kv17 = 5 := mo74.imp_left (fun z => q_x79.trans z)
  have mo83 : x79 = 5 ∨ (0 ≤ x21 ∧ x21 < kv9) := mo75.imp_left (fun z => q_x79.trans z)
  have mo84 : x79 = 5 ∨ ¬ kv25 = 5 := mo76.imp_left (fun z => q_x79.trans z)
  have mo85 : x79 = 5 ∨ ¬ kv34 = 5 := mo77.imp_left (fun z => q_x79.trans z)
  have mo86 : x79 = 5 ∨ ¬ kv44 = 5 := mo78.imp_left (fun z => q_x79.trans z)
  have mo87 : x79 = 5 ∨ ¬ kv56 = 5 := ph1_S67.imp_left (fun z => q_x79.trans z)
  have mo88 : x79 = 5 ∨ (0 ≤ x66 ∧ x66 < kv9) := kk_x66.imp_left (fun z => q_x79.trans z)
  have d_x79 := ex79
  refine ⟨fun c89 => ?_, fun c89 => ?_⟩
  · refine u_X11_readRoad_62 ?_
    refine ⟨o_v0, ?_⟩
    obtain ⟨iv90, hiv90⟩ : ∃ z : Int32, z = kv71 := ⟨_, rfl⟩
    have d_iv90 := hiv90.trans d_kv71
    have do90_kv64 := d_kv64
    have do90_x79 := d_x79
    have do90_iv90 := d_iv90
    refine m_X11_goesOn hI o_v0 hG (by have t : x79 = 5 → 0 < kv71 := (qr365 hiv4 hiv6 hO r_kv8 r_kv9 r_kv10 hnf r_x12 ph0_S14 mo80 mo81 ph0_S22 mo82 mo83 hiv29 ph0_S31 mo84 ph0_S41 mo85 ph0_S53 mo86 ph0_S67 mo87 mo88 q_x79 c89); rw [d_x79, d_kv71] at t; exact t) (fun S92 hJ g93 fc94 p_S92 => ?_)
    obtain ⟨hG, pg0_S92, pg1_S92, pg2_S92⟩ := p_S92
    have hn := rn_fr fc94 g93 hI o_v0 (by decide) hn
    have hI := hJ
    have d_kv8 := d_kv8.trans (fri_at fc94 (by decide) (by decide) o_a7).symm
    have d_kv9 := d_kv9.trans (fri_at fc94 (by decide) (by decide) o_a7).symm
    have d_kv10 := d_kv10.trans (fri_at fc94 (by decide) (by decide) o_a7).symm
    have d_x12 := d_x12.trans (fri_at fc94 (by decide) (by decide) o_a7).symm
    have d_kv71 := d_kv71.trans (fri_at fc94 (by decide) (by decide) o_v0).symm
    have ea7 := (frr_at fc94 (by decide) (by decide) o_v0).trans ea7
    have f0 := fri_tr (S := S67) g0 f0 fc94 (by decide) (by decide)
    have o_a7 := gr_ob g93 o_a7
    have o_v0 := gr_ob g93 o_v0
    have g0 := gr_tr (T := S67) g0 g93
    obtain ⟨kv95, d_kv95⟩ : ∃ z : Int32, z = fI S92 v0 9 := ⟨_, rfl⟩
    have ph0_S92 : kv95 = 5 → 0 < kv71 := by rw [d_kv95, d_kv71]; exact pg0_S92
    have ph1_S92 : kv95 = 5 ∨ ¬ x79 = 5 := by rw [do90_x79, d_kv95]; exact pg1_S92
    have mo96 : kv95 = 5 ∨ ¬ kv3 = 5 := ph1_S92.elim Or.inl (fun h => Or.inr (mo80.resolve_left h))
    have mo97 : kv95 = 5 ∨ ¬ x12 = (12 : Int32) := ph1_S92.elim Or.inl (fun h => Or.inr (mo81.resolve_left h))
    have mo98 : kv95 = 5 ∨ ¬ kv17 = 5 := ph1_S92.elim Or.inl (fun h => Or.inr (mo82.resolve_left h))
    have mo99 : kv95 = 5 ∨ (0 ≤ x21 ∧ x21 < kv9) := ph1_S92.elim Or.inl (fun h => Or.inr (mo83.resolve_left h))
    have mo100 : kv95 = 5 ∨ ¬ kv25 = 5 := ph1_S92.elim Or.inl (fun h => Or.inr (mo84.resolve_left h))
    have mo101 : kv95 = 5 ∨ ¬ kv34 = 5 := ph1_S92.elim Or.inl (fun h => Or.inr (mo85.resolve_left h))
    have mo102 : kv95 = 5 ∨ ¬ kv44 = 5 := ph1_S92.elim Or.inl (fun h => Or.inr (mo86.resolve_left h))
    have mo103 : kv95 = 5 ∨ ¬ kv56 = 5 := ph1_S92.elim Or.inl (fun h => Or.inr (mo87.resolve_left h))
    have mo104 : kv95 = 5 ∨ (0 ≤ x66 ∧ x66 < kv9) := ph1_S92.elim Or.inl (fun h => Or.inr (mo88.resolve_left h))
    obtain ⟨kv105, d_kv105⟩ : ∃ z : Int32, z = fI S92 v0 8 := ⟨_, rfl⟩
    have r_kv105 : (0 : Int32) ≤ kv105 ∧ kv105 ≤ (900 : Int32) := by rw [d_kv105]; exact nu 25 rfl hI o_v0
    have ph2_S92 : kv64 ≤ kv105 ∧ (kv95 = 4 → kv64 < kv105 ∨ x79 = 4) := by rw [do90_kv64, do90_x79, d_kv105, d_kv95]; exact pg2_S92
    intro _
    obtain ⟨iv106, hiv106⟩ : ∃ z : Int32, z = kv71 := ⟨_, rfl⟩
    have d_iv106 := hiv106.trans d_kv71
    have do106_kv105 := d_kv105
    have do106_kv95 := d_kv95
    have do106_iv106 := d_iv106
    refine m_X11_eatsWord hI o_v0 (by decide) hG (by have t : kv95 = 5 → 0 < kv71 := (qr366 hiv4 hiv6 hO r_kv8 r_kv9 r_kv10 hnf r_x12 ph0_S14 mo96 mo97 ph0_S22 mo98 mo99 hiv29 ph0_S31 mo100 ph0_S41 mo101 ph0_S53 mo102 ph0_S67 mo103 mo104 q_x79 c89 hiv90 ph0_S92 ph1_S92); rw [d_kv95, d_kv71] at t; exact t) (fun x107 S108 hJ g109 fc110 b_x107 p_x107 => ?_)
    obtain ⟨hG, pg0_S108, pg1_S108, pg2_S108⟩ := p_x107
    have hn := rn_fr fc110 g109 hI o_v0 (by decide) hn
    have hI := hJ
    have d_kv8 := d_kv8.trans (fri_at fc110 (by decide) (by decide) o_a7).symm
    have d_kv9 := d_kv9.trans (fri_at fc110 (by decide) (by decide) o_a7).symm
    have d_kv10 := d_kv10.trans (fri_at fc110 (by decide) (by decide) o_a7).symm
    have d_x12 := d_x12.trans (fri_at fc110 (by decide) (by decide) o_a7).symm
    have d_kv71 := d_kv71.trans (fri_at fc110 (by decide) (by decide) o_v0).symm
    have ea7 := (frr_at fc110 (by decide) (by decide) o_v0).trans ea7
    have f0 := fri_tr (S := S92) g0 f0 fc110 (by decide) (by decide)
    have o_a7 := gr_ob g109 o_a7
    have o_v0 := gr_ob g109 o_v0
    have g0 := gr_tr (T := S92) g0 g109
    obtain ⟨kv111, d_kv111⟩ : ∃ z : Int32, z = fI S108 v0 9 := ⟨_, rfl⟩
    have ph0_S108 : kv111 = 5 → 0 < kv71 := by rw [d_kv111, d_kv71]; exact pg0_S108
    have ph1_S108 : kv111 = 5 ∨ ¬ kv95 = 5 := by rw [do106_kv95, d_kv111]; exact pg1_S108
    have mo112 : kv111 = 5 ∨ ¬ kv3 = 5 := ph1_S108.elim Or.inl (fun h => Or.inr (mo96.resolve_left h))
    have mo113 : kv111 = 5 ∨ ¬ x12 = (12 : Int32) := ph1_S108.elim Or.inl (fun h => Or.inr (mo97.resolve_left h))
    have mo114 : kv111 = 5 ∨ ¬ kv17 = 5 := ph1_S108.elim Or.inl (fun h => Or.inr (mo98.resolve_left h))
    have mo115 : kv111 = 5 ∨ (0 ≤ x21 ∧ x21 < kv9) := ph1_S108.elim Or.inl (fun h => Or.inr (mo99.resolve_left h))
    have mo116 : kv111 = 5 ∨ ¬ kv25 = 5 := ph1_S108.elim Or.inl (fun h => Or.inr (mo100.resolve_left h))
    have mo117 : kv111 = 5 ∨ ¬ kv34 = 5 := ph1_S108.elim Or.inl (fun h => Or.inr (mo101.resolve_left h))
    have mo118 : kv111 = 5 ∨ ¬ kv44 = 5 := ph1_S108.elim Or.inl (fun h => Or.inr (mo102.resolve_left h))
    have mo119 : kv111 = 5 ∨ ¬ kv56 = 5 := ph1_S108.elim Or.inl (fun h => Or.inr (mo103.resolve_left h))
    have mo120 : kv111 = 5 ∨ (0 ≤ x66 ∧ x66 < kv9) := ph1_S108.elim Or.inl (fun h => Or.inr (mo104.resolve_left h))
    have mo121 : kv111 = 5 ∨ ¬ x79 = 5 := ph1_S108.elim Or.inl (fun h => Or.inr (ph1_S92.resolve_left h))
    obtain ⟨kv122, d_kv122⟩ : ∃ z : Int32, z = fI S108 v0 8 := ⟨_, rfl⟩
    have r_kv122 : (0 : Int32) ≤ kv122 ∧ kv122 ≤ (900 : Int32) := by rw [d_kv122]; exact nu 25 rfl hI o_v0
    have ph2_S108 : kv105 ≤ kv122 ∧ (kv111 = 4 → kv105 < kv122 ∨ kv95 = 4) := by rw [do106_kv105, do106_kv95, d_kv122, d_kv111]; exact pg2_S108
    intro _ _
    have bb_x107 : x107 = 0 ∨ x107 = 1 := b_x107
    refine ⟨fun c123 => ?_, fun c123 => ?_⟩
    · refine u_X11_readRoad_85 ?_
      refine ⟨o_v0, ?_⟩
      intro x124 ex124
      have q_x124 : x124 = kv111 := ex124.trans d_kv111.symm
      have mo125 : x124 = 5 ∨ ¬ kv3 = 5 := mo112.imp_left (fun z => q_x124.trans z)
      have mo126 : x124 = 5 ∨ ¬ x12 = (12 : Int32) := mo113.imp_left (fun z => q_x124.trans z)
      have mo127 : x124 = 5 ∨ ¬ kv17 = 5 := mo114.imp_left (fun z => q_x124.trans z)
      have mo128 : x124 = 5 ∨ (0 ≤ x21 ∧ x21 < kv9) := mo115.imp_left (fun z => q_x124.trans z)
      have mo129 : x124 = 5 ∨ ¬ kv25 = 5 := mo116.imp_left (fun z => q_x124.trans z)
      have mo130 : x124 = 5 ∨ ¬ kv34 = 5 := mo117.imp_left (fun z => q_x124.trans z)
      have mo131 : x124 = 5 ∨ ¬ kv44 = 5 := mo118.imp_left (fun z => q_x124.trans z)
      have mo132 : x124 = 5 ∨ ¬ kv56 = 5 := mo119.imp_left (fun z => q_x124.trans z)
      have mo133 : x124 = 5 ∨ (0 ≤ x66 ∧ x66 < kv9) := mo120.imp_left (fun z => q_x124.trans z)
      have mo134 : x124 = 5 ∨ ¬ x79 = 5 := mo121.imp_left (fun z => q_x124.trans z)
      have mo135 : x124 = 5 ∨ ¬ kv95 = 5 := ph1_S108.imp_left (fun z => q_x124.trans z)
      have d_x124 := ex124
      refine ⟨fun c136 => ?_, fun c136 => ?_⟩
      · refine ⟨a7, ea7, ?_⟩
        refine ⟨o_a7, ?_⟩
        intro x138 ex138
        have r_x138 : (0 : Int32) ≤ x138 ∧ x138 ≤ (12 : Int32) := by rw [ex138]; exact nu 19 rfl hI o_a7
        have q_x138 : x138 = x12 := ex138.trans d_x12.symm
        have d_x138 := ex138
        refine ⟨a7, ea7, ?_⟩
        refine ⟨o_a7, ?_⟩
        obtain ⟨a140, ea140, o_a140, l_a140⟩ := shl 35 rfl hI o_a7
        refine ⟨a140, ea140, ?_⟩
        refine ⟨o_a140, ?_⟩
        have i141 : vp_in x138 (hN _ a140) := (vin l_a140 (m := 12) (by decide) (qr367 hiv4 r_kv8 r_kv9 r_kv10 hnf r_x12 mo125 mo126 mo127 mo128 mo129 mo130 mo131 mo132 mo133 q_x79 c89 mo134 mo135 bb_x107 c123 q_x124 c136 r_x138 q_x138))
        refine ⟨i141, ?_⟩
        intro S142 eS142
        have hIn : IV S142 := by rw [eS142]; exact iv10_aI hI o_a7 (rg_nw hG ea7) ea140 o_a140 (by decide)
        have hG := rg_a (jj := 13) (x := x138) eS142 hI ea7 o_a7 ea140 o_a140 (by decide) (h1_one (c := 3) (lo := 0) (hi := 7) (hf := 2) (by decide) d_x138.symm) (h2_no (y := 0) (by decide)) hG
        have hn := rn_11 eS142 hI o_v0 o_a140 (by decide) hn
        have hI := hIn
        have f0 := fr_A eS142 g0 f0 o_a140 (by decide)
        have d_kv8 := rd_Ik eS142 o_a140 o_a7 (by decide) d_kv8
        have d_kv9 := rd_Ik eS142 o_a140 o_a7 (by decide) d_kv9
        have d_kv10 := rd_Ik eS142 o_a140 o_a7 (by decide) d_kv10
        have d_x138 := rd_Ik eS142 o_a140 o_a7 (by decide) d_x138
        have d_kv71 := rd_Ik eS142 o_a140 o_v0 (by decide) d_kv71
        have d_x124 := rd_Ik eS142 o_a140 o_v0 (by decide) d_x124
        have d_kv122 := rd_Ik eS142 o_a140 o_v0 (by decide) d_kv122
        have ea7 := rf_I eS142 ea7
        have ea140 := rf_I eS142 ea140
        have l_a140 := ln_I eS142 l_a140
        have g0 := gr_I eS142 g0
        have o_a140 := ob_I eS142 o_a140
        have o_a7 := ob_I eS142 o_a7
        have o_v0 := ob_I eS142 o_v0
        have el143 : fI S142 a140 x138.toNatClampNeg = x21 := by rw [eS142]; exact u2_self _ _ _ _
        refine ⟨a7, ea7, ?_⟩
        refine ⟨o_a7, ?_⟩
        obtain ⟨a145, ea145, o_a145, l_a145⟩ := shl 36 rfl hI o_a7
        refine ⟨a145, ea145, ?_⟩
        refine ⟨o_a145, ?_⟩
        have i146 : vp_in x138 (hN _ a145) := (vin l_a145 (m := 12) (by decide) (qr367 hiv4 r_kv8 r_kv9 r_kv10 hnf r_x12 mo125 mo126 mo127 mo128 mo129 mo130 mo131 mo132 mo133 q_x79 c89 mo134 mo135 bb_x107 c123 q_x124 c136 r_x138 q_x138))
        refine ⟨i146, ?_⟩
        intro S147 eS147
        have hIn : IV S147 := by rw [eS147]; exact iv10_aI hI o_a7 (rg_nw hG ea7) ea145 o_a145 (by decide)
        have hG := rg_a (jj := 14) (x := x138) eS147 hI ea7 o_a7 ea145 o_a145 (by decide) (h1_one (c := 3) (lo := 0) (hi := 7) (hf := 2) (by decide) d_x138.symm) (h2_no (y := 0) (by decide)) hG
        have hn := rn_11 eS147 hI o_v0 o_a145 (by decide) hn
        have el143 := el_ar eS147 (ow_ne hI o_a7 (by decide) o_a7 (by decide) ea145 ea140 (by decide)) el143
        have hI := hIn
        have f0 := fr_A eS147 g0 f0 o_a145 (by decide)
        have d_kv8 := rd_Ik eS147 o_a145 o_a7 (by decide) d_kv8
        have d_kv9 := rd_Ik eS147 o_a145 o_a7 (by decide) d_kv9
        have d_kv10 := rd_Ik eS147 o_a145 o_a7 (by decide) d_kv10
        have d_x138 := rd_Ik eS147 o_a145 o_a7 (by decide) d_x138
        have d_kv71 := rd_Ik eS147 o_a145 o_v0 (by decide) d_kv71
        have d_x124 := rd_Ik eS147 o_a145 o_v0 (by decide) d_x124
        have d_kv122 := rd_Ik eS147 o_a145 o_v0 (by decide) d_kv122
        have ea7 := rf_I eS147 ea7
        have ea140 := rf_I eS147 ea140
        have ea145 := rf_I eS147 ea145
        have l_a140 := ln_I eS147 l_a140
        have l_a145 := ln_I eS147 l_a145
        have g0 := gr_I eS147 g0
        have o_a140 := ob_I eS147 o_a140
        have o_a145 := ob_I eS147 o_a145
        have o_a7 := ob_I eS147 o_a7
        have o_v0 := ob_I eS147 o_v0
        have el148 : fI S147 a145 x138.toNatClampNeg = x66 := by rw [eS147]; exact u2_self _ _ _ _
        refine ⟨a7, ea7, ?_⟩
        refine ⟨o_a7, ?_⟩
        obtain ⟨a150, ea150, o_a150, l_a150⟩ := shl 37 rfl hI o_a7
        refine ⟨a150, ea150, ?_⟩
        refine ⟨o_a150, ?_⟩
        have i151 : vp_in x138 (hN _ a150) := (vin l_a150 (m := 12) (by decide) (qr367 hiv4 r_kv8 r_kv9 r_kv10 hnf r_x12 mo125 mo126 mo127 mo128 mo129 mo130 mo131 mo132 mo133 q_x79 c89 mo134 mo135 bb_x107 c123 q_x124 c136 r_x138 q_x138))
        refine ⟨i151, ?_⟩
        intro S152 eS152
        have hIn : IV S152 := by rw [eS152]; exact iv10_aI hI o_a7 (rg_nw hG ea7) ea150 o_a150 (by decide)
        have hG := rg_a (jj := 15) (x := x138) eS152 hI ea7 o_a7 ea150 o_a150 (by decide) (h1_no (by decide)) (h2_no (y := 0) (by decide)) hG
        have hn := rn_11 eS152 hI o_v0 o_a150 (by decide) hn
        have el143 := el_ar eS152 (ow_ne hI o_a7 (by decide) o_a7 (by decide) ea150 ea140 (by decide)) el143
        have el148 := el_ar eS152 (ow_ne hI o_a7 (by decide) o_a7 (by decide) ea150 ea145 (by decide)) el148
        have hI := hIn
        have f0 := fr_A eS152 g0 f0 o_a150 (by decide)
        have d_kv8 := rd_Ik eS152 o_a150 o_a7 (by decide) d_kv8
        have d_kv9 := rd_Ik eS152 o_a150 o_a7 (by decide) d_kv9
        have d_kv10 := rd_Ik eS152 o_a150 o_a7 (by decide) d_kv10
        have d_x138 := rd_Ik eS152 o_a150 o_a7 (by decide) d_x138
        have d_kv71 := rd_Ik eS152 o_a150 o_v0 (by decide) d_kv71
        have d_x124 := rd_Ik eS152 o_a150 o_v0 (by decide) d_x124
        have d_kv122 := rd_Ik eS152 o_a150 o_v0 (by decide) d_kv122
        have ea7 := rf_I eS152 ea7
        have ea140 := rf_I eS152 ea140
        have ea145 := rf_I eS152 ea145
        have ea150 := rf_I eS152 ea150
        have l_a140 := ln_I eS152 l_a140
        have l_a145 := ln_I eS152 l_a145
        have l_a150 := ln_I eS152 l_a150
        have g0 := gr_I eS152 g0
        have o_a140 := ob_I eS152 o_a140
        have o_a145 := ob_I eS152 o_a145
        have o_a150 := ob_I eS152 o_a150
        have o_a7 := ob_I eS152 o_a7
        have o_v0 := ob_I eS152 o_v0
        refine ⟨a7, ea7, ?_⟩
        refine ⟨o_a7, ?_⟩
        obtain ⟨a154, ea154, o_a154, l_a154⟩ := shl 38 rfl hI o_a7
        refine ⟨a154, ea154, ?_⟩
        refine ⟨o_a154, ?_⟩
        have i155 : vp_in x138 (hN _ a154) := (vin l_a154 (m := 12) (by decide) (qr367 hiv4 r_kv8 r_kv9 r_kv10 hnf r_x12 mo125 mo126 mo127 mo128 mo129 mo130 mo131 mo132 mo133 q_x79 c89 mo134 mo135 bb_x107 c123 q_x124 c136 r_x138 q_x138))
        refine ⟨i155, ?_⟩
        intro S156 eS156
        have hIn : IV S156 := by rw [eS156]; exact iv10_aI hI o_a7 (rg_nw hG ea7) ea154 o_a154 (by decide)
        have hG := rg_a (jj := 16) (x := x138) eS156 hI ea7 o_a7 ea154 o_a154 (by decide) (h1_one (c := 3) (lo := 1) (hi := 60) (hf := 99) (by decide) d_x138.symm) (h2_no (y := 0) (by decide)) hG
        have hn := rn_11 eS156 hI o_v0 o_a154 (by decide) hn
        have el143 := el_ar eS156 (ow_ne hI o_a7 (by decide) o_a7 (by decide) ea154 ea140 (by decide)) el143
        have el148 := el_ar eS156 (ow_ne hI o_a7 (by decide) o_a7 (by decide) ea154 ea145 (by decide)) el148
        have hI := hIn
        have f0 := fr_A eS156 g0 f0 o_a154 (by decide)
        have d_kv8 := rd_Ik eS156 o_a154 o_a7 (by decide) d_kv8
        have d_kv9 := rd_Ik eS156 o_a154 o_a7 (by decide) d_kv9
        have d_kv10 := rd_Ik eS156 o_a154 o_a7 (by decide) d_kv10
        have d_x138 := rd_Ik eS156 o_a154 o_a7 (by decide) d_x138
        have d_kv71 := rd_Ik eS156 o_a154 o_v0 (by decide) d_kv71
        have d_x124 := rd_Ik eS156 o_a154 o_v0 (by decide) d_x124
        have d_kv122 := rd_Ik eS156 o_a154 o_v0 (by decide) d_kv122
        have ea7 := rf_I eS156 ea7
        have ea140 := rf_I eS156 ea140
        have ea145 := rf_I eS156 ea145
        have ea150 := rf_I eS156 ea150
        have ea154 := rf_I eS156 ea154
        have l_a140 := ln_I eS156 l_a140
        have l_a145 := ln_I eS156 l_a145
        have l_a150 := ln_I eS156 l_a150
        have l_a154 := ln_I eS156 l_a154
        have g0 := gr_I eS156 g0
        have o_a140 := ob_I eS156 o_a140
        have o_a145 := ob_I eS156 o_a145
        have o_a150 := ob_I eS156 o_a150
        have o_a154 := ob_I eS156 o_a154
        have o_a7 := ob_I eS156 o_a7
        have o_v0 := ob_I eS156 o_v0
        have el157 : fI S156 a154 x138.toNatClampNeg = x52 := by rw [eS156]; exact u2_self _ _ _ _
        refine ⟨a7, ea7, ?_⟩
        refine ⟨o_a7, ?_⟩
        obtain ⟨a159, ea159, o_a159, l_a159⟩ := shl 39 rfl hI o_a7
        refine ⟨a159, ea159, ?_⟩
        refine ⟨o_a159, ?_⟩
        have i160 : vp_in x138 (hN _ a159) := (vin l_a159 (m := 12) (by decide) (qr367 hiv4 r_kv8 r_kv9 r_kv10 hnf r_x12 mo125 mo126 mo127 mo128 mo129 mo130 mo131 mo132 mo133 q_x79 c89 mo134 mo135 bb_x107 c123 q_x124 c136 r_x138 q_x138))
        refine ⟨i160, ?_⟩
        intro S161 eS161
        have hIn : IV S161 := by rw [eS161]; exact iv10_aI hI o_a7 (rg_nw hG ea7) ea159 o_a159 (by decide)
        have hG := rg_a (jj := 17) (x := x138) eS161 hI ea7 o_a7 ea159 o_a159 (by decide) (h1_no (by decide)) (h2_no (y := 0) (by decide)) hG
        have hn := rn_11 eS161 hI o_v0 o_a159 (by decide) hn
        have el143 := el_ar eS161 (ow_ne hI o_a7 (by decide) o_a7 (by decide) ea159 ea140 (by decide)) el143
        have el148 := el_ar eS161 (ow_ne hI o_a7 (by decide) o_a7 (by decide) ea159 ea145 (by decide)) el148
        have el157 := el_ar eS161 (ow_ne hI o_a7 (by decide) o_a7 (by decide) ea159 ea154 (by decide)) el157
        have hI := hIn
        have f0 := fr_A eS161 g0 f0 o_a159 (by decide)
        have d_kv8 := rd_Ik eS161 o_a159 o_a7 (by decide) d_kv8
        have d_kv9 := rd_Ik eS161 o_a159 o_a7 (by decide) d_kv9
        have d_kv10 := rd_Ik eS161 o_a159 o_a7 (by decide) d_kv10
        have d_x138 := rd_Ik eS161 o_a159 o_a7 (by decide) d_x138
        have d_kv71 := rd_Ik eS161 o_a159 o_v0 (by decide) d_kv71
        have d_x124 := rd_Ik eS161 o_a159 o_v0 (by decide) d_x124
        have d_kv122 := rd_Ik eS161 o_a159 o_v0 (by decide) d_kv122
        have ea7 := rf_I eS161 ea7
        have ea140 := rf_I eS161 ea140
        have ea145 := rf_I eS161 ea145
        have ea150 := rf_I eS161 ea150
        have ea154 := rf_I eS161 ea154
        have ea159 := rf_I eS161 ea159
        have l_a140 := ln_I eS161 l_a140
        have l_a145 := ln_I eS161 l_a145
        have l_a150 := ln_I eS161 l_a150
        have l_a154 := ln_I eS161 l_a154
        have l_a159 := ln_I eS161 l_a159
        have g0 := gr_I eS161 g0
        have o_a140 := ob_I eS161 o_a140
        have o_a145 := ob_I eS161 o_a145
        have o_a150 := ob_I eS161 o_a150
        have o_a154 := ob_I eS161 o_a154
        have o_a159 := ob_I eS161 o_a159
        have o_a7 := ob_I eS161 o_a7
        have o_v0 := ob_I eS161 o_v0
        refine ⟨a7, ea7, ?_⟩
        refine ⟨o_a7, ?_⟩
        intro x163 ex163
        have r_x163 : (0 : Int32) ≤ x163 ∧ x163 ≤ (12 : Int32) := by rw [ex163]; exact nu 19 rfl hI o_a7
        have q_x163 : x163 = x138 := ex163.trans d_x138.symm
        have d_x163 := ex163
        intro x164 ex164
        intro S165 eS165
        have hIn : IV S165 := by rw [eS165]; exact iv10_sI hI o_a7 (rg_nw hG ea7) (nu_one (lo := (0 : Int32)) (hi := (12 : Int32)) (by decide) (qr368 hiv4 r_kv8 r_kv9 r_kv10 hnf r_x12 mo125 mo126 mo127 mo128 mo129 mo130 mo131 mo132 mo133 q_x79 c89 mo134 mo135 bb_x107 c123 q_x124 c136 r_x138 q_x138 r_x163 q_x163 ex164))
        have hG := rg_inc (c := 3) (y := x163) eS165 hI ea7 o_a7 d_x163.symm (qr369 hiv4 r_kv8 r_kv9 r_kv10 hnf r_x12 mo125 mo126 mo127 mo128 mo129 mo130 mo131 mo132 mo133 q_x79 c89 mo134 mo135 bb_x107 c123 q_x124 c136 r_x138 q_x138 r_x163 q_x163 ex164) (qr370 hiv4 r_kv8 r_kv9 r_kv10 hnf r_x12 mo125 mo126 mo127 mo128 mo129 mo130 mo131 mo132 mo133 q_x79 c89 mo134 mo135 bb_x107 c123 q_x124 c136 r_x138 q_x138 r_x163 q_x163 ex164) (hn_3 ea140 (by rw [show x163 = x138 from (qr371 hiv4 r_kv8 r_kv9 r_kv10 hnf r_x12 mo125 mo126 mo127 mo128 mo129 mo130 mo131 mo132 mo133 q_x79 c89 mo134 mo135 bb_x107 c123 q_x124 c136 r_x138 q_x138 r_x163 q_x163 ex164), el143]; exact ⟨(qr372 hiv4 r_kv8 r_kv9 r_kv10 hnf r_x12 mo125 mo126 mo127 mo128 mo129 mo130 mo131 mo132 mo133 q_x79 c89 mo134 mo135 bb_x107 c123 q_x124 c136 r_x138 q_x138 r_x163 q_x163 ex164), (qr373 hiv4 r_kv8 r_kv9 r_kv10 hnf r_x12 mo125 mo126 mo127 mo128 mo129 mo130 mo131 mo132 mo133 q_x79 c89 mo134 mo135 bb_x107 c123 q_x124 c136 r_x138 q_x138 r_x163 q_x163 ex164), Or.inr (by rw [← d_kv9]; exact (qr374 hiv4 r_kv8 r_kv9 r_kv10 hnf r_x12 mo125 mo126 mo127 mo128 mo129 mo130 mo131 mo132 mo133 q_x79 c89 mo134 mo135 bb_x107 c123 q_x124 c136 r_x138 q_x138 r_x163 q_x163 ex164))⟩) ea145 (by rw [show x163 = x138 from (qr371 hiv4 r_kv8 r_kv9 r_kv10 hnf r_x12 mo125 mo126 mo127 mo128 mo129 mo130 mo131 mo132 mo133 q_x79 c89 mo134 mo135 bb_x107 c123 q_x124 c136 r_x138 q_x138 r_x163 q_x163 ex164), el148]; exact ⟨(qr375 hiv4 r_kv8 r_kv9 r_kv10 hnf r_x12 mo125 mo126 mo127 mo128 mo129 mo130 mo131 mo132 mo133 q_x79 c89 mo134 mo135 bb_x107 c123 q_x124 c136 r_x138 q_x138 r_x163 q_x163 ex164), (qr376 hiv4 r_kv8 r_kv9 r_kv10 hnf r_x12 mo125 mo126 mo127 mo128 mo129 mo130 mo131 mo132 mo133 q_x79 c89 mo134 mo135 bb_x107 c123 q_x124 c136 r_x138 q_x138 r_x163 q_x163 ex164), Or.inr (by rw [← d_kv9]; exact (qr377 hiv4 r_kv8 r_kv9 r_kv10 hnf r_x12 mo125 mo126 mo127 mo128 mo129 mo130 mo131 mo132 mo133 q_x79 c89 mo134 mo135 bb_x107 c123 q_x124 c136 r_x138 q_x138 r_x163 q_x163 ex164))⟩) ea154 (by rw [show x163 = x138 from (qr371 hiv4 r_kv8 r_kv9 r_kv10 hnf r_x12 mo125 mo126 mo127 mo128 mo129 mo130 mo131 mo132 mo133 q_x79 c89 mo134 mo135 bb_x107 c123 q_x124 c136 r_x138 q_x138 r_x163 q_x163 ex164), el157]; exact ⟨(qr378 hiv4 r_kv8 r_kv9 r_kv10 hnf r_x12 mo125 mo126 mo127 mo128 mo129 mo130 mo131 p_x52 mo132 mo133 q_x79 c89 mo134 mo135 bb_x107 c123 q_x124 c136 r_x138 q_x138 r_x163 q_x163 ex164), (qr379 hiv4 r_kv8 r_kv9 r_kv10 hnf r_x12 mo125 mo126 mo127 mo128 mo129 mo130 mo131 p_x52 mo132 mo133 q_x79 c89 mo134 mo135 bb_x107 c123 q_x124 c136 r_x138 q_x138 r_x163 q_x163 ex164), Or.inl rfl⟩)) (fun z _ hz => Or.inl (by rw [eS165] at hz; exact hs_no2 (by decide) z hz)) hG
        have hn := rn_c eS165 (by decide) hn
        have el143 := el_ob eS165 o_a7 o_a140 (by decide) el143
        have el148 := el_ob eS165 o_a7 o_a145 (by decide) el148
        have el157 := el_ob eS165 o_a7 o_a154 (by decide) el157
        have hI := hIn
        have f0 := fr_I eS165 g0 f0 o_a7 (by decide)
        have d_kv8 := rd_Ij eS165 (by decide) d_kv8
        have d_kv9 := rd_Ij eS165 (by decide) d_kv9
        have d_kv10 := rd_Ij eS165 (by decide) d_kv10
        have d_kv71 := rd_Ik eS165 o_a7 o_v0 (by decide) d_kv71
        have d_x124 := rd_Ik eS165 o_a7 o_v0 (by decide) d_x124
        have d_kv122 := rd_Ik eS165 o_a7 o_v0 (by decide) d_kv122
        have d_x164 := rd_Is eS165 (rfl : x164 = x164)
        have ea7 := rf_I eS165 ea7
        have ea140 := rf_I eS165 ea140
        have ea145 := rf_I eS165 ea145
        have ea150 := rf_I eS165 ea150
        have ea154 := rf_I eS165 ea154
        have ea159 := rf_I eS165 ea159
        have l_a140 := ln_I eS165 l_a140
        have l_a145 := ln_I eS165 l_a145
        have l_a150 := ln_I eS165 l_a150
        have l_a154 := ln_I eS165 l_a154
        have l_a159 := ln_I eS165 l_a159
        have g0 := gr_I eS165 g0
        have o_a140 := ob_I eS165 o_a140
        have o_a145 := ob_I eS165 o_a145
        have o_a150 := ob_I eS165 o_a150
        have o_a154 := ob_I eS165 o_a154
        have o_a159 := ob_I eS165 o_a159
        have o_a7 := ob_I eS165 o_a7
        have o_v0 := ob_I eS165 o_v0
        exact hq _ hI g0 f0 ⟨hG, hn, (by have t : x124 = 5 → 0 < kv71 := (qr380 hiv4 hiv6 hO r_kv8 r_kv9 r_kv10 hnf r_x12 ph0_S14 mo125 mo126 ph0_S22 mo127 mo128 hiv29 ph0_S31 mo129 ph0_S41 mo130 ph0_S53 mo131 ph0_S67 mo132 mo133 q_x79 c89 hiv90 ph0_S92 mo134 hiv106 ph0_S108 mo135 bb_x107 c123 q_x124 c136 r_x138 q_x138 r_x163 q_x163 ex164); rw [d_x124, d_kv71] at t; exact t), (by have t : x124 = 5 ∨ ¬ iv4 = 5 := (qr381 hiv4 r_kv8 r_kv9 r_kv10 hnf r_x12 mo125 mo126 mo127 mo128 mo129 mo130 mo131 mo132 mo133 q_x79 c89 mo134 mo135 bb_x107 c123 q_x124 c136 r_x138 q_x138 r_x163 q_x163 ex164); rw [di_9, d_x124] at t; exact t), (by have t : iv2 ≤ kv122 ∧ (x124 = 4 → iv2 < kv122 ∨ iv4 = 4) := (qr382 r_kv1 hiv2 hiv4 r_kv8 r_kv9 r_kv10 hnf r_x12 mo125 r_kv19 ph2_S14 mo126 hiv20 mo127 ph2_S22 mo128 mo129 r_kv39 ph2_S31 mo130 r_kv51 ph2_S41 mo131 r_kv64 ph2_S53 hiv65 mo132 ph2_S67 mo133 q_x79 c89 mo134 r_kv105 ph2_S92 mo135 r_kv122 ph2_S108 bb_x107 c123 q_x124 c136 r_x138 q_x138 r_x163 q_x163 ex164); rw [di_8, di_9, d_kv122, d_x124] at t; exact t)⟩
      · exact hq _ hI g0 f0 ⟨hG, hn, (by have t : x124 = 5 → 0 < kv71 := (qr383 hiv4 hiv6 hO r_kv8 r_kv9 r_kv10 hnf r_x12 ph0_S14 mo125 mo126 ph0_S22 mo127 mo128 hiv29 ph0_S31 mo129 ph0_S41 mo130 ph0_S53 mo131 ph0_S67 mo132 mo133 q_x79 c89 hiv90 ph0_S92 mo134 hiv106 ph0_S108 mo135 bb_x107 c123 q_x124 c136); rw [d_x124, d_kv71] at t; exact t), (by have t : x124 = 5 ∨ ¬ iv4 = 5 := (qr384 hiv4 r_kv8 r_kv9 r_kv10 hnf r_x12 mo125 mo126 mo127 mo128 mo129 mo130 mo131 mo132 mo133 q_x79 c89 mo134 mo135 bb_x107 c123 q_x124 c136); rw [di_9, d_x124] at t; exact t), (by have t : iv2 ≤ kv122 ∧ (x124 = 4 → iv2 < kv122 ∨ iv4 = 4) := (qr385 r_kv1 hiv2 hiv4 r_kv8 r_kv9 r_kv10 hnf r_x12 mo125 r_kv19 ph2_S14 mo126 hiv20 mo127 ph2_S22 mo128 mo129 r_kv39 ph2_S31 mo130 r_kv51 ph2_S41 mo131 r_kv64 ph2_S53 hiv65 mo132 ph2_S67 mo133 q_x79 c89 mo134 r_kv105 ph2_S92 mo135 r_kv122 ph2_S108 bb_x107 c123 q_x124 c136); rw [di_8, di_9, d_kv122, d_x124] at t; exact t)⟩
    · have do165_kv122 := d_kv122
      have do165_kv111 := d_kv111
      have do165_kv71 := d_kv71
      refine m_X11_readWhole hI o_v0 hG (by have t : kv111 = 5 → 0 < kv71 := (qr386 hiv4 hiv6 hO r_kv8 r_kv9 r_kv10 hnf r_x12 ph0_S14 mo112 mo113 ph0_S22 mo114 mo115 hiv29 ph0_S31 mo116 ph0_S41 mo117 ph0_S53 mo118 ph0_S67 mo119 mo120 q_x79 c89 hiv90 ph0_S92 mo121 hiv106 ph0_S108 ph1_S108 bb_x107 c123); rw [d_kv111, d_kv71] at t; exact t) (fun x166 S167 hJ g168 fc169 p_x166 => ?_)
      obtain ⟨hG, p_x166, pg0_S167, pg1_S167, pg2_S167⟩ := p_x166
      have hn := rn_fr fc169 g168 hI o_v0 (by decide) hn
      have hI := hJ
      have d_kv8 := d_kv8.trans (fri_at fc169 (by decide) (by decide) o_a7).symm
      have d_kv9 := d_kv9.trans (fri_at fc169 (by decide) (by decide) o_a7).symm
      have d_kv10 := d_kv10.trans (fri_at fc169 (by decide) (by decide) o_a7).symm
      have d_x12 := d_x12.trans (fri_at fc169 (by decide) (by decide) o_a7).symm
      have ea7 := (frr_at fc169 (by decide) (by decide) o_v0).trans ea7
      have f0 := fri_tr (S := S108) g0 f0 fc169 (by decide) (by decide)
      have o_a7 := gr_ob g168 o_a7
      have o_v0 := gr_ob g168 o_v0
      have g0 := gr_tr (T := S108) g0 g168
      obtain ⟨kv170, d_kv170⟩ : ∃ z : Int32, z = fI S167 v0 9 := ⟨_, rfl⟩
      obtain ⟨kv171, d_kv171⟩ : ∃ z : Int32, z = fI S167 v0 13 := ⟨_, rfl⟩
      have ph0_S167 : kv170 = 5 → 0 < kv171 := by rw [d_kv170, d_kv171]; exact pg0_S167
      have ph1_S167 : kv170 = 5 ∨ ¬ kv111 = 5 := by rw [do165_kv111, d_kv170]; exact pg1_S167
      have mo172 : kv170 = 5 ∨ ¬ kv3 = 5 := ph1_S167.elim Or.inl (fun h => Or.inr (mo112.resolve_left h))
      have mo173 : kv170 = 5 ∨ ¬ x12 = (12 : Int32) := ph1_S167.elim Or.inl (fun h => Or.inr (mo113.resolve_left h))
      have mo174 : kv170 = 5 ∨ ¬ kv17 = 5 := ph1_S167.elim Or.inl (fun h => Or.inr (mo114.resolve_left h))
      have mo175 : kv170 = 5 ∨ (0 ≤ x21 ∧ x21 < kv9) := ph1_S167.elim Or.inl (fun h => Or.inr (mo115.resolve_left h))
      have mo176 : kv170 = 5 ∨ ¬ kv25 = 5 := ph1_S167.elim Or.inl (fun h => Or.inr (mo116.resolve_left h))
      have mo177 : kv170 = 5 ∨ ¬ kv34 = 5 := ph1_S167.elim Or.inl (fun h => Or.inr (mo117.resolve_left h))
      have mo178 : kv170 = 5 ∨ ¬ kv44 = 5 := ph1_S167.elim Or.inl (fun h => Or.inr (mo118.resolve_left h))
      have mo179 : kv170 = 5 ∨ ¬ kv56 = 5 := ph1_S167.elim Or.inl (fun h => Or.inr (mo119.resolve_left h))
      have mo180 : kv170 = 5 ∨ (0 ≤ x66 ∧ x66 < kv9) := ph1_S167.elim Or.inl (fun h => Or.inr (mo120.resolve_left h))
      have mo181 : kv170 = 5 ∨ ¬ x79 = 5 := ph1_S167.elim Or.inl (fun h => Or.inr (mo121.resolve_left h))
      have mo182 : kv170 = 5 ∨ ¬ kv95 = 5 := ph1_S167.elim Or.inl (fun h => Or.inr (ph1_S108.resolve_left h))
      obtain ⟨kv183, d_kv183⟩ : ∃ z : Int32, z = fI S167 v0 8 := ⟨_, rfl⟩
      have r_kv183 : (0 : Int32) ≤ kv183 ∧ kv183 ≤ (900 : Int32) := by rw [d_kv183]; exact nu 25 rfl hI o_v0
      have ph2_S167 : kv122 ≤ kv183 ∧ (kv170 = 4 → kv122 < kv183 ∨ kv111 = 4) := by rw [do165_kv122, do165_kv111, d_kv183, d_kv170]; exact pg2_S167
      intro _
      refine u_X11_readRoad_85 ?_
      refine ⟨o_v0, ?_⟩
      intro x184 ex184
      have q_x184 : x184 = kv170 := ex184.trans d_kv170.symm
      have mo185 : x184 = 5 ∨ ¬ kv3 = 5 := mo172.imp_left (fun z => q_x184.trans z)
      have mo186 : x184 = 5 ∨ ¬ x12 = (12 : Int32) := mo173.imp_left (fun z => q_x184.trans z)
      have mo187 : x184 = 5 ∨ ¬ kv17 = 5 := mo174.imp_left (fun z => q_x184.trans z)
      have mo188 : x184 = 5 ∨ (0 ≤ x21 ∧ x21 < kv9) := mo175.imp_left (fun z => q_x184.trans z)
      have mo189 : x184 = 5 ∨ ¬ kv25 = 5 := mo176.imp_left (fun z => q_x184.trans z)
      have mo190 : x184 = 5 ∨ ¬ kv34 = 5 := mo177.imp_left (fun z => q_x184.trans z)
      have mo191 : x184 = 5 ∨ ¬ kv44 = 5 := mo178.imp_left (fun z => q_x184.trans z)
      have mo192 : x184 = 5 ∨ ¬ kv56 = 5 := mo179.imp_left (fun z => q_x184.trans z)
      have mo193 : x184 = 5 ∨ (0 ≤ x66 ∧ x66 < kv9) := mo180.imp_left (fun z => q_x184.trans z)
      have mo194 : x184 = 5 ∨ ¬ x79 = 5 := mo181.imp_left (fun z => q_x184.trans z)
      have mo195 : x184 = 5 ∨ ¬ kv95 = 5 := mo182.imp_left (fun z => q_x184.trans z)
      have mo196 : x184 = 5 ∨ ¬ kv111 = 5 := ph1_S167.imp_left (fun z => q_x184.trans z)
      have d_x184 := ex184
      refine ⟨fun c197 => ?_, fun c197 => ?_⟩
      · refine ⟨a7, ea7, ?_⟩
        refine ⟨o_a7, ?_⟩
        intro x199 ex199
        have r_x199 : (0 : Int32) ≤ x199 ∧ x199 ≤ (12 : Int32) := by rw [ex199]; exact nu 19 rfl hI o_a7
        have q_x199 : x199 = x12 := ex199.trans d_x12.symm
        have d_x199 := ex199
        refine ⟨a7, ea7, ?_⟩
        refine ⟨o_a7, ?_⟩
        obtain ⟨a201, ea201, o_a201, l_a201⟩ := shl 35 rfl hI o_a7
        refine ⟨a201, ea201, ?_⟩
        refine ⟨o_a201, ?_⟩
        have i202 : vp_in x199 (hN _ a201) := (vin l_a201 (m := 12) (by decide) (qr387 hiv4 r_kv8 r_kv9 r_kv10 hnf r_x12 mo185 mo186 mo187 mo188 mo189 mo190 mo191 mo192 mo193 q_x79 c89 mo194 mo195 bb_x107 c123 mo196 q_x184 c197 r_x199 q_x199))
        refine ⟨i202, ?_⟩
        intro S203 eS203
        have hIn : IV S203 := by rw [eS203]; exact iv10_aI hI o_a7 (rg_nw hG ea7) ea201 o_a201 (by decide)
        have hG := rg_a (jj := 13) (x := x199) eS203 hI ea7 o_a7 ea201 o_a201 (by decide) (h1_one (c := 3) (lo := 0) (hi := 7) (hf := 2) (by decide) d_x199.symm) (h2_no (y := 0) (by decide)) hG
        have hn := rn_11 eS203 hI o_v0 o_a201 (by decide) hn
        have hI := hIn
        have f0 := fr_A eS203 g0 f0 o_a201 (by decide)
        have d_kv8 := rd_Ik eS203 o_a201 o_a7 (by decide) d_kv8
        have d_kv9 := rd_Ik eS203 o_a201 o_a7 (by decide) d_kv9
        have d_kv10 := rd_Ik eS203 o_a201 o_a7 (by decide) d_kv10
        have d_x199 := rd_Ik eS203 o_a201 o_a7 (by decide) d_x199
        have d_x184 := rd_Ik eS203 o_a201 o_v0 (by decide) d_x184
        have d_kv171 := rd_Ik eS203 o_a201 o_v0 (by decide) d_kv171
        have d_kv183 := rd_Ik eS203 o_a201 o_v0 (by decide) d_kv183
        have ea7 := rf_I eS203 ea7
        have ea201 := rf_I eS203 ea201
        have l_a201 := ln_I eS203 l_a201
        have g0 := gr_I eS203 g0
        have o_a201 := ob_I eS203 o_a201
        have o_a7 := ob_I eS203 o_a7
        have o_v0 := ob_I eS203 o_v0
        have el204 : fI S203 a201 x199.toNatClampNeg = x21 := by rw [eS203]; exact u2_self _ _ _ _
        refine ⟨a7, ea7, ?_⟩
        refine ⟨o_a7, ?_⟩
        obtain ⟨a206, ea206, o_a206, l_a206⟩ := shl 36 rfl hI o_a7
        refine ⟨a206, ea206, ?_⟩
        refine ⟨o_a206, ?_⟩
        have i207 : vp_in x199 (hN _ a206) := (vin l_a206 (m := 12) (by decide) (qr387 hiv4 r_kv8 r_kv9 r_kv10 hnf r_x12 mo185 mo186 mo187 mo188 mo189 mo190 mo191 mo192 mo193 q_x79 c89 mo194 mo195 bb_x107 c123 mo196 q_x184 c197 r_x199 q_x199))
        refine ⟨i207, ?_⟩
        intro S208 eS208
        have hIn : IV S208 := by rw [eS208]; exact iv10_aI hI o_a7 (rg_nw hG ea7) ea206 o_a206 (by decide)
        have hG := rg_a (jj := 14) (x := x199) eS208 hI ea7 o_a7 ea206 o_a206 (by decide) (h1_one (c := 3) (lo := 0) (hi := 7) (hf := 2) (by decide) d_x199.symm) (h2_no (y := 0) (by decide)) hG
        have hn := rn_11 eS208 hI o_v0 o_a206 (by decide) hn
        have el204 := el_ar eS208 (ow_ne hI o_a7 (by decide) o_a7 (by decide) ea206 ea201 (by decide)) el204
        have hI := hIn
        have f0 := fr_A eS208 g0 f0 o_a206 (by decide)
        have d_kv8 := rd_Ik eS208 o_a206 o_a7 (by decide) d_kv8
        have d_kv9 := rd_Ik eS208 o_a206 o_a7 (by decide) d_kv9
        have d_kv10 := rd_Ik eS208 o_a206 o_a7 (by decide) d_kv10
        have d_x199 := rd_Ik eS208 o_a206 o_a7 (by decide) d_x199
        have d_x184 := rd_Ik eS208 o_a206 o_v0 (by decide) d_x184
        have d_kv171 := rd_Ik eS208 o_a206 o_v0 (by decide) d_kv171
        have d_kv183 := rd_Ik eS208 o_a206 o_v0 (by decide) d_kv183
        have ea7 := rf_I eS208 ea7
        have ea201 := rf_I eS208 ea201
        have ea206 := rf_I eS208 ea206
        have l_a201 := ln_I eS208 l_a201
        have l_a206 := ln_I eS208 l_a206
        have g0 := gr_I eS208 g0
        have o_a201 := ob_I eS208 o_a201
        have o_a206 := ob_I eS208 o_a206
        have o_a7 := ob_I eS208 o_a7
        have o_v0 := ob_I eS208 o_v0
        have el209 : fI S208 a206 x199.toNatClampNeg = x66 := by rw [eS208]; exact u2_self _ _ _ _
        refine ⟨a7, ea7, ?_⟩
        refine ⟨o_a7, ?_⟩
        obtain ⟨a211, ea211, o_a211, l_a211⟩ := shl 37 rfl hI o_a7
        refine ⟨a211, ea211, ?_⟩
        refine ⟨o_a211, ?_⟩
        have i212 : vp_in x199 (hN _ a211) := (vin l_a211 (m := 12) (by decide) (qr387 hiv4 r_kv8 r_kv9 r_kv10 hnf r_x12 mo185 mo186 mo187 mo188 mo189 mo190 mo191 mo192 mo193 q_x79 c89 mo194 mo195 bb_x107 c123 mo196 q_x184 c197 r_x199 q_x199))
        refine ⟨i212, ?_⟩
        intro S213 eS213
        have hIn : IV S213 := by rw [eS213]; exact iv10_aI hI o_a7 (rg_nw hG ea7) ea211 o_a211 (by decide)
        have hG := rg_a (jj := 15) (x := x199) eS213 hI ea7 o_a7 ea211 o_a211 (by decide) (h1_no (by decide)) (h2_no (y := 0) (by decide)) hG
        have hn := rn_11 eS213 hI o_v0 o_a211 (by decide) hn
        have el204 := el_ar eS213 (ow_ne hI o_a7 (by decide) o_a7 (by decide) ea211 ea201 (by decide)) el204
        have el209 := el_ar eS213 (ow_ne hI o_a7 (by decide) o_a7 (by decide) ea211 ea206 (by decide)) el209
        have hI := hIn
        have f0 := fr_A eS213 g0 f0 o_a211 (by decide)
        have d_kv8 := rd_Ik eS213 o_a211 o_a7 (by decide) d_kv8
        have d_kv9 := rd_Ik eS213 o_a211 o_a7 (by decide) d_kv9
        have d_kv10 := rd_Ik eS213 o_a211 o_a7 (by decide) d_kv10
        have d_x199 := rd_Ik eS213 o_a211 o_a7 (by decide) d_x199
        have d_x184 := rd_Ik eS213 o_a211 o_v0 (by decide) d_x184
        have d_kv171 := rd_Ik eS213 o_a211 o_v0 (by decide) d_kv171
        have d_kv183 := rd_Ik eS213 o_a211 o_v0 (by decide) d_kv183
        have ea7 := rf_I eS213 ea7
        have ea201 := rf_I eS213 ea201
        have ea206 := rf_I eS213 ea206
        have ea211 := rf_I eS213 ea211
        have l_a201 := ln_I eS213 l_a201
        have l_a206 := ln_I eS213 l_a206
        have l_a211 := ln_I eS213 l_a211
        have g0 := gr_I eS213 g0
        have o_a201 := ob_I eS213 o_a201
        have o_a206 := ob_I eS213 o_a206
        have o_a211 := ob_I eS213 o_a211
        have o_a7 := ob_I eS213 o_a7
        have o_v0 := ob_I eS213 o_v0
        refine ⟨a7, ea7, ?_⟩
        refine ⟨o_a7, ?_⟩
        obtain ⟨a215, ea215, o_a215, l_a215⟩ := shl 38 rfl hI o_a7
        refine ⟨a215, ea215, ?_⟩
        refine ⟨o_a215, ?_⟩
        have i216 : vp_in x199 (hN _ a215) := (vin l_a215 (m := 12) (by decide) (qr387 hiv4 r_kv8 r_kv9 r_kv10 hnf r_x12 mo185 mo186 mo187 mo188 mo189 mo190 mo191 mo192 mo193 q_x79 c89 mo194 mo195 bb_x107 c123 mo196 q_x184 c197 r_x199 q_x199))
        refine ⟨i216, ?_⟩
        intro S217 eS217
        have hIn : IV S217 := by rw [eS217]; exact iv10_aI hI o_a7 (rg_nw hG ea7) ea215 o_a215 (by decide)
        have hG := rg_a (jj := 16) (x := x199) eS217 hI ea7 o_a7 ea215 o_a215 (by decide) (h1_one (c := 3) (lo := 1) (hi := 60) (hf := 99) (by decide) d_x199.symm) (h2_no (y := 0) (by decide)) hG
        have hn := rn_11 eS217 hI o_v0 o_a215 (by decide) hn
        have el204 := el_ar eS217 (ow_ne hI o_a7 (by decide) o_a7 (by decide) ea215 ea201 (by decide)) el204
        have el209 := el_ar eS217 (ow_ne hI o_a7 (by decide) o_a7 (by decide) ea215 ea206 (by decide)) el209
        have hI := hIn
        have f0 := fr_A eS217 g0 f0 o_a215 (by decide)
        have d_kv8 := rd_Ik eS217 o_a215 o_a7 (by decide) d_kv8
        have d_kv9 := rd_Ik eS217 o_a215 o_a7 (by decide) d_kv9
        have d_kv10 := rd_Ik eS217 o_a215 o_a7 (by decide) d_kv10
        have d_x199 := rd_Ik eS217 o_a215 o_a7 (by decide) d_x199
        have d_x184 := rd_Ik eS217 o_a215 o_v0 (by decide) d_x184
        have d_kv171 := rd_Ik eS217 o_a215 o_v0 (by decide) d_kv171
        have d_kv183 := rd_Ik eS217 o_a215 o_v0 (by decide) d_kv183
        have ea7 := rf_I eS217 ea7
        have ea201 := rf_I eS217 ea201
        have ea206 := rf_I eS217 ea206
        have ea211 := rf_I eS217 ea211
        have ea215 := rf_I eS217 ea215
        have l_a201 := ln_I eS217 l_a201
        have l_a206 := ln_I eS217 l_a206
        have l_a211 := ln_I eS217 l_a211
        have l_a215 := ln_I eS217 l_a215
        have g0 := gr_I eS217 g0
        have o_a201 := ob_I eS217 o_a201
        have o_a206 := ob_I eS217 o_a206
        have o_a211 := ob_I eS217 o_a211
        have o_a215 := ob_I eS217 o_a215
        have o_a7 := ob_I eS217 o_a7
        have o_v0 := ob_I eS217 o_v0
        have el218 : fI S217 a215 x199.toNatClampNeg = x52 := by rw [eS217]; exact u2_self _ _ _ _
        refine ⟨a7, ea7, ?_⟩
        refine ⟨o_a7, ?_⟩
        obtain ⟨a220, ea220, o_a220, l_a220⟩ := shl 39 rfl hI o_a7
        refine ⟨a220, ea220, ?_⟩
        refine ⟨o_a220, ?_⟩
        have i221 : vp_in x199 (hN _ a220) := (vin l_a220 (m := 12) (by decide) (qr387 hiv4 r_kv8 r_kv9 r_kv10 hnf r_x12 mo185 mo186 mo187 mo188 mo189 mo190 mo191 mo192 mo193 q_x79 c89 mo194 mo195 bb_x107 c123 mo196 q_x184 c197 r_x199 q_x199))
        refine ⟨i221, ?_⟩
        intro S222 eS222
        have hIn : IV S222 := by rw [eS222]; exact iv10_aI hI o_a7 (rg_nw hG ea7) ea220 o_a220 (by decide)
        have hG := rg_a (jj := 17) (x := x199) eS222 hI ea7 o_a7 ea220 o_a220 (by decide) (h1_no (by decide)) (h2_no (y := 0) (by decide)) hG
        have hn := rn_11 eS222 hI o_v0 o_a220 (by decide) hn
        have el204 := el_ar eS222 (ow_ne hI o_a7 (by decide) o_a7 (by decide) ea220 ea201 (by decide)) el204
        have el209 := el_ar eS222 (ow_ne hI o_a7 (by decide) o_a7 (by decide) ea220 ea206 (by decide)) el209
        have el218 := el_ar eS222 (ow_ne hI o_a7 (by decide) o_a7 (by decide) ea220 ea215 (by decide)) el218
        have hI := hIn
        have f0 := fr_A eS222 g0 f0 o_a220 (by decide)
        have d_kv8 := rd_Ik eS222 o_a220 o_a7 (by decide) d_kv8
        have d_kv9 := rd_Ik eS222 o_a220 o_a7 (by decide) d_kv9
        have d_kv10 := rd_Ik eS222 o_a220 o_a7 (by decide) d_kv10
        have d_x199 := rd_Ik eS222 o_a220 o_a7 (by decide) d_x199
        have d_x184 := rd_Ik eS222 o_a220 o_v0 (by decide) d_x184
        have d_kv171 := rd_Ik eS222 o_a220 o_v0 (by decide) d_kv171
        have d_kv183 := rd_Ik eS222 o_a220 o_v0 (by decide) d_kv183
        have ea7 := rf_I eS222 ea7
        have ea201 := rf_I eS222 ea201
        have ea206 := rf_I eS222 ea206
        have ea211 := rf_I eS222 ea211
        have ea215 := rf_I eS222 ea215
        have ea220 := rf_I eS222 ea220
        have l_a201 := ln_I eS222 l_a201
        have l_a206 := ln_I eS222 l_a206
        have l_a211 := ln_I eS222 l_a211
        have l_a215 := ln_I eS222 l_a215
        have l_a220 := ln_I eS222 l_a220
        have g0 := gr_I eS222 g0
        have o_a201 := ob_I eS222 o_a201
        have o_a206 := ob_I eS222 o_a206
        have o_a211 := ob_I eS222 o_a211
        have o_a215 := ob_I eS222 o_a215
        have o_a220 := ob_I eS222 o_a220
        have o_a7 := ob_I eS222 o_a7
        have o_v0 := ob_I eS222 o_v0
        refine ⟨a7, ea7, ?_⟩
        refine ⟨o_a7, ?_⟩
        intro x224 ex224
        have r_x224 : (0 : Int32) ≤ x224 ∧ x224 ≤ (12 : Int32) := by rw [ex224]; exact nu 19 rfl hI o_a7
        have q_x224 : x224 = x199 := ex224.trans d_x199.symm
        have d_x224 := ex224
        intro x225 ex225
        intro S226 eS226
        have hIn : IV S226 := by rw [eS226]; exact iv10_sI hI o_a7 (rg_nw hG ea7) (nu_one (lo := (0 : Int32)) (hi := (12 : Int32)) (by decide) (qr388 hiv4 r_kv8 r_kv9 r_kv10 hnf r_x12 mo185 mo186 mo187 mo188 mo189 mo190 mo191 mo192 mo193 q_x79 c89 mo194 mo195 bb_x107 c123 mo196 q_x184 c197 r_x199 q_x199 r_x224 q_x224 ex225))
        have hG := rg_inc (c := 3) (y := x224) eS226 hI ea7 o_a7 d_x224.symm (qr389 hiv4 r_kv8 r_kv9 r_kv10 hnf r_x12 mo185 mo186 mo187 mo188 mo189 mo190 mo191 mo192 mo193 q_x79 c89 mo194 mo195 bb_x107 c123 mo196 q_x184 c197 r_x199 q_x199 r_x224 q_x224 ex225) (qr390 hiv4 r_kv8 r_kv9 r_kv10 hnf r_x12 mo185 mo186 mo187 mo188 mo189 mo190 mo191 mo192 mo193 q_x79 c89 mo194 mo195 bb_x107 c123 mo196 q_x184 c197 r_x199 q_x199 r_x224 q_x224 ex225) (hn_3 ea201 (by rw [show x224 = x199 from (qr391 hiv4 r_kv8 r_kv9 r_kv10 hnf r_x12 mo185 mo186 mo187 mo188 mo189 mo190 mo191 mo192 mo193 q_x79 c89 mo194 mo195 bb_x107 c123 mo196 q_x184 c197 r_x199 q_x199 r_x224 q_x224 ex225), el204]; exact ⟨(qr392 hiv4 r_kv8 r_kv9 r_kv10 hnf r_x12 mo185 mo186 mo187 mo188 mo189 mo190 mo191 mo192 mo193 q_x79 c89 mo194 mo195 bb_x107 c123 mo196 q_x184 c197 r_x199 q_x199 r_x224 q_x224 ex225), (qr393 hiv4 r_kv8 r_kv9 r_kv10 hnf r_x12 mo185 mo186 mo187 mo188 mo189 mo190 mo191 mo192 mo193 q_x79 c89 mo194 mo195 bb_x107 c123 mo196 q_x184 c197 r_x199 q_x199 r_x224 q_x224 ex225), Or.inr (by rw [← d_kv9]; exact (qr394 hiv4 r_kv8 r_kv9 r_kv10 hnf r_x12 mo185 mo186 mo187 mo188 mo189 mo190 mo191 mo192 mo193 q_x79 c89 mo194 mo195 bb_x107 c123 mo196 q_x184 c197 r_x199 q_x199 r_x224 q_x224 ex225))⟩) ea206 (by rw [show x224 = x199 from (qr391 hiv4 r_kv8 r_kv9 r_kv10 hnf r_x12 mo185 mo186 mo187 mo188 mo189 mo190 mo191 mo192 mo193 q_x79 c89 mo194 mo195 bb_x107 c123 mo196 q_x184 c197 r_x199 q_x199 r_x224 q_x224 ex225), el209]; exact ⟨(qr395 hiv4 r_kv8 r_kv9 r_kv10 hnf r_x12 mo185 mo186 mo187 mo188 mo189 mo190 mo191 mo192 mo193 q_x79 c89 mo194 mo195 bb_x107 c123 mo196 q_x184 c197 r_x199 q_x199 r_x224 q_x224 ex225), (qr396 hiv4 r_kv8 r_kv9 r_kv10 hnf r_x12 mo185 mo186 mo187 mo188 mo189 mo190 mo191 mo192 mo193 q_x79 c89 mo194 mo195 bb_x107 c123 mo196 q_x184 c197 r_x199 q_x199 r_x224 q_x224 ex225), Or.inr (by rw [← d_kv9]; exact (qr397 hiv4 r_kv8 r_kv9 r_kv10 hnf r_x12 mo185 mo186 mo187 mo188 mo189 mo190 mo191 mo192 mo193 q_x79 c89 mo194 mo195 bb_x107 c123 mo196 q_x184 c197 r_x199 q_x199 r_x224 q_x224 ex225))⟩) ea215 (by rw [show x224 = x199 from (qr391 hiv4 r_kv8 r_kv9 r_kv10 hnf r_x12 mo185 mo186 mo187 mo188 mo189 mo190 mo191 mo192 mo193 q_x79 c89 mo194 mo195 bb_x107 c123 mo196 q_x184 c197 r_x199 q_x199 r_x224 q_x224 ex225), el218]; exact ⟨(qr398 hiv4 r_kv8 r_kv9 r_kv10 hnf r_x12 mo185 mo186 mo187 mo188 mo189 mo190 mo191 p_x52 mo192 mo193 q_x79 c89 mo194 mo195 bb_x107 c123 mo196 p_x166 q_x184 c197 r_x199 q_x199 r_x224 q_x224 ex225), (qr399 hiv4 r_kv8 r_kv9 r_kv10 hnf r_x12 mo185 mo186 mo187 mo188 mo189 mo190 mo191 p_x52 mo192 mo193 q_x79 c89 mo194 mo195 bb_x107 c123 mo196 p_x166 q_x184 c197 r_x199 q_x199 r_x224 q_x224 ex225), Or.inl rfl⟩)) (fun z _ hz => Or.inl (by rw [eS226] at hz; exact hs_no2 (by decide) z hz)) hG
        have hn := rn_c eS226 (by decide) hn
        have el204 := el_ob eS226 o_a7 o_a201 (by decide) el204
        have el209 := el_ob eS226 o_a7 o_a206 (by decide) el209
        have el218 := el_ob eS226 o_a7 o_a215 (by decide) el218
        have hI := hIn
        have f0 := fr_I eS226 g0 f0 o_a7 (by decide)
        have d_kv8 := rd_Ij eS226 (by decide) d_kv8
        have d_kv9 := rd_Ij eS226 (by decide) d_kv9
        have d_kv10 := rd_Ij eS226 (by decide) d_kv10
        have d_x184 := rd_Ik eS226 o_a7 o_v0 (by decide) d_x184
        have d_kv171 := rd_Ik eS226 o_a7 o_v0 (by decide) d_kv171
        have d_kv183 := rd_Ik eS226 o_a7 o_v0 (by decide) d_kv183
        have d_x225 := rd_Is eS226 (rfl : x225 = x225)
        have ea7 := rf_I eS226 ea7
        have ea201 := rf_I eS226 ea201
        have ea206 := rf_I eS226 ea206
        have ea211 := rf_I eS226 ea211
        have ea215 := rf_I eS226 ea215
        have ea220 := rf_I eS226 ea220
        have l_a201 := ln_I eS226 l_a201
        have l_a206 := ln_I eS226 l_a206
        have l_a211 := ln_I eS226 l_a211
        have l_a215 := ln_I eS226 l_a215
        have l_a220 := ln_I eS226 l_a220
        have g0 := gr_I eS226 g0
        have o_a201 := ob_I eS226 o_a201
        have o_a206 := ob_I eS226 o_a206
        have o_a211 := ob_I eS226 o_a211
        have o_a215 := ob_I eS226 o_a215
        have o_a220 := ob_I eS226 o_a220
        have o_a7 := ob_I eS226 o_a7
        have o_v0 := ob_I eS226 o_v0
        exact hq _ hI g0 f0 ⟨hG, hn, (by have t : x184 = 5 → 0 < kv171 := (qr400 hiv4 hiv6 hO r_kv8 r_kv9 r_kv10 hnf r_x12 ph0_S14 mo185 mo186 ph0_S22 mo187 mo188 hiv29 ph0_S31 mo189 ph0_S41 mo190 ph0_S53 mo191 ph0_S67 mo192 mo193 q_x79 c89 hiv90 ph0_S92 mo194 hiv106 ph0_S108 mo195 bb_x107 c123 ph0_S167 mo196 q_x184 c197 r_x199 q_x199 r_x224 q_x224 ex225); rw [d_x184, d_kv171] at t; exact t), (by have t : x184 = 5 ∨ ¬ iv4 = 5 := (qr401 hiv4 r_kv8 r_kv9 r_kv10 hnf r_x12 mo185 mo186 mo187 mo188 mo189 mo190 mo191 mo192 mo193 q_x79 c89 mo194 mo195 bb_x107 c123 mo196 q_x184 c197 r_x199 q_x199 r_x224 q_x224 ex225); rw [di_9, d_x184] at t; exact t), (by have t : iv2 ≤ kv183 ∧ (x184 = 4 → iv2 < kv183 ∨ iv4 = 4) := (qr402 r_kv1 hiv2 hiv4 r_kv8 r_kv9 r_kv10 hnf r_x12 mo185 r_kv19 ph2_S14 mo186 hiv20 mo187 ph2_S22 mo188 mo189 r_kv39 ph2_S31 mo190 r_kv51 ph2_S41 mo191 r_kv64 ph2_S53 hiv65 mo192 ph2_S67 mo193 q_x79 c89 mo194 r_kv105 ph2_S92 mo195 r_kv122 ph2_S108 bb_x107 c123 mo196 r_kv183 ph2_S167 q_x184 c197 r_x199 q_x199 r_x224 q_x224 ex225); rw [di_8, di_9, d_kv183, d_x184] at t; exact t)⟩
      · exact hq _ hI g0 f0 ⟨hG, hn, (by have t : x184 = 5 → 0 < kv171 := (qr403 hiv4 hiv6 hO r_kv8 r_kv9 r_kv10 hnf r_x12 ph0_S14 mo185 mo186 ph0_S22 mo187 mo188 hiv29 ph0_S31 mo189 ph0_S41 mo190 ph0_S53 mo191 ph0_S67 mo192 mo193 q_x79 c89 hiv90 ph0_S92 mo194 hiv106 ph0_S108 mo195 bb_x107 c123 ph0_S167 mo196 q_x184 c197); rw [d_x184, d_kv171] at t; exact t), (by have t : x184 = 5 ∨ ¬ iv4 = 5 := (qr404 hiv4 r_kv8 r_kv9 r_kv10 hnf r_x12 mo185 mo186 mo187 mo188 mo189 mo190 mo191 mo192 mo193 q_x79 c89 mo194 mo195 bb_x107 c123 mo196 q_x184 c197); rw [di_9, d_x184] at t; exact t), (by have t : iv2 ≤ kv183 ∧ (x184 = 4 → iv2 < kv183 ∨ iv4 = 4) := (qr405 r_kv1 hiv2 hiv4 r_kv8 r_kv9 r_kv10 hnf r_x12 mo185 r_kv19 ph2_S14 mo186 hiv20 mo187 ph2_S22 mo188 mo189 r_kv39 ph2_S31 mo190 r_kv51 ph2_S41 mo191 r_kv64 ph2_S53 hiv65 mo192 ph2_S67 mo193 q_x79 c89 mo194 r_kv105 ph2_S92 mo195 r_kv122 ph2_S108 bb_x107 c123 mo196 r_kv183 ph2_S167 q_x184 c197); rw [di_8, di_9, d_kv183, d_x184] at t; exact t)⟩
  · refine ⟨fun c227 => ?_, fun c227 => ?_⟩
    · refine u_X11_readRoad_62 ?_
      refine ⟨o_v0, ?_⟩
      obtain ⟨iv228, hiv228⟩ : ∃ z : Int32, z = kv71 := ⟨_, rfl⟩
      have d_iv228 := hiv228.trans d_kv71
      have do228_kv64 := d_kv64
      have do228_x79 := d_x79
      have do228_iv228 := d_iv228
      refine m_X11_goesOn hI o_v0 hG (by have t : x79 = 5 → 0 < kv71 := (qr406 hiv4 hiv6 hO r_kv8 r_kv9 r_kv10 hnf r_x12 ph0_S14 mo80 mo81 ph0_S22 mo82 mo83 hiv29 ph0_S31 mo84 ph0_S41 mo85 ph0_S53 mo86 ph0_S67 mo87 mo88 q_x79 c89 c227); rw [d_x79, d_kv71] at t; exact t) (fun S230 hJ g231 fc232 p_S230 => ?_)
      obtain ⟨hG, pg0_S230, pg1_S230, pg2_S230⟩ := p_S230
      have hn := rn_fr fc232 g231 hI o_v0 (by decide) hn
      have hI := hJ
      have d_kv8 := d_kv8.trans (fri_at fc232 (by decide) (by decide) o_a7).symm
      have d_kv9 := d_kv9.trans (fri_at fc232 (by decide) (by decide) o_a7).symm
      have d_kv10 := d_kv10.trans (fri_at fc232 (by decide) (by decide) o_a7).symm
      have d_x12 := d_x12.trans (fri_at fc232 (by decide) (by decide) o_a7).symm
      have d_kv71 := d_kv71.trans (fri_at fc232 (by decide) (by decide) o_v0).symm
      have ea7 := (frr_at fc232 (by decide) (by decide) o_v0).trans ea7
      have f0 := fri_tr (S := S67) g0 f0 fc232 (by decide) (by decide)
      have o_a7 := gr_ob g231 o_a7
      have o_v0 := gr_ob g231 o_v0
      have g0 := gr_tr (T := S67) g0 g231
      obtain ⟨kv233, d_kv233⟩ : ∃ z : Int32, z = fI S230 v0 9 := ⟨_, rfl⟩
      have ph0_S230 : kv233 = 5 → 0 < kv71 := by rw [d_kv233, d_kv71]; exact pg0_S230
      have ph1_S230 : kv233 = 5 ∨ ¬ x79 = 5 := by rw [do228_x79, d_kv233]; exact pg1_S230
      have mo234 : kv233 = 5 ∨ ¬ kv3 = 5 := ph1_S230.elim Or.inl (fun h => Or.inr (mo80.resolve_left h))
      have mo235 : kv233 = 5 ∨ ¬ x12 = (12 : Int32) := ph1_S230.elim Or.inl (fun h => Or.inr (mo81.resolve_left h))
      have mo236 : kv233 = 5 ∨ ¬ kv17 = 5 := ph1_S230.elim Or.inl (fun h => Or.inr (mo82.resolve_left h))
      have mo237 : kv233 = 5 ∨ (0 ≤ x21 ∧ x21 < kv9) := ph1_S230.elim Or.inl (fun h => Or.inr (mo83.resolve_left h))
      have mo238 : kv233 = 5 ∨ ¬ kv25 = 5 := ph1_S230.elim Or.inl (fun h => Or.inr (mo84.resolve_left h))
      have mo239 : kv233 = 5 ∨ ¬ kv34 = 5 := ph1_S230.elim Or.inl (fun h => Or.inr (mo85.resolve_left h))
      have mo240 : kv233 = 5 ∨ ¬ kv44 = 5 := ph1_S230.elim Or.inl (fun h => Or.inr (mo86.resolve_left h))
      have mo241 : kv233 = 5 ∨ ¬ kv56 = 5 := ph1_S230.elim Or.inl (fun h => Or.inr (mo87.resolve_left h))
      have mo242 : kv233 = 5 ∨ (0 ≤ x66 ∧ x66 < kv9) := ph1_S230.elim Or.inl (fun h => Or.inr (mo88.resolve_left h))
      obtain ⟨kv243, d_kv243⟩ : ∃ z : Int32, z = fI S230 v0 8 := ⟨_, rfl⟩
      have r_kv243 : (0 : Int32) ≤ kv243 ∧ kv243 ≤ (900 : Int32) := by rw [d_kv243]; exact nu 25 rfl hI o_v0
      have ph2_S230 : kv64 ≤ kv243 ∧ (kv233 = 4 → kv64 < kv243 ∨ x79 = 4) := by rw [do228_kv64, do228_x79, d_kv243, d_kv233]; exact pg2_S230
      intro _
      obtain ⟨iv244, hiv244⟩ : ∃ z : Int32, z = kv71 := ⟨_, rfl⟩
      have d_iv244 := hiv244.trans d_kv71
      have do244_kv243 := d_kv243
      have do244_kv233 := d_kv233
      have do244_iv244 := d_iv244
      refine m_X11_eatsWord hI o_v0 (by decide) hG (by have t : kv233 = 5 → 0 < kv71 := (qr407 hiv4 hiv6 hO r_kv8 r_kv9 r_kv10 hnf r_x12 ph0_S14 mo234 mo235 ph0_S22 mo236 mo237 hiv29 ph0_S31 mo238 ph0_S41 mo239 ph0_S53 mo240 ph0_S67 mo241 mo242 q_x79 c89 c227 hiv228 ph0_S230 ph1_S230); rw [d_kv233, d_kv71] at t; exact t) (fun x245 S246 hJ g247 fc248 b_x245 p_x245 => ?_)
      obtain ⟨hG, pg0_S246, pg1_S246, pg2_S246⟩ := p_x245
      have hn := rn_fr fc248 g247 hI o_v0 (by decide) hn
      have hI := hJ
      have d_kv8 := d_kv8.trans (fri_at fc248 (by decide) (by decide) o_a7).symm
      have d_kv9 := d_kv9.trans (fri_at fc248 (by decide) (by decide) o_a7).symm
      have d_kv10 := d_kv10.trans (fri_at fc248 (by decide) (by decide) o_a7).symm
      have d_x12 := d_x12.trans (fri_at fc248 (by decide) (by decide) o_a7).symm
      have d_kv71 := d_kv71.trans (fri_at fc248 (by decide) (by decide) o_v0).symm
      have ea7 := (frr_at fc248 (by decide) (by decide) o_v0).trans ea7
      have f0 := fri_tr (S := S230) g0 f0 fc248 (by decide) (by decide)
      have o_a7 := gr_ob g247 o_a7
      have o_v0 := gr_ob g247 o_v0
      have g0 := gr_tr (T := S230) g0 g247
      obtain ⟨kv249, d_kv249⟩ : ∃ z : Int32, z = fI S246 v0 9 := ⟨_, rfl⟩
      have ph0_S246 : kv249 = 5 → 0 < kv71 := by rw [d_kv249, d_kv71]; exact pg0_S246
      have ph1_S246 : kv249 = 5 ∨ ¬ kv233 = 5 := by rw [do244_kv233, d_kv249]; exact pg1_S246
      have mo250 : kv249 = 5 ∨ ¬ kv3 = 5 := ph1_S246.elim Or.inl (fun h => Or.inr (mo234.resolve_left h))
      have mo251 : kv249 = 5 ∨ ¬ x12 = (12 : Int32) := ph1_S246.elim Or.inl (fun h => Or.inr (mo235.resolve_left h))
      have mo252 : kv249 = 5 ∨ ¬ kv17 = 5 := ph1_S246.elim Or.inl (fun h => Or.inr (mo236.resolve_left h))
      have mo253 : kv249 = 5 ∨ (0 ≤ x21 ∧ x21 < kv9) := ph1_S246.elim Or.inl (fun h => Or.inr (mo237.resolve_left h))
      have mo254 : kv249 = 5 ∨ ¬ kv25 = 5 := ph1_S246.elim Or.inl (fun h => Or.inr (mo238.resolve_left h))
      have mo255 : kv249 = 5 ∨ ¬ kv34 = 5 := ph1_S246.elim Or.inl (fun h => Or.inr (mo239.resolve_left h))
      have mo256 : kv249 = 5 ∨ ¬ kv44 = 5 := ph1_S246.elim Or.inl (fun h => Or.inr (mo240.resolve_left h))
      have mo257 : kv249 = 5 ∨ ¬ kv56 = 5 := ph1_S246.elim Or.inl (fun h => Or.inr (mo241.resolve_left h))
      have mo258 : kv249 = 5 ∨ (0 ≤ x66 ∧ x66 < kv9) := ph1_S246.elim Or.inl (fun h => Or.inr (mo242.resolve_left h))
      have mo259 : kv249 = 5 ∨ ¬ x79 = 5 := ph1_S246.elim Or.inl (fun h => Or.inr (ph1_S230.resolve_left h))
      obtain ⟨kv260, d_kv260⟩ : ∃ z : Int32, z = fI S246 v0 8 := ⟨_, rfl⟩
      have r_kv260 : (0 : Int32) ≤ kv260 ∧ kv260 ≤ (900 : Int32) := by rw [d_kv260]; exact nu 25 rfl hI o_v0
      have ph2_S246 : kv243 ≤ kv260 ∧ (kv249 = 4 → kv243 < kv260 ∨ kv233 = 4) := by rw [do244_kv243, do244_kv233, d_kv260, d_kv249]; exact pg2_S246
      intro _ _
      have bb_x245 : x245 = 0 ∨ x245 = 1 := b_x245
      refine ⟨fun c261 => ?_, fun c261 => ?_⟩
      · refine u_X11_readRoad_85 ?_
        refine ⟨o_v0, ?_⟩
        intro x262 ex262
        have q_x262 : x262 = kv249 := ex262.trans d_kv249.symm
        have mo263 : x262 = 5 ∨ ¬ kv3 = 5 := mo250.imp_left (fun z => q_x262.trans z)
        have mo264 : x262 = 5 ∨ ¬ x12 = (12 : Int32) := mo251.imp_left (fun z => q_x262.trans z)
        have mo265 : x262 = 5 ∨ ¬ kv17 = 5 := mo252.imp_left (fun z => q_x262.trans z)
        have mo266 : x262 = 5 ∨ (0 ≤ x21 ∧ x21 < kv9) := mo253.imp_left (fun z => q_x262.trans z)
        have mo267 : x262 = 5 ∨ ¬ kv25 = 5 := mo254.imp_left (fun z => q_x262.trans z)
        have mo268 : x262 = 5 ∨ ¬ kv34 = 5 := mo255.imp_left (fun z => q_x262.trans z)
        have mo269 : x262 = 5 ∨ ¬ kv44 = 5 := mo256.imp_left (fun z => q_x262.trans z)
        have mo270 : x262 = 5 ∨ ¬ kv56 = 5 := mo257.imp_left (fun z => q_x262.trans z)
        have mo271 : x262 = 5 ∨ (0 ≤ x66 ∧ x66 < kv9) := mo258.imp_left (fun z => q_x262.trans z)
        have mo272 : x262 = 5 ∨ ¬ x79 = 5 := mo259.imp_left (fun z => q_x262.trans z)
        have mo273 : x262 = 5 ∨ ¬ kv233 = 5 := ph1_S246.imp_left (fun z => q_x262.trans z)
        have d_x262 := ex262
        refine ⟨fun c274 => ?_, fun c274 => ?_⟩
        · refine ⟨a7, ea7, ?_⟩
          refine ⟨o_a7, ?_⟩
          intro x276 ex276
          have r_x276 : (0 : Int32) ≤ x276 ∧ x276 ≤ (12 : Int32) := by rw [ex276]; exact nu 19 rfl hI o_a7
          have q_x276 : x276 = x12 := ex276.trans d_x12.symm
          have d_x276 := ex276
          refine ⟨a7, ea7, ?_⟩
          refine ⟨o_a7, ?_⟩
          obtain ⟨a278, ea278, o_a278, l_a278⟩ := shl 35 rfl hI o_a7
          refine ⟨a278, ea278, ?_⟩
          refine ⟨o_a278, ?_⟩
          have i279 : vp_in x276 (hN _ a278) := (vin l_a278 (m := 12) (by decide) (qr408 hiv4 r_kv8 r_kv9 r_kv10 hnf r_x12 mo263 mo264 mo265 mo266 mo267 mo268 mo269 mo270 mo271 q_x79 c89 c227 mo272 mo273 bb_x245 c261 q_x262 c274 r_x276 q_x276))
          refine ⟨i279, ?_⟩
          intro S280 eS280
          have hIn : IV S280 := by rw [eS280]; exact iv10_aI hI o_a7 (rg_nw hG ea7) ea278 o_a278 (by decide)
          have hG := rg_a (jj := 13) (x := x276) eS280 hI ea7 o_a7 ea278 o_a278 (by decide) (h1_one (c := 3) (lo := 0) (hi := 7) (hf := 2) (by decide) d_x276.symm) (h2_no (y := 0) (by decide)) hG
          have hn := rn_11 eS280 hI o_v0 o_a278 (by decide) hn
          have hI := hIn
          have f0 := fr_A eS280 g0 f0 o_a278 (by decide)
          have d_kv8 := rd_Ik eS280 o_a278 o_a7 (by decide) d_kv8
          have d_kv9 := rd_Ik eS280 o_a278 o_a7 (by decide) d_kv9
          have d_kv10 := rd_Ik eS280 o_a278 o_a7 (by decide) d_kv10
          have d_x276 := rd_Ik eS280 o_a278 o_a7 (by decide) d_x276
          have d_kv71 := rd_Ik eS280 o_a278 o_v0 (by decide) d_kv71
          have d_x262 := rd_Ik eS280 o_a278 o_v0 (by decide) d_x262
          have d_kv260 := rd_Ik eS280 o_a278 o_v0 (by decide) d_kv260
          have ea7 := rf_I eS280 ea7
          have ea278 := rf_I eS280 ea278
          have l_a278 := ln_I eS280 l_a278
          have g0 := gr_I eS280 g0
          have o_a278 := ob_I eS280 o_a278
          have o_a7 := ob_I eS280 o_a7
          have o_v0 := ob_I eS280 o_v0
          have el281 : fI S280 a278 x276.toNatClampNeg = x21 := by rw [eS280]; exact u2_self _ _ _ _
          refine ⟨a7, ea7, ?_⟩
          refine ⟨o_a7, ?_⟩
          obtain ⟨a283, ea283, o_a283, l_a283⟩ := shl 36 rfl hI o_a7
          refine ⟨a283, ea283, ?_⟩
          refine ⟨o_a283, ?_⟩
          have i284 : vp_in x276 (hN _ a283) := (vin l_a283 (m := 12) (by decide) (qr408 hiv4 r_kv8 r_kv9 r_kv10 hnf r_x12 mo263 mo264 mo265 mo266 mo267 mo268 mo269 mo270 mo271 q_x79 c89 c227 mo272 mo273 bb_x245 c261 q_x262 c274 r_x276 q_x276))
          refine ⟨i284, ?_⟩
          intro S285 eS285
          have hIn : IV S285 := by rw [eS285]; exact iv10_aI hI o_a7 (rg_nw hG ea7) ea283 o_a283 (by decide)
          have hG := rg_a (jj := 14) (x := x276) eS285 hI ea7 o_a7 ea283 o_a283 (by decide) (h1_one (c := 3) (lo := 0) (hi := 7) (hf := 2) (by decide) d_x276.symm) (h2_no (y := 0) (by decide)) hG
          have hn := rn_11 eS285 hI o_v0 o_a283 (by decide) hn
          have el281 := el_ar eS285 (ow_ne hI o_a7 (by decide) o_a7 (by decide) ea283 ea278 (by decide)) el281
          have hI := hIn
          have f0 := fr_A eS285 g0 f0 o_a283 (by decide)
          have d_kv8 := rd_Ik eS285 o_a283 o_a7 (by decide) d_kv8
          have d_kv9 := rd_Ik eS285 o_a283 o_a7 (by decide) d_kv9
          have d_kv10 := rd_Ik eS285 o_a283 o_a7 (by decide) d_kv10
          have d_x276 := rd_Ik eS285 o_a283 o_a7 (by decide) d_x276
          have d_kv71 := rd_Ik eS285 o_a283 o_v0 (by decide) d_kv71
          have d_x262 := rd_Ik eS285 o_a283 o_v0 (by decide) d_x262
          have d_kv260 := rd_Ik eS285 o_a283 o_v0 (by decide) d_kv260
          have ea7 := rf_I eS285 ea7
          have ea278 := rf_I eS285 ea278
          have ea283 := rf_I eS285 ea283
          have l_a278 := ln_I eS285 l_a278
          have l_a283 := ln_I eS285 l_a283
          have g0 := gr_I eS285 g0
          have o_a278 := ob_I eS285 o_a278
          have o_a283 := ob_I eS285 o_a283
          have o_a7 := ob_I eS285 o_a7
          have o_v0 := ob_I eS285 o_v0
          have el286 : fI S285 a283 x276.toNatClampNeg = x66 := by rw [eS285]; exact u2_self _ _ _ _
          refine ⟨a7, ea7, ?_⟩
          refine ⟨o_a7, ?_⟩
          obtain ⟨a288, ea288, o_a288, l_a288⟩ := shl 37 rfl hI o_a7
          refine ⟨a288, ea288, ?_⟩
          refine ⟨o_a288, ?_⟩
          have i289 : vp_in x276 (hN _ a288) := (vin l_a288 (m := 12) (by decide) (qr408 hiv4 r_kv8 r_kv9 r_kv10 hnf r_x12 mo263 mo264 mo265 mo266 mo267 mo268 mo269 mo270 mo271 q_x79 c89 c227 mo272 mo273 bb_x245 c261 q_x262 c274 r_x276 q_x276))
          refine ⟨i289, ?_⟩
          intro S290 eS290
          have hIn : IV S290 := by rw [eS290]; exact iv10_aI hI o_a7 (rg_nw hG ea7) ea288 o_a288 (by decide)
          have hG := rg_a (jj := 15) (x := x276) eS290 hI ea7 o_a7 ea288 o_a288 (by decide) (h1_no (by decide)) (h2_no (y := 0) (by decide)) hG
          have hn := rn_11 eS290 hI o_v0 o_a288 (by decide) hn
          have el281 := el_ar eS290 (ow_ne hI o_a7 (by decide) o_a7 (by decide) ea288 ea278 (by decide)) el281
          have el286 := el_ar eS290 (ow_ne hI o_a7 (by decide) o_a7 (by decide) ea288 ea283 (by decide)) el286
          have hI := hIn
          have f0 := fr_A eS290 g0 f0 o_a288 (by decide)
          have d_kv8 := rd_Ik eS290 o_a288 o_a7 (by decide) d_kv8
          have d_kv9 := rd_Ik eS290 o_a288 o_a7 (by decide) d_kv9
          have d_kv10 := rd_Ik eS290 o_a288 o_a7 (by decide) d_kv10
          have d_x276 := rd_Ik eS290 o_a288 o_a7 (by decide) d_x276
          have d_kv71 := rd_Ik eS290 o_a288 o_v0 (by decide) d_kv71
          have d_x262 := rd_Ik eS290 o_a288 o_v0 (by decide) d_x262
          have d_kv260 := rd_Ik eS290 o_a288 o_v0 (by decide) d_kv260
          have ea7 := rf_I eS290 ea7
          have ea278 := rf_I eS290 ea278
          have ea283 := rf_I eS290 ea283
          have ea288 := rf_I eS290 ea288
          have l_a278 := ln_I eS290 l_a278
          have l_a283 := ln_I eS290 l_a283
          have l_a288 := ln_I eS290 l_a288
          have g0 := gr_I eS290 g0
          have o_a278 := ob_I eS290 o_a278
          have o_a283 := ob_I eS290 o_a283
          have o_a288 := ob_I eS290 o_a288
          have o_a7 := ob_I eS290 o_a7
          have o_v0 := ob_I eS290 o_v0
          refine ⟨a7, ea7, ?_⟩
          refine ⟨o_a7, ?_⟩
          obtain ⟨a292, ea292, o_a292, l_a292⟩ := shl 38 rfl hI o_a7
          refine ⟨a292, ea292, ?_⟩
          refine ⟨o_a292, ?_⟩
          have i293 : vp_in x276 (hN _ a292) := (vin l_a292 (m := 12) (by decide) (qr408 hiv4 r_kv8 r_kv9 r_kv10 hnf r_x12 mo263 mo264 mo265 mo266 mo267 mo268 mo269 mo270 mo271 q_x79 c89 c227 mo272 mo273 bb_x245 c261 q_x262 c274 r_x276 q_x276))
          refine ⟨i293, ?_⟩
          intro S294 eS294
          have hIn : IV S294 := by rw [eS294]; exact iv10_aI hI o_a7 (rg_nw hG ea7) ea292 o_a292 (by decide)
          have hG := rg_a (jj := 16) (x := x276) eS294 hI ea7 o_a7 ea292 o_a292 (by decide) (h1_one (c := 3) (lo := 1) (hi := 60) (hf := 99) (by decide) d_x276.symm) (h2_no (y := 0) (by decide)) hG
          have hn := rn_11 eS294 hI o_v0 o_a292 (by decide) hn
          have el281 := el_ar eS294 (ow_ne hI o_a7 (by decide) o_a7 (by decide) ea292 ea278 (by decide)) el281
          have el286 := el_ar eS294 (ow_ne hI o_a7 (by decide) o_a7 (by decide) ea292 ea283 (by decide)) el286
          have hI := hIn
          have f0 := fr_A eS294 g0 f0 o_a292 (by decide)
          have d_kv8 := rd_Ik eS294 o_a292 o_a7 (by decide) d_kv8
          have d_kv9 := rd_Ik eS294 o_a292 o_a7 (by decide) d_kv9
          have d_kv10 := rd_Ik eS294 o_a292 o_a7 (by decide) d_kv10
          have d_x276 := rd_Ik eS294 o_a292 o_a7 (by decide) d_x276
          have d_kv71 := rd_Ik eS294 o_a292 o_v0 (by decide) d_kv71
          have d_x262 := rd_Ik eS294 o_a292 o_v0 (by decide) d_x262
          have d_kv260 := rd_Ik eS294 o_a292 o_v0 (by decide) d_kv260
          have ea7 := rf_I eS294 ea7
          have ea278 := rf_I eS294 ea278
          have ea283 := rf_I eS294 ea283
          have ea288 := rf_I eS294 ea288
          have ea292 := rf_I eS294 ea292
          have l_a278 := ln_I eS294 l_a278
          have l_a283 := ln_I eS294 l_a283
          have l_a288 := ln_I eS294 l_a288
          have l_a292 := ln_I eS294 l_a292
          have g0 := gr_I eS294 g0
          have o_a278 := ob_I eS294 o_a278
          have o_a283 := ob_I eS294 o_a283
          have o_a288 := ob_I eS294 o_a288
          have o_a292 := ob_I eS294 o_a292
          have o_a7 := ob_I eS294 o_a7
          have o_v0 := ob_I eS294 o_v0
          have el295 : fI S294 a292 x276.toNatClampNeg = x52 := by rw [eS294]; exact u2_self _ _ _ _
          refine ⟨a7, ea7, ?_⟩
          refine ⟨o_a7, ?_⟩
          obtain ⟨a297, ea297, o_a297, l_a297⟩ := shl 39 rfl hI o_a7
          refine ⟨a297, ea297, ?_⟩
          refine ⟨o_a297, ?_⟩
          have i298 : vp_in x276 (hN _ a297) := (vin l_a297 (m := 12) (by decide) (qr408 hiv4 r_kv8 r_kv9 r_kv10 hnf r_x12 mo263 mo264 mo265 mo266 mo267 mo268 mo269 mo270 mo271 q_x79 c89 c227 mo272 mo273 bb_x245 c261 q_x262 c274 r_x276 q_x276))
          refine ⟨i298, ?_⟩
          intro S299 eS299
          have hIn : IV S299 := by rw [eS299]; exact iv10_aI hI o_a7 (rg_nw hG ea7) ea297 o_a297 (by decide)
          have hG := rg_a (jj := 17) (x := x276) eS299 hI ea7 o_a7 ea297 o_a297 (by decide) (h1_no (by decide)) (h2_no (y := 0) (by decide)) hG
          have hn := rn_11 eS299 hI o_v0 o_a297 (by decide) hn
          have el281 := el_ar eS299 (ow_ne hI o_a7 (by decide) o_a7 (by decide) ea297 ea278 (by decide)) el281
          have el286 := el_ar eS299 (ow_ne hI o_a7 (by decide) o_a7 (by decide) ea297 ea283 (by decide)) el286
          have el295 := el_ar eS299 (ow_ne hI o_a7 (by decide) o_a7 (by decide) ea297 ea292 (by decide)) el295
          have hI := hIn
          have f0 := fr_A eS299 g0 f0 o_a297 (by decide)
          have d_kv8 := rd_Ik eS299 o_a297 o_a7 (by decide) d_kv8
          have d_kv9 := rd_Ik eS299 o_a297 o_a7 (by decide) d_kv9
          have d_kv10 := rd_Ik eS299 o_a297 o_a7 (by decide) d_kv10
          have d_x276 := rd_Ik eS299 o_a297 o_a7 (by decide) d_x276
          have d_kv71 := rd_Ik eS299 o_a297 o_v0 (by decide) d_kv71
          have d_x262 := rd_Ik eS299 o_a297 o_v0 (by decide) d_x262
          have d_kv260 := rd_Ik eS299 o_a297 o_v0 (by decide) d_kv260
          have ea7 := rf_I eS299 ea7
          have ea278 := rf_I eS299 ea278
          have ea283 := rf_I eS299 ea283
          have ea288 := rf_I eS299 ea288
          have ea292 := rf_I eS299 ea292
          have ea297 := rf_I eS299 ea297
          have l_a278 := ln_I eS299 l_a278
          have l_a283 := ln_I eS299 l_a283
          have l_a288 := ln_I eS299 l_a288
          have l_a292 := ln_I eS299 l_a292
          have l_a297 := ln_I eS299 l_a297
          have g0 := gr_I eS299 g0
          have o_a278 := ob_I eS299 o_a278
          have o_a283 := ob_I eS299 o_a283
          have o_a288 := ob_I eS299 o_a288
          have o_a292 := ob_I eS299 o_a292
          have o_a297 := ob_I eS299 o_a297
          have o_a7 := ob_I eS299 o_a7
          have o_v0 := ob_I eS299 o_v0
          refine ⟨a7, ea7, ?_⟩
          refine ⟨o_a7, ?_⟩
          intro x301 ex301
          have r_x301 : (0 : Int32) ≤ x301 ∧ x301 ≤ (12 : Int32) := by rw [ex301]; exact nu 19 rfl hI o_a7
          have q_x301 : x301 = x276 := ex301.trans d_x276.symm
          have d_x301 := ex301
          intro x302 ex302
          intro S303 eS303
          have hIn : IV S303 := by rw [eS303]; exact iv10_sI hI o_a7 (rg_nw hG ea7) (nu_one (lo := (0 : Int32)) (hi := (12 : Int32)) (by decide) (qr409 hiv4 r_kv8 r_kv9 r_kv10 hnf r_x12 mo263 mo264 mo265 mo266 mo267 mo268 mo269 mo270 mo271 q_x79 c89 c227 mo272 mo273 bb_x245 c261 q_x262 c274 r_x276 q_x276 r_x301 q_x301 ex302))
          have hG := rg_inc (c := 3) (y := x301) eS303 hI ea7 o_a7 d_x301.symm (qr410 hiv4 r_kv8 r_kv9 r_kv10 hnf r_x12 mo263 mo264 mo265 mo266 mo267 mo268 mo269 mo270 mo271 q_x79 c89 c227 mo272 mo273 bb_x245 c261 q_x262 c274 r_x276 q_x276 r_x301 q_x301 ex302) (qr411 hiv4 r_kv8 r_kv9 r_kv10 hnf r_x12 mo263 mo264 mo265 mo266 mo267 mo268 mo269 mo270 mo271 q_x79 c89 c227 mo272 mo273 bb_x245 c261 q_x262 c274 r_x276 q_x276 r_x301 q_x301 ex302) (hn_3 ea278 (by rw [show x301 = x276 from (qr412 hiv4 r_kv8 r_kv9 r_kv10 hnf r_x12 mo263 mo264 mo265 mo266 mo267 mo268 mo269 mo270 mo271 q_x79 c89 c227 mo272 mo273 bb_x245 c261 q_x262 c274 r_x276 q_x276 r_x301 q_x301 ex302), el281]; exact ⟨(qr413 hiv4 r_kv8 r_kv9 r_kv10 hnf r_x12 mo263 mo264 mo265 mo266 mo267 mo268 mo269 mo270 mo271 q_x79 c89 c227 mo272 mo273 bb_x245 c261 q_x262 c274 r_x276 q_x276 r_x301 q_x301 ex302), (qr414 hiv4 r_kv8 r_kv9 r_kv10 hnf r_x12 mo263 mo264 mo265 mo266 mo267 mo268 mo269 mo270 mo271 q_x79 c89 c227 mo272 mo273 bb_x245 c261 q_x262 c274 r_x276 q_x276 r_x301 q_x301 ex302), Or.inr (by rw [← d_kv9]; exact (qr415 hiv4 r_kv8 r_kv9 r_kv10 hnf r_x12 mo263 mo264 mo265 mo266 mo267 mo268 mo269 mo270 mo271 q_x79 c89 c227 mo272 mo273 bb_x245 c261 q_x262 c274 r_x276 q_x276 r_x301 q_x301 ex302))⟩) ea283 (by rw [show x301 = x276 from (qr412 hiv4 r_kv8 r_kv9 r_kv10 hnf r_x12 mo263 mo264 mo265 mo266 mo267 mo268 mo269 mo270 mo271 q_x79 c89 c227 mo272 mo273 bb_x245 c261 q_x262 c274 r_x276 q_x276 r_x301 q_x301 ex302), el286]; exact ⟨(qr416 hiv4 r_kv8 r_kv9 r_kv10 hnf r_x12 mo263 mo264 mo265 mo266 mo267 mo268 mo269 mo270 mo271 q_x79 c89 c227 mo272 mo273 bb_x245 c261 q_x262 c274 r_x276 q_x276 r_x301 q_x301 ex302), (qr417 hiv4 r_kv8 r_kv9 r_kv10 hnf r_x12 mo263 mo264 mo265 mo266 mo267 mo268 mo269 mo270 mo271 q_x79 c89 c227 mo272 mo273 bb_x245 c261 q_x262 c274 r_x276 q_x276 r_x301 q_x301 ex302), Or.inr (by rw [← d_kv9]; exact (qr418 hiv4 r_kv8 r_kv9 r_kv10 hnf r_x12 mo263 mo264 mo265 mo266 mo267 mo268 mo269 mo270 mo271 q_x79 c89 c227 mo272 mo273 bb_x245 c261 q_x262 c274 r_x276 q_x276 r_x301 q_x301 ex302))⟩) ea292 (by rw [show x301 = x276 from (qr412 hiv4 r_kv8 r_kv9 r_kv10 hnf r_x12 mo263 mo264 mo265 mo266 mo267 mo268 mo269 mo270 mo271 q_x79 c89 c227 mo272 mo273 bb_x245 c261 q_x262 c274 r_x276 q_x276 r_x301 q_x301 ex302), el295]; exact ⟨(qr419 hiv4 r_kv8 r_kv9 r_kv10 hnf r_x12 mo263 mo264 mo265 mo266 mo267 mo268 mo269 p_x52 mo270 mo271 q_x79 c89 c227 mo272 mo273 bb_x245 c261 q_x262 c274 r_x276 q_x276 r_x301 q_x301 ex302), (qr420 hiv4 r_kv8 r_kv9 r_kv10 hnf r_x12 mo263 mo264 mo265 mo266 mo267 mo268 mo269 p_x52 mo270 mo271 q_x79 c89 c227 mo272 mo273 bb_x245 c261 q_x262 c274 r_x276 q_x276 r_x301 q_x301 ex302), Or.inl rfl⟩)) (fun z _ hz => Or.inl (by rw [eS303] at hz; exact hs_no2 (by decide) z hz)) hG
          have hn := rn_c eS303 (by decide) hn
          have el281 := el_ob eS303 o_a7 o_a278 (by decide) el281
          have el286 := el_ob eS303 o_a7 o_a283 (by decide) el286
          have el295 := el_ob eS303 o_a7 o_a292 (by decide) el295
          have hI := hIn
          have f0 := fr_I eS303 g0 f0 o_a7 (by decide)
          have d_kv8 := rd_Ij eS303 (by decide) d_kv8
          have d_kv9 := rd_Ij eS303 (by decide) d_kv9
          have d_kv10 := rd_Ij eS303 (by decide) d_kv10
          have d_kv71 := rd_Ik eS303 o_a7 o_v0 (by decide) d_kv71
          have d_x262 := rd_Ik eS303 o_a7 o_v0 (by decide) d_x262
          have d_kv260 := rd_Ik eS303 o_a7 o_v0 (by decide) d_kv260
          have d_x302 := rd_Is eS303 (rfl : x302 = x302)
          have ea7 := rf_I eS303 ea7
          have ea278 := rf_I eS303 ea278
          have ea283 := rf_I eS303 ea283
          have ea288 := rf_I eS303 ea288
          have ea292 := rf_I eS303 ea292
          have ea297 := rf_I eS303 ea297
          have l_a278 := ln_I eS303 l_a278
          have l_a283 := ln_I eS303 l_a283
          have l_a288 := ln_I eS303 l_a288
          have l_a292 := ln_I eS303 l_a292
          have l_a297 := ln_I eS303 l_a297
          have g0 := gr_I eS303 g0
          have o_a278 := ob_I eS303 o_a278
          have o_a283 := ob_I eS303 o_a283
          have o_a288 := ob_I eS303 o_a288
          have o_a292 := ob_I eS303 o_a292
          have o_a297 := ob_I eS303 o_a297
          have o_a7 := ob_I eS303 o_a7
          have o_v0 := ob_I eS303 o_v0
          exact hq _ hI g0 f0 ⟨hG, hn, (by have t : x262 = 5 → 0 < kv71 := (qr421 hiv4 hiv6 hO r_kv8 r_kv9 r_kv10 hnf r_x12 ph0_S14 mo263 mo264 ph0_S22 mo265 mo266 hiv29 ph0_S31 mo267 ph0_S41 mo268 ph0_S53 mo269 ph0_S67 mo270 mo271 q_x79 c89 c227 hiv228 ph0_S230 mo272 hiv244 ph0_S246 mo273 bb_x245 c261 q_x262 c274 r_x276 q_x276 r_x301 q_x301 ex302); rw [d_x262, d_kv71] at t; exact t), (by have t : x262 = 5 ∨ ¬ iv4 = 5 := (qr422 hiv4 r_kv8 r_kv9 r_kv10 hnf r_x12 mo263 mo264 mo265 mo266 mo267 mo268 mo269 mo270 mo271 q_x79 c89 c227 mo272 mo273 bb_x245 c261 q_x262 c274 r_x276 q_x276 r_x301 q_x301 ex302); rw [di_9, d_x262] at t; exact t), (by have t : iv2 ≤ kv260 ∧ (x262 = 4 → iv2 < kv260 ∨ iv4 = 4) := (qr423 r_kv1 hiv2 hiv4 r_kv8 r_kv9 r_kv10 hnf r_x12 mo263 r_kv19 ph2_S14 mo264 hiv20 mo265 ph2_S22 mo266 mo267 r_kv39 ph2_S31 mo268 r_kv51 ph2_S41 mo269 r_kv64 ph2_S53 hiv65 mo270 ph2_S67 mo271 q_x79 c89 c227 mo272 r_kv243 ph2_S230 mo273 r_kv260 ph2_S246 bb_x245 c261 q_x262 c274 r_x276 q_x276 r_x301 q_x301 ex302); rw [di_8, di_9, d_kv260, d_x262] at t; exact t)⟩
        · exact hq _ hI g0 f0 ⟨hG, hn, (by have t : x262 = 5 → 0 < kv71 := (qr424 hiv4 hiv6 hO r_kv8 r_kv9 r_kv10 hnf r_x12 ph0_S14 mo263 mo264 ph0_S22 mo265 mo266 hiv29 ph0_S31 mo267 ph0_S41 mo268 ph0_S53 mo269 ph0_S67 mo270 mo271 q_x79 c89 c227 hiv228 ph0_S230 mo272 hiv244 ph0_S246 mo273 bb_x245 c261 q_x262 c274); rw [d_x262, d_kv71] at t; exact t), (by have t : x262 = 5 ∨ ¬ iv4 = 5 := (qr425 hiv4 r_kv8 r_kv9 r_kv10 hnf r_x12 mo263 mo264 mo265 mo266 mo267 mo268 mo269 mo270 mo271 q_x79 c89 c227 mo272 mo273 bb_x245 c261 q_x262 c274); rw [di_9, d_x262] at t; exact t), (by have t : iv2 ≤ kv260 ∧ (x262 = 4 → iv2 < kv260 ∨ iv4 = 4) := (qr426 r_kv1 hiv2 hiv4 r_kv8 r_kv9 r_kv10 hnf r_x12 mo263 r_kv19 ph2_S14 mo264 hiv20 mo265 ph2_S22 mo266 mo267 r_kv39 ph2_S31 mo268 r_kv51 ph2_S41 mo269 r_kv64 ph2_S53 hiv65 mo270 ph2_S67 mo271 q_x79 c89 c227 mo272 r_kv243 ph2_S230 mo273 r_kv260 ph2_S246 bb_x245 c261 q_x262 c274); rw [di_8, di_9, d_kv260, d_x262] at t; exact t)⟩
      · have do303_kv260 := d_kv260
        have do303_kv249 := d_kv249
        have do303_kv71 := d_kv71
        refine m_X11_readWhole hI o_v0 hG (by have t : kv249 = 5 → 0 < kv71 := (qr427 hiv4 hiv6 hO r_kv8 r_kv9 r_kv10 hnf r_x12 ph0_S14 mo250 mo251 ph0_S22 mo252 mo253 hiv29 ph0_S31 mo254 ph0_S41 mo255 ph0_S53 mo256 ph0_S67 mo257 mo258 q_x79 c89 c227 hiv228 ph0_S230 mo259 hiv244 ph0_S246 ph1_S246 bb_x245 c261); rw [d_kv249, d_kv71] at t; exact t) (fun x304 S305 hJ g306 fc307 p_x304 => ?_)
        obtain ⟨hG, p_x304, pg0_S305, pg1_S305, pg2_S305⟩ := p_x304
        have hn := rn_fr fc307 g306 hI o_v0 (by decide) hn
        have hI := hJ
        have d_kv8 := d_kv8.trans (fri_at fc307 (by decide) (by decide) o_a7).symm
        have d_kv9 := d_kv9.trans (fri_at fc307 (by decide) (by decide) o_a7).symm
        have d_kv10 := d_kv10.trans (fri_at fc307 (by decide) (by decide) o_a7).symm
        have d_x12 := d_x12.trans (fri_at fc307 (by decide) (by decide) o_a7).symm
        have ea7 := (frr_at fc307 (by decide) (by decide) o_v0).trans ea7
        have f0 := fri_tr (S := S246) g0 f0 fc307 (by decide) (by decide)
        have o_a7 := gr_ob g306 o_a7
        have o_v0 := gr_ob g306 o_v0
        have g0 := gr_tr (T := S246) g0 g306
        obtain ⟨kv308, d_kv308⟩ : ∃ z : Int32, z = fI S305 v0 9 := ⟨_, rfl⟩
        obtain ⟨kv309, d_kv309⟩ : ∃ z : Int32, z = fI S305 v0 13 := ⟨_, rfl⟩
        have ph0_S305 : kv308 = 5 → 0 < kv309 := by rw [d_kv308, d_kv309]; exact pg0_S305
        have ph1_S305 : kv308 = 5 ∨ ¬ kv249 = 5 := by rw [do303_kv249, d_kv308]; exact pg1_S305
        have mo310 : kv308 = 5 ∨ ¬ kv3 = 5 := ph1_S305.elim Or.inl (fun h => Or.inr (mo250.resolve_left h))
        have mo311 : kv308 = 5 ∨ ¬ x12 = (12 : Int32) := ph1_S305.elim Or.inl (fun h => Or.inr (mo251.resolve_left h))
        have mo312 : kv308 = 5 ∨ ¬ kv17 = 5 := ph1_S305.elim Or.inl (fun h => Or.inr (mo252.resolve_left h))
        have mo313 : kv308 = 5 ∨ (0 ≤ x21 ∧ x21 < kv9) := ph1_S305.elim Or.inl (fun h => Or.inr (mo253.resolve_left h))
        have mo314 : kv308 = 5 ∨ ¬ kv25 = 5 := ph1_S305.elim Or.inl (fun h => Or.inr (mo254.resolve_left h))
        have mo315 : kv308 = 5 ∨ ¬ kv34 = 5 := ph1_S305.elim Or.inl (fun h => Or.inr (mo255.resolve_left h))
        have mo316 : kv308 = 5 ∨ ¬ kv44 = 5 := ph1_S305.elim Or.inl (fun h => Or.inr (mo256.resolve_left h))
        have mo317 : kv308 = 5 ∨ ¬ kv56 = 5 := ph1_S305.elim Or.inl (fun h => Or.inr (mo257.resolve_left h))
        have mo318 : kv308 = 5 ∨ (0 ≤ x66 ∧ x66 < kv9) := ph1_S305.elim Or.inl (fun h => Or.inr (mo258.resolve_left h))
        have mo319 : kv308 = 5 ∨ ¬ x79 = 5 := ph1_S305.elim Or.inl (fun h => Or.inr (mo259.resolve_left h))
        have mo320 : kv308 = 5 ∨ ¬ kv233 = 5 := ph1_S305.elim Or.inl (fun h => Or.inr (ph1_S246.resolve_left h))
        obtain ⟨kv321, d_kv321⟩ : ∃ z : Int32, z = fI S305 v0 8 := ⟨_, rfl⟩
        have r_kv321 : (0 : Int32) ≤ kv321 ∧ kv321 ≤ (900 : Int32) := by rw [d_kv321]; exact nu 25 rfl hI o_v0
        have ph2_S305 : kv260 ≤ kv321 ∧ (kv308 = 4 → kv260 < kv321 ∨ kv249 = 4) := by rw [do303_kv260, do303_kv249, d_kv321, d_kv308]; exact pg2_S305
        intro _
        refine u_X11_readRoad_85 ?_
        refine ⟨o_v0, ?_⟩
        intro x322 ex322
        have q_x322 : x322 = kv308 := ex322.trans d_kv308.symm
        have mo323 : x322 = 5 ∨ ¬ kv3 = 5 := mo310.imp_left (fun z => q_x322.trans z)
        have mo324 : x322 = 5 ∨ ¬ x12 = (12 : Int32) := mo311.imp_left (fun z => q_x322.trans z)
        have mo325 : x322 = 5 ∨ ¬ kv17 = 5 := mo312.imp_left (fun z => q_x322.trans z)
        have mo326 : x322 = 5 ∨ (0 ≤ x21 ∧ x21 < kv9) := mo313.imp_left (fun z => q_x322.trans z)
        have mo327 : x322 = 5 ∨ ¬ kv25 = 5 := mo314.imp_left (fun z => q_x322.trans z)
        have mo328 : x322 = 5 ∨ ¬ kv34 = 5 := mo315.imp_left (fun z => q_x322.trans z)
        have mo329 : x322 = 5 ∨ ¬ kv44 = 5 := mo316.imp_left (fun z => q_x322.trans z)
        have mo330 : x322 = 5 ∨ ¬ kv56 = 5 := mo317.imp_left (fun z => q_x322.trans z)
        have mo331 : x322 = 5 ∨ (0 ≤ x66 ∧ x66 < kv9) := mo318.imp_left (fun z => q_x322.trans z)
        have mo332 : x322 = 5 ∨ ¬ x79 = 5 := mo319.imp_left (fun z => q_x322.trans z)
        have mo333 : x322 = 5 ∨ ¬ kv233 = 5 := mo320.imp_left (fun z => q_x322.trans z)
        have mo334 : x322 = 5 ∨ ¬ kv249 = 5 := ph1_S305.imp_left (fun z => q_x322.trans z)
        have d_x322 := ex322
        refine ⟨fun c335 => ?_, fun c335 => ?_⟩
        · refine ⟨a7, ea7, ?_⟩
          refine ⟨o_a7, ?_⟩
          intro x337 ex337
          have r_x337 : (0 : Int32) ≤ x337 ∧ x337 ≤ (12 : Int32) := by rw [ex337]; exact nu 19 rfl hI o_a7
          have q_x337 : x337 = x12 := ex337.trans d_x12.symm
          have d_x337 := ex337
          refine ⟨a7, ea7, ?_⟩
          refine ⟨o_a7, ?_⟩
          obtain ⟨a339, ea339, o_a339, l_a339⟩ := shl 35 rfl hI o_a7
          refine ⟨a339, ea339, ?_⟩
          refine ⟨o_a339, ?_⟩
          have i340 : vp_in x337 (hN _ a339) := (vin l_a339 (m := 12) (by decide) (qr428 hiv4 r_kv8 r_kv9 r_kv10 hnf r_x12 mo323 mo324 mo325 mo326 mo327 mo328 mo329 mo330 mo331 q_x79 c89 c227 mo332 mo333 bb_x245 c261 mo334 q_x322 c335 r_x337 q_x337))
          refine ⟨i340, ?_⟩
          intro S341 eS341
          have hIn : IV S341 := by rw [eS341]; exact iv10_aI hI o_a7 (rg_nw hG ea7) ea339 o_a339 (by decide)
          have hG := rg_a (jj := 13) (x := x337) eS341 hI ea7 o_a7 ea339 o_a339 (by decide) (h1_one (c := 3) (lo := 0) (hi := 7) (hf := 2) (by decide) d_x337.symm) (h2_no (y := 0) (by decide)) hG
          have hn := rn_11 eS341 hI o_v0 o_a339 (by decide) hn
          have hI := hIn
          have f0 := fr_A eS341 g0 f0 o_a339 (by decide)
          have d_kv8 := rd_Ik eS341 o_a339 o_a7 (by decide) d_kv8
          have d_kv9 := rd_Ik eS341 o_a339 o_a7 (by decide) d_kv9
          have d_kv10 := rd_Ik eS341 o_a339 o_a7 (by decide) d_kv10
          have d_x337 := rd_Ik eS341 o_a339 o_a7 (by decide) d_x337
          have d_x322 := rd_Ik eS341 o_a339 o_v0 (by decide) d_x322
          have d_kv309 := rd_Ik eS341 o_a339 o_v0 (by decide) d_kv309
          have d_kv321 := rd_Ik eS341 o_a339 o_v0 (by decide) d_kv321
          have ea7 := rf_I eS341 ea7
          have ea339 := rf_I eS341 ea339
          have l_a339 := ln_I eS341 l_a339
          have g0 := gr_I eS341 g0
          have o_a339 := ob_I eS341 o_a339
          have o_a7 := ob_I eS341 o_a7
          have o_v0 := ob_I eS341 o_v0
          have el342 : fI S341 a339 x337.toNatClampNeg = x21 := by rw [eS341]; exact u2_self _ _ _ _
          refine ⟨a7, ea7, ?_⟩
          refine ⟨o_a7, ?_⟩
          obtain ⟨a344, ea344, o_a344, l_a344⟩ := shl 36 rfl hI o_a7
          refine ⟨a344, ea344, ?_⟩
          refine ⟨o_a344, ?_⟩
          have i345 : vp_in x337 (hN _ a344) := (vin l_a344 (m := 12) (by decide) (qr428 hiv4 r_kv8 r_kv9 r_kv10 hnf r_x12 mo323 mo324 mo325 mo326 mo327 mo328 mo329 mo330 mo331 q_x79 c89 c227 mo332 mo333 bb_x245 c261 mo334 q_x322 c335 r_x337 q_x337))
          refine ⟨i345, ?_⟩
          intro S346 eS346
          have hIn : IV S346 := by rw [eS346]; exact iv10_aI hI o_a7 (rg_nw hG ea7) ea344 o_a344 (by decide)
          have hG := rg_a (jj := 14) (x := x337) eS346 hI ea7 o_a7 ea344 o_a344 (by decide) (h1_one (c := 3) (lo := 0) (hi := 7) (hf := 2) (by decide) d_x337.symm) (h2_no (y := 0) (by decide)) hG
          have hn := rn_11 eS346 hI o_v0 o_a344 (by decide) hn
          have el342 := el_ar eS346 (ow_ne hI o_a7 (by decide) o_a7 (by decide) ea344 ea339 (by decide)) el342
          have hI := hIn
          have f0 := fr_A eS346 g0 f0 o_a344 (by decide)
          have d_kv8 := rd_Ik eS346 o_a344 o_a7 (by decide) d_kv8
          have d_kv9 := rd_Ik eS346 o_a344 o_a7 (by decide) d_kv9
          have d_kv10 := rd_Ik eS346 o_a344 o_a7 (by decide) d_kv10
          have d_x337 := rd_Ik eS346 o_a344 o_a7 (by decide) d_x337
          have d_x322 := rd_Ik eS346 o_a344 o_v0 (by decide) d_x322
          have d_kv309 := rd_Ik eS346 o_a344 o_v0 (by decide) d_kv309
          have d_kv321 := rd_Ik eS346 o_a344 o_v0 (by decide) d_kv321
          have ea7 := rf_I eS346 ea7
          have ea339 := rf_I eS346 ea339
          have ea344 := rf_I eS346 ea344
          have l_a339 := ln_I eS346 l_a339
          have l_a344 := ln_I eS346 l_a344
          have g0 := gr_I eS346 g0
          have o_a339 := ob_I eS346 o_a339
          have o_a344 := ob_I eS346 o_a344
          have o_a7 := ob_I eS346 o_a7
          have o_v0 := ob_I eS346 o_v0
          have el347 : fI S346 a344 x337.toNatClampNeg = x66 := by rw [eS346]; exact u2_self _ _ _ _
          refine ⟨a7, ea7, ?_⟩
          refine ⟨o_a7, ?_⟩
          obtain ⟨a349, ea349, o_a349, l_a349⟩ := shl 37 rfl hI o_a7
          refine ⟨a349, ea349, ?_⟩
          refine ⟨o_a349, ?_⟩
          have i350 : vp_in x337 (hN _ a349) := (vin l_a349 (m := 12) (by decide) (qr428 hiv4 r_kv8 r_kv9 r_kv10 hnf r_x12 mo323 mo324 mo325 mo326 mo327 mo328 mo329 mo330 mo331 q_x79 c89 c227 mo332 mo333 bb_x245 c261 mo334 q_x322 c335 r_x337 q_x337))
          refine ⟨i350, ?_⟩
          intro S351 eS351
          have hIn : IV S351 := by rw [eS351]; exact iv10_aI hI o_a7 (rg_nw hG ea7) ea349 o_a349 (by decide)
          have hG := rg_a (jj := 15) (x := x337) eS351 hI ea7 o_a7 ea349 o_a349 (by decide) (h1_no (by decide)) (h2_no (y := 0) (by decide)) hG
          have hn := rn_11 eS351 hI o_v0 o_a349 (by decide) hn
          have el342 := el_ar eS351 (ow_ne hI o_a7 (by decide) o_a7 (by decide) ea349 ea339 (by decide)) el342
          have el347 := el_ar eS351 (ow_ne hI o_a7 (by decide) o_a7 (by decide) ea349 ea344 (by decide)) el347
          have hI := hIn
          have f0 := fr_A eS351 g0 f0 o_a349 (by decide)
          have d_kv8 := rd_Ik eS351 o_a349 o_a7 (by decide) d_kv8
          have d_kv9 := rd_Ik eS351 o_a349 o_a7 (by decide) d_kv9
          have d_kv10 := rd_Ik eS351 o_a349 o_a7 (by decide) d_kv10
          have d_x337 := rd_Ik eS351 o_a349 o_a7 (by decide) d_x337
          have d_x322 := rd_Ik eS351 o_a349 o_v0 (by decide) d_x322
          have d_kv309 := rd_Ik eS351 o_a349 o_v0 (by decide) d_kv309
          have d_kv321 := rd_Ik eS351 o_a349 o_v0 (by decide) d_kv321
          have ea7 := rf_I eS351 ea7
          have ea339 := rf_I eS351 ea339
          have ea344 := rf_I eS351 ea344
          have ea349 := rf_I eS351 ea349
          have l_a339 := ln_I eS351 l_a339
          have l_a344 := ln_I eS351 l_a344
          have l_a349 := ln_I eS351 l_a349
          have g0 := gr_I eS351 g0
          have o_a339 := ob_I eS351 o_a339
          have o_a344 := ob_I eS351 o_a344
          have o_a349 := ob_I eS351 o_a349
          have o_a7 := ob_I eS351 o_a7
          have o_v0 := ob_I eS351 o_v0
          refine ⟨a7, ea7, ?_⟩
          refine ⟨o_a7, ?_⟩
          obtain ⟨a353, ea353, o_a353, l_a353⟩ := shl 38 rfl hI o_a7
          refine ⟨a353, ea353, ?_⟩
          refine ⟨o_a353, ?_⟩
          have i354 : vp_in x337 (hN _ a353) := (vin l_a353 (m := 12) (by decide) (qr428 hiv4 r_kv8 r_kv9 r_kv10 hnf r_x12 mo323 mo324 mo325 mo326 mo327 mo328 mo329 mo330 mo331 q_x79 c89 c227 mo332 mo333 bb_x245 c261 mo334 q_x322 c335 r_x337 q_x337))
          refine ⟨i354, ?_⟩
          intro S355 eS355
          have hIn : IV S355 := by rw [eS355]; exact iv10_aI hI o_a7 (rg_nw hG ea7) ea353 o_a353 (by decide)
          have hG := rg_a (jj := 16) (x := x337) eS355 hI ea7 o_a7 ea353 o_a353 (by decide) (h1_one (c := 3) (lo := 1) (hi := 60) (hf := 99) (by decide) d_x337.symm) (h2_no (y := 0) (by decide)) hG
          have hn := rn_11 eS355 hI o_v0 o_a353 (by decide) hn
          have el342 := el_ar eS355 (ow_ne hI o_a7 (by decide) o_a7 (by decide) ea353 ea339 (by decide)) el342
          have el347 := el_ar eS355 (ow_ne hI o_a7 (by decide) o_a7 (by decide) ea353 ea344 (by decide)) el347
          have hI := hIn
          have f0 := fr_A eS355 g0 f0 o_a353 (by decide)
          have d_kv8 := rd_Ik eS355 o_a353 o_a7 (by decide) d_kv8
          have d_kv9 := rd_Ik eS355 o_a353 o_a7 (by decide) d_kv9
          have d_kv10 := rd_Ik eS355 o_a353 o_a7 (by decide) d_kv10
          have d_x337 := rd_Ik eS355 o_a353 o_a7 (by decide) d_x337
          have d_x322 := rd_Ik eS355 o_a353 o_v0 (by decide) d_x322
          have d_kv309 := rd_Ik eS355 o_a353 o_v0 (by decide) d_kv309
          have d_kv321 := rd_Ik eS355 o_a353 o_v0 (by decide) d_kv321
          have ea7 := rf_I eS355 ea7
          have ea339 := rf_I eS355 ea339
          have ea344 := rf_I eS355 ea344
          have ea349 := rf_I eS355 ea349
          have ea353 := rf_I eS355 ea353
          have l_a339 := ln_I eS355 l_a339
          have l_a344 := ln_I eS355 l_a344
          have l_a349 := ln_I eS355 l_a349
          have l_a353 := ln_I eS355 l_a353
          have g0 := gr_I eS355 g0
          have o_a339 := ob_I eS355 o_a339
          have o_a344 := ob_I eS355 o_a344
          have o_a349 := ob_I eS355 o_a349
          have o_a353 := ob_I eS355 o_a353
          have o_a7 := ob_I eS355 o_a7
          have o_v0 := ob_I eS355 o_v0
          have el356 : fI S355 a353 x337.toNatClampNeg = x52 := by rw [eS355]; exact u2_self _ _ _ _
          refine ⟨a7, ea7, ?_⟩
          refine ⟨o_a7, ?_⟩
          obtain ⟨a358, ea358, o_a358, l_a358⟩ := shl 39 rfl hI o_a7
          refine ⟨a358, ea358, ?_⟩
          refine ⟨o_a358, ?_⟩
          have i359 : vp_in x337 (hN _ a358) := (vin l_a358 (m := 12) (by decide) (qr428 hiv4 r_kv8 r_kv9 r_kv10 hnf r_x12 mo323 mo324 mo325 mo326 mo327 mo328 mo329 mo330 mo331 q_x79 c89 c227 mo332 mo333 bb_x245 c261 mo334 q_x322 c335 r_x337 q_x337))
          refine ⟨i359, ?_⟩
          intro S360 eS360
          have hIn : IV S360 := by rw [eS360]; exact iv10_aI hI o_a7 (rg_nw hG ea7) ea358 o_a358 (by decide)
          have hG := rg_a (jj := 17) (x := x337) eS360 hI ea7 o_a7 ea358 o_a358 (by decide) (h1_no (by decide)) (h2_no (y := 0) (by decide)) hG
          have hn := rn_11 eS360 hI o_v0 o_a358 (by decide) hn
          have el342 := el_ar eS360 (ow_ne hI o_a7 (by decide) o_a7 (by decide) ea358 ea339 (by decide)) el342
          have el347 := el_ar eS360 (ow_ne hI o_a7 (by decide) o_a7 (by decide) ea358 ea344 (by decide)) el347
          have el356 := el_ar eS360 (ow_ne hI o_a7 (by decide) o_a7 (by decide) ea358 ea353 (by decide)) el356
          have hI := hIn
          have f0 := fr_A eS360 g0 f0 o_a358 (by decide)
          have d_kv8 := rd_Ik eS360 o_a358 o_a7 (by decide) d_kv8
          have d_kv9 := rd_Ik eS360 o_a358 o_a7 (by decide) d_kv9
          have d_kv10 := rd_Ik eS360 o_a358 o_a7 (by decide) d_kv10
          have d_x337 := rd_Ik eS360 o_a358 o_a7 (by decide) d_x337
          have d_x322 := rd_Ik eS360 o_a358 o_v0 (by decide) d_x322
          have d_kv309 := rd_Ik eS360 o_a358 o_v0 (by decide) d_kv309
          have d_kv321 := rd_Ik eS360 o_a358 o_v0 (by decide) d_kv321
          have ea7 := rf_I eS360 ea7
          have ea339 := rf_I eS360 ea339
          have ea344 := rf_I eS360 ea344
          have ea349 := rf_I eS360 ea349
          have ea353 := rf_I eS360 ea353
          have ea358 := rf_I eS360 ea358
          have l_a339 := ln_I eS360 l_a339
          have l_a344 := ln_I eS360 l_a344
          have l_a349 := ln_I eS360 l_a349
          have l_a353 := ln_I eS360 l_a353
          have l_a358 := ln_I eS360 l_a358
          have g0 := gr_I eS360 g0
          have o_a339 := ob_I eS360 o_a339
          have o_a344 := ob_I eS360 o_a344
          have o_a349 := ob_I eS360 o_a349
          have o_a353 := ob_I eS360 o_a353
          have o_a358 := ob_I eS360 o_a358
          have o_a7 := ob_I eS360 o_a7
          have o_v0 := ob_I eS360 o_v0
          refine ⟨a7, ea7, ?_⟩
          refine ⟨o_a7, ?_⟩
          intro x362 ex362
          have r_x362 : (0 : Int32) ≤ x362 ∧ x362 ≤ (12 : Int32) := by rw [ex362]; exact nu 19 rfl hI o_a7
          have q_x362 : x362 = x337 := ex362.trans d_x337.symm
          have d_x362 := ex362
          intro x363 ex363
          intro S364 eS364
          have hIn : IV S364 := by rw [eS364]; exact iv10_sI hI o_a7 (rg_nw hG ea7) (nu_one (lo := (0 : Int32)) (hi := (12 : Int32)) (by decide) (qr429 hiv4 r_kv8 r_kv9 r_kv10 hnf r_x12 mo323 mo324 mo325 mo326 mo327 mo328 mo329 mo330 mo331 q_x79 c89 c227 mo332 mo333 bb_x245 c261 mo334 q_x322 c335 r_x337 q_x337 r_x362 q_x362 ex363))
          have hG := rg_inc (c := 3) (y := x362) eS364 hI ea7 o_a7 d_x362.symm (qr430 hiv4 r_kv8 r_kv9 r_kv10 hnf r_x12 mo323 mo324 mo325 mo326 mo327 mo328 mo329 mo330 mo331 q_x79 c89 c227 mo332 mo333 bb_x245 c261 mo334 q_x322 c335 r_x337 q_x337 r_x362 q_x362 ex363) (qr431 hiv4 r_kv8 r_kv9 r_kv10 hnf r_x12 mo323 mo324 mo325 mo326 mo327 mo328 mo329 mo330 mo331 q_x79 c89 c227 mo332 mo333 bb_x245 c261 mo334 q_x322 c335 r_x337 q_x337 r_x362 q_x362 ex363) (hn_3 ea339 (by rw [show x362 = x337 from (qr432 hiv4 r_kv8 r_kv9 r_kv10 hnf r_x12 mo323 mo324 mo325 mo326 mo327 mo328 mo329 mo330 mo331 q_x79 c89 c227 mo332 mo333 bb_x245 c261 mo334 q_x322 c335 r_x337 q_x337 r_x362 q_x362 ex363), el342]; exact ⟨(qr433 hiv4 r_kv8 r_kv9 r_kv10 hnf r_x12 mo323 mo324 mo325 mo326 mo327 mo328 mo329 mo330 mo331 q_x79 c89 c227 mo332 mo333 bb_x245 c261 mo334 q_x322 c335 r_x337 q_x337 r_x362 q_x362 ex363), (qr434 hiv4 r_kv8 r_kv9 r_kv10 hnf r_x12 mo323 mo324 mo325 mo326 mo327 mo328 mo329 mo330 mo331 q_x79 c89 c227 mo332 mo333 bb_x245 c261 mo334 q_x322 c335 r_x337 q_x337 r_x362 q_x362 ex363), Or.inr (by rw [← d_kv9]; exact (qr435 hiv4 r_kv8 r_kv9 r_kv10 hnf r_x12 mo323 mo324 mo325 mo326 mo327 mo328 mo329 mo330 mo331 q_x79 c89 c227 mo332 mo333 bb_x245 c261 mo334 q_x322 c335 r_x337 q_x337 r_x362 q_x362 ex363))⟩) ea344 (by rw [show x362 = x337 from (qr432 hiv4 r_kv8 r_kv9 r_kv10 hnf r_x12 mo323 mo324 mo325 mo326 mo327 mo328 mo329 mo330 mo331 q_x79 c89 c227 mo332 mo333 bb_x245 c261 mo334 q_x322 c335 r_x337 q_x337 r_x362 q_x362 ex363), el347]; exact ⟨(qr436 hiv4 r_kv8 r_kv9 r_kv10 hnf r_x12 mo323 mo324 mo325 mo326 mo327 mo328 mo329 mo330 mo331 q_x79 c89 c227 mo332 mo333 bb_x245 c261 mo334 q_x322 c335 r_x337 q_x337 r_x362 q_x362 ex363), (qr437 hiv4 r_kv8 r_kv9 r_kv10 hnf r_x12 mo323 mo324 mo325 mo326 mo327 mo328 mo329 mo330 mo331 q_x79 c89 c227 mo332 mo333 bb_x245 c261 mo334 q_x322 c335 r_x337 q_x337 r_x362 q_x362 ex363), Or.inr (by rw [← d_kv9]; exact (qr438 hiv4 r_kv8 r_kv9 r_kv10 hnf r_x12 mo323 mo324 mo325 mo326 mo327 mo328 mo329 mo330 mo331 q_x79 c89 c227 mo332 mo333 bb_x245 c261 mo334 q_x322 c335 r_x337 q_x337 r_x362 q_x362 ex363))⟩) ea353 (by rw [show x362 = x337 from (qr432 hiv4 r_kv8 r_kv9 r_kv10 hnf r_x12 mo323 mo324 mo325 mo326 mo327 mo328 mo329 mo330 mo331 q_x79 c89 c227 mo332 mo333 bb_x245 c261 mo334 q_x322 c335 r_x337 q_x337 r_x362 q_x362 ex363), el356]; exact ⟨(qr439 hiv4 r_kv8 r_kv9 r_kv10 hnf r_x12 mo323 mo324 mo325 mo326 mo327 mo328 mo329 p_x52 mo330 mo331 q_x79 c89 c227 mo332 mo333 bb_x245 c261 mo334 p_x304 q_x322 c335 r_x337 q_x337 r_x362 q_x362 ex363), (qr440 hiv4 r_kv8 r_kv9 r_kv10 hnf r_x12 mo323 mo324 mo325 mo326 mo327 mo328 mo329 p_x52 mo330 mo331 q_x79 c89 c227 mo332 mo333 bb_x245 c261 mo334 p_x304 q_x322 c335 r_x337 q_x337 r_x362 q_x362 ex363), Or.inl rfl⟩)) (fun z _ hz => Or.inl (by rw [eS364] at hz; exact hs_no2 (by decide) z hz)) hG
          have hn := rn_c eS364 (by decide) hn
          have el342 := el_ob eS364 o_a7 o_a339 (by decide) el342
          have el347 := el_ob eS364 o_a7 o_a344 (by decide) el347
          have el356 := el_ob eS364 o_a7 o_a353 (by decide) el356
          have hI := hIn
          have f0 := fr_I eS364 g0 f0 o_a7 (by decide)
          have d_kv8 := rd_Ij eS364 (by decide) d_kv8
          have d_kv9 := rd_Ij eS364 (by decide) d_kv9
          have d_kv10 := rd_Ij eS364 (by decide) d_kv10
          have d_x322 := rd_Ik eS364 o_a7 o_v0 (by decide) d_x322
          have d_kv309 := rd_Ik eS364 o_a7 o_v0 (by decide) d_kv309
          have d_kv321 := rd_Ik eS364 o_a7 o_v0 (by decide) d_kv321
          have d_x363 := rd_Is eS364 (rfl : x363 = x363)
          have ea7 := rf_I eS364 ea7
          have ea339 := rf_I eS364 ea339
          have ea344 := rf_I eS364 ea344
          have ea349 := rf_I eS364 ea349
          have ea353 := rf_I eS364 ea353
          have ea358 := rf_I eS364 ea358
          have l_a339 := ln_I eS364 l_a339
          have l_a344 := ln_I eS364 l_a344
          have l_a349 := ln_I eS364 l_a349
          have l_a353 := ln_I eS364 l_a353
          have l_a358 := ln_I eS364 l_a358
          have g0 := gr_I eS364 g0
          have o_a339 := ob_I eS364 o_a339
          have o_a344 := ob_I eS364 o_a344
          have o_a349 := ob_I eS364 o_a349
          have o_a353 := ob_I eS364 o_a353
          have o_a358 := ob_I eS364 o_a358
          have o_a7 := ob_I eS364 o_a7
          have o_v0 := ob_I eS364 o_v0
          exact hq _ hI g0 f0 ⟨hG, hn, (by have t : x322 = 5 → 0 < kv309 := (qr441 hiv4 hiv6 hO r_kv8 r_kv9 r_kv10 hnf r_x12 ph0_S14 mo323 mo324 ph0_S22 mo325 mo326 hiv29 ph0_S31 mo327 ph0_S41 mo328 ph0_S53 mo329 ph0_S67 mo330 mo331 q_x79 c89 c227 hiv228 ph0_S230 mo332 hiv244 ph0_S246 mo333 bb_x245 c261 ph0_S305 mo334 q_x322 c335 r_x337 q_x337 r_x362 q_x362 ex363); rw [d_x322, d_kv309] at t; exact t), (by have t : x322 = 5 ∨ ¬ iv4 = 5 := (qr442 hiv4 r_kv8 r_kv9 r_kv10 hnf r_x12 mo323 mo324 mo325 mo326 mo327 mo328 mo329 mo330 mo331 q_x79 c89 c227 mo332 mo333 bb_x245 c261 mo334 q_x322 c335 r_x337 q_x337 r_x362 q_x362 ex363); rw [di_9, d_x322] at t; exact t), (by have t : iv2 ≤ kv321 ∧ (x322 = 4 → iv2 < kv321 ∨ iv4 = 4) := (qr443 r_kv1 hiv2 hiv4 r_kv8 r_kv9 r_kv10 hnf r_x12 mo323 r_kv19 ph2_S14 mo324 hiv20 mo325 ph2_S22 mo326 mo327 r_kv39 ph2_S31 mo328 r_kv51 ph2_S41 mo329 r_kv64 ph2_S53 hiv65 mo330 ph2_S67 mo331 q_x79 c89 c227 mo332 r_kv243 ph2_S230 mo333 r_kv260 ph2_S246 bb_x245 c261 mo334 r_kv321 ph2_S305 q_x322 c335 r_x337 q_x337 r_x362 q_x362 ex363); rw [di_8, di_9, d_kv321, d_x322] at t; exact t)⟩
        · exact hq _ hI g0 f0 ⟨hG, hn, (by have t : x322 = 5 → 0 < kv309 := (qr444 hiv4 hiv6 hO r_kv8 r_kv9 r_kv10 hnf r_x12 ph0_S14 mo323 mo324 ph0_S22 mo325 mo326 hiv29 ph0_S31 mo327 ph0_S41 mo328 ph0_S53 mo329 ph0_S67 mo330 mo331 q_x79 c89 c227 hiv228 ph0_S230 mo332 hiv244 ph0_S246 mo333 bb_x245 c261 ph0_S305 mo334 q_x322 c335); rw [d_x322, d_kv309] at t; exact t), (by have t : x322 = 5 ∨ ¬ iv4 = 5 := (qr445 hiv4 r_kv8 r_kv9 r_kv10 hnf r_x12 mo323 mo324 mo325 mo326 mo327 mo328 mo329 mo330 mo331 q_x79 c89 c227 mo332 mo333 bb_x245 c261 mo334 q_x322 c335); rw [di_9, d_x322] at t; exact t), (by have t : iv2 ≤ kv321 ∧ (x322 = 4 → iv2 < kv321 ∨ iv4 = 4) := (qr446 r_kv1 hiv2 hiv4 r_kv8 r_kv9 r_kv10 hnf r_x12 mo323 r_kv19 ph2_S14 mo324 hiv20 mo325 ph2_S22 mo326 mo327 r_kv39 ph2_S31 mo328 r_kv51 ph2_S41 mo329 r_kv64 ph2_S53 hiv65 mo330 ph2_S67 mo331 q_x79 c89 c227 mo332 r_kv243 ph2_S230 mo333 r_kv260 ph2_S246 bb_x245 c261 mo334 r_kv321 ph2_S305 q_x322 c335); rw [di_8, di_9, d_kv321, d_x322] at t; exact t)⟩
    · obtain ⟨iv365, hiv365⟩ : ∃ z : Int32, z = kv64 := ⟨_, rfl⟩
      have d_iv365 := hiv365.trans d_kv64
      have do365_iv365 := d_iv365
      have do365_x79 := d_x79
      have do365_kv71 := d_kv71
      refine m_X11_flaw hI o_v0 (qr447 hiv4 r_kv8 r_kv9 r_kv10 hnf r_x12 mo80 mo81 mo82 mo83 mo84 mo85 mo86 mo87 mo88 q_x79 c89 c227) hG (by have t : x79 = 5 → 0 < kv71 := (qr448 hiv4 hiv6 hO r_kv8 r_kv9 r_kv10 hnf r_x12 ph0_S14 mo80 mo81 ph0_S22 mo82 mo83 hiv29 ph0_S31 mo84 ph0_S41 mo85 ph0_S53 mo86 ph0_S67 mo87 mo88 q_x79 c89 c227); rw [d_x79, d_kv71] at t; exact t) (fun S367 hJ g368 fc369 p_S367 => ?_)
      obtain ⟨hG, pg0_S367, pg1_S367, pg2_S367, pg3_S367⟩ := p_S367
      have hn := rn_fr fc369 g368 hI o_v0 (by decide) hn
      have hI := hJ
      have d_kv8 := d_kv8.trans (fri_at fc369 (by decide) (by decide) o_a7).symm
      have d_kv9 := d_kv9.trans (fri_at fc369 (by decide) (by decide) o_a7).symm
      have d_kv10 := d_kv10.trans (fri_at fc369 (by decide) (by decide) o_a7).symm
      have d_x12 := d_x12.trans (fri_at fc369 (by decide) (by decide) o_a7).symm
      have d_kv64 := d_kv64.trans (fri_at fc369 (by decide) (by decide) o_v0).symm
      have ea7 := (frr_at fc369 (by decide) (by decide) o_v0).trans ea7
      have f0 := fri_tr (S := S67) g0 f0 fc369 (by decide) (by decide)
      have o_a7 := gr_ob g368 o_a7
      have o_v0 := gr_ob g368 o_v0
      have g0 := gr_tr (T := S67) g0 g368
      obtain ⟨kv370, d_kv370⟩ : ∃ z : Int32, z = fI S367 v0 9 := ⟨_, rfl⟩
      obtain ⟨kv371, d_kv371⟩ : ∃ z : Int32, z = fI S367 v0 13 := ⟨_, rfl⟩
      have ph0_S367 : kv370 = 5 → 0 < kv371 := by rw [d_kv370, d_kv371]; exact pg0_S367
      have ph1_S367 : kv370 = 5 ∨ ¬ x79 = 5 := by rw [do365_x79, d_kv370]; exact pg1_S367
      have mo372 : kv370 = 5 ∨ ¬ kv3 = 5 := ph1_S367.elim Or.inl (fun h => Or.inr (mo80.resolve_left h))
      have mo373 : kv370 = 5 ∨ ¬ x12 = (12 : Int32) := ph1_S367.elim Or.inl (fun h => Or.inr (mo81.resolve_left h))
      have mo374 : kv370 = 5 ∨ ¬ kv17 = 5 := ph1_S367.elim Or.inl (fun h => Or.inr (mo82.resolve_left h))
      have mo375 : kv370 = 5 ∨ (0 ≤ x21 ∧ x21 < kv9) := ph1_S367.elim Or.inl (fun h => Or.inr (mo83.resolve_left h))
      have mo376 : kv370 = 5 ∨ ¬ kv25 = 5 := ph1_S367.elim Or.inl (fun h => Or.inr (mo84.resolve_left h))
      have mo377 : kv370 = 5 ∨ ¬ kv34 = 5 := ph1_S367.elim Or.inl (fun h => Or.inr (mo85.resolve_left h))
      have mo378 : kv370 = 5 ∨ ¬ kv44 = 5 := ph1_S367.elim Or.inl (fun h => Or.inr (mo86.resolve_left h))
      have mo379 : kv370 = 5 ∨ ¬ kv56 = 5 := ph1_S367.elim Or.inl (fun h => Or.inr (mo87.resolve_left h))
      have mo380 : kv370 = 5 ∨ (0 ≤ x66 ∧ x66 < kv9) := ph1_S367.elim Or.inl (fun h => Or.inr (mo88.resolve_left h))
      have ph2_S367 : iv365 ≤ kv64 ∧ (kv370 = 4 → iv365 < kv64 ∨ x79 = 4) := by rw [do365_iv365, do365_x79, d_kv64, d_kv370]; exact pg2_S367
      have ph3_S367 : kv370 = 5 := by rw [d_kv370]; exact pg3_S367
      intro _
      refine u_X11_readRoad_62 ?_
      refine ⟨o_v0, ?_⟩
      obtain ⟨iv381, hiv381⟩ : ∃ z : Int32, z = kv371 := ⟨_, rfl⟩
      have d_iv381 := hiv381.trans d_kv371
      have do381_kv64 := d_kv64
      have do381_kv370 := d_kv370
      have do381_iv381 := d_iv381
      refine m_X11_goesOn hI o_v0 hG (by have t : kv370 = 5 → 0 < kv371 := (qr449 hiv4 hiv6 hO r_kv8 r_kv9 r_kv10 hnf r_x12 ph0_S14 mo372 mo373 ph0_S22 mo374 mo375 hiv29 ph0_S31 mo376 ph0_S41 mo377 ph0_S53 mo378 ph0_S67 mo379 mo380 q_x79 c89 c227 ph0_S367 ph1_S367 ph3_S367); rw [d_kv370, d_kv371] at t; exact t) (fun S383 hJ g384 fc385 p_S383 => ?_)
      obtain ⟨hG, pg0_S383, pg1_S383, pg2_S383⟩ := p_S383
      have hn := rn_fr fc385 g384 hI o_v0 (by decide) hn
      have hI := hJ
      have d_kv8 := d_kv8.trans (fri_at fc385 (by decide) (by decide) o_a7).symm
      have d_kv9 := d_kv9.trans (fri_at fc385 (by decide) (by decide) o_a7).symm
      have d_kv10 := d_kv10.trans (fri_at fc385 (by decide) (by decide) o_a7).symm
      have d_x12 := d_x12.trans (fri_at fc385 (by decide) (by decide) o_a7).symm
      have d_kv371 := d_kv371.trans (fri_at fc385 (by decide) (by decide) o_v0).symm
      have ea7 := (frr_at fc385 (by decide) (by decide) o_v0).trans ea7
      have f0 := fri_tr (S := S367) g0 f0 fc385 (by decide) (by decide)
      have o_a7 := gr_ob g384 o_a7
      have o_v0 := gr_ob g384 o_v0
      have g0 := gr_tr (T := S367) g0 g384
      obtain ⟨kv386, d_kv386⟩ : ∃ z : Int32, z = fI S383 v0 9 := ⟨_, rfl⟩
      have ph0_S383 : kv386 = 5 → 0 < kv371 := by rw [d_kv386, d_kv371]; exact pg0_S383
      have ph1_S383 : kv386 = 5 ∨ ¬ kv370 = 5 := by rw [do381_kv370, d_kv386]; exact pg1_S383
      have mo387 : kv386 = 5 ∨ ¬ kv3 = 5 := ph1_S383.elim Or.inl (fun h => Or.inr (mo372.resolve_left h))
      have mo388 : kv386 = 5 ∨ ¬ x12 = (12 : Int32) := ph1_S383.elim Or.inl (fun h => Or.inr (mo373.resolve_left h))
      have mo389 : kv386 = 5 ∨ ¬ kv17 = 5 := ph1_S383.elim Or.inl (fun h => Or.inr (mo374.resolve_left h))
      have mo390 : kv386 = 5 ∨ (0 ≤ x21 ∧ x21 < kv9) := ph1_S383.elim Or.inl (fun h => Or.inr (mo375.resolve_left h))
      have mo391 : kv386 = 5 ∨ ¬ kv25 = 5 := ph1_S383.elim Or.inl (fun h => Or.inr (mo376.resolve_left h))
      have mo392 : kv386 = 5 ∨ ¬ kv34 = 5 := ph1_S383.elim Or.inl (fun h => Or.inr (mo377.resolve_left h))
      have mo393 : kv386 = 5 ∨ ¬ kv44 = 5 := ph1_S383.elim Or.inl (fun h => Or.inr (mo378.resolve_left h))
      have mo394 : kv386 = 5 ∨ ¬ kv56 = 5 := ph1_S383.elim Or.inl (fun h => Or.inr (mo379.resolve_left h))
      have mo395 : kv386 = 5 ∨ (0 ≤ x66 ∧ x66 < kv9) := ph1_S383.elim Or.inl (fun h => Or.inr (mo380.resolve_left h))
      have mo396 : kv386 = 5 ∨ ¬ x79 = 5 := ph1_S383.elim Or.inl (fun h => Or.inr (ph1_S367.resolve_left h))
      obtain ⟨kv397, d_kv397⟩ : ∃ z : Int32, z = fI S383 v0 8 := ⟨_, rfl⟩
      have r_kv397 : (0 : Int32) ≤ kv397 ∧ kv397 ≤ (900 : Int32) := by rw [d_kv397]; exact nu 25 rfl hI o_v0
      have ph2_S383 : kv64 ≤ kv397 ∧ (kv386 = 4 → kv64 < kv397 ∨ kv370 = 4) := by rw [do381_kv64, do381_kv370, d_kv397, d_kv386]; exact pg2_S383
      intro _
      obtain ⟨iv398, hiv398⟩ : ∃ z : Int32, z = kv371 := ⟨_, rfl⟩
      have d_iv398 := hiv398.trans d_kv371
      have do398_kv397 := d_kv397
      have do398_kv386 := d_kv386
      have do398_iv398 := d_iv398
      refine m_X11_eatsWord hI o_v0 (by decide) hG (by have t : kv386 = 5 → 0 < kv371 := (qr450 hiv4 hiv6 hO r_kv8 r_kv9 r_kv10 hnf r_x12 ph0_S14 mo387 mo388 ph0_S22 mo389 mo390 hiv29 ph0_S31 mo391 ph0_S41 mo392 ph0_S53 mo393 ph0_S67 mo394 mo395 q_x79 c89 c227 ph0_S367 mo396 ph3_S367 hiv381 ph0_S383 ph1_S383); rw [d_kv386, d_kv371] at t; exact t) (fun x399 S400 hJ g401 fc402 b_x399 p_x399 => ?_)
      obtain ⟨hG, pg0_S400, pg1_S400, pg2_S400⟩ := p_x399
      have hn := rn_fr fc402 g401 hI o_v0 (by decide) hn
      have hI := hJ
      have d_kv8 := d_kv8.trans (fri_at fc402 (by decide) (by decide) o_a7).symm
      have d_kv9 := d_kv9.trans (fri_at fc402 (by decide) (by decide) o_a7).symm
      have d_kv10 := d_kv10.trans (fri_at fc402 (by decide) (by decide) o_a7).symm
      have d_x12 := d_x12.trans (fri_at fc402 (by decide) (by decide) o_a7).symm
      have d_kv371 := d_kv371.trans (fri_at fc402 (by decide) (by decide) o_v0).symm
      have ea7 := (frr_at fc402 (by decide) (by decide) o_v0).trans ea7
      have f0 := fri_tr (S := S383) g0 f0 fc402 (by decide) (by decide)
      have o_a7 := gr_ob g401 o_a7
      have o_v0 := gr_ob g401 o_v0
      have g0 := gr_tr (T := S383) g0 g401
      obtain ⟨kv403, d_kv403⟩ : ∃ z : Int32, z = fI S400 v0 9 := ⟨_, rfl⟩
      have ph0_S400 : kv403 = 5 → 0 < kv371 := by rw [d_kv403, d_kv371]; exact pg0_S400
      have ph1_S400 : kv403 = 5 ∨ ¬ kv386 = 5 := by rw [do398_kv386, d_kv403]; exact pg1_S400
      have mo404 : kv403 = 5 ∨ ¬ kv3 = 5 := ph1_S400.elim Or.inl (fun h => Or.inr (mo387.resolve_left h))
      have mo405 : kv403 = 5 ∨ ¬ x12 = (12 : Int32) := ph1_S400.elim Or.inl (fun h => Or.inr (mo388.resolve_left h))
      have mo406 : kv403 = 5 ∨ ¬ kv17 = 5 := ph1_S400.elim Or.inl (fun h => Or.inr (mo389.resolve_left h))
      have mo407 : kv403 = 5 ∨ (0 ≤ x21 ∧ x21 < kv9) := ph1_S400.elim Or.inl (fun h => Or.inr (mo390.resolve_left h))
      have mo408 : kv403 = 5 ∨ ¬ kv25 = 5 := ph1_S400.elim Or.inl (fun h => Or.inr (mo391.resolve_left h))
      have mo409 : kv403 = 5 ∨ ¬ kv34 = 5 := ph1_S400.elim Or.inl (fun h => Or.inr (mo392.resolve_left h))
      have mo410 : kv403 = 5 ∨ ¬ kv44 = 5 := ph1_S400.elim Or.inl (fun h => Or.inr (mo393.resolve_left h))
      have mo411 : kv403 = 5 ∨ ¬ kv56 = 5 := ph1_S400.elim Or.inl (fun h => Or.inr (mo394.resolve_left h))
      have mo412 : kv403 = 5 ∨ (0 ≤ x66 ∧ x66 < kv9) := ph1_S400.elim Or.inl (fun h => Or.inr (mo395.resolve_left h))
      have mo413 : kv403 = 5 ∨ ¬ x79 = 5 := ph1_S400.elim Or.inl (fun h => Or.inr (mo396.resolve_left h))
      have mo414 : kv403 = 5 ∨ ¬ kv370 = 5 := ph1_S400.elim Or.inl (fun h => Or.inr (ph1_S383.resolve_left h))
      obtain ⟨kv415, d_kv415⟩ : ∃ z : Int32, z = fI S400 v0 8 := ⟨_, rfl⟩
      have r_kv415 : (0 : Int32) ≤ kv415 ∧ kv415 ≤ (900 : Int32) := by rw [d_kv415]; exact nu 25 rfl hI o_v0
      have ph2_S400 : kv397 ≤ kv415 ∧ (kv403 = 4 → kv397 < kv415 ∨ kv386 = 4) := by rw [do398_kv397, do398_kv386, d_kv415, d_kv403]; exact pg2_S400
      intro _ _
      have bb_x399 : x399 = 0 ∨ x399 = 1 := b_x399
      refine ⟨fun c416 => ?_, fun c416 => ?_⟩
      · refine u_X11_readRoad_85 ?_
        refine ⟨o_v0, ?_⟩
        intro x417 ex417
        have q_x417 : x417 = kv403 := ex417.trans d_kv403.symm
        have mo418 : x417 = 5 ∨ ¬ kv3 = 5 := mo404.imp_left (fun z => q_x417.trans z)
        have mo419 : x417 = 5 ∨ ¬ x12 = (12 : Int32) := mo405.imp_left (fun z => q_x417.trans z)
        have mo420 : x417 = 5 ∨ ¬ kv17 = 5 := mo406.imp_left (fun z => q_x417.trans z)
        have mo421 : x417 = 5 ∨ (0 ≤ x21 ∧ x21 < kv9) := mo407.imp_left (fun z => q_x417.trans z)
        have mo422 : x417 = 5 ∨ ¬ kv25 = 5 := mo408.imp_left (fun z => q_x417.trans z)
        have mo423 : x417 = 5 ∨ ¬ kv34 = 5 := mo409.imp_left (fun z => q_x417.trans z)
        have mo424 : x417 = 5 ∨ ¬ kv44 = 5 := mo410.imp_left (fun z => q_x417.trans z)
        have mo425 : x417 = 5 ∨ ¬ kv56 = 5 := mo411.imp_left (fun z => q_x417.trans z)
        have mo426 : x417 = 5 ∨ (0 ≤ x66 ∧ x66 < kv9) := mo412.imp_left (fun z => q_x417.trans z)
        have mo427 : x417 = 5 ∨ ¬ x79 = 5 := mo413.imp_left (fun z => q_x417.trans z)
        have mo428 : x417 = 5 ∨ ¬ kv370 = 5 := mo414.imp_left (fun z => q_x417.trans z)
        have mo429 : x417 = 5 ∨ ¬ kv386 = 5 := ph1_S400.imp_left (fun z => q_x417.trans z)
        have d_x417 := ex417
        refine ⟨fun c430 => ?_, fun c430 => ?_⟩
        · refine ⟨a7, ea7, ?_⟩
          refine ⟨o_a7, ?_⟩
          intro x432 ex432
          have r_x432 : (0 : Int32) ≤ x432 ∧ x432 ≤ (12 : Int32) := by rw [ex432]; exact nu 19 rfl hI o_a7
          have q_x432 : x432 = x12 := ex432.trans d_x12.symm
          have d_x432 := ex432
          refine ⟨a7, ea7, ?_⟩
          refine ⟨o_a7, ?_⟩
          obtain ⟨a434, ea434, o_a434, l_a434⟩ := shl 35 rfl hI o_a7
          refine ⟨a434, ea434, ?_⟩
          refine ⟨o_a434, ?_⟩
          have i435 : vp_in x432 (hN _ a434) := (vin l_a434 (m := 12) (by decide) (qr451 hiv4 r_kv8 r_kv9 r_kv10 hnf r_x12 mo418 mo419 mo420 mo421 mo422 mo423 mo424 mo425 mo426 q_x79 c89 c227 mo427 ph3_S367 mo428 mo429 bb_x399 c416 q_x417 c430 r_x432 q_x432))
          refine ⟨i435, ?_⟩
          intro S436 eS436
          have hIn : IV S436 := by rw [eS436]; exact iv10_aI hI o_a7 (rg_nw hG ea7) ea434 o_a434 (by decide)
          have hG := rg_a (jj := 13) (x := x432) eS436 hI ea7 o_a7 ea434 o_a434 (by decide) (h1_one (c := 3) (lo := 0) (hi := 7) (hf := 2) (by decide) d_x432.symm) (h2_no (y := 0) (by decide)) hG
          have hn := rn_11 eS436 hI o_v0 o_a434 (by decide) hn
          have hI := hIn
          have f0 := fr_A eS436 g0 f0 o_a434 (by decide)
          have d_kv8 := rd_Ik eS436 o_a434 o_a7 (by decide) d_kv8
          have d_kv9 := rd_Ik eS436 o_a434 o_a7 (by decide) d_kv9
          have d_kv10 := rd_Ik eS436 o_a434 o_a7 (by decide) d_kv10
          have d_x432 := rd_Ik eS436 o_a434 o_a7 (by decide) d_x432
          have d_kv371 := rd_Ik eS436 o_a434 o_v0 (by decide) d_kv371
          have d_x417 := rd_Ik eS436 o_a434 o_v0 (by decide) d_x417
          have d_kv415 := rd_Ik eS436 o_a434 o_v0 (by decide) d_kv415
          have ea7 := rf_I eS436 ea7
          have ea434 := rf_I eS436 ea434
          have l_a434 := ln_I eS436 l_a434
          have g0 := gr_I eS436 g0
          have o_a434 := ob_I eS436 o_a434
          have o_a7 := ob_I eS436 o_a7
          have o_v0 := ob_I eS436 o_v0
          have el437 : fI S436 a434 x432.toNatClampNeg = x21 := by rw [eS436]; exact u2_self _ _ _ _
          refine ⟨a7, ea7, ?_⟩
          refine ⟨o_a7, ?_⟩
          obtain ⟨a439, ea439, o_a439, l_a439⟩ := shl 36 rfl hI o_a7
          refine ⟨a439, ea439, ?_⟩
          refine ⟨o_a439, ?_⟩
          have i440 : vp_in x432 (hN _ a439) := (vin l_a439 (m := 12) (by decide) (qr451 hiv4 r_kv8 r_kv9 r_kv10 hnf r_x12 mo418 mo419 mo420 mo421 mo422 mo423 mo424 mo425 mo426 q_x79 c89 c227 mo427 ph3_S367 mo428 mo429 bb_x399 c416 q_x417 c430 r_x432 q_x432))
          refine ⟨i440, ?_⟩
          intro S441 eS441
          have hIn : IV S441 := by rw [eS441]; exact iv10_aI hI o_a7 (rg_nw hG ea7) ea439 o_a439 (by decide)
          have hG := rg_a (jj := 14) (x := x432) eS441 hI ea7 o_a7 ea439 o_a439 (by decide) (h1_one (c := 3) (lo := 0) (hi := 7) (hf := 2) (by decide) d_x432.symm) (h2_no (y := 0) (by decide)) hG
          have hn := rn_11 eS441 hI o_v0 o_a439 (by decide) hn
          have el437 := el_ar eS441 (ow_ne hI o_a7 (by decide) o_a7 (by decide) ea439 ea434 (by decide)) el437
          have hI := hIn
          have f0 := fr_A eS441 g0 f0 o_a439 (by decide)
          have d_kv8 := rd_Ik eS441 o_a439 o_a7 (by decide) d_kv8
          have d_kv9 := rd_Ik eS441 o_a439 o_a7 (by decide) d_kv9
          have d_kv10 := rd_Ik eS441 o_a439 o_a7 (by decide) d_kv10
          have d_x432 := rd_Ik eS441 o_a439 o_a7 (by decide) d_x432
          have d_kv371 := rd_Ik eS441 o_a439 o_v0 (by decide) d_kv371
          have d_x417 := rd_Ik eS441 o_a439 o_v0 (by decide) d_x417
          have d_kv415 := rd_Ik eS441 o_a439 o_v0 (by decide) d_kv415
          have ea7 := rf_I eS441 ea7
          have ea434 := rf_I eS441 ea434
          have ea439 := rf_I eS441 ea439
          have l_a434 := ln_I eS441 l_a434
          have l_a439 := ln_I eS441 l_a439
          have g0 := gr_I eS441 g0
          have o_a434 := ob_I eS441 o_a434
          have o_a439 := ob_I eS441 o_a439
          have o_a7 := ob_I eS441 o_a7
          have o_v0 := ob_I eS441 o_v0
          have el442 : fI S441 a439 x432.toNatClampNeg = x66 := by rw [eS441]; exact u2_self _ _ _ _
          refine ⟨a7, ea7, ?_⟩
          refine ⟨o_a7, ?_⟩
          obtain ⟨a444, ea444, o_a444, l_a444⟩ := shl 37 rfl hI o_a7
          refine ⟨a444, ea444, ?_⟩
          refine ⟨o_a444, ?_⟩
          have i445 : vp_in x432 (hN _ a444) := (vin l_a444 (m := 12) (by decide) (qr451 hiv4 r_kv8 r_kv9 r_kv10 hnf r_x12 mo418 mo419 mo420 mo421 mo422 mo423 mo424 mo425 mo426 q_x79 c89 c227 mo427 ph3_S367 mo428 mo429 bb_x399 c416 q_x417 c430 r_x432 q_x432))
          refine ⟨i445, ?_⟩
          intro S446 eS446
          have hIn : IV S446 := by rw [eS446]; exact iv10_aI hI o_a7 (rg_nw hG ea7) ea444 o_a444 (by decide)
          have hG := rg_a (jj := 15) (x := x432) eS446 hI ea7 o_a7 ea444 o_a444 (by decide) (h1_no (by decide)) (h2_no (y := 0) (by decide)) hG
          have hn := rn_11 eS446 hI o_v0 o_a444 (by decide) hn
          have el437 := el_ar eS446 (ow_ne hI o_a7 (by decide) o_a7 (by decide) ea444 ea434 (by decide)) el437
          have el442 := el_ar eS446 (ow_ne hI o_a7 (by decide) o_a7 (by decide) ea444 ea439 (by decide)) el442
          have hI := hIn
          have f0 := fr_A eS446 g0 f0 o_a444 (by decide)
          have d_kv8 := rd_Ik eS446 o_a444 o_a7 (by decide) d_kv8
          have d_kv9 := rd_Ik eS446 o_a444 o_a7 (by decide) d_kv9
          have d_kv10 := rd_Ik eS446 o_a444 o_a7 (by decide) d_kv10
          have d_x432 := rd_Ik eS446 o_a444 o_a7 (by decide) d_x432
          have d_kv371 := rd_Ik eS446 o_a444 o_v0 (by decide) d_kv371
          have d_x417 := rd_Ik eS446 o_a444 o_v0 (by decide) d_x417
          have d_kv415 := rd_Ik eS446 o_a444 o_v0 (by decide) d_kv415
          have ea7 := rf_I eS446 ea7
          have ea434 := rf_I eS446 ea434
          have ea439 := rf_I eS446 ea439
          have ea444 := rf_I eS446 ea444
          have l_a434 := ln_I eS446 l_a434
          have l_a439 := ln_I eS446 l_a439
          have l_a444 := ln_I eS446 l_a444
          have g0 := gr_I eS446 g0
          have o_a434 := ob_I eS446 o_a434
          have o_a439 := ob_I eS446 o_a439
          have o_a444 := ob_I eS446 o_a444
          have o_a7 := ob_I eS446 o_a7
          have o_v0 := ob_I eS446 o_v0
          refine ⟨a7, ea7, ?_⟩
          refine ⟨o_a7, ?_⟩
          obtain ⟨a448, ea448, o_a448, l_a448⟩ := shl 38 rfl hI o_a7
          refine ⟨a448, ea448, ?_⟩
          refine ⟨o_a448, ?_⟩
          have i449 : vp_in x432 (hN _ a448) := (vin l_a448 (m := 12) (by decide) (qr451 hiv4 r_kv8 r_kv9 r_kv10 hnf r_x12 mo418 mo419 mo420 mo421 mo422 mo423 mo424 mo425 mo426 q_x79 c89 c227 mo427 ph3_S367 mo428 mo429 bb_x399 c416 q_x417 c430 r_x432 q_x432))
          refine ⟨i449, ?_⟩
          intro S450 eS450
          have hIn : IV S450 := by rw [eS450]; exact iv10_aI hI o_a7 (rg_nw hG ea7) ea448 o_a448 (by decide)
          have hG := rg_a (jj := 16) (x := x432) eS450 hI ea7 o_a7 ea448 o_a448 (by decide) (h1_one (c := 3) (lo := 1) (hi := 60) (hf := 99) (by decide) d_x432.symm) (h2_no (y := 0) (by decide)) hG
          have hn := rn_11 eS450 hI o_v0 o_a448 (by decide) hn
          have el437 := el_ar eS450 (ow_ne hI o_a7 (by decide) o_a7 (by decide) ea448 ea434 (by decide)) el437
          have el442 := el_ar eS450 (ow_ne hI o_a7 (by decide) o_a7 (by decide) ea448 ea439 (by decide)) el442
          have hI := hIn
          have f0 := fr_A eS450 g0 f0 o_a448 (by decide)
          have d_kv8 := rd_Ik eS450 o_a448 o_a7 (by decide) d_kv8
          have d_kv9 := rd_Ik eS450 o_a448 o_a7 (by decide) d_kv9
          have d_kv10 := rd_Ik eS450 o_a448 o_a7 (by decide) d_kv10
          have d_x432 := rd_Ik eS450 o_a448 o_a7 (by decide) d_x432
          have d_kv371 := rd_Ik eS450 o_a448 o_v0 (by decide) d_kv371
          have d_x417 := rd_Ik eS450 o_a448 o_v0 (by decide) d_x417
          have d_kv415 := rd_Ik eS450 o_a448 o_v0 (by decide) d_kv415
          have ea7 := rf_I eS450 ea7
          have ea434 := rf_I eS450 ea434
          have ea439 := rf_I eS450 ea439
          have ea444 := rf_I eS450 ea444
          have ea448 := rf_I eS450 ea448
          have l_a434 := ln_I eS450 l_a434
          have l_a439 := ln_I eS450 l_a439
          have l_a444 := ln_I eS450 l_a444
          have l_a448 := ln_I eS450 l_a448
          have g0 := gr_I eS450 g0
          have o_a434 := ob_I eS450 o_a434
          have o_a439 := ob_I eS450 o_a439
          have o_a444 := ob_I eS450 o_a444
          have o_a448 := ob_I eS450 o_a448
          have o_a7 := ob_I eS450 o_a7
          have o_v0 := ob_I eS450 o_v0
          have el451 : fI S450 a448 x432.toNatClampNeg = x52 := by rw [eS450]; exact u2_self _ _ _ _
          refine ⟨a7, ea7, ?_⟩
          refine ⟨o_a7, ?_⟩
          obtain ⟨a453, ea453, o_a453, l_a453⟩ := shl 39 rfl hI o_a7
          refine ⟨a453, ea453, ?_⟩
          refine ⟨o_a453, ?_⟩
          have i454 : vp_in x432 (hN _ a453) := (vin l_a453 (m := 12) (by decide) (qr451 hiv4 r_kv8 r_kv9 r_kv10 hnf r_x12 mo418 mo419 mo420 mo421 mo422 mo423 mo424 mo425 mo426 q_x79 c89 c227 mo427 ph3_S367 mo428 mo429 bb_x399 c416 q_x417 c430 r_x432 q_x432))
          refine ⟨i454, ?_⟩
          intro S455 eS455
          have hIn : IV S455 := by rw [eS455]; exact iv10_aI hI o_a7 (rg_nw hG ea7) ea453 o_a453 (by decide)
          have hG := rg_a (jj := 17) (x := x432) eS455 hI ea7 o_a7 ea453 o_a453 (by decide) (h1_no (by decide)) (h2_no (y := 0) (by decide)) hG
          have hn := rn_11 eS455 hI o_v0 o_a453 (by decide) hn
          have el437 := el_ar eS455 (ow_ne hI o_a7 (by decide) o_a7 (by decide) ea453 ea434 (by decide)) el437
          have el442 := el_ar eS455 (ow_ne hI o_a7 (by decide) o_a7 (by decide) ea453 ea439 (by decide)) el442
          have el451 := el_ar eS455 (ow_ne hI o_a7 (by decide) o_a7 (by decide) ea453 ea448 (by decide)) el451
          have hI := hIn
          have f0 := fr_A eS455 g0 f0 o_a453 (by decide)
          have d_kv8 := rd_Ik eS455 o_a453 o_a7 (by decide) d_kv8
          have d_kv9 := rd_Ik eS455 o_a453 o_a7 (by decide) d_kv9
          have d_kv10 := rd_Ik eS455 o_a453 o_a7 (by decide) d_kv10
          have d_x432 := rd_Ik eS455 o_a453 o_a7 (by decide) d_x432
          have d_kv371 := rd_Ik eS455 o_a453 o_v0 (by decide) d_kv371
          have d_x417 := rd_Ik eS455 o_a453 o_v0 (by decide) d_x417
          have d_kv415 := rd_Ik eS455 o_a453 o_v0 (by decide) d_kv415
          have ea7 := rf_I eS455 ea7
          have ea434 := rf_I eS455 ea434
          have ea439 := rf_I eS455 ea439
          have ea444 := rf_I eS455 ea444
          have ea448 := rf_I eS455 ea448
          have ea453 := rf_I eS455 ea453
          have l_a434 := ln_I eS455 l_a434
          have l_a439 := ln_I eS455 l_a439
          have l_a444 := ln_I eS455 l_a444
          have l_a448 := ln_I eS455 l_a448
          have l_a453 := ln_I eS455 l_a453
          have g0 := gr_I eS455 g0
          have o_a434 := ob_I eS455 o_a434
          have o_a439 := ob_I eS455 o_a439
          have o_a444 := ob_I eS455 o_a444
          have o_a448 := ob_I eS455 o_a448
          have o_a453 := ob_I eS455 o_a453
          have o_a7 := ob_I eS455 o_a7
          have o_v0 := ob_I eS455 o_v0
          refine ⟨a7, ea7, ?_⟩
          refine ⟨o_a7, ?_⟩
          intro x457 ex457
          have r_x457 : (0 : Int32) ≤ x457 ∧ x457 ≤ (12 : Int32) := by rw [ex457]; exact nu 19 rfl hI o_a7
          have q_x457 : x457 = x432 := ex457.trans d_x432.symm
          have d_x457 := ex457
          intro x458 ex458
          intro S459 eS459
          have hIn : IV S459 := by rw [eS459]; exact iv10_sI hI o_a7 (rg_nw hG ea7) (nu_one (lo := (0 : Int32)) (hi := (12 : Int32)) (by decide) (qr452 hiv4 r_kv8 r_kv9 r_kv10 hnf r_x12 mo418 mo419 mo420 mo421 mo422 mo423 mo424 mo425 mo426 q_x79 c89 c227 mo427 ph3_S367 mo428 mo429 bb_x399 c416 q_x417 c430 r_x432 q_x432 r_x457 q_x457 ex458))
          have hG := rg_inc (c := 3) (y := x457) eS459 hI ea7 o_a7 d_x457.symm (qr453 hiv4 r_kv8 r_kv9 r_kv10 hnf r_x12 mo418 mo419 mo420 mo421 mo422 mo423 mo424 mo425 mo426 q_x79 c89 c227 mo427 ph3_S367 mo428 mo429 bb_x399 c416 q_x417 c430 r_x432 q_x432 r_x457 q_x457 ex458) (qr454 hiv4 r_kv8 r_kv9 r_kv10 hnf r_x12 mo418 mo419 mo420 mo421 mo422 mo423 mo424 mo425 mo426 q_x79 c89 c227 mo427 ph3_S367 mo428 mo429 bb_x399 c416 q_x417 c430 r_x432 q_x432 r_x457 q_x457 ex458) (hn_3 ea434 (by rw [show x457 = x432 from (qr455 hiv4 r_kv8 r_kv9 r_kv10 hnf r_x12 mo418 mo419 mo420 mo421 mo422 mo423 mo424 mo425 mo426 q_x79 c89 c227 mo427 ph3_S367 mo428 mo429 bb_x399 c416 q_x417 c430 r_x432 q_x432 r_x457 q_x457 ex458), el437]; exact ⟨(qr456 hiv4 r_kv8 r_kv9 r_kv10 hnf r_x12 mo418 mo419 mo420 mo421 mo422 mo423 mo424 mo425 mo426 q_x79 c89 c227 mo427 ph3_S367 mo428 mo429 bb_x399 c416 q_x417 c430 r_x432 q_x432 r_x457 q_x457 ex458), (qr457 hiv4 r_kv8 r_kv9 r_kv10 hnf r_x12 mo418 mo419 mo420 mo421 mo422 mo423 mo424 mo425 mo426 q_x79 c89 c227 mo427 ph3_S367 mo428 mo429 bb_x399 c416 q_x417 c430 r_x432 q_x432 r_x457 q_x457 ex458), Or.inr (by rw [← d_kv9]; exact (qr458 hiv4 r_kv8 r_kv9 r_kv10 hnf r_x12 mo418 mo419 mo420 mo421 mo422 mo423 mo424 mo425 mo426 q_x79 c89 c227 mo427 ph3_S367 mo428 mo429 bb_x399 c416 q_x417 c430 r_x432 q_x432 r_x457 q_x457 ex458))⟩) ea439 (by rw [show x457 = x432 from (qr455 hiv4 r_kv8 r_kv9 r_kv10 hnf r_x12 mo418 mo419 mo420 mo421 mo422 mo423 mo424 mo425 mo426 q_x79 c89 c227 mo427 ph3_S367 mo428 mo429 bb_x399 c416 q_x417 c430 r_x432 q_x432 r_x457 q_x457 ex458), el442]; exact ⟨(qr459 hiv4 r_kv8 r_kv9 r_kv10 hnf r_x12 mo418 mo419 mo420 mo421 mo422 mo423 mo424 mo425 mo426 q_x79 c89 c227 mo427 ph3_S367 mo428 mo429 bb_x399 c416 q_x417 c430 r_x432 q_x432 r_x457 q_x457 ex458), (qr460 hiv4 r_kv8 r_kv9 r_kv10 hnf r_x12 mo418 mo419 mo420 mo421 mo422 mo423 mo424 mo425 mo426 q_x79 c89 c227 mo427 ph3_S367 mo428 mo429 bb_x399 c416 q_x417 c430 r_x432 q_x432 r_x457 q_x457 ex458), Or.inr (by rw [← d_kv9]; exact (qr461 hiv4 r_kv8 r_kv9 r_kv10 hnf r_x12 mo418 mo419 mo420 mo421 mo422 mo423 mo424 mo425 mo426 q_x79 c89 c227 mo427 ph3_S367 mo428 mo429 bb_x399 c416 q_x417 c430 r_x432 q_x432 r_x457 q_x457 ex458))⟩) ea448 (by rw [show x457 = x432 from (qr455 hiv4 r_kv8 r_kv9 r_kv10 hnf r_x12 mo418 mo419 mo420 mo421 mo422 mo423 mo424 mo425 mo426 q_x79 c89 c227 mo427 ph3_S367 mo428 mo429 bb_x399 c416 q_x417 c430 r_x432 q_x432 r_x457 q_x457 ex458), el451]; exact ⟨(qr462 hiv4 r_kv8 r_kv9 r_kv10 hnf r_x12 mo418 mo419 mo420 mo421 mo422 mo423 mo424 p_x52 mo425 mo426 q_x79 c89 c227 mo427 ph3_S367 mo428 mo429 bb_x399 c416 q_x417 c430 r_x432 q_x432 r_x457 q_x457 ex458), (qr463 hiv4 r_kv8 r_kv9 r_kv10 hnf r_x12 mo418 mo419 mo420 mo421 mo422 mo423 mo424 p_x52 mo425 mo426 q_x79 c89 c227 mo427 ph3_S367 mo428 mo429 bb_x399 c416 q_x417 c430 r_x432 q_x432 r_x457 q_x457 ex458), Or.inl rfl⟩)) (fun z _ hz => Or.inl (by rw [eS459] at hz; exact hs_no2 (by decide) z hz)) hG
          have hn := rn_c eS459 (by decide) hn
          have el437 := el_ob eS459 o_a7 o_a434 (by decide) el437
          have el442 := el_ob eS459 o_a7 o_a439 (by decide) el442
          have el451 := el_ob eS459 o_a7 o_a448 (by decide) el451
          have hI := hIn
          have f0 := fr_I eS459 g0 f0 o_a7 (by decide)
          have d_kv8 := rd_Ij eS459 (by decide) d_kv8
          have d_kv9 := rd_Ij eS459 (by decide) d_kv9
          have d_kv10 := rd_Ij eS459 (by decide) d_kv10
          have d_kv371 := rd_Ik eS459 o_a7 o_v0 (by decide) d_kv371
          have d_x417 := rd_Ik eS459 o_a7 o_v0 (by decide) d_x417
          have d_kv415 := rd_Ik eS459 o_a7 o_v0 (by decide) d_kv415
          have d_x458 := rd_Is eS459 (rfl : x458 = x458)
          have ea7 := rf_I eS459 ea7
          have ea434 := rf_I eS459 ea434
          have ea439 := rf_I eS459 ea439
          have ea444 := rf_I eS459 ea444
          have ea448 := rf_I eS459 ea448
          have ea453 := rf_I eS459 ea453
          have l_a434 := ln_I eS459 l_a434
          have l_a439 := ln_I eS459 l_a439
          have l_a444 := ln_I eS459 l_a444
          have l_a448 := ln_I eS459 l_a448
          have l_a453 := ln_I eS459 l_a453
          have g0 := gr_I eS459 g0
          have o_a434 := ob_I eS459 o_a434
          have o_a439 := ob_I eS459 o_a439
          have o_a444 := ob_I eS459 o_a444
          have o_a448 := ob_I eS459 o_a448
          have o_a453 := ob_I eS459 o_a453
          have o_a7 := ob_I eS459 o_a7
          have o_v0 := ob_I eS459 o_v0
          exact hq _ hI g0 f0 ⟨hG, hn, (by have t : x417 = 5 → 0 < kv371 := (qr464 hiv4 hiv6 hO r_kv8 r_kv9 r_kv10 hnf r_x12 ph0_S14 mo418 mo419 ph0_S22 mo420 mo421 hiv29 ph0_S31 mo422 ph0_S41 mo423 ph0_S53 mo424 ph0_S67 mo425 mo426 q_x79 c89 c227 ph0_S367 mo427 ph3_S367 hiv381 ph0_S383 mo428 hiv398 ph0_S400 mo429 bb_x399 c416 q_x417 c430 r_x432 q_x432 r_x457 q_x457 ex458); rw [d_x417, d_kv371] at t; exact t), (by have t : x417 = 5 ∨ ¬ iv4 = 5 := (qr465 hiv4 r_kv8 r_kv9 r_kv10 hnf r_x12 mo418 mo419 mo420 mo421 mo422 mo423 mo424 mo425 mo426 q_x79 c89 c227 mo427 ph3_S367 mo428 mo429 bb_x399 c416 q_x417 c430 r_x432 q_x432 r_x457 q_x457 ex458); rw [di_9, d_x417] at t; exact t), (by have t : iv2 ≤ kv415 ∧ (x417 = 4 → iv2 < kv415 ∨ iv4 = 4) := (qr466 r_kv1 hiv2 hiv4 r_kv8 r_kv9 r_kv10 hnf r_x12 mo418 r_kv19 ph2_S14 mo419 hiv20 mo420 ph2_S22 mo421 mo422 r_kv39 ph2_S31 mo423 r_kv51 ph2_S41 mo424 r_kv64 ph2_S53 hiv65 mo425 ph2_S67 mo426 q_x79 c89 c227 hiv365 mo427 ph2_S367 ph3_S367 mo428 r_kv397 ph2_S383 mo429 r_kv415 ph2_S400 bb_x399 c416 q_x417 c430 r_x432 q_x432 r_x457 q_x457 ex458); rw [di_8, di_9, d_kv415, d_x417] at t; exact t)⟩
        · exact hq _ hI g0 f0 ⟨hG, hn, (by have t : x417 = 5 → 0 < kv371 := (qr467 hiv4 hiv6 hO r_kv8 r_kv9 r_kv10 hnf r_x12 ph0_S14 mo418 mo419 ph0_S22 mo420 mo421 hiv29 ph0_S31 mo422 ph0_S41 mo423 ph0_S53 mo424 ph0_S67 mo425 mo426 q_x79 c89 c227 ph0_S367 mo427 ph3_S367 hiv381 ph0_S383 mo428 hiv398 ph0_S400 mo429 bb_x399 c416 q_x417 c430); rw [d_x417, d_kv371] at t; exact t), (by have t : x417 = 5 ∨ ¬ iv4 = 5 := (qr468 hiv4 r_kv8 r_kv9 r_kv10 hnf r_x12 mo418 mo419 mo420 mo421 mo422 mo423 mo424 mo425 mo426 q_x79 c89 c227 mo427 ph3_S367 mo428 mo429 bb_x399 c416 q_x417 c430); rw [di_9, d_x417] at t; exact t), (by have t : iv2 ≤ kv415 ∧ (x417 = 4 → iv2 < kv415 ∨ iv4 = 4) := (qr469 r_kv1 hiv2 hiv4 r_kv8 r_kv9 r_kv10 hnf r_x12 mo418 r_kv19 ph2_S14 mo419 hiv20 mo420 ph2_S22 mo421 mo422 r_kv39 ph2_S31 mo423 r_kv51 ph2_S41 mo424 r_kv64 ph2_S53 hiv65 mo425 ph2_S67 mo426 q_x79 c89 c227 hiv365 mo427 ph2_S367 ph3_S367 mo428 r_kv397 ph2_S383 mo429 r_kv415 ph2_S400 bb_x399 c416 q_x417 c430); rw [di_8, di_9, d_kv415, d_x417] at t; exact t)⟩
      · have do459_kv415 := d_kv415
        have do459_kv403 := d_kv403
        have do459_kv371 := d_kv371
        refine m_X11_readWhole hI o_v0 hG (by have t : kv403 = 5 → 0 < kv371 := (qr470 hiv4 hiv6 hO r_kv8 r_kv9 r_kv10 hnf r_x12 ph0_S14 mo404 mo405 ph0_S22 mo406 mo407 hiv29 ph0_S31 mo408 ph0_S41 mo409 ph0_S53 mo410 ph0_S67 mo411 mo412 q_x79 c89 c227 ph0_S367 mo413 ph3_S367 hiv381 ph0_S383 mo414 hiv398 ph0_S400 ph1_S400 bb_x399 c416); rw [d_kv403, d_kv371] at t; exact t) (fun x460 S461 hJ g462 fc463 p_x460 => ?_)
        obtain ⟨hG, p_x460, pg0_S461, pg1_S461, pg2_S461⟩ := p_x460
        have hn := rn_fr fc463 g462 hI o_v0 (by decide) hn
        have hI := hJ
        have d_kv8 := d_kv8.trans (fri_at fc463 (by decide) (by decide) o_a7).symm
        have d_kv9 := d_kv9.trans (fri_at fc463 (by decide) (by decide) o_a7).symm
        have d_kv10 := d_kv10.trans (fri_at fc463 (by decide) (by decide) o_a7).symm
        have d_x12 := d_x12.trans (fri_at fc463 (by decide) (by decide) o_a7).symm
        have ea7 := (frr_at fc463 (by decide) (by decide) o_v0).trans ea7
        have f0 := fri_tr (S := S400) g0 f0 fc463 (by decide) (by decide)
        have o_a7 := gr_ob g462 o_a7
        have o_v0 := gr_ob g462 o_v0
        have g0 := gr_tr (T := S400) g0 g462
        obtain ⟨kv464, d_kv464⟩ : ∃ z : Int32, z = fI S461 v0 9 := ⟨_, rfl⟩
        obtain ⟨kv465, d_kv465⟩ : ∃ z : Int32, z = fI S461 v0 13 := ⟨_, rfl⟩
        have ph0_S461 : kv464 = 5 → 0 < kv465 := by rw [d_kv464, d_kv465]; exact pg0_S461
        have ph1_S461 : kv464 = 5 ∨ ¬ kv403 = 5 := by rw [do459_kv403, d_kv464]; exact pg1_S461
        have mo466 : kv464 = 5 ∨ ¬ kv3 = 5 := ph1_S461.elim Or.inl (fun h => Or.inr (mo404.resolve_left h))
        have mo467 : kv464 = 5 ∨ ¬ x12 = (12 : Int32) := ph1_S461.elim Or.inl (fun h => Or.inr (mo405.resolve_left h))
        have mo468 : kv464 = 5 ∨ ¬ kv17 = 5 := ph1_S461.elim Or.inl (fun h => Or.inr (mo406.resolve_left h))
        have mo469 : kv464 = 5 ∨ (0 ≤ x21 ∧ x21 < kv9) := ph1_S461.elim Or.inl (fun h => Or.inr (mo407.resolve_left h))
        have mo470 : kv464 = 5 ∨ ¬ kv25 = 5 := ph1_S461.elim Or.inl (fun h => Or.inr (mo408.resolve_left h))
        have mo471 : kv464 = 5 ∨ ¬ kv34 = 5 := ph1_S461.elim Or.inl (fun h => Or.inr (mo409.resolve_left h))
        have mo472 : kv464 = 5 ∨ ¬ kv44 = 5 := ph1_S461.elim Or.inl (fun h => Or.inr (mo410.resolve_left h))
        have mo473 : kv464 = 5 ∨ ¬ kv56 = 5 := ph1_S461.elim Or.inl (fun h => Or.inr (mo411.resolve_left h))
        have mo474 : kv464 = 5 ∨ (0 ≤ x66 ∧ x66 < kv9) := ph1_S461.elim Or.inl (fun h => Or.inr (mo412.resolve_left h))
        have mo475 : kv464 = 5 ∨ ¬ x79 = 5 := ph1_S461.elim Or.inl (fun h => Or.inr (mo413.resolve_left h))
        have mo476 : kv464 = 5 ∨ ¬ kv370 = 5 := ph1_S461.elim Or.inl (fun h => Or.inr (mo414.resolve_left h))
        have mo477 : kv464 = 5 ∨ ¬ kv386 = 5 := ph1_S461.elim Or.inl (fun h => Or.inr (ph1_S400.resolve_left h))
        obtain ⟨kv478, d_kv478⟩ : ∃ z : Int32, z = fI S461 v0 8 := ⟨_, rfl⟩
        have r_kv478 : (0 : Int32) ≤ kv478 ∧ kv478 ≤ (900 : Int32) := by rw [d_kv478]; exact nu 25 rfl hI o_v0
        have ph2_S461 : kv415 ≤ kv478 ∧ (kv464 = 4 → kv415 < kv478 ∨ kv403 = 4) := by rw [do459_kv415, do459_kv403, d_kv478, d_kv464]; exact pg2_S461
        intro _
        refine u_X11_readRoad_85 ?_
        refine ⟨o_v0, ?_⟩
        intro x479 ex479
        have q_x479 : x479 = kv464 := ex479.trans d_kv464.symm
        have mo480 : x479 = 5 ∨ ¬ kv3 = 5 := mo466.imp_left (fun z => q_x479.trans z)
        have mo481 : x479 = 5 ∨ ¬ x12 = (12 : Int32) := mo467.imp_left (fun z => q_x479.trans z)
        have mo482 : x479 = 5 ∨ ¬ kv17 = 5 := mo468.imp_left (fun z => q_x479.trans z)
        have mo483 : x479 = 5 ∨ (0 ≤ x21 ∧ x21 < kv9) := mo469.imp_left (fun z => q_x479.trans z)
        have mo484 : x479 = 5 ∨ ¬ kv25 = 5 := mo470.imp_left (fun z => q_x479.trans z)
        have mo485 : x479 = 5 ∨ ¬ kv34 = 5 := mo471.imp_left (fun z => q_x479.trans z)
        have mo486 : x479 = 5 ∨ ¬ kv44 = 5 := mo472.imp_left (fun z => q_x479.trans z)
        have mo487 : x479 = 5 ∨ ¬ kv56 = 5 := mo473.imp_left (fun z => q_x479.trans z)
        have mo488 : x479 = 5 ∨ (0 ≤ x66 ∧ x66 < kv9) := mo474.imp_left (fun z => q_x479.trans z)
        have mo489 : x479 = 5 ∨ ¬ x79 = 5 := mo475.imp_left (fun z => q_x479.trans z)
        have mo490 : x479 = 5 ∨ ¬ kv370 = 5 := mo476.imp_left (fun z => q_x479.trans z)
        have mo491 : x479 = 5 ∨ ¬ kv386 = 5 := mo477.imp_left (fun z => q_x479.trans z)
        have mo492 : x479 = 5 ∨ ¬ kv403 = 5 := ph1_S461.imp_left (fun z => q_x479.trans z)
        have d_x479 := ex479
        refine ⟨fun c493 => ?_, fun c493 => ?_⟩
        · refine ⟨a7, ea7, ?_⟩
          refine ⟨o_a7, ?_⟩
          intro x495 ex495
          have r_x495 : (0 : Int32) ≤ x495 ∧ x495 ≤ (12 : Int32) := by rw [ex495]; exact nu 19 rfl hI o_a7
          have q_x495 : x495 = x12 := ex495.trans d_x12.symm
          have d_x495 := ex495
          refine ⟨a7, ea7, ?_⟩
          refine ⟨o_a7, ?_⟩
          obtain ⟨a497, ea497, o_a497, l_a497⟩ := shl 35 rfl hI o_a7
          refine ⟨a497, ea497, ?_⟩
          refine ⟨o_a497, ?_⟩
          have i498 : vp_in x495 (hN _ a497) := (vin l_a497 (m := 12) (by decide) (qr471 hiv4 r_kv8 r_kv9 r_kv10 hnf r_x12 mo480 mo481 mo482 mo483 mo484 mo485 mo486 mo487 mo488 q_x79 c89 c227 mo489 ph3_S367 mo490 mo491 bb_x399 c416 mo492 q_x479 c493 r_x495 q_x495))
          refine ⟨i498, ?_⟩
          intro S499 eS499
          have hIn : IV S499 := by rw [eS499]; exact iv10_aI hI o_a7 (rg_nw hG ea7) ea497 o_a497 (by decide)
          have hG := rg_a (jj := 13) (x := x495) eS499 hI ea7 o_a7 ea497 o_a497 (by decide) (h1_one (c := 3) (lo := 0) (hi := 7) (hf := 2) (by decide) d_x495.symm) (h2_no (y := 0) (by decide)) hG
          have hn := rn_11 eS499 hI o_v0 o_a497 (by decide) hn
          have hI := hIn
          have f0 := fr_A eS499 g0 f0 o_a497 (by decide)
          have d_kv8 := rd_Ik eS499 o_a497 o_a7 (by decide) d_kv8
          have d_kv9 := rd_Ik eS499 o_a497 o_a7 (by decide) d_kv9
          have d_kv10 := rd_Ik eS499 o_a497 o_a7 (by decide) d_kv10
          have d_x495 := rd_Ik eS499 o_a497 o_a7 (by decide) d_x495
          have d_x479 := rd_Ik eS499 o_a497 o_v0 (by decide) d_x479
          have d_kv465 := rd_Ik eS499 o_a497 o_v0 (by decide) d_kv465
          have d_kv478 := rd_Ik eS499 o_a497 o_v0 (by decide) d_kv478
          have ea7 := rf_I eS499 ea7
          have ea497 := rf_I eS499 ea497
          have l_a497 := ln_I eS499 l_a497
          have g0 := gr_I eS499 g0
          have o_a497 := ob_I eS499 o_a497
          have o_a7 := ob_I eS499 o_a7
          have o_v0 := ob_I eS499 o_v0
          have el500 : fI S499 a497 x495.toNatClampNeg = x21 := by rw [eS499]; exact u2_self _ _ _ _
          refine ⟨a7, ea7, ?_⟩
          refine ⟨o_a7, ?_⟩
          obtain ⟨a502, ea502, o_a502, l_a502⟩ := shl 36 rfl hI o_a7
          refine ⟨a502, ea502, ?_⟩
          refine ⟨o_a502, ?_⟩
          have i503 : vp_in x495 (hN _ a502) := (vin l_a502 (m := 12) (by decide) (qr471 hiv4 r_kv8 r_kv9 r_kv10 hnf r_x12 mo480 mo481 mo482 mo483 mo484 mo485 mo486 mo487 mo488 q_x79 c89 c227 mo489 ph3_S367 mo490 mo491 bb_x399 c416 mo492 q_x479 c493 r_x495 q_x495))
          refine ⟨i503, ?_⟩
          intro S504 eS504
          have hIn : IV S504 := by rw [eS504]; exact iv10_aI hI o_a7 (rg_nw hG ea7) ea502 o_a502 (by decide)
          have hG := rg_a (jj := 14) (x := x495) eS504 hI ea7 o_a7 ea502 o_a502 (by decide) (h1_one (c := 3) (lo := 0) (hi := 7) (hf := 2) (by decide) d_x495.symm) (h2_no (y := 0) (by decide)) hG
          have hn := rn_11 eS504 hI o_v0 o_a502 (by decide) hn
          have el500 := el_ar eS504 (ow_ne hI o_a7 (by decide) o_a7 (by decide) ea502 ea497 (by decide)) el500
          have hI := hIn
          have f0 := fr_A eS504 g0 f0 o_a502 (by decide)
          have d_kv8 := rd_Ik eS504 o_a502 o_a7 (by decide) d_kv8
          have d_kv9 := rd_Ik eS504 o_a502 o_a7 (by decide) d_kv9
          have d_kv10 := rd_Ik eS504 o_a502 o_a7 (by decide) d_kv10
          have d_x495 := rd_Ik eS504 o_a502 o_a7 (by decide) d_x495
          have d_x479 := rd_Ik eS504 o_a502 o_v0 (by decide) d_x479
          have d_kv465 := rd_Ik eS504 o_a502 o_v0 (by decide) d_kv465
          have d_kv478 := rd_Ik eS504 o_a502 o_v0 (by decide) d_kv478
          have ea7 := rf_I eS504 ea7
          have ea497 := rf_I eS504 ea497
          have ea502 := rf_I eS504 ea502
          have l_a497 := ln_I eS504 l_a497
          have l_a502 := ln_I eS504 l_a502
          have g0 := gr_I eS504 g0
          have o_a497 := ob_I eS504 o_a497
          have o_a502 := ob_I eS504 o_a502
          have o_a7 := ob_I eS504 o_a7
          have o_v0 := ob_I eS504 o_v0
          have el505 : fI S504 a502 x495.toNatClampNeg = x66 := by rw [eS504]; exact u2_self _ _ _ _
          refine ⟨a7, ea7, ?_⟩
          refine ⟨o_a7, ?_⟩
          obtain ⟨a507, ea507, o_a507, l_a507⟩ := shl 37 rfl hI o_a7
          refine ⟨a507, ea507, ?_⟩
          refine ⟨o_a507, ?_⟩
          have i508 : vp_in x495 (hN _ a507) := (vin l_a507 (m := 12) (by decide) (qr471 hiv4 r_kv8 r_kv9 r_kv10 hnf r_x12 mo480 mo481 mo482 mo483 mo484 mo485 mo486 mo487 mo488 q_x79 c89 c227 mo489 ph3_S367 mo490 mo491 bb_x399 c416 mo492 q_x479 c493 r_x495 q_x495))
          refine ⟨i508, ?_⟩
          intro S509 eS509
          have hIn : IV S509 := by rw [eS509]; exact iv10_aI hI o_a7 (rg_nw hG ea7) ea507 o_a507 (by decide)
          have hG := rg_a (jj := 15) (x := x495) eS509 hI ea7 o_a7 ea507 o_a507 (by decide) (h1_no (by decide)) (h2_no (y := 0) (by decide)) hG
          have hn := rn_11 eS509 hI o_v0 o_a507 (by decide) hn
          have el500 := el_ar eS509 (ow_ne hI o_a7 (by decide) o_a7 (by decide) ea507 ea497 (by decide)) el500
          have el505 := el_ar eS509 (ow_ne hI o_a7 (by decide) o_a7 (by decide) ea507 ea502 (by decide)) el505
          have hI := hIn
          have f0 := fr_A eS509 g0 f0 o_a507 (by decide)
          have d_kv8 := rd_Ik eS509 o_a507 o_a7 (by decide) d_kv8
          have d_kv9 := rd_Ik eS509 o_a507 o_a7 (by decide) d_kv9
          have d_kv10 := rd_Ik eS509 o_a507 o_a7 (by decide) d_kv10
          have d_x495 := rd_Ik eS509 o_a507 o_a7 (by decide) d_x495
          have d_x479 := rd_Ik eS509 o_a507 o_v0 (by decide) d_x479
          have d_kv465 := rd_Ik eS509 o_a507 o_v0 (by decide) d_kv465
          have d_kv478 := rd_Ik eS509 o_a507 o_v0 (by decide) d_kv478
          have ea7 := rf_I eS509 ea7
          have ea497 := rf_I eS509 ea497
          have ea502 := rf_I eS509 ea502
          have ea507 := rf_I eS509 ea507
          have l_a497 := ln_I eS509 l_a497
          have l_a502 := ln_I eS509 l_a502
          have l_a507 := ln_I eS509 l_a507
          have g0 := gr_I eS509 g0
          have o_a497 := ob_I eS509 o_a497
          have o_a502 := ob_I eS509 o_a502
          have o_a507 := ob_I eS509 o_a507
          have o_a7 := ob_I eS509 o_a7
          have o_v0 := ob_I eS509 o_v0
          refine ⟨a7, ea7, ?_⟩
          refine ⟨o_a7, ?_⟩
          obtain ⟨a511, ea511, o_a511, l_a511⟩ := shl 38 rfl hI o_a7
          refine ⟨a511, ea511, ?_⟩
          refine ⟨o_a511, ?_⟩
          have i512 : vp_in x495 (hN _ a511) := (vin l_a511 (m := 12) (by decide) (qr471 hiv4 r_kv8 r_kv9 r_kv10 hnf r_x12 mo480 mo481 mo482 mo483 mo484 mo485 mo486 mo487 mo488 q_x79 c89 c227 mo489 ph3_S367 mo490 mo491 bb_x399 c416 mo492 q_x479 c493 r_x495 q_x495))
          refine ⟨i512, ?_⟩
          intro S513 eS513
          have hIn : IV S513 := by rw [eS513]; exact iv10_aI hI o_a7 (rg_nw hG ea7) ea511 o_a511 (by decide)
          have hG := rg_a (jj := 16) (x := x495) eS513 hI ea7 o_a7 ea511 o_a511 (by decide) (h1_one (c := 3) (lo := 1) (hi := 60) (hf := 99) (by decide) d_x495.symm) (h2_no (y := 0) (by decide)) hG
          have hn := rn_11 eS513 hI o_v0 o_a511 (by decide) hn
          have el500 := el_ar eS513 (ow_ne hI o_a7 (by decide) o_a7 (by decide) ea511 ea497 (by decide)) el500
          have el505 := el_ar eS513 (ow_ne hI o_a7 (by decide) o_a7 (by decide) ea511 ea502 (by decide)) el505
          have hI := hIn
          have f0 := fr_A eS513 g0 f0 o_a511 (by decide)
          have d_kv8 := rd_Ik eS513 o_a511 o_a7 (by decide) d_kv8
          have d_kv9 := rd_Ik eS513 o_a511 o_a7 (by decide) d_kv9
          have d_kv10 := rd_Ik eS513 o_a511 o_a7 (by decide) d_kv10
          have d_x495 := rd_Ik eS513 o_a511 o_a7 (by decide) d_x495
          have d_x479 := rd_Ik eS513 o_a511 o_v0 (by decide) d_x479
          have d_kv465 := rd_Ik eS513 o_a511 o_v0 (by decide) d_kv465
          have d_kv478 := rd_Ik eS513 o_a511 o_v0 (by decide) d_kv478
          have ea7 := rf_I eS513 ea7
          have ea497 := rf_I eS513 ea497
          have ea502 := rf_I eS513 ea502
          have ea507 := rf_I eS513 ea507
          have ea511 := rf_I eS513 ea511
          have l_a497 := ln_I eS513 l_a497
          have l_a502 := ln_I eS513 l_a502
          have l_a507 := ln_I eS513 l_a507
          have l_a511 := ln_I eS513 l_a511
          have g0 := gr_I eS513 g0
          have o_a497 := ob_I eS513 o_a497
          have o_a502 := ob_I eS513 o_a502
          have o_a507 := ob_I eS513 o_a507
          have o_a511 := ob_I eS513 o_a511
          have o_a7 := ob_I eS513 o_a7
          have o_v0 := ob_I eS513 o_v0
          have el514 : fI S513 a511 x495.toNatClampNeg = x52 := by rw [eS513]; exact u2_self _ _ _ _
          refine ⟨a7, ea7, ?_⟩
          refine ⟨o_a7, ?_⟩
          obtain ⟨a516, ea516, o_a516, l_a516⟩ := shl 39 rfl hI o_a7
          refine ⟨a516, ea516, ?_⟩
          refine ⟨o_a516, ?_⟩
          have i517 : vp_in x495 (hN _ a516) := (vin l_a516 (m := 12) (by decide) (qr471 hiv4 r_kv8 r_kv9 r_kv10 hnf r_x12 mo480 mo481 mo482 mo483 mo484 mo485 mo486 mo487 mo488 q_x79 c89 c227 mo489 ph3_S367 mo490 mo491 bb_x399 c416 mo492 q_x479 c493 r_x495 q_x495))
          refine ⟨i517, ?_⟩
          intro S518 eS518
          have hIn : IV S518 := by rw [eS518]; exact iv10_aI hI o_a7 (rg_nw hG ea7) ea516 o_a516 (by decide)
          have hG := rg_a (jj := 17) (x := x495) eS518 hI ea7 o_a7 ea516 o_a516 (by decide) (h1_no (by decide)) (h2_no (y := 0) (by decide)) hG
          have hn := rn_11 eS518 hI o_v0 o_a516 (by decide) hn
          have el500 := el_ar eS518 (ow_ne hI o_a7 (by decide) o_a7 (by decide) ea516 ea497 (by decide)) el500
          have el505 := el_ar eS518 (ow_ne hI o_a7 (by decide) o_a7 (by decide) ea516 ea502 (by decide)) el505
          have el514 := el_ar eS518 (ow_ne hI o_a7 (by decide) o_a7 (by decide) ea516 ea511 (by decide)) el514
          have hI := hIn
          have f0 := fr_A eS518 g0 f0 o_a516 (by decide)
          have d_kv8 := rd_Ik eS518 o_a516 o_a7 (by decide) d_kv8
          have d_kv9 := rd_Ik eS518 o_a516 o_a7 (by decide) d_kv9
          have d_kv10 := rd_Ik eS518 o_a516 o_a7 (by decide) d_kv10
          have d_x495 := rd_Ik eS518 o_a516 o_a7 (by decide) d_x495
          have d_x479 := rd_Ik eS518 o_a516 o_v0 (by decide) d_x479
          have d_kv465 := rd_Ik eS518 o_a516 o_v0 (by decide) d_kv465
          have d_kv478 := rd_Ik eS518 o_a516 o_v0 (by decide) d_kv478
          have ea7 := rf_I eS518 ea7
          have ea497 := rf_I eS518 ea497
          have ea502 := rf_I eS518 ea502
          have ea507 := rf_I eS518 ea507
          have ea511 := rf_I eS518 ea511
          have ea516 := rf_I eS518 ea516
          have l_a497 := ln_I eS518 l_a497
          have l_a502 := ln_I eS518 l_a502
          have l_a507 := ln_I eS518 l_a507
          have l_a511 := ln_I eS518 l_a511
          have l_a516 := ln_I eS518 l_a516
          have g0 := gr_I eS518 g0
          have o_a497 := ob_I eS518 o_a497
          have o_a502 := ob_I eS518 o_a502
          have o_a507 := ob_I eS518 o_a507
          have o_a511 := ob_I eS518 o_a511
          have o_a516 := ob_I eS518 o_a516
          have o_a7 := ob_I eS518 o_a7
          have o_v0 := ob_I eS518 o_v0
          refine ⟨a7, ea7, ?_⟩
          refine ⟨o_a7, ?_⟩
          intro x520 ex520
          have r_x520 : (0 : Int32) ≤ x520 ∧ x520 ≤ (12 : Int32) := by rw [ex520]; exact nu 19 rfl hI o_a7
          have q_x520 : x520 = x495 := ex520.trans d_x495.symm
          have d_x520 := ex520
          intro x521 ex521
          intro S522 eS522
          have hIn : IV S522 := by rw [eS522]; exact iv10_sI hI o_a7 (rg_nw hG ea7) (nu_one (lo := (0 : Int32)) (hi := (12 : Int32)) (by decide) (qr472 hiv4 r_kv8 r_kv9 r_kv10 hnf r_x12 mo480 mo481 mo482 mo483 mo484 mo485 mo486 mo487 mo488 q_x79 c89 c227 mo489 ph3_S367 mo490 mo491 bb_x399 c416 mo492 q_x479 c493 r_x495 q_x495 r_x520 q_x520 ex521))
          have hG := rg_inc (c := 3) (y := x520) eS522 hI ea7 o_a7 d_x520.symm (qr473 hiv4 r_kv8 r_kv9 r_kv10 hnf r_x12 mo480 mo481 mo482 mo483 mo484 mo485 mo486 mo487 mo488 q_x79 c89 c227 mo489 ph3_S367 mo490 mo491 bb_x399 c416 mo492 q_x479 c493 r_x495 q_x495 r_x520 q_x520 ex521) (qr474 hiv4 r_kv8 r_kv9 r_kv10 hnf r_x12 mo480 mo481 mo482 mo483 mo484 mo485 mo486 mo487 mo488 q_x79 c89 c227 mo489 ph3_S367 mo490 mo491 bb_x399 c416 mo492 q_x479 c493 r_x495 q_x495 r_x520 q_x520 ex521) (hn_3 ea497 (by rw [show x520 = x495 from (qr475 hiv4 r_kv8 r_kv9 r_kv10 hnf r_x12 mo480 mo481 mo482 mo483 mo484 mo485 mo486 mo487 mo488 q_x79 c89 c227 mo489 ph3_S367 mo490 mo491 bb_x399 c416 mo492 q_x479 c493 r_x495 q_x495 r_x520 q_x520 ex521), el500]; exact ⟨(qr476 hiv4 r_kv8 r_kv9 r_kv10 hnf r_x12 mo480 mo481 mo482 mo483 mo484 mo485 mo486 mo487 mo488 q_x79 c89 c227 mo489 ph3_S367 mo490 mo491 bb_x399 c416 mo492 q_x479 c493 r_x495 q_x495 r_x520 q_x520 ex521), (qr477 hiv4 r_kv8 r_kv9 r_kv10 hnf r_x12 mo480 mo481 mo482 mo483 mo484 mo485 mo486 mo487 mo488 q_x79 c89 c227 mo489 ph3_S367 mo490 mo491 bb_x399 c416 mo492 q_x479 c493 r_x495 q_x495 r_x520 q_x520 ex521), Or.inr (by rw [← d_kv9]; exact (qr478 hiv4 r_kv8 r_kv9 r_kv10 hnf r_x12 mo480 mo481 mo482 mo483 mo484 mo485 mo486 mo487 mo488 q_x79 c89 c227 mo489 ph3_S367 mo490 mo491 bb_x399 c416 mo492 q_x479 c493 r_x495 q_x495 r_x520 q_x520 ex521))⟩) ea502 (by rw [show x520 = x495 from (qr475 hiv4 r_kv8 r_kv9 r_kv10 hnf r_x12 mo480 mo481 mo482 mo483 mo484 mo485 mo486 mo487 mo488 q_x79 c89 c227 mo489 ph3_S367 mo490 mo491 bb_x399 c416 mo492 q_x479 c493 r_x495 q_x495 r_x520 q_x520 ex521), el505]; exact ⟨(qr479 hiv4 r_kv8 r_kv9 r_kv10 hnf r_x12 mo480 mo481 mo482 mo483 mo484 mo485 mo486 mo487 mo488 q_x79 c89 c227 mo489 ph3_S367 mo490 mo491 bb_x399 c416 mo492 q_x479 c493 r_x495 q_x495 r_x520 q_x520 ex521), (qr480 hiv4 r_kv8 r_kv9 r_kv10 hnf r_x12 mo480 mo481 mo482 mo483 mo484 mo485 mo486 mo487 mo488 q_x79 c89 c227 mo489 ph3_S367 mo490 mo491 bb_x399 c416 mo492 q_x479 c493 r_x495 q_x495 r_x520 q_x520 ex521), Or.inr (by rw [← d_kv9]; exact (qr481 hiv4 r_kv8 r_kv9 r_kv10 hnf r_x12 mo480 mo481 mo482 mo483 mo484 mo485 mo486 mo487 mo488 q_x79 c89 c227 mo489 ph3_S367 mo490 mo491 bb_x399 c416 mo492 q_x479 c493 r_x495 q_x495 r_x520 q_x520 ex521))⟩) ea511 (by rw [show x520 = x495 from (qr475 hiv4 r_kv8 r_kv9 r_kv10 hnf r_x12 mo480 mo481 mo482 mo483 mo484 mo485 mo486 mo487 mo488 q_x79 c89 c227 mo489 ph3_S367 mo490 mo491 bb_x399 c416 mo492 q_x479 c493 r_x495 q_x495 r_x520 q_x520 ex521), el514]; exact ⟨(qr482 hiv4 r_kv8 r_kv9 r_kv10 hnf r_x12 mo480 mo481 mo482 mo483 mo484 mo485 mo486 p_x52 mo487 mo488 q_x79 c89 c227 mo489 ph3_S367 mo490 mo491 bb_x399 c416 mo492 p_x460 q_x479 c493 r_x495 q_x495 r_x520 q_x520 ex521), (qr483 hiv4 r_kv8 r_kv9 r_kv10 hnf r_x12 mo480 mo481 mo482 mo483 mo484 mo485 mo486 p_x52 mo487 mo488 q_x79 c89 c227 mo489 ph3_S367 mo490 mo491 bb_x399 c416 mo492 p_x460 q_x479 c493 r_x495 q_x495 r_x520 q_x520 ex521), Or.inl rfl⟩)) (fun z _ hz => Or.inl (by rw [eS522] at hz; exact hs_no2 (by decide) z hz)) hG
          have hn := rn_c eS522 (by decide) hn
          have el500 := el_ob eS522 o_a7 o_a497 (by decide) el500
          have el505 := el_ob eS522 o_a7 o_a502 (by decide) el505
          have el514 := el_ob eS522 o_a7 o_a511 (by decide) el514
          have hI := hIn
          have f0 := fr_I eS522 g0 f0 o_a7 (by decide)
          have d_kv8 := rd_Ij eS522 (by decide) d_kv8
          have d_kv9 := rd_Ij eS522 (by decide) d_kv9
          have d_kv10 := rd_Ij eS522 (by decide) d_kv10
          have d_x479 := rd_Ik eS522 o_a7 o_v0 (by decide) d_x479
          have d_kv465 := rd_Ik eS522 o_a7 o_v0 (by decide) d_kv465
          have d_kv478 := rd_Ik eS522 o_a7 o_v0 (by decide) d_kv478
          have d_x521 := rd_Is eS522 (rfl : x521 = x521)
          have ea7 := rf_I eS522 ea7
          have ea497 := rf_I eS522 ea497
          have ea502 := rf_I eS522 ea502
          have ea507 := rf_I eS522 ea507
          have ea511 := rf_I eS522 ea511
          have ea516 := rf_I eS522 ea516
          have l_a497 := ln_I eS522 l_a497
          have l_a502 := ln_I eS522 l_a502
          have l_a507 := ln_I eS522 l_a507
          have l_a511 := ln_I eS522 l_a511
          have l_a516 := ln_I eS522 l_a516
          have g0 := gr_I eS522 g0
          have o_a497 := ob_I eS522 o_a497
          have o_a502 := ob_I eS522 o_a502
          have o_a507 := ob_I eS522 o_a507
          have o_a511 := ob_I eS522 o_a511
          have o_a516 := ob_I eS522 o_a516
          have o_a7 := ob_I eS522 o_a7
          have o_v0 := ob_I eS522 o_v0
          exact hq _ hI g0 f0 ⟨hG, hn, (by have t : x479 = 5 → 0 < kv465 := (qr484 hiv4 hiv6 hO r_kv8 r_kv9 r_kv10 hnf r_x12 ph0_S14 mo480 mo481 ph0_S22 mo482 mo483 hiv29 ph0_S31 mo484 ph0_S41 mo485 ph0_S53 mo486 ph0_S67 mo487 mo488 q_x79 c89 c227 ph0_S367 mo489 ph3_S367 hiv381 ph0_S383 mo490 hiv398 ph0_S400 mo491 bb_x399 c416 ph0_S461 mo492 q_x479 c493 r_x495 q_x495 r_x520 q_x520 ex521); rw [d_x479, d_kv465] at t; exact t), (by have t : x479 = 5 ∨ ¬ iv4 = 5 := (qr485 hiv4 r_kv8 r_kv9 r_kv10 hnf r_x12 mo480 mo481 mo482 mo483 mo484 mo485 mo486 mo487 mo488 q_x79 c89 c227 mo489 ph3_S367 mo490 mo491 bb_x399 c416 mo492 q_x479 c493 r_x495 q_x495 r_x520 q_x520 ex521); rw [di_9, d_x479] at t; exact t), (by have t : iv2 ≤ kv478 ∧ (x479 = 4 → iv2 < kv478 ∨ iv4 = 4) := (qr486 r_kv1 hiv2 hiv4 r_kv8 r_kv9 r_kv10 hnf r_x12 mo480 r_kv19 ph2_S14 mo481 hiv20 mo482 ph2_S22 mo483 mo484 r_kv39 ph2_S31 mo485 r_kv51 ph2_S41 mo486 r_kv64 ph2_S53 hiv65 mo487 ph2_S67 mo488 q_x79 c89 c227 hiv365 mo489 ph2_S367 ph3_S367 mo490 r_kv397 ph2_S383 mo491 r_kv415 ph2_S400 bb_x399 c416 mo492 r_kv478 ph2_S461 q_x479 c493 r_x495 q_x495 r_x520 q_x520 ex521); rw [di_8, di_9, d_kv478, d_x479] at t; exact t)⟩
        · exact hq _ hI g0 f0 ⟨hG, hn, (by have t : x479 = 5 → 0 < kv465 := (qr487 hiv4 hiv6 hO r_kv8 r_kv9 r_kv10 hnf r_x12 ph0_S14 mo480 mo481 ph0_S22 mo482 mo483 hiv29 ph0_S31 mo484 ph0_S41 mo485 ph0_S53 mo486 ph0_S67 mo487 mo488 q_x79 c89 c227 ph0_S367 mo489 ph3_S367 hiv381 ph0_S383 mo490 hiv398 ph0_S400 mo491 bb_x399 c416 ph0_S461 mo492 q_x479 c493); rw [d_x479, d_kv465] at t; exact t), (by have t : x479 = 5 ∨ ¬ iv4 = 5 := (qr488 hiv4 r_kv8 r_kv9 r_kv10 hnf r_x12 mo480 mo481 mo482 mo483 mo484 mo485 mo486 mo487 mo488 q_x79 c89 c227 mo489 ph3_S367 mo490 mo491 bb_x399 c416 mo492 q_x479 c493); rw [di_9, d_x479] at t; exact t), (by have t : iv2 ≤ kv478 ∧ (x479 = 4 → iv2 < kv478 ∨ iv4 = 4) := (qr489 r_kv1 hiv2 hiv4 r_kv8 r_kv9 r_kv10 hnf r_x12 mo480 r_kv19 ph2_S14 mo481 hiv20 mo482 ph2_S22 mo483 mo484 r_kv39 ph2_S31 mo485 r_kv51 ph2_S41 mo486 r_kv64 ph2_S53 hiv65 mo487 ph2_S67 mo488 q_x79 c89 c227 hiv365 mo489 ph2_S367 ph3_S367 mo490 r_kv397 ph2_S383 mo491 r_kv415 ph2_S400 bb_x399 c416 mo492 r_kv478 ph2_S461 q_x479 c493); rw [di_8, di_9, d_kv478, d_x479] at t; exact t)⟩
