set_option maxHeartbeats 4000000 in
set_option maxRecDepth 20000 in
theorem m_X11_readPlace {v0 : Nat} {Q : HS → Prop} {S : HS} (hI : IV S) (o_v0 : ob S v0 11)    (hG : RG S v0) (hn : RN S v0) (hO : fI S v0 9 = 5 → 0 < fI S v0 13) (hq : ∀ (T : HS), IV T → Gr S T → FRI [(10, 2), (10, 6), (11, 8), (11, 9), (11, 10), (11, 11), (11, 12), (11, 13), (11, 14)] [] S T → (RG T v0) ∧ (RN T v0) ∧ (fI T v0 9 = 5 → 0 < fI T v0 13) ∧ (fI T v0 9 = 5 ∨ ¬ fI S v0 9 = 5) ∧ (fI S v0 8 ≤ fI T v0 8 ∧ (fI T v0 9 = 4 → fI S v0 8 < fI T v0 8 ∨ fI S v0 9 = 4)) → Q T) : P_X11_readPlace v0 Q S := by
  have g0 := gr_rf S
  have f0 := fri_rf [(10, 2), (10, 6), (11, 8), (11, 9), (11, 10), (11, 11), (11, 12), (11, 13), (11, 14)] [] S
  obtain ⟨kv1, d_kv1⟩ : ∃ z : Int32, z = fI S v0 8 := ⟨_, rfl⟩
  have r_kv1 : (0 : Int32) ≤ kv1 ∧ kv1 ≤ (900 : Int32) := by rw [d_kv1]; exact nu 25 rfl hI o_v0
  obtain ⟨iv2, hiv2⟩ : ∃ z : Int32, z = kv1 := ⟨_, rfl⟩
  have di_8 := hiv2.trans d_kv1
  obtain ⟨kv3, d_kv3⟩ : ∃ z : Int32, z = fI S v0 9 := ⟨_, rfl⟩
  obtain ⟨iv4, hiv4⟩ : ∃ z : Int32, z = kv3 := ⟨_, rfl⟩
  have di_9 := hiv4.trans d_kv3
  obtain ⟨kv5, d_kv5⟩ : ∃ z : Int32, z = fI S v0 13 := ⟨_, rfl⟩
  obtain ⟨iv6, hiv6⟩ : ∃ z : Int32, z = kv5 := ⟨_, rfl⟩
  have di_13 := hiv6.trans d_kv5
  have hO : iv4 = 5 → 0 < iv6 := by rw [di_9, di_13]; exact hO
  obtain ⟨a7, ea7, o_a7, -⟩ := id hG
  obtain ⟨kv8, d_kv8⟩ : ∃ z : Int32, z = fI S a7 6 := ⟨_, rfl⟩
  have r_kv8 : (0 : Int32) ≤ kv8 ∧ kv8 ≤ (12 : Int32) := by rw [d_kv8]; exact nu 22 rfl hI o_a7
  obtain ⟨kv9, d_kv9⟩ : ∃ z : Int32, z = fI S a7 2 := ⟨_, rfl⟩
  have r_kv9 : (0 : Int32) ≤ kv9 ∧ kv9 ≤ (8 : Int32) := by rw [d_kv9]; exact nu 18 rfl hI o_a7
  obtain ⟨kv10, d_kv10⟩ : ∃ z : Int32, z = fI S a7 4 := ⟨_, rfl⟩
  have r_kv10 : (0 : Int32) ≤ kv10 ∧ kv10 ≤ (4 : Int32) := by rw [d_kv10]; exact nu 20 rfl hI o_a7
  have hnf : kv8 = kv9 + kv10 := by rw [d_kv8, d_kv9, d_kv10]; exact hn _ ea7
  refine u_X11_readPlace ?_
  refine u_X11_readPlace_0 ?_
  refine ⟨o_v0, ?_⟩
  refine ⟨a7, ea7, ?_⟩
  refine ⟨o_a7, ?_⟩
  intro x12 ex12
  have r_x12 : (0 : Int32) ≤ x12 ∧ x12 ≤ (8 : Int32) := by rw [ex12]; exact nu 18 rfl hI o_a7
  have q_x12 : x12 = kv9 := ex12.trans d_kv9.symm
  have d_x12 := ex12
  have do12_kv1 := d_kv1
  have do12_kv3 := d_kv3
  have do12_kv5 := d_kv5
  refine m_X11_begins hI o_v0 hG (by have t : kv3 = 5 → 0 < kv5 := (qr1 hiv4 hiv6 hO); rw [d_kv3, d_kv5] at t; exact t) (fun S14 hJ g15 fc16 p_S14 => ?_)
  obtain ⟨hG, pg0_S14, pg1_S14, pg2_S14, pg3_S14⟩ := p_S14
  have hn := rn_fr fc16 g15 hI o_v0 (by decide) hn
  have hI := hJ
  have d_kv8 := d_kv8.trans (fri_at fc16 (by decide) (by decide) o_a7).symm
  have d_x12 := d_x12.trans (fri_at fc16 (by decide) (by decide) o_a7).symm
  have d_kv10 := d_kv10.trans (fri_at fc16 (by decide) (by decide) o_a7).symm
  have ea7 := (frr_at fc16 (by decide) (by decide) o_v0).trans ea7
  have f0 := fri_tr (S := S) g0 f0 fc16 (by decide) (by decide)
  have o_a7 := gr_ob g15 o_a7
  have o_v0 := gr_ob g15 o_v0
  have g0 := gr_tr (T := S) g0 g15
  obtain ⟨kv17, d_kv17⟩ : ∃ z : Int32, z = fI S14 v0 9 := ⟨_, rfl⟩
  obtain ⟨kv18, d_kv18⟩ : ∃ z : Int32, z = fI S14 v0 13 := ⟨_, rfl⟩
  have ph0_S14 : kv17 = 5 → 0 < kv18 := by rw [d_kv17, d_kv18]; exact pg0_S14
  have ph1_S14 : kv17 = 5 ∨ ¬ kv3 = 5 := by rw [do12_kv3, d_kv17]; exact pg1_S14
  obtain ⟨kv19, d_kv19⟩ : ∃ z : Int32, z = fI S14 v0 8 := ⟨_, rfl⟩
  have r_kv19 : (0 : Int32) ≤ kv19 ∧ kv19 ≤ (900 : Int32) := by rw [d_kv19]; exact nu 25 rfl hI o_v0
  have ph2_S14 : kv1 ≤ kv19 ∧ (kv17 = 4 → kv1 < kv19 ∨ kv3 = 4) := by rw [do12_kv1, do12_kv3, d_kv19, d_kv17]; exact pg2_S14
  have ph3_S14 : kv17 = 5 ∨ ¬ x12 = (8 : Int32) := by rw [d_kv17]; exact pg3_S14
  intro _
  have do19_kv19 := d_kv19
  have do19_kv17 := d_kv17
  have do19_kv18 := d_kv18
  refine m_X11_readFresh hI o_v0 hG (by have t : kv17 = 5 → 0 < kv18 := (qr526 hiv4 hiv6 hO r_kv8 r_kv9 r_kv10 hnf r_x12 q_x12 ph0_S14 ph1_S14 ph3_S14); rw [d_kv17, d_kv18] at t; exact t) (fun x20 S21 hJ g22 fc23 p_x20 => ?_)
  obtain ⟨hG, pg0_S21, pg1_S21, pg2_S21⟩ := p_x20
  have hn := rn_fr fc23 g22 hI o_v0 (by decide) hn
  have hI := hJ
  have d_kv8 := d_kv8.trans (fri_at fc23 (by decide) (by decide) o_a7).symm
  have d_x12 := d_x12.trans (fri_at fc23 (by decide) (by decide) o_a7).symm
  have d_kv10 := d_kv10.trans (fri_at fc23 (by decide) (by decide) o_a7).symm
  have ea7 := (frr_at fc23 (by decide) (by decide) o_v0).trans ea7
  have f0 := fri_tr (S := S14) g0 f0 fc23 (by decide) (by decide)
  have o_a7 := gr_ob g22 o_a7
  have o_v0 := gr_ob g22 o_v0
  have g0 := gr_tr (T := S14) g0 g22
  obtain ⟨kv24, d_kv24⟩ : ∃ z : Int32, z = fI S21 v0 9 := ⟨_, rfl⟩
  obtain ⟨kv25, d_kv25⟩ : ∃ z : Int32, z = fI S21 v0 13 := ⟨_, rfl⟩
  have ph0_S21 : kv24 = 5 → 0 < kv25 := by rw [d_kv24, d_kv25]; exact pg0_S21
  have ph1_S21 : kv24 = 5 ∨ ¬ kv17 = 5 := by rw [do19_kv17, d_kv24]; exact pg1_S21
  have mo26 : kv24 = 5 ∨ ¬ kv3 = 5 := ph1_S21.elim Or.inl (fun h => Or.inr (ph1_S14.resolve_left h))
  have mo27 : kv24 = 5 ∨ ¬ x12 = (8 : Int32) := ph1_S21.elim Or.inl (fun h => Or.inr (ph3_S14.resolve_left h))
  obtain ⟨kv28, d_kv28⟩ : ∃ z : Int32, z = fI S21 v0 8 := ⟨_, rfl⟩
  have r_kv28 : (0 : Int32) ≤ kv28 ∧ kv28 ≤ (900 : Int32) := by rw [d_kv28]; exact nu 25 rfl hI o_v0
  have ph2_S21 : kv19 ≤ kv28 ∧ (kv24 = 4 → kv19 < kv28 ∨ kv17 = 4) := by rw [do19_kv19, do19_kv17, d_kv28, d_kv24]; exact pg2_S21
  intro _
  obtain ⟨iv29, hiv29⟩ : ∃ z : Int32, z = kv25 := ⟨_, rfl⟩
  have d_iv29 := hiv29.trans d_kv25
  have do29_kv28 := d_kv28
  have do29_kv24 := d_kv24
  have do29_iv29 := d_iv29
  refine m_X11_eatsWord hI o_v0 (by decide) hG (by have t : kv24 = 5 → 0 < kv25 := (qr527 hiv4 hiv6 hO r_kv8 r_kv9 r_kv10 hnf r_x12 q_x12 ph0_S14 mo26 mo27 ph0_S21 ph1_S21); rw [d_kv24, d_kv25] at t; exact t) (fun x30 S31 hJ g32 fc33 b_x30 p_x30 => ?_)
  obtain ⟨hG, pg0_S31, pg1_S31, pg2_S31⟩ := p_x30
  have hn := rn_fr fc33 g32 hI o_v0 (by decide) hn
  have hI := hJ
  have d_kv8 := d_kv8.trans (fri_at fc33 (by decide) (by decide) o_a7).symm
  have d_x12 := d_x12.trans (fri_at fc33 (by decide) (by decide) o_a7).symm
  have d_kv10 := d_kv10.trans (fri_at fc33 (by decide) (by decide) o_a7).symm
  have d_kv25 := d_kv25.trans (fri_at fc33 (by decide) (by decide) o_v0).symm
  have ea7 := (frr_at fc33 (by decide) (by decide) o_v0).trans ea7
  have f0 := fri_tr (S := S21) g0 f0 fc33 (by decide) (by decide)
  have o_a7 := gr_ob g32 o_a7
  have o_v0 := gr_ob g32 o_v0
  have g0 := gr_tr (T := S21) g0 g32
  obtain ⟨kv34, d_kv34⟩ : ∃ z : Int32, z = fI S31 v0 9 := ⟨_, rfl⟩
  have ph0_S31 : kv34 = 5 → 0 < kv25 := by rw [d_kv34, d_kv25]; exact pg0_S31
  have ph1_S31 : kv34 = 5 ∨ ¬ kv24 = 5 := by rw [do29_kv24, d_kv34]; exact pg1_S31
  have mo35 : kv34 = 5 ∨ ¬ kv3 = 5 := ph1_S31.elim Or.inl (fun h => Or.inr (mo26.resolve_left h))
  have mo36 : kv34 = 5 ∨ ¬ x12 = (8 : Int32) := ph1_S31.elim Or.inl (fun h => Or.inr (mo27.resolve_left h))
  have mo37 : kv34 = 5 ∨ ¬ kv17 = 5 := ph1_S31.elim Or.inl (fun h => Or.inr (ph1_S21.resolve_left h))
  obtain ⟨kv38, d_kv38⟩ : ∃ z : Int32, z = fI S31 v0 8 := ⟨_, rfl⟩
  have r_kv38 : (0 : Int32) ≤ kv38 ∧ kv38 ≤ (900 : Int32) := by rw [d_kv38]; exact nu 25 rfl hI o_v0
  have ph2_S31 : kv28 ≤ kv38 ∧ (kv34 = 4 → kv28 < kv38 ∨ kv24 = 4) := by rw [do29_kv28, do29_kv24, d_kv38, d_kv34]; exact pg2_S31
  intro _ _
  have bb_x30 : x30 = 0 ∨ x30 = 1 := b_x30
  refine ⟨fun c39 => ?_, fun c39 => ?_⟩
  · refine u_X11_readPlace_48 ?_
    refine u_X11_readPlace_50 ?_
    refine ⟨o_v0, ?_⟩
    intro x40 ex40
    have q_x40 : x40 = kv34 := ex40.trans d_kv34.symm
    have mo41 : x40 = 5 ∨ ¬ kv3 = 5 := mo35.imp_left (fun z => q_x40.trans z)
    have mo42 : x40 = 5 ∨ ¬ x12 = (8 : Int32) := mo36.imp_left (fun z => q_x40.trans z)
    have mo43 : x40 = 5 ∨ ¬ kv17 = 5 := mo37.imp_left (fun z => q_x40.trans z)
    have mo44 : x40 = 5 ∨ ¬ kv24 = 5 := ph1_S31.imp_left (fun z => q_x40.trans z)
    have d_x40 := ex40
    refine ⟨fun c45 => ?_, fun c45 => ?_⟩
    · refine ⟨a7, ea7, ?_⟩
      refine ⟨o_a7, ?_⟩
      intro x47 ex47
      have r_x47 : (0 : Int32) ≤ x47 ∧ x47 ≤ (8 : Int32) := by rw [ex47]; exact nu 18 rfl hI o_a7
      have q_x47 : x47 = x12 := ex47.trans d_x12.symm
      have d_x47 := ex47
      refine u_X11_names ?_
      refine u_X11_names_0 ?_
      refine ⟨o_v0, ?_⟩
      refine ⟨a7, ea7, ?_⟩
      refine ⟨o_a7, ?_⟩
      obtain ⟨a49, ea49, o_a49, l_a49⟩ := shl 50 rfl hI o_a7
      refine ⟨a49, ea49, ?_⟩
      refine ⟨a7, ea7, ?_⟩
      refine ⟨o_a7, ?_⟩
      intro x51 ex51
      have r_x51 : (0 : Int32) ≤ x51 ∧ x51 ≤ (12 : Int32) := by rw [ex51]; exact nu 22 rfl hI o_a7
      have q_x51 : x51 = kv8 := ex51.trans d_kv8.symm
      have d_x51 := ex51
      refine ⟨o_a49, ?_⟩
      have i52 : vp_in x51 (hN _ a49) := (vin l_a49 (m := 12) (by decide) (qr528 hiv4 r_kv8 r_kv9 r_kv10 hnf r_x12 q_x12 mo41 mo42 mo43 mo44 bb_x30 c39 q_x40 c45 r_x47 q_x47 r_x51 q_x51))
      refine ⟨i52, ?_⟩
      intro S53 eS53
      have hIn : IV S53 := by rw [eS53]; exact iv10_aJ hI o_a7 (by decide) ea49
      have hG := rg_J eS53 hG
      have hn := rn_J eS53 hn
      have hI := hIn
      have f0 := fr_J eS53 f0
      have d_x51 := rd_J eS53 d_x51
      have d_x47 := rd_J eS53 d_x47
      have d_kv10 := rd_J eS53 d_kv10
      have d_kv25 := rd_J eS53 d_kv25
      have d_x40 := rd_J eS53 d_x40
      have d_kv38 := rd_J eS53 d_kv38
      have ea7 := rf_J eS53 ea7
      have ea49 := rf_J eS53 ea49
      have l_a49 := ln_J eS53 l_a49
      have g0 := gr_J eS53 g0
      have o_a49 := ob_J eS53 o_a49
      have o_a7 := ob_J eS53 o_a7
      have o_v0 := ob_J eS53 o_v0
      refine ⟨a7, ea7, ?_⟩
      refine ⟨o_a7, ?_⟩
      obtain ⟨a55, ea55, o_a55, l_a55⟩ := shl 51 rfl hI o_a7
      refine ⟨a55, ea55, ?_⟩
      refine ⟨a7, ea7, ?_⟩
      refine ⟨o_a7, ?_⟩
      intro x57 ex57
      have r_x57 : (0 : Int32) ≤ x57 ∧ x57 ≤ (12 : Int32) := by rw [ex57]; exact nu 22 rfl hI o_a7
      have q_x57 : x57 = x51 := ex57.trans d_x51.symm
      have d_x57 := ex57
      refine ⟨o_a55, ?_⟩
      have i58 : vp_in x57 (hN _ a55) := (vin l_a55 (m := 12) (by decide) (qr529 hiv4 r_kv8 r_kv9 r_kv10 hnf r_x12 q_x12 mo41 mo42 mo43 mo44 bb_x30 c39 q_x40 c45 r_x47 q_x47 r_x51 q_x51 r_x57 q_x57))
      refine ⟨i58, ?_⟩
      intro S59 eS59
      have hIn : IV S59 := by rw [eS59]; exact iv10_aI hI o_a7 (rg_nw hG ea7) ea55 o_a55 (by decide)
      have hG := rg_a (jj := 29) (x := x57) eS59 hI ea7 o_a7 ea55 o_a55 (by decide) (h1_no (by decide)) (fun _ => by rw [← d_x47, ← d_kv10]; exact (qr530 hiv4 r_kv8 r_kv9 r_kv10 hnf r_x12 q_x12 mo41 mo42 mo43 mo44 bb_x30 c39 q_x40 c45 r_x47 q_x47 r_x51 q_x51 r_x57 q_x57)) hG
      have hn := rn_11 eS59 hI o_v0 o_a55 (by decide) hn
      have hI := hIn
      have f0 := fr_A eS59 g0 f0 o_a55 (by decide)
      have d_x57 := rd_Ik eS59 o_a55 o_a7 (by decide) d_x57
      have d_x47 := rd_Ik eS59 o_a55 o_a7 (by decide) d_x47
      have d_kv10 := rd_Ik eS59 o_a55 o_a7 (by decide) d_kv10
      have d_kv25 := rd_Ik eS59 o_a55 o_v0 (by decide) d_kv25
      have d_x40 := rd_Ik eS59 o_a55 o_v0 (by decide) d_x40
      have d_kv38 := rd_Ik eS59 o_a55 o_v0 (by decide) d_kv38
      have ea7 := rf_I eS59 ea7
      have ea49 := rf_I eS59 ea49
      have ea55 := rf_I eS59 ea55
      have l_a49 := ln_I eS59 l_a49
      have l_a55 := ln_I eS59 l_a55
      have g0 := gr_I eS59 g0
      have o_a49 := ob_I eS59 o_a49
      have o_a55 := ob_I eS59 o_a55
      have o_a7 := ob_I eS59 o_a7
      have o_v0 := ob_I eS59 o_v0
      have el60 : fI S59 a55 x57.toNatClampNeg = (0 : Int32) := by rw [eS59]; exact u2_self _ _ _ _
      refine ⟨a7, ea7, ?_⟩
      refine ⟨o_a7, ?_⟩
      obtain ⟨a62, ea62, o_a62, l_a62⟩ := shl 52 rfl hI o_a7
      refine ⟨a62, ea62, ?_⟩
      refine ⟨a7, ea7, ?_⟩
      refine ⟨o_a7, ?_⟩
      intro x64 ex64
      have r_x64 : (0 : Int32) ≤ x64 ∧ x64 ≤ (12 : Int32) := by rw [ex64]; exact nu 22 rfl hI o_a7
      have q_x64 : x64 = x57 := ex64.trans d_x57.symm
      have d_x64 := ex64
      refine ⟨o_a62, ?_⟩
      have i65 : vp_in x64 (hN _ a62) := (vin l_a62 (m := 12) (by decide) (qr531 hiv4 r_kv8 r_kv9 r_kv10 hnf r_x12 q_x12 mo41 mo42 mo43 mo44 bb_x30 c39 q_x40 c45 r_x47 q_x47 r_x51 q_x51 r_x57 q_x57 r_x64 q_x64))
      refine ⟨i65, ?_⟩
      intro S66 eS66
      have hIn : IV S66 := by rw [eS66]; exact iv10_aI hI o_a7 (rg_nw hG ea7) ea62 o_a62 (by decide)
      have hG := rg_a (jj := 30) (x := x64) eS66 hI ea7 o_a7 ea62 o_a62 (by decide) (h1_no (by decide)) (fun _ => by rw [← d_x47, ← d_kv10]; exact (qr532 hiv4 r_kv8 r_kv9 r_kv10 hnf r_x12 q_x12 mo41 mo42 mo43 mo44 bb_x30 c39 q_x40 c45 r_x47 q_x47 r_x51 q_x51 r_x57 q_x57 r_x64 q_x64)) hG
      have hn := rn_11 eS66 hI o_v0 o_a62 (by decide) hn
      have el60 := el_ar eS66 (ow_ne hI o_a7 (by decide) o_a7 (by decide) ea62 ea55 (by decide)) el60
      have hI := hIn
      have f0 := fr_A eS66 g0 f0 o_a62 (by decide)
      have d_x64 := rd_Ik eS66 o_a62 o_a7 (by decide) d_x64
      have d_x47 := rd_Ik eS66 o_a62 o_a7 (by decide) d_x47
      have d_kv10 := rd_Ik eS66 o_a62 o_a7 (by decide) d_kv10
      have d_kv25 := rd_Ik eS66 o_a62 o_v0 (by decide) d_kv25
      have d_x40 := rd_Ik eS66 o_a62 o_v0 (by decide) d_x40
      have d_kv38 := rd_Ik eS66 o_a62 o_v0 (by decide) d_kv38
      have ea7 := rf_I eS66 ea7
      have ea49 := rf_I eS66 ea49
      have ea55 := rf_I eS66 ea55
      have ea62 := rf_I eS66 ea62
      have l_a49 := ln_I eS66 l_a49
      have l_a55 := ln_I eS66 l_a55
      have l_a62 := ln_I eS66 l_a62
      have g0 := gr_I eS66 g0
      have o_a49 := ob_I eS66 o_a49
      have o_a55 := ob_I eS66 o_a55
      have o_a62 := ob_I eS66 o_a62
      have o_a7 := ob_I eS66 o_a7
      have o_v0 := ob_I eS66 o_v0
      have el67 : fI S66 a62 x64.toNatClampNeg = x47 := by rw [eS66]; exact u2_self _ _ _ _
      refine ⟨a7, ea7, ?_⟩
      refine ⟨o_a7, ?_⟩
      intro x69 ex69
      have r_x69 : (0 : Int32) ≤ x69 ∧ x69 ≤ (12 : Int32) := by rw [ex69]; exact nu 22 rfl hI o_a7
      have q_x69 : x69 = x64 := ex69.trans d_x64.symm
      have d_x69 := ex69
      intro x70 ex70
      intro S71 eS71
      have hIn : IV S71 := by rw [eS71]; exact iv10_sI hI o_a7 (rg_nw hG ea7) (nu_one (lo := (0 : Int32)) (hi := (12 : Int32)) (by decide) (qr533 hiv4 r_kv8 r_kv9 r_kv10 hnf r_x12 q_x12 mo41 mo42 mo43 mo44 bb_x30 c39 q_x40 c45 r_x47 q_x47 r_x51 q_x51 r_x57 q_x57 r_x64 q_x64 r_x69 q_x69 ex70))
      have hG := rg_c eS71 hI ea7 o_a7 (by decide) hG
      have el60 := el_ob eS71 o_a7 o_a55 (by decide) el60
      have el67 := el_ob eS71 o_a7 o_a62 (by decide) el67
      have hI := hIn
      have f0 := fr_I eS71 g0 f0 o_a7 (by decide)
      have d_x47 := rd_Ij eS71 (by decide) d_x47
      have d_kv10 := rd_Ij eS71 (by decide) d_kv10
      have d_kv25 := rd_Ik eS71 o_a7 o_v0 (by decide) d_kv25
      have d_x40 := rd_Ik eS71 o_a7 o_v0 (by decide) d_x40
      have d_kv38 := rd_Ik eS71 o_a7 o_v0 (by decide) d_kv38
      have d_x70 := rd_Is eS71 (rfl : x70 = x70)
      have ea7 := rf_I eS71 ea7
      have ea49 := rf_I eS71 ea49
      have ea55 := rf_I eS71 ea55
      have ea62 := rf_I eS71 ea62
      have l_a49 := ln_I eS71 l_a49
      have l_a55 := ln_I eS71 l_a55
      have l_a62 := ln_I eS71 l_a62
      have g0 := gr_I eS71 g0
      have o_a49 := ob_I eS71 o_a49
      have o_a55 := ob_I eS71 o_a55
      have o_a62 := ob_I eS71 o_a62
      have o_a7 := ob_I eS71 o_a7
      have o_v0 := ob_I eS71 o_v0
      intro _
      refine ⟨a7, ea7, ?_⟩
      refine ⟨o_a7, ?_⟩
      obtain ⟨a73, ea73, o_a73, l_a73⟩ := shl 40 rfl hI o_a7
      refine ⟨a73, ea73, ?_⟩
      refine ⟨a7, ea7, ?_⟩
      refine ⟨o_a7, ?_⟩
      intro x75 ex75
      have r_x75 : (0 : Int32) ≤ x75 ∧ x75 ≤ (8 : Int32) := by rw [ex75]; exact nu 18 rfl hI o_a7
      have q_x75 : x75 = x47 := ex75.trans d_x47.symm
      have d_x75 := ex75
      refine ⟨o_a73, ?_⟩
      have i76 : vp_in x75 (hN _ a73) := (vin l_a73 (m := 8) (by decide) (qr534 hiv4 r_kv8 r_kv9 r_kv10 hnf r_x12 q_x12 mo41 mo42 mo43 mo44 bb_x30 c39 q_x40 c45 r_x47 q_x47 r_x51 q_x51 r_x57 q_x57 r_x64 q_x64 r_x69 q_x69 ex70 r_x75 q_x75))
      refine ⟨i76, ?_⟩
      intro S77 eS77
      have hIn : IV S77 := by rw [eS77]; exact iv10_aI hI o_a7 (rg_nw hG ea7) ea73 o_a73 (by decide)
      have hG := rg_a (jj := 18) (x := x75) eS77 hI ea7 o_a7 ea73 o_a73 (by decide) (h1_no (by decide)) (h2_no (y := 0) (by decide)) hG
      have el60 := el_ar eS77 (ow_ne hI o_a7 (by decide) o_a7 (by decide) ea73 ea55 (by decide)) el60
      have el67 := el_ar eS77 (ow_ne hI o_a7 (by decide) o_a7 (by decide) ea73 ea62 (by decide)) el67
      have hI := hIn
      have f0 := fr_A eS77 g0 f0 o_a73 (by decide)
      have d_x75 := rd_Ik eS77 o_a73 o_a7 (by decide) d_x75
      have d_kv10 := rd_Ik eS77 o_a73 o_a7 (by decide) d_kv10
      have d_kv25 := rd_Ik eS77 o_a73 o_v0 (by decide) d_kv25
      have d_x40 := rd_Ik eS77 o_a73 o_v0 (by decide) d_x40
      have d_kv38 := rd_Ik eS77 o_a73 o_v0 (by decide) d_kv38
      have d_x70 := rd_Ik eS77 o_a73 o_a7 (by decide) d_x70
      have ea7 := rf_I eS77 ea7
      have ea49 := rf_I eS77 ea49
      have ea55 := rf_I eS77 ea55
      have ea62 := rf_I eS77 ea62
      have ea73 := rf_I eS77 ea73
      have l_a49 := ln_I eS77 l_a49
      have l_a55 := ln_I eS77 l_a55
      have l_a62 := ln_I eS77 l_a62
      have l_a73 := ln_I eS77 l_a73
      have g0 := gr_I eS77 g0
      have o_a49 := ob_I eS77 o_a49
      have o_a55 := ob_I eS77 o_a55
      have o_a62 := ob_I eS77 o_a62
      have o_a7 := ob_I eS77 o_a7
      have o_a73 := ob_I eS77 o_a73
      have o_v0 := ob_I eS77 o_v0
      refine ⟨a7, ea7, ?_⟩
      refine ⟨o_a7, ?_⟩
      obtain ⟨a79, ea79, o_a79, l_a79⟩ := shl 34 rfl hI o_a7
      refine ⟨a79, ea79, ?_⟩
      refine ⟨a7, ea7, ?_⟩
      refine ⟨o_a7, ?_⟩
      intro x81 ex81
      have r_x81 : (0 : Int32) ≤ x81 ∧ x81 ≤ (8 : Int32) := by rw [ex81]; exact nu 18 rfl hI o_a7
      have q_x81 : x81 = x75 := ex81.trans d_x75.symm
      have d_x81 := ex81
      refine ⟨o_a79, ?_⟩
      have i82 : vp_in x81 (hN _ a79) := (vin l_a79 (m := 8) (by decide) (qr535 hiv4 r_kv8 r_kv9 r_kv10 hnf r_x12 q_x12 mo41 mo42 mo43 mo44 bb_x30 c39 q_x40 c45 r_x47 q_x47 r_x51 q_x51 r_x57 q_x57 r_x64 q_x64 r_x69 q_x69 ex70 r_x75 q_x75 r_x81 q_x81))
      refine ⟨i82, ?_⟩
      intro S83 eS83
      have hIn : IV S83 := by rw [eS83]; exact iv10_aI hI o_a7 (rg_nw hG ea7) ea79 o_a79 (by decide)
      have hG := rg_a (jj := 12) (x := x81) eS83 hI ea7 o_a7 ea79 o_a79 (by decide) (h1_no (by decide)) (h2_no (y := 0) (by decide)) hG
      have el60 := el_ar eS83 (ow_ne hI o_a7 (by decide) o_a7 (by decide) ea79 ea55 (by decide)) el60
      have el67 := el_ar eS83 (ow_ne hI o_a7 (by decide) o_a7 (by decide) ea79 ea62 (by decide)) el67
      have hI := hIn
      have f0 := fr_A eS83 g0 f0 o_a79 (by decide)
      have d_x81 := rd_Ik eS83 o_a79 o_a7 (by decide) d_x81
      have d_kv10 := rd_Ik eS83 o_a79 o_a7 (by decide) d_kv10
      have d_kv25 := rd_Ik eS83 o_a79 o_v0 (by decide) d_kv25
      have d_x40 := rd_Ik eS83 o_a79 o_v0 (by decide) d_x40
      have d_kv38 := rd_Ik eS83 o_a79 o_v0 (by decide) d_kv38
      have d_x70 := rd_Ik eS83 o_a79 o_a7 (by decide) d_x70
      have ea7 := rf_I eS83 ea7
      have ea49 := rf_I eS83 ea49
      have ea55 := rf_I eS83 ea55
      have ea62 := rf_I eS83 ea62
      have ea73 := rf_I eS83 ea73
      have ea79 := rf_I eS83 ea79
      have l_a49 := ln_I eS83 l_a49
      have l_a55 := ln_I eS83 l_a55
      have l_a62 := ln_I eS83 l_a62
      have l_a73 := ln_I eS83 l_a73
      have l_a79 := ln_I eS83 l_a79
      have g0 := gr_I eS83 g0
      have o_a49 := ob_I eS83 o_a49
      have o_a55 := ob_I eS83 o_a55
      have o_a62 := ob_I eS83 o_a62
      have o_a7 := ob_I eS83 o_a7
      have o_a73 := ob_I eS83 o_a73
      have o_a79 := ob_I eS83 o_a79
      have o_v0 := ob_I eS83 o_v0
      refine ⟨a7, ea7, ?_⟩
      refine ⟨o_a7, ?_⟩
      intro x85 ex85
      have r_x85 : (0 : Int32) ≤ x85 ∧ x85 ≤ (8 : Int32) := by rw [ex85]; exact nu 18 rfl hI o_a7
      have q_x85 : x85 = x81 := ex85.trans d_x81.symm
      have d_x85 := ex85
      intro x86 ex86
      intro S87 eS87
      have hIn : IV S87 := by rw [eS87]; exact iv10_sI hI o_a7 (rg_nw hG ea7) (nu_one (lo := (0 : Int32)) (hi := (8 : Int32)) (by decide) (qr536 hiv4 r_kv8 r_kv9 r_kv10 hnf r_x12 q_x12 mo41 mo42 mo43 mo44 bb_x30 c39 q_x40 c45 r_x47 q_x47 r_x51 q_x51 r_x57 q_x57 r_x64 q_x64 r_x69 q_x69 ex70 r_x75 q_x75 r_x81 q_x81 r_x85 q_x85 ex86))
      have hG := rg_inc (c := 2) (y := x85) eS87 hI ea7 o_a7 d_x85.symm (qr537 hiv4 r_kv8 r_kv9 r_kv10 hnf r_x12 q_x12 mo41 mo42 mo43 mo44 bb_x30 c39 q_x40 c45 r_x47 q_x47 r_x51 q_x51 r_x57 q_x57 r_x64 q_x64 r_x69 q_x69 ex70 r_x75 q_x75 r_x81 q_x81 r_x85 q_x85 ex86) (qr538 hiv4 r_kv8 r_kv9 r_kv10 hnf r_x12 q_x12 mo41 mo42 mo43 mo44 bb_x30 c39 q_x40 c45 r_x47 q_x47 r_x51 q_x51 r_x57 q_x57 r_x64 q_x64 r_x69 q_x69 ex70 r_x75 q_x75 r_x81 q_x81 r_x85 q_x85 ex86) hn_2 (hs_2 eS87 d_x85.symm d_kv10.symm (qr537 hiv4 r_kv8 r_kv9 r_kv10 hnf r_x12 q_x12 mo41 mo42 mo43 mo44 bb_x30 c39 q_x40 c45 r_x47 q_x47 r_x51 q_x51 r_x57 q_x57 r_x64 q_x64 r_x69 q_x69 ex70 r_x75 q_x75 r_x81 q_x81 r_x85 q_x85 ex86) (qr538 hiv4 r_kv8 r_kv9 r_kv10 hnf r_x12 q_x12 mo41 mo42 mo43 mo44 bb_x30 c39 q_x40 c45 r_x47 q_x47 r_x51 q_x51 r_x57 q_x57 r_x64 q_x64 r_x69 q_x69 ex70 r_x75 q_x75 r_x81 q_x81 r_x85 q_x85 ex86) (qr539 hiv4 r_kv8 r_kv9 r_kv10 hnf r_x12 q_x12 mo41 mo42 mo43 mo44 bb_x30 c39 q_x40 c45 r_x47 q_x47 r_x51 q_x51 r_x57 q_x57 r_x64 q_x64 r_x69 q_x69 ex70 r_x75 q_x75 r_x81 q_x81 r_x85 q_x85 ex86) ea55 ea62 el60 (el67.trans (qr540 hiv4 r_kv8 r_kv9 r_kv10 hnf r_x12 q_x12 mo41 mo42 mo43 mo44 bb_x30 c39 q_x40 c45 r_x47 q_x47 r_x51 q_x51 r_x57 q_x57 r_x64 q_x64 r_x69 q_x69 ex70 r_x75 q_x75 r_x81 q_x81 r_x85 q_x85 ex86)) (qr541 hiv4 r_kv8 r_kv9 r_kv10 hnf r_x12 q_x12 mo41 mo42 mo43 mo44 bb_x30 c39 q_x40 c45 r_x47 q_x47 r_x51 q_x51 r_x57 q_x57 r_x64 q_x64 r_x69 q_x69 ex70 r_x75 q_x75 r_x81 q_x81 r_x85 q_x85 ex86) (qr542 hiv4 r_kv8 r_kv9 r_kv10 hnf r_x12 q_x12 mo41 mo42 mo43 mo44 bb_x30 c39 q_x40 c45 r_x47 q_x47 r_x51 q_x51 r_x57 q_x57 r_x64 q_x64 r_x69 q_x69 ex70 r_x75 q_x75 r_x81 q_x81 r_x85 q_x85 ex86)) hG
      have el60 := el_ob eS87 o_a7 o_a55 (by decide) el60
      have el67 := el_ob eS87 o_a7 o_a62 (by decide) el67
      have hI := hIn
      have f0 := fr_I eS87 g0 f0 o_a7 (by decide)
      have d_kv10 := rd_Ij eS87 (by decide) d_kv10
      have d_kv25 := rd_Ik eS87 o_a7 o_v0 (by decide) d_kv25
      have d_x40 := rd_Ik eS87 o_a7 o_v0 (by decide) d_x40
      have d_kv38 := rd_Ik eS87 o_a7 o_v0 (by decide) d_kv38
      have d_x70 := rd_Ij eS87 (by decide) d_x70
      have d_x86 := rd_Is eS87 (rfl : x86 = x86)
      have ea7 := rf_I eS87 ea7
      have ea49 := rf_I eS87 ea49
      have ea55 := rf_I eS87 ea55
      have ea62 := rf_I eS87 ea62
      have ea73 := rf_I eS87 ea73
      have ea79 := rf_I eS87 ea79
      have l_a49 := ln_I eS87 l_a49
      have l_a55 := ln_I eS87 l_a55
      have l_a62 := ln_I eS87 l_a62
      have l_a73 := ln_I eS87 l_a73
      have l_a79 := ln_I eS87 l_a79
      have g0 := gr_I eS87 g0
      have o_a49 := ob_I eS87 o_a49
      have o_a55 := ob_I eS87 o_a55
      have o_a62 := ob_I eS87 o_a62
      have o_a7 := ob_I eS87 o_a7
      have o_a73 := ob_I eS87 o_a73
      have o_a79 := ob_I eS87 o_a79
      have o_v0 := ob_I eS87 o_v0
      have hn : RN S87 v0 := fun z ez => by obtain rfl : a7 = z := Option.some.inj (ea7.symm.trans ez); rw [← d_x70, ← d_x86, ← d_kv10]; exact (qr543 hiv4 r_kv8 r_kv9 r_kv10 hnf r_x12 q_x12 mo41 mo42 mo43 mo44 bb_x30 c39 q_x40 c45 r_x47 q_x47 r_x51 q_x51 r_x57 q_x57 r_x64 q_x64 r_x69 q_x69 ex70 r_x75 q_x75 r_x81 q_x81 r_x85 q_x85 ex86)
      exact hq _ hI g0 f0 ⟨hG, hn, (by have t : x40 = 5 → 0 < kv25 := (qr544 hiv4 hiv6 hO r_kv8 r_kv9 r_kv10 hnf r_x12 q_x12 ph0_S14 mo41 mo42 ph0_S21 mo43 hiv29 ph0_S31 mo44 bb_x30 c39 q_x40 c45 r_x47 q_x47 r_x51 q_x51 r_x57 q_x57 r_x64 q_x64 r_x69 q_x69 ex70 r_x75 q_x75 r_x81 q_x81 r_x85 q_x85 ex86); rw [d_x40, d_kv25] at t; exact t), (by have t : x40 = 5 ∨ ¬ iv4 = 5 := (qr545 hiv4 r_kv8 r_kv9 r_kv10 hnf r_x12 q_x12 mo41 mo42 mo43 mo44 bb_x30 c39 q_x40 c45 r_x47 q_x47 r_x51 q_x51 r_x57 q_x57 r_x64 q_x64 r_x69 q_x69 ex70 r_x75 q_x75 r_x81 q_x81 r_x85 q_x85 ex86); rw [di_9, d_x40] at t; exact t), (by have t : iv2 ≤ kv38 ∧ (x40 = 4 → iv2 < kv38 ∨ iv4 = 4) := (qr546 r_kv1 hiv2 hiv4 r_kv8 r_kv9 r_kv10 hnf r_x12 q_x12 mo41 r_kv19 ph2_S14 mo42 mo43 r_kv28 ph2_S21 mo44 r_kv38 ph2_S31 bb_x30 c39 q_x40 c45 r_x47 q_x47 r_x51 q_x51 r_x57 q_x57 r_x64 q_x64 r_x69 q_x69 ex70 r_x75 q_x75 r_x81 q_x81 r_x85 q_x85 ex86); rw [di_8, di_9, d_kv38, d_x40] at t; exact t)⟩
    · exact hq _ hI g0 f0 ⟨hG, hn, (by have t : x40 = 5 → 0 < kv25 := (qr547 hiv4 hiv6 hO r_kv8 r_kv9 r_kv10 hnf r_x12 q_x12 ph0_S14 mo41 mo42 ph0_S21 mo43 hiv29 ph0_S31 mo44 bb_x30 c39 q_x40 c45); rw [d_x40, d_kv25] at t; exact t), (by have t : x40 = 5 ∨ ¬ iv4 = 5 := (qr548 hiv4 r_kv8 r_kv9 r_kv10 hnf r_x12 q_x12 mo41 mo42 mo43 mo44 bb_x30 c39 q_x40 c45); rw [di_9, d_x40] at t; exact t), (by have t : iv2 ≤ kv38 ∧ (x40 = 4 → iv2 < kv38 ∨ iv4 = 4) := (qr549 r_kv1 hiv2 hiv4 r_kv8 r_kv9 r_kv10 hnf r_x12 q_x12 mo41 r_kv19 ph2_S14 mo42 mo43 r_kv28 ph2_S21 mo44 r_kv38 ph2_S31 bb_x30 c39 q_x40 c45); rw [di_8, di_9, d_kv38, d_x40] at t; exact t)⟩
  · obtain ⟨iv88, hiv88⟩ : ∃ z : Int32, z = kv25 := ⟨_, rfl⟩
    have d_iv88 := hiv88.trans d_kv25
    have do88_kv38 := d_kv38
    have do88_kv34 := d_kv34
    have do88_iv88 := d_iv88
    refine m_X11_eatsWord hI o_v0 (by decide) hG (by have t : kv34 = 5 → 0 < kv25 := (qr550 hiv4 hiv6 hO r_kv8 r_kv9 r_kv10 hnf r_x12 q_x12 ph0_S14 mo35 mo36 ph0_S21 mo37 hiv29 ph0_S31 ph1_S31 bb_x30 c39); rw [d_kv34, d_kv25] at t; exact t) (fun x89 S90 hJ g91 fc92 b_x89 p_x89 => ?_)
    obtain ⟨hG, pg0_S90, pg1_S90, pg2_S90⟩ := p_x89
    have hn := rn_fr fc92 g91 hI o_v0 (by decide) hn
    have hI := hJ
    have d_kv8 := d_kv8.trans (fri_at fc92 (by decide) (by decide) o_a7).symm
    have d_x12 := d_x12.trans (fri_at fc92 (by decide) (by decide) o_a7).symm
    have d_kv10 := d_kv10.trans (fri_at fc92 (by decide) (by decide) o_a7).symm
    have d_kv25 := d_kv25.trans (fri_at fc92 (by decide) (by decide) o_v0).symm
    have ea7 := (frr_at fc92 (by decide) (by decide) o_v0).trans ea7
    have f0 := fri_tr (S := S31) g0 f0 fc92 (by decide) (by decide)
    have o_a7 := gr_ob g91 o_a7
    have o_v0 := gr_ob g91 o_v0
    have g0 := gr_tr (T := S31) g0 g91
    obtain ⟨kv93, d_kv93⟩ : ∃ z : Int32, z = fI S90 v0 9 := ⟨_, rfl⟩
    have ph0_S90 : kv93 = 5 → 0 < kv25 := by rw [d_kv93, d_kv25]; exact pg0_S90
    have ph1_S90 : kv93 = 5 ∨ ¬ kv34 = 5 := by rw [do88_kv34, d_kv93]; exact pg1_S90
    have mo94 : kv93 = 5 ∨ ¬ kv3 = 5 := ph1_S90.elim Or.inl (fun h => Or.inr (mo35.resolve_left h))
    have mo95 : kv93 = 5 ∨ ¬ x12 = (8 : Int32) := ph1_S90.elim Or.inl (fun h => Or.inr (mo36.resolve_left h))
    have mo96 : kv93 = 5 ∨ ¬ kv17 = 5 := ph1_S90.elim Or.inl (fun h => Or.inr (mo37.resolve_left h))
    have mo97 : kv93 = 5 ∨ ¬ kv24 = 5 := ph1_S90.elim Or.inl (fun h => Or.inr (ph1_S31.resolve_left h))
    obtain ⟨kv98, d_kv98⟩ : ∃ z : Int32, z = fI S90 v0 8 := ⟨_, rfl⟩
    have r_kv98 : (0 : Int32) ≤ kv98 ∧ kv98 ≤ (900 : Int32) := by rw [d_kv98]; exact nu 25 rfl hI o_v0
    have ph2_S90 : kv38 ≤ kv98 ∧ (kv93 = 4 → kv38 < kv98 ∨ kv34 = 4) := by rw [do88_kv38, do88_kv34, d_kv98, d_kv93]; exact pg2_S90
    intro _ _
    have bb_x89 : x89 = 0 ∨ x89 = 1 := b_x89
    refine ⟨fun c99 => ?_, fun c99 => ?_⟩
    · refine u_X11_readPlace_48 ?_
      refine u_X11_readPlace_50 ?_
      refine ⟨o_v0, ?_⟩
      intro x100 ex100
      have q_x100 : x100 = kv93 := ex100.trans d_kv93.symm
      have mo101 : x100 = 5 ∨ ¬ kv3 = 5 := mo94.imp_left (fun z => q_x100.trans z)
      have mo102 : x100 = 5 ∨ ¬ x12 = (8 : Int32) := mo95.imp_left (fun z => q_x100.trans z)
      have mo103 : x100 = 5 ∨ ¬ kv17 = 5 := mo96.imp_left (fun z => q_x100.trans z)
      have mo104 : x100 = 5 ∨ ¬ kv24 = 5 := mo97.imp_left (fun z => q_x100.trans z)
      have mo105 : x100 = 5 ∨ ¬ kv34 = 5 := ph1_S90.imp_left (fun z => q_x100.trans z)
      have d_x100 := ex100
      refine ⟨fun c106 => ?_, fun c106 => ?_⟩
      · refine ⟨a7, ea7, ?_⟩
        refine ⟨o_a7, ?_⟩
        intro x108 ex108
        have r_x108 : (0 : Int32) ≤ x108 ∧ x108 ≤ (8 : Int32) := by rw [ex108]; exact nu 18 rfl hI o_a7
        have q_x108 : x108 = x12 := ex108.trans d_x12.symm
        have d_x108 := ex108
        refine u_X11_names ?_
        refine u_X11_names_0 ?_
        refine ⟨o_v0, ?_⟩
        refine ⟨a7, ea7, ?_⟩
        refine ⟨o_a7, ?_⟩
        obtain ⟨a110, ea110, o_a110, l_a110⟩ := shl 50 rfl hI o_a7
        refine ⟨a110, ea110, ?_⟩
        refine ⟨a7, ea7, ?_⟩
        refine ⟨o_a7, ?_⟩
        intro x112 ex112
        have r_x112 : (0 : Int32) ≤ x112 ∧ x112 ≤ (12 : Int32) := by rw [ex112]; exact nu 22 rfl hI o_a7
        have q_x112 : x112 = kv8 := ex112.trans d_kv8.symm
        have d_x112 := ex112
        refine ⟨o_a110, ?_⟩
        have i113 : vp_in x112 (hN _ a110) := (vin l_a110 (m := 12) (by decide) (qr551 hiv4 r_kv8 r_kv9 r_kv10 hnf r_x12 q_x12 mo101 mo102 mo103 mo104 bb_x30 c39 mo105 bb_x89 c99 q_x100 c106 r_x108 q_x108 r_x112 q_x112))
        refine ⟨i113, ?_⟩
        intro S114 eS114
        have hIn : IV S114 := by rw [eS114]; exact iv10_aJ hI o_a7 (by decide) ea110
        have hG := rg_J eS114 hG
        have hn := rn_J eS114 hn
        have hI := hIn
        have f0 := fr_J eS114 f0
        have d_x112 := rd_J eS114 d_x112
        have d_x108 := rd_J eS114 d_x108
        have d_kv10 := rd_J eS114 d_kv10
        have d_kv25 := rd_J eS114 d_kv25
        have d_x100 := rd_J eS114 d_x100
        have d_kv98 := rd_J eS114 d_kv98
        have ea7 := rf_J eS114 ea7
        have ea110 := rf_J eS114 ea110
        have l_a110 := ln_J eS114 l_a110
        have g0 := gr_J eS114 g0
        have o_a110 := ob_J eS114 o_a110
        have o_a7 := ob_J eS114 o_a7
        have o_v0 := ob_J eS114 o_v0
        refine ⟨a7, ea7, ?_⟩
        refine ⟨o_a7, ?_⟩
        obtain ⟨a116, ea116, o_a116, l_a116⟩ := shl 51 rfl hI o_a7
        refine ⟨a116, ea116, ?_⟩
        refine ⟨a7, ea7, ?_⟩
        refine ⟨o_a7, ?_⟩
        intro x118 ex118
        have r_x118 : (0 : Int32) ≤ x118 ∧ x118 ≤ (12 : Int32) := by rw [ex118]; exact nu 22 rfl hI o_a7
        have q_x118 : x118 = x112 := ex118.trans d_x112.symm
        have d_x118 := ex118
        refine ⟨o_a116, ?_⟩
        have i119 : vp_in x118 (hN _ a116) := (vin l_a116 (m := 12) (by decide) (qr552 hiv4 r_kv8 r_kv9 r_kv10 hnf r_x12 q_x12 mo101 mo102 mo103 mo104 bb_x30 c39 mo105 bb_x89 c99 q_x100 c106 r_x108 q_x108 r_x112 q_x112 r_x118 q_x118))
        refine ⟨i119, ?_⟩
        intro S120 eS120
        have hIn : IV S120 := by rw [eS120]; exact iv10_aI hI o_a7 (rg_nw hG ea7) ea116 o_a116 (by decide)
        have hG := rg_a (jj := 29) (x := x118) eS120 hI ea7 o_a7 ea116 o_a116 (by decide) (h1_no (by decide)) (fun _ => by rw [← d_x108, ← d_kv10]; exact (qr553 hiv4 r_kv8 r_kv9 r_kv10 hnf r_x12 q_x12 mo101 mo102 mo103 mo104 bb_x30 c39 mo105 bb_x89 c99 q_x100 c106 r_x108 q_x108 r_x112 q_x112 r_x118 q_x118)) hG
        have hn := rn_11 eS120 hI o_v0 o_a116 (by decide) hn
        have hI := hIn
        have f0 := fr_A eS120 g0 f0 o_a116 (by decide)
        have d_x118 := rd_Ik eS120 o_a116 o_a7 (by decide) d_x118
        have d_x108 := rd_Ik eS120 o_a116 o_a7 (by decide) d_x108
        have d_kv10 := rd_Ik eS120 o_a116 o_a7 (by decide) d_kv10
        have d_kv25 := rd_Ik eS120 o_a116 o_v0 (by decide) d_kv25
        have d_x100 := rd_Ik eS120 o_a116 o_v0 (by decide) d_x100
        have d_kv98 := rd_Ik eS120 o_a116 o_v0 (by decide) d_kv98
        have ea7 := rf_I eS120 ea7
        have ea110 := rf_I eS120 ea110
        have ea116 := rf_I eS120 ea116
        have l_a110 := ln_I eS120 l_a110
        have l_a116 := ln_I eS120 l_a116
        have g0 := gr_I eS120 g0
        have o_a110 := ob_I eS120 o_a110
        have o_a116 := ob_I eS120 o_a116
        have o_a7 := ob_I eS120 o_a7
        have o_v0 := ob_I eS120 o_v0
        have el121 : fI S120 a116 x118.toNatClampNeg = (0 : Int32) := by rw [eS120]; exact u2_self _ _ _ _
        refine ⟨a7, ea7, ?_⟩
        refine ⟨o_a7, ?_⟩
        obtain ⟨a123, ea123, o_a123, l_a123⟩ := shl 52 rfl hI o_a7
        refine ⟨a123, ea123, ?_⟩
        refine ⟨a7, ea7, ?_⟩
        refine ⟨o_a7, ?_⟩
        intro x125 ex125
        have r_x125 : (0 : Int32) ≤ x125 ∧ x125 ≤ (12 : Int32) := by rw [ex125]; exact nu 22 rfl hI o_a7
        have q_x125 : x125 = x118 := ex125.trans d_x118.symm
        have d_x125 := ex125
        refine ⟨o_a123, ?_⟩
        have i126 : vp_in x125 (hN _ a123) := (vin l_a123 (m := 12) (by decide) (qr554 hiv4 r_kv8 r_kv9 r_kv10 hnf r_x12 q_x12 mo101 mo102 mo103 mo104 bb_x30 c39 mo105 bb_x89 c99 q_x100 c106 r_x108 q_x108 r_x112 q_x112 r_x118 q_x118 r_x125 q_x125))
        refine ⟨i126, ?_⟩
        intro S127 eS127
        have hIn : IV S127 := by rw [eS127]; exact iv10_aI hI o_a7 (rg_nw hG ea7) ea123 o_a123 (by decide)
        have hG := rg_a (jj := 30) (x := x125) eS127 hI ea7 o_a7 ea123 o_a123 (by decide) (h1_no (by decide)) (fun _ => by rw [← d_x108, ← d_kv10]; exact (qr555 hiv4 r_kv8 r_kv9 r_kv10 hnf r_x12 q_x12 mo101 mo102 mo103 mo104 bb_x30 c39 mo105 bb_x89 c99 q_x100 c106 r_x108 q_x108 r_x112 q_x112 r_x118 q_x118 r_x125 q_x125)) hG
        have hn := rn_11 eS127 hI o_v0 o_a123 (by decide) hn
        have el121 := el_ar eS127 (ow_ne hI o_a7 (by decide) o_a7 (by decide) ea123 ea116 (by decide)) el121
        have hI := hIn
        have f0 := fr_A eS127 g0 f0 o_a123 (by decide)
        have d_x125 := rd_Ik eS127 o_a123 o_a7 (by decide) d_x125
        have d_x108 := rd_Ik eS127 o_a123 o_a7 (by decide) d_x108
        have d_kv10 := rd_Ik eS127 o_a123 o_a7 (by decide) d_kv10
        have d_kv25 := rd_Ik eS127 o_a123 o_v0 (by decide) d_kv25
        have d_x100 := rd_Ik eS127 o_a123 o_v0 (by decide) d_x100
        have d_kv98 := rd_Ik eS127 o_a123 o_v0 (by decide) d_kv98
        have ea7 := rf_I eS127 ea7
        have ea110 := rf_I eS127 ea110
        have ea116 := rf_I eS127 ea116
        have ea123 := rf_I eS127 ea123
        have l_a110 := ln_I eS127 l_a110
        have l_a116 := ln_I eS127 l_a116
        have l_a123 := ln_I eS127 l_a123
        have g0 := gr_I eS127 g0
        have o_a110 := ob_I eS127 o_a110
        have o_a116 := ob_I eS127 o_a116
        have o_a123 := ob_I eS127 o_a123
        have o_a7 := ob_I eS127 o_a7
        have o_v0 := ob_I eS127 o_v0
        have el128 : fI S127 a123 x125.toNatClampNeg = x108 := by rw [eS127]; exact u2_self _ _ _ _
        refine ⟨a7, ea7, ?_⟩
        refine ⟨o_a7, ?_⟩
        intro x130 ex130
        have r_x130 : (0 : Int32) ≤ x130 ∧ x130 ≤ (12 : Int32) := by rw [ex130]; exact nu 22 rfl hI o_a7
        have q_x130 : x130 = x125 := ex130.trans d_x125.symm
        have d_x130 := ex130
        intro x131 ex131
        intro S132 eS132
        have hIn : IV S132 := by rw [eS132]; exact iv10_sI hI o_a7 (rg_nw hG ea7) (nu_one (lo := (0 : Int32)) (hi := (12 : Int32)) (by decide) (qr556 hiv4 r_kv8 r_kv9 r_kv10 hnf r_x12 q_x12 mo101 mo102 mo103 mo104 bb_x30 c39 mo105 bb_x89 c99 q_x100 c106 r_x108 q_x108 r_x112 q_x112 r_x118 q_x118 r_x125 q_x125 r_x130 q_x130 ex131))
        have hG := rg_c eS132 hI ea7 o_a7 (by decide) hG
        have el121 := el_ob eS132 o_a7 o_a116 (by decide) el121
        have el128 := el_ob eS132 o_a7 o_a123 (by decide) el128
        have hI := hIn
        have f0 := fr_I eS132 g0 f0 o_a7 (by decide)
        have d_x108 := rd_Ij eS132 (by decide) d_x108
        have d_kv10 := rd_Ij eS132 (by decide) d_kv10
        have d_kv25 := rd_Ik eS132 o_a7 o_v0 (by decide) d_kv25
        have d_x100 := rd_Ik eS132 o_a7 o_v0 (by decide) d_x100
        have d_kv98 := rd_Ik eS132 o_a7 o_v0 (by decide) d_kv98
        have d_x131 := rd_Is eS132 (rfl : x131 = x131)
        have ea7 := rf_I eS132 ea7
        have ea110 := rf_I eS132 ea110
        have ea116 := rf_I eS132 ea116
        have ea123 := rf_I eS132 ea123
        have l_a110 := ln_I eS132 l_a110
        have l_a116 := ln_I eS132 l_a116
        have l_a123 := ln_I eS132 l_a123
        have g0 := gr_I eS132 g0
        have o_a110 := ob_I eS132 o_a110
        have o_a116 := ob_I eS132 o_a116
        have o_a123 := ob_I eS132 o_a123
        have o_a7 := ob_I eS132 o_a7
        have o_v0 := ob_I eS132 o_v0
        intro _
        refine ⟨a7, ea7, ?_⟩
        refine ⟨o_a7, ?_⟩
        obtain ⟨a134, ea134, o_a134, l_a134⟩ := shl 40 rfl hI o_a7
        refine ⟨a134, ea134, ?_⟩
        refine ⟨a7, ea7, ?_⟩
        refine ⟨o_a7, ?_⟩
        intro x136 ex136
        have r_x136 : (0 : Int32) ≤ x136 ∧ x136 ≤ (8 : Int32) := by rw [ex136]; exact nu 18 rfl hI o_a7
        have q_x136 : x136 = x108 := ex136.trans d_x108.symm
        have d_x136 := ex136
        refine ⟨o_a134, ?_⟩
        have i137 : vp_in x136 (hN _ a134) := (vin l_a134 (m := 8) (by decide) (qr557 hiv4 r_kv8 r_kv9 r_kv10 hnf r_x12 q_x12 mo101 mo102 mo103 mo104 bb_x30 c39 mo105 bb_x89 c99 q_x100 c106 r_x108 q_x108 r_x112 q_x112 r_x118 q_x118 r_x125 q_x125 r_x130 q_x130 ex131 r_x136 q_x136))
        refine ⟨i137, ?_⟩
        intro S138 eS138
        have hIn : IV S138 := by rw [eS138]; exact iv10_aI hI o_a7 (rg_nw hG ea7) ea134 o_a134 (by decide)
        have hG := rg_a (jj := 18) (x := x136) eS138 hI ea7 o_a7 ea134 o_a134 (by decide) (h1_no (by decide)) (h2_no (y := 0) (by decide)) hG
        have el121 := el_ar eS138 (ow_ne hI o_a7 (by decide) o_a7 (by decide) ea134 ea116 (by decide)) el121
        have el128 := el_ar eS138 (ow_ne hI o_a7 (by decide) o_a7 (by decide) ea134 ea123 (by decide)) el128
        have hI := hIn
        have f0 := fr_A eS138 g0 f0 o_a134 (by decide)
        have d_x136 := rd_Ik eS138 o_a134 o_a7 (by decide) d_x136
        have d_kv10 := rd_Ik eS138 o_a134 o_a7 (by decide) d_kv10
        have d_kv25 := rd_Ik eS138 o_a134 o_v0 (by decide) d_kv25
        have d_x100 := rd_Ik eS138 o_a134 o_v0 (by decide) d_x100
        have d_kv98 := rd_Ik eS138 o_a134 o_v0 (by decide) d_kv98
        have d_x131 := rd_Ik eS138 o_a134 o_a7 (by decide) d_x131
        have ea7 := rf_I eS138 ea7
        have ea110 := rf_I eS138 ea110
        have ea116 := rf_I eS138 ea116
        have ea123 := rf_I eS138 ea123
        have ea134 := rf_I eS138 ea134
        have l_a110 := ln_I eS138 l_a110
        have l_a116 := ln_I eS138 l_a116
        have l_a123 := ln_I eS138 l_a123
        have l_a134 := ln_I eS138 l_a134
        have g0 := gr_I eS138 g0
        have o_a110 := ob_I eS138 o_a110
        have o_a116 := ob_I eS138 o_a116
        have o_a123 := ob_I eS138 o_a123
        have o_a134 := ob_I eS138 o_a134
        have o_a7 := ob_I eS138 o_a7
        have o_v0 := ob_I eS138 o_v0
        refine ⟨a7, ea7, ?_⟩
        refine ⟨o_a7, ?_⟩
        obtain ⟨a140, ea140, o_a140, l_a140⟩ := shl 34 rfl hI o_a7
        refine ⟨a140, ea140, ?_⟩
        refine ⟨a7, ea7, ?_⟩
        refine ⟨o_a7, ?_⟩
        intro x142 ex142
        have r_x142 : (0 : Int32) ≤ x142 ∧ x142 ≤ (8 : Int32) := by rw [ex142]; exact nu 18 rfl hI o_a7
        have q_x142 : x142 = x136 := ex142.trans d_x136.symm
        have d_x142 := ex142
        refine ⟨o_a140, ?_⟩
        have i143 : vp_in x142 (hN _ a140) := (vin l_a140 (m := 8) (by decide) (qr558 hiv4 r_kv8 r_kv9 r_kv10 hnf r_x12 q_x12 mo101 mo102 mo103 mo104 bb_x30 c39 mo105 bb_x89 c99 q_x100 c106 r_x108 q_x108 r_x112 q_x112 r_x118 q_x118 r_x125 q_x125 r_x130 q_x130 ex131 r_x136 q_x136 r_x142 q_x142))
        refine ⟨i143, ?_⟩
        intro S144 eS144
        have hIn : IV S144 := by rw [eS144]; exact iv10_aI hI o_a7 (rg_nw hG ea7) ea140 o_a140 (by decide)
        have hG := rg_a (jj := 12) (x := x142) eS144 hI ea7 o_a7 ea140 o_a140 (by decide) (h1_no (by decide)) (h2_no (y := 0) (by decide)) hG
        have el121 := el_ar eS144 (ow_ne hI o_a7 (by decide) o_a7 (by decide) ea140 ea116 (by decide)) el121
        have el128 := el_ar eS144 (ow_ne hI o_a7 (by decide) o_a7 (by decide) ea140 ea123 (by decide)) el128
        have hI := hIn
        have f0 := fr_A eS144 g0 f0 o_a140 (by decide)
        have d_x142 := rd_Ik eS144 o_a140 o_a7 (by decide) d_x142
        have d_kv10 := rd_Ik eS144 o_a140 o_a7 (by decide) d_kv10
        have d_kv25 := rd_Ik eS144 o_a140 o_v0 (by decide) d_kv25
        have d_x100 := rd_Ik eS144 o_a140 o_v0 (by decide) d_x100
        have d_kv98 := rd_Ik eS144 o_a140 o_v0 (by decide) d_kv98
        have d_x131 := rd_Ik eS144 o_a140 o_a7 (by decide) d_x131
        have ea7 := rf_I eS144 ea7
        have ea110 := rf_I eS144 ea110
        have ea116 := rf_I eS144 ea116
        have ea123 := rf_I eS144 ea123
        have ea134 := rf_I eS144 ea134
        have ea140 := rf_I eS144 ea140
        have l_a110 := ln_I eS144 l_a110
        have l_a116 := ln_I eS144 l_a116
        have l_a123 := ln_I eS144 l_a123
        have l_a134 := ln_I eS144 l_a134
        have l_a140 := ln_I eS144 l_a140
        have g0 := gr_I eS144 g0
        have o_a110 := ob_I eS144 o_a110
        have o_a116 := ob_I eS144 o_a116
        have o_a123 := ob_I eS144 o_a123
        have o_a134 := ob_I eS144 o_a134
        have o_a140 := ob_I eS144 o_a140
        have o_a7 := ob_I eS144 o_a7
        have o_v0 := ob_I eS144 o_v0
        refine ⟨a7, ea7, ?_⟩
        refine ⟨o_a7, ?_⟩
        intro x146 ex146
        have r_x146 : (0 : Int32) ≤ x146 ∧ x146 ≤ (8 : Int32) := by rw [ex146]; exact nu 18 rfl hI o_a7
        have q_x146 : x146 = x142 := ex146.trans d_x142.symm
        have d_x146 := ex146
        intro x147 ex147
        intro S148 eS148
        have hIn : IV S148 := by rw [eS148]; exact iv10_sI hI o_a7 (rg_nw hG ea7) (nu_one (lo := (0 : Int32)) (hi := (8 : Int32)) (by decide) (qr559 hiv4 r_kv8 r_kv9 r_kv10 hnf r_x12 q_x12 mo101 mo102 mo103 mo104 bb_x30 c39 mo105 bb_x89 c99 q_x100 c106 r_x108 q_x108 r_x112 q_x112 r_x118 q_x118 r_x125 q_x125 r_x130 q_x130 ex131 r_x136 q_x136 r_x142 q_x142 r_x146 q_x146 ex147))
        have hG := rg_inc (c := 2) (y := x146) eS148 hI ea7 o_a7 d_x146.symm (qr560 hiv4 r_kv8 r_kv9 r_kv10 hnf r_x12 q_x12 mo101 mo102 mo103 mo104 bb_x30 c39 mo105 bb_x89 c99 q_x100 c106 r_x108 q_x108 r_x112 q_x112 r_x118 q_x118 r_x125 q_x125 r_x130 q_x130 ex131 r_x136 q_x136 r_x142 q_x142 r_x146 q_x146 ex147) (qr561 hiv4 r_kv8 r_kv9 r_kv10 hnf r_x12 q_x12 mo101 mo102 mo103 mo104 bb_x30 c39 mo105 bb_x89 c99 q_x100 c106 r_x108 q_x108 r_x112 q_x112 r_x118 q_x118 r_x125 q_x125 r_x130 q_x130 ex131 r_x136 q_x136 r_x142 q_x142 r_x146 q_x146 ex147) hn_2 (hs_2 eS148 d_x146.symm d_kv10.symm (qr560 hiv4 r_kv8 r_kv9 r_kv10 hnf r_x12 q_x12 mo101 mo102 mo103 mo104 bb_x30 c39 mo105 bb_x89 c99 q_x100 c106 r_x108 q_x108 r_x112 q_x112 r_x118 q_x118 r_x125 q_x125 r_x130 q_x130 ex131 r_x136 q_x136 r_x142 q_x142 r_x146 q_x146 ex147) (qr561 hiv4 r_kv8 r_kv9 r_kv10 hnf r_x12 q_x12 mo101 mo102 mo103 mo104 bb_x30 c39 mo105 bb_x89 c99 q_x100 c106 r_x108 q_x108 r_x112 q_x112 r_x118 q_x118 r_x125 q_x125 r_x130 q_x130 ex131 r_x136 q_x136 r_x142 q_x142 r_x146 q_x146 ex147) (qr562 hiv4 r_kv8 r_kv9 r_kv10 hnf r_x12 q_x12 mo101 mo102 mo103 mo104 bb_x30 c39 mo105 bb_x89 c99 q_x100 c106 r_x108 q_x108 r_x112 q_x112 r_x118 q_x118 r_x125 q_x125 r_x130 q_x130 ex131 r_x136 q_x136 r_x142 q_x142 r_x146 q_x146 ex147) ea116 ea123 el121 (el128.trans (qr563 hiv4 r_kv8 r_kv9 r_kv10 hnf r_x12 q_x12 mo101 mo102 mo103 mo104 bb_x30 c39 mo105 bb_x89 c99 q_x100 c106 r_x108 q_x108 r_x112 q_x112 r_x118 q_x118 r_x125 q_x125 r_x130 q_x130 ex131 r_x136 q_x136 r_x142 q_x142 r_x146 q_x146 ex147)) (qr564 hiv4 r_kv8 r_kv9 r_kv10 hnf r_x12 q_x12 mo101 mo102 mo103 mo104 bb_x30 c39 mo105 bb_x89 c99 q_x100 c106 r_x108 q_x108 r_x112 q_x112 r_x118 q_x118 r_x125 q_x125 r_x130 q_x130 ex131 r_x136 q_x136 r_x142 q_x142 r_x146 q_x146 ex147) (qr565 hiv4 r_kv8 r_kv9 r_kv10 hnf r_x12 q_x12 mo101 mo102 mo103 mo104 bb_x30 c39 mo105 bb_x89 c99 q_x100 c106 r_x108 q_x108 r_x112 q_x112 r_x118 q_x118 r_x125 q_x125 r_x130 q_x130 ex131 r_x136 q_x136 r_x142 q_x142 r_x146 q_x146 ex147)) hG
        have el121 := el_ob eS148 o_a7 o_a116 (by decide) el121
        have el128 := el_ob eS148 o_a7 o_a123 (by decide) el128
        have hI := hIn
        have f0 := fr_I eS148 g0 f0 o_a7 (by decide)
        have d_kv10 := rd_Ij eS148 (by decide) d_kv10
        have d_kv25 := rd_Ik eS148 o_a7 o_v0 (by decide) d_kv25
        have d_x100 := rd_Ik eS148 o_a7 o_v0 (by decide) d_x100
        have d_kv98 := rd_Ik eS148 o_a7 o_v0 (by decide) d_kv98
        have d_x131 := rd_Ij eS148 (by decide) d_x131
        have d_x147 := rd_Is eS148 (rfl : x147 = x147)
        have ea7 := rf_I eS148 ea7
        have ea110 := rf_I eS148 ea110
        have ea116 := rf_I eS148 ea116
        have ea123 := rf_I eS148 ea123
        have ea134 := rf_I eS148 ea134
        have ea140 := rf_I eS148 ea140
        have l_a110 := ln_I eS148 l_a110
        have l_a116 := ln_I eS148 l_a116
        have l_a123 := ln_I eS148 l_a123
        have l_a134 := ln_I eS148 l_a134
        have l_a140 := ln_I eS148 l_a140
        have g0 := gr_I eS148 g0
        have o_a110 := ob_I eS148 o_a110
        have o_a116 := ob_I eS148 o_a116
        have o_a123 := ob_I eS148 o_a123
        have o_a134 := ob_I eS148 o_a134
        have o_a140 := ob_I eS148 o_a140
        have o_a7 := ob_I eS148 o_a7
        have o_v0 := ob_I eS148 o_v0
        have hn : RN S148 v0 := fun z ez => by obtain rfl : a7 = z := Option.some.inj (ea7.symm.trans ez); rw [← d_x131, ← d_x147, ← d_kv10]; exact (qr566 hiv4 r_kv8 r_kv9 r_kv10 hnf r_x12 q_x12 mo101 mo102 mo103 mo104 bb_x30 c39 mo105 bb_x89 c99 q_x100 c106 r_x108 q_x108 r_x112 q_x112 r_x118 q_x118 r_x125 q_x125 r_x130 q_x130 ex131 r_x136 q_x136 r_x142 q_x142 r_x146 q_x146 ex147)
        exact hq _ hI g0 f0 ⟨hG, hn, (by have t : x100 = 5 → 0 < kv25 := (qr567 hiv4 hiv6 hO r_kv8 r_kv9 r_kv10 hnf r_x12 q_x12 ph0_S14 mo101 mo102 ph0_S21 mo103 hiv29 ph0_S31 mo104 bb_x30 c39 hiv88 ph0_S90 mo105 bb_x89 c99 q_x100 c106 r_x108 q_x108 r_x112 q_x112 r_x118 q_x118 r_x125 q_x125 r_x130 q_x130 ex131 r_x136 q_x136 r_x142 q_x142 r_x146 q_x146 ex147); rw [d_x100, d_kv25] at t; exact t), (by have t : x100 = 5 ∨ ¬ iv4 = 5 := (qr568 hiv4 r_kv8 r_kv9 r_kv10 hnf r_x12 q_x12 mo101 mo102 mo103 mo104 bb_x30 c39 mo105 bb_x89 c99 q_x100 c106 r_x108 q_x108 r_x112 q_x112 r_x118 q_x118 r_x125 q_x125 r_x130 q_x130 ex131 r_x136 q_x136 r_x142 q_x142 r_x146 q_x146 ex147); rw [di_9, d_x100] at t; exact t), (by have t : iv2 ≤ kv98 ∧ (x100 = 4 → iv2 < kv98 ∨ iv4 = 4) := (qr569 r_kv1 hiv2 hiv4 r_kv8 r_kv9 r_kv10 hnf r_x12 q_x12 mo101 r_kv19 ph2_S14 mo102 mo103 r_kv28 ph2_S21 mo104 r_kv38 ph2_S31 bb_x30 c39 mo105 r_kv98 ph2_S90 bb_x89 c99 q_x100 c106 r_x108 q_x108 r_x112 q_x112 r_x118 q_x118 r_x125 q_x125 r_x130 q_x130 ex131 r_x136 q_x136 r_x142 q_x142 r_x146 q_x146 ex147); rw [di_8, di_9, d_kv98, d_x100] at t; exact t)⟩
      · exact hq _ hI g0 f0 ⟨hG, hn, (by have t : x100 = 5 → 0 < kv25 := (qr570 hiv4 hiv6 hO r_kv8 r_kv9 r_kv10 hnf r_x12 q_x12 ph0_S14 mo101 mo102 ph0_S21 mo103 hiv29 ph0_S31 mo104 bb_x30 c39 hiv88 ph0_S90 mo105 bb_x89 c99 q_x100 c106); rw [d_x100, d_kv25] at t; exact t), (by have t : x100 = 5 ∨ ¬ iv4 = 5 := (qr571 hiv4 r_kv8 r_kv9 r_kv10 hnf r_x12 q_x12 mo101 mo102 mo103 mo104 bb_x30 c39 mo105 bb_x89 c99 q_x100 c106); rw [di_9, d_x100] at t; exact t), (by have t : iv2 ≤ kv98 ∧ (x100 = 4 → iv2 < kv98 ∨ iv4 = 4) := (qr572 r_kv1 hiv2 hiv4 r_kv8 r_kv9 r_kv10 hnf r_x12 q_x12 mo101 r_kv19 ph2_S14 mo102 mo103 r_kv28 ph2_S21 mo104 r_kv38 ph2_S31 bb_x30 c39 mo105 r_kv98 ph2_S90 bb_x89 c99 q_x100 c106); rw [di_8, di_9, d_kv98, d_x100] at t; exact t)⟩
    · have do148_kv98 := d_kv98
      have do148_kv93 := d_kv93
      have do148_kv25 := d_kv25
      refine m_X11_readWhole hI o_v0 hG (by have t : kv93 = 5 → 0 < kv25 := (qr573 hiv4 hiv6 hO r_kv8 r_kv9 r_kv10 hnf r_x12 q_x12 ph0_S14 mo94 mo95 ph0_S21 mo96 hiv29 ph0_S31 mo97 bb_x30 c39 hiv88 ph0_S90 ph1_S90 bb_x89 c99); rw [d_kv93, d_kv25] at t; exact t) (fun x149 S150 hJ g151 fc152 p_x149 => ?_)
      obtain ⟨hG, p_x149, pg0_S150, pg1_S150, pg2_S150⟩ := p_x149
      have hn := rn_fr fc152 g151 hI o_v0 (by decide) hn
      have hI := hJ
      have d_kv8 := d_kv8.trans (fri_at fc152 (by decide) (by decide) o_a7).symm
      have d_x12 := d_x12.trans (fri_at fc152 (by decide) (by decide) o_a7).symm
      have d_kv10 := d_kv10.trans (fri_at fc152 (by decide) (by decide) o_a7).symm
      have ea7 := (frr_at fc152 (by decide) (by decide) o_v0).trans ea7
      have f0 := fri_tr (S := S90) g0 f0 fc152 (by decide) (by decide)
      have o_a7 := gr_ob g151 o_a7
      have o_v0 := gr_ob g151 o_v0
      have g0 := gr_tr (T := S90) g0 g151
      obtain ⟨kv153, d_kv153⟩ : ∃ z : Int32, z = fI S150 v0 9 := ⟨_, rfl⟩
      obtain ⟨kv154, d_kv154⟩ : ∃ z : Int32, z = fI S150 v0 13 := ⟨_, rfl⟩
      have ph0_S150 : kv153 = 5 → 0 < kv154 := by rw [d_kv153, d_kv154]; exact pg0_S150
      have ph1_S150 : kv153 = 5 ∨ ¬ kv93 = 5 := by rw [do148_kv93, d_kv153]; exact pg1_S150
      have mo155 : kv153 = 5 ∨ ¬ kv3 = 5 := ph1_S150.elim Or.inl (fun h => Or.inr (mo94.resolve_left h))
      have mo156 : kv153 = 5 ∨ ¬ x12 = (8 : Int32) := ph1_S150.elim Or.inl (fun h => Or.inr (mo95.resolve_left h))
      have mo157 : kv153 = 5 ∨ ¬ kv17 = 5 := ph1_S150.elim Or.inl (fun h => Or.inr (mo96.resolve_left h))
      have mo158 : kv153 = 5 ∨ ¬ kv24 = 5 := ph1_S150.elim Or.inl (fun h => Or.inr (mo97.resolve_left h))
      have mo159 : kv153 = 5 ∨ ¬ kv34 = 5 := ph1_S150.elim Or.inl (fun h => Or.inr (ph1_S90.resolve_left h))
      obtain ⟨kv160, d_kv160⟩ : ∃ z : Int32, z = fI S150 v0 8 := ⟨_, rfl⟩
      have r_kv160 : (0 : Int32) ≤ kv160 ∧ kv160 ≤ (900 : Int32) := by rw [d_kv160]; exact nu 25 rfl hI o_v0
      have ph2_S150 : kv98 ≤ kv160 ∧ (kv153 = 4 → kv98 < kv160 ∨ kv93 = 4) := by rw [do148_kv98, do148_kv93, d_kv160, d_kv153]; exact pg2_S150
      intro _
      refine u_X11_readPlace_50 ?_
      refine ⟨o_v0, ?_⟩
      intro x161 ex161
      have q_x161 : x161 = kv153 := ex161.trans d_kv153.symm
      have mo162 : x161 = 5 ∨ ¬ kv3 = 5 := mo155.imp_left (fun z => q_x161.trans z)
      have mo163 : x161 = 5 ∨ ¬ x12 = (8 : Int32) := mo156.imp_left (fun z => q_x161.trans z)
      have mo164 : x161 = 5 ∨ ¬ kv17 = 5 := mo157.imp_left (fun z => q_x161.trans z)
      have mo165 : x161 = 5 ∨ ¬ kv24 = 5 := mo158.imp_left (fun z => q_x161.trans z)
      have mo166 : x161 = 5 ∨ ¬ kv34 = 5 := mo159.imp_left (fun z => q_x161.trans z)
      have mo167 : x161 = 5 ∨ ¬ kv93 = 5 := ph1_S150.imp_left (fun z => q_x161.trans z)
      have d_x161 := ex161
      refine ⟨fun c168 => ?_, fun c168 => ?_⟩
      · refine ⟨a7, ea7, ?_⟩
        refine ⟨o_a7, ?_⟩
        intro x170 ex170
        have r_x170 : (0 : Int32) ≤ x170 ∧ x170 ≤ (8 : Int32) := by rw [ex170]; exact nu 18 rfl hI o_a7
        have q_x170 : x170 = x12 := ex170.trans d_x12.symm
        have d_x170 := ex170
        refine u_X11_names ?_
        refine u_X11_names_0 ?_
        refine ⟨o_v0, ?_⟩
        refine ⟨a7, ea7, ?_⟩
        refine ⟨o_a7, ?_⟩
        obtain ⟨a172, ea172, o_a172, l_a172⟩ := shl 50 rfl hI o_a7
        refine ⟨a172, ea172, ?_⟩
        refine ⟨a7, ea7, ?_⟩
        refine ⟨o_a7, ?_⟩
        intro x174 ex174
        have r_x174 : (0 : Int32) ≤ x174 ∧ x174 ≤ (12 : Int32) := by rw [ex174]; exact nu 22 rfl hI o_a7
        have q_x174 : x174 = kv8 := ex174.trans d_kv8.symm
        have d_x174 := ex174
        refine ⟨o_a172, ?_⟩
        have i175 : vp_in x174 (hN _ a172) := (vin l_a172 (m := 12) (by decide) (qr574 hiv4 r_kv8 r_kv9 r_kv10 hnf r_x12 q_x12 mo162 mo163 mo164 mo165 bb_x30 c39 mo166 bb_x89 c99 mo167 q_x161 c168 r_x170 q_x170 r_x174 q_x174))
        refine ⟨i175, ?_⟩
        intro S176 eS176
        have hIn : IV S176 := by rw [eS176]; exact iv10_aJ hI o_a7 (by decide) ea172
        have hG := rg_J eS176 hG
        have hn := rn_J eS176 hn
        have hI := hIn
        have f0 := fr_J eS176 f0
        have d_x174 := rd_J eS176 d_x174
        have d_x170 := rd_J eS176 d_x170
        have d_kv10 := rd_J eS176 d_kv10
        have d_x161 := rd_J eS176 d_x161
        have d_kv154 := rd_J eS176 d_kv154
        have d_kv160 := rd_J eS176 d_kv160
        have ea7 := rf_J eS176 ea7
        have ea172 := rf_J eS176 ea172
        have l_a172 := ln_J eS176 l_a172
        have g0 := gr_J eS176 g0
        have o_a172 := ob_J eS176 o_a172
        have o_a7 := ob_J eS176 o_a7
        have o_v0 := ob_J eS176 o_v0
        refine ⟨a7, ea7, ?_⟩
        refine ⟨o_a7, ?_⟩
        obtain ⟨a178, ea178, o_a178, l_a178⟩ := shl 51 rfl hI o_a7
        refine ⟨a178, ea178, ?_⟩
        refine ⟨a7, ea7, ?_⟩
        refine ⟨o_a7, ?_⟩
        intro x180 ex180
        have r_x180 : (0 : Int32) ≤ x180 ∧ x180 ≤ (12 : Int32) := by rw [ex180]; exact nu 22 rfl hI o_a7
        have q_x180 : x180 = x174 := ex180.trans d_x174.symm
        have d_x180 := ex180
        refine ⟨o_a178, ?_⟩
        have i181 : vp_in x180 (hN _ a178) := (vin l_a178 (m := 12) (by decide) (qr575 hiv4 r_kv8 r_kv9 r_kv10 hnf r_x12 q_x12 mo162 mo163 mo164 mo165 bb_x30 c39 mo166 bb_x89 c99 mo167 q_x161 c168 r_x170 q_x170 r_x174 q_x174 r_x180 q_x180))
        refine ⟨i181, ?_⟩
        intro S182 eS182
        have hIn : IV S182 := by rw [eS182]; exact iv10_aI hI o_a7 (rg_nw hG ea7) ea178 o_a178 (by decide)
        have hG := rg_a (jj := 29) (x := x180) eS182 hI ea7 o_a7 ea178 o_a178 (by decide) (h1_no (by decide)) (fun _ => by rw [← d_x170, ← d_kv10]; exact (qr576 hiv4 r_kv8 r_kv9 r_kv10 hnf r_x12 q_x12 mo162 mo163 mo164 mo165 bb_x30 c39 mo166 bb_x89 c99 mo167 q_x161 c168 r_x170 q_x170 r_x174 q_x174 r_x180 q_x180)) hG
        have hn := rn_11 eS182 hI o_v0 o_a178 (by decide) hn
        have hI := hIn
        have f0 := fr_A eS182 g0 f0 o_a178 (by decide)
        have d_x180 := rd_Ik eS182 o_a178 o_a7 (by decide) d_x180
        have d_x170 := rd_Ik eS182 o_a178 o_a7 (by decide) d_x170
        have d_kv10 := rd_Ik eS182 o_a178 o_a7 (by decide) d_kv10
        have d_x161 := rd_Ik eS182 o_a178 o_v0 (by decide) d_x161
        have d_kv154 := rd_Ik eS182 o_a178 o_v0 (by decide) d_kv154
        have d_kv160 := rd_Ik eS182 o_a178 o_v0 (by decide) d_kv160
        have ea7 := rf_I eS182 ea7
        have ea172 := rf_I eS182 ea172
        have ea178 := rf_I eS182 ea178
        have l_a172 := ln_I eS182 l_a172
        have l_a178 := ln_I eS182 l_a178
        have g0 := gr_I eS182 g0
        have o_a172 := ob_I eS182 o_a172
        have o_a178 := ob_I eS182 o_a178
        have o_a7 := ob_I eS182 o_a7
        have o_v0 := ob_I eS182 o_v0
        have el183 : fI S182 a178 x180.toNatClampNeg = (0 : Int32) := by rw [eS182]; exact u2_self _ _ _ _
        refine ⟨a7, ea7, ?_⟩
        refine ⟨o_a7, ?_⟩
        obtain ⟨a185, ea185, o_a185, l_a185⟩ := shl 52 rfl hI o_a7
        refine ⟨a185, ea185, ?_⟩
        refine ⟨a7, ea7, ?_⟩
        refine ⟨o_a7, ?_⟩
        intro x187 ex187
        have r_x187 : (0 : Int32) ≤ x187 ∧ x187 ≤ (12 : Int32) := by rw [ex187]; exact nu 22 rfl hI o_a7
        have q_x187 : x187 = x180 := ex187.trans d_x180.symm
        have d_x187 := ex187
        refine ⟨o_a185, ?_⟩
        have i188 : vp_in x187 (hN _ a185) := (vin l_a185 (m := 12) (by decide) (qr577 hiv4 r_kv8 r_kv9 r_kv10 hnf r_x12 q_x12 mo162 mo163 mo164 mo165 bb_x30 c39 mo166 bb_x89 c99 mo167 q_x161 c168 r_x170 q_x170 r_x174 q_x174 r_x180 q_x180 r_x187 q_x187))
        refine ⟨i188, ?_⟩
        intro S189 eS189
        have hIn : IV S189 := by rw [eS189]; exact iv10_aI hI o_a7 (rg_nw hG ea7) ea185 o_a185 (by decide)
        have hG := rg_a (jj := 30) (x := x187) eS189 hI ea7 o_a7 ea185 o_a185 (by decide) (h1_no (by decide)) (fun _ => by rw [← d_x170, ← d_kv10]; exact (qr578 hiv4 r_kv8 r_kv9 r_kv10 hnf r_x12 q_x12 mo162 mo163 mo164 mo165 bb_x30 c39 mo166 bb_x89 c99 mo167 q_x161 c168 r_x170 q_x170 r_x174 q_x174 r_x180 q_x180 r_x187 q_x187)) hG
        have hn := rn_11 eS189 hI o_v0 o_a185 (by decide) hn
        have el183 := el_ar eS189 (ow_ne hI o_a7 (by decide) o_a7 (by decide) ea185 ea178 (by decide)) el183
        have hI := hIn
        have f0 := fr_A eS189 g0 f0 o_a185 (by decide)
        have d_x187 := rd_Ik eS189 o_a185 o_a7 (by decide) d_x187
        have d_x170 := rd_Ik eS189 o_a185 o_a7 (by decide) d_x170
        have d_kv10 := rd_Ik eS189 o_a185 o_a7 (by decide) d_kv10
        have d_x161 := rd_Ik eS189 o_a185 o_v0 (by decide) d_x161
        have d_kv154 := rd_Ik eS189 o_a185 o_v0 (by decide) d_kv154
        have d_kv160 := rd_Ik eS189 o_a185 o_v0 (by decide) d_kv160
        have ea7 := rf_I eS189 ea7
        have ea172 := rf_I eS189 ea172
        have ea178 := rf_I eS189 ea178
        have ea185 := rf_I eS189 ea185
        have l_a172 := ln_I eS189 l_a172
        have l_a178 := ln_I eS189 l_a178
        have l_a185 := ln_I eS189 l_a185
        have g0 := gr_I eS189 g0
        have o_a172 := ob_I eS189 o_a172
        have o_a178 := ob_I eS189 o_a178
        have o_a185 := ob_I eS189 o_a185
        have o_a7 := ob_I eS189 o_a7
        have o_v0 := ob_I eS189 o_v0
        have el190 : fI S189 a185 x187.toNatClampNeg = x170 := by rw [eS189]; exact u2_self _ _ _ _
        refine ⟨a7, ea7, ?_⟩
        refine ⟨o_a7, ?_⟩
        intro x192 ex192
        have r_x192 : (0 : Int32) ≤ x192 ∧ x192 ≤ (12 : Int32) := by rw [ex192]; exact nu 22 rfl hI o_a7
        have q_x192 : x192 = x187 := ex192.trans d_x187.symm
        have d_x192 := ex192
        intro x193 ex193
        intro S194 eS194
        have hIn : IV S194 := by rw [eS194]; exact iv10_sI hI o_a7 (rg_nw hG ea7) (nu_one (lo := (0 : Int32)) (hi := (12 : Int32)) (by decide) (qr579 hiv4 r_kv8 r_kv9 r_kv10 hnf r_x12 q_x12 mo162 mo163 mo164 mo165 bb_x30 c39 mo166 bb_x89 c99 mo167 q_x161 c168 r_x170 q_x170 r_x174 q_x174 r_x180 q_x180 r_x187 q_x187 r_x192 q_x192 ex193))
        have hG := rg_c eS194 hI ea7 o_a7 (by decide) hG
        have el183 := el_ob eS194 o_a7 o_a178 (by decide) el183
        have el190 := el_ob eS194 o_a7 o_a185 (by decide) el190
        have hI := hIn
        have f0 := fr_I eS194 g0 f0 o_a7 (by decide)
        have d_x170 := rd_Ij eS194 (by decide) d_x170
        have d_kv10 := rd_Ij eS194 (by decide) d_kv10
        have d_x161 := rd_Ik eS194 o_a7 o_v0 (by decide) d_x161
        have d_kv154 := rd_Ik eS194 o_a7 o_v0 (by decide) d_kv154
        have d_kv160 := rd_Ik eS194 o_a7 o_v0 (by decide) d_kv160
        have d_x193 := rd_Is eS194 (rfl : x193 = x193)
        have ea7 := rf_I eS194 ea7
        have ea172 := rf_I eS194 ea172
        have ea178 := rf_I eS194 ea178
        have ea185 := rf_I eS194 ea185
        have l_a172 := ln_I eS194 l_a172
        have l_a178 := ln_I eS194 l_a178
        have l_a185 := ln_I eS194 l_a185
        have g0 := gr_I eS194 g0
        have o_a172 := ob_I eS194 o_a172
        have o_a178 := ob_I eS194 o_a178
        have o_a185 := ob_I eS194 o_a185
        have o_a7 := ob_I eS194 o_a7
        have o_v0 := ob_I eS194 o_v0
        intro _
        refine ⟨a7, ea7, ?_⟩
        refine ⟨o_a7, ?_⟩
        obtain ⟨a196, ea196, o_a196, l_a196⟩ := shl 40 rfl hI o_a7
        refine ⟨a196, ea196, ?_⟩
        refine ⟨a7, ea7, ?_⟩
        refine ⟨o_a7, ?_⟩
        intro x198 ex198
        have r_x198 : (0 : Int32) ≤ x198 ∧ x198 ≤ (8 : Int32) := by rw [ex198]; exact nu 18 rfl hI o_a7
        have q_x198 : x198 = x170 := ex198.trans d_x170.symm
        have d_x198 := ex198
        refine ⟨o_a196, ?_⟩
        have i199 : vp_in x198 (hN _ a196) := (vin l_a196 (m := 8) (by decide) (qr580 hiv4 r_kv8 r_kv9 r_kv10 hnf r_x12 q_x12 mo162 mo163 mo164 mo165 bb_x30 c39 mo166 bb_x89 c99 mo167 q_x161 c168 r_x170 q_x170 r_x174 q_x174 r_x180 q_x180 r_x187 q_x187 r_x192 q_x192 ex193 r_x198 q_x198))
        refine ⟨i199, ?_⟩
        intro S200 eS200
        have hIn : IV S200 := by rw [eS200]; exact iv10_aI hI o_a7 (rg_nw hG ea7) ea196 o_a196 (by decide)
        have hG := rg_a (jj := 18) (x := x198) eS200 hI ea7 o_a7 ea196 o_a196 (by decide) (h1_no (by decide)) (h2_no (y := 0) (by decide)) hG
        have el183 := el_ar eS200 (ow_ne hI o_a7 (by decide) o_a7 (by decide) ea196 ea178 (by decide)) el183
        have el190 := el_ar eS200 (ow_ne hI o_a7 (by decide) o_a7 (by decide) ea196 ea185 (by decide)) el190
        have hI := hIn
        have f0 := fr_A eS200 g0 f0 o_a196 (by decide)
        have d_x198 := rd_Ik eS200 o_a196 o_a7 (by decide) d_x198
        have d_kv10 := rd_Ik eS200 o_a196 o_a7 (by decide) d_kv10
        have d_x161 := rd_Ik eS200 o_a196 o_v0 (by decide) d_x161
        have d_kv154 := rd_Ik eS200 o_a196 o_v0 (by decide) d_kv154
        have d_kv160 := rd_Ik eS200 o_a196 o_v0 (by decide) d_kv160
        have d_x193 := rd_Ik eS200 o_a196 o_a7 (by decide) d_x193
        have ea7 := rf_I eS200 ea7
        have ea172 := rf_I eS200 ea172
        have ea178 := rf_I eS200 ea178
        have ea185 := rf_I eS200 ea185
        have ea196 := rf_I eS200 ea196
        have l_a172 := ln_I eS200 l_a172
        have l_a178 := ln_I eS200 l_a178
        have l_a185 := ln_I eS200 l_a185
        have l_a196 := ln_I eS200 l_a196
        have g0 := gr_I eS200 g0
        have o_a172 := ob_I eS200 o_a172
        have o_a178 := ob_I eS200 o_a178
        have o_a185 := ob_I eS200 o_a185
        have o_a196 := ob_I eS200 o_a196
        have o_a7 := ob_I eS200 o_a7
        have o_v0 := ob_I eS200 o_v0
        refine ⟨a7, ea7, ?_⟩
        refine ⟨o_a7, ?_⟩
        obtain ⟨a202, ea202, o_a202, l_a202⟩ := shl 34 rfl hI o_a7
        refine ⟨a202, ea202, ?_⟩
        refine ⟨a7, ea7, ?_⟩
        refine ⟨o_a7, ?_⟩
        intro x204 ex204
        have r_x204 : (0 : Int32) ≤ x204 ∧ x204 ≤ (8 : Int32) := by rw [ex204]; exact nu 18 rfl hI o_a7
        have q_x204 : x204 = x198 := ex204.trans d_x198.symm
        have d_x204 := ex204
        refine ⟨o_a202, ?_⟩
        have i205 : vp_in x204 (hN _ a202) := (vin l_a202 (m := 8) (by decide) (qr581 hiv4 r_kv8 r_kv9 r_kv10 hnf r_x12 q_x12 mo162 mo163 mo164 mo165 bb_x30 c39 mo166 bb_x89 c99 mo167 q_x161 c168 r_x170 q_x170 r_x174 q_x174 r_x180 q_x180 r_x187 q_x187 r_x192 q_x192 ex193 r_x198 q_x198 r_x204 q_x204))
        refine ⟨i205, ?_⟩
        intro S206 eS206
        have hIn : IV S206 := by rw [eS206]; exact iv10_aI hI o_a7 (rg_nw hG ea7) ea202 o_a202 (by decide)
        have hG := rg_a (jj := 12) (x := x204) eS206 hI ea7 o_a7 ea202 o_a202 (by decide) (h1_no (by decide)) (h2_no (y := 0) (by decide)) hG
        have el183 := el_ar eS206 (ow_ne hI o_a7 (by decide) o_a7 (by decide) ea202 ea178 (by decide)) el183
        have el190 := el_ar eS206 (ow_ne hI o_a7 (by decide) o_a7 (by decide) ea202 ea185 (by decide)) el190
        have hI := hIn
        have f0 := fr_A eS206 g0 f0 o_a202 (by decide)
        have d_x204 := rd_Ik eS206 o_a202 o_a7 (by decide) d_x204
        have d_kv10 := rd_Ik eS206 o_a202 o_a7 (by decide) d_kv10
        have d_x161 := rd_Ik eS206 o_a202 o_v0 (by decide) d_x161
        have d_kv154 := rd_Ik eS206 o_a202 o_v0 (by decide) d_kv154
        have d_kv160 := rd_Ik eS206 o_a202 o_v0 (by decide) d_kv160
        have d_x193 := rd_Ik eS206 o_a202 o_a7 (by decide) d_x193
        have ea7 := rf_I eS206 ea7
        have ea172 := rf_I eS206 ea172
        have ea178 := rf_I eS206 ea178
        have ea185 := rf_I eS206 ea185
        have ea196 := rf_I eS206 ea196
        have ea202 := rf_I eS206 ea202
        have l_a172 := ln_I eS206 l_a172
        have l_a178 := ln_I eS206 l_a178
        have l_a185 := ln_I eS206 l_a185
        have l_a196 := ln_I eS206 l_a196
        have l_a202 := ln_I eS206 l_a202
        have g0 := gr_I eS206 g0
        have o_a172 := ob_I eS206 o_a172
        have o_a178 := ob_I eS206 o_a178
        have o_a185 := ob_I eS206 o_a185
        have o_a196 := ob_I eS206 o_a196
        have o_a202 := ob_I eS206 o_a202
        have o_a7 := ob_I eS206 o_a7
        have o_v0 := ob_I eS206 o_v0
        refine ⟨a7, ea7, ?_⟩
        refine ⟨o_a7, ?_⟩
        intro x208 ex208
        have r_x208 : (0 : Int32) ≤ x208 ∧ x208 ≤ (8 : Int32) := by rw [ex208]; exact nu 18 rfl hI o_a7
        have q_x208 : x208 = x204 := ex208.trans d_x204.symm
        have d_x208 := ex208
        intro x209 ex209
        intro S210 eS210
        have hIn : IV S210 := by rw [eS210]; exact iv10_sI hI o_a7 (rg_nw hG ea7) (nu_one (lo := (0 : Int32)) (hi := (8 : Int32)) (by decide) (qr582 hiv4 r_kv8 r_kv9 r_kv10 hnf r_x12 q_x12 mo162 mo163 mo164 mo165 bb_x30 c39 mo166 bb_x89 c99 mo167 q_x161 c168 r_x170 q_x170 r_x174 q_x174 r_x180 q_x180 r_x187 q_x187 r_x192 q_x192 ex193 r_x198 q_x198 r_x204 q_x204 r_x208 q_x208 ex209))
        have hG := rg_inc (c := 2) (y := x208) eS210 hI ea7 o_a7 d_x208.symm (qr583 hiv4 r_kv8 r_kv9 r_kv10 hnf r_x12 q_x12 mo162 mo163 mo164 mo165 bb_x30 c39 mo166 bb_x89 c99 mo167 q_x161 c168 r_x170 q_x170 r_x174 q_x174 r_x180 q_x180 r_x187 q_x187 r_x192 q_x192 ex193 r_x198 q_x198 r_x204 q_x204 r_x208 q_x208 ex209) (qr584 hiv4 r_kv8 r_kv9 r_kv10 hnf r_x12 q_x12 mo162 mo163 mo164 mo165 bb_x30 c39 mo166 bb_x89 c99 mo167 q_x161 c168 r_x170 q_x170 r_x174 q_x174 r_x180 q_x180 r_x187 q_x187 r_x192 q_x192 ex193 r_x198 q_x198 r_x204 q_x204 r_x208 q_x208 ex209) hn_2 (hs_2 eS210 d_x208.symm d_kv10.symm (qr583 hiv4 r_kv8 r_kv9 r_kv10 hnf r_x12 q_x12 mo162 mo163 mo164 mo165 bb_x30 c39 mo166 bb_x89 c99 mo167 q_x161 c168 r_x170 q_x170 r_x174 q_x174 r_x180 q_x180 r_x187 q_x187 r_x192 q_x192 ex193 r_x198 q_x198 r_x204 q_x204 r_x208 q_x208 ex209) (qr584 hiv4 r_kv8 r_kv9 r_kv10 hnf r_x12 q_x12 mo162 mo163 mo164 mo165 bb_x30 c39 mo166 bb_x89 c99 mo167 q_x161 c168 r_x170 q_x170 r_x174 q_x174 r_x180 q_x180 r_x187 q_x187 r_x192 q_x192 ex193 r_x198 q_x198 r_x204 q_x204 r_x208 q_x208 ex209) (qr585 hiv4 r_kv8 r_kv9 r_kv10 hnf r_x12 q_x12 mo162 mo163 mo164 mo165 bb_x30 c39 mo166 bb_x89 c99 mo167 q_x161 c168 r_x170 q_x170 r_x174 q_x174 r_x180 q_x180 r_x187 q_x187 r_x192 q_x192 ex193 r_x198 q_x198 r_x204 q_x204 r_x208 q_x208 ex209) ea178 ea185 el183 (el190.trans (qr586 hiv4 r_kv8 r_kv9 r_kv10 hnf r_x12 q_x12 mo162 mo163 mo164 mo165 bb_x30 c39 mo166 bb_x89 c99 mo167 q_x161 c168 r_x170 q_x170 r_x174 q_x174 r_x180 q_x180 r_x187 q_x187 r_x192 q_x192 ex193 r_x198 q_x198 r_x204 q_x204 r_x208 q_x208 ex209)) (qr587 hiv4 r_kv8 r_kv9 r_kv10 hnf r_x12 q_x12 mo162 mo163 mo164 mo165 bb_x30 c39 mo166 bb_x89 c99 mo167 q_x161 c168 r_x170 q_x170 r_x174 q_x174 r_x180 q_x180 r_x187 q_x187 r_x192 q_x192 ex193 r_x198 q_x198 r_x204 q_x204 r_x208 q_x208 ex209) (qr588 hiv4 r_kv8 r_kv9 r_kv10 hnf r_x12 q_x12 mo162 mo163 mo164 mo165 bb_x30 c39 mo166 bb_x89 c99 mo167 q_x161 c168 r_x170 q_x170 r_x174 q_x174 r_x180 q_x180 r_x187 q_x187 r_x192 q_x192 ex193 r_x198 q_x198 r_x204 q_x204 r_x208 q_x208 ex209)) hG
        have el183 := el_ob eS210 o_a7 o_a178 (by decide) el183
        have el190 := el_ob eS210 o_a7 o_a185 (by decide) el190
        have hI := hIn
        have f0 := fr_I eS210 g0 f0 o_a7 (by decide)
        have d_kv10 := rd_Ij eS210 (by decide) d_kv10
        have d_x161 := rd_Ik eS210 o_a7 o_v0 (by decide) d_x161
        have d_kv154 := rd_Ik eS210 o_a7 o_v0 (by decide) d_kv154
        have d_kv160 := rd_Ik eS210 o_a7 o_v0 (by decide) d_kv160
        have d_x193 := rd_Ij eS210 (by decide) d_x193
        have d_x209 := rd_Is eS210 (rfl : x209 = x209)
        have ea7 := rf_I eS210 ea7
        have ea172 := rf_I eS210 ea172
        have ea178 := rf_I eS210 ea178
        have ea185 := rf_I eS210 ea185
        have ea196 := rf_I eS210 ea196
        have ea202 := rf_I eS210 ea202
        have l_a172 := ln_I eS210 l_a172
        have l_a178 := ln_I eS210 l_a178
        have l_a185 := ln_I eS210 l_a185
        have l_a196 := ln_I eS210 l_a196
        have l_a202 := ln_I eS210 l_a202
        have g0 := gr_I eS210 g0
        have o_a172 := ob_I eS210 o_a172
        have o_a178 := ob_I eS210 o_a178
        have o_a185 := ob_I eS210 o_a185
        have o_a196 := ob_I eS210 o_a196
        have o_a202 := ob_I eS210 o_a202
        have o_a7 := ob_I eS210 o_a7
        have o_v0 := ob_I eS210 o_v0
        have hn : RN S210 v0 := fun z ez => by obtain rfl : a7 = z := Option.some.inj (ea7.symm.trans ez); rw [← d_x193, ← d_x209, ← d_kv10]; exact (qr589 hiv4 r_kv8 r_kv9 r_kv10 hnf r_x12 q_x12 mo162 mo163 mo164 mo165 bb_x30 c39 mo166 bb_x89 c99 mo167 q_x161 c168 r_x170 q_x170 r_x174 q_x174 r_x180 q_x180 r_x187 q_x187 r_x192 q_x192 ex193 r_x198 q_x198 r_x204 q_x204 r_x208 q_x208 ex209)
        exact hq _ hI g0 f0 ⟨hG, hn, (by have t : x161 = 5 → 0 < kv154 := (qr590 hiv4 hiv6 hO r_kv8 r_kv9 r_kv10 hnf r_x12 q_x12 ph0_S14 mo162 mo163 ph0_S21 mo164 hiv29 ph0_S31 mo165 bb_x30 c39 hiv88 ph0_S90 mo166 bb_x89 c99 ph0_S150 mo167 q_x161 c168 r_x170 q_x170 r_x174 q_x174 r_x180 q_x180 r_x187 q_x187 r_x192 q_x192 ex193 r_x198 q_x198 r_x204 q_x204 r_x208 q_x208 ex209); rw [d_x161, d_kv154] at t; exact t), (by have t : x161 = 5 ∨ ¬ iv4 = 5 := (qr591 hiv4 r_kv8 r_kv9 r_kv10 hnf r_x12 q_x12 mo162 mo163 mo164 mo165 bb_x30 c39 mo166 bb_x89 c99 mo167 q_x161 c168 r_x170 q_x170 r_x174 q_x174 r_x180 q_x180 r_x187 q_x187 r_x192 q_x192 ex193 r_x198 q_x198 r_x204 q_x204 r_x208 q_x208 ex209); rw [di_9, d_x161] at t; exact t), (by have t : iv2 ≤ kv160 ∧ (x161 = 4 → iv2 < kv160 ∨ iv4 = 4) := (qr592 r_kv1 hiv2 hiv4 r_kv8 r_kv9 r_kv10 hnf r_x12 q_x12 mo162 r_kv19 ph2_S14 mo163 mo164 r_kv28 ph2_S21 mo165 r_kv38 ph2_S31 bb_x30 c39 mo166 r_kv98 ph2_S90 bb_x89 c99 mo167 r_kv160 ph2_S150 q_x161 c168 r_x170 q_x170 r_x174 q_x174 r_x180 q_x180 r_x187 q_x187 r_x192 q_x192 ex193 r_x198 q_x198 r_x204 q_x204 r_x208 q_x208 ex209); rw [di_8, di_9, d_kv160, d_x161] at t; exact t)⟩
      · exact hq _ hI g0 f0 ⟨hG, hn, (by have t : x161 = 5 → 0 < kv154 := (qr593 hiv4 hiv6 hO r_kv8 r_kv9 r_kv10 hnf r_x12 q_x12 ph0_S14 mo162 mo163 ph0_S21 mo164 hiv29 ph0_S31 mo165 bb_x30 c39 hiv88 ph0_S90 mo166 bb_x89 c99 ph0_S150 mo167 q_x161 c168); rw [d_x161, d_kv154] at t; exact t), (by have t : x161 = 5 ∨ ¬ iv4 = 5 := (qr594 hiv4 r_kv8 r_kv9 r_kv10 hnf r_x12 q_x12 mo162 mo163 mo164 mo165 bb_x30 c39 mo166 bb_x89 c99 mo167 q_x161 c168); rw [di_9, d_x161] at t; exact t), (by have t : iv2 ≤ kv160 ∧ (x161 = 4 → iv2 < kv160 ∨ iv4 = 4) := (qr595 r_kv1 hiv2 hiv4 r_kv8 r_kv9 r_kv10 hnf r_x12 q_x12 mo162 r_kv19 ph2_S14 mo163 mo164 r_kv28 ph2_S21 mo165 r_kv38 ph2_S31 bb_x30 c39 mo166 r_kv98 ph2_S90 bb_x89 c99 mo167 r_kv160 ph2_S150 q_x161 c168); rw [di_8, di_9, d_kv160, d_x161] at t; exact t)⟩
