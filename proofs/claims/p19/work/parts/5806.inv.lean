section
set_option maxHeartbeats 4000000 in
set_option maxRecDepth 20000 in
theorem m_X11_readSeen {v0 : Nat} {Q : HS → Prop} {S : HS} (hI : IV S) (o_v0 : ob S v0 11)    (hG : RG S v0) (hn : RN S v0) (hO : fI S v0 9 = 5 → 0 < fI S v0 13) (hq : ∀ (T : HS), IV T → Gr S T → FRI [(10, 5), (11, 8), (11, 9), (11, 10), (11, 11), (11, 12), (11, 13), (11, 14)] [] S T → (RG T v0) ∧ (RN T v0) ∧ (fI T v0 9 = 5 → 0 < fI T v0 13) ∧ (fI T v0 9 = 5 ∨ ¬ fI S v0 9 = 5) ∧ (fI S v0 8 ≤ fI T v0 8 ∧ (fI T v0 9 = 4 → fI S v0 8 < fI T v0 8 ∨ fI S v0 9 = 4)) → Q T) : P_X11_readSeen v0 Q S := by
  have g0 := gr_rf S
  have f0 := fri_rf [(10, 5), (11, 8), (11, 9), (11, 10), (11, 11), (11, 12), (11, 13), (11, 14)] [] S
  obtain ⟨kv1, d_kv1⟩ : ∃ z : Int32, z = fI S v0 8 := ⟨_, rfl⟩
  have r_kv1 : (0 : Int32) ≤ kv1 ∧ kv1 ≤ (900 : Int32) := by rw [d_kv1]; exact nu 25 rfl hI o_v0
  obtain ⟨iv2, hiv2⟩ : ∃ z : Int32, z = kv1 := ⟨_, rfl⟩
  have di_8 := hiv2.trans d_kv1
  obtain ⟨kv3, d_kv3⟩ : ∃ z : Int32, z = fI S v0 9 := ⟨_, rfl⟩
  obtain ⟨iv4, hiv4⟩ : ∃ z : Int32, z = kv3 := ⟨_, rfl⟩
  have di_9 := hiv4.trans d_kv3
  obtain ⟨kv5, d_kv5⟩ : ∃ z : Int32, z = fI S v0 13 := ⟨_, rfl⟩
  obtain ⟨iv6, hiv6⟩ : ∃ z : Int32, z = kv5 := ⟨_, rfl⟩
  have di_13 := hiv6.trans d_kv5
  have hO : iv4 = 5 → 0 < iv6 := by rw [di_9, di_13]; exact hO
  obtain ⟨a7, ea7, o_a7, -⟩ := id hG
  obtain ⟨kv8, d_kv8⟩ : ∃ z : Int32, z = fI S a7 6 := ⟨_, rfl⟩
  have r_kv8 : (0 : Int32) ≤ kv8 ∧ kv8 ≤ (12 : Int32) := by rw [d_kv8]; exact nu 22 rfl hI o_a7
  obtain ⟨kv9, d_kv9⟩ : ∃ z : Int32, z = fI S a7 2 := ⟨_, rfl⟩
  have r_kv9 : (0 : Int32) ≤ kv9 ∧ kv9 ≤ (8 : Int32) := by rw [d_kv9]; exact nu 18 rfl hI o_a7
  obtain ⟨kv10, d_kv10⟩ : ∃ z : Int32, z = fI S a7 4 := ⟨_, rfl⟩
  have r_kv10 : (0 : Int32) ≤ kv10 ∧ kv10 ≤ (4 : Int32) := by rw [d_kv10]; exact nu 20 rfl hI o_a7
  have hnf : kv8 = kv9 + kv10 := by rw [d_kv8, d_kv9, d_kv10]; exact hn _ ea7
  refine u_X11_readSeen ?_
  refine u_X11_readSeen_0 ?_
  refine ⟨o_v0, ?_⟩
  refine ⟨a7, ea7, ?_⟩
  refine ⟨o_a7, ?_⟩
  intro x12 ex12
  have r_x12 : (0 : Int32) ≤ x12 ∧ x12 ≤ (4 : Int32) := by rw [ex12]; exact nu 21 rfl hI o_a7
  have d_x12 := ex12
  have do12_kv1 := d_kv1
  have do12_kv3 := d_kv3
  have do12_kv5 := d_kv5
  refine m_X11_begins hI o_v0 hG (by have t : kv3 = 5 → 0 < kv5 := (qr1 hiv4 hiv6 hO); rw [d_kv3, d_kv5] at t; exact t) (fun S14 hJ g15 fc16 p_S14 => ?_)
  obtain ⟨hG, pg0_S14, pg1_S14, pg2_S14, pg3_S14⟩ := p_S14
  have hn := rn_fr fc16 g15 hI o_v0 (by decide) hn
  have hI := hJ
  have d_kv8 := d_kv8.trans (fri_at fc16 (by decide) (by decide) o_a7).symm
  have d_kv9 := d_kv9.trans (fri_at fc16 (by decide) (by decide) o_a7).symm
  have d_kv10 := d_kv10.trans (fri_at fc16 (by decide) (by decide) o_a7).symm
  have d_x12 := d_x12.trans (fri_at fc16 (by decide) (by decide) o_a7).symm
  have ea7 := (frr_at fc16 (by decide) (by decide) o_v0).trans ea7
  have f0 := fri_tr (S := S) g0 f0 fc16 (by decide) (by decide)
  have o_a7 := gr_ob g15 o_a7
  have o_v0 := gr_ob g15 o_v0
  have g0 := gr_tr (T := S) g0 g15
  obtain ⟨kv17, d_kv17⟩ : ∃ z : Int32, z = fI S14 v0 9 := ⟨_, rfl⟩
  obtain ⟨kv18, d_kv18⟩ : ∃ z : Int32, z = fI S14 v0 13 := ⟨_, rfl⟩
  have ph0_S14 : kv17 = 5 → 0 < kv18 := by rw [d_kv17, d_kv18]; exact pg0_S14
  have ph1_S14 : kv17 = 5 ∨ ¬ kv3 = 5 := by rw [do12_kv3, d_kv17]; exact pg1_S14
  obtain ⟨kv19, d_kv19⟩ : ∃ z : Int32, z = fI S14 v0 8 := ⟨_, rfl⟩
  have r_kv19 : (0 : Int32) ≤ kv19 ∧ kv19 ≤ (900 : Int32) := by rw [d_kv19]; exact nu 25 rfl hI o_v0
  have ph2_S14 : kv1 ≤ kv19 ∧ (kv17 = 4 → kv1 < kv19 ∨ kv3 = 4) := by rw [do12_kv1, do12_kv3, d_kv19, d_kv17]; exact pg2_S14
  have ph3_S14 : kv17 = 5 ∨ ¬ x12 = (4 : Int32) := by rw [d_kv17]; exact pg3_S14
  intro _
  obtain ⟨iv20, hiv20⟩ : ∃ z : Int32, z = kv19 := ⟨_, rfl⟩
  have d_iv20 := hiv20.trans d_kv19
  have do20_iv20 := d_iv20
  have do20_kv17 := d_kv17
  have do20_kv18 := d_kv18
  refine m_X11_known hI o_v0 (qr0) hG hn (by have t : kv17 = 5 → 0 < kv18 := (qr294 hiv4 hiv6 hO r_x12 ph0_S14 ph1_S14 ph3_S14); rw [d_kv17, d_kv18] at t; exact t) (fun x21 S22 hJ g23 fc24 p_x21 => ?_)
  obtain ⟨hG, hn, p_x21, pg0_S22, pg1_S22, pg2_S22⟩ := p_x21
  have hI := hJ
  have d_kv8 := d_kv8.trans (fri_at fc24 (by decide) (by decide) o_a7).symm
  have d_kv9 := d_kv9.trans (fri_at fc24 (by decide) (by decide) o_a7).symm
  have d_kv10 := d_kv10.trans (fri_at fc24 (by decide) (by decide) o_a7).symm
  have d_x12 := d_x12.trans (fri_at fc24 (by decide) (by decide) o_a7).symm
  have d_kv19 := d_kv19.trans (fri_at fc24 (by decide) (by decide) o_v0).symm
  have ea7 := (frr_at fc24 (by decide) (by decide) o_v0).trans ea7
  have f0 := fri_tr (S := S14) g0 f0 fc24 (by decide) (by decide)
  have o_a7 := gr_ob g23 o_a7
  have o_v0 := gr_ob g23 o_v0
  have g0 := gr_tr (T := S14) g0 g23
  obtain ⟨kv25, d_kv25⟩ : ∃ z : Int32, z = fI S22 v0 9 := ⟨_, rfl⟩
  obtain ⟨kv26, d_kv26⟩ : ∃ z : Int32, z = fI S22 v0 13 := ⟨_, rfl⟩
  have ph0_S22 : kv25 = 5 → 0 < kv26 := by rw [d_kv25, d_kv26]; exact pg0_S22
  have ph1_S22 : kv25 = 5 ∨ ¬ kv17 = 5 := by rw [do20_kv17, d_kv25]; exact pg1_S22
  have mo27 : kv25 = 5 ∨ ¬ kv3 = 5 := ph1_S22.elim Or.inl (fun h => Or.inr (ph1_S14.resolve_left h))
  have mo28 : kv25 = 5 ∨ ¬ x12 = (4 : Int32) := ph1_S22.elim Or.inl (fun h => Or.inr (ph3_S14.resolve_left h))
  have ph2_S22 : iv20 ≤ kv19 ∧ (kv25 = 4 → iv20 < kv19 ∨ kv17 = 4) := by rw [do20_iv20, do20_kv17, d_kv19, d_kv25]; exact pg2_S22
  intro _
  have kk_x21 : kv25 = 5 ∨ (0 ≤ x21 ∧ x21 < kv10) := by rw [d_kv25, d_kv10]; exact kr1 p_x21 ea7
  obtain ⟨iv29, hiv29⟩ : ∃ z : Int32, z = kv26 := ⟨_, rfl⟩
  have d_iv29 := hiv29.trans d_kv26
  have do29_kv19 := d_kv19
  have do29_kv25 := d_kv25
  have do29_iv29 := d_iv29
  refine m_X11_goesOn hI o_v0 hG (by have t : kv25 = 5 → 0 < kv26 := (qr295 hiv4 hiv6 hO r_kv8 r_kv9 r_kv10 hnf r_x12 ph0_S14 mo27 mo28 ph0_S22 ph1_S22 kk_x21); rw [d_kv25, d_kv26] at t; exact t) (fun S31 hJ g32 fc33 p_S31 => ?_)
  obtain ⟨hG, pg0_S31, pg1_S31, pg2_S31⟩ := p_S31
  have hn := rn_fr fc33 g32 hI o_v0 (by decide) hn
  have hI := hJ
  have d_kv8 := d_kv8.trans (fri_at fc33 (by decide) (by decide) o_a7).symm
  have d_kv9 := d_kv9.trans (fri_at fc33 (by decide) (by decide) o_a7).symm
  have d_kv10 := d_kv10.trans (fri_at fc33 (by decide) (by decide) o_a7).symm
  have d_x12 := d_x12.trans (fri_at fc33 (by decide) (by decide) o_a7).symm
  have d_kv26 := d_kv26.trans (fri_at fc33 (by decide) (by decide) o_v0).symm
  have ea7 := (frr_at fc33 (by decide) (by decide) o_v0).trans ea7
  have f0 := fri_tr (S := S22) g0 f0 fc33 (by decide) (by decide)
  have o_a7 := gr_ob g32 o_a7
  have o_v0 := gr_ob g32 o_v0
  have g0 := gr_tr (T := S22) g0 g32
  obtain ⟨kv34, d_kv34⟩ : ∃ z : Int32, z = fI S31 v0 9 := ⟨_, rfl⟩
  have ph0_S31 : kv34 = 5 → 0 < kv26 := by rw [d_kv34, d_kv26]; exact pg0_S31
  have ph1_S31 : kv34 = 5 ∨ ¬ kv25 = 5 := by rw [do29_kv25, d_kv34]; exact pg1_S31
  have mo35 : kv34 = 5 ∨ ¬ kv3 = 5 := ph1_S31.elim Or.inl (fun h => Or.inr (mo27.resolve_left h))
  have mo36 : kv34 = 5 ∨ ¬ x12 = (4 : Int32) := ph1_S31.elim Or.inl (fun h => Or.inr (mo28.resolve_left h))
  have mo37 : kv34 = 5 ∨ ¬ kv17 = 5 := ph1_S31.elim Or.inl (fun h => Or.inr (ph1_S22.resolve_left h))
  have mo38 : kv34 = 5 ∨ (0 ≤ x21 ∧ x21 < kv10) := ph1_S31.elim Or.inl (fun h => Or.inr (kk_x21.resolve_left h))
  obtain ⟨kv39, d_kv39⟩ : ∃ z : Int32, z = fI S31 v0 8 := ⟨_, rfl⟩
  have r_kv39 : (0 : Int32) ≤ kv39 ∧ kv39 ≤ (900 : Int32) := by rw [d_kv39]; exact nu 25 rfl hI o_v0
  have ph2_S31 : kv19 ≤ kv39 ∧ (kv34 = 4 → kv19 < kv39 ∨ kv25 = 4) := by rw [do29_kv19, do29_kv25, d_kv39, d_kv34]; exact pg2_S31
  intro _
  refine i_X11_readSeen_24 (fun (y0 : Nat) (y1 : Int32) (y2 : Int32) (Z : HS) => ((5 : Int32).toInt - y2.toInt).toNat) (fun (y0 : Nat) (y1 : Int32) (y2 : Int32) (Z : HS) => (IV Z) ∧ (Gr S31 Z) ∧ (FRI [(11, 8), (11, 9), (11, 10), (11, 11), (11, 12), (11, 13), (11, 14)] [] S31 Z) ∧ (v0 = y0) ∧ (x21 = y1) ∧ (RG Z v0) ∧ (RN Z v0) ∧ (0 ≤ y2 ∧ y2 ≤ 5) ∧ (y2 = 0 ∨ ¬ fI Z v0 9 = 5) ∧ (fI Z v0 9 = 5 ∨ ¬ fI Z a7 5 = 4) ∧ (fI Z v0 9 = 5 ∨ (0 ≤ y1 ∧ y1 < fI Z a7 4)) ∧ (fI Z v0 9 = 5 ∨ ¬ iv4 = 5) ∧ (iv2 ≤ fI Z v0 8 ∧ (fI Z v0 9 = 4 → iv2 < fI Z v0 8 ∨ iv4 = 4)) ∧ (fI Z v0 9 = 5 → 0 < fI Z v0 13)) ?_ _ _ _ _ ⟨hI, (gr_rf _), (fri_rf _ _ _), rfl, rfl, hG, hn, (qr296), (by rw [← d_kv34]; exact (qr297 hiv4 r_kv8 r_kv9 r_kv10 hnf r_x12 mo35 mo36 mo37 mo38 ph1_S31)), (by rw [← d_kv34, ← d_x12]; exact (qr298 hiv4 r_kv8 r_kv9 r_kv10 hnf r_x12 mo35 mo36 mo37 mo38 ph1_S31)), (by rw [← d_kv34, ← d_kv10]; exact (qr299 hiv4 r_kv8 r_kv9 r_kv10 hnf r_x12 mo35 mo36 mo37 mo38 ph1_S31)), (by rw [← d_kv34]; exact (qr300 hiv4 r_kv8 r_kv9 r_kv10 hnf r_x12 mo35 mo36 mo37 mo38 ph1_S31)), (by rw [← d_kv39, ← d_kv34]; exact (qr301 r_kv1 hiv2 hiv4 r_kv8 r_kv9 r_kv10 hnf r_x12 mo35 r_kv19 ph2_S14 mo36 hiv20 mo37 ph2_S22 mo38 ph1_S31 r_kv39 ph2_S31)), (by rw [← d_kv34, ← d_kv26]; exact (qr302 hiv4 hiv6 hO r_kv8 r_kv9 r_kv10 hnf r_x12 ph0_S14 mo35 mo36 ph0_S22 mo37 mo38 hiv29 ph0_S31 ph1_S31))⟩
  intro w44 w46 w48 S41 X49 ⟨hI, gL42, fL43, q45, q47, hG, hn, i1u40, k0u40, k1u40, k2u40, k3u40, k4u40, k5u40⟩ ih50
  subst q45
  subst q47
  have d_kv8 := d_kv8.trans (fri_at fL43 (by decide) (by decide) o_a7).symm
  have d_kv9 := d_kv9.trans (fri_at fL43 (by decide) (by decide) o_a7).symm
  have d_kv10 := d_kv10.trans (fri_at fL43 (by decide) (by decide) o_a7).symm
  have d_x12 := d_x12.trans (fri_at fL43 (by decide) (by decide) o_a7).symm
  have ea7 := (frr_at fL43 (by decide) (by decide) o_v0).trans ea7
  have f0 := fri_tr (S := S31) g0 f0 fL43 (by decide) (by decide)
  have o_a7 := gr_ob gL42 o_a7
  have o_v0 := gr_ob gL42 o_v0
  have g0 := gr_tr (T := S31) g0 gL42
  obtain ⟨kv51, d_kv51⟩ : ∃ z : Int32, z = fI S41 v0 9 := ⟨_, rfl⟩
  have p_k0u40 : w48 = 0 ∨ ¬ kv51 = 5 := by rw [d_kv51]; exact k0u40
  have p_k1u40 : kv51 = 5 ∨ ¬ x12 = 4 := by rw [d_kv51, d_x12]; exact k1u40
  have p_k2u40 : kv51 = 5 ∨ (0 ≤ x21 ∧ x21 < kv10) := by rw [d_kv51, d_kv10]; exact k2u40
  have p_k3u40 : kv51 = 5 ∨ ¬ iv4 = 5 := by rw [d_kv51]; exact k3u40
  obtain ⟨kv52, d_kv52⟩ : ∃ z : Int32, z = fI S41 v0 8 := ⟨_, rfl⟩
  have p_k4u40 : iv2 ≤ kv52 ∧ (kv51 = 4 → iv2 < kv52 ∨ iv4 = 4) := by rw [d_kv52, d_kv51]; exact k4u40
  obtain ⟨kv53, d_kv53⟩ : ∃ z : Int32, z = fI S41 v0 13 := ⟨_, rfl⟩
  have p_k5u40 : kv51 = 5 → 0 < kv53 := by rw [d_kv51, d_kv53]; exact k5u40
  refine u_X11_readSeen_24 ?_
  refine ⟨fun c54 => ?_, fun c54 => ?_⟩
  · refine ⟨o_v0, ?_⟩
    refine ⟨a7, ea7, ?_⟩
    refine ⟨o_a7, ?_⟩
    obtain ⟨a56, ea56, o_a56, l_a56⟩ := shl 48 rfl hI o_a7
    refine ⟨a56, ea56, ?_⟩
    refine ⟨a7, ea7, ?_⟩
    refine ⟨o_a7, ?_⟩
    intro x58 ex58
    have r_x58 : (0 : Int32) ≤ x58 ∧ x58 ≤ (4 : Int32) := by rw [ex58]; exact nu 21 rfl hI o_a7
    have q_x58 : x58 = x12 := ex58.trans d_x12.symm
    have d_x58 := ex58
    refine ⟨o_a56, ?_⟩
    have i59 : vp_in x58 (hN _ a56) := (vin l_a56 (m := 4) (by decide) (qr303 hiv4 r_kv8 r_kv9 r_kv10 hnf r_x12 mo35 mo36 mo37 mo38 ph1_S31 i1u40 p_k0u40 p_k1u40 p_k2u40 p_k3u40 c54 r_x58 q_x58))
    refine ⟨i59, ?_⟩
    intro S60 eS60
    have hIn : IV S60 := by rw [eS60]; exact iv10_aI hI o_a7 (rg_nw hG ea7) ea56 o_a56 (by decide)
    have hG := rg_a (jj := 26) (x := x58) eS60 hI ea7 o_a7 ea56 o_a56 (by decide) (h1_one (c := 5) (lo := 0) (hi := 3) (hf := 4) (by decide) d_x58.symm) (h2_no (y := 0) (by decide)) hG
    have hn := rn_11 eS60 hI o_v0 o_a56 (by decide) hn
    have hI := hIn
    have f0 := fr_A eS60 g0 f0 o_a56 (by decide)
    have d_kv8 := rd_Ik eS60 o_a56 o_a7 (by decide) d_kv8
    have d_kv9 := rd_Ik eS60 o_a56 o_a7 (by decide) d_kv9
    have d_kv10 := rd_Ik eS60 o_a56 o_a7 (by decide) d_kv10
    have d_x58 := rd_Ik eS60 o_a56 o_a7 (by decide) d_x58
    have d_kv51 := rd_Ik eS60 o_a56 o_v0 (by decide) d_kv51
    have d_kv52 := rd_Ik eS60 o_a56 o_v0 (by decide) d_kv52
    have d_kv53 := rd_Ik eS60 o_a56 o_v0 (by decide) d_kv53
    have ea7 := rf_I eS60 ea7
    have ea56 := rf_I eS60 ea56
    have l_a56 := ln_I eS60 l_a56
    have g0 := gr_I eS60 g0
    have o_a56 := ob_I eS60 o_a56
    have o_a7 := ob_I eS60 o_a7
    have o_v0 := ob_I eS60 o_v0
    have el61 : fI S60 a56 x58.toNatClampNeg = x21 := by rw [eS60]; exact u2_self _ _ _ _
    refine ⟨a7, ea7, ?_⟩
    refine ⟨o_a7, ?_⟩
    intro x63 ex63
    have r_x63 : (0 : Int32) ≤ x63 ∧ x63 ≤ (4 : Int32) := by rw [ex63]; exact nu 21 rfl hI o_a7
    have q_x63 : x63 = x58 := ex63.trans d_x58.symm
    have d_x63 := ex63
    intro x64 ex64
    intro S65 eS65
    have hIn : IV S65 := by rw [eS65]; exact iv10_sI hI o_a7 (rg_nw hG ea7) (nu_one (lo := (0 : Int32)) (hi := (4 : Int32)) (by decide) (qr304 hiv4 r_kv8 r_kv9 r_kv10 hnf r_x12 mo35 mo36 mo37 mo38 ph1_S31 i1u40 p_k0u40 p_k1u40 p_k2u40 p_k3u40 c54 r_x58 q_x58 r_x63 q_x63 ex64))
    have hG := rg_inc (c := 5) (y := x63) eS65 hI ea7 o_a7 d_x63.symm (qr305 hiv4 r_kv8 r_kv9 r_kv10 hnf r_x12 mo35 mo36 mo37 mo38 ph1_S31 i1u40 p_k0u40 p_k1u40 p_k2u40 p_k3u40 c54 r_x58 q_x58 r_x63 q_x63 ex64) (qr306 hiv4 r_kv8 r_kv9 r_kv10 hnf r_x12 mo35 mo36 mo37 mo38 ph1_S31 i1u40 p_k0u40 p_k1u40 p_k2u40 p_k3u40 c54 r_x58 q_x58 r_x63 q_x63 ex64) (hn_5 ea56 (by rw [show x63 = x58 from (qr307 hiv4 r_kv8 r_kv9 r_kv10 hnf r_x12 mo35 mo36 mo37 mo38 ph1_S31 i1u40 p_k0u40 p_k1u40 p_k2u40 p_k3u40 c54 r_x58 q_x58 r_x63 q_x63 ex64), el61]; exact ⟨(qr308 hiv4 r_kv8 r_kv9 r_kv10 hnf r_x12 mo35 mo36 mo37 mo38 ph1_S31 i1u40 p_k0u40 p_k1u40 p_k2u40 p_k3u40 c54 r_x58 q_x58 r_x63 q_x63 ex64), (qr309 hiv4 r_kv8 r_kv9 r_kv10 hnf r_x12 mo35 mo36 mo37 mo38 ph1_S31 i1u40 p_k0u40 p_k1u40 p_k2u40 p_k3u40 c54 r_x58 q_x58 r_x63 q_x63 ex64), Or.inr (by rw [← d_kv10]; exact (qr310 hiv4 r_kv8 r_kv9 r_kv10 hnf r_x12 mo35 mo36 mo37 mo38 ph1_S31 i1u40 p_k0u40 p_k1u40 p_k2u40 p_k3u40 c54 r_x58 q_x58 r_x63 q_x63 ex64))⟩)) (fun z _ hz => Or.inl (by rw [eS65] at hz; exact hs_no2 (by decide) z hz)) hG
    have hn := rn_c eS65 (by decide) hn
    have el61 := el_ob eS65 o_a7 o_a56 (by decide) el61
    have hI := hIn
    have f0 := fr_I eS65 g0 f0 o_a7 (by decide)
    have d_kv8 := rd_Ij eS65 (by decide) d_kv8
    have d_kv9 := rd_Ij eS65 (by decide) d_kv9
    have d_kv10 := rd_Ij eS65 (by decide) d_kv10
    have d_kv51 := rd_Ik eS65 o_a7 o_v0 (by decide) d_kv51
    have d_kv52 := rd_Ik eS65 o_a7 o_v0 (by decide) d_kv52
    have d_kv53 := rd_Ik eS65 o_a7 o_v0 (by decide) d_kv53
    have d_x64 := rd_Is eS65 (rfl : x64 = x64)
    have ea7 := rf_I eS65 ea7
    have ea56 := rf_I eS65 ea56
    have l_a56 := ln_I eS65 l_a56
    have g0 := gr_I eS65 g0
    have o_a56 := ob_I eS65 o_a56
    have o_a7 := ob_I eS65 o_a7
    have o_v0 := ob_I eS65 o_v0
    exact hq _ hI g0 f0 ⟨hG, hn, (by have t : kv51 = 5 → 0 < kv53 := (qr311 hiv4 hiv6 hO r_kv8 r_kv9 r_kv10 hnf r_x12 ph0_S14 mo35 mo36 ph0_S22 mo37 mo38 hiv29 ph0_S31 ph1_S31 i1u40 p_k0u40 p_k1u40 p_k2u40 p_k3u40 p_k5u40 c54 r_x58 q_x58 r_x63 q_x63 ex64); rw [d_kv51, d_kv53] at t; exact t), (by have t : kv51 = 5 ∨ ¬ iv4 = 5 := (qr312 hiv4 r_kv8 r_kv9 r_kv10 hnf r_x12 mo35 mo36 mo37 mo38 ph1_S31 i1u40 p_k0u40 p_k1u40 p_k2u40 p_k3u40 c54 r_x58 q_x58 r_x63 q_x63 ex64); rw [di_9, d_kv51] at t; exact t), (by have t : iv2 ≤ kv52 ∧ (kv51 = 4 → iv2 < kv52 ∨ iv4 = 4) := (qr313 r_kv1 hiv2 hiv4 r_kv8 r_kv9 r_kv10 hnf r_x12 mo35 r_kv19 ph2_S14 mo36 hiv20 mo37 ph2_S22 mo38 ph1_S31 r_kv39 ph2_S31 i1u40 p_k0u40 p_k1u40 p_k2u40 p_k3u40 p_k4u40 c54 r_x58 q_x58 r_x63 q_x63 ex64); rw [di_8, di_9, d_kv52, d_kv51] at t; exact t)⟩
  · refine ⟨fun c66 => ?_, fun c66 => ?_⟩
    · refine u_X11_readSeen_47 ?_
      refine ⟨o_v0, ?_⟩
      have do66_kv52 := d_kv52
      have do66_kv51 := d_kv51
      have do66_kv53 := d_kv53
      refine m_X11_readWhole hI o_v0 hG (by have t : kv51 = 5 → 0 < kv53 := (qr314 hiv4 hiv6 hO r_kv8 r_kv9 r_kv10 hnf r_x12 ph0_S14 mo35 mo36 ph0_S22 mo37 mo38 hiv29 ph0_S31 ph1_S31 i1u40 p_k0u40 p_k1u40 p_k2u40 p_k3u40 p_k5u40 c54 c66); rw [d_kv51, d_kv53] at t; exact t) (fun x67 S68 hJ g69 fc70 p_x67 => ?_)
      obtain ⟨hG, p_x67, pg0_S68, pg1_S68, pg2_S68⟩ := p_x67
      have hn := rn_fr fc70 g69 hI o_v0 (by decide) hn
      have hI := hJ
      have d_kv8 := d_kv8.trans (fri_at fc70 (by decide) (by decide) o_a7).symm
      have d_kv9 := d_kv9.trans (fri_at fc70 (by decide) (by decide) o_a7).symm
      have d_kv10 := d_kv10.trans (fri_at fc70 (by decide) (by decide) o_a7).symm
      have d_x12 := d_x12.trans (fri_at fc70 (by decide) (by decide) o_a7).symm
      have ea7 := (frr_at fc70 (by decide) (by decide) o_v0).trans ea7
      have f0 := fri_tr (S := S41) g0 f0 fc70 (by decide) (by decide)
      have fL43 := fri_tr (S := S41) gL42 fL43 fc70 (by decide) (by decide)
      have o_a7 := gr_ob g69 o_a7
      have o_v0 := gr_ob g69 o_v0
      have g0 := gr_tr (T := S41) g0 g69
      have gL42 := gr_tr (T := S41) gL42 g69
      obtain ⟨kv71, d_kv71⟩ : ∃ z : Int32, z = fI S68 v0 9 := ⟨_, rfl⟩
      obtain ⟨kv72, d_kv72⟩ : ∃ z : Int32, z = fI S68 v0 13 := ⟨_, rfl⟩
      have ph0_S68 : kv71 = 5 → 0 < kv72 := by rw [d_kv71, d_kv72]; exact pg0_S68
      have ph1_S68 : kv71 = 5 ∨ ¬ kv51 = 5 := by rw [do66_kv51, d_kv71]; exact pg1_S68
      have mo73 : kv71 = 5 ∨ ¬ x12 = 4 := ph1_S68.elim Or.inl (fun h => Or.inr (p_k1u40.resolve_left h))
      have mo74 : kv71 = 5 ∨ (0 ≤ x21 ∧ x21 < kv10) := ph1_S68.elim Or.inl (fun h => Or.inr (p_k2u40.resolve_left h))
      have mo75 : kv71 = 5 ∨ ¬ iv4 = 5 := ph1_S68.elim Or.inl (fun h => Or.inr (p_k3u40.resolve_left h))
      obtain ⟨kv76, d_kv76⟩ : ∃ z : Int32, z = fI S68 v0 8 := ⟨_, rfl⟩
      have r_kv76 : (0 : Int32) ≤ kv76 ∧ kv76 ≤ (900 : Int32) := by rw [d_kv76]; exact nu 25 rfl hI o_v0
      have ph2_S68 : kv52 ≤ kv76 ∧ (kv71 = 4 → kv52 < kv76 ∨ kv51 = 4) := by rw [do66_kv52, do66_kv51, d_kv76, d_kv71]; exact pg2_S68
      intro _
      intro x77 ex77
      have q_x77 : x77 = kv71 := ex77.trans d_kv71.symm
      have mo78 : x77 = 5 ∨ ¬ x12 = 4 := mo73.imp_left (fun z => q_x77.trans z)
      have mo79 : x77 = 5 ∨ (0 ≤ x21 ∧ x21 < kv10) := mo74.imp_left (fun z => q_x77.trans z)
      have mo80 : x77 = 5 ∨ ¬ iv4 = 5 := mo75.imp_left (fun z => q_x77.trans z)
      have mo81 : x77 = 5 ∨ ¬ kv51 = 5 := ph1_S68.imp_left (fun z => q_x77.trans z)
      have d_x77 := ex77
      refine ⟨fun c82 => ?_, fun c82 => ?_⟩
      · refine ⟨a7, ea7, ?_⟩
        refine ⟨o_a7, ?_⟩
        obtain ⟨a84, ea84, o_a84, l_a84⟩ := shl 49 rfl hI o_a7
        refine ⟨a84, ea84, ?_⟩
        refine ⟨a7, ea7, ?_⟩
        refine ⟨o_a7, ?_⟩
        intro x86 ex86
        have r_x86 : (0 : Int32) ≤ x86 ∧ x86 ≤ (4 : Int32) := by rw [ex86]; exact nu 21 rfl hI o_a7
        have q_x86 : x86 = x12 := ex86.trans d_x12.symm
        have d_x86 := ex86
        refine ⟨o_a84, ?_⟩
        have i87 : vp_in (((5 : Int32) * x86) + w48) (hN _ a84) := (vin l_a84 (m := 20) (by decide) (qr315 hiv4 r_kv8 r_kv9 r_kv10 hnf r_x12 mo35 mo36 mo37 mo38 ph1_S31 i1u40 p_k0u40 mo78 mo79 mo80 c54 c66 mo81 q_x77 c82 r_x86 q_x86))
        refine ⟨i87, ?_⟩
        intro S88 eS88
        have hIn : IV S88 := by rw [eS88]; exact iv10_aI hI o_a7 (rg_nw hG ea7) ea84 o_a84 (by decide)
        have hG := rg_a (jj := 27) (x := (((5 : Int32) * x86) + w48)) eS88 hI ea7 o_a7 ea84 o_a84 (by decide) (h1_no (by decide)) (h2_no (y := 0) (by decide)) hG
        have hn := rn_11 eS88 hI o_v0 o_a84 (by decide) hn
        have hI := hIn
        have f0 := fr_A eS88 g0 f0 o_a84 (by decide)
        have fL43 := fr_A eS88 gL42 fL43 o_a84 (by decide)
        have d_kv8 := rd_Ik eS88 o_a84 o_a7 (by decide) d_kv8
        have d_kv9 := rd_Ik eS88 o_a84 o_a7 (by decide) d_kv9
        have d_kv10 := rd_Ik eS88 o_a84 o_a7 (by decide) d_kv10
        have d_x86 := rd_Ik eS88 o_a84 o_a7 (by decide) d_x86
        have d_x77 := rd_Ik eS88 o_a84 o_v0 (by decide) d_x77
        have d_kv72 := rd_Ik eS88 o_a84 o_v0 (by decide) d_kv72
        have d_kv76 := rd_Ik eS88 o_a84 o_v0 (by decide) d_kv76
        have ea7 := rf_I eS88 ea7
        have ea84 := rf_I eS88 ea84
        have l_a84 := ln_I eS88 l_a84
        have g0 := gr_I eS88 g0
        have gL42 := gr_I eS88 gL42
        have o_a7 := ob_I eS88 o_a7
        have o_a84 := ob_I eS88 o_a84
        have o_v0 := ob_I eS88 o_v0
        intro x89 ex89
        exact ih50 _ _ _ _ ⟨hI, gL42, fL43, rfl, rfl, hG, hn, (qr316 hiv4 r_kv8 r_kv9 r_kv10 hnf r_x12 mo35 mo36 mo37 mo38 ph1_S31 i1u40 p_k0u40 mo78 mo79 mo80 c54 c66 mo81 q_x77 c82 r_x86 q_x86 ex89), (by rw [← d_x77]; exact (qr317 hiv4 r_kv8 r_kv9 r_kv10 hnf r_x12 mo35 mo36 mo37 mo38 ph1_S31 i1u40 p_k0u40 mo78 mo79 mo80 c54 c66 mo81 q_x77 c82 r_x86 q_x86 ex89)), (by rw [← d_x77, ← d_x86]; exact (qr318 hiv4 r_kv8 r_kv9 r_kv10 hnf r_x12 mo35 mo36 mo37 mo38 ph1_S31 i1u40 p_k0u40 mo78 mo79 mo80 c54 c66 mo81 q_x77 c82 r_x86 q_x86 ex89)), (by rw [← d_x77, ← d_kv10]; exact (qr319 hiv4 r_kv8 r_kv9 r_kv10 hnf r_x12 mo35 mo36 mo37 mo38 ph1_S31 i1u40 p_k0u40 mo78 mo79 mo80 c54 c66 mo81 q_x77 c82 r_x86 q_x86 ex89)), (by rw [← d_x77]; exact (qr320 hiv4 r_kv8 r_kv9 r_kv10 hnf r_x12 mo35 mo36 mo37 mo38 ph1_S31 i1u40 p_k0u40 mo78 mo79 mo80 c54 c66 mo81 q_x77 c82 r_x86 q_x86 ex89)), (by rw [← d_kv76, ← d_x77]; exact (qr321 r_kv1 hiv2 hiv4 r_kv8 r_kv9 r_kv10 hnf r_x12 mo35 r_kv19 ph2_S14 mo36 hiv20 mo37 ph2_S22 mo38 ph1_S31 r_kv39 ph2_S31 i1u40 p_k0u40 mo78 mo79 mo80 p_k4u40 c54 c66 mo81 r_kv76 ph2_S68 q_x77 c82 r_x86 q_x86 ex89)), (by rw [← d_x77, ← d_kv72]; exact (qr322 hiv4 hiv6 hO r_kv8 r_kv9 r_kv10 hnf r_x12 ph0_S14 mo35 mo36 ph0_S22 mo37 mo38 hiv29 ph0_S31 ph1_S31 i1u40 p_k0u40 mo78 mo79 mo80 p_k5u40 c54 c66 ph0_S68 mo81 q_x77 c82 r_x86 q_x86 ex89))⟩ (mu_up (qr323 hiv4 r_kv8 r_kv9 r_kv10 hnf r_x12 mo35 mo36 mo37 mo38 ph1_S31 i1u40 p_k0u40 mo78 mo79 mo80 c54 c66 mo81 q_x77 c82 r_x86 q_x86 ex89) (qr324 hiv4 r_kv8 r_kv9 r_kv10 hnf r_x12 mo35 mo36 mo37 mo38 ph1_S31 i1u40 p_k0u40 mo78 mo79 mo80 c54 c66 mo81 q_x77 c82 r_x86 q_x86 ex89))
      · exact hq _ hI g0 f0 ⟨hG, hn, (by have t : x77 = 5 → 0 < kv72 := (qr325 hiv4 hiv6 hO r_kv8 r_kv9 r_kv10 hnf r_x12 ph0_S14 mo35 mo36 ph0_S22 mo37 mo38 hiv29 ph0_S31 ph1_S31 i1u40 p_k0u40 mo78 mo79 mo80 p_k5u40 c54 c66 ph0_S68 mo81 q_x77 c82); rw [d_x77, d_kv72] at t; exact t), (by have t : x77 = 5 ∨ ¬ iv4 = 5 := (qr326 hiv4 r_kv8 r_kv9 r_kv10 hnf r_x12 mo35 mo36 mo37 mo38 ph1_S31 i1u40 p_k0u40 mo78 mo79 mo80 c54 c66 mo81 q_x77 c82); rw [di_9, d_x77] at t; exact t), (by have t : iv2 ≤ kv76 ∧ (x77 = 4 → iv2 < kv76 ∨ iv4 = 4) := (qr327 r_kv1 hiv2 hiv4 r_kv8 r_kv9 r_kv10 hnf r_x12 mo35 r_kv19 ph2_S14 mo36 hiv20 mo37 ph2_S22 mo38 ph1_S31 r_kv39 ph2_S31 i1u40 p_k0u40 mo78 mo79 mo80 p_k4u40 c54 c66 mo81 r_kv76 ph2_S68 q_x77 c82); rw [di_8, di_9, d_kv76, d_x77] at t; exact t)⟩
    · refine ⟨o_v0, ?_⟩
      obtain ⟨iv90, hiv90⟩ : ∃ z : Int32, z = kv53 := ⟨_, rfl⟩
      have d_iv90 := hiv90.trans d_kv53
      have do90_kv52 := d_kv52
      have do90_kv51 := d_kv51
      have do90_iv90 := d_iv90
      refine m_X11_eatsSign hI o_v0 hG (by have t : kv51 = 5 → 0 < kv53 := (qr328 hiv4 hiv6 hO r_kv8 r_kv9 r_kv10 hnf r_x12 ph0_S14 mo35 mo36 ph0_S22 mo37 mo38 hiv29 ph0_S31 ph1_S31 i1u40 p_k0u40 p_k1u40 p_k2u40 p_k3u40 p_k5u40 c54 c66); rw [d_kv51, d_kv53] at t; exact t) (fun x91 S92 hJ g93 fc94 b_x91 p_x91 => ?_)
      obtain ⟨hG, pg0_S92, pg1_S92, pg2_S92, pg3_S92⟩ := p_x91
      have hn := rn_fr fc94 g93 hI o_v0 (by decide) hn
      have hI := hJ
      have d_kv8 := d_kv8.trans (fri_at fc94 (by decide) (by decide) o_a7).symm
      have d_kv9 := d_kv9.trans (fri_at fc94 (by decide) (by decide) o_a7).symm
      have d_kv10 := d_kv10.trans (fri_at fc94 (by decide) (by decide) o_a7).symm
      have d_x12 := d_x12.trans (fri_at fc94 (by decide) (by decide) o_a7).symm
      have d_kv53 := d_kv53.trans (fri_at fc94 (by decide) (by decide) o_v0).symm
      have ea7 := (frr_at fc94 (by decide) (by decide) o_v0).trans ea7
      have f0 := fri_tr (S := S41) g0 f0 fc94 (by decide) (by decide)
      have fL43 := fri_tr (S := S41) gL42 fL43 fc94 (by decide) (by decide)
      have o_a7 := gr_ob g93 o_a7
      have o_v0 := gr_ob g93 o_v0
      have g0 := gr_tr (T := S41) g0 g93
      have gL42 := gr_tr (T := S41) gL42 g93
      obtain ⟨kv95, d_kv95⟩ : ∃ z : Int32, z = fI S92 v0 9 := ⟨_, rfl⟩
      have ph0_S92 : kv95 = 5 → 0 < kv53 := by rw [d_kv95, d_kv53]; exact pg0_S92
      have ph1_S92 : kv95 = 5 ∨ ¬ kv51 = 5 := by rw [do90_kv51, d_kv95]; exact pg1_S92
      have mo96 : kv95 = 5 ∨ ¬ x12 = 4 := ph1_S92.elim Or.inl (fun h => Or.inr (p_k1u40.resolve_left h))
      have mo97 : kv95 = 5 ∨ (0 ≤ x21 ∧ x21 < kv10) := ph1_S92.elim Or.inl (fun h => Or.inr (p_k2u40.resolve_left h))
      have mo98 : kv95 = 5 ∨ ¬ iv4 = 5 := ph1_S92.elim Or.inl (fun h => Or.inr (p_k3u40.resolve_left h))
      obtain ⟨kv99, d_kv99⟩ : ∃ z : Int32, z = fI S92 v0 8 := ⟨_, rfl⟩
      have r_kv99 : (0 : Int32) ≤ kv99 ∧ kv99 ≤ (900 : Int32) := by rw [d_kv99]; exact nu 25 rfl hI o_v0
      have ph2_S92 : kv52 ≤ kv99 ∧ (kv95 = 4 → kv52 < kv99 ∨ kv51 = 4) := by rw [do90_kv52, do90_kv51, d_kv99, d_kv95]; exact pg2_S92
      have ph3_S92 : x91 = 0 ∨ kv51 = 4 := by rw [do90_kv51]; exact pg3_S92
      intro _ _
      have bb_x91 : x91 = 0 ∨ x91 = 1 := b_x91
      refine ⟨fun c100 => ?_, fun c100 => ?_⟩
      · refine u_X11_readSeen_47 ?_
        refine ⟨o_v0, ?_⟩
        have do100_kv99 := d_kv99
        have do100_kv95 := d_kv95
        have do100_kv53 := d_kv53
        refine m_X11_readWhole hI o_v0 hG (by have t : kv95 = 5 → 0 < kv53 := (qr329 hiv4 hiv6 hO r_kv8 r_kv9 r_kv10 hnf r_x12 ph0_S14 mo35 mo36 ph0_S22 mo37 mo38 hiv29 ph0_S31 ph1_S31 i1u40 p_k0u40 mo96 mo97 mo98 p_k5u40 c54 c66 hiv90 ph0_S92 ph1_S92 ph3_S92 bb_x91 c100); rw [d_kv95, d_kv53] at t; exact t) (fun x101 S102 hJ g103 fc104 p_x101 => ?_)
        obtain ⟨hG, p_x101, pg0_S102, pg1_S102, pg2_S102⟩ := p_x101
        have hn := rn_fr fc104 g103 hI o_v0 (by decide) hn
        have hI := hJ
        have d_kv8 := d_kv8.trans (fri_at fc104 (by decide) (by decide) o_a7).symm
        have d_kv9 := d_kv9.trans (fri_at fc104 (by decide) (by decide) o_a7).symm
        have d_kv10 := d_kv10.trans (fri_at fc104 (by decide) (by decide) o_a7).symm
        have d_x12 := d_x12.trans (fri_at fc104 (by decide) (by decide) o_a7).symm
        have ea7 := (frr_at fc104 (by decide) (by decide) o_v0).trans ea7
        have f0 := fri_tr (S := S92) g0 f0 fc104 (by decide) (by decide)
        have fL43 := fri_tr (S := S92) gL42 fL43 fc104 (by decide) (by decide)
        have o_a7 := gr_ob g103 o_a7
        have o_v0 := gr_ob g103 o_v0
        have g0 := gr_tr (T := S92) g0 g103
        have gL42 := gr_tr (T := S92) gL42 g103
        obtain ⟨kv105, d_kv105⟩ : ∃ z : Int32, z = fI S102 v0 9 := ⟨_, rfl⟩
        obtain ⟨kv106, d_kv106⟩ : ∃ z : Int32, z = fI S102 v0 13 := ⟨_, rfl⟩
        have ph0_S102 : kv105 = 5 → 0 < kv106 := by rw [d_kv105, d_kv106]; exact pg0_S102
        have ph1_S102 : kv105 = 5 ∨ ¬ kv95 = 5 := by rw [do100_kv95, d_kv105]; exact pg1_S102
        have mo107 : kv105 = 5 ∨ ¬ x12 = 4 := ph1_S102.elim Or.inl (fun h => Or.inr (mo96.resolve_left h))
        have mo108 : kv105 = 5 ∨ (0 ≤ x21 ∧ x21 < kv10) := ph1_S102.elim Or.inl (fun h => Or.inr (mo97.resolve_left h))
        have mo109 : kv105 = 5 ∨ ¬ iv4 = 5 := ph1_S102.elim Or.inl (fun h => Or.inr (mo98.resolve_left h))
        have mo110 : kv105 = 5 ∨ ¬ kv51 = 5 := ph1_S102.elim Or.inl (fun h => Or.inr (ph1_S92.resolve_left h))
        obtain ⟨kv111, d_kv111⟩ : ∃ z : Int32, z = fI S102 v0 8 := ⟨_, rfl⟩
        have r_kv111 : (0 : Int32) ≤ kv111 ∧ kv111 ≤ (900 : Int32) := by rw [d_kv111]; exact nu 25 rfl hI o_v0
        have ph2_S102 : kv99 ≤ kv111 ∧ (kv105 = 4 → kv99 < kv111 ∨ kv95 = 4) := by rw [do100_kv99, do100_kv95, d_kv111, d_kv105]; exact pg2_S102
        intro _
        intro x112 ex112
        have q_x112 : x112 = kv105 := ex112.trans d_kv105.symm
        have mo113 : x112 = 5 ∨ ¬ x12 = 4 := mo107.imp_left (fun z => q_x112.trans z)
        have mo114 : x112 = 5 ∨ (0 ≤ x21 ∧ x21 < kv10) := mo108.imp_left (fun z => q_x112.trans z)
        have mo115 : x112 = 5 ∨ ¬ iv4 = 5 := mo109.imp_left (fun z => q_x112.trans z)
        have mo116 : x112 = 5 ∨ ¬ kv51 = 5 := mo110.imp_left (fun z => q_x112.trans z)
        have mo117 : x112 = 5 ∨ ¬ kv95 = 5 := ph1_S102.imp_left (fun z => q_x112.trans z)
        have d_x112 := ex112
        refine ⟨fun c118 => ?_, fun c118 => ?_⟩
        · refine ⟨a7, ea7, ?_⟩
          refine ⟨o_a7, ?_⟩
          obtain ⟨a120, ea120, o_a120, l_a120⟩ := shl 49 rfl hI o_a7
          refine ⟨a120, ea120, ?_⟩
          refine ⟨a7, ea7, ?_⟩
          refine ⟨o_a7, ?_⟩
          intro x122 ex122
          have r_x122 : (0 : Int32) ≤ x122 ∧ x122 ≤ (4 : Int32) := by rw [ex122]; exact nu 21 rfl hI o_a7
          have q_x122 : x122 = x12 := ex122.trans d_x12.symm
          have d_x122 := ex122
          refine ⟨o_a120, ?_⟩
          have i123 : vp_in (((5 : Int32) * x122) + w48) (hN _ a120) := (vin l_a120 (m := 20) (by decide) (qr330 hiv4 r_kv8 r_kv9 r_kv10 hnf r_x12 mo35 mo36 mo37 mo38 ph1_S31 i1u40 p_k0u40 mo113 mo114 mo115 c54 c66 mo116 ph3_S92 bb_x91 c100 mo117 q_x112 c118 r_x122 q_x122))
          refine ⟨i123, ?_⟩
          intro S124 eS124
          have hIn : IV S124 := by rw [eS124]; exact iv10_aI hI o_a7 (rg_nw hG ea7) ea120 o_a120 (by decide)
          have hG := rg_a (jj := 27) (x := (((5 : Int32) * x122) + w48)) eS124 hI ea7 o_a7 ea120 o_a120 (by decide) (h1_no (by decide)) (h2_no (y := 0) (by decide)) hG
          have hn := rn_11 eS124 hI o_v0 o_a120 (by decide) hn
          have hI := hIn
          have f0 := fr_A eS124 g0 f0 o_a120 (by decide)
          have fL43 := fr_A eS124 gL42 fL43 o_a120 (by decide)
          have d_kv8 := rd_Ik eS124 o_a120 o_a7 (by decide) d_kv8
          have d_kv9 := rd_Ik eS124 o_a120 o_a7 (by decide) d_kv9
          have d_kv10 := rd_Ik eS124 o_a120 o_a7 (by decide) d_kv10
          have d_x122 := rd_Ik eS124 o_a120 o_a7 (by decide) d_x122
          have d_x112 := rd_Ik eS124 o_a120 o_v0 (by decide) d_x112
          have d_kv106 := rd_Ik eS124 o_a120 o_v0 (by decide) d_kv106
          have d_kv111 := rd_Ik eS124 o_a120 o_v0 (by decide) d_kv111
          have ea7 := rf_I eS124 ea7
          have ea120 := rf_I eS124 ea120
          have l_a120 := ln_I eS124 l_a120
          have g0 := gr_I eS124 g0
          have gL42 := gr_I eS124 gL42
          have o_a120 := ob_I eS124 o_a120
          have o_a7 := ob_I eS124 o_a7
          have o_v0 := ob_I eS124 o_v0
          intro x125 ex125
          exact ih50 _ _ _ _ ⟨hI, gL42, fL43, rfl, rfl, hG, hn, (qr331 hiv4 r_kv8 r_kv9 r_kv10 hnf r_x12 mo35 mo36 mo37 mo38 ph1_S31 i1u40 p_k0u40 mo113 mo114 mo115 c54 c66 mo116 ph3_S92 bb_x91 c100 mo117 q_x112 c118 r_x122 q_x122 ex125), (by rw [← d_x112]; exact (qr332 hiv4 r_kv8 r_kv9 r_kv10 hnf r_x12 mo35 mo36 mo37 mo38 ph1_S31 i1u40 p_k0u40 mo113 mo114 mo115 c54 c66 mo116 ph3_S92 bb_x91 c100 mo117 q_x112 c118 r_x122 q_x122 ex125)), (by rw [← d_x112, ← d_x122]; exact (qr333 hiv4 r_kv8 r_kv9 r_kv10 hnf r_x12 mo35 mo36 mo37 mo38 ph1_S31 i1u40 p_k0u40 mo113 mo114 mo115 c54 c66 mo116 ph3_S92 bb_x91 c100 mo117 q_x112 c118 r_x122 q_x122 ex125)), (by rw [← d_x112, ← d_kv10]; exact (qr334 hiv4 r_kv8 r_kv9 r_kv10 hnf r_x12 mo35 mo36 mo37 mo38 ph1_S31 i1u40 p_k0u40 mo113 mo114 mo115 c54 c66 mo116 ph3_S92 bb_x91 c100 mo117 q_x112 c118 r_x122 q_x122 ex125)), (by rw [← d_x112]; exact (qr335 hiv4 r_kv8 r_kv9 r_kv10 hnf r_x12 mo35 mo36 mo37 mo38 ph1_S31 i1u40 p_k0u40 mo113 mo114 mo115 c54 c66 mo116 ph3_S92 bb_x91 c100 mo117 q_x112 c118 r_x122 q_x122 ex125)), (by rw [← d_kv111, ← d_x112]; exact (qr336 r_kv1 hiv2 hiv4 r_kv8 r_kv9 r_kv10 hnf r_x12 mo35 r_kv19 ph2_S14 mo36 hiv20 mo37 ph2_S22 mo38 ph1_S31 r_kv39 ph2_S31 i1u40 p_k0u40 mo113 mo114 mo115 p_k4u40 c54 c66 mo116 r_kv99 ph2_S92 ph3_S92 bb_x91 c100 mo117 r_kv111 ph2_S102 q_x112 c118 r_x122 q_x122 ex125)), (by rw [← d_x112, ← d_kv106]; exact (qr337 hiv4 hiv6 hO r_kv8 r_kv9 r_kv10 hnf r_x12 ph0_S14 mo35 mo36 ph0_S22 mo37 mo38 hiv29 ph0_S31 ph1_S31 i1u40 p_k0u40 mo113 mo114 mo115 p_k5u40 c54 c66 hiv90 ph0_S92 mo116 ph3_S92 bb_x91 c100 ph0_S102 mo117 q_x112 c118 r_x122 q_x122 ex125))⟩ (mu_up (qr338 hiv4 r_kv8 r_kv9 r_kv10 hnf r_x12 mo35 mo36 mo37 mo38 ph1_S31 i1u40 p_k0u40 mo113 mo114 mo115 c54 c66 mo116 ph3_S92 bb_x91 c100 mo117 q_x112 c118 r_x122 q_x122 ex125) (qr339 hiv4 r_kv8 r_kv9 r_kv10 hnf r_x12 mo35 mo36 mo37 mo38 ph1_S31 i1u40 p_k0u40 mo113 mo114 mo115 c54 c66 mo116 ph3_S92 bb_x91 c100 mo117 q_x112 c118 r_x122 q_x122 ex125))
        · exact hq _ hI g0 f0 ⟨hG, hn, (by have t : x112 = 5 → 0 < kv106 := (qr340 hiv4 hiv6 hO r_kv8 r_kv9 r_kv10 hnf r_x12 ph0_S14 mo35 mo36 ph0_S22 mo37 mo38 hiv29 ph0_S31 ph1_S31 i1u40 p_k0u40 mo113 mo114 mo115 p_k5u40 c54 c66 hiv90 ph0_S92 mo116 ph3_S92 bb_x91 c100 ph0_S102 mo117 q_x112 c118); rw [d_x112, d_kv106] at t; exact t), (by have t : x112 = 5 ∨ ¬ iv4 = 5 := (qr341 hiv4 r_kv8 r_kv9 r_kv10 hnf r_x12 mo35 mo36 mo37 mo38 ph1_S31 i1u40 p_k0u40 mo113 mo114 mo115 c54 c66 mo116 ph3_S92 bb_x91 c100 mo117 q_x112 c118); rw [di_9, d_x112] at t; exact t), (by have t : iv2 ≤ kv111 ∧ (x112 = 4 → iv2 < kv111 ∨ iv4 = 4) := (qr342 r_kv1 hiv2 hiv4 r_kv8 r_kv9 r_kv10 hnf r_x12 mo35 r_kv19 ph2_S14 mo36 hiv20 mo37 ph2_S22 mo38 ph1_S31 r_kv39 ph2_S31 i1u40 p_k0u40 mo113 mo114 mo115 p_k4u40 c54 c66 mo116 r_kv99 ph2_S92 ph3_S92 bb_x91 c100 mo117 r_kv111 ph2_S102 q_x112 c118); rw [di_8, di_9, d_kv111, d_x112] at t; exact t)⟩
      · obtain ⟨iv126, hiv126⟩ : ∃ z : Int32, z = kv99 := ⟨_, rfl⟩
        have d_iv126 := hiv126.trans d_kv99
        have do126_iv126 := d_iv126
        have do126_kv95 := d_kv95
        have do126_kv53 := d_kv53
        refine m_X11_flaw hI o_v0 (qr343 hiv4 r_kv8 r_kv9 r_kv10 hnf r_x12 mo35 mo36 mo37 mo38 ph1_S31 i1u40 p_k0u40 mo96 mo97 mo98 c54 c66 ph1_S92 ph3_S92 bb_x91 c100) hG (by have t : kv95 = 5 → 0 < kv53 := (qr344 hiv4 hiv6 hO r_kv8 r_kv9 r_kv10 hnf r_x12 ph0_S14 mo35 mo36 ph0_S22 mo37 mo38 hiv29 ph0_S31 ph1_S31 i1u40 p_k0u40 mo96 mo97 mo98 p_k5u40 c54 c66 hiv90 ph0_S92 ph1_S92 ph3_S92 bb_x91 c100); rw [d_kv95, d_kv53] at t; exact t) (fun S128 hJ g129 fc130 p_S128 => ?_)
        obtain ⟨hG, pg0_S128, pg1_S128, pg2_S128, pg3_S128⟩ := p_S128
        have hn := rn_fr fc130 g129 hI o_v0 (by decide) hn
        have hI := hJ
        have d_kv8 := d_kv8.trans (fri_at fc130 (by decide) (by decide) o_a7).symm
        have d_kv9 := d_kv9.trans (fri_at fc130 (by decide) (by decide) o_a7).symm
        have d_kv10 := d_kv10.trans (fri_at fc130 (by decide) (by decide) o_a7).symm
        have d_x12 := d_x12.trans (fri_at fc130 (by decide) (by decide) o_a7).symm
        have d_kv99 := d_kv99.trans (fri_at fc130 (by decide) (by decide) o_v0).symm
        have ea7 := (frr_at fc130 (by decide) (by decide) o_v0).trans ea7
        have f0 := fri_tr (S := S92) g0 f0 fc130 (by decide) (by decide)
        have fL43 := fri_tr (S := S92) gL42 fL43 fc130 (by decide) (by decide)
        have o_a7 := gr_ob g129 o_a7
        have o_v0 := gr_ob g129 o_v0
        have g0 := gr_tr (T := S92) g0 g129
        have gL42 := gr_tr (T := S92) gL42 g129
        obtain ⟨kv131, d_kv131⟩ : ∃ z : Int32, z = fI S128 v0 9 := ⟨_, rfl⟩
        obtain ⟨kv132, d_kv132⟩ : ∃ z : Int32, z = fI S128 v0 13 := ⟨_, rfl⟩
        have ph0_S128 : kv131 = 5 → 0 < kv132 := by rw [d_kv131, d_kv132]; exact pg0_S128
        have ph1_S128 : kv131 = 5 ∨ ¬ kv95 = 5 := by rw [do126_kv95, d_kv131]; exact pg1_S128
        have mo133 : kv131 = 5 ∨ ¬ x12 = 4 := ph1_S128.elim Or.inl (fun h => Or.inr (mo96.resolve_left h))
        have mo134 : kv131 = 5 ∨ (0 ≤ x21 ∧ x21 < kv10) := ph1_S128.elim Or.inl (fun h => Or.inr (mo97.resolve_left h))
        have mo135 : kv131 = 5 ∨ ¬ iv4 = 5 := ph1_S128.elim Or.inl (fun h => Or.inr (mo98.resolve_left h))
        have mo136 : kv131 = 5 ∨ ¬ kv51 = 5 := ph1_S128.elim Or.inl (fun h => Or.inr (ph1_S92.resolve_left h))
        have ph2_S128 : iv126 ≤ kv99 ∧ (kv131 = 4 → iv126 < kv99 ∨ kv95 = 4) := by rw [do126_iv126, do126_kv95, d_kv99, d_kv131]; exact pg2_S128
        have ph3_S128 : kv131 = 5 := by rw [d_kv131]; exact pg3_S128
        intro _
        refine u_X11_readSeen_47 ?_
        refine ⟨o_v0, ?_⟩
        have do136_kv99 := d_kv99
        have do136_kv131 := d_kv131
        have do136_kv132 := d_kv132
        refine m_X11_readWhole hI o_v0 hG (by have t : kv131 = 5 → 0 < kv132 := (qr345 hiv4 hiv6 hO r_kv8 r_kv9 r_kv10 hnf r_x12 ph0_S14 mo35 mo36 ph0_S22 mo37 mo38 hiv29 ph0_S31 ph1_S31 i1u40 p_k0u40 mo133 mo134 mo135 p_k5u40 c54 c66 hiv90 ph0_S92 mo136 ph3_S92 bb_x91 c100 ph0_S128 ph1_S128 ph3_S128); rw [d_kv131, d_kv132] at t; exact t) (fun x137 S138 hJ g139 fc140 p_x137 => ?_)
        obtain ⟨hG, p_x137, pg0_S138, pg1_S138, pg2_S138⟩ := p_x137
        have hn := rn_fr fc140 g139 hI o_v0 (by decide) hn
        have hI := hJ
        have d_kv8 := d_kv8.trans (fri_at fc140 (by decide) (by decide) o_a7).symm
        have d_kv9 := d_kv9.trans (fri_at fc140 (by decide) (by decide) o_a7).symm
        have d_kv10 := d_kv10.trans (fri_at fc140 (by decide) (by decide) o_a7).symm
        have d_x12 := d_x12.trans (fri_at fc140 (by decide) (by decide) o_a7).symm
        have ea7 := (frr_at fc140 (by decide) (by decide) o_v0).trans ea7
        have f0 := fri_tr (S := S128) g0 f0 fc140 (by decide) (by decide)
        have fL43 := fri_tr (S := S128) gL42 fL43 fc140 (by decide) (by decide)
        have o_a7 := gr_ob g139 o_a7
        have o_v0 := gr_ob g139 o_v0
        have g0 := gr_tr (T := S128) g0 g139
        have gL42 := gr_tr (T := S128) gL42 g139
        obtain ⟨kv141, d_kv141⟩ : ∃ z : Int32, z = fI S138 v0 9 := ⟨_, rfl⟩
        obtain ⟨kv142, d_kv142⟩ : ∃ z : Int32, z = fI S138 v0 13 := ⟨_, rfl⟩
        have ph0_S138 : kv141 = 5 → 0 < kv142 := by rw [d_kv141, d_kv142]; exact pg0_S138
        have ph1_S138 : kv141 = 5 ∨ ¬ kv131 = 5 := by rw [do136_kv131, d_kv141]; exact pg1_S138
        have mo143 : kv141 = 5 ∨ ¬ x12 = 4 := ph1_S138.elim Or.inl (fun h => Or.inr (mo133.resolve_left h))
        have mo144 : kv141 = 5 ∨ (0 ≤ x21 ∧ x21 < kv10) := ph1_S138.elim Or.inl (fun h => Or.inr (mo134.resolve_left h))
        have mo145 : kv141 = 5 ∨ ¬ iv4 = 5 := ph1_S138.elim Or.inl (fun h => Or.inr (mo135.resolve_left h))
        have mo146 : kv141 = 5 ∨ ¬ kv51 = 5 := ph1_S138.elim Or.inl (fun h => Or.inr (mo136.resolve_left h))
        have mo147 : kv141 = 5 ∨ ¬ kv95 = 5 := ph1_S138.elim Or.inl (fun h => Or.inr (ph1_S128.resolve_left h))
        obtain ⟨kv148, d_kv148⟩ : ∃ z : Int32, z = fI S138 v0 8 := ⟨_, rfl⟩
        have r_kv148 : (0 : Int32) ≤ kv148 ∧ kv148 ≤ (900 : Int32) := by rw [d_kv148]; exact nu 25 rfl hI o_v0
        have ph2_S138 : kv99 ≤ kv148 ∧ (kv141 = 4 → kv99 < kv148 ∨ kv131 = 4) := by rw [do136_kv99, do136_kv131, d_kv148, d_kv141]; exact pg2_S138
        intro _
        intro x149 ex149
        have q_x149 : x149 = kv141 := ex149.trans d_kv141.symm
        have mo150 : x149 = 5 ∨ ¬ x12 = 4 := mo143.imp_left (fun z => q_x149.trans z)
        have mo151 : x149 = 5 ∨ (0 ≤ x21 ∧ x21 < kv10) := mo144.imp_left (fun z => q_x149.trans z)
        have mo152 : x149 = 5 ∨ ¬ iv4 = 5 := mo145.imp_left (fun z => q_x149.trans z)
        have mo153 : x149 = 5 ∨ ¬ kv51 = 5 := mo146.imp_left (fun z => q_x149.trans z)
        have mo154 : x149 = 5 ∨ ¬ kv95 = 5 := mo147.imp_left (fun z => q_x149.trans z)
        have mo155 : x149 = 5 ∨ ¬ kv131 = 5 := ph1_S138.imp_left (fun z => q_x149.trans z)
        have d_x149 := ex149
        refine ⟨fun c156 => ?_, fun c156 => ?_⟩
        · refine ⟨a7, ea7, ?_⟩
          refine ⟨o_a7, ?_⟩
          obtain ⟨a158, ea158, o_a158, l_a158⟩ := shl 49 rfl hI o_a7
          refine ⟨a158, ea158, ?_⟩
          refine ⟨a7, ea7, ?_⟩
          refine ⟨o_a7, ?_⟩
          intro x160 ex160
          have r_x160 : (0 : Int32) ≤ x160 ∧ x160 ≤ (4 : Int32) := by rw [ex160]; exact nu 21 rfl hI o_a7
          have q_x160 : x160 = x12 := ex160.trans d_x12.symm
          have d_x160 := ex160
          refine ⟨o_a158, ?_⟩
          have i161 : vp_in (((5 : Int32) * x160) + w48) (hN _ a158) := (vin l_a158 (m := 20) (by decide) (qr346 hiv4 r_kv8 r_kv9 r_kv10 hnf r_x12 mo35 mo36 mo37 mo38 ph1_S31 i1u40 p_k0u40 mo150 mo151 mo152 c54 c66 mo153 ph3_S92 bb_x91 c100 mo154 ph3_S128 mo155 q_x149 c156 r_x160 q_x160))
          refine ⟨i161, ?_⟩
          intro S162 eS162
          have hIn : IV S162 := by rw [eS162]; exact iv10_aI hI o_a7 (rg_nw hG ea7) ea158 o_a158 (by decide)
          have hG := rg_a (jj := 27) (x := (((5 : Int32) * x160) + w48)) eS162 hI ea7 o_a7 ea158 o_a158 (by decide) (h1_no (by decide)) (h2_no (y := 0) (by decide)) hG
          have hn := rn_11 eS162 hI o_v0 o_a158 (by decide) hn
          have hI := hIn
          have f0 := fr_A eS162 g0 f0 o_a158 (by decide)
          have fL43 := fr_A eS162 gL42 fL43 o_a158 (by decide)
          have d_kv8 := rd_Ik eS162 o_a158 o_a7 (by decide) d_kv8
          have d_kv9 := rd_Ik eS162 o_a158 o_a7 (by decide) d_kv9
          have d_kv10 := rd_Ik eS162 o_a158 o_a7 (by decide) d_kv10
          have d_x160 := rd_Ik eS162 o_a158 o_a7 (by decide) d_x160
          have d_x149 := rd_Ik eS162 o_a158 o_v0 (by decide) d_x149
          have d_kv142 := rd_Ik eS162 o_a158 o_v0 (by decide) d_kv142
          have d_kv148 := rd_Ik eS162 o_a158 o_v0 (by decide) d_kv148
          have ea7 := rf_I eS162 ea7
          have ea158 := rf_I eS162 ea158
          have l_a158 := ln_I eS162 l_a158
          have g0 := gr_I eS162 g0
          have gL42 := gr_I eS162 gL42
          have o_a158 := ob_I eS162 o_a158
          have o_a7 := ob_I eS162 o_a7
          have o_v0 := ob_I eS162 o_v0
          intro x163 ex163
          exact ih50 _ _ _ _ ⟨hI, gL42, fL43, rfl, rfl, hG, hn, (qr347 hiv4 r_kv8 r_kv9 r_kv10 hnf r_x12 mo35 mo36 mo37 mo38 ph1_S31 i1u40 p_k0u40 mo150 mo151 mo152 c54 c66 mo153 ph3_S92 bb_x91 c100 mo154 ph3_S128 mo155 q_x149 c156 r_x160 q_x160 ex163), (by rw [← d_x149]; exact (qr348 hiv4 r_kv8 r_kv9 r_kv10 hnf r_x12 mo35 mo36 mo37 mo38 ph1_S31 i1u40 p_k0u40 mo150 mo151 mo152 c54 c66 mo153 ph3_S92 bb_x91 c100 mo154 ph3_S128 mo155 q_x149 c156 r_x160 q_x160 ex163)), (by rw [← d_x149, ← d_x160]; exact (qr349 hiv4 r_kv8 r_kv9 r_kv10 hnf r_x12 mo35 mo36 mo37 mo38 ph1_S31 i1u40 p_k0u40 mo150 mo151 mo152 c54 c66 mo153 ph3_S92 bb_x91 c100 mo154 ph3_S128 mo155 q_x149 c156 r_x160 q_x160 ex163)), (by rw [← d_x149, ← d_kv10]; exact (qr350 hiv4 r_kv8 r_kv9 r_kv10 hnf r_x12 mo35 mo36 mo37 mo38 ph1_S31 i1u40 p_k0u40 mo150 mo151 mo152 c54 c66 mo153 ph3_S92 bb_x91 c100 mo154 ph3_S128 mo155 q_x149 c156 r_x160 q_x160 ex163)), (by rw [← d_x149]; exact (qr351 hiv4 r_kv8 r_kv9 r_kv10 hnf r_x12 mo35 mo36 mo37 mo38 ph1_S31 i1u40 p_k0u40 mo150 mo151 mo152 c54 c66 mo153 ph3_S92 bb_x91 c100 mo154 ph3_S128 mo155 q_x149 c156 r_x160 q_x160 ex163)), (by rw [← d_kv148, ← d_x149]; exact (qr352 r_kv1 hiv2 hiv4 r_kv8 r_kv9 r_kv10 hnf r_x12 mo35 r_kv19 ph2_S14 mo36 hiv20 mo37 ph2_S22 mo38 ph1_S31 r_kv39 ph2_S31 i1u40 p_k0u40 mo150 mo151 mo152 p_k4u40 c54 c66 mo153 r_kv99 ph2_S92 ph3_S92 bb_x91 c100 hiv126 mo154 ph2_S128 ph3_S128 mo155 r_kv148 ph2_S138 q_x149 c156 r_x160 q_x160 ex163)), (by rw [← d_x149, ← d_kv142]; exact (qr353 hiv4 hiv6 hO r_kv8 r_kv9 r_kv10 hnf r_x12 ph0_S14 mo35 mo36 ph0_S22 mo37 mo38 hiv29 ph0_S31 ph1_S31 i1u40 p_k0u40 mo150 mo151 mo152 p_k5u40 c54 c66 hiv90 ph0_S92 mo153 ph3_S92 bb_x91 c100 ph0_S128 mo154 ph3_S128 ph0_S138 mo155 q_x149 c156 r_x160 q_x160 ex163))⟩ (mu_up (qr354 hiv4 r_kv8 r_kv9 r_kv10 hnf r_x12 mo35 mo36 mo37 mo38 ph1_S31 i1u40 p_k0u40 mo150 mo151 mo152 c54 c66 mo153 ph3_S92 bb_x91 c100 mo154 ph3_S128 mo155 q_x149 c156 r_x160 q_x160 ex163) (qr355 hiv4 r_kv8 r_kv9 r_kv10 hnf r_x12 mo35 mo36 mo37 mo38 ph1_S31 i1u40 p_k0u40 mo150 mo151 mo152 c54 c66 mo153 ph3_S92 bb_x91 c100 mo154 ph3_S128 mo155 q_x149 c156 r_x160 q_x160 ex163))
        · exact hq _ hI g0 f0 ⟨hG, hn, (by have t : x149 = 5 → 0 < kv142 := (qr356 hiv4 hiv6 hO r_kv8 r_kv9 r_kv10 hnf r_x12 ph0_S14 mo35 mo36 ph0_S22 mo37 mo38 hiv29 ph0_S31 ph1_S31 i1u40 p_k0u40 mo150 mo151 mo152 p_k5u40 c54 c66 hiv90 ph0_S92 mo153 ph3_S92 bb_x91 c100 ph0_S128 mo154 ph3_S128 ph0_S138 mo155 q_x149 c156); rw [d_x149, d_kv142] at t; exact t), (by have t : x149 = 5 ∨ ¬ iv4 = 5 := (qr357 hiv4 r_kv8 r_kv9 r_kv10 hnf r_x12 mo35 mo36 mo37 mo38 ph1_S31 i1u40 p_k0u40 mo150 mo151 mo152 c54 c66 mo153 ph3_S92 bb_x91 c100 mo154 ph3_S128 mo155 q_x149 c156); rw [di_9, d_x149] at t; exact t), (by have t : iv2 ≤ kv148 ∧ (x149 = 4 → iv2 < kv148 ∨ iv4 = 4) := (qr358 r_kv1 hiv2 hiv4 r_kv8 r_kv9 r_kv10 hnf r_x12 mo35 r_kv19 ph2_S14 mo36 hiv20 mo37 ph2_S22 mo38 ph1_S31 r_kv39 ph2_S31 i1u40 p_k0u40 mo150 mo151 mo152 p_k4u40 c54 c66 mo153 r_kv99 ph2_S92 ph3_S92 bb_x91 c100 hiv126 mo154 ph2_S128 ph3_S128 mo155 r_kv148 ph2_S138 q_x149 c156); rw [di_8, di_9, d_kv148, d_x149] at t; exact t)⟩
end
section
set_option maxHeartbeats 4000000 in
set_option maxRecDepth 20000 in
theorem m_X11_readWalker {v0 : Nat} {Q : HS → Prop} {S : HS} (hI : IV S) (o_v0 : ob S v0 11)    (hG : RG S v0) (hn : RN S v0) (hO : fI S v0 9 = 5 → 0 < fI S v0 13) (hq : ∀ (T : HS), IV T → Gr S T → FRI [(10, 4), (10, 6), (11, 8), (11, 9), (11, 10), (11, 11), (11, 12), (11, 13), (11, 14)] [] S T → (RG T v0) ∧ (RN T v0) ∧ (fI T v0 9 = 5 → 0 < fI T v0 13) ∧ (fI T v0 9 = 5 ∨ ¬ fI S v0 9 = 5) ∧ (fI S v0 8 ≤ fI T v0 8 ∧ (fI T v0 9 = 4 → fI S v0 8 < fI T v0 8 ∨ fI S v0 9 = 4)) → Q T) : P_X11_readWalker v0 Q S := by
  have g0 := gr_rf S
  have f0 := fri_rf [(10, 4), (10, 6), (11, 8), (11, 9), (11, 10), (11, 11), (11, 12), (11, 13), (11, 14)] [] S
  obtain ⟨kv1, d_kv1⟩ : ∃ z : Int32, z = fI S v0 8 := ⟨_, rfl⟩
  have r_kv1 : (0 : Int32) ≤ kv1 ∧ kv1 ≤ (900 : Int32) := by rw [d_kv1]; exact nu 25 rfl hI o_v0
  obtain ⟨iv2, hiv2⟩ : ∃ z : Int32, z = kv1 := ⟨_, rfl⟩
  have di_8 := hiv2.trans d_kv1
  obtain ⟨kv3, d_kv3⟩ : ∃ z : Int32, z = fI S v0 9 := ⟨_, rfl⟩
  obtain ⟨iv4, hiv4⟩ : ∃ z : Int32, z = kv3 := ⟨_, rfl⟩
  have di_9 := hiv4.trans d_kv3
  obtain ⟨kv5, d_kv5⟩ : ∃ z : Int32, z = fI S v0 13 := ⟨_, rfl⟩
  obtain ⟨iv6, hiv6⟩ : ∃ z : Int32, z = kv5 := ⟨_, rfl⟩
  have di_13 := hiv6.trans d_kv5
  have hO : iv4 = 5 → 0 < iv6 := by rw [di_9, di_13]; exact hO
  obtain ⟨a7, ea7, o_a7, -⟩ := id hG
  obtain ⟨kv8, d_kv8⟩ : ∃ z : Int32, z = fI S a7 6 := ⟨_, rfl⟩
  have r_kv8 : (0 : Int32) ≤ kv8 ∧ kv8 ≤ (12 : Int32) := by rw [d_kv8]; exact nu 22 rfl hI o_a7
  obtain ⟨kv9, d_kv9⟩ : ∃ z : Int32, z = fI S a7 2 := ⟨_, rfl⟩
  have r_kv9 : (0 : Int32) ≤ kv9 ∧ kv9 ≤ (8 : Int32) := by rw [d_kv9]; exact nu 18 rfl hI o_a7
  obtain ⟨kv10, d_kv10⟩ : ∃ z : Int32, z = fI S a7 4 := ⟨_, rfl⟩
  have r_kv10 : (0 : Int32) ≤ kv10 ∧ kv10 ≤ (4 : Int32) := by rw [d_kv10]; exact nu 20 rfl hI o_a7
  have hnf : kv8 = kv9 + kv10 := by rw [d_kv8, d_kv9, d_kv10]; exact hn _ ea7
  refine u_X11_readWalker ?_
  refine u_X11_readWalker_0 ?_
  refine ⟨o_v0, ?_⟩
  refine ⟨a7, ea7, ?_⟩
  refine ⟨o_a7, ?_⟩
  intro x12 ex12
  have r_x12 : (0 : Int32) ≤ x12 ∧ x12 ≤ (4 : Int32) := by rw [ex12]; exact nu 20 rfl hI o_a7
  have q_x12 : x12 = kv10 := ex12.trans d_kv10.symm
  have d_x12 := ex12
  have do12_kv1 := d_kv1
  have do12_kv3 := d_kv3
  have do12_kv5 := d_kv5
  refine m_X11_begins hI o_v0 hG (by have t : kv3 = 5 → 0 < kv5 := (qr1 hiv4 hiv6 hO); rw [d_kv3, d_kv5] at t; exact t) (fun S14 hJ g15 fc16 p_S14 => ?_)
  obtain ⟨hG, pg0_S14, pg1_S14, pg2_S14, pg3_S14⟩ := p_S14
  have hn := rn_fr fc16 g15 hI o_v0 (by decide) hn
  have hI := hJ
  have d_kv8 := d_kv8.trans (fri_at fc16 (by decide) (by decide) o_a7).symm
  have d_kv9 := d_kv9.trans (fri_at fc16 (by decide) (by decide) o_a7).symm
  have d_x12 := d_x12.trans (fri_at fc16 (by decide) (by decide) o_a7).symm
  have ea7 := (frr_at fc16 (by decide) (by decide) o_v0).trans ea7
  have f0 := fri_tr (S := S) g0 f0 fc16 (by decide) (by decide)
  have o_a7 := gr_ob g15 o_a7
  have o_v0 := gr_ob g15 o_v0
  have g0 := gr_tr (T := S) g0 g15
  obtain ⟨kv17, d_kv17⟩ : ∃ z : Int32, z = fI S14 v0 9 := ⟨_, rfl⟩
  obtain ⟨kv18, d_kv18⟩ : ∃ z : Int32, z = fI S14 v0 13 := ⟨_, rfl⟩
  have ph0_S14 : kv17 = 5 → 0 < kv18 := by rw [d_kv17, d_kv18]; exact pg0_S14
  have ph1_S14 : kv17 = 5 ∨ ¬ kv3 = 5 := by rw [do12_kv3, d_kv17]; exact pg1_S14
  obtain ⟨kv19, d_kv19⟩ : ∃ z : Int32, z = fI S14 v0 8 := ⟨_, rfl⟩
  have r_kv19 : (0 : Int32) ≤ kv19 ∧ kv19 ≤ (900 : Int32) := by rw [d_kv19]; exact nu 25 rfl hI o_v0
  have ph2_S14 : kv1 ≤ kv19 ∧ (kv17 = 4 → kv1 < kv19 ∨ kv3 = 4) := by rw [do12_kv1, do12_kv3, d_kv19, d_kv17]; exact pg2_S14
  have ph3_S14 : kv17 = 5 ∨ ¬ x12 = (4 : Int32) := by rw [d_kv17]; exact pg3_S14
  intro _
  have do19_kv19 := d_kv19
  have do19_kv17 := d_kv17
  have do19_kv18 := d_kv18
  refine m_X11_readFresh hI o_v0 hG (by have t : kv17 = 5 → 0 < kv18 := (qr82 hiv4 hiv6 hO r_kv8 r_kv9 r_kv10 hnf r_x12 q_x12 ph0_S14 ph1_S14 ph3_S14); rw [d_kv17, d_kv18] at t; exact t) (fun x20 S21 hJ g22 fc23 p_x20 => ?_)
  obtain ⟨hG, pg0_S21, pg1_S21, pg2_S21⟩ := p_x20
  have hn := rn_fr fc23 g22 hI o_v0 (by decide) hn
  have hI := hJ
  have d_kv8 := d_kv8.trans (fri_at fc23 (by decide) (by decide) o_a7).symm
  have d_kv9 := d_kv9.trans (fri_at fc23 (by decide) (by decide) o_a7).symm
  have d_x12 := d_x12.trans (fri_at fc23 (by decide) (by decide) o_a7).symm
  have ea7 := (frr_at fc23 (by decide) (by decide) o_v0).trans ea7
  have f0 := fri_tr (S := S14) g0 f0 fc23 (by decide) (by decide)
  have o_a7 := gr_ob g22 o_a7
  have o_v0 := gr_ob g22 o_v0
  have g0 := gr_tr (T := S14) g0 g22
  obtain ⟨kv24, d_kv24⟩ : ∃ z : Int32, z = fI S21 v0 9 := ⟨_, rfl⟩
  obtain ⟨kv25, d_kv25⟩ : ∃ z : Int32, z = fI S21 v0 13 := ⟨_, rfl⟩
  have ph0_S21 : kv24 = 5 → 0 < kv25 := by rw [d_kv24, d_kv25]; exact pg0_S21
  have ph1_S21 : kv24 = 5 ∨ ¬ kv17 = 5 := by rw [do19_kv17, d_kv24]; exact pg1_S21
  have mo26 : kv24 = 5 ∨ ¬ kv3 = 5 := ph1_S21.elim Or.inl (fun h => Or.inr (ph1_S14.resolve_left h))
  have mo27 : kv24 = 5 ∨ ¬ x12 = (4 : Int32) := ph1_S21.elim Or.inl (fun h => Or.inr (ph3_S14.resolve_left h))
  obtain ⟨kv28, d_kv28⟩ : ∃ z : Int32, z = fI S21 v0 8 := ⟨_, rfl⟩
  have r_kv28 : (0 : Int32) ≤ kv28 ∧ kv28 ≤ (900 : Int32) := by rw [d_kv28]; exact nu 25 rfl hI o_v0
  have ph2_S21 : kv19 ≤ kv28 ∧ (kv24 = 4 → kv19 < kv28 ∨ kv17 = 4) := by rw [do19_kv19, do19_kv17, d_kv28, d_kv24]; exact pg2_S21
  intro _
  refine m_X11_isWord hI o_v0 (by decide) (fun x29 S30 hI2 g31 b_x29 p_x29 => ?_)
  obtain ⟨z_S30, p_x29⟩ := p_x29
  subst z_S30
  intro _ _
  have bb_x29 : x29 = 0 ∨ x29 = 1 := b_x29
  have iw_x29 : x29 = 0 ∨ kv24 = 2 := by rw [d_kv24]; exact p_x29
  refine ⟨fun c33 => ?_, fun c33 => ?_⟩
  · refine m_X11_isWord hI o_v0 (by decide) (fun x34 S35 hI2 g36 b_x34 p_x34 => ?_)
    obtain ⟨z_S35, p_x34⟩ := p_x34
    subst z_S35
    intro _ _
    have bb_x34 : x34 = 0 ∨ x34 = 1 := b_x34
    have iw_x34 : x34 = 0 ∨ kv24 = 2 := by rw [d_kv24]; exact p_x34
    refine ⟨fun c38 => ?_, fun c38 => ?_⟩
    · refine m_X11_isWord hI o_v0 (by decide) (fun x39 S40 hI2 g41 b_x39 p_x39 => ?_)
      obtain ⟨z_S40, p_x39⟩ := p_x39
      subst z_S40
      intro _ _
      have bb_x39 : x39 = 0 ∨ x39 = 1 := b_x39
      have iw_x39 : x39 = 0 ∨ kv24 = 2 := by rw [d_kv24]; exact p_x39
      refine ⟨fun c43 => ?_, fun c43 => ?_⟩
      · refine m_X11_isWord hI o_v0 (by decide) (fun x44 S45 hI2 g46 b_x44 p_x44 => ?_)
        obtain ⟨z_S45, p_x44⟩ := p_x44
        subst z_S45
        intro _ _
        have bb_x44 : x44 = 0 ∨ x44 = 1 := b_x44
        have iw_x44 : x44 = 0 ∨ kv24 = 2 := by rw [d_kv24]; exact p_x44
        refine ⟨fun c48 => ?_, fun c48 => ?_⟩
        · refine u_X11_readWalker_74 ?_
          refine ⟨fun c49 => absurd (show ¬ (-1 : Int32) = (-1 : Int32) from c49) (by decide), fun c49 => ?_⟩
          refine ⟨o_v0, ?_⟩
          obtain ⟨iv50, hiv50⟩ : ∃ z : Int32, z = kv28 := ⟨_, rfl⟩
          have d_iv50 := hiv50.trans d_kv28
          have do50_iv50 := d_iv50
          have do50_kv24 := d_kv24
          have do50_kv25 := d_kv25
          refine m_X11_flaw hI o_v0 (qr83 hiv4 r_kv8 r_kv9 r_kv10 hnf r_x12 q_x12 mo26 mo27 ph1_S21 bb_x29 iw_x29 c33 bb_x34 iw_x34 c38 bb_x39 iw_x39 c43 bb_x44 iw_x44 c48) hG (by have t : kv24 = 5 → 0 < kv25 := (qr84 hiv4 hiv6 hO r_kv8 r_kv9 r_kv10 hnf r_x12 q_x12 ph0_S14 mo26 mo27 ph0_S21 ph1_S21 bb_x29 iw_x29 c33 bb_x34 iw_x34 c38 bb_x39 iw_x39 c43 bb_x44 iw_x44 c48); rw [d_kv24, d_kv25] at t; exact t) (fun S52 hJ g53 fc54 p_S52 => ?_)
          obtain ⟨hG, pg0_S52, pg1_S52, pg2_S52, pg3_S52⟩ := p_S52
          have hn := rn_fr fc54 g53 hI o_v0 (by decide) hn
          have hI := hJ
          have d_kv8 := d_kv8.trans (fri_at fc54 (by decide) (by decide) o_a7).symm
          have d_kv9 := d_kv9.trans (fri_at fc54 (by decide) (by decide) o_a7).symm
          have d_x12 := d_x12.trans (fri_at fc54 (by decide) (by decide) o_a7).symm
          have d_kv28 := d_kv28.trans (fri_at fc54 (by decide) (by decide) o_v0).symm
          have ea7 := (frr_at fc54 (by decide) (by decide) o_v0).trans ea7
          have f0 := fri_tr (S := S21) g0 f0 fc54 (by decide) (by decide)
          have o_a7 := gr_ob g53 o_a7
          have o_v0 := gr_ob g53 o_v0
          have g0 := gr_tr (T := S21) g0 g53
          obtain ⟨kv55, d_kv55⟩ : ∃ z : Int32, z = fI S52 v0 9 := ⟨_, rfl⟩
          obtain ⟨kv56, d_kv56⟩ : ∃ z : Int32, z = fI S52 v0 13 := ⟨_, rfl⟩
          have ph0_S52 : kv55 = 5 → 0 < kv56 := by rw [d_kv55, d_kv56]; exact pg0_S52
          have ph1_S52 : kv55 = 5 ∨ ¬ kv24 = 5 := by rw [do50_kv24, d_kv55]; exact pg1_S52
          have mo57 : kv55 = 5 ∨ ¬ kv3 = 5 := ph1_S52.elim Or.inl (fun h => Or.inr (mo26.resolve_left h))
          have mo58 : kv55 = 5 ∨ ¬ x12 = (4 : Int32) := ph1_S52.elim Or.inl (fun h => Or.inr (mo27.resolve_left h))
          have mo59 : kv55 = 5 ∨ ¬ kv17 = 5 := ph1_S52.elim Or.inl (fun h => Or.inr (ph1_S21.resolve_left h))
          have ph2_S52 : iv50 ≤ kv28 ∧ (kv55 = 4 → iv50 < kv28 ∨ kv24 = 4) := by rw [do50_iv50, do50_kv24, d_kv28, d_kv55]; exact pg2_S52
          have ph3_S52 : kv55 = 5 := by rw [d_kv55]; exact pg3_S52
          intro _
          refine u_X11_readWalker_85 ?_
          refine ⟨o_v0, ?_⟩
          obtain ⟨iv60, hiv60⟩ : ∃ z : Int32, z = kv56 := ⟨_, rfl⟩
          have d_iv60 := hiv60.trans d_kv56
          have do60_kv28 := d_kv28
          have do60_kv55 := d_kv55
          have do60_iv60 := d_iv60
          refine m_X11_goesOn hI o_v0 hG (by have t : kv55 = 5 → 0 < kv56 := (qr85 hiv4 hiv6 hO r_kv8 r_kv9 r_kv10 hnf r_x12 q_x12 ph0_S14 mo57 mo58 ph0_S21 mo59 bb_x29 iw_x29 c33 bb_x34 iw_x34 c38 bb_x39 iw_x39 c43 bb_x44 iw_x44 c48 ph0_S52 ph1_S52 ph3_S52); rw [d_kv55, d_kv56] at t; exact t) (fun S62 hJ g63 fc64 p_S62 => ?_)
          obtain ⟨hG, pg0_S62, pg1_S62, pg2_S62⟩ := p_S62
          have hn := rn_fr fc64 g63 hI o_v0 (by decide) hn
          have hI := hJ
          have d_kv8 := d_kv8.trans (fri_at fc64 (by decide) (by decide) o_a7).symm
          have d_kv9 := d_kv9.trans (fri_at fc64 (by decide) (by decide) o_a7).symm
          have d_x12 := d_x12.trans (fri_at fc64 (by decide) (by decide) o_a7).symm
          have d_kv56 := d_kv56.trans (fri_at fc64 (by decide) (by decide) o_v0).symm
          have ea7 := (frr_at fc64 (by decide) (by decide) o_v0).trans ea7
          have f0 := fri_tr (S := S52) g0 f0 fc64 (by decide) (by decide)
          have o_a7 := gr_ob g63 o_a7
          have o_v0 := gr_ob g63 o_v0
          have g0 := gr_tr (T := S52) g0 g63
          obtain ⟨kv65, d_kv65⟩ : ∃ z : Int32, z = fI S62 v0 9 := ⟨_, rfl⟩
          have ph0_S62 : kv65 = 5 → 0 < kv56 := by rw [d_kv65, d_kv56]; exact pg0_S62
          have ph1_S62 : kv65 = 5 ∨ ¬ kv55 = 5 := by rw [do60_kv55, d_kv65]; exact pg1_S62
          have mo66 : kv65 = 5 ∨ ¬ kv3 = 5 := ph1_S62.elim Or.inl (fun h => Or.inr (mo57.resolve_left h))
          have mo67 : kv65 = 5 ∨ ¬ x12 = (4 : Int32) := ph1_S62.elim Or.inl (fun h => Or.inr (mo58.resolve_left h))
          have mo68 : kv65 = 5 ∨ ¬ kv17 = 5 := ph1_S62.elim Or.inl (fun h => Or.inr (mo59.resolve_left h))
          have mo69 : kv65 = 5 ∨ ¬ kv24 = 5 := ph1_S62.elim Or.inl (fun h => Or.inr (ph1_S52.resolve_left h))
          obtain ⟨kv70, d_kv70⟩ : ∃ z : Int32, z = fI S62 v0 8 := ⟨_, rfl⟩
          have r_kv70 : (0 : Int32) ≤ kv70 ∧ kv70 ≤ (900 : Int32) := by rw [d_kv70]; exact nu 25 rfl hI o_v0
          have ph2_S62 : kv28 ≤ kv70 ∧ (kv65 = 4 → kv28 < kv70 ∨ kv55 = 4) := by rw [do60_kv28, do60_kv55, d_kv70, d_kv65]; exact pg2_S62
          intro _
          refine ⟨fun c71 => ?_, fun c71 => absurd (show (-1 : Int32) = (1 : Int32) from c71) (by decide)⟩
          refine ⟨fun c72 => ?_, fun c72 => absurd (show (-1 : Int32) = (2 : Int32) from c72) (by decide)⟩
          refine ⟨fun c73 => ?_, fun c73 => absurd (show (-1 : Int32) = (3 : Int32) from c73) (by decide)⟩
          refine u_X11_readWalker_136 ?_
          refine ⟨fun c74 => ?_, fun c74 => absurd (show (-1 : Int32) = (1 : Int32) from c74) (by decide)⟩
          refine u_X11_readWalker_149 ?_
          refine ⟨o_v0, ?_⟩
          have do74_kv70 := d_kv70
          have do74_kv65 := d_kv65
          have do74_kv56 := d_kv56
          refine m_X11_readPart hI o_v0 (by decide) hG (by have t : kv65 = 5 → 0 < kv56 := (qr86 hiv4 hiv6 hO r_kv8 r_kv9 r_kv10 hnf r_x12 q_x12 ph0_S14 mo66 mo67 ph0_S21 mo68 bb_x29 iw_x29 c33 bb_x34 iw_x34 c38 bb_x39 iw_x39 c43 bb_x44 iw_x44 c48 ph0_S52 mo69 ph3_S52 hiv60 ph0_S62 ph1_S62); rw [d_kv65, d_kv56] at t; exact t) (fun x75 S76 hJ g77 fc78 p_x75 => ?_)
          obtain ⟨hG, p_x75, pg0_S76, pg1_S76, pg2_S76⟩ := p_x75
          have hn := rn_fr fc78 g77 hI o_v0 (by decide) hn
          have hI := hJ
          have d_kv8 := d_kv8.trans (fri_at fc78 (by decide) (by decide) o_a7).symm
          have d_kv9 := d_kv9.trans (fri_at fc78 (by decide) (by decide) o_a7).symm
          have d_x12 := d_x12.trans (fri_at fc78 (by decide) (by decide) o_a7).symm
          have ea7 := (frr_at fc78 (by decide) (by decide) o_v0).trans ea7
          have f0 := fri_tr (S := S62) g0 f0 fc78 (by decide) (by decide)
          have o_a7 := gr_ob g77 o_a7
          have o_v0 := gr_ob g77 o_v0
          have g0 := gr_tr (T := S62) g0 g77
          obtain ⟨kv79, d_kv79⟩ : ∃ z : Int32, z = fI S76 v0 9 := ⟨_, rfl⟩
          obtain ⟨kv80, d_kv80⟩ : ∃ z : Int32, z = fI S76 v0 13 := ⟨_, rfl⟩
          have ph0_S76 : kv79 = 5 → 0 < kv80 := by rw [d_kv79, d_kv80]; exact pg0_S76
          have ph1_S76 : kv79 = 5 ∨ ¬ kv65 = 5 := by rw [do74_kv65, d_kv79]; exact pg1_S76
          have mo81 : kv79 = 5 ∨ ¬ kv3 = 5 := ph1_S76.elim Or.inl (fun h => Or.inr (mo66.resolve_left h))
          have mo82 : kv79 = 5 ∨ ¬ x12 = (4 : Int32) := ph1_S76.elim Or.inl (fun h => Or.inr (mo67.resolve_left h))
          have mo83 : kv79 = 5 ∨ ¬ kv17 = 5 := ph1_S76.elim Or.inl (fun h => Or.inr (mo68.resolve_left h))
          have mo84 : kv79 = 5 ∨ ¬ kv24 = 5 := ph1_S76.elim Or.inl (fun h => Or.inr (mo69.resolve_left h))
          have mo85 : kv79 = 5 ∨ ¬ kv55 = 5 := ph1_S76.elim Or.inl (fun h => Or.inr (ph1_S62.resolve_left h))
          obtain ⟨kv86, d_kv86⟩ : ∃ z : Int32, z = fI S76 v0 8 := ⟨_, rfl⟩
          have r_kv86 : (0 : Int32) ≤ kv86 ∧ kv86 ≤ (900 : Int32) := by rw [d_kv86]; exact nu 25 rfl hI o_v0
          have ph2_S76 : kv70 ≤ kv86 ∧ (kv79 = 4 → kv70 < kv86 ∨ kv65 = 4) := by rw [do74_kv70, do74_kv65, d_kv86, d_kv79]; exact pg2_S76
          intro _
          have do86_kv86 := d_kv86
          have do86_kv79 := d_kv79
          have do86_kv80 := d_kv80
          refine m_X11_readPart hI o_v0 (by decide) hG (by have t : kv79 = 5 → 0 < kv80 := (qr87 hiv4 hiv6 hO r_kv8 r_kv9 r_kv10 hnf r_x12 q_x12 ph0_S14 mo81 mo82 ph0_S21 mo83 bb_x29 iw_x29 c33 bb_x34 iw_x34 c38 bb_x39 iw_x39 c43 bb_x44 iw_x44 c48 ph0_S52 mo84 ph3_S52 hiv60 ph0_S62 mo85 ph0_S76 ph1_S76); rw [d_kv79, d_kv80] at t; exact t) (fun x87 S88 hJ g89 fc90 p_x87 => ?_)
          obtain ⟨hG, p_x87, pg0_S88, pg1_S88, pg2_S88⟩ := p_x87
          have hn := rn_fr fc90 g89 hI o_v0 (by decide) hn
          have hI := hJ
          have d_kv8 := d_kv8.trans (fri_at fc90 (by decide) (by decide) o_a7).symm
          have d_kv9 := d_kv9.trans (fri_at fc90 (by decide) (by decide) o_a7).symm
          have d_x12 := d_x12.trans (fri_at fc90 (by decide) (by decide) o_a7).symm
          have ea7 := (frr_at fc90 (by decide) (by decide) o_v0).trans ea7
          have f0 := fri_tr (S := S76) g0 f0 fc90 (by decide) (by decide)
          have o_a7 := gr_ob g89 o_a7
          have o_v0 := gr_ob g89 o_v0
          have g0 := gr_tr (T := S76) g0 g89
          obtain ⟨kv91, d_kv91⟩ : ∃ z : Int32, z = fI S88 v0 9 := ⟨_, rfl⟩
          obtain ⟨kv92, d_kv92⟩ : ∃ z : Int32, z = fI S88 v0 13 := ⟨_, rfl⟩
          have ph0_S88 : kv91 = 5 → 0 < kv92 := by rw [d_kv91, d_kv92]; exact pg0_S88
          have ph1_S88 : kv91 = 5 ∨ ¬ kv79 = 5 := by rw [do86_kv79, d_kv91]; exact pg1_S88
          have mo93 : kv91 = 5 ∨ ¬ kv3 = 5 := ph1_S88.elim Or.inl (fun h => Or.inr (mo81.resolve_left h))
          have mo94 : kv91 = 5 ∨ ¬ x12 = (4 : Int32) := ph1_S88.elim Or.inl (fun h => Or.inr (mo82.resolve_left h))
          have mo95 : kv91 = 5 ∨ ¬ kv17 = 5 := ph1_S88.elim Or.inl (fun h => Or.inr (mo83.resolve_left h))
          have mo96 : kv91 = 5 ∨ ¬ kv24 = 5 := ph1_S88.elim Or.inl (fun h => Or.inr (mo84.resolve_left h))
          have mo97 : kv91 = 5 ∨ ¬ kv55 = 5 := ph1_S88.elim Or.inl (fun h => Or.inr (mo85.resolve_left h))
          have mo98 : kv91 = 5 ∨ ¬ kv65 = 5 := ph1_S88.elim Or.inl (fun h => Or.inr (ph1_S76.resolve_left h))
          obtain ⟨kv99, d_kv99⟩ : ∃ z : Int32, z = fI S88 v0 8 := ⟨_, rfl⟩
          have r_kv99 : (0 : Int32) ≤ kv99 ∧ kv99 ≤ (900 : Int32) := by rw [d_kv99]; exact nu 25 rfl hI o_v0
          have ph2_S88 : kv86 ≤ kv99 ∧ (kv91 = 4 → kv86 < kv99 ∨ kv79 = 4) := by rw [do86_kv86, do86_kv79, d_kv99, d_kv91]; exact pg2_S88
          intro _
          have do99_kv99 := d_kv99
          have do99_kv91 := d_kv91
          have do99_kv92 := d_kv92
          refine m_X11_readPart hI o_v0 (by decide) hG (by have t : kv91 = 5 → 0 < kv92 := (qr88 hiv4 hiv6 hO r_kv8 r_kv9 r_kv10 hnf r_x12 q_x12 ph0_S14 mo93 mo94 ph0_S21 mo95 bb_x29 iw_x29 c33 bb_x34 iw_x34 c38 bb_x39 iw_x39 c43 bb_x44 iw_x44 c48 ph0_S52 mo96 ph3_S52 hiv60 ph0_S62 mo97 ph0_S76 mo98 ph0_S88 ph1_S88); rw [d_kv91, d_kv92] at t; exact t) (fun x100 S101 hJ g102 fc103 p_x100 => ?_)
          obtain ⟨hG, p_x100, pg0_S101, pg1_S101, pg2_S101⟩ := p_x100
          have hn := rn_fr fc103 g102 hI o_v0 (by decide) hn
          have hI := hJ
          have d_kv8 := d_kv8.trans (fri_at fc103 (by decide) (by decide) o_a7).symm
          have d_kv9 := d_kv9.trans (fri_at fc103 (by decide) (by decide) o_a7).symm
          have d_x12 := d_x12.trans (fri_at fc103 (by decide) (by decide) o_a7).symm
          have ea7 := (frr_at fc103 (by decide) (by decide) o_v0).trans ea7
          have f0 := fri_tr (S := S88) g0 f0 fc103 (by decide) (by decide)
          have o_a7 := gr_ob g102 o_a7
          have o_v0 := gr_ob g102 o_v0
          have g0 := gr_tr (T := S88) g0 g102
          obtain ⟨kv104, d_kv104⟩ : ∃ z : Int32, z = fI S101 v0 9 := ⟨_, rfl⟩
          obtain ⟨kv105, d_kv105⟩ : ∃ z : Int32, z = fI S101 v0 13 := ⟨_, rfl⟩
          have ph0_S101 : kv104 = 5 → 0 < kv105 := by rw [d_kv104, d_kv105]; exact pg0_S101
          have ph1_S101 : kv104 = 5 ∨ ¬ kv91 = 5 := by rw [do99_kv91, d_kv104]; exact pg1_S101
          have mo106 : kv104 = 5 ∨ ¬ kv3 = 5 := ph1_S101.elim Or.inl (fun h => Or.inr (mo93.resolve_left h))
          have mo107 : kv104 = 5 ∨ ¬ x12 = (4 : Int32) := ph1_S101.elim Or.inl (fun h => Or.inr (mo94.resolve_left h))
          have mo108 : kv104 = 5 ∨ ¬ kv17 = 5 := ph1_S101.elim Or.inl (fun h => Or.inr (mo95.resolve_left h))
          have mo109 : kv104 = 5 ∨ ¬ kv24 = 5 := ph1_S101.elim Or.inl (fun h => Or.inr (mo96.resolve_left h))
          have mo110 : kv104 = 5 ∨ ¬ kv55 = 5 := ph1_S101.elim Or.inl (fun h => Or.inr (mo97.resolve_left h))
          have mo111 : kv104 = 5 ∨ ¬ kv65 = 5 := ph1_S101.elim Or.inl (fun h => Or.inr (mo98.resolve_left h))
          have mo112 : kv104 = 5 ∨ ¬ kv79 = 5 := ph1_S101.elim Or.inl (fun h => Or.inr (ph1_S88.resolve_left h))
          obtain ⟨kv113, d_kv113⟩ : ∃ z : Int32, z = fI S101 v0 8 := ⟨_, rfl⟩
          have r_kv113 : (0 : Int32) ≤ kv113 ∧ kv113 ≤ (900 : Int32) := by rw [d_kv113]; exact nu 25 rfl hI o_v0
          have ph2_S101 : kv99 ≤ kv113 ∧ (kv104 = 4 → kv99 < kv113 ∨ kv91 = 4) := by rw [do99_kv99, do99_kv91, d_kv113, d_kv104]; exact pg2_S101
          intro _
          have do113_kv113 := d_kv113
          have do113_kv104 := d_kv104
          have do113_kv105 := d_kv105
          refine m_X11_readPart hI o_v0 (by decide) hG (by have t : kv104 = 5 → 0 < kv105 := (qr89 hiv4 hiv6 hO r_kv8 r_kv9 r_kv10 hnf r_x12 q_x12 ph0_S14 mo106 mo107 ph0_S21 mo108 bb_x29 iw_x29 c33 bb_x34 iw_x34 c38 bb_x39 iw_x39 c43 bb_x44 iw_x44 c48 ph0_S52 mo109 ph3_S52 hiv60 ph0_S62 mo110 ph0_S76 mo111 ph0_S88 mo112 ph0_S101 ph1_S101); rw [d_kv104, d_kv105] at t; exact t) (fun x114 S115 hJ g116 fc117 p_x114 => ?_)
          obtain ⟨hG, p_x114, pg0_S115, pg1_S115, pg2_S115⟩ := p_x114
          have hn := rn_fr fc117 g116 hI o_v0 (by decide) hn
          have hI := hJ
          have d_kv8 := d_kv8.trans (fri_at fc117 (by decide) (by decide) o_a7).symm
          have d_kv9 := d_kv9.trans (fri_at fc117 (by decide) (by decide) o_a7).symm
          have d_x12 := d_x12.trans (fri_at fc117 (by decide) (by decide) o_a7).symm
          have ea7 := (frr_at fc117 (by decide) (by decide) o_v0).trans ea7
          have f0 := fri_tr (S := S101) g0 f0 fc117 (by decide) (by decide)
          have o_a7 := gr_ob g116 o_a7
          have o_v0 := gr_ob g116 o_v0
          have g0 := gr_tr (T := S101) g0 g116
          obtain ⟨kv118, d_kv118⟩ : ∃ z : Int32, z = fI S115 v0 9 := ⟨_, rfl⟩
          obtain ⟨kv119, d_kv119⟩ : ∃ z : Int32, z = fI S115 v0 13 := ⟨_, rfl⟩
          have ph0_S115 : kv118 = 5 → 0 < kv119 := by rw [d_kv118, d_kv119]; exact pg0_S115
          have ph1_S115 : kv118 = 5 ∨ ¬ kv104 = 5 := by rw [do113_kv104, d_kv118]; exact pg1_S115
          have mo120 : kv118 = 5 ∨ ¬ kv3 = 5 := ph1_S115.elim Or.inl (fun h => Or.inr (mo106.resolve_left h))
          have mo121 : kv118 = 5 ∨ ¬ x12 = (4 : Int32) := ph1_S115.elim Or.inl (fun h => Or.inr (mo107.resolve_left h))
          have mo122 : kv118 = 5 ∨ ¬ kv17 = 5 := ph1_S115.elim Or.inl (fun h => Or.inr (mo108.resolve_left h))
          have mo123 : kv118 = 5 ∨ ¬ kv24 = 5 := ph1_S115.elim Or.inl (fun h => Or.inr (mo109.resolve_left h))
          have mo124 : kv118 = 5 ∨ ¬ kv55 = 5 := ph1_S115.elim Or.inl (fun h => Or.inr (mo110.resolve_left h))
          have mo125 : kv118 = 5 ∨ ¬ kv65 = 5 := ph1_S115.elim Or.inl (fun h => Or.inr (mo111.resolve_left h))
          have mo126 : kv118 = 5 ∨ ¬ kv79 = 5 := ph1_S115.elim Or.inl (fun h => Or.inr (mo112.resolve_left h))
          have mo127 : kv118 = 5 ∨ ¬ kv91 = 5 := ph1_S115.elim Or.inl (fun h => Or.inr (ph1_S101.resolve_left h))
          obtain ⟨kv128, d_kv128⟩ : ∃ z : Int32, z = fI S115 v0 8 := ⟨_, rfl⟩
          have r_kv128 : (0 : Int32) ≤ kv128 ∧ kv128 ≤ (900 : Int32) := by rw [d_kv128]; exact nu 25 rfl hI o_v0
          have ph2_S115 : kv113 ≤ kv128 ∧ (kv118 = 4 → kv113 < kv128 ∨ kv104 = 4) := by rw [do113_kv113, do113_kv104, d_kv128, d_kv118]; exact pg2_S115
          intro _
          have do128_kv128 := d_kv128
          have do128_kv118 := d_kv118
          have do128_kv119 := d_kv119
          refine m_X11_readPart hI o_v0 (by decide) hG (by have t : kv118 = 5 → 0 < kv119 := (qr90 hiv4 hiv6 hO r_kv8 r_kv9 r_kv10 hnf r_x12 q_x12 ph0_S14 mo120 mo121 ph0_S21 mo122 bb_x29 iw_x29 c33 bb_x34 iw_x34 c38 bb_x39 iw_x39 c43 bb_x44 iw_x44 c48 ph0_S52 mo123 ph3_S52 hiv60 ph0_S62 mo124 ph0_S76 mo125 ph0_S88 mo126 ph0_S101 mo127 ph0_S115 ph1_S115); rw [d_kv118, d_kv119] at t; exact t) (fun x129 S130 hJ g131 fc132 p_x129 => ?_)
          obtain ⟨hG, p_x129, pg0_S130, pg1_S130, pg2_S130⟩ := p_x129
          have hn := rn_fr fc132 g131 hI o_v0 (by decide) hn
          have hI := hJ
          have d_kv8 := d_kv8.trans (fri_at fc132 (by decide) (by decide) o_a7).symm
          have d_kv9 := d_kv9.trans (fri_at fc132 (by decide) (by decide) o_a7).symm
          have d_x12 := d_x12.trans (fri_at fc132 (by decide) (by decide) o_a7).symm
          have ea7 := (frr_at fc132 (by decide) (by decide) o_v0).trans ea7
          have f0 := fri_tr (S := S115) g0 f0 fc132 (by decide) (by decide)
          have o_a7 := gr_ob g131 o_a7
          have o_v0 := gr_ob g131 o_v0
          have g0 := gr_tr (T := S115) g0 g131
          obtain ⟨kv133, d_kv133⟩ : ∃ z : Int32, z = fI S130 v0 9 := ⟨_, rfl⟩
          obtain ⟨kv134, d_kv134⟩ : ∃ z : Int32, z = fI S130 v0 13 := ⟨_, rfl⟩
          have ph0_S130 : kv133 = 5 → 0 < kv134 := by rw [d_kv133, d_kv134]; exact pg0_S130
          have ph1_S130 : kv133 = 5 ∨ ¬ kv118 = 5 := by rw [do128_kv118, d_kv133]; exact pg1_S130
          have mo135 : kv133 = 5 ∨ ¬ kv3 = 5 := ph1_S130.elim Or.inl (fun h => Or.inr (mo120.resolve_left h))
          have mo136 : kv133 = 5 ∨ ¬ x12 = (4 : Int32) := ph1_S130.elim Or.inl (fun h => Or.inr (mo121.resolve_left h))
          have mo137 : kv133 = 5 ∨ ¬ kv17 = 5 := ph1_S130.elim Or.inl (fun h => Or.inr (mo122.resolve_left h))
          have mo138 : kv133 = 5 ∨ ¬ kv24 = 5 := ph1_S130.elim Or.inl (fun h => Or.inr (mo123.resolve_left h))
          have mo139 : kv133 = 5 ∨ ¬ kv55 = 5 := ph1_S130.elim Or.inl (fun h => Or.inr (mo124.resolve_left h))
          have mo140 : kv133 = 5 ∨ ¬ kv65 = 5 := ph1_S130.elim Or.inl (fun h => Or.inr (mo125.resolve_left h))
          have mo141 : kv133 = 5 ∨ ¬ kv79 = 5 := ph1_S130.elim Or.inl (fun h => Or.inr (mo126.resolve_left h))
          have mo142 : kv133 = 5 ∨ ¬ kv91 = 5 := ph1_S130.elim Or.inl (fun h => Or.inr (mo127.resolve_left h))
          have mo143 : kv133 = 5 ∨ ¬ kv104 = 5 := ph1_S130.elim Or.inl (fun h => Or.inr (ph1_S115.resolve_left h))
          obtain ⟨kv144, d_kv144⟩ : ∃ z : Int32, z = fI S130 v0 8 := ⟨_, rfl⟩
          have r_kv144 : (0 : Int32) ≤ kv144 ∧ kv144 ≤ (900 : Int32) := by rw [d_kv144]; exact nu 25 rfl hI o_v0
          have ph2_S130 : kv128 ≤ kv144 ∧ (kv133 = 4 → kv128 < kv144 ∨ kv118 = 4) := by rw [do128_kv128, do128_kv118, d_kv144, d_kv133]; exact pg2_S130
          intro _
          intro x145 ex145
          have q_x145 : x145 = kv133 := ex145.trans d_kv133.symm
          have mo146 : x145 = 5 ∨ ¬ kv3 = 5 := mo135.imp_left (fun z => q_x145.trans z)
          have mo147 : x145 = 5 ∨ ¬ x12 = (4 : Int32) := mo136.imp_left (fun z => q_x145.trans z)
          have mo148 : x145 = 5 ∨ ¬ kv17 = 5 := mo137.imp_left (fun z => q_x145.trans z)
          have mo149 : x145 = 5 ∨ ¬ kv24 = 5 := mo138.imp_left (fun z => q_x145.trans z)
          have mo150 : x145 = 5 ∨ ¬ kv55 = 5 := mo139.imp_left (fun z => q_x145.trans z)
          have mo151 : x145 = 5 ∨ ¬ kv65 = 5 := mo140.imp_left (fun z => q_x145.trans z)
          have mo152 : x145 = 5 ∨ ¬ kv79 = 5 := mo141.imp_left (fun z => q_x145.trans z)
          have mo153 : x145 = 5 ∨ ¬ kv91 = 5 := mo142.imp_left (fun z => q_x145.trans z)
          have mo154 : x145 = 5 ∨ ¬ kv104 = 5 := mo143.imp_left (fun z => q_x145.trans z)
          have mo155 : x145 = 5 ∨ ¬ kv118 = 5 := ph1_S130.imp_left (fun z => q_x145.trans z)
          have d_x145 := ex145
          refine ⟨fun c156 => ?_, fun c156 => ?_⟩
          · refine ⟨a7, ea7, ?_⟩
            refine ⟨o_a7, ?_⟩
            intro x158 ex158
            have r_x158 : (0 : Int32) ≤ x158 ∧ x158 ≤ (4 : Int32) := by rw [ex158]; exact nu 20 rfl hI o_a7
            have q_x158 : x158 = x12 := ex158.trans d_x12.symm
            have d_x158 := ex158
            refine u_X11_names ?_
            refine u_X11_names_0 ?_
            refine ⟨o_v0, ?_⟩
            refine ⟨a7, ea7, ?_⟩
            refine ⟨o_a7, ?_⟩
            obtain ⟨a160, ea160, o_a160, l_a160⟩ := shl 50 rfl hI o_a7
            refine ⟨a160, ea160, ?_⟩
            refine ⟨a7, ea7, ?_⟩
            refine ⟨o_a7, ?_⟩
            intro x162 ex162
            have r_x162 : (0 : Int32) ≤ x162 ∧ x162 ≤ (12 : Int32) := by rw [ex162]; exact nu 22 rfl hI o_a7
            have q_x162 : x162 = kv8 := ex162.trans d_kv8.symm
            have d_x162 := ex162
            refine ⟨o_a160, ?_⟩
            have i163 : vp_in x162 (hN _ a160) := (vin l_a160 (m := 12) (by decide) (qr91 hiv4 r_kv8 r_kv9 r_kv10 hnf r_x12 q_x12 mo146 mo147 mo148 bb_x29 iw_x29 c33 bb_x34 iw_x34 c38 bb_x39 iw_x39 c43 bb_x44 iw_x44 c48 mo149 ph3_S52 mo150 mo151 mo152 mo153 mo154 mo155 q_x145 c156 r_x158 q_x158 r_x162 q_x162))
            refine ⟨i163, ?_⟩
            intro S164 eS164
            have hIn : IV S164 := by rw [eS164]; exact iv10_aJ hI o_a7 (by decide) ea160
            have hG := rg_J eS164 hG
            have hn := rn_J eS164 hn
            have hI := hIn
            have f0 := fr_J eS164 f0
            have d_x162 := rd_J eS164 d_x162
            have d_kv9 := rd_J eS164 d_kv9
            have d_x158 := rd_J eS164 d_x158
            have d_x145 := rd_J eS164 d_x145
            have d_kv134 := rd_J eS164 d_kv134
            have d_kv144 := rd_J eS164 d_kv144
            have ea7 := rf_J eS164 ea7
            have ea160 := rf_J eS164 ea160
            have l_a160 := ln_J eS164 l_a160
            have g0 := gr_J eS164 g0
            have o_a160 := ob_J eS164 o_a160
            have o_a7 := ob_J eS164 o_a7
            have o_v0 := ob_J eS164 o_v0
            refine ⟨a7, ea7, ?_⟩
            refine ⟨o_a7, ?_⟩
            obtain ⟨a166, ea166, o_a166, l_a166⟩ := shl 51 rfl hI o_a7
            refine ⟨a166, ea166, ?_⟩
            refine ⟨a7, ea7, ?_⟩
            refine ⟨o_a7, ?_⟩
            intro x168 ex168
            have r_x168 : (0 : Int32) ≤ x168 ∧ x168 ≤ (12 : Int32) := by rw [ex168]; exact nu 22 rfl hI o_a7
            have q_x168 : x168 = x162 := ex168.trans d_x162.symm
            have d_x168 := ex168
            refine ⟨o_a166, ?_⟩
            have i169 : vp_in x168 (hN _ a166) := (vin l_a166 (m := 12) (by decide) (qr92 hiv4 r_kv8 r_kv9 r_kv10 hnf r_x12 q_x12 mo146 mo147 mo148 bb_x29 iw_x29 c33 bb_x34 iw_x34 c38 bb_x39 iw_x39 c43 bb_x44 iw_x44 c48 mo149 ph3_S52 mo150 mo151 mo152 mo153 mo154 mo155 q_x145 c156 r_x158 q_x158 r_x162 q_x162 r_x168 q_x168))
            refine ⟨i169, ?_⟩
            intro S170 eS170
            have hIn : IV S170 := by rw [eS170]; exact iv10_aI hI o_a7 (rg_nw hG ea7) ea166 o_a166 (by decide)
            have hG := rg_a (jj := 29) (x := x168) eS170 hI ea7 o_a7 ea166 o_a166 (by decide) (h1_no (by decide)) (fun _ => by rw [← d_kv9, ← d_x158]; exact (qr93 hiv4 r_kv8 r_kv9 r_kv10 hnf r_x12 q_x12 mo146 mo147 mo148 bb_x29 iw_x29 c33 bb_x34 iw_x34 c38 bb_x39 iw_x39 c43 bb_x44 iw_x44 c48 mo149 ph3_S52 mo150 mo151 mo152 mo153 mo154 mo155 q_x145 c156 r_x158 q_x158 r_x162 q_x162 r_x168 q_x168)) hG
            have hn := rn_11 eS170 hI o_v0 o_a166 (by decide) hn
            have hI := hIn
            have f0 := fr_A eS170 g0 f0 o_a166 (by decide)
            have d_x168 := rd_Ik eS170 o_a166 o_a7 (by decide) d_x168
            have d_kv9 := rd_Ik eS170 o_a166 o_a7 (by decide) d_kv9
            have d_x158 := rd_Ik eS170 o_a166 o_a7 (by decide) d_x158
            have d_x145 := rd_Ik eS170 o_a166 o_v0 (by decide) d_x145
            have d_kv134 := rd_Ik eS170 o_a166 o_v0 (by decide) d_kv134
            have d_kv144 := rd_Ik eS170 o_a166 o_v0 (by decide) d_kv144
            have ea7 := rf_I eS170 ea7
            have ea160 := rf_I eS170 ea160
            have ea166 := rf_I eS170 ea166
            have l_a160 := ln_I eS170 l_a160
            have l_a166 := ln_I eS170 l_a166
            have g0 := gr_I eS170 g0
            have o_a160 := ob_I eS170 o_a160
            have o_a166 := ob_I eS170 o_a166
            have o_a7 := ob_I eS170 o_a7
            have o_v0 := ob_I eS170 o_v0
            have el171 : fI S170 a166 x168.toNatClampNeg = (1 : Int32) := by rw [eS170]; exact u2_self _ _ _ _
            refine ⟨a7, ea7, ?_⟩
            refine ⟨o_a7, ?_⟩
            obtain ⟨a173, ea173, o_a173, l_a173⟩ := shl 52 rfl hI o_a7
            refine ⟨a173, ea173, ?_⟩
            refine ⟨a7, ea7, ?_⟩
            refine ⟨o_a7, ?_⟩
            intro x175 ex175
            have r_x175 : (0 : Int32) ≤ x175 ∧ x175 ≤ (12 : Int32) := by rw [ex175]; exact nu 22 rfl hI o_a7
            have q_x175 : x175 = x168 := ex175.trans d_x168.symm
            have d_x175 := ex175
            refine ⟨o_a173, ?_⟩
            have i176 : vp_in x175 (hN _ a173) := (vin l_a173 (m := 12) (by decide) (qr94 hiv4 r_kv8 r_kv9 r_kv10 hnf r_x12 q_x12 mo146 mo147 mo148 bb_x29 iw_x29 c33 bb_x34 iw_x34 c38 bb_x39 iw_x39 c43 bb_x44 iw_x44 c48 mo149 ph3_S52 mo150 mo151 mo152 mo153 mo154 mo155 q_x145 c156 r_x158 q_x158 r_x162 q_x162 r_x168 q_x168 r_x175 q_x175))
            refine ⟨i176, ?_⟩
            intro S177 eS177
            have hIn : IV S177 := by rw [eS177]; exact iv10_aI hI o_a7 (rg_nw hG ea7) ea173 o_a173 (by decide)
            have hG := rg_a (jj := 30) (x := x175) eS177 hI ea7 o_a7 ea173 o_a173 (by decide) (h1_no (by decide)) (fun _ => by rw [← d_kv9, ← d_x158]; exact (qr95 hiv4 r_kv8 r_kv9 r_kv10 hnf r_x12 q_x12 mo146 mo147 mo148 bb_x29 iw_x29 c33 bb_x34 iw_x34 c38 bb_x39 iw_x39 c43 bb_x44 iw_x44 c48 mo149 ph3_S52 mo150 mo151 mo152 mo153 mo154 mo155 q_x145 c156 r_x158 q_x158 r_x162 q_x162 r_x168 q_x168 r_x175 q_x175)) hG
            have hn := rn_11 eS177 hI o_v0 o_a173 (by decide) hn
            have el171 := el_ar eS177 (ow_ne hI o_a7 (by decide) o_a7 (by decide) ea173 ea166 (by decide)) el171
            have hI := hIn
            have f0 := fr_A eS177 g0 f0 o_a173 (by decide)
            have d_x175 := rd_Ik eS177 o_a173 o_a7 (by decide) d_x175
            have d_kv9 := rd_Ik eS177 o_a173 o_a7 (by decide) d_kv9
            have d_x158 := rd_Ik eS177 o_a173 o_a7 (by decide) d_x158
            have d_x145 := rd_Ik eS177 o_a173 o_v0 (by decide) d_x145
            have d_kv134 := rd_Ik eS177 o_a173 o_v0 (by decide) d_kv134
            have d_kv144 := rd_Ik eS177 o_a173 o_v0 (by decide) d_kv144
            have ea7 := rf_I eS177 ea7
            have ea160 := rf_I eS177 ea160
            have ea166 := rf_I eS177 ea166
            have ea173 := rf_I eS177 ea173
            have l_a160 := ln_I eS177 l_a160
            have l_a166 := ln_I eS177 l_a166
            have l_a173 := ln_I eS177 l_a173
            have g0 := gr_I eS177 g0
            have o_a160 := ob_I eS177 o_a160
            have o_a166 := ob_I eS177 o_a166
            have o_a173 := ob_I eS177 o_a173
            have o_a7 := ob_I eS177 o_a7
            have o_v0 := ob_I eS177 o_v0
            have el178 : fI S177 a173 x175.toNatClampNeg = x158 := by rw [eS177]; exact u2_self _ _ _ _
            refine ⟨a7, ea7, ?_⟩
            refine ⟨o_a7, ?_⟩
            intro x180 ex180
            have r_x180 : (0 : Int32) ≤ x180 ∧ x180 ≤ (12 : Int32) := by rw [ex180]; exact nu 22 rfl hI o_a7
            have q_x180 : x180 = x175 := ex180.trans d_x175.symm
            have d_x180 := ex180
            intro x181 ex181
            intro S182 eS182
            have hIn : IV S182 := by rw [eS182]; exact iv10_sI hI o_a7 (rg_nw hG ea7) (nu_one (lo := (0 : Int32)) (hi := (12 : Int32)) (by decide) (qr96 hiv4 r_kv8 r_kv9 r_kv10 hnf r_x12 q_x12 mo146 mo147 mo148 bb_x29 iw_x29 c33 bb_x34 iw_x34 c38 bb_x39 iw_x39 c43 bb_x44 iw_x44 c48 mo149 ph3_S52 mo150 mo151 mo152 mo153 mo154 mo155 q_x145 c156 r_x158 q_x158 r_x162 q_x162 r_x168 q_x168 r_x175 q_x175 r_x180 q_x180 ex181))
            have hG := rg_c eS182 hI ea7 o_a7 (by decide) hG
            have el171 := el_ob eS182 o_a7 o_a166 (by decide) el171
            have el178 := el_ob eS182 o_a7 o_a173 (by decide) el178
            have hI := hIn
            have f0 := fr_I eS182 g0 f0 o_a7 (by decide)
            have d_kv9 := rd_Ij eS182 (by decide) d_kv9
            have d_x158 := rd_Ij eS182 (by decide) d_x158
            have d_x145 := rd_Ik eS182 o_a7 o_v0 (by decide) d_x145
            have d_kv134 := rd_Ik eS182 o_a7 o_v0 (by decide) d_kv134
            have d_kv144 := rd_Ik eS182 o_a7 o_v0 (by decide) d_kv144
            have d_x181 := rd_Is eS182 (rfl : x181 = x181)
            have ea7 := rf_I eS182 ea7
            have ea160 := rf_I eS182 ea160
            have ea166 := rf_I eS182 ea166
            have ea173 := rf_I eS182 ea173
            have l_a160 := ln_I eS182 l_a160
            have l_a166 := ln_I eS182 l_a166
            have l_a173 := ln_I eS182 l_a173
            have g0 := gr_I eS182 g0
            have o_a160 := ob_I eS182 o_a160
            have o_a166 := ob_I eS182 o_a166
            have o_a173 := ob_I eS182 o_a173
            have o_a7 := ob_I eS182 o_a7
            have o_v0 := ob_I eS182 o_v0
            intro _
            refine ⟨a7, ea7, ?_⟩
            refine ⟨o_a7, ?_⟩
            obtain ⟨a184, ea184, o_a184, l_a184⟩ := shl 41 rfl hI o_a7
            refine ⟨a184, ea184, ?_⟩
            refine ⟨o_a184, ?_⟩
            have i185 : vp_in x158 (hN _ a184) := (vin l_a184 (m := 4) (by decide) (qr97 hiv4 r_kv8 r_kv9 r_kv10 hnf r_x12 q_x12 mo146 mo147 mo148 bb_x29 iw_x29 c33 bb_x34 iw_x34 c38 bb_x39 iw_x39 c43 bb_x44 iw_x44 c48 mo149 ph3_S52 mo150 mo151 mo152 mo153 mo154 mo155 q_x145 c156 r_x158 q_x158 r_x162 q_x162 r_x168 q_x168 r_x175 q_x175 r_x180 q_x180 ex181))
            refine ⟨i185, ?_⟩
            intro S186 eS186
            have hIn : IV S186 := by rw [eS186]; exact iv10_aI hI o_a7 (rg_nw hG ea7) ea184 o_a184 (by decide)
            have hG := rg_a (jj := 19) (x := x158) eS186 hI ea7 o_a7 ea184 o_a184 (by decide) (h1_no (by decide)) (h2_no (y := 0) (by decide)) hG
            have el171 := el_ar eS186 (ow_ne hI o_a7 (by decide) o_a7 (by decide) ea184 ea166 (by decide)) el171
            have el178 := el_ar eS186 (ow_ne hI o_a7 (by decide) o_a7 (by decide) ea184 ea173 (by decide)) el178
            have hI := hIn
            have f0 := fr_A eS186 g0 f0 o_a184 (by decide)
            have d_kv9 := rd_Ik eS186 o_a184 o_a7 (by decide) d_kv9
            have d_x158 := rd_Ik eS186 o_a184 o_a7 (by decide) d_x158
            have d_x145 := rd_Ik eS186 o_a184 o_v0 (by decide) d_x145
            have d_kv134 := rd_Ik eS186 o_a184 o_v0 (by decide) d_kv134
            have d_kv144 := rd_Ik eS186 o_a184 o_v0 (by decide) d_kv144
            have d_x181 := rd_Ik eS186 o_a184 o_a7 (by decide) d_x181
            have ea7 := rf_I eS186 ea7
            have ea160 := rf_I eS186 ea160
            have ea166 := rf_I eS186 ea166
            have ea173 := rf_I eS186 ea173
            have ea184 := rf_I eS186 ea184
            have l_a160 := ln_I eS186 l_a160
            have l_a166 := ln_I eS186 l_a166
            have l_a173 := ln_I eS186 l_a173
            have l_a184 := ln_I eS186 l_a184
            have g0 := gr_I eS186 g0
            have o_a160 := ob_I eS186 o_a160
            have o_a166 := ob_I eS186 o_a166
            have o_a173 := ob_I eS186 o_a173
            have o_a184 := ob_I eS186 o_a184
            have o_a7 := ob_I eS186 o_a7
            have o_v0 := ob_I eS186 o_v0
            refine ⟨a7, ea7, ?_⟩
            refine ⟨o_a7, ?_⟩
            obtain ⟨a188, ea188, o_a188, l_a188⟩ := shl 42 rfl hI o_a7
            refine ⟨a188, ea188, ?_⟩
            refine ⟨o_a188, ?_⟩
            have i189 : vp_in x158 (hN _ a188) := (vin l_a188 (m := 4) (by decide) (qr97 hiv4 r_kv8 r_kv9 r_kv10 hnf r_x12 q_x12 mo146 mo147 mo148 bb_x29 iw_x29 c33 bb_x34 iw_x34 c38 bb_x39 iw_x39 c43 bb_x44 iw_x44 c48 mo149 ph3_S52 mo150 mo151 mo152 mo153 mo154 mo155 q_x145 c156 r_x158 q_x158 r_x162 q_x162 r_x168 q_x168 r_x175 q_x175 r_x180 q_x180 ex181))
            refine ⟨i189, ?_⟩
            intro S190 eS190
            have hIn : IV S190 := by rw [eS190]; exact iv10_aI hI o_a7 (rg_nw hG ea7) ea188 o_a188 (by decide)
            have hG := rg_a (jj := 20) (x := x158) eS190 hI ea7 o_a7 ea188 o_a188 (by decide) (h1_no (by decide)) (h2_no (y := 0) (by decide)) hG
            have el171 := el_ar eS190 (ow_ne hI o_a7 (by decide) o_a7 (by decide) ea188 ea166 (by decide)) el171
            have el178 := el_ar eS190 (ow_ne hI o_a7 (by decide) o_a7 (by decide) ea188 ea173 (by decide)) el178
            have hI := hIn
            have f0 := fr_A eS190 g0 f0 o_a188 (by decide)
            have d_kv9 := rd_Ik eS190 o_a188 o_a7 (by decide) d_kv9
            have d_x158 := rd_Ik eS190 o_a188 o_a7 (by decide) d_x158
            have d_x145 := rd_Ik eS190 o_a188 o_v0 (by decide) d_x145
            have d_kv134 := rd_Ik eS190 o_a188 o_v0 (by decide) d_kv134
            have d_kv144 := rd_Ik eS190 o_a188 o_v0 (by decide) d_kv144
            have d_x181 := rd_Ik eS190 o_a188 o_a7 (by decide) d_x181
            have ea7 := rf_I eS190 ea7
            have ea160 := rf_I eS190 ea160
            have ea166 := rf_I eS190 ea166
            have ea173 := rf_I eS190 ea173
            have ea184 := rf_I eS190 ea184
            have ea188 := rf_I eS190 ea188
            have l_a160 := ln_I eS190 l_a160
            have l_a166 := ln_I eS190 l_a166
            have l_a173 := ln_I eS190 l_a173
            have l_a184 := ln_I eS190 l_a184
            have l_a188 := ln_I eS190 l_a188
            have g0 := gr_I eS190 g0
            have o_a160 := ob_I eS190 o_a160
            have o_a166 := ob_I eS190 o_a166
            have o_a173 := ob_I eS190 o_a173
            have o_a184 := ob_I eS190 o_a184
            have o_a188 := ob_I eS190 o_a188
            have o_a7 := ob_I eS190 o_a7
            have o_v0 := ob_I eS190 o_v0
            refine ⟨a7, ea7, ?_⟩
            refine ⟨o_a7, ?_⟩
            obtain ⟨a192, ea192, o_a192, l_a192⟩ := shl 43 rfl hI o_a7
            refine ⟨a192, ea192, ?_⟩
            refine ⟨o_a192, ?_⟩
            intro x193 ex193
            have i194 : vp_in x158 (hN _ a192) := (vin l_a192 (m := 4) (by decide) (qr97 hiv4 r_kv8 r_kv9 r_kv10 hnf r_x12 q_x12 mo146 mo147 mo148 bb_x29 iw_x29 c33 bb_x34 iw_x34 c38 bb_x39 iw_x39 c43 bb_x44 iw_x44 c48 mo149 ph3_S52 mo150 mo151 mo152 mo153 mo154 mo155 q_x145 c156 r_x158 q_x158 r_x162 q_x162 r_x168 q_x168 r_x175 q_x175 r_x180 q_x180 ex181))
            refine ⟨i194, ?_⟩
            intro S195 eS195
            have hIn : IV S195 := by rw [eS195]; exact iv10_aI hI o_a7 (rg_nw hG ea7) ea192 o_a192 (by decide)
            have hG := rg_a (jj := 21) (x := x158) eS195 hI ea7 o_a7 ea192 o_a192 (by decide) (h1_no (by decide)) (h2_no (y := 0) (by decide)) hG
            have el171 := el_ar eS195 (ow_ne hI o_a7 (by decide) o_a7 (by decide) ea192 ea166 (by decide)) el171
            have el178 := el_ar eS195 (ow_ne hI o_a7 (by decide) o_a7 (by decide) ea192 ea173 (by decide)) el178
            have hI := hIn
            have f0 := fr_A eS195 g0 f0 o_a192 (by decide)
            have d_kv9 := rd_Ik eS195 o_a192 o_a7 (by decide) d_kv9
            have d_x158 := rd_Ik eS195 o_a192 o_a7 (by decide) d_x158
            have d_x145 := rd_Ik eS195 o_a192 o_v0 (by decide) d_x145
            have d_kv134 := rd_Ik eS195 o_a192 o_v0 (by decide) d_kv134
            have d_kv144 := rd_Ik eS195 o_a192 o_v0 (by decide) d_kv144
            have d_x181 := rd_Ik eS195 o_a192 o_a7 (by decide) d_x181
            have ea7 := rf_I eS195 ea7
            have ea160 := rf_I eS195 ea160
            have ea166 := rf_I eS195 ea166
            have ea173 := rf_I eS195 ea173
            have ea184 := rf_I eS195 ea184
            have ea188 := rf_I eS195 ea188
            have ea192 := rf_I eS195 ea192
            have l_a160 := ln_I eS195 l_a160
            have l_a166 := ln_I eS195 l_a166
            have l_a173 := ln_I eS195 l_a173
            have l_a184 := ln_I eS195 l_a184
            have l_a188 := ln_I eS195 l_a188
            have l_a192 := ln_I eS195 l_a192
            have g0 := gr_I eS195 g0
            have o_a160 := ob_I eS195 o_a160
            have o_a166 := ob_I eS195 o_a166
            have o_a173 := ob_I eS195 o_a173
            have o_a184 := ob_I eS195 o_a184
            have o_a188 := ob_I eS195 o_a188
            have o_a192 := ob_I eS195 o_a192
            have o_a7 := ob_I eS195 o_a7
            have o_v0 := ob_I eS195 o_v0
            refine ⟨a7, ea7, ?_⟩
            refine ⟨o_a7, ?_⟩
            obtain ⟨a197, ea197, o_a197, l_a197⟩ := shl 44 rfl hI o_a7
            refine ⟨a197, ea197, ?_⟩
            refine ⟨o_a197, ?_⟩
            intro x198 ex198
            have i199 : vp_in x158 (hN _ a197) := (vin l_a197 (m := 4) (by decide) (qr97 hiv4 r_kv8 r_kv9 r_kv10 hnf r_x12 q_x12 mo146 mo147 mo148 bb_x29 iw_x29 c33 bb_x34 iw_x34 c38 bb_x39 iw_x39 c43 bb_x44 iw_x44 c48 mo149 ph3_S52 mo150 mo151 mo152 mo153 mo154 mo155 q_x145 c156 r_x158 q_x158 r_x162 q_x162 r_x168 q_x168 r_x175 q_x175 r_x180 q_x180 ex181))
            refine ⟨i199, ?_⟩
            intro S200 eS200
            have hIn : IV S200 := by rw [eS200]; exact iv10_aI hI o_a7 (rg_nw hG ea7) ea197 o_a197 (by decide)
            have hG := rg_a (jj := 22) (x := x158) eS200 hI ea7 o_a7 ea197 o_a197 (by decide) (h1_no (by decide)) (h2_no (y := 0) (by decide)) hG
            have el171 := el_ar eS200 (ow_ne hI o_a7 (by decide) o_a7 (by decide) ea197 ea166 (by decide)) el171
            have el178 := el_ar eS200 (ow_ne hI o_a7 (by decide) o_a7 (by decide) ea197 ea173 (by decide)) el178
            have hI := hIn
            have f0 := fr_A eS200 g0 f0 o_a197 (by decide)
            have d_kv9 := rd_Ik eS200 o_a197 o_a7 (by decide) d_kv9
            have d_x158 := rd_Ik eS200 o_a197 o_a7 (by decide) d_x158
            have d_x145 := rd_Ik eS200 o_a197 o_v0 (by decide) d_x145
            have d_kv134 := rd_Ik eS200 o_a197 o_v0 (by decide) d_kv134
            have d_kv144 := rd_Ik eS200 o_a197 o_v0 (by decide) d_kv144
            have d_x181 := rd_Ik eS200 o_a197 o_a7 (by decide) d_x181
            have ea7 := rf_I eS200 ea7
            have ea160 := rf_I eS200 ea160
            have ea166 := rf_I eS200 ea166
            have ea173 := rf_I eS200 ea173
            have ea184 := rf_I eS200 ea184
            have ea188 := rf_I eS200 ea188
            have ea192 := rf_I eS200 ea192
            have ea197 := rf_I eS200 ea197
            have l_a160 := ln_I eS200 l_a160
            have l_a166 := ln_I eS200 l_a166
            have l_a173 := ln_I eS200 l_a173
            have l_a184 := ln_I eS200 l_a184
            have l_a188 := ln_I eS200 l_a188
            have l_a192 := ln_I eS200 l_a192
            have l_a197 := ln_I eS200 l_a197
            have g0 := gr_I eS200 g0
            have o_a160 := ob_I eS200 o_a160
            have o_a166 := ob_I eS200 o_a166
            have o_a173 := ob_I eS200 o_a173
            have o_a184 := ob_I eS200 o_a184
            have o_a188 := ob_I eS200 o_a188
            have o_a192 := ob_I eS200 o_a192
            have o_a197 := ob_I eS200 o_a197
            have o_a7 := ob_I eS200 o_a7
            have o_v0 := ob_I eS200 o_v0
            refine ⟨a7, ea7, ?_⟩
            refine ⟨o_a7, ?_⟩
            obtain ⟨a202, ea202, o_a202, l_a202⟩ := shl 45 rfl hI o_a7
            refine ⟨a202, ea202, ?_⟩
            refine ⟨o_a202, ?_⟩
            intro x203 ex203
            have i204 : vp_in x158 (hN _ a202) := (vin l_a202 (m := 4) (by decide) (qr97 hiv4 r_kv8 r_kv9 r_kv10 hnf r_x12 q_x12 mo146 mo147 mo148 bb_x29 iw_x29 c33 bb_x34 iw_x34 c38 bb_x39 iw_x39 c43 bb_x44 iw_x44 c48 mo149 ph3_S52 mo150 mo151 mo152 mo153 mo154 mo155 q_x145 c156 r_x158 q_x158 r_x162 q_x162 r_x168 q_x168 r_x175 q_x175 r_x180 q_x180 ex181))
            refine ⟨i204, ?_⟩
            intro S205 eS205
            have hIn : IV S205 := by rw [eS205]; exact iv10_aI hI o_a7 (rg_nw hG ea7) ea202 o_a202 (by decide)
            have hG := rg_a (jj := 23) (x := x158) eS205 hI ea7 o_a7 ea202 o_a202 (by decide) (h1_no (by decide)) (h2_no (y := 0) (by decide)) hG
            have el171 := el_ar eS205 (ow_ne hI o_a7 (by decide) o_a7 (by decide) ea202 ea166 (by decide)) el171
            have el178 := el_ar eS205 (ow_ne hI o_a7 (by decide) o_a7 (by decide) ea202 ea173 (by decide)) el178
            have hI := hIn
            have f0 := fr_A eS205 g0 f0 o_a202 (by decide)
            have d_kv9 := rd_Ik eS205 o_a202 o_a7 (by decide) d_kv9
            have d_x158 := rd_Ik eS205 o_a202 o_a7 (by decide) d_x158
            have d_x145 := rd_Ik eS205 o_a202 o_v0 (by decide) d_x145
            have d_kv134 := rd_Ik eS205 o_a202 o_v0 (by decide) d_kv134
            have d_kv144 := rd_Ik eS205 o_a202 o_v0 (by decide) d_kv144
            have d_x181 := rd_Ik eS205 o_a202 o_a7 (by decide) d_x181
            have ea7 := rf_I eS205 ea7
            have ea160 := rf_I eS205 ea160
            have ea166 := rf_I eS205 ea166
            have ea173 := rf_I eS205 ea173
            have ea184 := rf_I eS205 ea184
            have ea188 := rf_I eS205 ea188
            have ea192 := rf_I eS205 ea192
            have ea197 := rf_I eS205 ea197
            have ea202 := rf_I eS205 ea202
            have l_a160 := ln_I eS205 l_a160
            have l_a166 := ln_I eS205 l_a166
            have l_a173 := ln_I eS205 l_a173
            have l_a184 := ln_I eS205 l_a184
            have l_a188 := ln_I eS205 l_a188
            have l_a192 := ln_I eS205 l_a192
            have l_a197 := ln_I eS205 l_a197
            have l_a202 := ln_I eS205 l_a202
            have g0 := gr_I eS205 g0
            have o_a160 := ob_I eS205 o_a160
            have o_a166 := ob_I eS205 o_a166
            have o_a173 := ob_I eS205 o_a173
            have o_a184 := ob_I eS205 o_a184
            have o_a188 := ob_I eS205 o_a188
            have o_a192 := ob_I eS205 o_a192
            have o_a197 := ob_I eS205 o_a197
            have o_a202 := ob_I eS205 o_a202
            have o_a7 := ob_I eS205 o_a7
            have o_v0 := ob_I eS205 o_v0
            refine ⟨a7, ea7, ?_⟩
            refine ⟨o_a7, ?_⟩
            obtain ⟨a207, ea207, o_a207, l_a207⟩ := shl 46 rfl hI o_a7
            refine ⟨a207, ea207, ?_⟩
            refine ⟨o_a207, ?_⟩
            have i208 : vp_in x158 (hN _ a207) := (vin l_a207 (m := 4) (by decide) (qr97 hiv4 r_kv8 r_kv9 r_kv10 hnf r_x12 q_x12 mo146 mo147 mo148 bb_x29 iw_x29 c33 bb_x34 iw_x34 c38 bb_x39 iw_x39 c43 bb_x44 iw_x44 c48 mo149 ph3_S52 mo150 mo151 mo152 mo153 mo154 mo155 q_x145 c156 r_x158 q_x158 r_x162 q_x162 r_x168 q_x168 r_x175 q_x175 r_x180 q_x180 ex181))
            refine ⟨i208, ?_⟩
            intro S209 eS209
            have hIn : IV S209 := by rw [eS209]; exact iv10_aI hI o_a7 (rg_nw hG ea7) ea207 o_a207 (by decide)
            have hG := rg_a (jj := 24) (x := x158) eS209 hI ea7 o_a7 ea207 o_a207 (by decide) (h1_one (c := 4) (lo := 1) (hi := 9) (hf := 99) (by decide) d_x158.symm) (h2_no (y := 0) (by decide)) hG
            have el171 := el_ar eS209 (ow_ne hI o_a7 (by decide) o_a7 (by decide) ea207 ea166 (by decide)) el171
            have el178 := el_ar eS209 (ow_ne hI o_a7 (by decide) o_a7 (by decide) ea207 ea173 (by decide)) el178
            have hI := hIn
            have f0 := fr_A eS209 g0 f0 o_a207 (by decide)
            have d_kv9 := rd_Ik eS209 o_a207 o_a7 (by decide) d_kv9
            have d_x158 := rd_Ik eS209 o_a207 o_a7 (by decide) d_x158
            have d_x145 := rd_Ik eS209 o_a207 o_v0 (by decide) d_x145
            have d_kv134 := rd_Ik eS209 o_a207 o_v0 (by decide) d_kv134
            have d_kv144 := rd_Ik eS209 o_a207 o_v0 (by decide) d_kv144
            have d_x181 := rd_Ik eS209 o_a207 o_a7 (by decide) d_x181
            have ea7 := rf_I eS209 ea7
            have ea160 := rf_I eS209 ea160
            have ea166 := rf_I eS209 ea166
            have ea173 := rf_I eS209 ea173
            have ea184 := rf_I eS209 ea184
            have ea188 := rf_I eS209 ea188
            have ea192 := rf_I eS209 ea192
            have ea197 := rf_I eS209 ea197
            have ea202 := rf_I eS209 ea202
            have ea207 := rf_I eS209 ea207
            have l_a160 := ln_I eS209 l_a160
            have l_a166 := ln_I eS209 l_a166
            have l_a173 := ln_I eS209 l_a173
            have l_a184 := ln_I eS209 l_a184
            have l_a188 := ln_I eS209 l_a188
            have l_a192 := ln_I eS209 l_a192
            have l_a197 := ln_I eS209 l_a197
            have l_a202 := ln_I eS209 l_a202
            have l_a207 := ln_I eS209 l_a207
            have g0 := gr_I eS209 g0
            have o_a160 := ob_I eS209 o_a160
            have o_a166 := ob_I eS209 o_a166
            have o_a173 := ob_I eS209 o_a173
            have o_a184 := ob_I eS209 o_a184
            have o_a188 := ob_I eS209 o_a188
            have o_a192 := ob_I eS209 o_a192
            have o_a197 := ob_I eS209 o_a197
            have o_a202 := ob_I eS209 o_a202
            have o_a207 := ob_I eS209 o_a207
            have o_a7 := ob_I eS209 o_a7
            have o_v0 := ob_I eS209 o_v0
            have el210 : fI S209 a207 x158.toNatClampNeg = x114 := by rw [eS209]; exact u2_self _ _ _ _
            refine ⟨a7, ea7, ?_⟩
            refine ⟨o_a7, ?_⟩
            obtain ⟨a212, ea212, o_a212, l_a212⟩ := shl 47 rfl hI o_a7
            refine ⟨a212, ea212, ?_⟩
            refine ⟨o_a212, ?_⟩
            have i213 : vp_in x158 (hN _ a212) := (vin l_a212 (m := 4) (by decide) (qr97 hiv4 r_kv8 r_kv9 r_kv10 hnf r_x12 q_x12 mo146 mo147 mo148 bb_x29 iw_x29 c33 bb_x34 iw_x34 c38 bb_x39 iw_x39 c43 bb_x44 iw_x44 c48 mo149 ph3_S52 mo150 mo151 mo152 mo153 mo154 mo155 q_x145 c156 r_x158 q_x158 r_x162 q_x162 r_x168 q_x168 r_x175 q_x175 r_x180 q_x180 ex181))
            refine ⟨i213, ?_⟩
            intro S214 eS214
            have hIn : IV S214 := by rw [eS214]; exact iv10_aI hI o_a7 (rg_nw hG ea7) ea212 o_a212 (by decide)
            have hG := rg_a (jj := 25) (x := x158) eS214 hI ea7 o_a7 ea212 o_a212 (by decide) (h1_one (c := 4) (lo := 0) (hi := 9) (hf := 99) (by decide) d_x158.symm) (h2_no (y := 0) (by decide)) hG
            have el171 := el_ar eS214 (ow_ne hI o_a7 (by decide) o_a7 (by decide) ea212 ea166 (by decide)) el171
            have el178 := el_ar eS214 (ow_ne hI o_a7 (by decide) o_a7 (by decide) ea212 ea173 (by decide)) el178
            have el210 := el_ar eS214 (ow_ne hI o_a7 (by decide) o_a7 (by decide) ea212 ea207 (by decide)) el210
            have hI := hIn
            have f0 := fr_A eS214 g0 f0 o_a212 (by decide)
            have d_kv9 := rd_Ik eS214 o_a212 o_a7 (by decide) d_kv9
            have d_x158 := rd_Ik eS214 o_a212 o_a7 (by decide) d_x158
            have d_x145 := rd_Ik eS214 o_a212 o_v0 (by decide) d_x145
            have d_kv134 := rd_Ik eS214 o_a212 o_v0 (by decide) d_kv134
            have d_kv144 := rd_Ik eS214 o_a212 o_v0 (by decide) d_kv144
            have d_x181 := rd_Ik eS214 o_a212 o_a7 (by decide) d_x181
            have ea7 := rf_I eS214 ea7
            have ea160 := rf_I eS214 ea160
            have ea166 := rf_I eS214 ea166
            have ea173 := rf_I eS214 ea173
            have ea184 := rf_I eS214 ea184
            have ea188 := rf_I eS214 ea188
            have ea192 := rf_I eS214 ea192
            have ea197 := rf_I eS214 ea197
            have ea202 := rf_I eS214 ea202
            have ea207 := rf_I eS214 ea207
            have ea212 := rf_I eS214 ea212
            have l_a160 := ln_I eS214 l_a160
            have l_a166 := ln_I eS214 l_a166
            have l_a173 := ln_I eS214 l_a173
            have l_a184 := ln_I eS214 l_a184
            have l_a188 := ln_I eS214 l_a188
            have l_a192 := ln_I eS214 l_a192
            have l_a197 := ln_I eS214 l_a197
            have l_a202 := ln_I eS214 l_a202
            have l_a207 := ln_I eS214 l_a207
            have l_a212 := ln_I eS214 l_a212
            have g0 := gr_I eS214 g0
            have o_a160 := ob_I eS214 o_a160
            have o_a166 := ob_I eS214 o_a166
            have o_a173 := ob_I eS214 o_a173
            have o_a184 := ob_I eS214 o_a184
            have o_a188 := ob_I eS214 o_a188
            have o_a192 := ob_I eS214 o_a192
            have o_a197 := ob_I eS214 o_a197
            have o_a202 := ob_I eS214 o_a202
            have o_a207 := ob_I eS214 o_a207
            have o_a212 := ob_I eS214 o_a212
            have o_a7 := ob_I eS214 o_a7
            have o_v0 := ob_I eS214 o_v0
            have el215 : fI S214 a212 x158.toNatClampNeg = x129 := by rw [eS214]; exact u2_self _ _ _ _
            refine ⟨a7, ea7, ?_⟩
            refine ⟨o_a7, ?_⟩
            intro x217 ex217
            have r_x217 : (0 : Int32) ≤ x217 ∧ x217 ≤ (4 : Int32) := by rw [ex217]; exact nu 20 rfl hI o_a7
            have q_x217 : x217 = x158 := ex217.trans d_x158.symm
            have d_x217 := ex217
            intro x218 ex218
            intro S219 eS219
            have hIn : IV S219 := by rw [eS219]; exact iv10_sI hI o_a7 (rg_nw hG ea7) (nu_one (lo := (0 : Int32)) (hi := (4 : Int32)) (by decide) (qr98 hiv4 r_kv8 r_kv9 r_kv10 hnf r_x12 q_x12 mo146 mo147 mo148 bb_x29 iw_x29 c33 bb_x34 iw_x34 c38 bb_x39 iw_x39 c43 bb_x44 iw_x44 c48 mo149 ph3_S52 mo150 mo151 mo152 mo153 mo154 mo155 q_x145 c156 r_x158 q_x158 r_x162 q_x162 r_x168 q_x168 r_x175 q_x175 r_x180 q_x180 ex181 r_x217 q_x217 ex218))
            have hG := rg_inc (c := 4) (y := x217) eS219 hI ea7 o_a7 d_x217.symm (qr99 hiv4 r_kv8 r_kv9 r_kv10 hnf r_x12 q_x12 mo146 mo147 mo148 bb_x29 iw_x29 c33 bb_x34 iw_x34 c38 bb_x39 iw_x39 c43 bb_x44 iw_x44 c48 mo149 ph3_S52 mo150 mo151 mo152 mo153 mo154 mo155 q_x145 c156 r_x158 q_x158 r_x162 q_x162 r_x168 q_x168 r_x175 q_x175 r_x180 q_x180 ex181 r_x217 q_x217 ex218) (qr100 hiv4 r_kv8 r_kv9 r_kv10 hnf r_x12 q_x12 mo146 mo147 mo148 bb_x29 iw_x29 c33 bb_x34 iw_x34 c38 bb_x39 iw_x39 c43 bb_x44 iw_x44 c48 mo149 ph3_S52 mo150 mo151 mo152 mo153 mo154 mo155 q_x145 c156 r_x158 q_x158 r_x162 q_x162 r_x168 q_x168 r_x175 q_x175 r_x180 q_x180 ex181 r_x217 q_x217 ex218) (hn_4 ea207 (by rw [show x217 = x158 from (qr105 hiv4 r_kv8 r_kv9 r_kv10 hnf r_x12 q_x12 mo146 mo147 mo148 bb_x29 iw_x29 c33 bb_x34 iw_x34 c38 bb_x39 iw_x39 c43 bb_x44 iw_x44 c48 mo149 ph3_S52 mo150 mo151 mo152 mo153 mo154 mo155 q_x145 c156 r_x158 q_x158 r_x162 q_x162 r_x168 q_x168 r_x175 q_x175 r_x180 q_x180 ex181 r_x217 q_x217 ex218), el210]; exact ⟨(qr106 hiv4 r_kv8 r_kv9 r_kv10 hnf r_x12 q_x12 mo146 mo147 mo148 bb_x29 iw_x29 c33 bb_x34 iw_x34 c38 bb_x39 iw_x39 c43 bb_x44 iw_x44 c48 mo149 ph3_S52 mo150 mo151 mo152 mo153 mo154 p_x114 mo155 p_x129 q_x145 c156 r_x158 q_x158 r_x162 q_x162 r_x168 q_x168 r_x175 q_x175 r_x180 q_x180 ex181 r_x217 q_x217 ex218), (qr107 hiv4 r_kv8 r_kv9 r_kv10 hnf r_x12 q_x12 mo146 mo147 mo148 bb_x29 iw_x29 c33 bb_x34 iw_x34 c38 bb_x39 iw_x39 c43 bb_x44 iw_x44 c48 mo149 ph3_S52 mo150 mo151 mo152 mo153 mo154 p_x114 mo155 p_x129 q_x145 c156 r_x158 q_x158 r_x162 q_x162 r_x168 q_x168 r_x175 q_x175 r_x180 q_x180 ex181 r_x217 q_x217 ex218), Or.inl rfl⟩) ea212 (by rw [show x217 = x158 from (qr105 hiv4 r_kv8 r_kv9 r_kv10 hnf r_x12 q_x12 mo146 mo147 mo148 bb_x29 iw_x29 c33 bb_x34 iw_x34 c38 bb_x39 iw_x39 c43 bb_x44 iw_x44 c48 mo149 ph3_S52 mo150 mo151 mo152 mo153 mo154 mo155 q_x145 c156 r_x158 q_x158 r_x162 q_x162 r_x168 q_x168 r_x175 q_x175 r_x180 q_x180 ex181 r_x217 q_x217 ex218), el215]; exact ⟨(qr108 hiv4 r_kv8 r_kv9 r_kv10 hnf r_x12 q_x12 mo146 mo147 mo148 bb_x29 iw_x29 c33 bb_x34 iw_x34 c38 bb_x39 iw_x39 c43 bb_x44 iw_x44 c48 mo149 ph3_S52 mo150 mo151 mo152 mo153 mo154 p_x114 mo155 p_x129 q_x145 c156 r_x158 q_x158 r_x162 q_x162 r_x168 q_x168 r_x175 q_x175 r_x180 q_x180 ex181 r_x217 q_x217 ex218), (qr109 hiv4 r_kv8 r_kv9 r_kv10 hnf r_x12 q_x12 mo146 mo147 mo148 bb_x29 iw_x29 c33 bb_x34 iw_x34 c38 bb_x39 iw_x39 c43 bb_x44 iw_x44 c48 mo149 ph3_S52 mo150 mo151 mo152 mo153 mo154 p_x114 mo155 p_x129 q_x145 c156 r_x158 q_x158 r_x162 q_x162 r_x168 q_x168 r_x175 q_x175 r_x180 q_x180 ex181 r_x217 q_x217 ex218), Or.inl rfl⟩)) (hs_4 eS219 d_x217.symm d_kv9.symm (qr99 hiv4 r_kv8 r_kv9 r_kv10 hnf r_x12 q_x12 mo146 mo147 mo148 bb_x29 iw_x29 c33 bb_x34 iw_x34 c38 bb_x39 iw_x39 c43 bb_x44 iw_x44 c48 mo149 ph3_S52 mo150 mo151 mo152 mo153 mo154 mo155 q_x145 c156 r_x158 q_x158 r_x162 q_x162 r_x168 q_x168 r_x175 q_x175 r_x180 q_x180 ex181 r_x217 q_x217 ex218) (qr100 hiv4 r_kv8 r_kv9 r_kv10 hnf r_x12 q_x12 mo146 mo147 mo148 bb_x29 iw_x29 c33 bb_x34 iw_x34 c38 bb_x39 iw_x39 c43 bb_x44 iw_x44 c48 mo149 ph3_S52 mo150 mo151 mo152 mo153 mo154 mo155 q_x145 c156 r_x158 q_x158 r_x162 q_x162 r_x168 q_x168 r_x175 q_x175 r_x180 q_x180 ex181 r_x217 q_x217 ex218) (qr101 hiv4 r_kv8 r_kv9 r_kv10 hnf r_x12 q_x12 mo146 mo147 mo148 bb_x29 iw_x29 c33 bb_x34 iw_x34 c38 bb_x39 iw_x39 c43 bb_x44 iw_x44 c48 mo149 ph3_S52 mo150 mo151 mo152 mo153 mo154 mo155 q_x145 c156 r_x158 q_x158 r_x162 q_x162 r_x168 q_x168 r_x175 q_x175 r_x180 q_x180 ex181 r_x217 q_x217 ex218) ea166 ea173 el171 (el178.trans (qr102 hiv4 r_kv8 r_kv9 r_kv10 hnf r_x12 q_x12 mo146 mo147 mo148 bb_x29 iw_x29 c33 bb_x34 iw_x34 c38 bb_x39 iw_x39 c43 bb_x44 iw_x44 c48 mo149 ph3_S52 mo150 mo151 mo152 mo153 mo154 mo155 q_x145 c156 r_x158 q_x158 r_x162 q_x162 r_x168 q_x168 r_x175 q_x175 r_x180 q_x180 ex181 r_x217 q_x217 ex218)) (qr103 hiv4 r_kv8 r_kv9 r_kv10 hnf r_x12 q_x12 mo146 mo147 mo148 bb_x29 iw_x29 c33 bb_x34 iw_x34 c38 bb_x39 iw_x39 c43 bb_x44 iw_x44 c48 mo149 ph3_S52 mo150 mo151 mo152 mo153 mo154 mo155 q_x145 c156 r_x158 q_x158 r_x162 q_x162 r_x168 q_x168 r_x175 q_x175 r_x180 q_x180 ex181 r_x217 q_x217 ex218) (qr104 hiv4 r_kv8 r_kv9 r_kv10 hnf r_x12 q_x12 mo146 mo147 mo148 bb_x29 iw_x29 c33 bb_x34 iw_x34 c38 bb_x39 iw_x39 c43 bb_x44 iw_x44 c48 mo149 ph3_S52 mo150 mo151 mo152 mo153 mo154 mo155 q_x145 c156 r_x158 q_x158 r_x162 q_x162 r_x168 q_x168 r_x175 q_x175 r_x180 q_x180 ex181 r_x217 q_x217 ex218)) hG
            have el171 := el_ob eS219 o_a7 o_a166 (by decide) el171
            have el178 := el_ob eS219 o_a7 o_a173 (by decide) el178
            have el210 := el_ob eS219 o_a7 o_a207 (by decide) el210
            have el215 := el_ob eS219 o_a7 o_a212 (by decide) el215
            have hI := hIn
            have f0 := fr_I eS219 g0 f0 o_a7 (by decide)
            have d_kv9 := rd_Ij eS219 (by decide) d_kv9
            have d_x145 := rd_Ik eS219 o_a7 o_v0 (by decide) d_x145
            have d_kv134 := rd_Ik eS219 o_a7 o_v0 (by decide) d_kv134
            have d_kv144 := rd_Ik eS219 o_a7 o_v0 (by decide) d_kv144
            have d_x181 := rd_Ij eS219 (by decide) d_x181
            have d_x218 := rd_Is eS219 (rfl : x218 = x218)
            have ea7 := rf_I eS219 ea7
            have ea160 := rf_I eS219 ea160
            have ea166 := rf_I eS219 ea166
            have ea173 := rf_I eS219 ea173
            have ea184 := rf_I eS219 ea184
            have ea188 := rf_I eS219 ea188
            have ea192 := rf_I eS219 ea192
            have ea197 := rf_I eS219 ea197
            have ea202 := rf_I eS219 ea202
            have ea207 := rf_I eS219 ea207
            have ea212 := rf_I eS219 ea212
            have l_a160 := ln_I eS219 l_a160
            have l_a166 := ln_I eS219 l_a166
            have l_a173 := ln_I eS219 l_a173
            have l_a184 := ln_I eS219 l_a184
            have l_a188 := ln_I eS219 l_a188
            have l_a192 := ln_I eS219 l_a192
            have l_a197 := ln_I eS219 l_a197
            have l_a202 := ln_I eS219 l_a202
            have l_a207 := ln_I eS219 l_a207
            have l_a212 := ln_I eS219 l_a212
            have g0 := gr_I eS219 g0
            have o_a160 := ob_I eS219 o_a160
            have o_a166 := ob_I eS219 o_a166
            have o_a173 := ob_I eS219 o_a173
            have o_a184 := ob_I eS219 o_a184
            have o_a188 := ob_I eS219 o_a188
            have o_a192 := ob_I eS219 o_a192
            have o_a197 := ob_I eS219 o_a197
            have o_a202 := ob_I eS219 o_a202
            have o_a207 := ob_I eS219 o_a207
            have o_a212 := ob_I eS219 o_a212
            have o_a7 := ob_I eS219 o_a7
            have o_v0 := ob_I eS219 o_v0
            have hn : RN S219 v0 := fun z ez => by obtain rfl : a7 = z := Option.some.inj (ea7.symm.trans ez); rw [← d_x181, ← d_kv9, ← d_x218]; exact (qr110 hiv4 r_kv8 r_kv9 r_kv10 hnf r_x12 q_x12 mo146 mo147 mo148 bb_x29 iw_x29 c33 bb_x34 iw_x34 c38 bb_x39 iw_x39 c43 bb_x44 iw_x44 c48 mo149 ph3_S52 mo150 mo151 mo152 mo153 mo154 mo155 q_x145 c156 r_x158 q_x158 r_x162 q_x162 r_x168 q_x168 r_x175 q_x175 r_x180 q_x180 ex181 r_x217 q_x217 ex218)
            exact hq _ hI g0 f0 ⟨hG, hn, (by have t : x145 = 5 → 0 < kv134 := (qr111 hiv4 hiv6 hO r_kv8 r_kv9 r_kv10 hnf r_x12 q_x12 ph0_S14 mo146 mo147 ph0_S21 mo148 bb_x29 iw_x29 c33 bb_x34 iw_x34 c38 bb_x39 iw_x39 c43 bb_x44 iw_x44 c48 ph0_S52 mo149 ph3_S52 hiv60 ph0_S62 mo150 ph0_S76 mo151 ph0_S88 mo152 ph0_S101 mo153 ph0_S115 mo154 ph0_S130 mo155 q_x145 c156 r_x158 q_x158 r_x162 q_x162 r_x168 q_x168 r_x175 q_x175 r_x180 q_x180 ex181 r_x217 q_x217 ex218); rw [d_x145, d_kv134] at t; exact t), (by have t : x145 = 5 ∨ ¬ iv4 = 5 := (qr112 hiv4 r_kv8 r_kv9 r_kv10 hnf r_x12 q_x12 mo146 mo147 mo148 bb_x29 iw_x29 c33 bb_x34 iw_x34 c38 bb_x39 iw_x39 c43 bb_x44 iw_x44 c48 mo149 ph3_S52 mo150 mo151 mo152 mo153 mo154 mo155 q_x145 c156 r_x158 q_x158 r_x162 q_x162 r_x168 q_x168 r_x175 q_x175 r_x180 q_x180 ex181 r_x217 q_x217 ex218); rw [di_9, d_x145] at t; exact t), (by have t : iv2 ≤ kv144 ∧ (x145 = 4 → iv2 < kv144 ∨ iv4 = 4) := (qr113 r_kv1 hiv2 hiv4 r_kv8 r_kv9 r_kv10 hnf r_x12 q_x12 mo146 r_kv19 ph2_S14 mo147 mo148 r_kv28 ph2_S21 bb_x29 iw_x29 c33 bb_x34 iw_x34 c38 bb_x39 iw_x39 c43 bb_x44 iw_x44 c48 hiv50 mo149 ph2_S52 ph3_S52 mo150 r_kv70 ph2_S62 mo151 r_kv86 ph2_S76 mo152 r_kv99 ph2_S88 mo153 r_kv113 ph2_S101 mo154 r_kv128 ph2_S115 mo155 r_kv144 ph2_S130 q_x145 c156 r_x158 q_x158 r_x162 q_x162 r_x168 q_x168 r_x175 q_x175 r_x180 q_x180 ex181 r_x217 q_x217 ex218); rw [di_8, di_9, d_kv144, d_x145] at t; exact t)⟩
          · exact hq _ hI g0 f0 ⟨hG, hn, (by have t : x145 = 5 → 0 < kv134 := (qr114 hiv4 hiv6 hO r_kv8 r_kv9 r_kv10 hnf r_x12 q_x12 ph0_S14 mo146 mo147 ph0_S21 mo148 bb_x29 iw_x29 c33 bb_x34 iw_x34 c38 bb_x39 iw_x39 c43 bb_x44 iw_x44 c48 ph0_S52 mo149 ph3_S52 hiv60 ph0_S62 mo150 ph0_S76 mo151 ph0_S88 mo152 ph0_S101 mo153 ph0_S115 mo154 ph0_S130 mo155 q_x145 c156); rw [d_x145, d_kv134] at t; exact t), (by have t : x145 = 5 ∨ ¬ iv4 = 5 := (qr115 hiv4 r_kv8 r_kv9 r_kv10 hnf r_x12 q_x12 mo146 mo147 mo148 bb_x29 iw_x29 c33 bb_x34 iw_x34 c38 bb_x39 iw_x39 c43 bb_x44 iw_x44 c48 mo149 ph3_S52 mo150 mo151 mo152 mo153 mo154 mo155 q_x145 c156); rw [di_9, d_x145] at t; exact t), (by have t : iv2 ≤ kv144 ∧ (x145 = 4 → iv2 < kv144 ∨ iv4 = 4) := (qr116 r_kv1 hiv2 hiv4 r_kv8 r_kv9 r_kv10 hnf r_x12 q_x12 mo146 r_kv19 ph2_S14 mo147 mo148 r_kv28 ph2_S21 bb_x29 iw_x29 c33 bb_x34 iw_x34 c38 bb_x39 iw_x39 c43 bb_x44 iw_x44 c48 hiv50 mo149 ph2_S52 ph3_S52 mo150 r_kv70 ph2_S62 mo151 r_kv86 ph2_S76 mo152 r_kv99 ph2_S88 mo153 r_kv113 ph2_S101 mo154 r_kv128 ph2_S115 mo155 r_kv144 ph2_S130 q_x145 c156); rw [di_8, di_9, d_kv144, d_x145] at t; exact t)⟩
        · refine u_X11_readWalker_74 ?_
          refine ⟨fun c220 => ?_, fun c220 => absurd (show (3 : Int32) = (-1 : Int32) from c220) (by decide)⟩
          refine u_X11_readWalker_85 ?_
          refine ⟨o_v0, ?_⟩
          obtain ⟨iv221, hiv221⟩ : ∃ z : Int32, z = kv25 := ⟨_, rfl⟩
          have d_iv221 := hiv221.trans d_kv25
          have do221_kv28 := d_kv28
          have do221_kv24 := d_kv24
          have do221_iv221 := d_iv221
          refine m_X11_goesOn hI o_v0 hG (by have t : kv24 = 5 → 0 < kv25 := (qr117 hiv4 hiv6 hO r_kv8 r_kv9 r_kv10 hnf r_x12 q_x12 ph0_S14 mo26 mo27 ph0_S21 ph1_S21 bb_x29 iw_x29 c33 bb_x34 iw_x34 c38 bb_x39 iw_x39 c43 bb_x44 iw_x44 c48); rw [d_kv24, d_kv25] at t; exact t) (fun S223 hJ g224 fc225 p_S223 => ?_)
          obtain ⟨hG, pg0_S223, pg1_S223, pg2_S223⟩ := p_S223
          have hn := rn_fr fc225 g224 hI o_v0 (by decide) hn
          have hI := hJ
          have d_kv8 := d_kv8.trans (fri_at fc225 (by decide) (by decide) o_a7).symm
          have d_kv9 := d_kv9.trans (fri_at fc225 (by decide) (by decide) o_a7).symm
          have d_x12 := d_x12.trans (fri_at fc225 (by decide) (by decide) o_a7).symm
          have d_kv25 := d_kv25.trans (fri_at fc225 (by decide) (by decide) o_v0).symm
          have ea7 := (frr_at fc225 (by decide) (by decide) o_v0).trans ea7
          have f0 := fri_tr (S := S21) g0 f0 fc225 (by decide) (by decide)
          have o_a7 := gr_ob g224 o_a7
          have o_v0 := gr_ob g224 o_v0
          have g0 := gr_tr (T := S21) g0 g224
          obtain ⟨kv226, d_kv226⟩ : ∃ z : Int32, z = fI S223 v0 9 := ⟨_, rfl⟩
          have ph0_S223 : kv226 = 5 → 0 < kv25 := by rw [d_kv226, d_kv25]; exact pg0_S223
          have ph1_S223 : kv226 = 5 ∨ ¬ kv24 = 5 := by rw [do221_kv24, d_kv226]; exact pg1_S223
          have mo227 : kv226 = 5 ∨ ¬ kv3 = 5 := ph1_S223.elim Or.inl (fun h => Or.inr (mo26.resolve_left h))
          have mo228 : kv226 = 5 ∨ ¬ x12 = (4 : Int32) := ph1_S223.elim Or.inl (fun h => Or.inr (mo27.resolve_left h))
          have mo229 : kv226 = 5 ∨ ¬ kv17 = 5 := ph1_S223.elim Or.inl (fun h => Or.inr (ph1_S21.resolve_left h))
          obtain ⟨kv230, d_kv230⟩ : ∃ z : Int32, z = fI S223 v0 8 := ⟨_, rfl⟩
          have r_kv230 : (0 : Int32) ≤ kv230 ∧ kv230 ≤ (900 : Int32) := by rw [d_kv230]; exact nu 25 rfl hI o_v0
          have ph2_S223 : kv28 ≤ kv230 ∧ (kv226 = 4 → kv28 < kv230 ∨ kv24 = 4) := by rw [do221_kv28, do221_kv24, d_kv230, d_kv226]; exact pg2_S223
          intro _
          refine ⟨fun c231 => ?_, fun c231 => absurd (show (3 : Int32) = (1 : Int32) from c231) (by decide)⟩
          refine ⟨fun c232 => ?_, fun c232 => absurd (show (3 : Int32) = (2 : Int32) from c232) (by decide)⟩
          refine ⟨fun c233 => absurd (show ¬ (3 : Int32) = (3 : Int32) from c233) (by decide), fun c233 => ?_⟩
          have do233_kv230 := d_kv230
          have do233_kv226 := d_kv226
          have do233_kv25 := d_kv25
          refine m_X11_readWhole hI o_v0 hG (by have t : kv226 = 5 → 0 < kv25 := (qr118 hiv4 hiv6 hO r_kv8 r_kv9 r_kv10 hnf r_x12 q_x12 ph0_S14 mo227 mo228 ph0_S21 mo229 bb_x29 iw_x29 c33 bb_x34 iw_x34 c38 bb_x39 iw_x39 c43 bb_x44 iw_x44 c48 hiv221 ph0_S223 ph1_S223); rw [d_kv226, d_kv25] at t; exact t) (fun x234 S235 hJ g236 fc237 p_x234 => ?_)
          obtain ⟨hG, p_x234, pg0_S235, pg1_S235, pg2_S235⟩ := p_x234
          have hn := rn_fr fc237 g236 hI o_v0 (by decide) hn
          have hI := hJ
          have d_kv8 := d_kv8.trans (fri_at fc237 (by decide) (by decide) o_a7).symm
          have d_kv9 := d_kv9.trans (fri_at fc237 (by decide) (by decide) o_a7).symm
          have d_x12 := d_x12.trans (fri_at fc237 (by decide) (by decide) o_a7).symm
          have ea7 := (frr_at fc237 (by decide) (by decide) o_v0).trans ea7
          have f0 := fri_tr (S := S223) g0 f0 fc237 (by decide) (by decide)
          have o_a7 := gr_ob g236 o_a7
          have o_v0 := gr_ob g236 o_v0
          have g0 := gr_tr (T := S223) g0 g236
          obtain ⟨kv238, d_kv238⟩ : ∃ z : Int32, z = fI S235 v0 9 := ⟨_, rfl⟩
          obtain ⟨kv239, d_kv239⟩ : ∃ z : Int32, z = fI S235 v0 13 := ⟨_, rfl⟩
          have ph0_S235 : kv238 = 5 → 0 < kv239 := by rw [d_kv238, d_kv239]; exact pg0_S235
          have ph1_S235 : kv238 = 5 ∨ ¬ kv226 = 5 := by rw [do233_kv226, d_kv238]; exact pg1_S235
          have mo240 : kv238 = 5 ∨ ¬ kv3 = 5 := ph1_S235.elim Or.inl (fun h => Or.inr (mo227.resolve_left h))
          have mo241 : kv238 = 5 ∨ ¬ x12 = (4 : Int32) := ph1_S235.elim Or.inl (fun h => Or.inr (mo228.resolve_left h))
          have mo242 : kv238 = 5 ∨ ¬ kv17 = 5 := ph1_S235.elim Or.inl (fun h => Or.inr (mo229.resolve_left h))
          have mo243 : kv238 = 5 ∨ ¬ kv24 = 5 := ph1_S235.elim Or.inl (fun h => Or.inr (ph1_S223.resolve_left h))
          obtain ⟨kv244, d_kv244⟩ : ∃ z : Int32, z = fI S235 v0 8 := ⟨_, rfl⟩
          have r_kv244 : (0 : Int32) ≤ kv244 ∧ kv244 ≤ (900 : Int32) := by rw [d_kv244]; exact nu 25 rfl hI o_v0
          have ph2_S235 : kv230 ≤ kv244 ∧ (kv238 = 4 → kv230 < kv244 ∨ kv226 = 4) := by rw [do233_kv230, do233_kv226, d_kv244, d_kv238]; exact pg2_S235
          intro _
          refine u_X11_readWalker_136 ?_
          refine ⟨fun c245 => ?_, fun c245 => absurd (show (3 : Int32) = (1 : Int32) from c245) (by decide)⟩
          refine u_X11_readWalker_149 ?_
          refine ⟨o_v0, ?_⟩
          have do245_kv244 := d_kv244
          have do245_kv238 := d_kv238
          have do245_kv239 := d_kv239
          refine m_X11_readPart hI o_v0 (by decide) hG (by have t : kv238 = 5 → 0 < kv239 := (qr119 hiv4 hiv6 hO r_kv8 r_kv9 r_kv10 hnf r_x12 q_x12 ph0_S14 mo240 mo241 ph0_S21 mo242 bb_x29 iw_x29 c33 bb_x34 iw_x34 c38 bb_x39 iw_x39 c43 bb_x44 iw_x44 c48 hiv221 ph0_S223 mo243 ph0_S235 ph1_S235); rw [d_kv238, d_kv239] at t; exact t) (fun x246 S247 hJ g248 fc249 p_x246 => ?_)
          obtain ⟨hG, p_x246, pg0_S247, pg1_S247, pg2_S247⟩ := p_x246
          have hn := rn_fr fc249 g248 hI o_v0 (by decide) hn
          have hI := hJ
          have d_kv8 := d_kv8.trans (fri_at fc249 (by decide) (by decide) o_a7).symm
          have d_kv9 := d_kv9.trans (fri_at fc249 (by decide) (by decide) o_a7).symm
          have d_x12 := d_x12.trans (fri_at fc249 (by decide) (by decide) o_a7).symm
          have ea7 := (frr_at fc249 (by decide) (by decide) o_v0).trans ea7
          have f0 := fri_tr (S := S235) g0 f0 fc249 (by decide) (by decide)
          have o_a7 := gr_ob g248 o_a7
          have o_v0 := gr_ob g248 o_v0
          have g0 := gr_tr (T := S235) g0 g248
          obtain ⟨kv250, d_kv250⟩ : ∃ z : Int32, z = fI S247 v0 9 := ⟨_, rfl⟩
          obtain ⟨kv251, d_kv251⟩ : ∃ z : Int32, z = fI S247 v0 13 := ⟨_, rfl⟩
          have ph0_S247 : kv250 = 5 → 0 < kv251 := by rw [d_kv250, d_kv251]; exact pg0_S247
          have ph1_S247 : kv250 = 5 ∨ ¬ kv238 = 5 := by rw [do245_kv238, d_kv250]; exact pg1_S247
          have mo252 : kv250 = 5 ∨ ¬ kv3 = 5 := ph1_S247.elim Or.inl (fun h => Or.inr (mo240.resolve_left h))
          have mo253 : kv250 = 5 ∨ ¬ x12 = (4 : Int32) := ph1_S247.elim Or.inl (fun h => Or.inr (mo241.resolve_left h))
          have mo254 : kv250 = 5 ∨ ¬ kv17 = 5 := ph1_S247.elim Or.inl (fun h => Or.inr (mo242.resolve_left h))
          have mo255 : kv250 = 5 ∨ ¬ kv24 = 5 := ph1_S247.elim Or.inl (fun h => Or.inr (mo243.resolve_left h))
          have mo256 : kv250 = 5 ∨ ¬ kv226 = 5 := ph1_S247.elim Or.inl (fun h => Or.inr (ph1_S235.resolve_left h))
          obtain ⟨kv257, d_kv257⟩ : ∃ z : Int32, z = fI S247 v0 8 := ⟨_, rfl⟩
          have r_kv257 : (0 : Int32) ≤ kv257 ∧ kv257 ≤ (900 : Int32) := by rw [d_kv257]; exact nu 25 rfl hI o_v0
          have ph2_S247 : kv244 ≤ kv257 ∧ (kv250 = 4 → kv244 < kv257 ∨ kv238 = 4) := by rw [do245_kv244, do245_kv238, d_kv257, d_kv250]; exact pg2_S247
          intro _
          have do257_kv257 := d_kv257
          have do257_kv250 := d_kv250
          have do257_kv251 := d_kv251
          refine m_X11_readPart hI o_v0 (by decide) hG (by have t : kv250 = 5 → 0 < kv251 := (qr120 hiv4 hiv6 hO r_kv8 r_kv9 r_kv10 hnf r_x12 q_x12 ph0_S14 mo252 mo253 ph0_S21 mo254 bb_x29 iw_x29 c33 bb_x34 iw_x34 c38 bb_x39 iw_x39 c43 bb_x44 iw_x44 c48 hiv221 ph0_S223 mo255 ph0_S235 mo256 ph0_S247 ph1_S247); rw [d_kv250, d_kv251] at t; exact t) (fun x258 S259 hJ g260 fc261 p_x258 => ?_)
          obtain ⟨hG, p_x258, pg0_S259, pg1_S259, pg2_S259⟩ := p_x258
          have hn := rn_fr fc261 g260 hI o_v0 (by decide) hn
          have hI := hJ
          have d_kv8 := d_kv8.trans (fri_at fc261 (by decide) (by decide) o_a7).symm
          have d_kv9 := d_kv9.trans (fri_at fc261 (by decide) (by decide) o_a7).symm
          have d_x12 := d_x12.trans (fri_at fc261 (by decide) (by decide) o_a7).symm
          have ea7 := (frr_at fc261 (by decide) (by decide) o_v0).trans ea7
          have f0 := fri_tr (S := S247) g0 f0 fc261 (by decide) (by decide)
          have o_a7 := gr_ob g260 o_a7
          have o_v0 := gr_ob g260 o_v0
          have g0 := gr_tr (T := S247) g0 g260
          obtain ⟨kv262, d_kv262⟩ : ∃ z : Int32, z = fI S259 v0 9 := ⟨_, rfl⟩
          obtain ⟨kv263, d_kv263⟩ : ∃ z : Int32, z = fI S259 v0 13 := ⟨_, rfl⟩
          have ph0_S259 : kv262 = 5 → 0 < kv263 := by rw [d_kv262, d_kv263]; exact pg0_S259
          have ph1_S259 : kv262 = 5 ∨ ¬ kv250 = 5 := by rw [do257_kv250, d_kv262]; exact pg1_S259
          have mo264 : kv262 = 5 ∨ ¬ kv3 = 5 := ph1_S259.elim Or.inl (fun h => Or.inr (mo252.resolve_left h))
          have mo265 : kv262 = 5 ∨ ¬ x12 = (4 : Int32) := ph1_S259.elim Or.inl (fun h => Or.inr (mo253.resolve_left h))
          have mo266 : kv262 = 5 ∨ ¬ kv17 = 5 := ph1_S259.elim Or.inl (fun h => Or.inr (mo254.resolve_left h))
          have mo267 : kv262 = 5 ∨ ¬ kv24 = 5 := ph1_S259.elim Or.inl (fun h => Or.inr (mo255.resolve_left h))
          have mo268 : kv262 = 5 ∨ ¬ kv226 = 5 := ph1_S259.elim Or.inl (fun h => Or.inr (mo256.resolve_left h))
          have mo269 : kv262 = 5 ∨ ¬ kv238 = 5 := ph1_S259.elim Or.inl (fun h => Or.inr (ph1_S247.resolve_left h))
          obtain ⟨kv270, d_kv270⟩ : ∃ z : Int32, z = fI S259 v0 8 := ⟨_, rfl⟩
          have r_kv270 : (0 : Int32) ≤ kv270 ∧ kv270 ≤ (900 : Int32) := by rw [d_kv270]; exact nu 25 rfl hI o_v0
          have ph2_S259 : kv257 ≤ kv270 ∧ (kv262 = 4 → kv257 < kv270 ∨ kv250 = 4) := by rw [do257_kv257, do257_kv250, d_kv270, d_kv262]; exact pg2_S259
          intro _
          have do270_kv270 := d_kv270
          have do270_kv262 := d_kv262
          have do270_kv263 := d_kv263
          refine m_X11_readPart hI o_v0 (by decide) hG (by have t : kv262 = 5 → 0 < kv263 := (qr121 hiv4 hiv6 hO r_kv8 r_kv9 r_kv10 hnf r_x12 q_x12 ph0_S14 mo264 mo265 ph0_S21 mo266 bb_x29 iw_x29 c33 bb_x34 iw_x34 c38 bb_x39 iw_x39 c43 bb_x44 iw_x44 c48 hiv221 ph0_S223 mo267 ph0_S235 mo268 ph0_S247 mo269 ph0_S259 ph1_S259); rw [d_kv262, d_kv263] at t; exact t) (fun x271 S272 hJ g273 fc274 p_x271 => ?_)
          obtain ⟨hG, p_x271, pg0_S272, pg1_S272, pg2_S272⟩ := p_x271
          have hn := rn_fr fc274 g273 hI o_v0 (by decide) hn
          have hI := hJ
          have d_kv8 := d_kv8.trans (fri_at fc274 (by decide) (by decide) o_a7).symm
          have d_kv9 := d_kv9.trans (fri_at fc274 (by decide) (by decide) o_a7).symm
          have d_x12 := d_x12.trans (fri_at fc274 (by decide) (by decide) o_a7).symm
          have ea7 := (frr_at fc274 (by decide) (by decide) o_v0).trans ea7
          have f0 := fri_tr (S := S259) g0 f0 fc274 (by decide) (by decide)
          have o_a7 := gr_ob g273 o_a7
          have o_v0 := gr_ob g273 o_v0
          have g0 := gr_tr (T := S259) g0 g273
          obtain ⟨kv275, d_kv275⟩ : ∃ z : Int32, z = fI S272 v0 9 := ⟨_, rfl⟩
          obtain ⟨kv276, d_kv276⟩ : ∃ z : Int32, z = fI S272 v0 13 := ⟨_, rfl⟩
          have ph0_S272 : kv275 = 5 → 0 < kv276 := by rw [d_kv275, d_kv276]; exact pg0_S272
          have ph1_S272 : kv275 = 5 ∨ ¬ kv262 = 5 := by rw [do270_kv262, d_kv275]; exact pg1_S272
          have mo277 : kv275 = 5 ∨ ¬ kv3 = 5 := ph1_S272.elim Or.inl (fun h => Or.inr (mo264.resolve_left h))
          have mo278 : kv275 = 5 ∨ ¬ x12 = (4 : Int32) := ph1_S272.elim Or.inl (fun h => Or.inr (mo265.resolve_left h))
          have mo279 : kv275 = 5 ∨ ¬ kv17 = 5 := ph1_S272.elim Or.inl (fun h => Or.inr (mo266.resolve_left h))
          have mo280 : kv275 = 5 ∨ ¬ kv24 = 5 := ph1_S272.elim Or.inl (fun h => Or.inr (mo267.resolve_left h))
          have mo281 : kv275 = 5 ∨ ¬ kv226 = 5 := ph1_S272.elim Or.inl (fun h => Or.inr (mo268.resolve_left h))
          have mo282 : kv275 = 5 ∨ ¬ kv238 = 5 := ph1_S272.elim Or.inl (fun h => Or.inr (mo269.resolve_left h))
          have mo283 : kv275 = 5 ∨ ¬ kv250 = 5 := ph1_S272.elim Or.inl (fun h => Or.inr (ph1_S259.resolve_left h))
          obtain ⟨kv284, d_kv284⟩ : ∃ z : Int32, z = fI S272 v0 8 := ⟨_, rfl⟩
          have r_kv284 : (0 : Int32) ≤ kv284 ∧ kv284 ≤ (900 : Int32) := by rw [d_kv284]; exact nu 25 rfl hI o_v0
          have ph2_S272 : kv270 ≤ kv284 ∧ (kv275 = 4 → kv270 < kv284 ∨ kv262 = 4) := by rw [do270_kv270, do270_kv262, d_kv284, d_kv275]; exact pg2_S272
          intro _
          have do284_kv284 := d_kv284
          have do284_kv275 := d_kv275
          have do284_kv276 := d_kv276
          refine m_X11_readPart hI o_v0 (by decide) hG (by have t : kv275 = 5 → 0 < kv276 := (qr122 hiv4 hiv6 hO r_kv8 r_kv9 r_kv10 hnf r_x12 q_x12 ph0_S14 mo277 mo278 ph0_S21 mo279 bb_x29 iw_x29 c33 bb_x34 iw_x34 c38 bb_x39 iw_x39 c43 bb_x44 iw_x44 c48 hiv221 ph0_S223 mo280 ph0_S235 mo281 ph0_S247 mo282 ph0_S259 mo283 ph0_S272 ph1_S272); rw [d_kv275, d_kv276] at t; exact t) (fun x285 S286 hJ g287 fc288 p_x285 => ?_)
          obtain ⟨hG, p_x285, pg0_S286, pg1_S286, pg2_S286⟩ := p_x285
          have hn := rn_fr fc288 g287 hI o_v0 (by decide) hn
          have hI := hJ
          have d_kv8 := d_kv8.trans (fri_at fc288 (by decide) (by decide) o_a7).symm
          have d_kv9 := d_kv9.trans (fri_at fc288 (by decide) (by decide) o_a7).symm
          have d_x12 := d_x12.trans (fri_at fc288 (by decide) (by decide) o_a7).symm
          have ea7 := (frr_at fc288 (by decide) (by decide) o_v0).trans ea7
          have f0 := fri_tr (S := S272) g0 f0 fc288 (by decide) (by decide)
          have o_a7 := gr_ob g287 o_a7
          have o_v0 := gr_ob g287 o_v0
          have g0 := gr_tr (T := S272) g0 g287
          obtain ⟨kv289, d_kv289⟩ : ∃ z : Int32, z = fI S286 v0 9 := ⟨_, rfl⟩
          obtain ⟨kv290, d_kv290⟩ : ∃ z : Int32, z = fI S286 v0 13 := ⟨_, rfl⟩
          have ph0_S286 : kv289 = 5 → 0 < kv290 := by rw [d_kv289, d_kv290]; exact pg0_S286
          have ph1_S286 : kv289 = 5 ∨ ¬ kv275 = 5 := by rw [do284_kv275, d_kv289]; exact pg1_S286
          have mo291 : kv289 = 5 ∨ ¬ kv3 = 5 := ph1_S286.elim Or.inl (fun h => Or.inr (mo277.resolve_left h))
          have mo292 : kv289 = 5 ∨ ¬ x12 = (4 : Int32) := ph1_S286.elim Or.inl (fun h => Or.inr (mo278.resolve_left h))
          have mo293 : kv289 = 5 ∨ ¬ kv17 = 5 := ph1_S286.elim Or.inl (fun h => Or.inr (mo279.resolve_left h))
          have mo294 : kv289 = 5 ∨ ¬ kv24 = 5 := ph1_S286.elim Or.inl (fun h => Or.inr (mo280.resolve_left h))
          have mo295 : kv289 = 5 ∨ ¬ kv226 = 5 := ph1_S286.elim Or.inl (fun h => Or.inr (mo281.resolve_left h))
          have mo296 : kv289 = 5 ∨ ¬ kv238 = 5 := ph1_S286.elim Or.inl (fun h => Or.inr (mo282.resolve_left h))
          have mo297 : kv289 = 5 ∨ ¬ kv250 = 5 := ph1_S286.elim Or.inl (fun h => Or.inr (mo283.resolve_left h))
          have mo298 : kv289 = 5 ∨ ¬ kv262 = 5 := ph1_S286.elim Or.inl (fun h => Or.inr (ph1_S272.resolve_left h))
          obtain ⟨kv299, d_kv299⟩ : ∃ z : Int32, z = fI S286 v0 8 := ⟨_, rfl⟩
          have r_kv299 : (0 : Int32) ≤ kv299 ∧ kv299 ≤ (900 : Int32) := by rw [d_kv299]; exact nu 25 rfl hI o_v0
          have ph2_S286 : kv284 ≤ kv299 ∧ (kv289 = 4 → kv284 < kv299 ∨ kv275 = 4) := by rw [do284_kv284, do284_kv275, d_kv299, d_kv289]; exact pg2_S286
          intro _
          have do299_kv299 := d_kv299
          have do299_kv289 := d_kv289
          have do299_kv290 := d_kv290
          refine m_X11_readPart hI o_v0 (by decide) hG (by have t : kv289 = 5 → 0 < kv290 := (qr123 hiv4 hiv6 hO r_kv8 r_kv9 r_kv10 hnf r_x12 q_x12 ph0_S14 mo291 mo292 ph0_S21 mo293 bb_x29 iw_x29 c33 bb_x34 iw_x34 c38 bb_x39 iw_x39 c43 bb_x44 iw_x44 c48 hiv221 ph0_S223 mo294 ph0_S235 mo295 ph0_S247 mo296 ph0_S259 mo297 ph0_S272 mo298 ph0_S286 ph1_S286); rw [d_kv289, d_kv290] at t; exact t) (fun x300 S301 hJ g302 fc303 p_x300 => ?_)
          obtain ⟨hG, p_x300, pg0_S301, pg1_S301, pg2_S301⟩ := p_x300
          have hn := rn_fr fc303 g302 hI o_v0 (by decide) hn
          have hI := hJ
          have d_kv8 := d_kv8.trans (fri_at fc303 (by decide) (by decide) o_a7).symm
          have d_kv9 := d_kv9.trans (fri_at fc303 (by decide) (by decide) o_a7).symm
          have d_x12 := d_x12.trans (fri_at fc303 (by decide) (by decide) o_a7).symm
          have ea7 := (frr_at fc303 (by decide) (by decide) o_v0).trans ea7
          have f0 := fri_tr (S := S286) g0 f0 fc303 (by decide) (by decide)
          have o_a7 := gr_ob g302 o_a7
          have o_v0 := gr_ob g302 o_v0
          have g0 := gr_tr (T := S286) g0 g302
          obtain ⟨kv304, d_kv304⟩ : ∃ z : Int32, z = fI S301 v0 9 := ⟨_, rfl⟩
          obtain ⟨kv305, d_kv305⟩ : ∃ z : Int32, z = fI S301 v0 13 := ⟨_, rfl⟩
          have ph0_S301 : kv304 = 5 → 0 < kv305 := by rw [d_kv304, d_kv305]; exact pg0_S301
          have ph1_S301 : kv304 = 5 ∨ ¬ kv289 = 5 := by rw [do299_kv289, d_kv304]; exact pg1_S301
          have mo306 : kv304 = 5 ∨ ¬ kv3 = 5 := ph1_S301.elim Or.inl (fun h => Or.inr (mo291.resolve_left h))
          have mo307 : kv304 = 5 ∨ ¬ x12 = (4 : Int32) := ph1_S301.elim Or.inl (fun h => Or.inr (mo292.resolve_left h))
          have mo308 : kv304 = 5 ∨ ¬ kv17 = 5 := ph1_S301.elim Or.inl (fun h => Or.inr (mo293.resolve_left h))
          have mo309 : kv304 = 5 ∨ ¬ kv24 = 5 := ph1_S301.elim Or.inl (fun h => Or.inr (mo294.resolve_left h))
          have mo310 : kv304 = 5 ∨ ¬ kv226 = 5 := ph1_S301.elim Or.inl (fun h => Or.inr (mo295.resolve_left h))
          have mo311 : kv304 = 5 ∨ ¬ kv238 = 5 := ph1_S301.elim Or.inl (fun h => Or.inr (mo296.resolve_left h))
          have mo312 : kv304 = 5 ∨ ¬ kv250 = 5 := ph1_S301.elim Or.inl (fun h => Or.inr (mo297.resolve_left h))
          have mo313 : kv304 = 5 ∨ ¬ kv262 = 5 := ph1_S301.elim Or.inl (fun h => Or.inr (mo298.resolve_left h))
          have mo314 : kv304 = 5 ∨ ¬ kv275 = 5 := ph1_S301.elim Or.inl (fun h => Or.inr (ph1_S286.resolve_left h))
          obtain ⟨kv315, d_kv315⟩ : ∃ z : Int32, z = fI S301 v0 8 := ⟨_, rfl⟩
          have r_kv315 : (0 : Int32) ≤ kv315 ∧ kv315 ≤ (900 : Int32) := by rw [d_kv315]; exact nu 25 rfl hI o_v0
          have ph2_S301 : kv299 ≤ kv315 ∧ (kv304 = 4 → kv299 < kv315 ∨ kv289 = 4) := by rw [do299_kv299, do299_kv289, d_kv315, d_kv304]; exact pg2_S301
          intro _
          intro x316 ex316
          have q_x316 : x316 = kv304 := ex316.trans d_kv304.symm
          have mo317 : x316 = 5 ∨ ¬ kv3 = 5 := mo306.imp_left (fun z => q_x316.trans z)
          have mo318 : x316 = 5 ∨ ¬ x12 = (4 : Int32) := mo307.imp_left (fun z => q_x316.trans z)
          have mo319 : x316 = 5 ∨ ¬ kv17 = 5 := mo308.imp_left (fun z => q_x316.trans z)
          have mo320 : x316 = 5 ∨ ¬ kv24 = 5 := mo309.imp_left (fun z => q_x316.trans z)
          have mo321 : x316 = 5 ∨ ¬ kv226 = 5 := mo310.imp_left (fun z => q_x316.trans z)
          have mo322 : x316 = 5 ∨ ¬ kv238 = 5 := mo311.imp_left (fun z => q_x316.trans z)
          have mo323 : x316 = 5 ∨ ¬ kv250 = 5 := mo312.imp_left (fun z => q_x316.trans z)
          have mo324 : x316 = 5 ∨ ¬ kv262 = 5 := mo313.imp_left (fun z => q_x316.trans z)
          have mo325 : x316 = 5 ∨ ¬ kv275 = 5 := mo314.imp_left (fun z => q_x316.trans z)
          have mo326 : x316 = 5 ∨ ¬ kv289 = 5 := ph1_S301.imp_left (fun z => q_x316.trans z)
          have d_x316 := ex316
          refine ⟨fun c327 => ?_, fun c327 => ?_⟩
          · refine ⟨a7, ea7, ?_⟩
            refine ⟨o_a7, ?_⟩
            intro x329 ex329
            have r_x329 : (0 : Int32) ≤ x329 ∧ x329 ≤ (4 : Int32) := by rw [ex329]; exact nu 20 rfl hI o_a7
            have q_x329 : x329 = x12 := ex329.trans d_x12.symm
            have d_x329 := ex329
            refine u_X11_names ?_
            refine u_X11_names_0 ?_
            refine ⟨o_v0, ?_⟩
            refine ⟨a7, ea7, ?_⟩
            refine ⟨o_a7, ?_⟩
            obtain ⟨a331, ea331, o_a331, l_a331⟩ := shl 50 rfl hI o_a7
            refine ⟨a331, ea331, ?_⟩
            refine ⟨a7, ea7, ?_⟩
            refine ⟨o_a7, ?_⟩
            intro x333 ex333
            have r_x333 : (0 : Int32) ≤ x333 ∧ x333 ≤ (12 : Int32) := by rw [ex333]; exact nu 22 rfl hI o_a7
            have q_x333 : x333 = kv8 := ex333.trans d_kv8.symm
            have d_x333 := ex333
            refine ⟨o_a331, ?_⟩
            have i334 : vp_in x333 (hN _ a331) := (vin l_a331 (m := 12) (by decide) (qr124 hiv4 r_kv8 r_kv9 r_kv10 hnf r_x12 q_x12 mo317 mo318 mo319 bb_x29 iw_x29 c33 bb_x34 iw_x34 c38 bb_x39 iw_x39 c43 bb_x44 iw_x44 c48 mo320 mo321 mo322 mo323 mo324 mo325 mo326 q_x316 c327 r_x329 q_x329 r_x333 q_x333))
            refine ⟨i334, ?_⟩
            intro S335 eS335
            have hIn : IV S335 := by rw [eS335]; exact iv10_aJ hI o_a7 (by decide) ea331
            have hG := rg_J eS335 hG
            have hn := rn_J eS335 hn
            have hI := hIn
            have f0 := fr_J eS335 f0
            have d_x333 := rd_J eS335 d_x333
            have d_kv9 := rd_J eS335 d_kv9
            have d_x329 := rd_J eS335 d_x329
            have d_x316 := rd_J eS335 d_x316
            have d_kv305 := rd_J eS335 d_kv305
            have d_kv315 := rd_J eS335 d_kv315
            have ea7 := rf_J eS335 ea7
            have ea331 := rf_J eS335 ea331
            have l_a331 := ln_J eS335 l_a331
            have g0 := gr_J eS335 g0
            have o_a331 := ob_J eS335 o_a331
            have o_a7 := ob_J eS335 o_a7
            have o_v0 := ob_J eS335 o_v0
            refine ⟨a7, ea7, ?_⟩
            refine ⟨o_a7, ?_⟩
            obtain ⟨a337, ea337, o_a337, l_a337⟩ := shl 51 rfl hI o_a7
            refine ⟨a337, ea337, ?_⟩
            refine ⟨a7, ea7, ?_⟩
            refine ⟨o_a7, ?_⟩
            intro x339 ex339
            have r_x339 : (0 : Int32) ≤ x339 ∧ x339 ≤ (12 : Int32) := by rw [ex339]; exact nu 22 rfl hI o_a7
            have q_x339 : x339 = x333 := ex339.trans d_x333.symm
            have d_x339 := ex339
            refine ⟨o_a337, ?_⟩
            have i340 : vp_in x339 (hN _ a337) := (vin l_a337 (m := 12) (by decide) (qr125 hiv4 r_kv8 r_kv9 r_kv10 hnf r_x12 q_x12 mo317 mo318 mo319 bb_x29 iw_x29 c33 bb_x34 iw_x34 c38 bb_x39 iw_x39 c43 bb_x44 iw_x44 c48 mo320 mo321 mo322 mo323 mo324 mo325 mo326 q_x316 c327 r_x329 q_x329 r_x333 q_x333 r_x339 q_x339))
            refine ⟨i340, ?_⟩
            intro S341 eS341
            have hIn : IV S341 := by rw [eS341]; exact iv10_aI hI o_a7 (rg_nw hG ea7) ea337 o_a337 (by decide)
            have hG := rg_a (jj := 29) (x := x339) eS341 hI ea7 o_a7 ea337 o_a337 (by decide) (h1_no (by decide)) (fun _ => by rw [← d_kv9, ← d_x329]; exact (qr126 hiv4 r_kv8 r_kv9 r_kv10 hnf r_x12 q_x12 mo317 mo318 mo319 bb_x29 iw_x29 c33 bb_x34 iw_x34 c38 bb_x39 iw_x39 c43 bb_x44 iw_x44 c48 mo320 mo321 mo322 mo323 mo324 mo325 mo326 q_x316 c327 r_x329 q_x329 r_x333 q_x333 r_x339 q_x339)) hG
            have hn := rn_11 eS341 hI o_v0 o_a337 (by decide) hn
            have hI := hIn
            have f0 := fr_A eS341 g0 f0 o_a337 (by decide)
            have d_x339 := rd_Ik eS341 o_a337 o_a7 (by decide) d_x339
            have d_kv9 := rd_Ik eS341 o_a337 o_a7 (by decide) d_kv9
            have d_x329 := rd_Ik eS341 o_a337 o_a7 (by decide) d_x329
            have d_x316 := rd_Ik eS341 o_a337 o_v0 (by decide) d_x316
            have d_kv305 := rd_Ik eS341 o_a337 o_v0 (by decide) d_kv305
            have d_kv315 := rd_Ik eS341 o_a337 o_v0 (by decide) d_kv315
            have ea7 := rf_I eS341 ea7
            have ea331 := rf_I eS341 ea331
            have ea337 := rf_I eS341 ea337
            have l_a331 := ln_I eS341 l_a331
            have l_a337 := ln_I eS341 l_a337
            have g0 := gr_I eS341 g0
            have o_a331 := ob_I eS341 o_a331
            have o_a337 := ob_I eS341 o_a337
            have o_a7 := ob_I eS341 o_a7
            have o_v0 := ob_I eS341 o_v0
            have el342 : fI S341 a337 x339.toNatClampNeg = (1 : Int32) := by rw [eS341]; exact u2_self _ _ _ _
            refine ⟨a7, ea7, ?_⟩
            refine ⟨o_a7, ?_⟩
            obtain ⟨a344, ea344, o_a344, l_a344⟩ := shl 52 rfl hI o_a7
            refine ⟨a344, ea344, ?_⟩
            refine ⟨a7, ea7, ?_⟩
            refine ⟨o_a7, ?_⟩
            intro x346 ex346
            have r_x346 : (0 : Int32) ≤ x346 ∧ x346 ≤ (12 : Int32) := by rw [ex346]; exact nu 22 rfl hI o_a7
            have q_x346 : x346 = x339 := ex346.trans d_x339.symm
            have d_x346 := ex346
            refine ⟨o_a344, ?_⟩
            have i347 : vp_in x346 (hN _ a344) := (vin l_a344 (m := 12) (by decide) (qr127 hiv4 r_kv8 r_kv9 r_kv10 hnf r_x12 q_x12 mo317 mo318 mo319 bb_x29 iw_x29 c33 bb_x34 iw_x34 c38 bb_x39 iw_x39 c43 bb_x44 iw_x44 c48 mo320 mo321 mo322 mo323 mo324 mo325 mo326 q_x316 c327 r_x329 q_x329 r_x333 q_x333 r_x339 q_x339 r_x346 q_x346))
            refine ⟨i347, ?_⟩
            intro S348 eS348
            have hIn : IV S348 := by rw [eS348]; exact iv10_aI hI o_a7 (rg_nw hG ea7) ea344 o_a344 (by decide)
            have hG := rg_a (jj := 30) (x := x346) eS348 hI ea7 o_a7 ea344 o_a344 (by decide) (h1_no (by decide)) (fun _ => by rw [← d_kv9, ← d_x329]; exact (qr128 hiv4 r_kv8 r_kv9 r_kv10 hnf r_x12 q_x12 mo317 mo318 mo319 bb_x29 iw_x29 c33 bb_x34 iw_x34 c38 bb_x39 iw_x39 c43 bb_x44 iw_x44 c48 mo320 mo321 mo322 mo323 mo324 mo325 mo326 q_x316 c327 r_x329 q_x329 r_x333 q_x333 r_x339 q_x339 r_x346 q_x346)) hG
            have hn := rn_11 eS348 hI o_v0 o_a344 (by decide) hn
            have el342 := el_ar eS348 (ow_ne hI o_a7 (by decide) o_a7 (by decide) ea344 ea337 (by decide)) el342
            have hI := hIn
            have f0 := fr_A eS348 g0 f0 o_a344 (by decide)
            have d_x346 := rd_Ik eS348 o_a344 o_a7 (by decide) d_x346
            have d_kv9 := rd_Ik eS348 o_a344 o_a7 (by decide) d_kv9
            have d_x329 := rd_Ik eS348 o_a344 o_a7 (by decide) d_x329
            have d_x316 := rd_Ik eS348 o_a344 o_v0 (by decide) d_x316
            have d_kv305 := rd_Ik eS348 o_a344 o_v0 (by decide) d_kv305
            have d_kv315 := rd_Ik eS348 o_a344 o_v0 (by decide) d_kv315
            have ea7 := rf_I eS348 ea7
            have ea331 := rf_I eS348 ea331
            have ea337 := rf_I eS348 ea337
            have ea344 := rf_I eS348 ea344
            have l_a331 := ln_I eS348 l_a331
            have l_a337 := ln_I eS348 l_a337
            have l_a344 := ln_I eS348 l_a344
            have g0 := gr_I eS348 g0
            have o_a331 := ob_I eS348 o_a331
            have o_a337 := ob_I eS348 o_a337
            have o_a344 := ob_I eS348 o_a344
            have o_a7 := ob_I eS348 o_a7
            have o_v0 := ob_I eS348 o_v0
            have el349 : fI S348 a344 x346.toNatClampNeg = x329 := by rw [eS348]; exact u2_self _ _ _ _
            refine ⟨a7, ea7, ?_⟩
            refine ⟨o_a7, ?_⟩
            intro x351 ex351
            have r_x351 : (0 : Int32) ≤ x351 ∧ x351 ≤ (12 : Int32) := by rw [ex351]; exact nu 22 rfl hI o_a7
            have q_x351 : x351 = x346 := ex351.trans d_x346.symm
            have d_x351 := ex351
            intro x352 ex352
            intro S353 eS353
            have hIn : IV S353 := by rw [eS353]; exact iv10_sI hI o_a7 (rg_nw hG ea7) (nu_one (lo := (0 : Int32)) (hi := (12 : Int32)) (by decide) (qr129 hiv4 r_kv8 r_kv9 r_kv10 hnf r_x12 q_x12 mo317 mo318 mo319 bb_x29 iw_x29 c33 bb_x34 iw_x34 c38 bb_x39 iw_x39 c43 bb_x44 iw_x44 c48 mo320 mo321 mo322 mo323 mo324 mo325 mo326 q_x316 c327 r_x329 q_x329 r_x333 q_x333 r_x339 q_x339 r_x346 q_x346 r_x351 q_x351 ex352))
            have hG := rg_c eS353 hI ea7 o_a7 (by decide) hG
            have el342 := el_ob eS353 o_a7 o_a337 (by decide) el342
            have el349 := el_ob eS353 o_a7 o_a344 (by decide) el349
            have hI := hIn
            have f0 := fr_I eS353 g0 f0 o_a7 (by decide)
            have d_kv9 := rd_Ij eS353 (by decide) d_kv9
            have d_x329 := rd_Ij eS353 (by decide) d_x329
            have d_x316 := rd_Ik eS353 o_a7 o_v0 (by decide) d_x316
            have d_kv305 := rd_Ik eS353 o_a7 o_v0 (by decide) d_kv305
            have d_kv315 := rd_Ik eS353 o_a7 o_v0 (by decide) d_kv315
            have d_x352 := rd_Is eS353 (rfl : x352 = x352)
            have ea7 := rf_I eS353 ea7
            have ea331 := rf_I eS353 ea331
            have ea337 := rf_I eS353 ea337
            have ea344 := rf_I eS353 ea344
            have l_a331 := ln_I eS353 l_a331
            have l_a337 := ln_I eS353 l_a337
            have l_a344 := ln_I eS353 l_a344
            have g0 := gr_I eS353 g0
            have o_a331 := ob_I eS353 o_a331
            have o_a337 := ob_I eS353 o_a337
            have o_a344 := ob_I eS353 o_a344
            have o_a7 := ob_I eS353 o_a7
            have o_v0 := ob_I eS353 o_v0
            intro _
            refine ⟨a7, ea7, ?_⟩
            refine ⟨o_a7, ?_⟩
            obtain ⟨a355, ea355, o_a355, l_a355⟩ := shl 41 rfl hI o_a7
            refine ⟨a355, ea355, ?_⟩
            refine ⟨o_a355, ?_⟩
            have i356 : vp_in x329 (hN _ a355) := (vin l_a355 (m := 4) (by decide) (qr130 hiv4 r_kv8 r_kv9 r_kv10 hnf r_x12 q_x12 mo317 mo318 mo319 bb_x29 iw_x29 c33 bb_x34 iw_x34 c38 bb_x39 iw_x39 c43 bb_x44 iw_x44 c48 mo320 mo321 mo322 mo323 mo324 mo325 mo326 q_x316 c327 r_x329 q_x329 r_x333 q_x333 r_x339 q_x339 r_x346 q_x346 r_x351 q_x351 ex352))
            refine ⟨i356, ?_⟩
            intro S357 eS357
            have hIn : IV S357 := by rw [eS357]; exact iv10_aI hI o_a7 (rg_nw hG ea7) ea355 o_a355 (by decide)
            have hG := rg_a (jj := 19) (x := x329) eS357 hI ea7 o_a7 ea355 o_a355 (by decide) (h1_no (by decide)) (h2_no (y := 0) (by decide)) hG
            have el342 := el_ar eS357 (ow_ne hI o_a7 (by decide) o_a7 (by decide) ea355 ea337 (by decide)) el342
            have el349 := el_ar eS357 (ow_ne hI o_a7 (by decide) o_a7 (by decide) ea355 ea344 (by decide)) el349
            have hI := hIn
            have f0 := fr_A eS357 g0 f0 o_a355 (by decide)
            have d_kv9 := rd_Ik eS357 o_a355 o_a7 (by decide) d_kv9
            have d_x329 := rd_Ik eS357 o_a355 o_a7 (by decide) d_x329
            have d_x316 := rd_Ik eS357 o_a355 o_v0 (by decide) d_x316
            have d_kv305 := rd_Ik eS357 o_a355 o_v0 (by decide) d_kv305
            have d_kv315 := rd_Ik eS357 o_a355 o_v0 (by decide) d_kv315
            have d_x352 := rd_Ik eS357 o_a355 o_a7 (by decide) d_x352
            have ea7 := rf_I eS357 ea7
            have ea331 := rf_I eS357 ea331
            have ea337 := rf_I eS357 ea337
            have ea344 := rf_I eS357 ea344
            have ea355 := rf_I eS357 ea355
            have l_a331 := ln_I eS357 l_a331
            have l_a337 := ln_I eS357 l_a337
            have l_a344 := ln_I eS357 l_a344
            have l_a355 := ln_I eS357 l_a355
            have g0 := gr_I eS357 g0
            have o_a331 := ob_I eS357 o_a331
            have o_a337 := ob_I eS357 o_a337
            have o_a344 := ob_I eS357 o_a344
            have o_a355 := ob_I eS357 o_a355
            have o_a7 := ob_I eS357 o_a7
            have o_v0 := ob_I eS357 o_v0
            refine ⟨a7, ea7, ?_⟩
            refine ⟨o_a7, ?_⟩
            obtain ⟨a359, ea359, o_a359, l_a359⟩ := shl 42 rfl hI o_a7
            refine ⟨a359, ea359, ?_⟩
            refine ⟨o_a359, ?_⟩
            have i360 : vp_in x329 (hN _ a359) := (vin l_a359 (m := 4) (by decide) (qr130 hiv4 r_kv8 r_kv9 r_kv10 hnf r_x12 q_x12 mo317 mo318 mo319 bb_x29 iw_x29 c33 bb_x34 iw_x34 c38 bb_x39 iw_x39 c43 bb_x44 iw_x44 c48 mo320 mo321 mo322 mo323 mo324 mo325 mo326 q_x316 c327 r_x329 q_x329 r_x333 q_x333 r_x339 q_x339 r_x346 q_x346 r_x351 q_x351 ex352))
            refine ⟨i360, ?_⟩
            intro S361 eS361
            have hIn : IV S361 := by rw [eS361]; exact iv10_aI hI o_a7 (rg_nw hG ea7) ea359 o_a359 (by decide)
            have hG := rg_a (jj := 20) (x := x329) eS361 hI ea7 o_a7 ea359 o_a359 (by decide) (h1_no (by decide)) (h2_no (y := 0) (by decide)) hG
            have el342 := el_ar eS361 (ow_ne hI o_a7 (by decide) o_a7 (by decide) ea359 ea337 (by decide)) el342
            have el349 := el_ar eS361 (ow_ne hI o_a7 (by decide) o_a7 (by decide) ea359 ea344 (by decide)) el349
            have hI := hIn
            have f0 := fr_A eS361 g0 f0 o_a359 (by decide)
            have d_kv9 := rd_Ik eS361 o_a359 o_a7 (by decide) d_kv9
            have d_x329 := rd_Ik eS361 o_a359 o_a7 (by decide) d_x329
            have d_x316 := rd_Ik eS361 o_a359 o_v0 (by decide) d_x316
            have d_kv305 := rd_Ik eS361 o_a359 o_v0 (by decide) d_kv305
            have d_kv315 := rd_Ik eS361 o_a359 o_v0 (by decide) d_kv315
            have d_x352 := rd_Ik eS361 o_a359 o_a7 (by decide) d_x352
            have ea7 := rf_I eS361 ea7
            have ea331 := rf_I eS361 ea331
            have ea337 := rf_I eS361 ea337
            have ea344 := rf_I eS361 ea344
            have ea355 := rf_I eS361 ea355
            have ea359 := rf_I eS361 ea359
            have l_a331 := ln_I eS361 l_a331
            have l_a337 := ln_I eS361 l_a337
            have l_a344 := ln_I eS361 l_a344
            have l_a355 := ln_I eS361 l_a355
            have l_a359 := ln_I eS361 l_a359
            have g0 := gr_I eS361 g0
            have o_a331 := ob_I eS361 o_a331
            have o_a337 := ob_I eS361 o_a337
            have o_a344 := ob_I eS361 o_a344
            have o_a355 := ob_I eS361 o_a355
            have o_a359 := ob_I eS361 o_a359
            have o_a7 := ob_I eS361 o_a7
            have o_v0 := ob_I eS361 o_v0
            refine ⟨a7, ea7, ?_⟩
            refine ⟨o_a7, ?_⟩
            obtain ⟨a363, ea363, o_a363, l_a363⟩ := shl 43 rfl hI o_a7
            refine ⟨a363, ea363, ?_⟩
            refine ⟨o_a363, ?_⟩
            intro x364 ex364
            have i365 : vp_in x329 (hN _ a363) := (vin l_a363 (m := 4) (by decide) (qr130 hiv4 r_kv8 r_kv9 r_kv10 hnf r_x12 q_x12 mo317 mo318 mo319 bb_x29 iw_x29 c33 bb_x34 iw_x34 c38 bb_x39 iw_x39 c43 bb_x44 iw_x44 c48 mo320 mo321 mo322 mo323 mo324 mo325 mo326 q_x316 c327 r_x329 q_x329 r_x333 q_x333 r_x339 q_x339 r_x346 q_x346 r_x351 q_x351 ex352))
            refine ⟨i365, ?_⟩
            intro S366 eS366
            have hIn : IV S366 := by rw [eS366]; exact iv10_aI hI o_a7 (rg_nw hG ea7) ea363 o_a363 (by decide)
            have hG := rg_a (jj := 21) (x := x329) eS366 hI ea7 o_a7 ea363 o_a363 (by decide) (h1_no (by decide)) (h2_no (y := 0) (by decide)) hG
            have el342 := el_ar eS366 (ow_ne hI o_a7 (by decide) o_a7 (by decide) ea363 ea337 (by decide)) el342
            have el349 := el_ar eS366 (ow_ne hI o_a7 (by decide) o_a7 (by decide) ea363 ea344 (by decide)) el349
            have hI := hIn
            have f0 := fr_A eS366 g0 f0 o_a363 (by decide)
            have d_kv9 := rd_Ik eS366 o_a363 o_a7 (by decide) d_kv9
            have d_x329 := rd_Ik eS366 o_a363 o_a7 (by decide) d_x329
            have d_x316 := rd_Ik eS366 o_a363 o_v0 (by decide) d_x316
            have d_kv305 := rd_Ik eS366 o_a363 o_v0 (by decide) d_kv305
            have d_kv315 := rd_Ik eS366 o_a363 o_v0 (by decide) d_kv315
            have d_x352 := rd_Ik eS366 o_a363 o_a7 (by decide) d_x352
            have ea7 := rf_I eS366 ea7
            have ea331 := rf_I eS366 ea331
            have ea337 := rf_I eS366 ea337
            have ea344 := rf_I eS366 ea344
            have ea355 := rf_I eS366 ea355
            have ea359 := rf_I eS366 ea359
            have ea363 := rf_I eS366 ea363
            have l_a331 := ln_I eS366 l_a331
            have l_a337 := ln_I eS366 l_a337
            have l_a344 := ln_I eS366 l_a344
            have l_a355 := ln_I eS366 l_a355
            have l_a359 := ln_I eS366 l_a359
            have l_a363 := ln_I eS366 l_a363
            have g0 := gr_I eS366 g0
            have o_a331 := ob_I eS366 o_a331
            have o_a337 := ob_I eS366 o_a337
            have o_a344 := ob_I eS366 o_a344
            have o_a355 := ob_I eS366 o_a355
            have o_a359 := ob_I eS366 o_a359
            have o_a363 := ob_I eS366 o_a363
            have o_a7 := ob_I eS366 o_a7
            have o_v0 := ob_I eS366 o_v0
            refine ⟨a7, ea7, ?_⟩
            refine ⟨o_a7, ?_⟩
            obtain ⟨a368, ea368, o_a368, l_a368⟩ := shl 44 rfl hI o_a7
            refine ⟨a368, ea368, ?_⟩
            refine ⟨o_a368, ?_⟩
            intro x369 ex369
            have i370 : vp_in x329 (hN _ a368) := (vin l_a368 (m := 4) (by decide) (qr130 hiv4 r_kv8 r_kv9 r_kv10 hnf r_x12 q_x12 mo317 mo318 mo319 bb_x29 iw_x29 c33 bb_x34 iw_x34 c38 bb_x39 iw_x39 c43 bb_x44 iw_x44 c48 mo320 mo321 mo322 mo323 mo324 mo325 mo326 q_x316 c327 r_x329 q_x329 r_x333 q_x333 r_x339 q_x339 r_x346 q_x346 r_x351 q_x351 ex352))
            refine ⟨i370, ?_⟩
            intro S371 eS371
            have hIn : IV S371 := by rw [eS371]; exact iv10_aI hI o_a7 (rg_nw hG ea7) ea368 o_a368 (by decide)
            have hG := rg_a (jj := 22) (x := x329) eS371 hI ea7 o_a7 ea368 o_a368 (by decide) (h1_no (by decide)) (h2_no (y := 0) (by decide)) hG
            have el342 := el_ar eS371 (ow_ne hI o_a7 (by decide) o_a7 (by decide) ea368 ea337 (by decide)) el342
            have el349 := el_ar eS371 (ow_ne hI o_a7 (by decide) o_a7 (by decide) ea368 ea344 (by decide)) el349
            have hI := hIn
            have f0 := fr_A eS371 g0 f0 o_a368 (by decide)
            have d_kv9 := rd_Ik eS371 o_a368 o_a7 (by decide) d_kv9
            have d_x329 := rd_Ik eS371 o_a368 o_a7 (by decide) d_x329
            have d_x316 := rd_Ik eS371 o_a368 o_v0 (by decide) d_x316
            have d_kv305 := rd_Ik eS371 o_a368 o_v0 (by decide) d_kv305
            have d_kv315 := rd_Ik eS371 o_a368 o_v0 (by decide) d_kv315
            have d_x352 := rd_Ik eS371 o_a368 o_a7 (by decide) d_x352
            have ea7 := rf_I eS371 ea7
            have ea331 := rf_I eS371 ea331
            have ea337 := rf_I eS371 ea337
            have ea344 := rf_I eS371 ea344
            have ea355 := rf_I eS371 ea355
            have ea359 := rf_I eS371 ea359
            have ea363 := rf_I eS371 ea363
            have ea368 := rf_I eS371 ea368
            have l_a331 := ln_I eS371 l_a331
            have l_a337 := ln_I eS371 l_a337
            have l_a344 := ln_I eS371 l_a344
            have l_a355 := ln_I eS371 l_a355
            have l_a359 := ln_I eS371 l_a359
            have l_a363 := ln_I eS371 l_a363
            have l_a368 := ln_I eS371 l_a368
            have g0 := gr_I eS371 g0
            have o_a331 := ob_I eS371 o_a331
            have o_a337 := ob_I eS371 o_a337
            have o_a344 := ob_I eS371 o_a344
            have o_a355 := ob_I eS371 o_a355
            have o_a359 := ob_I eS371 o_a359
            have o_a363 := ob_I eS371 o_a363
            have o_a368 := ob_I eS371 o_a368
            have o_a7 := ob_I eS371 o_a7
            have o_v0 := ob_I eS371 o_v0
            refine ⟨a7, ea7, ?_⟩
            refine ⟨o_a7, ?_⟩
            obtain ⟨a373, ea373, o_a373, l_a373⟩ := shl 45 rfl hI o_a7
            refine ⟨a373, ea373, ?_⟩
            refine ⟨o_a373, ?_⟩
            intro x374 ex374
            have i375 : vp_in x329 (hN _ a373) := (vin l_a373 (m := 4) (by decide) (qr130 hiv4 r_kv8 r_kv9 r_kv10 hnf r_x12 q_x12 mo317 mo318 mo319 bb_x29 iw_x29 c33 bb_x34 iw_x34 c38 bb_x39 iw_x39 c43 bb_x44 iw_x44 c48 mo320 mo321 mo322 mo323 mo324 mo325 mo326 q_x316 c327 r_x329 q_x329 r_x333 q_x333 r_x339 q_x339 r_x346 q_x346 r_x351 q_x351 ex352))
            refine ⟨i375, ?_⟩
            intro S376 eS376
            have hIn : IV S376 := by rw [eS376]; exact iv10_aI hI o_a7 (rg_nw hG ea7) ea373 o_a373 (by decide)
            have hG := rg_a (jj := 23) (x := x329) eS376 hI ea7 o_a7 ea373 o_a373 (by decide) (h1_no (by decide)) (h2_no (y := 0) (by decide)) hG
            have el342 := el_ar eS376 (ow_ne hI o_a7 (by decide) o_a7 (by decide) ea373 ea337 (by decide)) el342
            have el349 := el_ar eS376 (ow_ne hI o_a7 (by decide) o_a7 (by decide) ea373 ea344 (by decide)) el349
            have hI := hIn
            have f0 := fr_A eS376 g0 f0 o_a373 (by decide)
            have d_kv9 := rd_Ik eS376 o_a373 o_a7 (by decide) d_kv9
            have d_x329 := rd_Ik eS376 o_a373 o_a7 (by decide) d_x329
            have d_x316 := rd_Ik eS376 o_a373 o_v0 (by decide) d_x316
            have d_kv305 := rd_Ik eS376 o_a373 o_v0 (by decide) d_kv305
            have d_kv315 := rd_Ik eS376 o_a373 o_v0 (by decide) d_kv315
            have d_x352 := rd_Ik eS376 o_a373 o_a7 (by decide) d_x352
            have ea7 := rf_I eS376 ea7
            have ea331 := rf_I eS376 ea331
            have ea337 := rf_I eS376 ea337
            have ea344 := rf_I eS376 ea344
            have ea355 := rf_I eS376 ea355
            have ea359 := rf_I eS376 ea359
            have ea363 := rf_I eS376 ea363
            have ea368 := rf_I eS376 ea368
            have ea373 := rf_I eS376 ea373
            have l_a331 := ln_I eS376 l_a331
            have l_a337 := ln_I eS376 l_a337
            have l_a344 := ln_I eS376 l_a344
            have l_a355 := ln_I eS376 l_a355
            have l_a359 := ln_I eS376 l_a359
            have l_a363 := ln_I eS376 l_a363
            have l_a368 := ln_I eS376 l_a368
            have l_a373 := ln_I eS376 l_a373
            have g0 := gr_I eS376 g0
            have o_a331 := ob_I eS376 o_a331
            have o_a337 := ob_I eS376 o_a337
            have o_a344 := ob_I eS376 o_a344
            have o_a355 := ob_I eS376 o_a355
            have o_a359 := ob_I eS376 o_a359
            have o_a363 := ob_I eS376 o_a363
            have o_a368 := ob_I eS376 o_a368
            have o_a373 := ob_I eS376 o_a373
            have o_a7 := ob_I eS376 o_a7
            have o_v0 := ob_I eS376 o_v0
            refine ⟨a7, ea7, ?_⟩
            refine ⟨o_a7, ?_⟩
            obtain ⟨a378, ea378, o_a378, l_a378⟩ := shl 46 rfl hI o_a7
            refine ⟨a378, ea378, ?_⟩
            refine ⟨o_a378, ?_⟩
            have i379 : vp_in x329 (hN _ a378) := (vin l_a378 (m := 4) (by decide) (qr130 hiv4 r_kv8 r_kv9 r_kv10 hnf r_x12 q_x12 mo317 mo318 mo319 bb_x29 iw_x29 c33 bb_x34 iw_x34 c38 bb_x39 iw_x39 c43 bb_x44 iw_x44 c48 mo320 mo321 mo322 mo323 mo324 mo325 mo326 q_x316 c327 r_x329 q_x329 r_x333 q_x333 r_x339 q_x339 r_x346 q_x346 r_x351 q_x351 ex352))
            refine ⟨i379, ?_⟩
            intro S380 eS380
            have hIn : IV S380 := by rw [eS380]; exact iv10_aI hI o_a7 (rg_nw hG ea7) ea378 o_a378 (by decide)
            have hG := rg_a (jj := 24) (x := x329) eS380 hI ea7 o_a7 ea378 o_a378 (by decide) (h1_one (c := 4) (lo := 1) (hi := 9) (hf := 99) (by decide) d_x329.symm) (h2_no (y := 0) (by decide)) hG
            have el342 := el_ar eS380 (ow_ne hI o_a7 (by decide) o_a7 (by decide) ea378 ea337 (by decide)) el342
            have el349 := el_ar eS380 (ow_ne hI o_a7 (by decide) o_a7 (by decide) ea378 ea344 (by decide)) el349
            have hI := hIn
            have f0 := fr_A eS380 g0 f0 o_a378 (by decide)
            have d_kv9 := rd_Ik eS380 o_a378 o_a7 (by decide) d_kv9
            have d_x329 := rd_Ik eS380 o_a378 o_a7 (by decide) d_x329
            have d_x316 := rd_Ik eS380 o_a378 o_v0 (by decide) d_x316
            have d_kv305 := rd_Ik eS380 o_a378 o_v0 (by decide) d_kv305
            have d_kv315 := rd_Ik eS380 o_a378 o_v0 (by decide) d_kv315
            have d_x352 := rd_Ik eS380 o_a378 o_a7 (by decide) d_x352
            have ea7 := rf_I eS380 ea7
            have ea331 := rf_I eS380 ea331
            have ea337 := rf_I eS380 ea337
            have ea344 := rf_I eS380 ea344
            have ea355 := rf_I eS380 ea355
            have ea359 := rf_I eS380 ea359
            have ea363 := rf_I eS380 ea363
            have ea368 := rf_I eS380 ea368
            have ea373 := rf_I eS380 ea373
            have ea378 := rf_I eS380 ea378
            have l_a331 := ln_I eS380 l_a331
            have l_a337 := ln_I eS380 l_a337
            have l_a344 := ln_I eS380 l_a344
            have l_a355 := ln_I eS380 l_a355
            have l_a359 := ln_I eS380 l_a359
            have l_a363 := ln_I eS380 l_a363
            have l_a368 := ln_I eS380 l_a368
            have l_a373 := ln_I eS380 l_a373
            have l_a378 := ln_I eS380 l_a378
            have g0 := gr_I eS380 g0
            have o_a331 := ob_I eS380 o_a331
            have o_a337 := ob_I eS380 o_a337
            have o_a344 := ob_I eS380 o_a344
            have o_a355 := ob_I eS380 o_a355
            have o_a359 := ob_I eS380 o_a359
            have o_a363 := ob_I eS380 o_a363
            have o_a368 := ob_I eS380 o_a368
            have o_a373 := ob_I eS380 o_a373
            have o_a378 := ob_I eS380 o_a378
            have o_a7 := ob_I eS380 o_a7
            have o_v0 := ob_I eS380 o_v0
            have el381 : fI S380 a378 x329.toNatClampNeg = x285 := by rw [eS380]; exact u2_self _ _ _ _
            refine ⟨a7, ea7, ?_⟩
            refine ⟨o_a7, ?_⟩
            obtain ⟨a383, ea383, o_a383, l_a383⟩ := shl 47 rfl hI o_a7
            refine ⟨a383, ea383, ?_⟩
            refine ⟨o_a383, ?_⟩
            have i384 : vp_in x329 (hN _ a383) := (vin l_a383 (m := 4) (by decide) (qr130 hiv4 r_kv8 r_kv9 r_kv10 hnf r_x12 q_x12 mo317 mo318 mo319 bb_x29 iw_x29 c33 bb_x34 iw_x34 c38 bb_x39 iw_x39 c43 bb_x44 iw_x44 c48 mo320 mo321 mo322 mo323 mo324 mo325 mo326 q_x316 c327 r_x329 q_x329 r_x333 q_x333 r_x339 q_x339 r_x346 q_x346 r_x351 q_x351 ex352))
            refine ⟨i384, ?_⟩
            intro S385 eS385
            have hIn : IV S385 := by rw [eS385]; exact iv10_aI hI o_a7 (rg_nw hG ea7) ea383 o_a383 (by decide)
            have hG := rg_a (jj := 25) (x := x329) eS385 hI ea7 o_a7 ea383 o_a383 (by decide) (h1_one (c := 4) (lo := 0) (hi := 9) (hf := 99) (by decide) d_x329.symm) (h2_no (y := 0) (by decide)) hG
            have el342 := el_ar eS385 (ow_ne hI o_a7 (by decide) o_a7 (by decide) ea383 ea337 (by decide)) el342
            have el349 := el_ar eS385 (ow_ne hI o_a7 (by decide) o_a7 (by decide) ea383 ea344 (by decide)) el349
            have el381 := el_ar eS385 (ow_ne hI o_a7 (by decide) o_a7 (by decide) ea383 ea378 (by decide)) el381
            have hI := hIn
            have f0 := fr_A eS385 g0 f0 o_a383 (by decide)
            have d_kv9 := rd_Ik eS385 o_a383 o_a7 (by decide) d_kv9
            have d_x329 := rd_Ik eS385 o_a383 o_a7 (by decide) d_x329
            have d_x316 := rd_Ik eS385 o_a383 o_v0 (by decide) d_x316
            have d_kv305 := rd_Ik eS385 o_a383 o_v0 (by decide) d_kv305
            have d_kv315 := rd_Ik eS385 o_a383 o_v0 (by decide) d_kv315
            have d_x352 := rd_Ik eS385 o_a383 o_a7 (by decide) d_x352
            have ea7 := rf_I eS385 ea7
            have ea331 := rf_I eS385 ea331
            have ea337 := rf_I eS385 ea337
            have ea344 := rf_I eS385 ea344
            have ea355 := rf_I eS385 ea355
            have ea359 := rf_I eS385 ea359
            have ea363 := rf_I eS385 ea363
            have ea368 := rf_I eS385 ea368
            have ea373 := rf_I eS385 ea373
            have ea378 := rf_I eS385 ea378
            have ea383 := rf_I eS385 ea383
            have l_a331 := ln_I eS385 l_a331
            have l_a337 := ln_I eS385 l_a337
            have l_a344 := ln_I eS385 l_a344
            have l_a355 := ln_I eS385 l_a355
            have l_a359 := ln_I eS385 l_a359
            have l_a363 := ln_I eS385 l_a363
            have l_a368 := ln_I eS385 l_a368
            have l_a373 := ln_I eS385 l_a373
            have l_a378 := ln_I eS385 l_a378
            have l_a383 := ln_I eS385 l_a383
            have g0 := gr_I eS385 g0
            have o_a331 := ob_I eS385 o_a331
            have o_a337 := ob_I eS385 o_a337
            have o_a344 := ob_I eS385 o_a344
            have o_a355 := ob_I eS385 o_a355
            have o_a359 := ob_I eS385 o_a359
            have o_a363 := ob_I eS385 o_a363
            have o_a368 := ob_I eS385 o_a368
            have o_a373 := ob_I eS385 o_a373
            have o_a378 := ob_I eS385 o_a378
            have o_a383 := ob_I eS385 o_a383
            have o_a7 := ob_I eS385 o_a7
            have o_v0 := ob_I eS385 o_v0
            have el386 : fI S385 a383 x329.toNatClampNeg = x300 := by rw [eS385]; exact u2_self _ _ _ _
            refine ⟨a7, ea7, ?_⟩
            refine ⟨o_a7, ?_⟩
            intro x388 ex388
            have r_x388 : (0 : Int32) ≤ x388 ∧ x388 ≤ (4 : Int32) := by rw [ex388]; exact nu 20 rfl hI o_a7
            have q_x388 : x388 = x329 := ex388.trans d_x329.symm
            have d_x388 := ex388
            intro x389 ex389
            intro S390 eS390
            have hIn : IV S390 := by rw [eS390]; exact iv10_sI hI o_a7 (rg_nw hG ea7) (nu_one (lo := (0 : Int32)) (hi := (4 : Int32)) (by decide) (qr131 hiv4 r_kv8 r_kv9 r_kv10 hnf r_x12 q_x12 mo317 mo318 mo319 bb_x29 iw_x29 c33 bb_x34 iw_x34 c38 bb_x39 iw_x39 c43 bb_x44 iw_x44 c48 mo320 mo321 mo322 mo323 mo324 mo325 mo326 q_x316 c327 r_x329 q_x329 r_x333 q_x333 r_x339 q_x339 r_x346 q_x346 r_x351 q_x351 ex352 r_x388 q_x388 ex389))
            have hG := rg_inc (c := 4) (y := x388) eS390 hI ea7 o_a7 d_x388.symm (qr132 hiv4 r_kv8 r_kv9 r_kv10 hnf r_x12 q_x12 mo317 mo318 mo319 bb_x29 iw_x29 c33 bb_x34 iw_x34 c38 bb_x39 iw_x39 c43 bb_x44 iw_x44 c48 mo320 mo321 mo322 mo323 mo324 mo325 mo326 q_x316 c327 r_x329 q_x329 r_x333 q_x333 r_x339 q_x339 r_x346 q_x346 r_x351 q_x351 ex352 r_x388 q_x388 ex389) (qr133 hiv4 r_kv8 r_kv9 r_kv10 hnf r_x12 q_x12 mo317 mo318 mo319 bb_x29 iw_x29 c33 bb_x34 iw_x34 c38 bb_x39 iw_x39 c43 bb_x44 iw_x44 c48 mo320 mo321 mo322 mo323 mo324 mo325 mo326 q_x316 c327 r_x329 q_x329 r_x333 q_x333 r_x339 q_x339 r_x346 q_x346 r_x351 q_x351 ex352 r_x388 q_x388 ex389) (hn_4 ea378 (by rw [show x388 = x329 from (qr138 hiv4 r_kv8 r_kv9 r_kv10 hnf r_x12 q_x12 mo317 mo318 mo319 bb_x29 iw_x29 c33 bb_x34 iw_x34 c38 bb_x39 iw_x39 c43 bb_x44 iw_x44 c48 mo320 mo321 mo322 mo323 mo324 mo325 mo326 q_x316 c327 r_x329 q_x329 r_x333 q_x333 r_x339 q_x339 r_x346 q_x346 r_x351 q_x351 ex352 r_x388 q_x388 ex389), el381]; exact ⟨(qr139 hiv4 r_kv8 r_kv9 r_kv10 hnf r_x12 q_x12 mo317 mo318 mo319 bb_x29 iw_x29 c33 bb_x34 iw_x34 c38 bb_x39 iw_x39 c43 bb_x44 iw_x44 c48 mo320 mo321 mo322 mo323 mo324 mo325 p_x285 mo326 p_x300 q_x316 c327 r_x329 q_x329 r_x333 q_x333 r_x339 q_x339 r_x346 q_x346 r_x351 q_x351 ex352 r_x388 q_x388 ex389), (qr140 hiv4 r_kv8 r_kv9 r_kv10 hnf r_x12 q_x12 mo317 mo318 mo319 bb_x29 iw_x29 c33 bb_x34 iw_x34 c38 bb_x39 iw_x39 c43 bb_x44 iw_x44 c48 mo320 mo321 mo322 mo323 mo324 mo325 p_x285 mo326 p_x300 q_x316 c327 r_x329 q_x329 r_x333 q_x333 r_x339 q_x339 r_x346 q_x346 r_x351 q_x351 ex352 r_x388 q_x388 ex389), Or.inl rfl⟩) ea383 (by rw [show x388 = x329 from (qr138 hiv4 r_kv8 r_kv9 r_kv10 hnf r_x12 q_x12 mo317 mo318 mo319 bb_x29 iw_x29 c33 bb_x34 iw_x34 c38 bb_x39 iw_x39 c43 bb_x44 iw_x44 c48 mo320 mo321 mo322 mo323 mo324 mo325 mo326 q_x316 c327 r_x329 q_x329 r_x333 q_x333 r_x339 q_x339 r_x346 q_x346 r_x351 q_x351 ex352 r_x388 q_x388 ex389), el386]; exact ⟨(qr141 hiv4 r_kv8 r_kv9 r_kv10 hnf r_x12 q_x12 mo317 mo318 mo319 bb_x29 iw_x29 c33 bb_x34 iw_x34 c38 bb_x39 iw_x39 c43 bb_x44 iw_x44 c48 mo320 mo321 mo322 mo323 mo324 mo325 p_x285 mo326 p_x300 q_x316 c327 r_x329 q_x329 r_x333 q_x333 r_x339 q_x339 r_x346 q_x346 r_x351 q_x351 ex352 r_x388 q_x388 ex389), (qr142 hiv4 r_kv8 r_kv9 r_kv10 hnf r_x12 q_x12 mo317 mo318 mo319 bb_x29 iw_x29 c33 bb_x34 iw_x34 c38 bb_x39 iw_x39 c43 bb_x44 iw_x44 c48 mo320 mo321 mo322 mo323 mo324 mo325 p_x285 mo326 p_x300 q_x316 c327 r_x329 q_x329 r_x333 q_x333 r_x339 q_x339 r_x346 q_x346 r_x351 q_x351 ex352 r_x388 q_x388 ex389), Or.inl rfl⟩)) (hs_4 eS390 d_x388.symm d_kv9.symm (qr132 hiv4 r_kv8 r_kv9 r_kv10 hnf r_x12 q_x12 mo317 mo318 mo319 bb_x29 iw_x29 c33 bb_x34 iw_x34 c38 bb_x39 iw_x39 c43 bb_x44 iw_x44 c48 mo320 mo321 mo322 mo323 mo324 mo325 mo326 q_x316 c327 r_x329 q_x329 r_x333 q_x333 r_x339 q_x339 r_x346 q_x346 r_x351 q_x351 ex352 r_x388 q_x388 ex389) (qr133 hiv4 r_kv8 r_kv9 r_kv10 hnf r_x12 q_x12 mo317 mo318 mo319 bb_x29 iw_x29 c33 bb_x34 iw_x34 c38 bb_x39 iw_x39 c43 bb_x44 iw_x44 c48 mo320 mo321 mo322 mo323 mo324 mo325 mo326 q_x316 c327 r_x329 q_x329 r_x333 q_x333 r_x339 q_x339 r_x346 q_x346 r_x351 q_x351 ex352 r_x388 q_x388 ex389) (qr134 hiv4 r_kv8 r_kv9 r_kv10 hnf r_x12 q_x12 mo317 mo318 mo319 bb_x29 iw_x29 c33 bb_x34 iw_x34 c38 bb_x39 iw_x39 c43 bb_x44 iw_x44 c48 mo320 mo321 mo322 mo323 mo324 mo325 mo326 q_x316 c327 r_x329 q_x329 r_x333 q_x333 r_x339 q_x339 r_x346 q_x346 r_x351 q_x351 ex352 r_x388 q_x388 ex389) ea337 ea344 el342 (el349.trans (qr135 hiv4 r_kv8 r_kv9 r_kv10 hnf r_x12 q_x12 mo317 mo318 mo319 bb_x29 iw_x29 c33 bb_x34 iw_x34 c38 bb_x39 iw_x39 c43 bb_x44 iw_x44 c48 mo320 mo321 mo322 mo323 mo324 mo325 mo326 q_x316 c327 r_x329 q_x329 r_x333 q_x333 r_x339 q_x339 r_x346 q_x346 r_x351 q_x351 ex352 r_x388 q_x388 ex389)) (qr136 hiv4 r_kv8 r_kv9 r_kv10 hnf r_x12 q_x12 mo317 mo318 mo319 bb_x29 iw_x29 c33 bb_x34 iw_x34 c38 bb_x39 iw_x39 c43 bb_x44 iw_x44 c48 mo320 mo321 mo322 mo323 mo324 mo325 mo326 q_x316 c327 r_x329 q_x329 r_x333 q_x333 r_x339 q_x339 r_x346 q_x346 r_x351 q_x351 ex352 r_x388 q_x388 ex389) (qr137 hiv4 r_kv8 r_kv9 r_kv10 hnf r_x12 q_x12 mo317 mo318 mo319 bb_x29 iw_x29 c33 bb_x34 iw_x34 c38 bb_x39 iw_x39 c43 bb_x44 iw_x44 c48 mo320 mo321 mo322 mo323 mo324 mo325 mo326 q_x316 c327 r_x329 q_x329 r_x333 q_x333 r_x339 q_x339 r_x346 q_x346 r_x351 q_x351 ex352 r_x388 q_x388 ex389)) hG
            have el342 := el_ob eS390 o_a7 o_a337 (by decide) el342
            have el349 := el_ob eS390 o_a7 o_a344 (by decide) el349
            have el381 := el_ob eS390 o_a7 o_a378 (by decide) el381
            have el386 := el_ob eS390 o_a7 o_a383 (by decide) el386
            have hI := hIn
            have f0 := fr_I eS390 g0 f0 o_a7 (by decide)
            have d_kv9 := rd_Ij eS390 (by decide) d_kv9
            have d_x316 := rd_Ik eS390 o_a7 o_v0 (by decide) d_x316
            have d_kv305 := rd_Ik eS390 o_a7 o_v0 (by decide) d_kv305
            have d_kv315 := rd_Ik eS390 o_a7 o_v0 (by decide) d_kv315
            have d_x352 := rd_Ij eS390 (by decide) d_x352
            have d_x389 := rd_Is eS390 (rfl : x389 = x389)
            have ea7 := rf_I eS390 ea7
            have ea331 := rf_I eS390 ea331
            have ea337 := rf_I eS390 ea337
            have ea344 := rf_I eS390 ea344
            have ea355 := rf_I eS390 ea355
            have ea359 := rf_I eS390 ea359
            have ea363 := rf_I eS390 ea363
            have ea368 := rf_I eS390 ea368
            have ea373 := rf_I eS390 ea373
            have ea378 := rf_I eS390 ea378
            have ea383 := rf_I eS390 ea383
            have l_a331 := ln_I eS390 l_a331
            have l_a337 := ln_I eS390 l_a337
            have l_a344 := ln_I eS390 l_a344
            have l_a355 := ln_I eS390 l_a355
            have l_a359 := ln_I eS390 l_a359
            have l_a363 := ln_I eS390 l_a363
            have l_a368 := ln_I eS390 l_a368
            have l_a373 := ln_I eS390 l_a373
            have l_a378 := ln_I eS390 l_a378
            have l_a383 := ln_I eS390 l_a383
            have g0 := gr_I eS390 g0
            have o_a331 := ob_I eS390 o_a331
            have o_a337 := ob_I eS390 o_a337
            have o_a344 := ob_I eS390 o_a344
            have o_a355 := ob_I eS390 o_a355
            have o_a359 := ob_I eS390 o_a359
            have o_a363 := ob_I eS390 o_a363
            have o_a368 := ob_I eS390 o_a368
            have o_a373 := ob_I eS390 o_a373
            have o_a378 := ob_I eS390 o_a378
            have o_a383 := ob_I eS390 o_a383
            have o_a7 := ob_I eS390 o_a7
            have o_v0 := ob_I eS390 o_v0
            have hn : RN S390 v0 := fun z ez => by obtain rfl : a7 = z := Option.some.inj (ea7.symm.trans ez); rw [← d_x352, ← d_kv9, ← d_x389]; exact (qr143 hiv4 r_kv8 r_kv9 r_kv10 hnf r_x12 q_x12 mo317 mo318 mo319 bb_x29 iw_x29 c33 bb_x34 iw_x34 c38 bb_x39 iw_x39 c43 bb_x44 iw_x44 c48 mo320 mo321 mo322 mo323 mo324 mo325 mo326 q_x316 c327 r_x329 q_x329 r_x333 q_x333 r_x339 q_x339 r_x346 q_x346 r_x351 q_x351 ex352 r_x388 q_x388 ex389)
            exact hq _ hI g0 f0 ⟨hG, hn, (by have t : x316 = 5 → 0 < kv305 := (qr144 hiv4 hiv6 hO r_kv8 r_kv9 r_kv10 hnf r_x12 q_x12 ph0_S14 mo317 mo318 ph0_S21 mo319 bb_x29 iw_x29 c33 bb_x34 iw_x34 c38 bb_x39 iw_x39 c43 bb_x44 iw_x44 c48 hiv221 ph0_S223 mo320 ph0_S235 mo321 ph0_S247 mo322 ph0_S259 mo323 ph0_S272 mo324 ph0_S286 mo325 ph0_S301 mo326 q_x316 c327 r_x329 q_x329 r_x333 q_x333 r_x339 q_x339 r_x346 q_x346 r_x351 q_x351 ex352 r_x388 q_x388 ex389); rw [d_x316, d_kv305] at t; exact t), (by have t : x316 = 5 ∨ ¬ iv4 = 5 := (qr145 hiv4 r_kv8 r_kv9 r_kv10 hnf r_x12 q_x12 mo317 mo318 mo319 bb_x29 iw_x29 c33 bb_x34 iw_x34 c38 bb_x39 iw_x39 c43 bb_x44 iw_x44 c48 mo320 mo321 mo322 mo323 mo324 mo325 mo326 q_x316 c327 r_x329 q_x329 r_x333 q_x333 r_x339 q_x339 r_x346 q_x346 r_x351 q_x351 ex352 r_x388 q_x388 ex389); rw [di_9, d_x316] at t; exact t), (by have t : iv2 ≤ kv315 ∧ (x316 = 4 → iv2 < kv315 ∨ iv4 = 4) := (qr146 r_kv1 hiv2 hiv4 r_kv8 r_kv9 r_kv10 hnf r_x12 q_x12 mo317 r_kv19 ph2_S14 mo318 mo319 r_kv28 ph2_S21 bb_x29 iw_x29 c33 bb_x34 iw_x34 c38 bb_x39 iw_x39 c43 bb_x44 iw_x44 c48 mo320 r_kv230 ph2_S223 mo321 r_kv244 ph2_S235 mo322 r_kv257 ph2_S247 mo323 r_kv270 ph2_S259 mo324 r_kv284 ph2_S272 mo325 r_kv299 ph2_S286 mo326 r_kv315 ph2_S301 q_x316 c327 r_x329 q_x329 r_x333 q_x333 r_x339 q_x339 r_x346 q_x346 r_x351 q_x351 ex352 r_x388 q_x388 ex389); rw [di_8, di_9, d_kv315, d_x316] at t; exact t)⟩
          · exact hq _ hI g0 f0 ⟨hG, hn, (by have t : x316 = 5 → 0 < kv305 := (qr147 hiv4 hiv6 hO r_kv8 r_kv9 r_kv10 hnf r_x12 q_x12 ph0_S14 mo317 mo318 ph0_S21 mo319 bb_x29 iw_x29 c33 bb_x34 iw_x34 c38 bb_x39 iw_x39 c43 bb_x44 iw_x44 c48 hiv221 ph0_S223 mo320 ph0_S235 mo321 ph0_S247 mo322 ph0_S259 mo323 ph0_S272 mo324 ph0_S286 mo325 ph0_S301 mo326 q_x316 c327); rw [d_x316, d_kv305] at t; exact t), (by have t : x316 = 5 ∨ ¬ iv4 = 5 := (qr148 hiv4 r_kv8 r_kv9 r_kv10 hnf r_x12 q_x12 mo317 mo318 mo319 bb_x29 iw_x29 c33 bb_x34 iw_x34 c38 bb_x39 iw_x39 c43 bb_x44 iw_x44 c48 mo320 mo321 mo322 mo323 mo324 mo325 mo326 q_x316 c327); rw [di_9, d_x316] at t; exact t), (by have t : iv2 ≤ kv315 ∧ (x316 = 4 → iv2 < kv315 ∨ iv4 = 4) := (qr149 r_kv1 hiv2 hiv4 r_kv8 r_kv9 r_kv10 hnf r_x12 q_x12 mo317 r_kv19 ph2_S14 mo318 mo319 r_kv28 ph2_S21 bb_x29 iw_x29 c33 bb_x34 iw_x34 c38 bb_x39 iw_x39 c43 bb_x44 iw_x44 c48 mo320 r_kv230 ph2_S223 mo321 r_kv244 ph2_S235 mo322 r_kv257 ph2_S247 mo323 r_kv270 ph2_S259 mo324 r_kv284 ph2_S272 mo325 r_kv299 ph2_S286 mo326 r_kv315 ph2_S301 q_x316 c327); rw [di_8, di_9, d_kv315, d_x316] at t; exact t)⟩
      · refine u_X11_readWalker_74 ?_
        refine ⟨fun c391 => ?_, fun c391 => absurd (show (2 : Int32) = (-1 : Int32) from c391) (by decide)⟩
        refine u_X11_readWalker_85 ?_
        refine ⟨o_v0, ?_⟩
        obtain ⟨iv392, hiv392⟩ : ∃ z : Int32, z = kv25 := ⟨_, rfl⟩
        have d_iv392 := hiv392.trans d_kv25
        have do392_kv28 := d_kv28
        have do392_kv24 := d_kv24
        have do392_iv392 := d_iv392
        refine m_X11_goesOn hI o_v0 hG (by have t : kv24 = 5 → 0 < kv25 := (qr150 hiv4 hiv6 hO r_kv8 r_kv9 r_kv10 hnf r_x12 q_x12 ph0_S14 mo26 mo27 ph0_S21 ph1_S21 bb_x29 iw_x29 c33 bb_x34 iw_x34 c38 bb_x39 iw_x39 c43); rw [d_kv24, d_kv25] at t; exact t) (fun S394 hJ g395 fc396 p_S394 => ?_)
        obtain ⟨hG, pg0_S394, pg1_S394, pg2_S394⟩ := p_S394
        have hn := rn_fr fc396 g395 hI o_v0 (by decide) hn
        have hI := hJ
        have d_kv8 := d_kv8.trans (fri_at fc396 (by decide) (by decide) o_a7).symm
        have d_kv9 := d_kv9.trans (fri_at fc396 (by decide) (by decide) o_a7).symm
        have d_x12 := d_x12.trans (fri_at fc396 (by decide) (by decide) o_a7).symm
        have d_kv25 := d_kv25.trans (fri_at fc396 (by decide) (by decide) o_v0).symm
        have ea7 := (frr_at fc396 (by decide) (by decide) o_v0).trans ea7
        have f0 := fri_tr (S := S21) g0 f0 fc396 (by decide) (by decide)
        have o_a7 := gr_ob g395 o_a7
        have o_v0 := gr_ob g395 o_v0
        have g0 := gr_tr (T := S21) g0 g395
        obtain ⟨kv397, d_kv397⟩ : ∃ z : Int32, z = fI S394 v0 9 := ⟨_, rfl⟩
        have ph0_S394 : kv397 = 5 → 0 < kv25 := by rw [d_kv397, d_kv25]; exact pg0_S394
        have ph1_S394 : kv397 = 5 ∨ ¬ kv24 = 5 := by rw [do392_kv24, d_kv397]; exact pg1_S394
        have mo398 : kv397 = 5 ∨ ¬ kv3 = 5 := ph1_S394.elim Or.inl (fun h => Or.inr (mo26.resolve_left h))
        have mo399 : kv397 = 5 ∨ ¬ x12 = (4 : Int32) := ph1_S394.elim Or.inl (fun h => Or.inr (mo27.resolve_left h))
        have mo400 : kv397 = 5 ∨ ¬ kv17 = 5 := ph1_S394.elim Or.inl (fun h => Or.inr (ph1_S21.resolve_left h))
        obtain ⟨kv401, d_kv401⟩ : ∃ z : Int32, z = fI S394 v0 8 := ⟨_, rfl⟩
        have r_kv401 : (0 : Int32) ≤ kv401 ∧ kv401 ≤ (900 : Int32) := by rw [d_kv401]; exact nu 25 rfl hI o_v0
        have ph2_S394 : kv28 ≤ kv401 ∧ (kv397 = 4 → kv28 < kv401 ∨ kv24 = 4) := by rw [do392_kv28, do392_kv24, d_kv401, d_kv397]; exact pg2_S394
        intro _
        refine ⟨fun c402 => ?_, fun c402 => absurd (show (2 : Int32) = (1 : Int32) from c402) (by decide)⟩
        refine ⟨fun c403 => absurd (show ¬ (2 : Int32) = (2 : Int32) from c403) (by decide), fun c403 => ?_⟩
        have do403_kv401 := d_kv401
        have do403_kv397 := d_kv397
        have do403_kv25 := d_kv25
        refine m_X11_readWhole hI o_v0 hG (by have t : kv397 = 5 → 0 < kv25 := (qr151 hiv4 hiv6 hO r_kv8 r_kv9 r_kv10 hnf r_x12 q_x12 ph0_S14 mo398 mo399 ph0_S21 mo400 bb_x29 iw_x29 c33 bb_x34 iw_x34 c38 bb_x39 iw_x39 c43 hiv392 ph0_S394 ph1_S394); rw [d_kv397, d_kv25] at t; exact t) (fun x404 S405 hJ g406 fc407 p_x404 => ?_)
        obtain ⟨hG, p_x404, pg0_S405, pg1_S405, pg2_S405⟩ := p_x404
        have hn := rn_fr fc407 g406 hI o_v0 (by decide) hn
        have hI := hJ
        have d_kv8 := d_kv8.trans (fri_at fc407 (by decide) (by decide) o_a7).symm
        have d_kv9 := d_kv9.trans (fri_at fc407 (by decide) (by decide) o_a7).symm
        have d_x12 := d_x12.trans (fri_at fc407 (by decide) (by decide) o_a7).symm
        have ea7 := (frr_at fc407 (by decide) (by decide) o_v0).trans ea7
        have f0 := fri_tr (S := S394) g0 f0 fc407 (by decide) (by decide)
        have o_a7 := gr_ob g406 o_a7
        have o_v0 := gr_ob g406 o_v0
        have g0 := gr_tr (T := S394) g0 g406
        obtain ⟨kv408, d_kv408⟩ : ∃ z : Int32, z = fI S405 v0 9 := ⟨_, rfl⟩
        obtain ⟨kv409, d_kv409⟩ : ∃ z : Int32, z = fI S405 v0 13 := ⟨_, rfl⟩
        have ph0_S405 : kv408 = 5 → 0 < kv409 := by rw [d_kv408, d_kv409]; exact pg0_S405
        have ph1_S405 : kv408 = 5 ∨ ¬ kv397 = 5 := by rw [do403_kv397, d_kv408]; exact pg1_S405
        have mo410 : kv408 = 5 ∨ ¬ kv3 = 5 := ph1_S405.elim Or.inl (fun h => Or.inr (mo398.resolve_left h))
        have mo411 : kv408 = 5 ∨ ¬ x12 = (4 : Int32) := ph1_S405.elim Or.inl (fun h => Or.inr (mo399.resolve_left h))
        have mo412 : kv408 = 5 ∨ ¬ kv17 = 5 := ph1_S405.elim Or.inl (fun h => Or.inr (mo400.resolve_left h))
        have mo413 : kv408 = 5 ∨ ¬ kv24 = 5 := ph1_S405.elim Or.inl (fun h => Or.inr (ph1_S394.resolve_left h))
        obtain ⟨kv414, d_kv414⟩ : ∃ z : Int32, z = fI S405 v0 8 := ⟨_, rfl⟩
        have r_kv414 : (0 : Int32) ≤ kv414 ∧ kv414 ≤ (900 : Int32) := by rw [d_kv414]; exact nu 25 rfl hI o_v0
        have ph2_S405 : kv401 ≤ kv414 ∧ (kv408 = 4 → kv401 < kv414 ∨ kv397 = 4) := by rw [do403_kv401, do403_kv397, d_kv414, d_kv408]; exact pg2_S405
        intro _
        refine u_X11_readWalker_136 ?_
        refine ⟨fun c415 => ?_, fun c415 => absurd (show (2 : Int32) = (1 : Int32) from c415) (by decide)⟩
        refine u_X11_readWalker_149 ?_
        refine ⟨o_v0, ?_⟩
        have do415_kv414 := d_kv414
        have do415_kv408 := d_kv408
        have do415_kv409 := d_kv409
        refine m_X11_readPart hI o_v0 (by decide) hG (by have t : kv408 = 5 → 0 < kv409 := (qr152 hiv4 hiv6 hO r_kv8 r_kv9 r_kv10 hnf r_x12 q_x12 ph0_S14 mo410 mo411 ph0_S21 mo412 bb_x29 iw_x29 c33 bb_x34 iw_x34 c38 bb_x39 iw_x39 c43 hiv392 ph0_S394 mo413 ph0_S405 ph1_S405); rw [d_kv408, d_kv409] at t; exact t) (fun x416 S417 hJ g418 fc419 p_x416 => ?_)
        obtain ⟨hG, p_x416, pg0_S417, pg1_S417, pg2_S417⟩ := p_x416
        have hn := rn_fr fc419 g418 hI o_v0 (by decide) hn
        have hI := hJ
        have d_kv8 := d_kv8.trans (fri_at fc419 (by decide) (by decide) o_a7).symm
        have d_kv9 := d_kv9.trans (fri_at fc419 (by decide) (by decide) o_a7).symm
        have d_x12 := d_x12.trans (fri_at fc419 (by decide) (by decide) o_a7).symm
        have ea7 := (frr_at fc419 (by decide) (by decide) o_v0).trans ea7
        have f0 := fri_tr (S := S405) g0 f0 fc419 (by decide) (by decide)
        have o_a7 := gr_ob g418 o_a7
        have o_v0 := gr_ob g418 o_v0
        have g0 := gr_tr (T := S405) g0 g418
        obtain ⟨kv420, d_kv420⟩ : ∃ z : Int32, z = fI S417 v0 9 := ⟨_, rfl⟩
        obtain ⟨kv421, d_kv421⟩ : ∃ z : Int32, z = fI S417 v0 13 := ⟨_, rfl⟩
        have ph0_S417 : kv420 = 5 → 0 < kv421 := by rw [d_kv420, d_kv421]; exact pg0_S417
        have ph1_S417 : kv420 = 5 ∨ ¬ kv408 = 5 := by rw [do415_kv408, d_kv420]; exact pg1_S417
        have mo422 : kv420 = 5 ∨ ¬ kv3 = 5 := ph1_S417.elim Or.inl (fun h => Or.inr (mo410.resolve_left h))
        have mo423 : kv420 = 5 ∨ ¬ x12 = (4 : Int32) := ph1_S417.elim Or.inl (fun h => Or.inr (mo411.resolve_left h))
        have mo424 : kv420 = 5 ∨ ¬ kv17 = 5 := ph1_S417.elim Or.inl (fun h => Or.inr (mo412.resolve_left h))
        have mo425 : kv420 = 5 ∨ ¬ kv24 = 5 := ph1_S417.elim Or.inl (fun h => Or.inr (mo413.resolve_left h))
        have mo426 : kv420 = 5 ∨ ¬ kv397 = 5 := ph1_S417.elim Or.inl (fun h => Or.inr (ph1_S405.resolve_left h))
        obtain ⟨kv427, d_kv427⟩ : ∃ z : Int32, z = fI S417 v0 8 := ⟨_, rfl⟩
        have r_kv427 : (0 : Int32) ≤ kv427 ∧ kv427 ≤ (900 : Int32) := by rw [d_kv427]; exact nu 25 rfl hI o_v0
        have ph2_S417 : kv414 ≤ kv427 ∧ (kv420 = 4 → kv414 < kv427 ∨ kv408 = 4) := by rw [do415_kv414, do415_kv408, d_kv427, d_kv420]; exact pg2_S417
        intro _
        have do427_kv427 := d_kv427
        have do427_kv420 := d_kv420
        have do427_kv421 := d_kv421
        refine m_X11_readPart hI o_v0 (by decide) hG (by have t : kv420 = 5 → 0 < kv421 := (qr153 hiv4 hiv6 hO r_kv8 r_kv9 r_kv10 hnf r_x12 q_x12 ph0_S14 mo422 mo423 ph0_S21 mo424 bb_x29 iw_x29 c33 bb_x34 iw_x34 c38 bb_x39 iw_x39 c43 hiv392 ph0_S394 mo425 ph0_S405 mo426 ph0_S417 ph1_S417); rw [d_kv420, d_kv421] at t; exact t) (fun x428 S429 hJ g430 fc431 p_x428 => ?_)
        obtain ⟨hG, p_x428, pg0_S429, pg1_S429, pg2_S429⟩ := p_x428
        have hn := rn_fr fc431 g430 hI o_v0 (by decide) hn
        have hI := hJ
        have d_kv8 := d_kv8.trans (fri_at fc431 (by decide) (by decide) o_a7).symm
        have d_kv9 := d_kv9.trans (fri_at fc431 (by decide) (by decide) o_a7).symm
        have d_x12 := d_x12.trans (fri_at fc431 (by decide) (by decide) o_a7).symm
        have ea7 := (frr_at fc431 (by decide) (by decide) o_v0).trans ea7
        have f0 := fri_tr (S := S417) g0 f0 fc431 (by decide) (by decide)
        have o_a7 := gr_ob g430 o_a7
        have o_v0 := gr_ob g430 o_v0
        have g0 := gr_tr (T := S417) g0 g430
        obtain ⟨kv432, d_kv432⟩ : ∃ z : Int32, z = fI S429 v0 9 := ⟨_, rfl⟩
        obtain ⟨kv433, d_kv433⟩ : ∃ z : Int32, z = fI S429 v0 13 := ⟨_, rfl⟩
        have ph0_S429 : kv432 = 5 → 0 < kv433 := by rw [d_kv432, d_kv433]; exact pg0_S429
        have ph1_S429 : kv432 = 5 ∨ ¬ kv420 = 5 := by rw [do427_kv420, d_kv432]; exact pg1_S429
        have mo434 : kv432 = 5 ∨ ¬ kv3 = 5 := ph1_S429.elim Or.inl (fun h => Or.inr (mo422.resolve_left h))
        have mo435 : kv432 = 5 ∨ ¬ x12 = (4 : Int32) := ph1_S429.elim Or.inl (fun h => Or.inr (mo423.resolve_left h))
        have mo436 : kv432 = 5 ∨ ¬ kv17 = 5 := ph1_S429.elim Or.inl (fun h => Or.inr (mo424.resolve_left h))
        have mo437 : kv432 = 5 ∨ ¬ kv24 = 5 := ph1_S429.elim Or.inl (fun h => Or.inr (mo425.resolve_left h))
        have mo438 : kv432 = 5 ∨ ¬ kv397 = 5 := ph1_S429.elim Or.inl (fun h => Or.inr (mo426.resolve_left h))
        have mo439 : kv432 = 5 ∨ ¬ kv408 = 5 := ph1_S429.elim Or.inl (fun h => Or.inr (ph1_S417.resolve_left h))
        obtain ⟨kv440, d_kv440⟩ : ∃ z : Int32, z = fI S429 v0 8 := ⟨_, rfl⟩
        have r_kv440 : (0 : Int32) ≤ kv440 ∧ kv440 ≤ (900 : Int32) := by rw [d_kv440]; exact nu 25 rfl hI o_v0
        have ph2_S429 : kv427 ≤ kv440 ∧ (kv432 = 4 → kv427 < kv440 ∨ kv420 = 4) := by rw [do427_kv427, do427_kv420, d_kv440, d_kv432]; exact pg2_S429
        intro _
        have do440_kv440 := d_kv440
        have do440_kv432 := d_kv432
        have do440_kv433 := d_kv433
        refine m_X11_readPart hI o_v0 (by decide) hG (by have t : kv432 = 5 → 0 < kv433 := (qr154 hiv4 hiv6 hO r_kv8 r_kv9 r_kv10 hnf r_x12 q_x12 ph0_S14 mo434 mo435 ph0_S21 mo436 bb_x29 iw_x29 c33 bb_x34 iw_x34 c38 bb_x39 iw_x39 c43 hiv392 ph0_S394 mo437 ph0_S405 mo438 ph0_S417 mo439 ph0_S429 ph1_S429); rw [d_kv432, d_kv433] at t; exact t) (fun x441 S442 hJ g443 fc444 p_x441 => ?_)
        obtain ⟨hG, p_x441, pg0_S442, pg1_S442, pg2_S442⟩ := p_x441
        have hn := rn_fr fc444 g443 hI o_v0 (by decide) hn
        have hI := hJ
        have d_kv8 := d_kv8.trans (fri_at fc444 (by decide) (by decide) o_a7).symm
        have d_kv9 := d_kv9.trans (fri_at fc444 (by decide) (by decide) o_a7).symm
        have d_x12 := d_x12.trans (fri_at fc444 (by decide) (by decide) o_a7).symm
        have ea7 := (frr_at fc444 (by decide) (by decide) o_v0).trans ea7
        have f0 := fri_tr (S := S429) g0 f0 fc444 (by decide) (by decide)
        have o_a7 := gr_ob g443 o_a7
        have o_v0 := gr_ob g443 o_v0
        have g0 := gr_tr (T := S429) g0 g443
        obtain ⟨kv445, d_kv445⟩ : ∃ z : Int32, z = fI S442 v0 9 := ⟨_, rfl⟩
        obtain ⟨kv446, d_kv446⟩ : ∃ z : Int32, z = fI S442 v0 13 := ⟨_, rfl⟩
        have ph0_S442 : kv445 = 5 → 0 < kv446 := by rw [d_kv445, d_kv446]; exact pg0_S442
        have ph1_S442 : kv445 = 5 ∨ ¬ kv432 = 5 := by rw [do440_kv432, d_kv445]; exact pg1_S442
        have mo447 : kv445 = 5 ∨ ¬ kv3 = 5 := ph1_S442.elim Or.inl (fun h => Or.inr (mo434.resolve_left h))
        have mo448 : kv445 = 5 ∨ ¬ x12 = (4 : Int32) := ph1_S442.elim Or.inl (fun h => Or.inr (mo435.resolve_left h))
        have mo449 : kv445 = 5 ∨ ¬ kv17 = 5 := ph1_S442.elim Or.inl (fun h => Or.inr (mo436.resolve_left h))
        have mo450 : kv445 = 5 ∨ ¬ kv24 = 5 := ph1_S442.elim Or.inl (fun h => Or.inr (mo437.resolve_left h))
        have mo451 : kv445 = 5 ∨ ¬ kv397 = 5 := ph1_S442.elim Or.inl (fun h => Or.inr (mo438.resolve_left h))
        have mo452 : kv445 = 5 ∨ ¬ kv408 = 5 := ph1_S442.elim Or.inl (fun h => Or.inr (mo439.resolve_left h))
        have mo453 : kv445 = 5 ∨ ¬ kv420 = 5 := ph1_S442.elim Or.inl (fun h => Or.inr (ph1_S429.resolve_left h))
        obtain ⟨kv454, d_kv454⟩ : ∃ z : Int32, z = fI S442 v0 8 := ⟨_, rfl⟩
        have r_kv454 : (0 : Int32) ≤ kv454 ∧ kv454 ≤ (900 : Int32) := by rw [d_kv454]; exact nu 25 rfl hI o_v0
        have ph2_S442 : kv440 ≤ kv454 ∧ (kv445 = 4 → kv440 < kv454 ∨ kv432 = 4) := by rw [do440_kv440, do440_kv432, d_kv454, d_kv445]; exact pg2_S442
        intro _
        have do454_kv454 := d_kv454
        have do454_kv445 := d_kv445
        have do454_kv446 := d_kv446
        refine m_X11_readPart hI o_v0 (by decide) hG (by have t : kv445 = 5 → 0 < kv446 := (qr155 hiv4 hiv6 hO r_kv8 r_kv9 r_kv10 hnf r_x12 q_x12 ph0_S14 mo447 mo448 ph0_S21 mo449 bb_x29 iw_x29 c33 bb_x34 iw_x34 c38 bb_x39 iw_x39 c43 hiv392 ph0_S394 mo450 ph0_S405 mo451 ph0_S417 mo452 ph0_S429 mo453 ph0_S442 ph1_S442); rw [d_kv445, d_kv446] at t; exact t) (fun x455 S456 hJ g457 fc458 p_x455 => ?_)
        obtain ⟨hG, p_x455, pg0_S456, pg1_S456, pg2_S456⟩ := p_x455
        have hn := rn_fr fc458 g457 hI o_v0 (by decide) hn
        have hI := hJ
        have d_kv8 := d_kv8.trans (fri_at fc458 (by decide) (by decide) o_a7).symm
        have d_kv9 := d_kv9.trans (fri_at fc458 (by decide) (by decide) o_a7).symm
        have d_x12 := d_x12.trans (fri_at fc458 (by decide) (by decide) o_a7).symm
        have ea7 := (frr_at fc458 (by decide) (by decide) o_v0).trans ea7
        have f0 := fri_tr (S := S442) g0 f0 fc458 (by decide) (by decide)
        have o_a7 := gr_ob g457 o_a7
        have o_v0 := gr_ob g457 o_v0
        have g0 := gr_tr (T := S442) g0 g457
        obtain ⟨kv459, d_kv459⟩ : ∃ z : Int32, z = fI S456 v0 9 := ⟨_, rfl⟩
        obtain ⟨kv460, d_kv460⟩ : ∃ z : Int32, z = fI S456 v0 13 := ⟨_, rfl⟩
        have ph0_S456 : kv459 = 5 → 0 < kv460 := by rw [d_kv459, d_kv460]; exact pg0_S456
        have ph1_S456 : kv459 = 5 ∨ ¬ kv445 = 5 := by rw [do454_kv445, d_kv459]; exact pg1_S456
        have mo461 : kv459 = 5 ∨ ¬ kv3 = 5 := ph1_S456.elim Or.inl (fun h => Or.inr (mo447.resolve_left h))
        have mo462 : kv459 = 5 ∨ ¬ x12 = (4 : Int32) := ph1_S456.elim Or.inl (fun h => Or.inr (mo448.resolve_left h))
        have mo463 : kv459 = 5 ∨ ¬ kv17 = 5 := ph1_S456.elim Or.inl (fun h => Or.inr (mo449.resolve_left h))
        have mo464 : kv459 = 5 ∨ ¬ kv24 = 5 := ph1_S456.elim Or.inl (fun h => Or.inr (mo450.resolve_left h))
        have mo465 : kv459 = 5 ∨ ¬ kv397 = 5 := ph1_S456.elim Or.inl (fun h => Or.inr (mo451.resolve_left h))
        have mo466 : kv459 = 5 ∨ ¬ kv408 = 5 := ph1_S456.elim Or.inl (fun h => Or.inr (mo452.resolve_left h))
        have mo467 : kv459 = 5 ∨ ¬ kv420 = 5 := ph1_S456.elim Or.inl (fun h => Or.inr (mo453.resolve_left h))
        have mo468 : kv459 = 5 ∨ ¬ kv432 = 5 := ph1_S456.elim Or.inl (fun h => Or.inr (ph1_S442.resolve_left h))
        obtain ⟨kv469, d_kv469⟩ : ∃ z : Int32, z = fI S456 v0 8 := ⟨_, rfl⟩
        have r_kv469 : (0 : Int32) ≤ kv469 ∧ kv469 ≤ (900 : Int32) := by rw [d_kv469]; exact nu 25 rfl hI o_v0
        have ph2_S456 : kv454 ≤ kv469 ∧ (kv459 = 4 → kv454 < kv469 ∨ kv445 = 4) := by rw [do454_kv454, do454_kv445, d_kv469, d_kv459]; exact pg2_S456
        intro _
        have do469_kv469 := d_kv469
        have do469_kv459 := d_kv459
        have do469_kv460 := d_kv460
        refine m_X11_readPart hI o_v0 (by decide) hG (by have t : kv459 = 5 → 0 < kv460 := (qr156 hiv4 hiv6 hO r_kv8 r_kv9 r_kv10 hnf r_x12 q_x12 ph0_S14 mo461 mo462 ph0_S21 mo463 bb_x29 iw_x29 c33 bb_x34 iw_x34 c38 bb_x39 iw_x39 c43 hiv392 ph0_S394 mo464 ph0_S405 mo465 ph0_S417 mo466 ph0_S429 mo467 ph0_S442 mo468 ph0_S456 ph1_S456); rw [d_kv459, d_kv460] at t; exact t) (fun x470 S471 hJ g472 fc473 p_x470 => ?_)
        obtain ⟨hG, p_x470, pg0_S471, pg1_S471, pg2_S471⟩ := p_x470
        have hn := rn_fr fc473 g472 hI o_v0 (by decide) hn
        have hI := hJ
        have d_kv8 := d_kv8.trans (fri_at fc473 (by decide) (by decide) o_a7).symm
        have d_kv9 := d_kv9.trans (fri_at fc473 (by decide) (by decide) o_a7).symm
        have d_x12 := d_x12.trans (fri_at fc473 (by decide) (by decide) o_a7).symm
        have ea7 := (frr_at fc473 (by decide) (by decide) o_v0).trans ea7
        have f0 := fri_tr (S := S456) g0 f0 fc473 (by decide) (by decide)
        have o_a7 := gr_ob g472 o_a7
        have o_v0 := gr_ob g472 o_v0
        have g0 := gr_tr (T := S456) g0 g472
        obtain ⟨kv474, d_kv474⟩ : ∃ z : Int32, z = fI S471 v0 9 := ⟨_, rfl⟩
        obtain ⟨kv475, d_kv475⟩ : ∃ z : Int32, z = fI S471 v0 13 := ⟨_, rfl⟩
        have ph0_S471 : kv474 = 5 → 0 < kv475 := by rw [d_kv474, d_kv475]; exact pg0_S471
        have ph1_S471 : kv474 = 5 ∨ ¬ kv459 = 5 := by rw [do469_kv459, d_kv474]; exact pg1_S471
        have mo476 : kv474 = 5 ∨ ¬ kv3 = 5 := ph1_S471.elim Or.inl (fun h => Or.inr (mo461.resolve_left h))
        have mo477 : kv474 = 5 ∨ ¬ x12 = (4 : Int32) := ph1_S471.elim Or.inl (fun h => Or.inr (mo462.resolve_left h))
        have mo478 : kv474 = 5 ∨ ¬ kv17 = 5 := ph1_S471.elim Or.inl (fun h => Or.inr (mo463.resolve_left h))
        have mo479 : kv474 = 5 ∨ ¬ kv24 = 5 := ph1_S471.elim Or.inl (fun h => Or.inr (mo464.resolve_left h))
        have mo480 : kv474 = 5 ∨ ¬ kv397 = 5 := ph1_S471.elim Or.inl (fun h => Or.inr (mo465.resolve_left h))
        have mo481 : kv474 = 5 ∨ ¬ kv408 = 5 := ph1_S471.elim Or.inl (fun h => Or.inr (mo466.resolve_left h))
        have mo482 : kv474 = 5 ∨ ¬ kv420 = 5 := ph1_S471.elim Or.inl (fun h => Or.inr (mo467.resolve_left h))
        have mo483 : kv474 = 5 ∨ ¬ kv432 = 5 := ph1_S471.elim Or.inl (fun h => Or.inr (mo468.resolve_left h))
        have mo484 : kv474 = 5 ∨ ¬ kv445 = 5 := ph1_S471.elim Or.inl (fun h => Or.inr (ph1_S456.resolve_left h))
        obtain ⟨kv485, d_kv485⟩ : ∃ z : Int32, z = fI S471 v0 8 := ⟨_, rfl⟩
        have r_kv485 : (0 : Int32) ≤ kv485 ∧ kv485 ≤ (900 : Int32) := by rw [d_kv485]; exact nu 25 rfl hI o_v0
        have ph2_S471 : kv469 ≤ kv485 ∧ (kv474 = 4 → kv469 < kv485 ∨ kv459 = 4) := by rw [do469_kv469, do469_kv459, d_kv485, d_kv474]; exact pg2_S471
        intro _
        intro x486 ex486
        have q_x486 : x486 = kv474 := ex486.trans d_kv474.symm
        have mo487 : x486 = 5 ∨ ¬ kv3 = 5 := mo476.imp_left (fun z => q_x486.trans z)
        have mo488 : x486 = 5 ∨ ¬ x12 = (4 : Int32) := mo477.imp_left (fun z => q_x486.trans z)
        have mo489 : x486 = 5 ∨ ¬ kv17 = 5 := mo478.imp_left (fun z => q_x486.trans z)
        have mo490 : x486 = 5 ∨ ¬ kv24 = 5 := mo479.imp_left (fun z => q_x486.trans z)
        have mo491 : x486 = 5 ∨ ¬ kv397 = 5 := mo480.imp_left (fun z => q_x486.trans z)
        have mo492 : x486 = 5 ∨ ¬ kv408 = 5 := mo481.imp_left (fun z => q_x486.trans z)
        have mo493 : x486 = 5 ∨ ¬ kv420 = 5 := mo482.imp_left (fun z => q_x486.trans z)
        have mo494 : x486 = 5 ∨ ¬ kv432 = 5 := mo483.imp_left (fun z => q_x486.trans z)
        have mo495 : x486 = 5 ∨ ¬ kv445 = 5 := mo484.imp_left (fun z => q_x486.trans z)
        have mo496 : x486 = 5 ∨ ¬ kv459 = 5 := ph1_S471.imp_left (fun z => q_x486.trans z)
        have d_x486 := ex486
        refine ⟨fun c497 => ?_, fun c497 => ?_⟩
        · refine ⟨a7, ea7, ?_⟩
          refine ⟨o_a7, ?_⟩
          intro x499 ex499
          have r_x499 : (0 : Int32) ≤ x499 ∧ x499 ≤ (4 : Int32) := by rw [ex499]; exact nu 20 rfl hI o_a7
          have q_x499 : x499 = x12 := ex499.trans d_x12.symm
          have d_x499 := ex499
          refine u_X11_names ?_
          refine u_X11_names_0 ?_
          refine ⟨o_v0, ?_⟩
          refine ⟨a7, ea7, ?_⟩
          refine ⟨o_a7, ?_⟩
          obtain ⟨a501, ea501, o_a501, l_a501⟩ := shl 50 rfl hI o_a7
          refine ⟨a501, ea501, ?_⟩
          refine ⟨a7, ea7, ?_⟩
          refine ⟨o_a7, ?_⟩
          intro x503 ex503
          have r_x503 : (0 : Int32) ≤ x503 ∧ x503 ≤ (12 : Int32) := by rw [ex503]; exact nu 22 rfl hI o_a7
          have q_x503 : x503 = kv8 := ex503.trans d_kv8.symm
          have d_x503 := ex503
          refine ⟨o_a501, ?_⟩
          have i504 : vp_in x503 (hN _ a501) := (vin l_a501 (m := 12) (by decide) (qr157 hiv4 r_kv8 r_kv9 r_kv10 hnf r_x12 q_x12 mo487 mo488 mo489 bb_x29 iw_x29 c33 bb_x34 iw_x34 c38 bb_x39 iw_x39 c43 mo490 mo491 mo492 mo493 mo494 mo495 mo496 q_x486 c497 r_x499 q_x499 r_x503 q_x503))
          refine ⟨i504, ?_⟩
          intro S505 eS505
          have hIn : IV S505 := by rw [eS505]; exact iv10_aJ hI o_a7 (by decide) ea501
          have hG := rg_J eS505 hG
          have hn := rn_J eS505 hn
          have hI := hIn
          have f0 := fr_J eS505 f0
          have d_x503 := rd_J eS505 d_x503
          have d_kv9 := rd_J eS505 d_kv9
          have d_x499 := rd_J eS505 d_x499
          have d_x486 := rd_J eS505 d_x486
          have d_kv475 := rd_J eS505 d_kv475
          have d_kv485 := rd_J eS505 d_kv485
          have ea7 := rf_J eS505 ea7
          have ea501 := rf_J eS505 ea501
          have l_a501 := ln_J eS505 l_a501
          have g0 := gr_J eS505 g0
          have o_a501 := ob_J eS505 o_a501
          have o_a7 := ob_J eS505 o_a7
          have o_v0 := ob_J eS505 o_v0
          refine ⟨a7, ea7, ?_⟩
          refine ⟨o_a7, ?_⟩
          obtain ⟨a507, ea507, o_a507, l_a507⟩ := shl 51 rfl hI o_a7
          refine ⟨a507, ea507, ?_⟩
          refine ⟨a7, ea7, ?_⟩
          refine ⟨o_a7, ?_⟩
          intro x509 ex509
          have r_x509 : (0 : Int32) ≤ x509 ∧ x509 ≤ (12 : Int32) := by rw [ex509]; exact nu 22 rfl hI o_a7
          have q_x509 : x509 = x503 := ex509.trans d_x503.symm
          have d_x509 := ex509
          refine ⟨o_a507, ?_⟩
          have i510 : vp_in x509 (hN _ a507) := (vin l_a507 (m := 12) (by decide) (qr158 hiv4 r_kv8 r_kv9 r_kv10 hnf r_x12 q_x12 mo487 mo488 mo489 bb_x29 iw_x29 c33 bb_x34 iw_x34 c38 bb_x39 iw_x39 c43 mo490 mo491 mo492 mo493 mo494 mo495 mo496 q_x486 c497 r_x499 q_x499 r_x503 q_x503 r_x509 q_x509))
          refine ⟨i510, ?_⟩
          intro S511 eS511
          have hIn : IV S511 := by rw [eS511]; exact iv10_aI hI o_a7 (rg_nw hG ea7) ea507 o_a507 (by decide)
          have hG := rg_a (jj := 29) (x := x509) eS511 hI ea7 o_a7 ea507 o_a507 (by decide) (h1_no (by decide)) (fun _ => by rw [← d_kv9, ← d_x499]; exact (qr159 hiv4 r_kv8 r_kv9 r_kv10 hnf r_x12 q_x12 mo487 mo488 mo489 bb_x29 iw_x29 c33 bb_x34 iw_x34 c38 bb_x39 iw_x39 c43 mo490 mo491 mo492 mo493 mo494 mo495 mo496 q_x486 c497 r_x499 q_x499 r_x503 q_x503 r_x509 q_x509)) hG
          have hn := rn_11 eS511 hI o_v0 o_a507 (by decide) hn
          have hI := hIn
          have f0 := fr_A eS511 g0 f0 o_a507 (by decide)
          have d_x509 := rd_Ik eS511 o_a507 o_a7 (by decide) d_x509
          have d_kv9 := rd_Ik eS511 o_a507 o_a7 (by decide) d_kv9
          have d_x499 := rd_Ik eS511 o_a507 o_a7 (by decide) d_x499
          have d_x486 := rd_Ik eS511 o_a507 o_v0 (by decide) d_x486
          have d_kv475 := rd_Ik eS511 o_a507 o_v0 (by decide) d_kv475
          have d_kv485 := rd_Ik eS511 o_a507 o_v0 (by decide) d_kv485
          have ea7 := rf_I eS511 ea7
          have ea501 := rf_I eS511 ea501
          have ea507 := rf_I eS511 ea507
          have l_a501 := ln_I eS511 l_a501
          have l_a507 := ln_I eS511 l_a507
          have g0 := gr_I eS511 g0
          have o_a501 := ob_I eS511 o_a501
          have o_a507 := ob_I eS511 o_a507
          have o_a7 := ob_I eS511 o_a7
          have o_v0 := ob_I eS511 o_v0
          have el512 : fI S511 a507 x509.toNatClampNeg = (1 : Int32) := by rw [eS511]; exact u2_self _ _ _ _
          refine ⟨a7, ea7, ?_⟩
          refine ⟨o_a7, ?_⟩
          obtain ⟨a514, ea514, o_a514, l_a514⟩ := shl 52 rfl hI o_a7
          refine ⟨a514, ea514, ?_⟩
          refine ⟨a7, ea7, ?_⟩
          refine ⟨o_a7, ?_⟩
          intro x516 ex516
          have r_x516 : (0 : Int32) ≤ x516 ∧ x516 ≤ (12 : Int32) := by rw [ex516]; exact nu 22 rfl hI o_a7
          have q_x516 : x516 = x509 := ex516.trans d_x509.symm
          have d_x516 := ex516
          refine ⟨o_a514, ?_⟩
          have i517 : vp_in x516 (hN _ a514) := (vin l_a514 (m := 12) (by decide) (qr160 hiv4 r_kv8 r_kv9 r_kv10 hnf r_x12 q_x12 mo487 mo488 mo489 bb_x29 iw_x29 c33 bb_x34 iw_x34 c38 bb_x39 iw_x39 c43 mo490 mo491 mo492 mo493 mo494 mo495 mo496 q_x486 c497 r_x499 q_x499 r_x503 q_x503 r_x509 q_x509 r_x516 q_x516))
          refine ⟨i517, ?_⟩
          intro S518 eS518
          have hIn : IV S518 := by rw [eS518]; exact iv10_aI hI o_a7 (rg_nw hG ea7) ea514 o_a514 (by decide)
          have hG := rg_a (jj := 30) (x := x516) eS518 hI ea7 o_a7 ea514 o_a514 (by decide) (h1_no (by decide)) (fun _ => by rw [← d_kv9, ← d_x499]; exact (qr161 hiv4 r_kv8 r_kv9 r_kv10 hnf r_x12 q_x12 mo487 mo488 mo489 bb_x29 iw_x29 c33 bb_x34 iw_x34 c38 bb_x39 iw_x39 c43 mo490 mo491 mo492 mo493 mo494 mo495 mo496 q_x486 c497 r_x499 q_x499 r_x503 q_x503 r_x509 q_x509 r_x516 q_x516)) hG
          have hn := rn_11 eS518 hI o_v0 o_a514 (by decide) hn
          have el512 := el_ar eS518 (ow_ne hI o_a7 (by decide) o_a7 (by decide) ea514 ea507 (by decide)) el512
          have hI := hIn
          have f0 := fr_A eS518 g0 f0 o_a514 (by decide)
          have d_x516 := rd_Ik eS518 o_a514 o_a7 (by decide) d_x516
          have d_kv9 := rd_Ik eS518 o_a514 o_a7 (by decide) d_kv9
          have d_x499 := rd_Ik eS518 o_a514 o_a7 (by decide) d_x499
          have d_x486 := rd_Ik eS518 o_a514 o_v0 (by decide) d_x486
          have d_kv475 := rd_Ik eS518 o_a514 o_v0 (by decide) d_kv475
          have d_kv485 := rd_Ik eS518 o_a514 o_v0 (by decide) d_kv485
          have ea7 := rf_I eS518 ea7
          have ea501 := rf_I eS518 ea501
          have ea507 := rf_I eS518 ea507
          have ea514 := rf_I eS518 ea514
          have l_a501 := ln_I eS518 l_a501
          have l_a507 := ln_I eS518 l_a507
          have l_a514 := ln_I eS518 l_a514
          have g0 := gr_I eS518 g0
          have o_a501 := ob_I eS518 o_a501
          have o_a507 := ob_I eS518 o_a507
          have o_a514 := ob_I eS518 o_a514
          have o_a7 := ob_I eS518 o_a7
          have o_v0 := ob_I eS518 o_v0
          have el519 : fI S518 a514 x516.toNatClampNeg = x499 := by rw [eS518]; exact u2_self _ _ _ _
          refine ⟨a7, ea7, ?_⟩
          refine ⟨o_a7, ?_⟩
          intro x521 ex521
          have r_x521 : (0 : Int32) ≤ x521 ∧ x521 ≤ (12 : Int32) := by rw [ex521]; exact nu 22 rfl hI o_a7
          have q_x521 : x521 = x516 := ex521.trans d_x516.symm
          have d_x521 := ex521
          intro x522 ex522
          intro S523 eS523
          have hIn : IV S523 := by rw [eS523]; exact iv10_sI hI o_a7 (rg_nw hG ea7) (nu_one (lo := (0 : Int32)) (hi := (12 : Int32)) (by decide) (qr162 hiv4 r_kv8 r_kv9 r_kv10 hnf r_x12 q_x12 mo487 mo488 mo489 bb_x29 iw_x29 c33 bb_x34 iw_x34 c38 bb_x39 iw_x39 c43 mo490 mo491 mo492 mo493 mo494 mo495 mo496 q_x486 c497 r_x499 q_x499 r_x503 q_x503 r_x509 q_x509 r_x516 q_x516 r_x521 q_x521 ex522))
          have hG := rg_c eS523 hI ea7 o_a7 (by decide) hG
          have el512 := el_ob eS523 o_a7 o_a507 (by decide) el512
          have el519 := el_ob eS523 o_a7 o_a514 (by decide) el519
          have hI := hIn
          have f0 := fr_I eS523 g0 f0 o_a7 (by decide)
          have d_kv9 := rd_Ij eS523 (by decide) d_kv9
          have d_x499 := rd_Ij eS523 (by decide) d_x499
          have d_x486 := rd_Ik eS523 o_a7 o_v0 (by decide) d_x486
          have d_kv475 := rd_Ik eS523 o_a7 o_v0 (by decide) d_kv475
          have d_kv485 := rd_Ik eS523 o_a7 o_v0 (by decide) d_kv485
          have d_x522 := rd_Is eS523 (rfl : x522 = x522)
          have ea7 := rf_I eS523 ea7
          have ea501 := rf_I eS523 ea501
          have ea507 := rf_I eS523 ea507
          have ea514 := rf_I eS523 ea514
          have l_a501 := ln_I eS523 l_a501
          have l_a507 := ln_I eS523 l_a507
          have l_a514 := ln_I eS523 l_a514
          have g0 := gr_I eS523 g0
          have o_a501 := ob_I eS523 o_a501
          have o_a507 := ob_I eS523 o_a507
          have o_a514 := ob_I eS523 o_a514
          have o_a7 := ob_I eS523 o_a7
          have o_v0 := ob_I eS523 o_v0
          intro _
          refine ⟨a7, ea7, ?_⟩
          refine ⟨o_a7, ?_⟩
          obtain ⟨a525, ea525, o_a525, l_a525⟩ := shl 41 rfl hI o_a7
          refine ⟨a525, ea525, ?_⟩
          refine ⟨o_a525, ?_⟩
          have i526 : vp_in x499 (hN _ a525) := (vin l_a525 (m := 4) (by decide) (qr163 hiv4 r_kv8 r_kv9 r_kv10 hnf r_x12 q_x12 mo487 mo488 mo489 bb_x29 iw_x29 c33 bb_x34 iw_x34 c38 bb_x39 iw_x39 c43 mo490 mo491 mo492 mo493 mo494 mo495 mo496 q_x486 c497 r_x499 q_x499 r_x503 q_x503 r_x509 q_x509 r_x516 q_x516 r_x521 q_x521 ex522))
          refine ⟨i526, ?_⟩
          intro S527 eS527
          have hIn : IV S527 := by rw [eS527]; exact iv10_aI hI o_a7 (rg_nw hG ea7) ea525 o_a525 (by decide)
          have hG := rg_a (jj := 19) (x := x499) eS527 hI ea7 o_a7 ea525 o_a525 (by decide) (h1_no (by decide)) (h2_no (y := 0) (by decide)) hG
          have el512 := el_ar eS527 (ow_ne hI o_a7 (by decide) o_a7 (by decide) ea525 ea507 (by decide)) el512
          have el519 := el_ar eS527 (ow_ne hI o_a7 (by decide) o_a7 (by decide) ea525 ea514 (by decide)) el519
          have hI := hIn
          have f0 := fr_A eS527 g0 f0 o_a525 (by decide)
          have d_kv9 := rd_Ik eS527 o_a525 o_a7 (by decide) d_kv9
          have d_x499 := rd_Ik eS527 o_a525 o_a7 (by decide) d_x499
          have d_x486 := rd_Ik eS527 o_a525 o_v0 (by decide) d_x486
          have d_kv475 := rd_Ik eS527 o_a525 o_v0 (by decide) d_kv475
          have d_kv485 := rd_Ik eS527 o_a525 o_v0 (by decide) d_kv485
          have d_x522 := rd_Ik eS527 o_a525 o_a7 (by decide) d_x522
          have ea7 := rf_I eS527 ea7
          have ea501 := rf_I eS527 ea501
          have ea507 := rf_I eS527 ea507
          have ea514 := rf_I eS527 ea514
          have ea525 := rf_I eS527 ea525
          have l_a501 := ln_I eS527 l_a501
          have l_a507 := ln_I eS527 l_a507
          have l_a514 := ln_I eS527 l_a514
          have l_a525 := ln_I eS527 l_a525
          have g0 := gr_I eS527 g0
          have o_a501 := ob_I eS527 o_a501
          have o_a507 := ob_I eS527 o_a507
          have o_a514 := ob_I eS527 o_a514
          have o_a525 := ob_I eS527 o_a525
          have o_a7 := ob_I eS527 o_a7
          have o_v0 := ob_I eS527 o_v0
          refine ⟨a7, ea7, ?_⟩
          refine ⟨o_a7, ?_⟩
          obtain ⟨a529, ea529, o_a529, l_a529⟩ := shl 42 rfl hI o_a7
          refine ⟨a529, ea529, ?_⟩
          refine ⟨o_a529, ?_⟩
          have i530 : vp_in x499 (hN _ a529) := (vin l_a529 (m := 4) (by decide) (qr163 hiv4 r_kv8 r_kv9 r_kv10 hnf r_x12 q_x12 mo487 mo488 mo489 bb_x29 iw_x29 c33 bb_x34 iw_x34 c38 bb_x39 iw_x39 c43 mo490 mo491 mo492 mo493 mo494 mo495 mo496 q_x486 c497 r_x499 q_x499 r_x503 q_x503 r_x509 q_x509 r_x516 q_x516 r_x521 q_x521 ex522))
          refine ⟨i530, ?_⟩
          intro S531 eS531
          have hIn : IV S531 := by rw [eS531]; exact iv10_aI hI o_a7 (rg_nw hG ea7) ea529 o_a529 (by decide)
          have hG := rg_a (jj := 20) (x := x499) eS531 hI ea7 o_a7 ea529 o_a529 (by decide) (h1_no (by decide)) (h2_no (y := 0) (by decide)) hG
          have el512 := el_ar eS531 (ow_ne hI o_a7 (by decide) o_a7 (by decide) ea529 ea507 (by decide)) el512
          have el519 := el_ar eS531 (ow_ne hI o_a7 (by decide) o_a7 (by decide) ea529 ea514 (by decide)) el519
          have hI := hIn
          have f0 := fr_A eS531 g0 f0 o_a529 (by decide)
          have d_kv9 := rd_Ik eS531 o_a529 o_a7 (by decide) d_kv9
          have d_x499 := rd_Ik eS531 o_a529 o_a7 (by decide) d_x499
          have d_x486 := rd_Ik eS531 o_a529 o_v0 (by decide) d_x486
          have d_kv475 := rd_Ik eS531 o_a529 o_v0 (by decide) d_kv475
          have d_kv485 := rd_Ik eS531 o_a529 o_v0 (by decide) d_kv485
          have d_x522 := rd_Ik eS531 o_a529 o_a7 (by decide) d_x522
          have ea7 := rf_I eS531 ea7
          have ea501 := rf_I eS531 ea501
          have ea507 := rf_I eS531 ea507
          have ea514 := rf_I eS531 ea514
          have ea525 := rf_I eS531 ea525
          have ea529 := rf_I eS531 ea529
          have l_a501 := ln_I eS531 l_a501
          have l_a507 := ln_I eS531 l_a507
          have l_a514 := ln_I eS531 l_a514
          have l_a525 := ln_I eS531 l_a525
          have l_a529 := ln_I eS531 l_a529
          have g0 := gr_I eS531 g0
          have o_a501 := ob_I eS531 o_a501
          have o_a507 := ob_I eS531 o_a507
          have o_a514 := ob_I eS531 o_a514
          have o_a525 := ob_I eS531 o_a525
          have o_a529 := ob_I eS531 o_a529
          have o_a7 := ob_I eS531 o_a7
          have o_v0 := ob_I eS531 o_v0
          refine ⟨a7, ea7, ?_⟩
          refine ⟨o_a7, ?_⟩
          obtain ⟨a533, ea533, o_a533, l_a533⟩ := shl 43 rfl hI o_a7
          refine ⟨a533, ea533, ?_⟩
          refine ⟨o_a533, ?_⟩
          intro x534 ex534
          have i535 : vp_in x499 (hN _ a533) := (vin l_a533 (m := 4) (by decide) (qr163 hiv4 r_kv8 r_kv9 r_kv10 hnf r_x12 q_x12 mo487 mo488 mo489 bb_x29 iw_x29 c33 bb_x34 iw_x34 c38 bb_x39 iw_x39 c43 mo490 mo491 mo492 mo493 mo494 mo495 mo496 q_x486 c497 r_x499 q_x499 r_x503 q_x503 r_x509 q_x509 r_x516 q_x516 r_x521 q_x521 ex522))
          refine ⟨i535, ?_⟩
          intro S536 eS536
          have hIn : IV S536 := by rw [eS536]; exact iv10_aI hI o_a7 (rg_nw hG ea7) ea533 o_a533 (by decide)
          have hG := rg_a (jj := 21) (x := x499) eS536 hI ea7 o_a7 ea533 o_a533 (by decide) (h1_no (by decide)) (h2_no (y := 0) (by decide)) hG
          have el512 := el_ar eS536 (ow_ne hI o_a7 (by decide) o_a7 (by decide) ea533 ea507 (by decide)) el512
          have el519 := el_ar eS536 (ow_ne hI o_a7 (by decide) o_a7 (by decide) ea533 ea514 (by decide)) el519
          have hI := hIn
          have f0 := fr_A eS536 g0 f0 o_a533 (by decide)
          have d_kv9 := rd_Ik eS536 o_a533 o_a7 (by decide) d_kv9
          have d_x499 := rd_Ik eS536 o_a533 o_a7 (by decide) d_x499
          have d_x486 := rd_Ik eS536 o_a533 o_v0 (by decide) d_x486
          have d_kv475 := rd_Ik eS536 o_a533 o_v0 (by decide) d_kv475
          have d_kv485 := rd_Ik eS536 o_a533 o_v0 (by decide) d_kv485
          have d_x522 := rd_Ik eS536 o_a533 o_a7 (by decide) d_x522
          have ea7 := rf_I eS536 ea7
          have ea501 := rf_I eS536 ea501
          have ea507 := rf_I eS536 ea507
          have ea514 := rf_I eS536 ea514
          have ea525 := rf_I eS536 ea525
          have ea529 := rf_I eS536 ea529
          have ea533 := rf_I eS536 ea533
          have l_a501 := ln_I eS536 l_a501
          have l_a507 := ln_I eS536 l_a507
          have l_a514 := ln_I eS536 l_a514
          have l_a525 := ln_I eS536 l_a525
          have l_a529 := ln_I eS536 l_a529
          have l_a533 := ln_I eS536 l_a533
          have g0 := gr_I eS536 g0
          have o_a501 := ob_I eS536 o_a501
          have o_a507 := ob_I eS536 o_a507
          have o_a514 := ob_I eS536 o_a514
          have o_a525 := ob_I eS536 o_a525
          have o_a529 := ob_I eS536 o_a529
          have o_a533 := ob_I eS536 o_a533
          have o_a7 := ob_I eS536 o_a7
          have o_v0 := ob_I eS536 o_v0
          refine ⟨a7, ea7, ?_⟩
          refine ⟨o_a7, ?_⟩
          obtain ⟨a538, ea538, o_a538, l_a538⟩ := shl 44 rfl hI o_a7
          refine ⟨a538, ea538, ?_⟩
          refine ⟨o_a538, ?_⟩
          intro x539 ex539
          have i540 : vp_in x499 (hN _ a538) := (vin l_a538 (m := 4) (by decide) (qr163 hiv4 r_kv8 r_kv9 r_kv10 hnf r_x12 q_x12 mo487 mo488 mo489 bb_x29 iw_x29 c33 bb_x34 iw_x34 c38 bb_x39 iw_x39 c43 mo490 mo491 mo492 mo493 mo494 mo495 mo496 q_x486 c497 r_x499 q_x499 r_x503 q_x503 r_x509 q_x509 r_x516 q_x516 r_x521 q_x521 ex522))
          refine ⟨i540, ?_⟩
          intro S541 eS541
          have hIn : IV S541 := by rw [eS541]; exact iv10_aI hI o_a7 (rg_nw hG ea7) ea538 o_a538 (by decide)
          have hG := rg_a (jj := 22) (x := x499) eS541 hI ea7 o_a7 ea538 o_a538 (by decide) (h1_no (by decide)) (h2_no (y := 0) (by decide)) hG
          have el512 := el_ar eS541 (ow_ne hI o_a7 (by decide) o_a7 (by decide) ea538 ea507 (by decide)) el512
          have el519 := el_ar eS541 (ow_ne hI o_a7 (by decide) o_a7 (by decide) ea538 ea514 (by decide)) el519
          have hI := hIn
          have f0 := fr_A eS541 g0 f0 o_a538 (by decide)
          have d_kv9 := rd_Ik eS541 o_a538 o_a7 (by decide) d_kv9
          have d_x499 := rd_Ik eS541 o_a538 o_a7 (by decide) d_x499
          have d_x486 := rd_Ik eS541 o_a538 o_v0 (by decide) d_x486
          have d_kv475 := rd_Ik eS541 o_a538 o_v0 (by decide) d_kv475
          have d_kv485 := rd_Ik eS541 o_a538 o_v0 (by decide) d_kv485
          have d_x522 := rd_Ik eS541 o_a538 o_a7 (by decide) d_x522
          have ea7 := rf_I eS541 ea7
          have ea501 := rf_I eS541 ea501
          have ea507 := rf_I eS541 ea507
          have ea514 := rf_I eS541 ea514
          have ea525 := rf_I eS541 ea525
          have ea529 := rf_I eS541 ea529
          have ea533 := rf_I eS541 ea533
          have ea538 := rf_I eS541 ea538
          have l_a501 := ln_I eS541 l_a501
          have l_a507 := ln_I eS541 l_a507
          have l_a514 := ln_I eS541 l_a514
          have l_a525 := ln_I eS541 l_a525
          have l_a529 := ln_I eS541 l_a529
          have l_a533 := ln_I eS541 l_a533
          have l_a538 := ln_I eS541 l_a538
          have g0 := gr_I eS541 g0
          have o_a501 := ob_I eS541 o_a501
          have o_a507 := ob_I eS541 o_a507
          have o_a514 := ob_I eS541 o_a514
          have o_a525 := ob_I eS541 o_a525
          have o_a529 := ob_I eS541 o_a529
          have o_a533 := ob_I eS541 o_a533
          have o_a538 := ob_I eS541 o_a538
          have o_a7 := ob_I eS541 o_a7
          have o_v0 := ob_I eS541 o_v0
          refine ⟨a7, ea7, ?_⟩
          refine ⟨o_a7, ?_⟩
          obtain ⟨a543, ea543, o_a543, l_a543⟩ := shl 45 rfl hI o_a7
          refine ⟨a543, ea543, ?_⟩
          refine ⟨o_a543, ?_⟩
          intro x544 ex544
          have i545 : vp_in x499 (hN _ a543) := (vin l_a543 (m := 4) (by decide) (qr163 hiv4 r_kv8 r_kv9 r_kv10 hnf r_x12 q_x12 mo487 mo488 mo489 bb_x29 iw_x29 c33 bb_x34 iw_x34 c38 bb_x39 iw_x39 c43 mo490 mo491 mo492 mo493 mo494 mo495 mo496 q_x486 c497 r_x499 q_x499 r_x503 q_x503 r_x509 q_x509 r_x516 q_x516 r_x521 q_x521 ex522))
          refine ⟨i545, ?_⟩
          intro S546 eS546
          have hIn : IV S546 := by rw [eS546]; exact iv10_aI hI o_a7 (rg_nw hG ea7) ea543 o_a543 (by decide)
          have hG := rg_a (jj := 23) (x := x499) eS546 hI ea7 o_a7 ea543 o_a543 (by decide) (h1_no (by decide)) (h2_no (y := 0) (by decide)) hG
          have el512 := el_ar eS546 (ow_ne hI o_a7 (by decide) o_a7 (by decide) ea543 ea507 (by decide)) el512
          have el519 := el_ar eS546 (ow_ne hI o_a7 (by decide) o_a7 (by decide) ea543 ea514 (by decide)) el519
          have hI := hIn
          have f0 := fr_A eS546 g0 f0 o_a543 (by decide)
          have d_kv9 := rd_Ik eS546 o_a543 o_a7 (by decide) d_kv9
          have d_x499 := rd_Ik eS546 o_a543 o_a7 (by decide) d_x499
          have d_x486 := rd_Ik eS546 o_a543 o_v0 (by decide) d_x486
          have d_kv475 := rd_Ik eS546 o_a543 o_v0 (by decide) d_kv475
          have d_kv485 := rd_Ik eS546 o_a543 o_v0 (by decide) d_kv485
          have d_x522 := rd_Ik eS546 o_a543 o_a7 (by decide) d_x522
          have ea7 := rf_I eS546 ea7
          have ea501 := rf_I eS546 ea501
          have ea507 := rf_I eS546 ea507
          have ea514 := rf_I eS546 ea514
          have ea525 := rf_I eS546 ea525
          have ea529 := rf_I eS546 ea529
          have ea533 := rf_I eS546 ea533
          have ea538 := rf_I eS546 ea538
          have ea543 := rf_I eS546 ea543
          have l_a501 := ln_I eS546 l_a501
          have l_a507 := ln_I eS546 l_a507
          have l_a514 := ln_I eS546 l_a514
          have l_a525 := ln_I eS546 l_a525
          have l_a529 := ln_I eS546 l_a529
          have l_a533 := ln_I eS546 l_a533
          have l_a538 := ln_I eS546 l_a538
          have l_a543 := ln_I eS546 l_a543
          have g0 := gr_I eS546 g0
          have o_a501 := ob_I eS546 o_a501
          have o_a507 := ob_I eS546 o_a507
          have o_a514 := ob_I eS546 o_a514
          have o_a525 := ob_I eS546 o_a525
          have o_a529 := ob_I eS546 o_a529
          have o_a533 := ob_I eS546 o_a533
          have o_a538 := ob_I eS546 o_a538
          have o_a543 := ob_I eS546 o_a543
          have o_a7 := ob_I eS546 o_a7
          have o_v0 := ob_I eS546 o_v0
          refine ⟨a7, ea7, ?_⟩
          refine ⟨o_a7, ?_⟩
          obtain ⟨a548, ea548, o_a548, l_a548⟩ := shl 46 rfl hI o_a7
          refine ⟨a548, ea548, ?_⟩
          refine ⟨o_a548, ?_⟩
          have i549 : vp_in x499 (hN _ a548) := (vin l_a548 (m := 4) (by decide) (qr163 hiv4 r_kv8 r_kv9 r_kv10 hnf r_x12 q_x12 mo487 mo488 mo489 bb_x29 iw_x29 c33 bb_x34 iw_x34 c38 bb_x39 iw_x39 c43 mo490 mo491 mo492 mo493 mo494 mo495 mo496 q_x486 c497 r_x499 q_x499 r_x503 q_x503 r_x509 q_x509 r_x516 q_x516 r_x521 q_x521 ex522))
          refine ⟨i549, ?_⟩
          intro S550 eS550
          have hIn : IV S550 := by rw [eS550]; exact iv10_aI hI o_a7 (rg_nw hG ea7) ea548 o_a548 (by decide)
          have hG := rg_a (jj := 24) (x := x499) eS550 hI ea7 o_a7 ea548 o_a548 (by decide) (h1_one (c := 4) (lo := 1) (hi := 9) (hf := 99) (by decide) d_x499.symm) (h2_no (y := 0) (by decide)) hG
          have el512 := el_ar eS550 (ow_ne hI o_a7 (by decide) o_a7 (by decide) ea548 ea507 (by decide)) el512
          have el519 := el_ar eS550 (ow_ne hI o_a7 (by decide) o_a7 (by decide) ea548 ea514 (by decide)) el519
          have hI := hIn
          have f0 := fr_A eS550 g0 f0 o_a548 (by decide)
          have d_kv9 := rd_Ik eS550 o_a548 o_a7 (by decide) d_kv9
          have d_x499 := rd_Ik eS550 o_a548 o_a7 (by decide) d_x499
          have d_x486 := rd_Ik eS550 o_a548 o_v0 (by decide) d_x486
          have d_kv475 := rd_Ik eS550 o_a548 o_v0 (by decide) d_kv475
          have d_kv485 := rd_Ik eS550 o_a548 o_v0 (by decide) d_kv485
          have d_x522 := rd_Ik eS550 o_a548 o_a7 (by decide) d_x522
          have ea7 := rf_I eS550 ea7
          have ea501 := rf_I eS550 ea501
          have ea507 := rf_I eS550 ea507
          have ea514 := rf_I eS550 ea514
          have ea525 := rf_I eS550 ea525
          have ea529 := rf_I eS550 ea529
          have ea533 := rf_I eS550 ea533
          have ea538 := rf_I eS550 ea538
          have ea543 := rf_I eS550 ea543
          have ea548 := rf_I eS550 ea548
          have l_a501 := ln_I eS550 l_a501
          have l_a507 := ln_I eS550 l_a507
          have l_a514 := ln_I eS550 l_a514
          have l_a525 := ln_I eS550 l_a525
          have l_a529 := ln_I eS550 l_a529
          have l_a533 := ln_I eS550 l_a533
          have l_a538 := ln_I eS550 l_a538
          have l_a543 := ln_I eS550 l_a543
          have l_a548 := ln_I eS550 l_a548
          have g0 := gr_I eS550 g0
          have o_a501 := ob_I eS550 o_a501
          have o_a507 := ob_I eS550 o_a507
          have o_a514 := ob_I eS550 o_a514
          have o_a525 := ob_I eS550 o_a525
          have o_a529 := ob_I eS550 o_a529
          have o_a533 := ob_I eS550 o_a533
          have o_a538 := ob_I eS550 o_a538
          have o_a543 := ob_I eS550 o_a543
          have o_a548 := ob_I eS550 o_a548
          have o_a7 := ob_I eS550 o_a7
          have o_v0 := ob_I eS550 o_v0
          have el551 : fI S550 a548 x499.toNatClampNeg = x455 := by rw [eS550]; exact u2_self _ _ _ _
          refine ⟨a7, ea7, ?_⟩
          refine ⟨o_a7, ?_⟩
          obtain ⟨a553, ea553, o_a553, l_a553⟩ := shl 47 rfl hI o_a7
          refine ⟨a553, ea553, ?_⟩
          refine ⟨o_a553, ?_⟩
          have i554 : vp_in x499 (hN _ a553) := (vin l_a553 (m := 4) (by decide) (qr163 hiv4 r_kv8 r_kv9 r_kv10 hnf r_x12 q_x12 mo487 mo488 mo489 bb_x29 iw_x29 c33 bb_x34 iw_x34 c38 bb_x39 iw_x39 c43 mo490 mo491 mo492 mo493 mo494 mo495 mo496 q_x486 c497 r_x499 q_x499 r_x503 q_x503 r_x509 q_x509 r_x516 q_x516 r_x521 q_x521 ex522))
          refine ⟨i554, ?_⟩
          intro S555 eS555
          have hIn : IV S555 := by rw [eS555]; exact iv10_aI hI o_a7 (rg_nw hG ea7) ea553 o_a553 (by decide)
          have hG := rg_a (jj := 25) (x := x499) eS555 hI ea7 o_a7 ea553 o_a553 (by decide) (h1_one (c := 4) (lo := 0) (hi := 9) (hf := 99) (by decide) d_x499.symm) (h2_no (y := 0) (by decide)) hG
          have el512 := el_ar eS555 (ow_ne hI o_a7 (by decide) o_a7 (by decide) ea553 ea507 (by decide)) el512
          have el519 := el_ar eS555 (ow_ne hI o_a7 (by decide) o_a7 (by decide) ea553 ea514 (by decide)) el519
          have el551 := el_ar eS555 (ow_ne hI o_a7 (by decide) o_a7 (by decide) ea553 ea548 (by decide)) el551
          have hI := hIn
          have f0 := fr_A eS555 g0 f0 o_a553 (by decide)
          have d_kv9 := rd_Ik eS555 o_a553 o_a7 (by decide) d_kv9
          have d_x499 := rd_Ik eS555 o_a553 o_a7 (by decide) d_x499
          have d_x486 := rd_Ik eS555 o_a553 o_v0 (by decide) d_x486
          have d_kv475 := rd_Ik eS555 o_a553 o_v0 (by decide) d_kv475
          have d_kv485 := rd_Ik eS555 o_a553 o_v0 (by decide) d_kv485
          have d_x522 := rd_Ik eS555 o_a553 o_a7 (by decide) d_x522
          have ea7 := rf_I eS555 ea7
          have ea501 := rf_I eS555 ea501
          have ea507 := rf_I eS555 ea507
          have ea514 := rf_I eS555 ea514
          have ea525 := rf_I eS555 ea525
          have ea529 := rf_I eS555 ea529
          have ea533 := rf_I eS555 ea533
          have ea538 := rf_I eS555 ea538
          have ea543 := rf_I eS555 ea543
          have ea548 := rf_I eS555 ea548
          have ea553 := rf_I eS555 ea553
          have l_a501 := ln_I eS555 l_a501
          have l_a507 := ln_I eS555 l_a507
          have l_a514 := ln_I eS555 l_a514
          have l_a525 := ln_I eS555 l_a525
          have l_a529 := ln_I eS555 l_a529
          have l_a533 := ln_I eS555 l_a533
          have l_a538 := ln_I eS555 l_a538
          have l_a543 := ln_I eS555 l_a543
          have l_a548 := ln_I eS555 l_a548
          have l_a553 := ln_I eS555 l_a553
          have g0 := gr_I eS555 g0
          have o_a501 := ob_I eS555 o_a501
          have o_a507 := ob_I eS555 o_a507
          have o_a514 := ob_I eS555 o_a514
          have o_a525 := ob_I eS555 o_a525
          have o_a529 := ob_I eS555 o_a529
          have o_a533 := ob_I eS555 o_a533
          have o_a538 := ob_I eS555 o_a538
          have o_a543 := ob_I eS555 o_a543
          have o_a548 := ob_I eS555 o_a548
          have o_a553 := ob_I eS555 o_a553
          have o_a7 := ob_I eS555 o_a7
          have o_v0 := ob_I eS555 o_v0
          have el556 : fI S555 a553 x499.toNatClampNeg = x470 := by rw [eS555]; exact u2_self _ _ _ _
          refine ⟨a7, ea7, ?_⟩
          refine ⟨o_a7, ?_⟩
          intro x558 ex558
          have r_x558 : (0 : Int32) ≤ x558 ∧ x558 ≤ (4 : Int32) := by rw [ex558]; exact nu 20 rfl hI o_a7
          have q_x558 : x558 = x499 := ex558.trans d_x499.symm
          have d_x558 := ex558
          intro x559 ex559
          intro S560 eS560
          have hIn : IV S560 := by rw [eS560]; exact iv10_sI hI o_a7 (rg_nw hG ea7) (nu_one (lo := (0 : Int32)) (hi := (4 : Int32)) (by decide) (qr164 hiv4 r_kv8 r_kv9 r_kv10 hnf r_x12 q_x12 mo487 mo488 mo489 bb_x29 iw_x29 c33 bb_x34 iw_x34 c38 bb_x39 iw_x39 c43 mo490 mo491 mo492 mo493 mo494 mo495 mo496 q_x486 c497 r_x499 q_x499 r_x503 q_x503 r_x509 q_x509 r_x516 q_x516 r_x521 q_x521 ex522 r_x558 q_x558 ex559))
          have hG := rg_inc (c := 4) (y := x558) eS560 hI ea7 o_a7 d_x558.symm (qr165 hiv4 r_kv8 r_kv9 r_kv10 hnf r_x12 q_x12 mo487 mo488 mo489 bb_x29 iw_x29 c33 bb_x34 iw_x34 c38 bb_x39 iw_x39 c43 mo490 mo491 mo492 mo493 mo494 mo495 mo496 q_x486 c497 r_x499 q_x499 r_x503 q_x503 r_x509 q_x509 r_x516 q_x516 r_x521 q_x521 ex522 r_x558 q_x558 ex559) (qr166 hiv4 r_kv8 r_kv9 r_kv10 hnf r_x12 q_x12 mo487 mo488 mo489 bb_x29 iw_x29 c33 bb_x34 iw_x34 c38 bb_x39 iw_x39 c43 mo490 mo491 mo492 mo493 mo494 mo495 mo496 q_x486 c497 r_x499 q_x499 r_x503 q_x503 r_x509 q_x509 r_x516 q_x516 r_x521 q_x521 ex522 r_x558 q_x558 ex559) (hn_4 ea548 (by rw [show x558 = x499 from (qr171 hiv4 r_kv8 r_kv9 r_kv10 hnf r_x12 q_x12 mo487 mo488 mo489 bb_x29 iw_x29 c33 bb_x34 iw_x34 c38 bb_x39 iw_x39 c43 mo490 mo491 mo492 mo493 mo494 mo495 mo496 q_x486 c497 r_x499 q_x499 r_x503 q_x503 r_x509 q_x509 r_x516 q_x516 r_x521 q_x521 ex522 r_x558 q_x558 ex559), el551]; exact ⟨(qr172 hiv4 r_kv8 r_kv9 r_kv10 hnf r_x12 q_x12 mo487 mo488 mo489 bb_x29 iw_x29 c33 bb_x34 iw_x34 c38 bb_x39 iw_x39 c43 mo490 mo491 mo492 mo493 mo494 mo495 p_x455 mo496 p_x470 q_x486 c497 r_x499 q_x499 r_x503 q_x503 r_x509 q_x509 r_x516 q_x516 r_x521 q_x521 ex522 r_x558 q_x558 ex559), (qr173 hiv4 r_kv8 r_kv9 r_kv10 hnf r_x12 q_x12 mo487 mo488 mo489 bb_x29 iw_x29 c33 bb_x34 iw_x34 c38 bb_x39 iw_x39 c43 mo490 mo491 mo492 mo493 mo494 mo495 p_x455 mo496 p_x470 q_x486 c497 r_x499 q_x499 r_x503 q_x503 r_x509 q_x509 r_x516 q_x516 r_x521 q_x521 ex522 r_x558 q_x558 ex559), Or.inl rfl⟩) ea553 (by rw [show x558 = x499 from (qr171 hiv4 r_kv8 r_kv9 r_kv10 hnf r_x12 q_x12 mo487 mo488 mo489 bb_x29 iw_x29 c33 bb_x34 iw_x34 c38 bb_x39 iw_x39 c43 mo490 mo491 mo492 mo493 mo494 mo495 mo496 q_x486 c497 r_x499 q_x499 r_x503 q_x503 r_x509 q_x509 r_x516 q_x516 r_x521 q_x521 ex522 r_x558 q_x558 ex559), el556]; exact ⟨(qr174 hiv4 r_kv8 r_kv9 r_kv10 hnf r_x12 q_x12 mo487 mo488 mo489 bb_x29 iw_x29 c33 bb_x34 iw_x34 c38 bb_x39 iw_x39 c43 mo490 mo491 mo492 mo493 mo494 mo495 p_x455 mo496 p_x470 q_x486 c497 r_x499 q_x499 r_x503 q_x503 r_x509 q_x509 r_x516 q_x516 r_x521 q_x521 ex522 r_x558 q_x558 ex559), (qr175 hiv4 r_kv8 r_kv9 r_kv10 hnf r_x12 q_x12 mo487 mo488 mo489 bb_x29 iw_x29 c33 bb_x34 iw_x34 c38 bb_x39 iw_x39 c43 mo490 mo491 mo492 mo493 mo494 mo495 p_x455 mo496 p_x470 q_x486 c497 r_x499 q_x499 r_x503 q_x503 r_x509 q_x509 r_x516 q_x516 r_x521 q_x521 ex522 r_x558 q_x558 ex559), Or.inl rfl⟩)) (hs_4 eS560 d_x558.symm d_kv9.symm (qr165 hiv4 r_kv8 r_kv9 r_kv10 hnf r_x12 q_x12 mo487 mo488 mo489 bb_x29 iw_x29 c33 bb_x34 iw_x34 c38 bb_x39 iw_x39 c43 mo490 mo491 mo492 mo493 mo494 mo495 mo496 q_x486 c497 r_x499 q_x499 r_x503 q_x503 r_x509 q_x509 r_x516 q_x516 r_x521 q_x521 ex522 r_x558 q_x558 ex559) (qr166 hiv4 r_kv8 r_kv9 r_kv10 hnf r_x12 q_x12 mo487 mo488 mo489 bb_x29 iw_x29 c33 bb_x34 iw_x34 c38 bb_x39 iw_x39 c43 mo490 mo491 mo492 mo493 mo494 mo495 mo496 q_x486 c497 r_x499 q_x499 r_x503 q_x503 r_x509 q_x509 r_x516 q_x516 r_x521 q_x521 ex522 r_x558 q_x558 ex559) (qr167 hiv4 r_kv8 r_kv9 r_kv10 hnf r_x12 q_x12 mo487 mo488 mo489 bb_x29 iw_x29 c33 bb_x34 iw_x34 c38 bb_x39 iw_x39 c43 mo490 mo491 mo492 mo493 mo494 mo495 mo496 q_x486 c497 r_x499 q_x499 r_x503 q_x503 r_x509 q_x509 r_x516 q_x516 r_x521 q_x521 ex522 r_x558 q_x558 ex559) ea507 ea514 el512 (el519.trans (qr168 hiv4 r_kv8 r_kv9 r_kv10 hnf r_x12 q_x12 mo487 mo488 mo489 bb_x29 iw_x29 c33 bb_x34 iw_x34 c38 bb_x39 iw_x39 c43 mo490 mo491 mo492 mo493 mo494 mo495 mo496 q_x486 c497 r_x499 q_x499 r_x503 q_x503 r_x509 q_x509 r_x516 q_x516 r_x521 q_x521 ex522 r_x558 q_x558 ex559)) (qr169 hiv4 r_kv8 r_kv9 r_kv10 hnf r_x12 q_x12 mo487 mo488 mo489 bb_x29 iw_x29 c33 bb_x34 iw_x34 c38 bb_x39 iw_x39 c43 mo490 mo491 mo492 mo493 mo494 mo495 mo496 q_x486 c497 r_x499 q_x499 r_x503 q_x503 r_x509 q_x509 r_x516 q_x516 r_x521 q_x521 ex522 r_x558 q_x558 ex559) (qr170 hiv4 r_kv8 r_kv9 r_kv10 hnf r_x12 q_x12 mo487 mo488 mo489 bb_x29 iw_x29 c33 bb_x34 iw_x34 c38 bb_x39 iw_x39 c43 mo490 mo491 mo492 mo493 mo494 mo495 mo496 q_x486 c497 r_x499 q_x499 r_x503 q_x503 r_x509 q_x509 r_x516 q_x516 r_x521 q_x521 ex522 r_x558 q_x558 ex559)) hG
          have el512 := el_ob eS560 o_a7 o_a507 (by decide) el512
          have el519 := el_ob eS560 o_a7 o_a514 (by decide) el519
          have el551 := el_ob eS560 o_a7 o_a548 (by decide) el551
          have el556 := el_ob eS560 o_a7 o_a553 (by decide) el556
          have hI := hIn
          have f0 := fr_I eS560 g0 f0 o_a7 (by decide)
          have d_kv9 := rd_Ij eS560 (by decide) d_kv9
          have d_x486 := rd_Ik eS560 o_a7 o_v0 (by decide) d_x486
          have d_kv475 := rd_Ik eS560 o_a7 o_v0 (by decide) d_kv475
          have d_kv485 := rd_Ik eS560 o_a7 o_v0 (by decide) d_kv485
          have d_x522 := rd_Ij eS560 (by decide) d_x522
          have d_x559 := rd_Is eS560 (rfl : x559 = x559)
          have ea7 := rf_I eS560 ea7
          have ea501 := rf_I eS560 ea501
          have ea507 := rf_I eS560 ea507
          have ea514 := rf_I eS560 ea514
          have ea525 := rf_I eS560 ea525
          have ea529 := rf_I eS560 ea529
          have ea533 := rf_I eS560 ea533
          have ea538 := rf_I eS560 ea538
          have ea543 := rf_I eS560 ea543
          have ea548 := rf_I eS560 ea548
          have ea553 := rf_I eS560 ea553
          have l_a501 := ln_I eS560 l_a501
          have l_a507 := ln_I eS560 l_a507
          have l_a514 := ln_I eS560 l_a514
          have l_a525 := ln_I eS560 l_a525
          have l_a529 := ln_I eS560 l_a529
          have l_a533 := ln_I eS560 l_a533
          have l_a538 := ln_I eS560 l_a538
          have l_a543 := ln_I eS560 l_a543
          have l_a548 := ln_I eS560 l_a548
          have l_a553 := ln_I eS560 l_a553
          have g0 := gr_I eS560 g0
          have o_a501 := ob_I eS560 o_a501
          have o_a507 := ob_I eS560 o_a507
          have o_a514 := ob_I eS560 o_a514
          have o_a525 := ob_I eS560 o_a525
          have o_a529 := ob_I eS560 o_a529
          have o_a533 := ob_I eS560 o_a533
          have o_a538 := ob_I eS560 o_a538
          have o_a543 := ob_I eS560 o_a543
          have o_a548 := ob_I eS560 o_a548
          have o_a553 := ob_I eS560 o_a553
          have o_a7 := ob_I eS560 o_a7
          have o_v0 := ob_I eS560 o_v0
          have hn : RN S560 v0 := fun z ez => by obtain rfl : a7 = z := Option.some.inj (ea7.symm.trans ez); rw [← d_x522, ← d_kv9, ← d_x559]; exact (qr176 hiv4 r_kv8 r_kv9 r_kv10 hnf r_x12 q_x12 mo487 mo488 mo489 bb_x29 iw_x29 c33 bb_x34 iw_x34 c38 bb_x39 iw_x39 c43 mo490 mo491 mo492 mo493 mo494 mo495 mo496 q_x486 c497 r_x499 q_x499 r_x503 q_x503 r_x509 q_x509 r_x516 q_x516 r_x521 q_x521 ex522 r_x558 q_x558 ex559)
          exact hq _ hI g0 f0 ⟨hG, hn, (by have t : x486 = 5 → 0 < kv475 := (qr177 hiv4 hiv6 hO r_kv8 r_kv9 r_kv10 hnf r_x12 q_x12 ph0_S14 mo487 mo488 ph0_S21 mo489 bb_x29 iw_x29 c33 bb_x34 iw_x34 c38 bb_x39 iw_x39 c43 hiv392 ph0_S394 mo490 ph0_S405 mo491 ph0_S417 mo492 ph0_S429 mo493 ph0_S442 mo494 ph0_S456 mo495 ph0_S471 mo496 q_x486 c497 r_x499 q_x499 r_x503 q_x503 r_x509 q_x509 r_x516 q_x516 r_x521 q_x521 ex522 r_x558 q_x558 ex559); rw [d_x486, d_kv475] at t; exact t), (by have t : x486 = 5 ∨ ¬ iv4 = 5 := (qr178 hiv4 r_kv8 r_kv9 r_kv10 hnf r_x12 q_x12 mo487 mo488 mo489 bb_x29 iw_x29 c33 bb_x34 iw_x34 c38 bb_x39 iw_x39 c43 mo490 mo491 mo492 mo493 mo494 mo495 mo496 q_x486 c497 r_x499 q_x499 r_x503 q_x503 r_x509 q_x509 r_x516 q_x516 r_x521 q_x521 ex522 r_x558 q_x558 ex559); rw [di_9, d_x486] at t; exact t), (by have t : iv2 ≤ kv485 ∧ (x486 = 4 → iv2 < kv485 ∨ iv4 = 4) := (qr179 r_kv1 hiv2 hiv4 r_kv8 r_kv9 r_kv10 hnf r_x12 q_x12 mo487 r_kv19 ph2_S14 mo488 mo489 r_kv28 ph2_S21 bb_x29 iw_x29 c33 bb_x34 iw_x34 c38 bb_x39 iw_x39 c43 mo490 r_kv401 ph2_S394 mo491 r_kv414 ph2_S405 mo492 r_kv427 ph2_S417 mo493 r_kv440 ph2_S429 mo494 r_kv454 ph2_S442 mo495 r_kv469 ph2_S456 mo496 r_kv485 ph2_S471 q_x486 c497 r_x499 q_x499 r_x503 q_x503 r_x509 q_x509 r_x516 q_x516 r_x521 q_x521 ex522 r_x558 q_x558 ex559); rw [di_8, di_9, d_kv485, d_x486] at t; exact t)⟩
        · exact hq _ hI g0 f0 ⟨hG, hn, (by have t : x486 = 5 → 0 < kv475 := (qr180 hiv4 hiv6 hO r_kv8 r_kv9 r_kv10 hnf r_x12 q_x12 ph0_S14 mo487 mo488 ph0_S21 mo489 bb_x29 iw_x29 c33 bb_x34 iw_x34 c38 bb_x39 iw_x39 c43 hiv392 ph0_S394 mo490 ph0_S405 mo491 ph0_S417 mo492 ph0_S429 mo493 ph0_S442 mo494 ph0_S456 mo495 ph0_S471 mo496 q_x486 c497); rw [d_x486, d_kv475] at t; exact t), (by have t : x486 = 5 ∨ ¬ iv4 = 5 := (qr181 hiv4 r_kv8 r_kv9 r_kv10 hnf r_x12 q_x12 mo487 mo488 mo489 bb_x29 iw_x29 c33 bb_x34 iw_x34 c38 bb_x39 iw_x39 c43 mo490 mo491 mo492 mo493 mo494 mo495 mo496 q_x486 c497); rw [di_9, d_x486] at t; exact t), (by have t : iv2 ≤ kv485 ∧ (x486 = 4 → iv2 < kv485 ∨ iv4 = 4) := (qr182 r_kv1 hiv2 hiv4 r_kv8 r_kv9 r_kv10 hnf r_x12 q_x12 mo487 r_kv19 ph2_S14 mo488 mo489 r_kv28 ph2_S21 bb_x29 iw_x29 c33 bb_x34 iw_x34 c38 bb_x39 iw_x39 c43 mo490 r_kv401 ph2_S394 mo491 r_kv414 ph2_S405 mo492 r_kv427 ph2_S417 mo493 r_kv440 ph2_S429 mo494 r_kv454 ph2_S442 mo495 r_kv469 ph2_S456 mo496 r_kv485 ph2_S471 q_x486 c497); rw [di_8, di_9, d_kv485, d_x486] at t; exact t)⟩
    · refine u_X11_readWalker_74 ?_
      refine ⟨fun c561 => ?_, fun c561 => absurd (show (1 : Int32) = (-1 : Int32) from c561) (by decide)⟩
      refine u_X11_readWalker_85 ?_
      refine ⟨o_v0, ?_⟩
      obtain ⟨iv562, hiv562⟩ : ∃ z : Int32, z = kv25 := ⟨_, rfl⟩
      have d_iv562 := hiv562.trans d_kv25
      have do562_kv28 := d_kv28
      have do562_kv24 := d_kv24
      have do562_iv562 := d_iv562
      refine m_X11_goesOn hI o_v0 hG (by have t : kv24 = 5 → 0 < kv25 := (qr183 hiv4 hiv6 hO r_kv8 r_kv9 r_kv10 hnf r_x12 q_x12 ph0_S14 mo26 mo27 ph0_S21 ph1_S21 bb_x29 iw_x29 c33 bb_x34 iw_x34 c38); rw [d_kv24, d_kv25] at t; exact t) (fun S564 hJ g565 fc566 p_S564 => ?_)
      obtain ⟨hG, pg0_S564, pg1_S564, pg2_S564⟩ := p_S564
      have hn := rn_fr fc566 g565 hI o_v0 (by decide) hn
      have hI := hJ
      have d_kv8 := d_kv8.trans (fri_at fc566 (by decide) (by decide) o_a7).symm
      have d_kv9 := d_kv9.trans (fri_at fc566 (by decide) (by decide) o_a7).symm
      have d_x12 := d_x12.trans (fri_at fc566 (by decide) (by decide) o_a7).symm
      have d_kv25 := d_kv25.trans (fri_at fc566 (by decide) (by decide) o_v0).symm
      have ea7 := (frr_at fc566 (by decide) (by decide) o_v0).trans ea7
      have f0 := fri_tr (S := S21) g0 f0 fc566 (by decide) (by decide)
      have o_a7 := gr_ob g565 o_a7
      have o_v0 := gr_ob g565 o_v0
      have g0 := gr_tr (T := S21) g0 g565
      obtain ⟨kv567, d_kv567⟩ : ∃ z : Int32, z = fI S564 v0 9 := ⟨_, rfl⟩
      have ph0_S564 : kv567 = 5 → 0 < kv25 := by rw [d_kv567, d_kv25]; exact pg0_S564
      have ph1_S564 : kv567 = 5 ∨ ¬ kv24 = 5 := by rw [do562_kv24, d_kv567]; exact pg1_S564
      have mo568 : kv567 = 5 ∨ ¬ kv3 = 5 := ph1_S564.elim Or.inl (fun h => Or.inr (mo26.resolve_left h))
      have mo569 : kv567 = 5 ∨ ¬ x12 = (4 : Int32) := ph1_S564.elim Or.inl (fun h => Or.inr (mo27.resolve_left h))
      have mo570 : kv567 = 5 ∨ ¬ kv17 = 5 := ph1_S564.elim Or.inl (fun h => Or.inr (ph1_S21.resolve_left h))
      obtain ⟨kv571, d_kv571⟩ : ∃ z : Int32, z = fI S564 v0 8 := ⟨_, rfl⟩
      have r_kv571 : (0 : Int32) ≤ kv571 ∧ kv571 ≤ (900 : Int32) := by rw [d_kv571]; exact nu 25 rfl hI o_v0
      have ph2_S564 : kv28 ≤ kv571 ∧ (kv567 = 4 → kv28 < kv571 ∨ kv24 = 4) := by rw [do562_kv28, do562_kv24, d_kv571, d_kv567]; exact pg2_S564
      intro _
      refine ⟨fun c572 => absurd (show ¬ (1 : Int32) = (1 : Int32) from c572) (by decide), fun c572 => ?_⟩
      have do572_kv571 := d_kv571
      have do572_kv567 := d_kv567
      have do572_kv25 := d_kv25
      refine m_X11_readWhole hI o_v0 hG (by have t : kv567 = 5 → 0 < kv25 := (qr184 hiv4 hiv6 hO r_kv8 r_kv9 r_kv10 hnf r_x12 q_x12 ph0_S14 mo568 mo569 ph0_S21 mo570 bb_x29 iw_x29 c33 bb_x34 iw_x34 c38 hiv562 ph0_S564 ph1_S564); rw [d_kv567, d_kv25] at t; exact t) (fun x573 S574 hJ g575 fc576 p_x573 => ?_)
      obtain ⟨hG, p_x573, pg0_S574, pg1_S574, pg2_S574⟩ := p_x573
      have hn := rn_fr fc576 g575 hI o_v0 (by decide) hn
      have hI := hJ
      have d_kv8 := d_kv8.trans (fri_at fc576 (by decide) (by decide) o_a7).symm
      have d_kv9 := d_kv9.trans (fri_at fc576 (by decide) (by decide) o_a7).symm
      have d_x12 := d_x12.trans (fri_at fc576 (by decide) (by decide) o_a7).symm
      have ea7 := (frr_at fc576 (by decide) (by decide) o_v0).trans ea7
      have f0 := fri_tr (S := S564) g0 f0 fc576 (by decide) (by decide)
      have o_a7 := gr_ob g575 o_a7
      have o_v0 := gr_ob g575 o_v0
      have g0 := gr_tr (T := S564) g0 g575
      obtain ⟨kv577, d_kv577⟩ : ∃ z : Int32, z = fI S574 v0 9 := ⟨_, rfl⟩
      obtain ⟨kv578, d_kv578⟩ : ∃ z : Int32, z = fI S574 v0 13 := ⟨_, rfl⟩
      have ph0_S574 : kv577 = 5 → 0 < kv578 := by rw [d_kv577, d_kv578]; exact pg0_S574
      have ph1_S574 : kv577 = 5 ∨ ¬ kv567 = 5 := by rw [do572_kv567, d_kv577]; exact pg1_S574
      have mo579 : kv577 = 5 ∨ ¬ kv3 = 5 := ph1_S574.elim Or.inl (fun h => Or.inr (mo568.resolve_left h))
      have mo580 : kv577 = 5 ∨ ¬ x12 = (4 : Int32) := ph1_S574.elim Or.inl (fun h => Or.inr (mo569.resolve_left h))
      have mo581 : kv577 = 5 ∨ ¬ kv17 = 5 := ph1_S574.elim Or.inl (fun h => Or.inr (mo570.resolve_left h))
      have mo582 : kv577 = 5 ∨ ¬ kv24 = 5 := ph1_S574.elim Or.inl (fun h => Or.inr (ph1_S564.resolve_left h))
      obtain ⟨kv583, d_kv583⟩ : ∃ z : Int32, z = fI S574 v0 8 := ⟨_, rfl⟩
      have r_kv583 : (0 : Int32) ≤ kv583 ∧ kv583 ≤ (900 : Int32) := by rw [d_kv583]; exact nu 25 rfl hI o_v0
      have ph2_S574 : kv571 ≤ kv583 ∧ (kv577 = 4 → kv571 < kv583 ∨ kv567 = 4) := by rw [do572_kv571, do572_kv567, d_kv583, d_kv577]; exact pg2_S574
      intro _
      refine u_X11_readWalker_136 ?_
      refine ⟨fun c584 => absurd (show ¬ (1 : Int32) = (1 : Int32) from c584) (by decide), fun c584 => ?_⟩
      refine u_X11_readWalker_149 ?_
      refine ⟨o_v0, ?_⟩
      have do584_kv583 := d_kv583
      have do584_kv577 := d_kv577
      have do584_kv578 := d_kv578
      refine m_X11_readPart hI o_v0 (by decide) hG (by have t : kv577 = 5 → 0 < kv578 := (qr185 hiv4 hiv6 hO r_kv8 r_kv9 r_kv10 hnf r_x12 q_x12 ph0_S14 mo579 mo580 ph0_S21 mo581 bb_x29 iw_x29 c33 bb_x34 iw_x34 c38 hiv562 ph0_S564 mo582 ph0_S574 ph1_S574); rw [d_kv577, d_kv578] at t; exact t) (fun x585 S586 hJ g587 fc588 p_x585 => ?_)
      obtain ⟨hG, p_x585, pg0_S586, pg1_S586, pg2_S586⟩ := p_x585
      have hn := rn_fr fc588 g587 hI o_v0 (by decide) hn
      have hI := hJ
      have d_kv8 := d_kv8.trans (fri_at fc588 (by decide) (by decide) o_a7).symm
      have d_kv9 := d_kv9.trans (fri_at fc588 (by decide) (by decide) o_a7).symm
      have d_x12 := d_x12.trans (fri_at fc588 (by decide) (by decide) o_a7).symm
      have ea7 := (frr_at fc588 (by decide) (by decide) o_v0).trans ea7
      have f0 := fri_tr (S := S574) g0 f0 fc588 (by decide) (by decide)
      have o_a7 := gr_ob g587 o_a7
      have o_v0 := gr_ob g587 o_v0
      have g0 := gr_tr (T := S574) g0 g587
      obtain ⟨kv589, d_kv589⟩ : ∃ z : Int32, z = fI S586 v0 9 := ⟨_, rfl⟩
      obtain ⟨kv590, d_kv590⟩ : ∃ z : Int32, z = fI S586 v0 13 := ⟨_, rfl⟩
      have ph0_S586 : kv589 = 5 → 0 < kv590 := by rw [d_kv589, d_kv590]; exact pg0_S586
      have ph1_S586 : kv589 = 5 ∨ ¬ kv577 = 5 := by rw [do584_kv577, d_kv589]; exact pg1_S586
      have mo591 : kv589 = 5 ∨ ¬ kv3 = 5 := ph1_S586.elim Or.inl (fun h => Or.inr (mo579.resolve_left h))
      have mo592 : kv589 = 5 ∨ ¬ x12 = (4 : Int32) := ph1_S586.elim Or.inl (fun h => Or.inr (mo580.resolve_left h))
      have mo593 : kv589 = 5 ∨ ¬ kv17 = 5 := ph1_S586.elim Or.inl (fun h => Or.inr (mo581.resolve_left h))
      have mo594 : kv589 = 5 ∨ ¬ kv24 = 5 := ph1_S586.elim Or.inl (fun h => Or.inr (mo582.resolve_left h))
      have mo595 : kv589 = 5 ∨ ¬ kv567 = 5 := ph1_S586.elim Or.inl (fun h => Or.inr (ph1_S574.resolve_left h))
      obtain ⟨kv596, d_kv596⟩ : ∃ z : Int32, z = fI S586 v0 8 := ⟨_, rfl⟩
      have r_kv596 : (0 : Int32) ≤ kv596 ∧ kv596 ≤ (900 : Int32) := by rw [d_kv596]; exact nu 25 rfl hI o_v0
      have ph2_S586 : kv583 ≤ kv596 ∧ (kv589 = 4 → kv583 < kv596 ∨ kv577 = 4) := by rw [do584_kv583, do584_kv577, d_kv596, d_kv589]; exact pg2_S586
      intro _
      have do596_kv596 := d_kv596
      have do596_kv589 := d_kv589
      have do596_kv590 := d_kv590
      refine m_X11_readPart hI o_v0 (by decide) hG (by have t : kv589 = 5 → 0 < kv590 := (qr186 hiv4 hiv6 hO r_kv8 r_kv9 r_kv10 hnf r_x12 q_x12 ph0_S14 mo591 mo592 ph0_S21 mo593 bb_x29 iw_x29 c33 bb_x34 iw_x34 c38 hiv562 ph0_S564 mo594 ph0_S574 mo595 ph0_S586 ph1_S586); rw [d_kv589, d_kv590] at t; exact t) (fun x597 S598 hJ g599 fc600 p_x597 => ?_)
      obtain ⟨hG, p_x597, pg0_S598, pg1_S598, pg2_S598⟩ := p_x597
      have hn := rn_fr fc600 g599 hI o_v0 (by decide) hn
      have hI := hJ
      have d_kv8 := d_kv8.trans (fri_at fc600 (by decide) (by decide) o_a7).symm
      have d_kv9 := d_kv9.trans (fri_at fc600 (by decide) (by decide) o_a7).symm
      have d_x12 := d_x12.trans (fri_at fc600 (by decide) (by decide) o_a7).symm
      have ea7 := (frr_at fc600 (by decide) (by decide) o_v0).trans ea7
      have f0 := fri_tr (S := S586) g0 f0 fc600 (by decide) (by decide)
      have o_a7 := gr_ob g599 o_a7
      have o_v0 := gr_ob g599 o_v0
      have g0 := gr_tr (T := S586) g0 g599
      obtain ⟨kv601, d_kv601⟩ : ∃ z : Int32, z = fI S598 v0 9 := ⟨_, rfl⟩
      obtain ⟨kv602, d_kv602⟩ : ∃ z : Int32, z = fI S598 v0 13 := ⟨_, rfl⟩
      have ph0_S598 : kv601 = 5 → 0 < kv602 := by rw [d_kv601, d_kv602]; exact pg0_S598
      have ph1_S598 : kv601 = 5 ∨ ¬ kv589 = 5 := by rw [do596_kv589, d_kv601]; exact pg1_S598
      have mo603 : kv601 = 5 ∨ ¬ kv3 = 5 := ph1_S598.elim Or.inl (fun h => Or.inr (mo591.resolve_left h))
      have mo604 : kv601 = 5 ∨ ¬ x12 = (4 : Int32) := ph1_S598.elim Or.inl (fun h => Or.inr (mo592.resolve_left h))
      have mo605 : kv601 = 5 ∨ ¬ kv17 = 5 := ph1_S598.elim Or.inl (fun h => Or.inr (mo593.resolve_left h))
      have mo606 : kv601 = 5 ∨ ¬ kv24 = 5 := ph1_S598.elim Or.inl (fun h => Or.inr (mo594.resolve_left h))
      have mo607 : kv601 = 5 ∨ ¬ kv567 = 5 := ph1_S598.elim Or.inl (fun h => Or.inr (mo595.resolve_left h))
      have mo608 : kv601 = 5 ∨ ¬ kv577 = 5 := ph1_S598.elim Or.inl (fun h => Or.inr (ph1_S586.resolve_left h))
      obtain ⟨kv609, d_kv609⟩ : ∃ z : Int32, z = fI S598 v0 8 := ⟨_, rfl⟩
      have r_kv609 : (0 : Int32) ≤ kv609 ∧ kv609 ≤ (900 : Int32) := by rw [d_kv609]; exact nu 25 rfl hI o_v0
      have ph2_S598 : kv596 ≤ kv609 ∧ (kv601 = 4 → kv596 < kv609 ∨ kv589 = 4) := by rw [do596_kv596, do596_kv589, d_kv609, d_kv601]; exact pg2_S598
      intro _
      have do609_kv609 := d_kv609
      have do609_kv601 := d_kv601
      have do609_kv602 := d_kv602
      refine m_X11_readPart hI o_v0 (by decide) hG (by have t : kv601 = 5 → 0 < kv602 := (qr187 hiv4 hiv6 hO r_kv8 r_kv9 r_kv10 hnf r_x12 q_x12 ph0_S14 mo603 mo604 ph0_S21 mo605 bb_x29 iw_x29 c33 bb_x34 iw_x34 c38 hiv562 ph0_S564 mo606 ph0_S574 mo607 ph0_S586 mo608 ph0_S598 ph1_S598); rw [d_kv601, d_kv602] at t; exact t) (fun x610 S611 hJ g612 fc613 p_x610 => ?_)
      obtain ⟨hG, p_x610, pg0_S611, pg1_S611, pg2_S611⟩ := p_x610
      have hn := rn_fr fc613 g612 hI o_v0 (by decide) hn
      have hI := hJ
      have d_kv8 := d_kv8.trans (fri_at fc613 (by decide) (by decide) o_a7).symm
      have d_kv9 := d_kv9.trans (fri_at fc613 (by decide) (by decide) o_a7).symm
      have d_x12 := d_x12.trans (fri_at fc613 (by decide) (by decide) o_a7).symm
      have ea7 := (frr_at fc613 (by decide) (by decide) o_v0).trans ea7
      have f0 := fri_tr (S := S598) g0 f0 fc613 (by decide) (by decide)
      have o_a7 := gr_ob g612 o_a7
      have o_v0 := gr_ob g612 o_v0
      have g0 := gr_tr (T := S598) g0 g612
      obtain ⟨kv614, d_kv614⟩ : ∃ z : Int32, z = fI S611 v0 9 := ⟨_, rfl⟩
      obtain ⟨kv615, d_kv615⟩ : ∃ z : Int32, z = fI S611 v0 13 := ⟨_, rfl⟩
      have ph0_S611 : kv614 = 5 → 0 < kv615 := by rw [d_kv614, d_kv615]; exact pg0_S611
      have ph1_S611 : kv614 = 5 ∨ ¬ kv601 = 5 := by rw [do609_kv601, d_kv614]; exact pg1_S611
      have mo616 : kv614 = 5 ∨ ¬ kv3 = 5 := ph1_S611.elim Or.inl (fun h => Or.inr (mo603.resolve_left h))
      have mo617 : kv614 = 5 ∨ ¬ x12 = (4 : Int32) := ph1_S611.elim Or.inl (fun h => Or.inr (mo604.resolve_left h))
      have mo618 : kv614 = 5 ∨ ¬ kv17 = 5 := ph1_S611.elim Or.inl (fun h => Or.inr (mo605.resolve_left h))
      have mo619 : kv614 = 5 ∨ ¬ kv24 = 5 := ph1_S611.elim Or.inl (fun h => Or.inr (mo606.resolve_left h))
      have mo620 : kv614 = 5 ∨ ¬ kv567 = 5 := ph1_S611.elim Or.inl (fun h => Or.inr (mo607.resolve_left h))
      have mo621 : kv614 = 5 ∨ ¬ kv577 = 5 := ph1_S611.elim Or.inl (fun h => Or.inr (mo608.resolve_left h))
      have mo622 : kv614 = 5 ∨ ¬ kv589 = 5 := ph1_S611.elim Or.inl (fun h => Or.inr (ph1_S598.resolve_left h))
      obtain ⟨kv623, d_kv623⟩ : ∃ z : Int32, z = fI S611 v0 8 := ⟨_, rfl⟩
      have r_kv623 : (0 : Int32) ≤ kv623 ∧ kv623 ≤ (900 : Int32) := by rw [d_kv623]; exact nu 25 rfl hI o_v0
      have ph2_S611 : kv609 ≤ kv623 ∧ (kv614 = 4 → kv609 < kv623 ∨ kv601 = 4) := by rw [do609_kv609, do609_kv601, d_kv623, d_kv614]; exact pg2_S611
      intro _
      have do623_kv623 := d_kv623
      have do623_kv614 := d_kv614
      have do623_kv615 := d_kv615
      refine m_X11_readPart hI o_v0 (by decide) hG (by have t : kv614 = 5 → 0 < kv615 := (qr188 hiv4 hiv6 hO r_kv8 r_kv9 r_kv10 hnf r_x12 q_x12 ph0_S14 mo616 mo617 ph0_S21 mo618 bb_x29 iw_x29 c33 bb_x34 iw_x34 c38 hiv562 ph0_S564 mo619 ph0_S574 mo620 ph0_S586 mo621 ph0_S598 mo622 ph0_S611 ph1_S611); rw [d_kv614, d_kv615] at t; exact t) (fun x624 S625 hJ g626 fc627 p_x624 => ?_)
      obtain ⟨hG, p_x624, pg0_S625, pg1_S625, pg2_S625⟩ := p_x624
      have hn := rn_fr fc627 g626 hI o_v0 (by decide) hn
      have hI := hJ
      have d_kv8 := d_kv8.trans (fri_at fc627 (by decide) (by decide) o_a7).symm
      have d_kv9 := d_kv9.trans (fri_at fc627 (by decide) (by decide) o_a7).symm
      have d_x12 := d_x12.trans (fri_at fc627 (by decide) (by decide) o_a7).symm
      have ea7 := (frr_at fc627 (by decide) (by decide) o_v0).trans ea7
      have f0 := fri_tr (S := S611) g0 f0 fc627 (by decide) (by decide)
      have o_a7 := gr_ob g626 o_a7
      have o_v0 := gr_ob g626 o_v0
      have g0 := gr_tr (T := S611) g0 g626
      obtain ⟨kv628, d_kv628⟩ : ∃ z : Int32, z = fI S625 v0 9 := ⟨_, rfl⟩
      obtain ⟨kv629, d_kv629⟩ : ∃ z : Int32, z = fI S625 v0 13 := ⟨_, rfl⟩
      have ph0_S625 : kv628 = 5 → 0 < kv629 := by rw [d_kv628, d_kv629]; exact pg0_S625
      have ph1_S625 : kv628 = 5 ∨ ¬ kv614 = 5 := by rw [do623_kv614, d_kv628]; exact pg1_S625
      have mo630 : kv628 = 5 ∨ ¬ kv3 = 5 := ph1_S625.elim Or.inl (fun h => Or.inr (mo616.resolve_left h))
      have mo631 : kv628 = 5 ∨ ¬ x12 = (4 : Int32) := ph1_S625.elim Or.inl (fun h => Or.inr (mo617.resolve_left h))
      have mo632 : kv628 = 5 ∨ ¬ kv17 = 5 := ph1_S625.elim Or.inl (fun h => Or.inr (mo618.resolve_left h))
      have mo633 : kv628 = 5 ∨ ¬ kv24 = 5 := ph1_S625.elim Or.inl (fun h => Or.inr (mo619.resolve_left h))
      have mo634 : kv628 = 5 ∨ ¬ kv567 = 5 := ph1_S625.elim Or.inl (fun h => Or.inr (mo620.resolve_left h))
      have mo635 : kv628 = 5 ∨ ¬ kv577 = 5 := ph1_S625.elim Or.inl (fun h => Or.inr (mo621.resolve_left h))
      have mo636 : kv628 = 5 ∨ ¬ kv589 = 5 := ph1_S625.elim Or.inl (fun h => Or.inr (mo622.resolve_left h))
      have mo637 : kv628 = 5 ∨ ¬ kv601 = 5 := ph1_S625.elim Or.inl (fun h => Or.inr (ph1_S611.resolve_left h))
      obtain ⟨kv638, d_kv638⟩ : ∃ z : Int32, z = fI S625 v0 8 := ⟨_, rfl⟩
      have r_kv638 : (0 : Int32) ≤ kv638 ∧ kv638 ≤ (900 : Int32) := by rw [d_kv638]; exact nu 25 rfl hI o_v0
      have ph2_S625 : kv623 ≤ kv638 ∧ (kv628 = 4 → kv623 < kv638 ∨ kv614 = 4) := by rw [do623_kv623, do623_kv614, d_kv638, d_kv628]; exact pg2_S625
      intro _
      have do638_kv638 := d_kv638
      have do638_kv628 := d_kv628
      have do638_kv629 := d_kv629
      refine m_X11_readPart hI o_v0 (by decide) hG (by have t : kv628 = 5 → 0 < kv629 := (qr189 hiv4 hiv6 hO r_kv8 r_kv9 r_kv10 hnf r_x12 q_x12 ph0_S14 mo630 mo631 ph0_S21 mo632 bb_x29 iw_x29 c33 bb_x34 iw_x34 c38 hiv562 ph0_S564 mo633 ph0_S574 mo634 ph0_S586 mo635 ph0_S598 mo636 ph0_S611 mo637 ph0_S625 ph1_S625); rw [d_kv628, d_kv629] at t; exact t) (fun x639 S640 hJ g641 fc642 p_x639 => ?_)
      obtain ⟨hG, p_x639, pg0_S640, pg1_S640, pg2_S640⟩ := p_x639
      have hn := rn_fr fc642 g641 hI o_v0 (by decide) hn
      have hI := hJ
      have d_kv8 := d_kv8.trans (fri_at fc642 (by decide) (by decide) o_a7).symm
      have d_kv9 := d_kv9.trans (fri_at fc642 (by decide) (by decide) o_a7).symm
      have d_x12 := d_x12.trans (fri_at fc642 (by decide) (by decide) o_a7).symm
      have ea7 := (frr_at fc642 (by decide) (by decide) o_v0).trans ea7
      have f0 := fri_tr (S := S625) g0 f0 fc642 (by decide) (by decide)
      have o_a7 := gr_ob g641 o_a7
      have o_v0 := gr_ob g641 o_v0
      have g0 := gr_tr (T := S625) g0 g641
      obtain ⟨kv643, d_kv643⟩ : ∃ z : Int32, z = fI S640 v0 9 := ⟨_, rfl⟩
      obtain ⟨kv644, d_kv644⟩ : ∃ z : Int32, z = fI S640 v0 13 := ⟨_, rfl⟩
      have ph0_S640 : kv643 = 5 → 0 < kv644 := by rw [d_kv643, d_kv644]; exact pg0_S640
      have ph1_S640 : kv643 = 5 ∨ ¬ kv628 = 5 := by rw [do638_kv628, d_kv643]; exact pg1_S640
      have mo645 : kv643 = 5 ∨ ¬ kv3 = 5 := ph1_S640.elim Or.inl (fun h => Or.inr (mo630.resolve_left h))
      have mo646 : kv643 = 5 ∨ ¬ x12 = (4 : Int32) := ph1_S640.elim Or.inl (fun h => Or.inr (mo631.resolve_left h))
      have mo647 : kv643 = 5 ∨ ¬ kv17 = 5 := ph1_S640.elim Or.inl (fun h => Or.inr (mo632.resolve_left h))
      have mo648 : kv643 = 5 ∨ ¬ kv24 = 5 := ph1_S640.elim Or.inl (fun h => Or.inr (mo633.resolve_left h))
      have mo649 : kv643 = 5 ∨ ¬ kv567 = 5 := ph1_S640.elim Or.inl (fun h => Or.inr (mo634.resolve_left h))
      have mo650 : kv643 = 5 ∨ ¬ kv577 = 5 := ph1_S640.elim Or.inl (fun h => Or.inr (mo635.resolve_left h))
      have mo651 : kv643 = 5 ∨ ¬ kv589 = 5 := ph1_S640.elim Or.inl (fun h => Or.inr (mo636.resolve_left h))
      have mo652 : kv643 = 5 ∨ ¬ kv601 = 5 := ph1_S640.elim Or.inl (fun h => Or.inr (mo637.resolve_left h))
      have mo653 : kv643 = 5 ∨ ¬ kv614 = 5 := ph1_S640.elim Or.inl (fun h => Or.inr (ph1_S625.resolve_left h))
      obtain ⟨kv654, d_kv654⟩ : ∃ z : Int32, z = fI S640 v0 8 := ⟨_, rfl⟩
      have r_kv654 : (0 : Int32) ≤ kv654 ∧ kv654 ≤ (900 : Int32) := by rw [d_kv654]; exact nu 25 rfl hI o_v0
      have ph2_S640 : kv638 ≤ kv654 ∧ (kv643 = 4 → kv638 < kv654 ∨ kv628 = 4) := by rw [do638_kv638, do638_kv628, d_kv654, d_kv643]; exact pg2_S640
      intro _
      intro x655 ex655
      have q_x655 : x655 = kv643 := ex655.trans d_kv643.symm
      have mo656 : x655 = 5 ∨ ¬ kv3 = 5 := mo645.imp_left (fun z => q_x655.trans z)
      have mo657 : x655 = 5 ∨ ¬ x12 = (4 : Int32) := mo646.imp_left (fun z => q_x655.trans z)
      have mo658 : x655 = 5 ∨ ¬ kv17 = 5 := mo647.imp_left (fun z => q_x655.trans z)
      have mo659 : x655 = 5 ∨ ¬ kv24 = 5 := mo648.imp_left (fun z => q_x655.trans z)
      have mo660 : x655 = 5 ∨ ¬ kv567 = 5 := mo649.imp_left (fun z => q_x655.trans z)
      have mo661 : x655 = 5 ∨ ¬ kv577 = 5 := mo650.imp_left (fun z => q_x655.trans z)
      have mo662 : x655 = 5 ∨ ¬ kv589 = 5 := mo651.imp_left (fun z => q_x655.trans z)
      have mo663 : x655 = 5 ∨ ¬ kv601 = 5 := mo652.imp_left (fun z => q_x655.trans z)
      have mo664 : x655 = 5 ∨ ¬ kv614 = 5 := mo653.imp_left (fun z => q_x655.trans z)
      have mo665 : x655 = 5 ∨ ¬ kv628 = 5 := ph1_S640.imp_left (fun z => q_x655.trans z)
      have d_x655 := ex655
      refine ⟨fun c666 => ?_, fun c666 => ?_⟩
      · refine ⟨a7, ea7, ?_⟩
        refine ⟨o_a7, ?_⟩
        intro x668 ex668
        have r_x668 : (0 : Int32) ≤ x668 ∧ x668 ≤ (4 : Int32) := by rw [ex668]; exact nu 20 rfl hI o_a7
        have q_x668 : x668 = x12 := ex668.trans d_x12.symm
        have d_x668 := ex668
        refine u_X11_names ?_
        refine u_X11_names_0 ?_
        refine ⟨o_v0, ?_⟩
        refine ⟨a7, ea7, ?_⟩
        refine ⟨o_a7, ?_⟩
        obtain ⟨a670, ea670, o_a670, l_a670⟩ := shl 50 rfl hI o_a7
        refine ⟨a670, ea670, ?_⟩
        refine ⟨a7, ea7, ?_⟩
        refine ⟨o_a7, ?_⟩
        intro x672 ex672
        have r_x672 : (0 : Int32) ≤ x672 ∧ x672 ≤ (12 : Int32) := by rw [ex672]; exact nu 22 rfl hI o_a7
        have q_x672 : x672 = kv8 := ex672.trans d_kv8.symm
        have d_x672 := ex672
        refine ⟨o_a670, ?_⟩
        have i673 : vp_in x672 (hN _ a670) := (vin l_a670 (m := 12) (by decide) (qr190 hiv4 r_kv8 r_kv9 r_kv10 hnf r_x12 q_x12 mo656 mo657 mo658 bb_x29 iw_x29 c33 bb_x34 iw_x34 c38 mo659 mo660 mo661 mo662 mo663 mo664 mo665 q_x655 c666 r_x668 q_x668 r_x672 q_x672))
        refine ⟨i673, ?_⟩
        intro S674 eS674
        have hIn : IV S674 := by rw [eS674]; exact iv10_aJ hI o_a7 (by decide) ea670
        have hG := rg_J eS674 hG
        have hn := rn_J eS674 hn
        have hI := hIn
        have f0 := fr_J eS674 f0
        have d_x672 := rd_J eS674 d_x672
        have d_kv9 := rd_J eS674 d_kv9
        have d_x668 := rd_J eS674 d_x668
        have d_x655 := rd_J eS674 d_x655
        have d_kv644 := rd_J eS674 d_kv644
        have d_kv654 := rd_J eS674 d_kv654
        have ea7 := rf_J eS674 ea7
        have ea670 := rf_J eS674 ea670
        have l_a670 := ln_J eS674 l_a670
        have g0 := gr_J eS674 g0
        have o_a670 := ob_J eS674 o_a670
        have o_a7 := ob_J eS674 o_a7
        have o_v0 := ob_J eS674 o_v0
        refine ⟨a7, ea7, ?_⟩
        refine ⟨o_a7, ?_⟩
        obtain ⟨a676, ea676, o_a676, l_a676⟩ := shl 51 rfl hI o_a7
        refine ⟨a676, ea676, ?_⟩
        refine ⟨a7, ea7, ?_⟩
        refine ⟨o_a7, ?_⟩
        intro x678 ex678
        have r_x678 : (0 : Int32) ≤ x678 ∧ x678 ≤ (12 : Int32) := by rw [ex678]; exact nu 22 rfl hI o_a7
        have q_x678 : x678 = x672 := ex678.trans d_x672.symm
        have d_x678 := ex678
        refine ⟨o_a676, ?_⟩
        have i679 : vp_in x678 (hN _ a676) := (vin l_a676 (m := 12) (by decide) (qr191 hiv4 r_kv8 r_kv9 r_kv10 hnf r_x12 q_x12 mo656 mo657 mo658 bb_x29 iw_x29 c33 bb_x34 iw_x34 c38 mo659 mo660 mo661 mo662 mo663 mo664 mo665 q_x655 c666 r_x668 q_x668 r_x672 q_x672 r_x678 q_x678))
        refine ⟨i679, ?_⟩
        intro S680 eS680
        have hIn : IV S680 := by rw [eS680]; exact iv10_aI hI o_a7 (rg_nw hG ea7) ea676 o_a676 (by decide)
        have hG := rg_a (jj := 29) (x := x678) eS680 hI ea7 o_a7 ea676 o_a676 (by decide) (h1_no (by decide)) (fun _ => by rw [← d_kv9, ← d_x668]; exact (qr192 hiv4 r_kv8 r_kv9 r_kv10 hnf r_x12 q_x12 mo656 mo657 mo658 bb_x29 iw_x29 c33 bb_x34 iw_x34 c38 mo659 mo660 mo661 mo662 mo663 mo664 mo665 q_x655 c666 r_x668 q_x668 r_x672 q_x672 r_x678 q_x678)) hG
        have hn := rn_11 eS680 hI o_v0 o_a676 (by decide) hn
        have hI := hIn
        have f0 := fr_A eS680 g0 f0 o_a676 (by decide)
        have d_x678 := rd_Ik eS680 o_a676 o_a7 (by decide) d_x678
        have d_kv9 := rd_Ik eS680 o_a676 o_a7 (by decide) d_kv9
        have d_x668 := rd_Ik eS680 o_a676 o_a7 (by decide) d_x668
        have d_x655 := rd_Ik eS680 o_a676 o_v0 (by decide) d_x655
        have d_kv644 := rd_Ik eS680 o_a676 o_v0 (by decide) d_kv644
        have d_kv654 := rd_Ik eS680 o_a676 o_v0 (by decide) d_kv654
        have ea7 := rf_I eS680 ea7
        have ea670 := rf_I eS680 ea670
        have ea676 := rf_I eS680 ea676
        have l_a670 := ln_I eS680 l_a670
        have l_a676 := ln_I eS680 l_a676
        have g0 := gr_I eS680 g0
        have o_a670 := ob_I eS680 o_a670
        have o_a676 := ob_I eS680 o_a676
        have o_a7 := ob_I eS680 o_a7
        have o_v0 := ob_I eS680 o_v0
        have el681 : fI S680 a676 x678.toNatClampNeg = (1 : Int32) := by rw [eS680]; exact u2_self _ _ _ _
        refine ⟨a7, ea7, ?_⟩
        refine ⟨o_a7, ?_⟩
        obtain ⟨a683, ea683, o_a683, l_a683⟩ := shl 52 rfl hI o_a7
        refine ⟨a683, ea683, ?_⟩
        refine ⟨a7, ea7, ?_⟩
        refine ⟨o_a7, ?_⟩
        intro x685 ex685
        have r_x685 : (0 : Int32) ≤ x685 ∧ x685 ≤ (12 : Int32) := by rw [ex685]; exact nu 22 rfl hI o_a7
        have q_x685 : x685 = x678 := ex685.trans d_x678.symm
        have d_x685 := ex685
        refine ⟨o_a683, ?_⟩
        have i686 : vp_in x685 (hN _ a683) := (vin l_a683 (m := 12) (by decide) (qr193 hiv4 r_kv8 r_kv9 r_kv10 hnf r_x12 q_x12 mo656 mo657 mo658 bb_x29 iw_x29 c33 bb_x34 iw_x34 c38 mo659 mo660 mo661 mo662 mo663 mo664 mo665 q_x655 c666 r_x668 q_x668 r_x672 q_x672 r_x678 q_x678 r_x685 q_x685))
        refine ⟨i686, ?_⟩
        intro S687 eS687
        have hIn : IV S687 := by rw [eS687]; exact iv10_aI hI o_a7 (rg_nw hG ea7) ea683 o_a683 (by decide)
        have hG := rg_a (jj := 30) (x := x685) eS687 hI ea7 o_a7 ea683 o_a683 (by decide) (h1_no (by decide)) (fun _ => by rw [← d_kv9, ← d_x668]; exact (qr194 hiv4 r_kv8 r_kv9 r_kv10 hnf r_x12 q_x12 mo656 mo657 mo658 bb_x29 iw_x29 c33 bb_x34 iw_x34 c38 mo659 mo660 mo661 mo662 mo663 mo664 mo665 q_x655 c666 r_x668 q_x668 r_x672 q_x672 r_x678 q_x678 r_x685 q_x685)) hG
        have hn := rn_11 eS687 hI o_v0 o_a683 (by decide) hn
        have el681 := el_ar eS687 (ow_ne hI o_a7 (by decide) o_a7 (by decide) ea683 ea676 (by decide)) el681
        have hI := hIn
        have f0 := fr_A eS687 g0 f0 o_a683 (by decide)
        have d_x685 := rd_Ik eS687 o_a683 o_a7 (by decide) d_x685
        have d_kv9 := rd_Ik eS687 o_a683 o_a7 (by decide) d_kv9
        have d_x668 := rd_Ik eS687 o_a683 o_a7 (by decide) d_x668
        have d_x655 := rd_Ik eS687 o_a683 o_v0 (by decide) d_x655
        have d_kv644 := rd_Ik eS687 o_a683 o_v0 (by decide) d_kv644
        have d_kv654 := rd_Ik eS687 o_a683 o_v0 (by decide) d_kv654
        have ea7 := rf_I eS687 ea7
        have ea670 := rf_I eS687 ea670
        have ea676 := rf_I eS687 ea676
        have ea683 := rf_I eS687 ea683
        have l_a670 := ln_I eS687 l_a670
        have l_a676 := ln_I eS687 l_a676
        have l_a683 := ln_I eS687 l_a683
        have g0 := gr_I eS687 g0
        have o_a670 := ob_I eS687 o_a670
        have o_a676 := ob_I eS687 o_a676
        have o_a683 := ob_I eS687 o_a683
        have o_a7 := ob_I eS687 o_a7
        have o_v0 := ob_I eS687 o_v0
        have el688 : fI S687 a683 x685.toNatClampNeg = x668 := by rw [eS687]; exact u2_self _ _ _ _
        refine ⟨a7, ea7, ?_⟩
        refine ⟨o_a7, ?_⟩
        intro x690 ex690
        have r_x690 : (0 : Int32) ≤ x690 ∧ x690 ≤ (12 : Int32) := by rw [ex690]; exact nu 22 rfl hI o_a7
        have q_x690 : x690 = x685 := ex690.trans d_x685.symm
        have d_x690 := ex690
        intro x691 ex691
        intro S692 eS692
        have hIn : IV S692 := by rw [eS692]; exact iv10_sI hI o_a7 (rg_nw hG ea7) (nu_one (lo := (0 : Int32)) (hi := (12 : Int32)) (by decide) (qr195 hiv4 r_kv8 r_kv9 r_kv10 hnf r_x12 q_x12 mo656 mo657 mo658 bb_x29 iw_x29 c33 bb_x34 iw_x34 c38 mo659 mo660 mo661 mo662 mo663 mo664 mo665 q_x655 c666 r_x668 q_x668 r_x672 q_x672 r_x678 q_x678 r_x685 q_x685 r_x690 q_x690 ex691))
        have hG := rg_c eS692 hI ea7 o_a7 (by decide) hG
        have el681 := el_ob eS692 o_a7 o_a676 (by decide) el681
        have el688 := el_ob eS692 o_a7 o_a683 (by decide) el688
        have hI := hIn
        have f0 := fr_I eS692 g0 f0 o_a7 (by decide)
        have d_kv9 := rd_Ij eS692 (by decide) d_kv9
        have d_x668 := rd_Ij eS692 (by decide) d_x668
        have d_x655 := rd_Ik eS692 o_a7 o_v0 (by decide) d_x655
        have d_kv644 := rd_Ik eS692 o_a7 o_v0 (by decide) d_kv644
        have d_kv654 := rd_Ik eS692 o_a7 o_v0 (by decide) d_kv654
        have d_x691 := rd_Is eS692 (rfl : x691 = x691)
        have ea7 := rf_I eS692 ea7
        have ea670 := rf_I eS692 ea670
        have ea676 := rf_I eS692 ea676
        have ea683 := rf_I eS692 ea683
        have l_a670 := ln_I eS692 l_a670
        have l_a676 := ln_I eS692 l_a676
        have l_a683 := ln_I eS692 l_a683
        have g0 := gr_I eS692 g0
        have o_a670 := ob_I eS692 o_a670
        have o_a676 := ob_I eS692 o_a676
        have o_a683 := ob_I eS692 o_a683
        have o_a7 := ob_I eS692 o_a7
        have o_v0 := ob_I eS692 o_v0
        intro _
        refine ⟨a7, ea7, ?_⟩
        refine ⟨o_a7, ?_⟩
        obtain ⟨a694, ea694, o_a694, l_a694⟩ := shl 41 rfl hI o_a7
        refine ⟨a694, ea694, ?_⟩
        refine ⟨o_a694, ?_⟩
        have i695 : vp_in x668 (hN _ a694) := (vin l_a694 (m := 4) (by decide) (qr196 hiv4 r_kv8 r_kv9 r_kv10 hnf r_x12 q_x12 mo656 mo657 mo658 bb_x29 iw_x29 c33 bb_x34 iw_x34 c38 mo659 mo660 mo661 mo662 mo663 mo664 mo665 q_x655 c666 r_x668 q_x668 r_x672 q_x672 r_x678 q_x678 r_x685 q_x685 r_x690 q_x690 ex691))
        refine ⟨i695, ?_⟩
        intro S696 eS696
        have hIn : IV S696 := by rw [eS696]; exact iv10_aI hI o_a7 (rg_nw hG ea7) ea694 o_a694 (by decide)
        have hG := rg_a (jj := 19) (x := x668) eS696 hI ea7 o_a7 ea694 o_a694 (by decide) (h1_no (by decide)) (h2_no (y := 0) (by decide)) hG
        have el681 := el_ar eS696 (ow_ne hI o_a7 (by decide) o_a7 (by decide) ea694 ea676 (by decide)) el681
        have el688 := el_ar eS696 (ow_ne hI o_a7 (by decide) o_a7 (by decide) ea694 ea683 (by decide)) el688
        have hI := hIn
        have f0 := fr_A eS696 g0 f0 o_a694 (by decide)
        have d_kv9 := rd_Ik eS696 o_a694 o_a7 (by decide) d_kv9
        have d_x668 := rd_Ik eS696 o_a694 o_a7 (by decide) d_x668
        have d_x655 := rd_Ik eS696 o_a694 o_v0 (by decide) d_x655
        have d_kv644 := rd_Ik eS696 o_a694 o_v0 (by decide) d_kv644
        have d_kv654 := rd_Ik eS696 o_a694 o_v0 (by decide) d_kv654
        have d_x691 := rd_Ik eS696 o_a694 o_a7 (by decide) d_x691
        have ea7 := rf_I eS696 ea7
        have ea670 := rf_I eS696 ea670
        have ea676 := rf_I eS696 ea676
        have ea683 := rf_I eS696 ea683
        have ea694 := rf_I eS696 ea694
        have l_a670 := ln_I eS696 l_a670
        have l_a676 := ln_I eS696 l_a676
        have l_a683 := ln_I eS696 l_a683
        have l_a694 := ln_I eS696 l_a694
        have g0 := gr_I eS696 g0
        have o_a670 := ob_I eS696 o_a670
        have o_a676 := ob_I eS696 o_a676
        have o_a683 := ob_I eS696 o_a683
        have o_a694 := ob_I eS696 o_a694
        have o_a7 := ob_I eS696 o_a7
        have o_v0 := ob_I eS696 o_v0
        refine ⟨a7, ea7, ?_⟩
        refine ⟨o_a7, ?_⟩
        obtain ⟨a698, ea698, o_a698, l_a698⟩ := shl 42 rfl hI o_a7
        refine ⟨a698, ea698, ?_⟩
        refine ⟨o_a698, ?_⟩
        have i699 : vp_in x668 (hN _ a698) := (vin l_a698 (m := 4) (by decide) (qr196 hiv4 r_kv8 r_kv9 r_kv10 hnf r_x12 q_x12 mo656 mo657 mo658 bb_x29 iw_x29 c33 bb_x34 iw_x34 c38 mo659 mo660 mo661 mo662 mo663 mo664 mo665 q_x655 c666 r_x668 q_x668 r_x672 q_x672 r_x678 q_x678 r_x685 q_x685 r_x690 q_x690 ex691))
        refine ⟨i699, ?_⟩
        intro S700 eS700
        have hIn : IV S700 := by rw [eS700]; exact iv10_aI hI o_a7 (rg_nw hG ea7) ea698 o_a698 (by decide)
        have hG := rg_a (jj := 20) (x := x668) eS700 hI ea7 o_a7 ea698 o_a698 (by decide) (h1_no (by decide)) (h2_no (y := 0) (by decide)) hG
        have el681 := el_ar eS700 (ow_ne hI o_a7 (by decide) o_a7 (by decide) ea698 ea676 (by decide)) el681
        have el688 := el_ar eS700 (ow_ne hI o_a7 (by decide) o_a7 (by decide) ea698 ea683 (by decide)) el688
        have hI := hIn
        have f0 := fr_A eS700 g0 f0 o_a698 (by decide)
        have d_kv9 := rd_Ik eS700 o_a698 o_a7 (by decide) d_kv9
        have d_x668 := rd_Ik eS700 o_a698 o_a7 (by decide) d_x668
        have d_x655 := rd_Ik eS700 o_a698 o_v0 (by decide) d_x655
        have d_kv644 := rd_Ik eS700 o_a698 o_v0 (by decide) d_kv644
        have d_kv654 := rd_Ik eS700 o_a698 o_v0 (by decide) d_kv654
        have d_x691 := rd_Ik eS700 o_a698 o_a7 (by decide) d_x691
        have ea7 := rf_I eS700 ea7
        have ea670 := rf_I eS700 ea670
        have ea676 := rf_I eS700 ea676
        have ea683 := rf_I eS700 ea683
        have ea694 := rf_I eS700 ea694
        have ea698 := rf_I eS700 ea698
        have l_a670 := ln_I eS700 l_a670
        have l_a676 := ln_I eS700 l_a676
        have l_a683 := ln_I eS700 l_a683
        have l_a694 := ln_I eS700 l_a694
        have l_a698 := ln_I eS700 l_a698
        have g0 := gr_I eS700 g0
        have o_a670 := ob_I eS700 o_a670
        have o_a676 := ob_I eS700 o_a676
        have o_a683 := ob_I eS700 o_a683
        have o_a694 := ob_I eS700 o_a694
        have o_a698 := ob_I eS700 o_a698
        have o_a7 := ob_I eS700 o_a7
        have o_v0 := ob_I eS700 o_v0
        refine ⟨a7, ea7, ?_⟩
        refine ⟨o_a7, ?_⟩
        obtain ⟨a702, ea702, o_a702, l_a702⟩ := shl 43 rfl hI o_a7
        refine ⟨a702, ea702, ?_⟩
        refine ⟨o_a702, ?_⟩
        intro x703 ex703
        have i704 : vp_in x668 (hN _ a702) := (vin l_a702 (m := 4) (by decide) (qr196 hiv4 r_kv8 r_kv9 r_kv10 hnf r_x12 q_x12 mo656 mo657 mo658 bb_x29 iw_x29 c33 bb_x34 iw_x34 c38 mo659 mo660 mo661 mo662 mo663 mo664 mo665 q_x655 c666 r_x668 q_x668 r_x672 q_x672 r_x678 q_x678 r_x685 q_x685 r_x690 q_x690 ex691))
        refine ⟨i704, ?_⟩
        intro S705 eS705
        have hIn : IV S705 := by rw [eS705]; exact iv10_aI hI o_a7 (rg_nw hG ea7) ea702 o_a702 (by decide)
        have hG := rg_a (jj := 21) (x := x668) eS705 hI ea7 o_a7 ea702 o_a702 (by decide) (h1_no (by decide)) (h2_no (y := 0) (by decide)) hG
        have el681 := el_ar eS705 (ow_ne hI o_a7 (by decide) o_a7 (by decide) ea702 ea676 (by decide)) el681
        have el688 := el_ar eS705 (ow_ne hI o_a7 (by decide) o_a7 (by decide) ea702 ea683 (by decide)) el688
        have hI := hIn
        have f0 := fr_A eS705 g0 f0 o_a702 (by decide)
        have d_kv9 := rd_Ik eS705 o_a702 o_a7 (by decide) d_kv9
        have d_x668 := rd_Ik eS705 o_a702 o_a7 (by decide) d_x668
        have d_x655 := rd_Ik eS705 o_a702 o_v0 (by decide) d_x655
        have d_kv644 := rd_Ik eS705 o_a702 o_v0 (by decide) d_kv644
        have d_kv654 := rd_Ik eS705 o_a702 o_v0 (by decide) d_kv654
        have d_x691 := rd_Ik eS705 o_a702 o_a7 (by decide) d_x691
        have ea7 := rf_I eS705 ea7
        have ea670 := rf_I eS705 ea670
        have ea676 := rf_I eS705 ea676
        have ea683 := rf_I eS705 ea683
        have ea694 := rf_I eS705 ea694
        have ea698 := rf_I eS705 ea698
        have ea702 := rf_I eS705 ea702
        have l_a670 := ln_I eS705 l_a670
        have l_a676 := ln_I eS705 l_a676
        have l_a683 := ln_I eS705 l_a683
        have l_a694 := ln_I eS705 l_a694
        have l_a698 := ln_I eS705 l_a698
        have l_a702 := ln_I eS705 l_a702
        have g0 := gr_I eS705 g0
        have o_a670 := ob_I eS705 o_a670
        have o_a676 := ob_I eS705 o_a676
        have o_a683 := ob_I eS705 o_a683
        have o_a694 := ob_I eS705 o_a694
        have o_a698 := ob_I eS705 o_a698
        have o_a7 := ob_I eS705 o_a7
        have o_a702 := ob_I eS705 o_a702
        have o_v0 := ob_I eS705 o_v0
        refine ⟨a7, ea7, ?_⟩
        refine ⟨o_a7, ?_⟩
        obtain ⟨a707, ea707, o_a707, l_a707⟩ := shl 44 rfl hI o_a7
        refine ⟨a707, ea707, ?_⟩
        refine ⟨o_a707, ?_⟩
        intro x708 ex708
        have i709 : vp_in x668 (hN _ a707) := (vin l_a707 (m := 4) (by decide) (qr196 hiv4 r_kv8 r_kv9 r_kv10 hnf r_x12 q_x12 mo656 mo657 mo658 bb_x29 iw_x29 c33 bb_x34 iw_x34 c38 mo659 mo660 mo661 mo662 mo663 mo664 mo665 q_x655 c666 r_x668 q_x668 r_x672 q_x672 r_x678 q_x678 r_x685 q_x685 r_x690 q_x690 ex691))
        refine ⟨i709, ?_⟩
        intro S710 eS710
        have hIn : IV S710 := by rw [eS710]; exact iv10_aI hI o_a7 (rg_nw hG ea7) ea707 o_a707 (by decide)
        have hG := rg_a (jj := 22) (x := x668) eS710 hI ea7 o_a7 ea707 o_a707 (by decide) (h1_no (by decide)) (h2_no (y := 0) (by decide)) hG
        have el681 := el_ar eS710 (ow_ne hI o_a7 (by decide) o_a7 (by decide) ea707 ea676 (by decide)) el681
        have el688 := el_ar eS710 (ow_ne hI o_a7 (by decide) o_a7 (by decide) ea707 ea683 (by decide)) el688
        have hI := hIn
        have f0 := fr_A eS710 g0 f0 o_a707 (by decide)
        have d_kv9 := rd_Ik eS710 o_a707 o_a7 (by decide) d_kv9
        have d_x668 := rd_Ik eS710 o_a707 o_a7 (by decide) d_x668
        have d_x655 := rd_Ik eS710 o_a707 o_v0 (by decide) d_x655
        have d_kv644 := rd_Ik eS710 o_a707 o_v0 (by decide) d_kv644
        have d_kv654 := rd_Ik eS710 o_a707 o_v0 (by decide) d_kv654
        have d_x691 := rd_Ik eS710 o_a707 o_a7 (by decide) d_x691
        have ea7 := rf_I eS710 ea7
        have ea670 := rf_I eS710 ea670
        have ea676 := rf_I eS710 ea676
        have ea683 := rf_I eS710 ea683
        have ea694 := rf_I eS710 ea694
        have ea698 := rf_I eS710 ea698
        have ea702 := rf_I eS710 ea702
        have ea707 := rf_I eS710 ea707
        have l_a670 := ln_I eS710 l_a670
        have l_a676 := ln_I eS710 l_a676
        have l_a683 := ln_I eS710 l_a683
        have l_a694 := ln_I eS710 l_a694
        have l_a698 := ln_I eS710 l_a698
        have l_a702 := ln_I eS710 l_a702
        have l_a707 := ln_I eS710 l_a707
        have g0 := gr_I eS710 g0
        have o_a670 := ob_I eS710 o_a670
        have o_a676 := ob_I eS710 o_a676
        have o_a683 := ob_I eS710 o_a683
        have o_a694 := ob_I eS710 o_a694
        have o_a698 := ob_I eS710 o_a698
        have o_a7 := ob_I eS710 o_a7
        have o_a702 := ob_I eS710 o_a702
        have o_a707 := ob_I eS710 o_a707
        have o_v0 := ob_I eS710 o_v0
        refine ⟨a7, ea7, ?_⟩
        refine ⟨o_a7, ?_⟩
        obtain ⟨a712, ea712, o_a712, l_a712⟩ := shl 45 rfl hI o_a7
        refine ⟨a712, ea712, ?_⟩
        refine ⟨o_a712, ?_⟩
        intro x713 ex713
        have i714 : vp_in x668 (hN _ a712) := (vin l_a712 (m := 4) (by decide) (qr196 hiv4 r_kv8 r_kv9 r_kv10 hnf r_x12 q_x12 mo656 mo657 mo658 bb_x29 iw_x29 c33 bb_x34 iw_x34 c38 mo659 mo660 mo661 mo662 mo663 mo664 mo665 q_x655 c666 r_x668 q_x668 r_x672 q_x672 r_x678 q_x678 r_x685 q_x685 r_x690 q_x690 ex691))
        refine ⟨i714, ?_⟩
        intro S715 eS715
        have hIn : IV S715 := by rw [eS715]; exact iv10_aI hI o_a7 (rg_nw hG ea7) ea712 o_a712 (by decide)
        have hG := rg_a (jj := 23) (x := x668) eS715 hI ea7 o_a7 ea712 o_a712 (by decide) (h1_no (by decide)) (h2_no (y := 0) (by decide)) hG
        have el681 := el_ar eS715 (ow_ne hI o_a7 (by decide) o_a7 (by decide) ea712 ea676 (by decide)) el681
        have el688 := el_ar eS715 (ow_ne hI o_a7 (by decide) o_a7 (by decide) ea712 ea683 (by decide)) el688
        have hI := hIn
        have f0 := fr_A eS715 g0 f0 o_a712 (by decide)
        have d_kv9 := rd_Ik eS715 o_a712 o_a7 (by decide) d_kv9
        have d_x668 := rd_Ik eS715 o_a712 o_a7 (by decide) d_x668
        have d_x655 := rd_Ik eS715 o_a712 o_v0 (by decide) d_x655
        have d_kv644 := rd_Ik eS715 o_a712 o_v0 (by decide) d_kv644
        have d_kv654 := rd_Ik eS715 o_a712 o_v0 (by decide) d_kv654
        have d_x691 := rd_Ik eS715 o_a712 o_a7 (by decide) d_x691
        have ea7 := rf_I eS715 ea7
        have ea670 := rf_I eS715 ea670
        have ea676 := rf_I eS715 ea676
        have ea683 := rf_I eS715 ea683
        have ea694 := rf_I eS715 ea694
        have ea698 := rf_I eS715 ea698
        have ea702 := rf_I eS715 ea702
        have ea707 := rf_I eS715 ea707
        have ea712 := rf_I eS715 ea712
        have l_a670 := ln_I eS715 l_a670
        have l_a676 := ln_I eS715 l_a676
        have l_a683 := ln_I eS715 l_a683
        have l_a694 := ln_I eS715 l_a694
        have l_a698 := ln_I eS715 l_a698
        have l_a702 := ln_I eS715 l_a702
        have l_a707 := ln_I eS715 l_a707
        have l_a712 := ln_I eS715 l_a712
        have g0 := gr_I eS715 g0
        have o_a670 := ob_I eS715 o_a670
        have o_a676 := ob_I eS715 o_a676
        have o_a683 := ob_I eS715 o_a683
        have o_a694 := ob_I eS715 o_a694
        have o_a698 := ob_I eS715 o_a698
        have o_a7 := ob_I eS715 o_a7
        have o_a702 := ob_I eS715 o_a702
        have o_a707 := ob_I eS715 o_a707
        have o_a712 := ob_I eS715 o_a712
        have o_v0 := ob_I eS715 o_v0
        refine ⟨a7, ea7, ?_⟩
        refine ⟨o_a7, ?_⟩
        obtain ⟨a717, ea717, o_a717, l_a717⟩ := shl 46 rfl hI o_a7
        refine ⟨a717, ea717, ?_⟩
        refine ⟨o_a717, ?_⟩
        have i718 : vp_in x668 (hN _ a717) := (vin l_a717 (m := 4) (by decide) (qr196 hiv4 r_kv8 r_kv9 r_kv10 hnf r_x12 q_x12 mo656 mo657 mo658 bb_x29 iw_x29 c33 bb_x34 iw_x34 c38 mo659 mo660 mo661 mo662 mo663 mo664 mo665 q_x655 c666 r_x668 q_x668 r_x672 q_x672 r_x678 q_x678 r_x685 q_x685 r_x690 q_x690 ex691))
        refine ⟨i718, ?_⟩
        intro S719 eS719
        have hIn : IV S719 := by rw [eS719]; exact iv10_aI hI o_a7 (rg_nw hG ea7) ea717 o_a717 (by decide)
        have hG := rg_a (jj := 24) (x := x668) eS719 hI ea7 o_a7 ea717 o_a717 (by decide) (h1_one (c := 4) (lo := 1) (hi := 9) (hf := 99) (by decide) d_x668.symm) (h2_no (y := 0) (by decide)) hG
        have el681 := el_ar eS719 (ow_ne hI o_a7 (by decide) o_a7 (by decide) ea717 ea676 (by decide)) el681
        have el688 := el_ar eS719 (ow_ne hI o_a7 (by decide) o_a7 (by decide) ea717 ea683 (by decide)) el688
        have hI := hIn
        have f0 := fr_A eS719 g0 f0 o_a717 (by decide)
        have d_kv9 := rd_Ik eS719 o_a717 o_a7 (by decide) d_kv9
        have d_x668 := rd_Ik eS719 o_a717 o_a7 (by decide) d_x668
        have d_x655 := rd_Ik eS719 o_a717 o_v0 (by decide) d_x655
        have d_kv644 := rd_Ik eS719 o_a717 o_v0 (by decide) d_kv644
        have d_kv654 := rd_Ik eS719 o_a717 o_v0 (by decide) d_kv654
        have d_x691 := rd_Ik eS719 o_a717 o_a7 (by decide) d_x691
        have ea7 := rf_I eS719 ea7
        have ea670 := rf_I eS719 ea670
        have ea676 := rf_I eS719 ea676
        have ea683 := rf_I eS719 ea683
        have ea694 := rf_I eS719 ea694
        have ea698 := rf_I eS719 ea698
        have ea702 := rf_I eS719 ea702
        have ea707 := rf_I eS719 ea707
        have ea712 := rf_I eS719 ea712
        have ea717 := rf_I eS719 ea717
        have l_a670 := ln_I eS719 l_a670
        have l_a676 := ln_I eS719 l_a676
        have l_a683 := ln_I eS719 l_a683
        have l_a694 := ln_I eS719 l_a694
        have l_a698 := ln_I eS719 l_a698
        have l_a702 := ln_I eS719 l_a702
        have l_a707 := ln_I eS719 l_a707
        have l_a712 := ln_I eS719 l_a712
        have l_a717 := ln_I eS719 l_a717
        have g0 := gr_I eS719 g0
        have o_a670 := ob_I eS719 o_a670
        have o_a676 := ob_I eS719 o_a676
        have o_a683 := ob_I eS719 o_a683
        have o_a694 := ob_I eS719 o_a694
        have o_a698 := ob_I eS719 o_a698
        have o_a7 := ob_I eS719 o_a7
        have o_a702 := ob_I eS719 o_a702
        have o_a707 := ob_I eS719 o_a707
        have o_a712 := ob_I eS719 o_a712
        have o_a717 := ob_I eS719 o_a717
        have o_v0 := ob_I eS719 o_v0
        have el720 : fI S719 a717 x668.toNatClampNeg = x624 := by rw [eS719]; exact u2_self _ _ _ _
        refine ⟨a7, ea7, ?_⟩
        refine ⟨o_a7, ?_⟩
        obtain ⟨a722, ea722, o_a722, l_a722⟩ := shl 47 rfl hI o_a7
        refine ⟨a722, ea722, ?_⟩
        refine ⟨o_a722, ?_⟩
        have i723 : vp_in x668 (hN _ a722) := (vin l_a722 (m := 4) (by decide) (qr196 hiv4 r_kv8 r_kv9 r_kv10 hnf r_x12 q_x12 mo656 mo657 mo658 bb_x29 iw_x29 c33 bb_x34 iw_x34 c38 mo659 mo660 mo661 mo662 mo663 mo664 mo665 q_x655 c666 r_x668 q_x668 r_x672 q_x672 r_x678 q_x678 r_x685 q_x685 r_x690 q_x690 ex691))
        refine ⟨i723, ?_⟩
        intro S724 eS724
        have hIn : IV S724 := by rw [eS724]; exact iv10_aI hI o_a7 (rg_nw hG ea7) ea722 o_a722 (by decide)
        have hG := rg_a (jj := 25) (x := x668) eS724 hI ea7 o_a7 ea722 o_a722 (by decide) (h1_one (c := 4) (lo := 0) (hi := 9) (hf := 99) (by decide) d_x668.symm) (h2_no (y := 0) (by decide)) hG
        have el681 := el_ar eS724 (ow_ne hI o_a7 (by decide) o_a7 (by decide) ea722 ea676 (by decide)) el681
        have el688 := el_ar eS724 (ow_ne hI o_a7 (by decide) o_a7 (by decide) ea722 ea683 (by decide)) el688
        have el720 := el_ar eS724 (ow_ne hI o_a7 (by decide) o_a7 (by decide) ea722 ea717 (by decide)) el720
        have hI := hIn
        have f0 := fr_A eS724 g0 f0 o_a722 (by decide)
        have d_kv9 := rd_Ik eS724 o_a722 o_a7 (by decide) d_kv9
        have d_x668 := rd_Ik eS724 o_a722 o_a7 (by decide) d_x668
        have d_x655 := rd_Ik eS724 o_a722 o_v0 (by decide) d_x655
        have d_kv644 := rd_Ik eS724 o_a722 o_v0 (by decide) d_kv644
        have d_kv654 := rd_Ik eS724 o_a722 o_v0 (by decide) d_kv654
        have d_x691 := rd_Ik eS724 o_a722 o_a7 (by decide) d_x691
        have ea7 := rf_I eS724 ea7
        have ea670 := rf_I eS724 ea670
        have ea676 := rf_I eS724 ea676
        have ea683 := rf_I eS724 ea683
        have ea694 := rf_I eS724 ea694
        have ea698 := rf_I eS724 ea698
        have ea702 := rf_I eS724 ea702
        have ea707 := rf_I eS724 ea707
        have ea712 := rf_I eS724 ea712
        have ea717 := rf_I eS724 ea717
        have ea722 := rf_I eS724 ea722
        have l_a670 := ln_I eS724 l_a670
        have l_a676 := ln_I eS724 l_a676
        have l_a683 := ln_I eS724 l_a683
        have l_a694 := ln_I eS724 l_a694
        have l_a698 := ln_I eS724 l_a698
        have l_a702 := ln_I eS724 l_a702
        have l_a707 := ln_I eS724 l_a707
        have l_a712 := ln_I eS724 l_a712
        have l_a717 := ln_I eS724 l_a717
        have l_a722 := ln_I eS724 l_a722
        have g0 := gr_I eS724 g0
        have o_a670 := ob_I eS724 o_a670
        have o_a676 := ob_I eS724 o_a676
        have o_a683 := ob_I eS724 o_a683
        have o_a694 := ob_I eS724 o_a694
        have o_a698 := ob_I eS724 o_a698
        have o_a7 := ob_I eS724 o_a7
        have o_a702 := ob_I eS724 o_a702
        have o_a707 := ob_I eS724 o_a707
        have o_a712 := ob_I eS724 o_a712
        have o_a717 := ob_I eS724 o_a717
        have o_a722 := ob_I eS724 o_a722
        have o_v0 := ob_I eS724 o_v0
        have el725 : fI S724 a722 x668.toNatClampNeg = x639 := by rw [eS724]; exact u2_self _ _ _ _
        refine ⟨a7, ea7, ?_⟩
        refine ⟨o_a7, ?_⟩
        intro x727 ex727
        have r_x727 : (0 : Int32) ≤ x727 ∧ x727 ≤ (4 : Int32) := by rw [ex727]; exact nu 20 rfl hI o_a7
        have q_x727 : x727 = x668 := ex727.trans d_x668.symm
        have d_x727 := ex727
        intro x728 ex728
        intro S729 eS729
        have hIn : IV S729 := by rw [eS729]; exact iv10_sI hI o_a7 (rg_nw hG ea7) (nu_one (lo := (0 : Int32)) (hi := (4 : Int32)) (by decide) (qr197 hiv4 r_kv8 r_kv9 r_kv10 hnf r_x12 q_x12 mo656 mo657 mo658 bb_x29 iw_x29 c33 bb_x34 iw_x34 c38 mo659 mo660 mo661 mo662 mo663 mo664 mo665 q_x655 c666 r_x668 q_x668 r_x672 q_x672 r_x678 q_x678 r_x685 q_x685 r_x690 q_x690 ex691 r_x727 q_x727 ex728))
        have hG := rg_inc (c := 4) (y := x727) eS729 hI ea7 o_a7 d_x727.symm (qr198 hiv4 r_kv8 r_kv9 r_kv10 hnf r_x12 q_x12 mo656 mo657 mo658 bb_x29 iw_x29 c33 bb_x34 iw_x34 c38 mo659 mo660 mo661 mo662 mo663 mo664 mo665 q_x655 c666 r_x668 q_x668 r_x672 q_x672 r_x678 q_x678 r_x685 q_x685 r_x690 q_x690 ex691 r_x727 q_x727 ex728) (qr199 hiv4 r_kv8 r_kv9 r_kv10 hnf r_x12 q_x12 mo656 mo657 mo658 bb_x29 iw_x29 c33 bb_x34 iw_x34 c38 mo659 mo660 mo661 mo662 mo663 mo664 mo665 q_x655 c666 r_x668 q_x668 r_x672 q_x672 r_x678 q_x678 r_x685 q_x685 r_x690 q_x690 ex691 r_x727 q_x727 ex728) (hn_4 ea717 (by rw [show x727 = x668 from (qr204 hiv4 r_kv8 r_kv9 r_kv10 hnf r_x12 q_x12 mo656 mo657 mo658 bb_x29 iw_x29 c33 bb_x34 iw_x34 c38 mo659 mo660 mo661 mo662 mo663 mo664 mo665 q_x655 c666 r_x668 q_x668 r_x672 q_x672 r_x678 q_x678 r_x685 q_x685 r_x690 q_x690 ex691 r_x727 q_x727 ex728), el720]; exact ⟨(qr205 hiv4 r_kv8 r_kv9 r_kv10 hnf r_x12 q_x12 mo656 mo657 mo658 bb_x29 iw_x29 c33 bb_x34 iw_x34 c38 mo659 mo660 mo661 mo662 mo663 mo664 p_x624 mo665 p_x639 q_x655 c666 r_x668 q_x668 r_x672 q_x672 r_x678 q_x678 r_x685 q_x685 r_x690 q_x690 ex691 r_x727 q_x727 ex728), (qr206 hiv4 r_kv8 r_kv9 r_kv10 hnf r_x12 q_x12 mo656 mo657 mo658 bb_x29 iw_x29 c33 bb_x34 iw_x34 c38 mo659 mo660 mo661 mo662 mo663 mo664 p_x624 mo665 p_x639 q_x655 c666 r_x668 q_x668 r_x672 q_x672 r_x678 q_x678 r_x685 q_x685 r_x690 q_x690 ex691 r_x727 q_x727 ex728), Or.inl rfl⟩) ea722 (by rw [show x727 = x668 from (qr204 hiv4 r_kv8 r_kv9 r_kv10 hnf r_x12 q_x12 mo656 mo657 mo658 bb_x29 iw_x29 c33 bb_x34 iw_x34 c38 mo659 mo660 mo661 mo662 mo663 mo664 mo665 q_x655 c666 r_x668 q_x668 r_x672 q_x672 r_x678 q_x678 r_x685 q_x685 r_x690 q_x690 ex691 r_x727 q_x727 ex728), el725]; exact ⟨(qr207 hiv4 r_kv8 r_kv9 r_kv10 hnf r_x12 q_x12 mo656 mo657 mo658 bb_x29 iw_x29 c33 bb_x34 iw_x34 c38 mo659 mo660 mo661 mo662 mo663 mo664 p_x624 mo665 p_x639 q_x655 c666 r_x668 q_x668 r_x672 q_x672 r_x678 q_x678 r_x685 q_x685 r_x690 q_x690 ex691 r_x727 q_x727 ex728), (qr208 hiv4 r_kv8 r_kv9 r_kv10 hnf r_x12 q_x12 mo656 mo657 mo658 bb_x29 iw_x29 c33 bb_x34 iw_x34 c38 mo659 mo660 mo661 mo662 mo663 mo664 p_x624 mo665 p_x639 q_x655 c666 r_x668 q_x668 r_x672 q_x672 r_x678 q_x678 r_x685 q_x685 r_x690 q_x690 ex691 r_x727 q_x727 ex728), Or.inl rfl⟩)) (hs_4 eS729 d_x727.symm d_kv9.symm (qr198 hiv4 r_kv8 r_kv9 r_kv10 hnf r_x12 q_x12 mo656 mo657 mo658 bb_x29 iw_x29 c33 bb_x34 iw_x34 c38 mo659 mo660 mo661 mo662 mo663 mo664 mo665 q_x655 c666 r_x668 q_x668 r_x672 q_x672 r_x678 q_x678 r_x685 q_x685 r_x690 q_x690 ex691 r_x727 q_x727 ex728) (qr199 hiv4 r_kv8 r_kv9 r_kv10 hnf r_x12 q_x12 mo656 mo657 mo658 bb_x29 iw_x29 c33 bb_x34 iw_x34 c38 mo659 mo660 mo661 mo662 mo663 mo664 mo665 q_x655 c666 r_x668 q_x668 r_x672 q_x672 r_x678 q_x678 r_x685 q_x685 r_x690 q_x690 ex691 r_x727 q_x727 ex728) (qr200 hiv4 r_kv8 r_kv9 r_kv10 hnf r_x12 q_x12 mo656 mo657 mo658 bb_x29 iw_x29 c33 bb_x34 iw_x34 c38 mo659 mo660 mo661 mo662 mo663 mo664 mo665 q_x655 c666 r_x668 q_x668 r_x672 q_x672 r_x678 q_x678 r_x685 q_x685 r_x690 q_x690 ex691 r_x727 q_x727 ex728) ea676 ea683 el681 (el688.trans (qr201 hiv4 r_kv8 r_kv9 r_kv10 hnf r_x12 q_x12 mo656 mo657 mo658 bb_x29 iw_x29 c33 bb_x34 iw_x34 c38 mo659 mo660 mo661 mo662 mo663 mo664 mo665 q_x655 c666 r_x668 q_x668 r_x672 q_x672 r_x678 q_x678 r_x685 q_x685 r_x690 q_x690 ex691 r_x727 q_x727 ex728)) (qr202 hiv4 r_kv8 r_kv9 r_kv10 hnf r_x12 q_x12 mo656 mo657 mo658 bb_x29 iw_x29 c33 bb_x34 iw_x34 c38 mo659 mo660 mo661 mo662 mo663 mo664 mo665 q_x655 c666 r_x668 q_x668 r_x672 q_x672 r_x678 q_x678 r_x685 q_x685 r_x690 q_x690 ex691 r_x727 q_x727 ex728) (qr203 hiv4 r_kv8 r_kv9 r_kv10 hnf r_x12 q_x12 mo656 mo657 mo658 bb_x29 iw_x29 c33 bb_x34 iw_x34 c38 mo659 mo660 mo661 mo662 mo663 mo664 mo665 q_x655 c666 r_x668 q_x668 r_x672 q_x672 r_x678 q_x678 r_x685 q_x685 r_x690 q_x690 ex691 r_x727 q_x727 ex728)) hG
        have el681 := el_ob eS729 o_a7 o_a676 (by decide) el681
        have el688 := el_ob eS729 o_a7 o_a683 (by decide) el688
        have el720 := el_ob eS729 o_a7 o_a717 (by decide) el720
        have el725 := el_ob eS729 o_a7 o_a722 (by decide) el725
        have hI := hIn
        have f0 := fr_I eS729 g0 f0 o_a7 (by decide)
        have d_kv9 := rd_Ij eS729 (by decide) d_kv9
        have d_x655 := rd_Ik eS729 o_a7 o_v0 (by decide) d_x655
        have d_kv644 := rd_Ik eS729 o_a7 o_v0 (by decide) d_kv644
        have d_kv654 := rd_Ik eS729 o_a7 o_v0 (by decide) d_kv654
        have d_x691 := rd_Ij eS729 (by decide) d_x691
        have d_x728 := rd_Is eS729 (rfl : x728 = x728)
        have ea7 := rf_I eS729 ea7
        have ea670 := rf_I eS729 ea670
        have ea676 := rf_I eS729 ea676
        have ea683 := rf_I eS729 ea683
        have ea694 := rf_I eS729 ea694
        have ea698 := rf_I eS729 ea698
        have ea702 := rf_I eS729 ea702
        have ea707 := rf_I eS729 ea707
        have ea712 := rf_I eS729 ea712
        have ea717 := rf_I eS729 ea717
        have ea722 := rf_I eS729 ea722
        have l_a670 := ln_I eS729 l_a670
        have l_a676 := ln_I eS729 l_a676
        have l_a683 := ln_I eS729 l_a683
        have l_a694 := ln_I eS729 l_a694
        have l_a698 := ln_I eS729 l_a698
        have l_a702 := ln_I eS729 l_a702
        have l_a707 := ln_I eS729 l_a707
        have l_a712 := ln_I eS729 l_a712
        have l_a717 := ln_I eS729 l_a717
        have l_a722 := ln_I eS729 l_a722
        have g0 := gr_I eS729 g0
        have o_a670 := ob_I eS729 o_a670
        have o_a676 := ob_I eS729 o_a676
        have o_a683 := ob_I eS729 o_a683
        have o_a694 := ob_I eS729 o_a694
        have o_a698 := ob_I eS729 o_a698
        have o_a7 := ob_I eS729 o_a7
        have o_a702 := ob_I eS729 o_a702
        have o_a707 := ob_I eS729 o_a707
        have o_a712 := ob_I eS729 o_a712
        have o_a717 := ob_I eS729 o_a717
        have o_a722 := ob_I eS729 o_a722
        have o_v0 := ob_I eS729 o_v0
        have hn : RN S729 v0 := fun z ez => by obtain rfl : a7 = z := Option.some.inj (ea7.symm.trans ez); rw [← d_x691, ← d_kv9, ← d_x728]; exact (qr209 hiv4 r_kv8 r_kv9 r_kv10 hnf r_x12 q_x12 mo656 mo657 mo658 bb_x29 iw_x29 c33 bb_x34 iw_x34 c38 mo659 mo660 mo661 mo662 mo663 mo664 mo665 q_x655 c666 r_x668 q_x668 r_x672 q_x672 r_x678 q_x678 r_x685 q_x685 r_x690 q_x690 ex691 r_x727 q_x727 ex728)
        exact hq _ hI g0 f0 ⟨hG, hn, (by have t : x655 = 5 → 0 < kv644 := (qr210 hiv4 hiv6 hO r_kv8 r_kv9 r_kv10 hnf r_x12 q_x12 ph0_S14 mo656 mo657 ph0_S21 mo658 bb_x29 iw_x29 c33 bb_x34 iw_x34 c38 hiv562 ph0_S564 mo659 ph0_S574 mo660 ph0_S586 mo661 ph0_S598 mo662 ph0_S611 mo663 ph0_S625 mo664 ph0_S640 mo665 q_x655 c666 r_x668 q_x668 r_x672 q_x672 r_x678 q_x678 r_x685 q_x685 r_x690 q_x690 ex691 r_x727 q_x727 ex728); rw [d_x655, d_kv644] at t; exact t), (by have t : x655 = 5 ∨ ¬ iv4 = 5 := (qr211 hiv4 r_kv8 r_kv9 r_kv10 hnf r_x12 q_x12 mo656 mo657 mo658 bb_x29 iw_x29 c33 bb_x34 iw_x34 c38 mo659 mo660 mo661 mo662 mo663 mo664 mo665 q_x655 c666 r_x668 q_x668 r_x672 q_x672 r_x678 q_x678 r_x685 q_x685 r_x690 q_x690 ex691 r_x727 q_x727 ex728); rw [di_9, d_x655] at t; exact t), (by have t : iv2 ≤ kv654 ∧ (x655 = 4 → iv2 < kv654 ∨ iv4 = 4) := (qr212 r_kv1 hiv2 hiv4 r_kv8 r_kv9 r_kv10 hnf r_x12 q_x12 mo656 r_kv19 ph2_S14 mo657 mo658 r_kv28 ph2_S21 bb_x29 iw_x29 c33 bb_x34 iw_x34 c38 mo659 r_kv571 ph2_S564 mo660 r_kv583 ph2_S574 mo661 r_kv596 ph2_S586 mo662 r_kv609 ph2_S598 mo663 r_kv623 ph2_S611 mo664 r_kv638 ph2_S625 mo665 r_kv654 ph2_S640 q_x655 c666 r_x668 q_x668 r_x672 q_x672 r_x678 q_x678 r_x685 q_x685 r_x690 q_x690 ex691 r_x727 q_x727 ex728); rw [di_8, di_9, d_kv654, d_x655] at t; exact t)⟩
      · exact hq _ hI g0 f0 ⟨hG, hn, (by have t : x655 = 5 → 0 < kv644 := (qr213 hiv4 hiv6 hO r_kv8 r_kv9 r_kv10 hnf r_x12 q_x12 ph0_S14 mo656 mo657 ph0_S21 mo658 bb_x29 iw_x29 c33 bb_x34 iw_x34 c38 hiv562 ph0_S564 mo659 ph0_S574 mo660 ph0_S586 mo661 ph0_S598 mo662 ph0_S611 mo663 ph0_S625 mo664 ph0_S640 mo665 q_x655 c666); rw [d_x655, d_kv644] at t; exact t), (by have t : x655 = 5 ∨ ¬ iv4 = 5 := (qr214 hiv4 r_kv8 r_kv9 r_kv10 hnf r_x12 q_x12 mo656 mo657 mo658 bb_x29 iw_x29 c33 bb_x34 iw_x34 c38 mo659 mo660 mo661 mo662 mo663 mo664 mo665 q_x655 c666); rw [di_9, d_x655] at t; exact t), (by have t : iv2 ≤ kv654 ∧ (x655 = 4 → iv2 < kv654 ∨ iv4 = 4) := (qr215 r_kv1 hiv2 hiv4 r_kv8 r_kv9 r_kv10 hnf r_x12 q_x12 mo656 r_kv19 ph2_S14 mo657 mo658 r_kv28 ph2_S21 bb_x29 iw_x29 c33 bb_x34 iw_x34 c38 mo659 r_kv571 ph2_S564 mo660 r_kv583 ph2_S574 mo661 r_kv596 ph2_S586 mo662 r_kv609 ph2_S598 mo663 r_kv623 ph2_S611 mo664 r_kv638 ph2_S625 mo665 r_kv654 ph2_S640 q_x655 c666); rw [di_8, di_9, d_kv654, d_x655] at t; exact t)⟩
  · refine u_X11_readWalker_74 ?_
    refine ⟨fun c730 => ?_, fun c730 => absurd (show (0 : Int32) = (-1 : Int32) from c730) (by decide)⟩
    refine u_X11_readWalker_85 ?_
    refine ⟨o_v0, ?_⟩
    obtain ⟨iv731, hiv731⟩ : ∃ z : Int32, z = kv25 := ⟨_, rfl⟩
    have d_iv731 := hiv731.trans d_kv25
    have do731_kv28 := d_kv28
    have do731_kv24 := d_kv24
    have do731_iv731 := d_iv731
    refine m_X11_goesOn hI o_v0 hG (by have t : kv24 = 5 → 0 < kv25 := (qr216 hiv4 hiv6 hO r_kv8 r_kv9 r_kv10 hnf r_x12 q_x12 ph0_S14 mo26 mo27 ph0_S21 ph1_S21 bb_x29 iw_x29 c33); rw [d_kv24, d_kv25] at t; exact t) (fun S733 hJ g734 fc735 p_S733 => ?_)
    obtain ⟨hG, pg0_S733, pg1_S733, pg2_S733⟩ := p_S733
    have hn := rn_fr fc735 g734 hI o_v0 (by decide) hn
    have hI := hJ
    have d_kv8 := d_kv8.trans (fri_at fc735 (by decide) (by decide) o_a7).symm
    have d_kv9 := d_kv9.trans (fri_at fc735 (by decide) (by decide) o_a7).symm
    have d_x12 := d_x12.trans (fri_at fc735 (by decide) (by decide) o_a7).symm
    have d_kv25 := d_kv25.trans (fri_at fc735 (by decide) (by decide) o_v0).symm
    have ea7 := (frr_at fc735 (by decide) (by decide) o_v0).trans ea7
    have f0 := fri_tr (S := S21) g0 f0 fc735 (by decide) (by decide)
    have o_a7 := gr_ob g734 o_a7
    have o_v0 := gr_ob g734 o_v0
    have g0 := gr_tr (T := S21) g0 g734
    obtain ⟨kv736, d_kv736⟩ : ∃ z : Int32, z = fI S733 v0 9 := ⟨_, rfl⟩
    have ph0_S733 : kv736 = 5 → 0 < kv25 := by rw [d_kv736, d_kv25]; exact pg0_S733
    have ph1_S733 : kv736 = 5 ∨ ¬ kv24 = 5 := by rw [do731_kv24, d_kv736]; exact pg1_S733
    have mo737 : kv736 = 5 ∨ ¬ kv3 = 5 := ph1_S733.elim Or.inl (fun h => Or.inr (mo26.resolve_left h))
    have mo738 : kv736 = 5 ∨ ¬ x12 = (4 : Int32) := ph1_S733.elim Or.inl (fun h => Or.inr (mo27.resolve_left h))
    have mo739 : kv736 = 5 ∨ ¬ kv17 = 5 := ph1_S733.elim Or.inl (fun h => Or.inr (ph1_S21.resolve_left h))
    obtain ⟨kv740, d_kv740⟩ : ∃ z : Int32, z = fI S733 v0 8 := ⟨_, rfl⟩
    have r_kv740 : (0 : Int32) ≤ kv740 ∧ kv740 ≤ (900 : Int32) := by rw [d_kv740]; exact nu 25 rfl hI o_v0
    have ph2_S733 : kv28 ≤ kv740 ∧ (kv736 = 4 → kv28 < kv740 ∨ kv24 = 4) := by rw [do731_kv28, do731_kv24, d_kv740, d_kv736]; exact pg2_S733
    intro _
    refine ⟨fun c741 => ?_, fun c741 => absurd (show (0 : Int32) = (1 : Int32) from c741) (by decide)⟩
    refine ⟨fun c742 => ?_, fun c742 => absurd (show (0 : Int32) = (2 : Int32) from c742) (by decide)⟩
    refine ⟨fun c743 => ?_, fun c743 => absurd (show (0 : Int32) = (3 : Int32) from c743) (by decide)⟩
    refine u_X11_readWalker_136 ?_
    refine ⟨fun c744 => ?_, fun c744 => absurd (show (0 : Int32) = (1 : Int32) from c744) (by decide)⟩
    refine u_X11_readWalker_149 ?_
    refine ⟨o_v0, ?_⟩
    have do744_kv740 := d_kv740
    have do744_kv736 := d_kv736
    have do744_kv25 := d_kv25
    refine m_X11_readPart hI o_v0 (by decide) hG (by have t : kv736 = 5 → 0 < kv25 := (qr217 hiv4 hiv6 hO r_kv8 r_kv9 r_kv10 hnf r_x12 q_x12 ph0_S14 mo737 mo738 ph0_S21 mo739 bb_x29 iw_x29 c33 hiv731 ph0_S733 ph1_S733); rw [d_kv736, d_kv25] at t; exact t) (fun x745 S746 hJ g747 fc748 p_x745 => ?_)
    obtain ⟨hG, p_x745, pg0_S746, pg1_S746, pg2_S746⟩ := p_x745
    have hn := rn_fr fc748 g747 hI o_v0 (by decide) hn
    have hI := hJ
    have d_kv8 := d_kv8.trans (fri_at fc748 (by decide) (by decide) o_a7).symm
    have d_kv9 := d_kv9.trans (fri_at fc748 (by decide) (by decide) o_a7).symm
    have d_x12 := d_x12.trans (fri_at fc748 (by decide) (by decide) o_a7).symm
    have ea7 := (frr_at fc748 (by decide) (by decide) o_v0).trans ea7
    have f0 := fri_tr (S := S733) g0 f0 fc748 (by decide) (by decide)
    have o_a7 := gr_ob g747 o_a7
    have o_v0 := gr_ob g747 o_v0
    have g0 := gr_tr (T := S733) g0 g747
    obtain ⟨kv749, d_kv749⟩ : ∃ z : Int32, z = fI S746 v0 9 := ⟨_, rfl⟩
    obtain ⟨kv750, d_kv750⟩ : ∃ z : Int32, z = fI S746 v0 13 := ⟨_, rfl⟩
    have ph0_S746 : kv749 = 5 → 0 < kv750 := by rw [d_kv749, d_kv750]; exact pg0_S746
    have ph1_S746 : kv749 = 5 ∨ ¬ kv736 = 5 := by rw [do744_kv736, d_kv749]; exact pg1_S746
    have mo751 : kv749 = 5 ∨ ¬ kv3 = 5 := ph1_S746.elim Or.inl (fun h => Or.inr (mo737.resolve_left h))
    have mo752 : kv749 = 5 ∨ ¬ x12 = (4 : Int32) := ph1_S746.elim Or.inl (fun h => Or.inr (mo738.resolve_left h))
    have mo753 : kv749 = 5 ∨ ¬ kv17 = 5 := ph1_S746.elim Or.inl (fun h => Or.inr (mo739.resolve_left h))
    have mo754 : kv749 = 5 ∨ ¬ kv24 = 5 := ph1_S746.elim Or.inl (fun h => Or.inr (ph1_S733.resolve_left h))
    obtain ⟨kv755, d_kv755⟩ : ∃ z : Int32, z = fI S746 v0 8 := ⟨_, rfl⟩
    have r_kv755 : (0 : Int32) ≤ kv755 ∧ kv755 ≤ (900 : Int32) := by rw [d_kv755]; exact nu 25 rfl hI o_v0
    have ph2_S746 : kv740 ≤ kv755 ∧ (kv749 = 4 → kv740 < kv755 ∨ kv736 = 4) := by rw [do744_kv740, do744_kv736, d_kv755, d_kv749]; exact pg2_S746
    intro _
    have do755_kv755 := d_kv755
    have do755_kv749 := d_kv749
    have do755_kv750 := d_kv750
    refine m_X11_readPart hI o_v0 (by decide) hG (by have t : kv749 = 5 → 0 < kv750 := (qr218 hiv4 hiv6 hO r_kv8 r_kv9 r_kv10 hnf r_x12 q_x12 ph0_S14 mo751 mo752 ph0_S21 mo753 bb_x29 iw_x29 c33 hiv731 ph0_S733 mo754 ph0_S746 ph1_S746); rw [d_kv749, d_kv750] at t; exact t) (fun x756 S757 hJ g758 fc759 p_x756 => ?_)
    obtain ⟨hG, p_x756, pg0_S757, pg1_S757, pg2_S757⟩ := p_x756
    have hn := rn_fr fc759 g758 hI o_v0 (by decide) hn
    have hI := hJ
    have d_kv8 := d_kv8.trans (fri_at fc759 (by decide) (by decide) o_a7).symm
    have d_kv9 := d_kv9.trans (fri_at fc759 (by decide) (by decide) o_a7).symm
    have d_x12 := d_x12.trans (fri_at fc759 (by decide) (by decide) o_a7).symm
    have ea7 := (frr_at fc759 (by decide) (by decide) o_v0).trans ea7
    have f0 := fri_tr (S := S746) g0 f0 fc759 (by decide) (by decide)
    have o_a7 := gr_ob g758 o_a7
    have o_v0 := gr_ob g758 o_v0
    have g0 := gr_tr (T := S746) g0 g758
    obtain ⟨kv760, d_kv760⟩ : ∃ z : Int32, z = fI S757 v0 9 := ⟨_, rfl⟩
    obtain ⟨kv761, d_kv761⟩ : ∃ z : Int32, z = fI S757 v0 13 := ⟨_, rfl⟩
    have ph0_S757 : kv760 = 5 → 0 < kv761 := by rw [d_kv760, d_kv761]; exact pg0_S757
    have ph1_S757 : kv760 = 5 ∨ ¬ kv749 = 5 := by rw [do755_kv749, d_kv760]; exact pg1_S757
    have mo762 : kv760 = 5 ∨ ¬ kv3 = 5 := ph1_S757.elim Or.inl (fun h => Or.inr (mo751.resolve_left h))
    have mo763 : kv760 = 5 ∨ ¬ x12 = (4 : Int32) := ph1_S757.elim Or.inl (fun h => Or.inr (mo752.resolve_left h))
    have mo764 : kv760 = 5 ∨ ¬ kv17 = 5 := ph1_S757.elim Or.inl (fun h => Or.inr (mo753.resolve_left h))
    have mo765 : kv760 = 5 ∨ ¬ kv24 = 5 := ph1_S757.elim Or.inl (fun h => Or.inr (mo754.resolve_left h))
    have mo766 : kv760 = 5 ∨ ¬ kv736 = 5 := ph1_S757.elim Or.inl (fun h => Or.inr (ph1_S746.resolve_left h))
    obtain ⟨kv767, d_kv767⟩ : ∃ z : Int32, z = fI S757 v0 8 := ⟨_, rfl⟩
    have r_kv767 : (0 : Int32) ≤ kv767 ∧ kv767 ≤ (900 : Int32) := by rw [d_kv767]; exact nu 25 rfl hI o_v0
    have ph2_S757 : kv755 ≤ kv767 ∧ (kv760 = 4 → kv755 < kv767 ∨ kv749 = 4) := by rw [do755_kv755, do755_kv749, d_kv767, d_kv760]; exact pg2_S757
    intro _
    have do767_kv767 := d_kv767
    have do767_kv760 := d_kv760
    have do767_kv761 := d_kv761
    refine m_X11_readPart hI o_v0 (by decide) hG (by have t : kv760 = 5 → 0 < kv761 := (qr219 hiv4 hiv6 hO r_kv8 r_kv9 r_kv10 hnf r_x12 q_x12 ph0_S14 mo762 mo763 ph0_S21 mo764 bb_x29 iw_x29 c33 hiv731 ph0_S733 mo765 ph0_S746 mo766 ph0_S757 ph1_S757); rw [d_kv760, d_kv761] at t; exact t) (fun x768 S769 hJ g770 fc771 p_x768 => ?_)
    obtain ⟨hG, p_x768, pg0_S769, pg1_S769, pg2_S769⟩ := p_x768
    have hn := rn_fr fc771 g770 hI o_v0 (by decide) hn
    have hI := hJ
    have d_kv8 := d_kv8.trans (fri_at fc771 (by decide) (by decide) o_a7).symm
    have d_kv9 := d_kv9.trans (fri_at fc771 (by decide) (by decide) o_a7).symm
    have d_x12 := d_x12.trans (fri_at fc771 (by decide) (by decide) o_a7).symm
    have ea7 := (frr_at fc771 (by decide) (by decide) o_v0).trans ea7
    have f0 := fri_tr (S := S757) g0 f0 fc771 (by decide) (by decide)
    have o_a7 := gr_ob g770 o_a7
    have o_v0 := gr_ob g770 o_v0
    have g0 := gr_tr (T := S757) g0 g770
    obtain ⟨kv772, d_kv772⟩ : ∃ z : Int32, z = fI S769 v0 9 := ⟨_, rfl⟩
    obtain ⟨kv773, d_kv773⟩ : ∃ z : Int32, z = fI S769 v0 13 := ⟨_, rfl⟩
    have ph0_S769 : kv772 = 5 → 0 < kv773 := by rw [d_kv772, d_kv773]; exact pg0_S769
    have ph1_S769 : kv772 = 5 ∨ ¬ kv760 = 5 := by rw [do767_kv760, d_kv772]; exact pg1_S769
    have mo774 : kv772 = 5 ∨ ¬ kv3 = 5 := ph1_S769.elim Or.inl (fun h => Or.inr (mo762.resolve_left h))
    have mo775 : kv772 = 5 ∨ ¬ x12 = (4 : Int32) := ph1_S769.elim Or.inl (fun h => Or.inr (mo763.resolve_left h))
    have mo776 : kv772 = 5 ∨ ¬ kv17 = 5 := ph1_S769.elim Or.inl (fun h => Or.inr (mo764.resolve_left h))
    have mo777 : kv772 = 5 ∨ ¬ kv24 = 5 := ph1_S769.elim Or.inl (fun h => Or.inr (mo765.resolve_left h))
    have mo778 : kv772 = 5 ∨ ¬ kv736 = 5 := ph1_S769.elim Or.inl (fun h => Or.inr (mo766.resolve_left h))
    have mo779 : kv772 = 5 ∨ ¬ kv749 = 5 := ph1_S769.elim Or.inl (fun h => Or.inr (ph1_S757.resolve_left h))
    obtain ⟨kv780, d_kv780⟩ : ∃ z : Int32, z = fI S769 v0 8 := ⟨_, rfl⟩
    have r_kv780 : (0 : Int32) ≤ kv780 ∧ kv780 ≤ (900 : Int32) := by rw [d_kv780]; exact nu 25 rfl hI o_v0
    have ph2_S769 : kv767 ≤ kv780 ∧ (kv772 = 4 → kv767 < kv780 ∨ kv760 = 4) := by rw [do767_kv767, do767_kv760, d_kv780, d_kv772]; exact pg2_S769
    intro _
    have do780_kv780 := d_kv780
    have do780_kv772 := d_kv772
    have do780_kv773 := d_kv773
    refine m_X11_readPart hI o_v0 (by decide) hG (by have t : kv772 = 5 → 0 < kv773 := (qr220 hiv4 hiv6 hO r_kv8 r_kv9 r_kv10 hnf r_x12 q_x12 ph0_S14 mo774 mo775 ph0_S21 mo776 bb_x29 iw_x29 c33 hiv731 ph0_S733 mo777 ph0_S746 mo778 ph0_S757 mo779 ph0_S769 ph1_S769); rw [d_kv772, d_kv773] at t; exact t) (fun x781 S782 hJ g783 fc784 p_x781 => ?_)
    obtain ⟨hG, p_x781, pg0_S782, pg1_S782, pg2_S782⟩ := p_x781
    have hn := rn_fr fc784 g783 hI o_v0 (by decide) hn
    have hI := hJ
    have d_kv8 := d_kv8.trans (fri_at fc784 (by decide) (by decide) o_a7).symm
    have d_kv9 := d_kv9.trans (fri_at fc784 (by decide) (by decide) o_a7).symm
    have d_x12 := d_x12.trans (fri_at fc784 (by decide) (by decide) o_a7).symm
    have ea7 := (frr_at fc784 (by decide) (by decide) o_v0).trans ea7
    have f0 := fri_tr (S := S769) g0 f0 fc784 (by decide) (by decide)
    have o_a7 := gr_ob g783 o_a7
    have o_v0 := gr_ob g783 o_v0
    have g0 := gr_tr (T := S769) g0 g783
    obtain ⟨kv785, d_kv785⟩ : ∃ z : Int32, z = fI S782 v0 9 := ⟨_, rfl⟩
    obtain ⟨kv786, d_kv786⟩ : ∃ z : Int32, z = fI S782 v0 13 := ⟨_, rfl⟩
    have ph0_S782 : kv785 = 5 → 0 < kv786 := by rw [d_kv785, d_kv786]; exact pg0_S782
    have ph1_S782 : kv785 = 5 ∨ ¬ kv772 = 5 := by rw [do780_kv772, d_kv785]; exact pg1_S782
    have mo787 : kv785 = 5 ∨ ¬ kv3 = 5 := ph1_S782.elim Or.inl (fun h => Or.inr (mo774.resolve_left h))
    have mo788 : kv785 = 5 ∨ ¬ x12 = (4 : Int32) := ph1_S782.elim Or.inl (fun h => Or.inr (mo775.resolve_left h))
    have mo789 : kv785 = 5 ∨ ¬ kv17 = 5 := ph1_S782.elim Or.inl (fun h => Or.inr (mo776.resolve_left h))
    have mo790 : kv785 = 5 ∨ ¬ kv24 = 5 := ph1_S782.elim Or.inl (fun h => Or.inr (mo777.resolve_left h))
    have mo791 : kv785 = 5 ∨ ¬ kv736 = 5 := ph1_S782.elim Or.inl (fun h => Or.inr (mo778.resolve_left h))
    have mo792 : kv785 = 5 ∨ ¬ kv749 = 5 := ph1_S782.elim Or.inl (fun h => Or.inr (mo779.resolve_left h))
    have mo793 : kv785 = 5 ∨ ¬ kv760 = 5 := ph1_S782.elim Or.inl (fun h => Or.inr (ph1_S769.resolve_left h))
    obtain ⟨kv794, d_kv794⟩ : ∃ z : Int32, z = fI S782 v0 8 := ⟨_, rfl⟩
    have r_kv794 : (0 : Int32) ≤ kv794 ∧ kv794 ≤ (900 : Int32) := by rw [d_kv794]; exact nu 25 rfl hI o_v0
    have ph2_S782 : kv780 ≤ kv794 ∧ (kv785 = 4 → kv780 < kv794 ∨ kv772 = 4) := by rw [do780_kv780, do780_kv772, d_kv794, d_kv785]; exact pg2_S782
    intro _
    have do794_kv794 := d_kv794
    have do794_kv785 := d_kv785
    have do794_kv786 := d_kv786
    refine m_X11_readPart hI o_v0 (by decide) hG (by have t : kv785 = 5 → 0 < kv786 := (qr221 hiv4 hiv6 hO r_kv8 r_kv9 r_kv10 hnf r_x12 q_x12 ph0_S14 mo787 mo788 ph0_S21 mo789 bb_x29 iw_x29 c33 hiv731 ph0_S733 mo790 ph0_S746 mo791 ph0_S757 mo792 ph0_S769 mo793 ph0_S782 ph1_S782); rw [d_kv785, d_kv786] at t; exact t) (fun x795 S796 hJ g797 fc798 p_x795 => ?_)
    obtain ⟨hG, p_x795, pg0_S796, pg1_S796, pg2_S796⟩ := p_x795
    have hn := rn_fr fc798 g797 hI o_v0 (by decide) hn
    have hI := hJ
    have d_kv8 := d_kv8.trans (fri_at fc798 (by decide) (by decide) o_a7).symm
    have d_kv9 := d_kv9.trans (fri_at fc798 (by decide) (by decide) o_a7).symm
    have d_x12 := d_x12.trans (fri_at fc798 (by decide) (by decide) o_a7).symm
    have ea7 := (frr_at fc798 (by decide) (by decide) o_v0).trans ea7
    have f0 := fri_tr (S := S782) g0 f0 fc798 (by decide) (by decide)
    have o_a7 := gr_ob g797 o_a7
    have o_v0 := gr_ob g797 o_v0
    have g0 := gr_tr (T := S782) g0 g797
    obtain ⟨kv799, d_kv799⟩ : ∃ z : Int32, z = fI S796 v0 9 := ⟨_, rfl⟩
    obtain ⟨kv800, d_kv800⟩ : ∃ z : Int32, z = fI S796 v0 13 := ⟨_, rfl⟩
    have ph0_S796 : kv799 = 5 → 0 < kv800 := by rw [d_kv799, d_kv800]; exact pg0_S796
    have ph1_S796 : kv799 = 5 ∨ ¬ kv785 = 5 := by rw [do794_kv785, d_kv799]; exact pg1_S796
    have mo801 : kv799 = 5 ∨ ¬ kv3 = 5 := ph1_S796.elim Or.inl (fun h => Or.inr (mo787.resolve_left h))
    have mo802 : kv799 = 5 ∨ ¬ x12 = (4 : Int32) := ph1_S796.elim Or.inl (fun h => Or.inr (mo788.resolve_left h))
    have mo803 : kv799 = 5 ∨ ¬ kv17 = 5 := ph1_S796.elim Or.inl (fun h => Or.inr (mo789.resolve_left h))
    have mo804 : kv799 = 5 ∨ ¬ kv24 = 5 := ph1_S796.elim Or.inl (fun h => Or.inr (mo790.resolve_left h))
    have mo805 : kv799 = 5 ∨ ¬ kv736 = 5 := ph1_S796.elim Or.inl (fun h => Or.inr (mo791.resolve_left h))
    have mo806 : kv799 = 5 ∨ ¬ kv749 = 5 := ph1_S796.elim Or.inl (fun h => Or.inr (mo792.resolve_left h))
    have mo807 : kv799 = 5 ∨ ¬ kv760 = 5 := ph1_S796.elim Or.inl (fun h => Or.inr (mo793.resolve_left h))
    have mo808 : kv799 = 5 ∨ ¬ kv772 = 5 := ph1_S796.elim Or.inl (fun h => Or.inr (ph1_S782.resolve_left h))
    obtain ⟨kv809, d_kv809⟩ : ∃ z : Int32, z = fI S796 v0 8 := ⟨_, rfl⟩
    have r_kv809 : (0 : Int32) ≤ kv809 ∧ kv809 ≤ (900 : Int32) := by rw [d_kv809]; exact nu 25 rfl hI o_v0
    have ph2_S796 : kv794 ≤ kv809 ∧ (kv799 = 4 → kv794 < kv809 ∨ kv785 = 4) := by rw [do794_kv794, do794_kv785, d_kv809, d_kv799]; exact pg2_S796
    intro _
    intro x810 ex810
    have q_x810 : x810 = kv799 := ex810.trans d_kv799.symm
    have mo811 : x810 = 5 ∨ ¬ kv3 = 5 := mo801.imp_left (fun z => q_x810.trans z)
    have mo812 : x810 = 5 ∨ ¬ x12 = (4 : Int32) := mo802.imp_left (fun z => q_x810.trans z)
    have mo813 : x810 = 5 ∨ ¬ kv17 = 5 := mo803.imp_left (fun z => q_x810.trans z)
    have mo814 : x810 = 5 ∨ ¬ kv24 = 5 := mo804.imp_left (fun z => q_x810.trans z)
    have mo815 : x810 = 5 ∨ ¬ kv736 = 5 := mo805.imp_left (fun z => q_x810.trans z)
    have mo816 : x810 = 5 ∨ ¬ kv749 = 5 := mo806.imp_left (fun z => q_x810.trans z)
    have mo817 : x810 = 5 ∨ ¬ kv760 = 5 := mo807.imp_left (fun z => q_x810.trans z)
    have mo818 : x810 = 5 ∨ ¬ kv772 = 5 := mo808.imp_left (fun z => q_x810.trans z)
    have mo819 : x810 = 5 ∨ ¬ kv785 = 5 := ph1_S796.imp_left (fun z => q_x810.trans z)
    have d_x810 := ex810
    refine ⟨fun c820 => ?_, fun c820 => ?_⟩
    · refine ⟨a7, ea7, ?_⟩
      refine ⟨o_a7, ?_⟩
      intro x822 ex822
      have r_x822 : (0 : Int32) ≤ x822 ∧ x822 ≤ (4 : Int32) := by rw [ex822]; exact nu 20 rfl hI o_a7
      have q_x822 : x822 = x12 := ex822.trans d_x12.symm
      have d_x822 := ex822
      refine u_X11_names ?_
      refine u_X11_names_0 ?_
      refine ⟨o_v0, ?_⟩
      refine ⟨a7, ea7, ?_⟩
      refine ⟨o_a7, ?_⟩
      obtain ⟨a824, ea824, o_a824, l_a824⟩ := shl 50 rfl hI o_a7
      refine ⟨a824, ea824, ?_⟩
      refine ⟨a7, ea7, ?_⟩
      refine ⟨o_a7, ?_⟩
      intro x826 ex826
      have r_x826 : (0 : Int32) ≤ x826 ∧ x826 ≤ (12 : Int32) := by rw [ex826]; exact nu 22 rfl hI o_a7
      have q_x826 : x826 = kv8 := ex826.trans d_kv8.symm
      have d_x826 := ex826
      refine ⟨o_a824, ?_⟩
      have i827 : vp_in x826 (hN _ a824) := (vin l_a824 (m := 12) (by decide) (qr222 hiv4 r_kv8 r_kv9 r_kv10 hnf r_x12 q_x12 mo811 mo812 mo813 bb_x29 iw_x29 c33 mo814 mo815 mo816 mo817 mo818 mo819 q_x810 c820 r_x822 q_x822 r_x826 q_x826))
      refine ⟨i827, ?_⟩
      intro S828 eS828
      have hIn : IV S828 := by rw [eS828]; exact iv10_aJ hI o_a7 (by decide) ea824
      have hG := rg_J eS828 hG
      have hn := rn_J eS828 hn
      have hI := hIn
      have f0 := fr_J eS828 f0
      have d_x826 := rd_J eS828 d_x826
      have d_kv9 := rd_J eS828 d_kv9
      have d_x822 := rd_J eS828 d_x822
      have d_x810 := rd_J eS828 d_x810
      have d_kv800 := rd_J eS828 d_kv800
      have d_kv809 := rd_J eS828 d_kv809
      have ea7 := rf_J eS828 ea7
      have ea824 := rf_J eS828 ea824
      have l_a824 := ln_J eS828 l_a824
      have g0 := gr_J eS828 g0
      have o_a7 := ob_J eS828 o_a7
      have o_a824 := ob_J eS828 o_a824
      have o_v0 := ob_J eS828 o_v0
      refine ⟨a7, ea7, ?_⟩
      refine ⟨o_a7, ?_⟩
      obtain ⟨a830, ea830, o_a830, l_a830⟩ := shl 51 rfl hI o_a7
      refine ⟨a830, ea830, ?_⟩
      refine ⟨a7, ea7, ?_⟩
      refine ⟨o_a7, ?_⟩
      intro x832 ex832
      have r_x832 : (0 : Int32) ≤ x832 ∧ x832 ≤ (12 : Int32) := by rw [ex832]; exact nu 22 rfl hI o_a7
      have q_x832 : x832 = x826 := ex832.trans d_x826.symm
      have d_x832 := ex832
      refine ⟨o_a830, ?_⟩
      have i833 : vp_in x832 (hN _ a830) := (vin l_a830 (m := 12) (by decide) (qr223 hiv4 r_kv8 r_kv9 r_kv10 hnf r_x12 q_x12 mo811 mo812 mo813 bb_x29 iw_x29 c33 mo814 mo815 mo816 mo817 mo818 mo819 q_x810 c820 r_x822 q_x822 r_x826 q_x826 r_x832 q_x832))
      refine ⟨i833, ?_⟩
      intro S834 eS834
      have hIn : IV S834 := by rw [eS834]; exact iv10_aI hI o_a7 (rg_nw hG ea7) ea830 o_a830 (by decide)
      have hG := rg_a (jj := 29) (x := x832) eS834 hI ea7 o_a7 ea830 o_a830 (by decide) (h1_no (by decide)) (fun _ => by rw [← d_kv9, ← d_x822]; exact (qr224 hiv4 r_kv8 r_kv9 r_kv10 hnf r_x12 q_x12 mo811 mo812 mo813 bb_x29 iw_x29 c33 mo814 mo815 mo816 mo817 mo818 mo819 q_x810 c820 r_x822 q_x822 r_x826 q_x826 r_x832 q_x832)) hG
      have hn := rn_11 eS834 hI o_v0 o_a830 (by decide) hn
      have hI := hIn
      have f0 := fr_A eS834 g0 f0 o_a830 (by decide)
      have d_x832 := rd_Ik eS834 o_a830 o_a7 (by decide) d_x832
      have d_kv9 := rd_Ik eS834 o_a830 o_a7 (by decide) d_kv9
      have d_x822 := rd_Ik eS834 o_a830 o_a7 (by decide) d_x822
      have d_x810 := rd_Ik eS834 o_a830 o_v0 (by decide) d_x810
      have d_kv800 := rd_Ik eS834 o_a830 o_v0 (by decide) d_kv800
      have d_kv809 := rd_Ik eS834 o_a830 o_v0 (by decide) d_kv809
      have ea7 := rf_I eS834 ea7
      have ea824 := rf_I eS834 ea824
      have ea830 := rf_I eS834 ea830
      have l_a824 := ln_I eS834 l_a824
      have l_a830 := ln_I eS834 l_a830
      have g0 := gr_I eS834 g0
      have o_a7 := ob_I eS834 o_a7
      have o_a824 := ob_I eS834 o_a824
      have o_a830 := ob_I eS834 o_a830
      have o_v0 := ob_I eS834 o_v0
      have el835 : fI S834 a830 x832.toNatClampNeg = (1 : Int32) := by rw [eS834]; exact u2_self _ _ _ _
      refine ⟨a7, ea7, ?_⟩
      refine ⟨o_a7, ?_⟩
      obtain ⟨a837, ea837, o_a837, l_a837⟩ := shl 52 rfl hI o_a7
      refine ⟨a837, ea837, ?_⟩
      refine ⟨a7, ea7, ?_⟩
      refine ⟨o_a7, ?_⟩
      intro x839 ex839
      have r_x839 : (0 : Int32) ≤ x839 ∧ x839 ≤ (12 : Int32) := by rw [ex839]; exact nu 22 rfl hI o_a7
      have q_x839 : x839 = x832 := ex839.trans d_x832.symm
      have d_x839 := ex839
      refine ⟨o_a837, ?_⟩
      have i840 : vp_in x839 (hN _ a837) := (vin l_a837 (m := 12) (by decide) (qr225 hiv4 r_kv8 r_kv9 r_kv10 hnf r_x12 q_x12 mo811 mo812 mo813 bb_x29 iw_x29 c33 mo814 mo815 mo816 mo817 mo818 mo819 q_x810 c820 r_x822 q_x822 r_x826 q_x826 r_x832 q_x832 r_x839 q_x839))
      refine ⟨i840, ?_⟩
      intro S841 eS841
      have hIn : IV S841 := by rw [eS841]; exact iv10_aI hI o_a7 (rg_nw hG ea7) ea837 o_a837 (by decide)
      have hG := rg_a (jj := 30) (x := x839) eS841 hI ea7 o_a7 ea837 o_a837 (by decide) (h1_no (by decide)) (fun _ => by rw [← d_kv9, ← d_x822]; exact (qr226 hiv4 r_kv8 r_kv9 r_kv10 hnf r_x12 q_x12 mo811 mo812 mo813 bb_x29 iw_x29 c33 mo814 mo815 mo816 mo817 mo818 mo819 q_x810 c820 r_x822 q_x822 r_x826 q_x826 r_x832 q_x832 r_x839 q_x839)) hG
      have hn := rn_11 eS841 hI o_v0 o_a837 (by decide) hn
      have el835 := el_ar eS841 (ow_ne hI o_a7 (by decide) o_a7 (by decide) ea837 ea830 (by decide)) el835
      have hI := hIn
      have f0 := fr_A eS841 g0 f0 o_a837 (by decide)
      have d_x839 := rd_Ik eS841 o_a837 o_a7 (by decide) d_x839
      have d_kv9 := rd_Ik eS841 o_a837 o_a7 (by decide) d_kv9
      have d_x822 := rd_Ik eS841 o_a837 o_a7 (by decide) d_x822
      have d_x810 := rd_Ik eS841 o_a837 o_v0 (by decide) d_x810
      have d_kv800 := rd_Ik eS841 o_a837 o_v0 (by decide) d_kv800
      have d_kv809 := rd_Ik eS841 o_a837 o_v0 (by decide) d_kv809
      have ea7 := rf_I eS841 ea7
      have ea824 := rf_I eS841 ea824
      have ea830 := rf_I eS841 ea830
      have ea837 := rf_I eS841 ea837
      have l_a824 := ln_I eS841 l_a824
      have l_a830 := ln_I eS841 l_a830
      have l_a837 := ln_I eS841 l_a837
      have g0 := gr_I eS841 g0
      have o_a7 := ob_I eS841 o_a7
      have o_a824 := ob_I eS841 o_a824
      have o_a830 := ob_I eS841 o_a830
      have o_a837 := ob_I eS841 o_a837
      have o_v0 := ob_I eS841 o_v0
      have el842 : fI S841 a837 x839.toNatClampNeg = x822 := by rw [eS841]; exact u2_self _ _ _ _
      refine ⟨a7, ea7, ?_⟩
      refine ⟨o_a7, ?_⟩
      intro x844 ex844
      have r_x844 : (0 : Int32) ≤ x844 ∧ x844 ≤ (12 : Int32) := by rw [ex844]; exact nu 22 rfl hI o_a7
      have q_x844 : x844 = x839 := ex844.trans d_x839.symm
      have d_x844 := ex844
      intro x845 ex845
      intro S846 eS846
      have hIn : IV S846 := by rw [eS846]; exact iv10_sI hI o_a7 (rg_nw hG ea7) (nu_one (lo := (0 : Int32)) (hi := (12 : Int32)) (by decide) (qr227 hiv4 r_kv8 r_kv9 r_kv10 hnf r_x12 q_x12 mo811 mo812 mo813 bb_x29 iw_x29 c33 mo814 mo815 mo816 mo817 mo818 mo819 q_x810 c820 r_x822 q_x822 r_x826 q_x826 r_x832 q_x832 r_x839 q_x839 r_x844 q_x844 ex845))
      have hG := rg_c eS846 hI ea7 o_a7 (by decide) hG
      have el835 := el_ob eS846 o_a7 o_a830 (by decide) el835
      have el842 := el_ob eS846 o_a7 o_a837 (by decide) el842
      have hI := hIn
      have f0 := fr_I eS846 g0 f0 o_a7 (by decide)
      have d_kv9 := rd_Ij eS846 (by decide) d_kv9
      have d_x822 := rd_Ij eS846 (by decide) d_x822
      have d_x810 := rd_Ik eS846 o_a7 o_v0 (by decide) d_x810
      have d_kv800 := rd_Ik eS846 o_a7 o_v0 (by decide) d_kv800
      have d_kv809 := rd_Ik eS846 o_a7 o_v0 (by decide) d_kv809
      have d_x845 := rd_Is eS846 (rfl : x845 = x845)
      have ea7 := rf_I eS846 ea7
      have ea824 := rf_I eS846 ea824
      have ea830 := rf_I eS846 ea830
      have ea837 := rf_I eS846 ea837
      have l_a824 := ln_I eS846 l_a824
      have l_a830 := ln_I eS846 l_a830
      have l_a837 := ln_I eS846 l_a837
      have g0 := gr_I eS846 g0
      have o_a7 := ob_I eS846 o_a7
      have o_a824 := ob_I eS846 o_a824
      have o_a830 := ob_I eS846 o_a830
      have o_a837 := ob_I eS846 o_a837
      have o_v0 := ob_I eS846 o_v0
      intro _
      refine ⟨a7, ea7, ?_⟩
      refine ⟨o_a7, ?_⟩
      obtain ⟨a848, ea848, o_a848, l_a848⟩ := shl 41 rfl hI o_a7
      refine ⟨a848, ea848, ?_⟩
      refine ⟨o_a848, ?_⟩
      have i849 : vp_in x822 (hN _ a848) := (vin l_a848 (m := 4) (by decide) (qr228 hiv4 r_kv8 r_kv9 r_kv10 hnf r_x12 q_x12 mo811 mo812 mo813 bb_x29 iw_x29 c33 mo814 mo815 mo816 mo817 mo818 mo819 q_x810 c820 r_x822 q_x822 r_x826 q_x826 r_x832 q_x832 r_x839 q_x839 r_x844 q_x844 ex845))
      refine ⟨i849, ?_⟩
      intro S850 eS850
      have hIn : IV S850 := by rw [eS850]; exact iv10_aI hI o_a7 (rg_nw hG ea7) ea848 o_a848 (by decide)
      have hG := rg_a (jj := 19) (x := x822) eS850 hI ea7 o_a7 ea848 o_a848 (by decide) (h1_no (by decide)) (h2_no (y := 0) (by decide)) hG
      have el835 := el_ar eS850 (ow_ne hI o_a7 (by decide) o_a7 (by decide) ea848 ea830 (by decide)) el835
      have el842 := el_ar eS850 (ow_ne hI o_a7 (by decide) o_a7 (by decide) ea848 ea837 (by decide)) el842
      have hI := hIn
      have f0 := fr_A eS850 g0 f0 o_a848 (by decide)
      have d_kv9 := rd_Ik eS850 o_a848 o_a7 (by decide) d_kv9
      have d_x822 := rd_Ik eS850 o_a848 o_a7 (by decide) d_x822
      have d_x810 := rd_Ik eS850 o_a848 o_v0 (by decide) d_x810
      have d_kv800 := rd_Ik eS850 o_a848 o_v0 (by decide) d_kv800
      have d_kv809 := rd_Ik eS850 o_a848 o_v0 (by decide) d_kv809
      have d_x845 := rd_Ik eS850 o_a848 o_a7 (by decide) d_x845
      have ea7 := rf_I eS850 ea7
      have ea824 := rf_I eS850 ea824
      have ea830 := rf_I eS850 ea830
      have ea837 := rf_I eS850 ea837
      have ea848 := rf_I eS850 ea848
      have l_a824 := ln_I eS850 l_a824
      have l_a830 := ln_I eS850 l_a830
      have l_a837 := ln_I eS850 l_a837
      have l_a848 := ln_I eS850 l_a848
      have g0 := gr_I eS850 g0
      have o_a7 := ob_I eS850 o_a7
      have o_a824 := ob_I eS850 o_a824
      have o_a830 := ob_I eS850 o_a830
      have o_a837 := ob_I eS850 o_a837
      have o_a848 := ob_I eS850 o_a848
      have o_v0 := ob_I eS850 o_v0
      refine ⟨a7, ea7, ?_⟩
      refine ⟨o_a7, ?_⟩
      obtain ⟨a852, ea852, o_a852, l_a852⟩ := shl 42 rfl hI o_a7
      refine ⟨a852, ea852, ?_⟩
      refine ⟨o_a852, ?_⟩
      have i853 : vp_in x822 (hN _ a852) := (vin l_a852 (m := 4) (by decide) (qr228 hiv4 r_kv8 r_kv9 r_kv10 hnf r_x12 q_x12 mo811 mo812 mo813 bb_x29 iw_x29 c33 mo814 mo815 mo816 mo817 mo818 mo819 q_x810 c820 r_x822 q_x822 r_x826 q_x826 r_x832 q_x832 r_x839 q_x839 r_x844 q_x844 ex845))
      refine ⟨i853, ?_⟩
      intro S854 eS854
      have hIn : IV S854 := by rw [eS854]; exact iv10_aI hI o_a7 (rg_nw hG ea7) ea852 o_a852 (by decide)
      have hG := rg_a (jj := 20) (x := x822) eS854 hI ea7 o_a7 ea852 o_a852 (by decide) (h1_no (by decide)) (h2_no (y := 0) (by decide)) hG
      have el835 := el_ar eS854 (ow_ne hI o_a7 (by decide) o_a7 (by decide) ea852 ea830 (by decide)) el835
      have el842 := el_ar eS854 (ow_ne hI o_a7 (by decide) o_a7 (by decide) ea852 ea837 (by decide)) el842
      have hI := hIn
      have f0 := fr_A eS854 g0 f0 o_a852 (by decide)
      have d_kv9 := rd_Ik eS854 o_a852 o_a7 (by decide) d_kv9
      have d_x822 := rd_Ik eS854 o_a852 o_a7 (by decide) d_x822
      have d_x810 := rd_Ik eS854 o_a852 o_v0 (by decide) d_x810
      have d_kv800 := rd_Ik eS854 o_a852 o_v0 (by decide) d_kv800
      have d_kv809 := rd_Ik eS854 o_a852 o_v0 (by decide) d_kv809
      have d_x845 := rd_Ik eS854 o_a852 o_a7 (by decide) d_x845
      have ea7 := rf_I eS854 ea7
      have ea824 := rf_I eS854 ea824
      have ea830 := rf_I eS854 ea830
      have ea837 := rf_I eS854 ea837
      have ea848 := rf_I eS854 ea848
      have ea852 := rf_I eS854 ea852
      have l_a824 := ln_I eS854 l_a824
      have l_a830 := ln_I eS854 l_a830
      have l_a837 := ln_I eS854 l_a837
      have l_a848 := ln_I eS854 l_a848
      have l_a852 := ln_I eS854 l_a852
      have g0 := gr_I eS854 g0
      have o_a7 := ob_I eS854 o_a7
      have o_a824 := ob_I eS854 o_a824
      have o_a830 := ob_I eS854 o_a830
      have o_a837 := ob_I eS854 o_a837
      have o_a848 := ob_I eS854 o_a848
      have o_a852 := ob_I eS854 o_a852
      have o_v0 := ob_I eS854 o_v0
      refine ⟨a7, ea7, ?_⟩
      refine ⟨o_a7, ?_⟩
      obtain ⟨a856, ea856, o_a856, l_a856⟩ := shl 43 rfl hI o_a7
      refine ⟨a856, ea856, ?_⟩
      refine ⟨o_a856, ?_⟩
      intro x857 ex857
      have i858 : vp_in x822 (hN _ a856) := (vin l_a856 (m := 4) (by decide) (qr228 hiv4 r_kv8 r_kv9 r_kv10 hnf r_x12 q_x12 mo811 mo812 mo813 bb_x29 iw_x29 c33 mo814 mo815 mo816 mo817 mo818 mo819 q_x810 c820 r_x822 q_x822 r_x826 q_x826 r_x832 q_x832 r_x839 q_x839 r_x844 q_x844 ex845))
      refine ⟨i858, ?_⟩
      intro S859 eS859
      have hIn : IV S859 := by rw [eS859]; exact iv10_aI hI o_a7 (rg_nw hG ea7) ea856 o_a856 (by decide)
      have hG := rg_a (jj := 21) (x := x822) eS859 hI ea7 o_a7 ea856 o_a856 (by decide) (h1_no (by decide)) (h2_no (y := 0) (by decide)) hG
      have el835 := el_ar eS859 (ow_ne hI o_a7 (by decide) o_a7 (by decide) ea856 ea830 (by decide)) el835
      have el842 := el_ar eS859 (ow_ne hI o_a7 (by decide) o_a7 (by decide) ea856 ea837 (by decide)) el842
      have hI := hIn
      have f0 := fr_A eS859 g0 f0 o_a856 (by decide)
      have d_kv9 := rd_Ik eS859 o_a856 o_a7 (by decide) d_kv9
      have d_x822 := rd_Ik eS859 o_a856 o_a7 (by decide) d_x822
      have d_x810 := rd_Ik eS859 o_a856 o_v0 (by decide) d_x810
      have d_kv800 := rd_Ik eS859 o_a856 o_v0 (by decide) d_kv800
      have d_kv809 := rd_Ik eS859 o_a856 o_v0 (by decide) d_kv809
      have d_x845 := rd_Ik eS859 o_a856 o_a7 (by decide) d_x845
      have ea7 := rf_I eS859 ea7
      have ea824 := rf_I eS859 ea824
      have ea830 := rf_I eS859 ea830
      have ea837 := rf_I eS859 ea837
      have ea848 := rf_I eS859 ea848
      have ea852 := rf_I eS859 ea852
      have ea856 := rf_I eS859 ea856
      have l_a824 := ln_I eS859 l_a824
      have l_a830 := ln_I eS859 l_a830
      have l_a837 := ln_I eS859 l_a837
      have l_a848 := ln_I eS859 l_a848
      have l_a852 := ln_I eS859 l_a852
      have l_a856 := ln_I eS859 l_a856
      have g0 := gr_I eS859 g0
      have o_a7 := ob_I eS859 o_a7
      have o_a824 := ob_I eS859 o_a824
      have o_a830 := ob_I eS859 o_a830
      have o_a837 := ob_I eS859 o_a837
      have o_a848 := ob_I eS859 o_a848
      have o_a852 := ob_I eS859 o_a852
      have o_a856 := ob_I eS859 o_a856
      have o_v0 := ob_I eS859 o_v0
      refine ⟨a7, ea7, ?_⟩
      refine ⟨o_a7, ?_⟩
      obtain ⟨a861, ea861, o_a861, l_a861⟩ := shl 44 rfl hI o_a7
      refine ⟨a861, ea861, ?_⟩
      refine ⟨o_a861, ?_⟩
      intro x862 ex862
      have i863 : vp_in x822 (hN _ a861) := (vin l_a861 (m := 4) (by decide) (qr228 hiv4 r_kv8 r_kv9 r_kv10 hnf r_x12 q_x12 mo811 mo812 mo813 bb_x29 iw_x29 c33 mo814 mo815 mo816 mo817 mo818 mo819 q_x810 c820 r_x822 q_x822 r_x826 q_x826 r_x832 q_x832 r_x839 q_x839 r_x844 q_x844 ex845))
      refine ⟨i863, ?_⟩
      intro S864 eS864
      have hIn : IV S864 := by rw [eS864]; exact iv10_aI hI o_a7 (rg_nw hG ea7) ea861 o_a861 (by decide)
      have hG := rg_a (jj := 22) (x := x822) eS864 hI ea7 o_a7 ea861 o_a861 (by decide) (h1_no (by decide)) (h2_no (y := 0) (by decide)) hG
      have el835 := el_ar eS864 (ow_ne hI o_a7 (by decide) o_a7 (by decide) ea861 ea830 (by decide)) el835
      have el842 := el_ar eS864 (ow_ne hI o_a7 (by decide) o_a7 (by decide) ea861 ea837 (by decide)) el842
      have hI := hIn
      have f0 := fr_A eS864 g0 f0 o_a861 (by decide)
      have d_kv9 := rd_Ik eS864 o_a861 o_a7 (by decide) d_kv9
      have d_x822 := rd_Ik eS864 o_a861 o_a7 (by decide) d_x822
      have d_x810 := rd_Ik eS864 o_a861 o_v0 (by decide) d_x810
      have d_kv800 := rd_Ik eS864 o_a861 o_v0 (by decide) d_kv800
      have d_kv809 := rd_Ik eS864 o_a861 o_v0 (by decide) d_kv809
      have d_x845 := rd_Ik eS864 o_a861 o_a7 (by decide) d_x845
      have ea7 := rf_I eS864 ea7
      have ea824 := rf_I eS864 ea824
      have ea830 := rf_I eS864 ea830
      have ea837 := rf_I eS864 ea837
      have ea848 := rf_I eS864 ea848
      have ea852 := rf_I eS864 ea852
      have ea856 := rf_I eS864 ea856
      have ea861 := rf_I eS864 ea861
      have l_a824 := ln_I eS864 l_a824
      have l_a830 := ln_I eS864 l_a830
      have l_a837 := ln_I eS864 l_a837
      have l_a848 := ln_I eS864 l_a848
      have l_a852 := ln_I eS864 l_a852
      have l_a856 := ln_I eS864 l_a856
      have l_a861 := ln_I eS864 l_a861
      have g0 := gr_I eS864 g0
      have o_a7 := ob_I eS864 o_a7
      have o_a824 := ob_I eS864 o_a824
      have o_a830 := ob_I eS864 o_a830
      have o_a837 := ob_I eS864 o_a837
      have o_a848 := ob_I eS864 o_a848
      have o_a852 := ob_I eS864 o_a852
      have o_a856 := ob_I eS864 o_a856
      have o_a861 := ob_I eS864 o_a861
      have o_v0 := ob_I eS864 o_v0
      refine ⟨a7, ea7, ?_⟩
      refine ⟨o_a7, ?_⟩
      obtain ⟨a866, ea866, o_a866, l_a866⟩ := shl 45 rfl hI o_a7
      refine ⟨a866, ea866, ?_⟩
      refine ⟨o_a866, ?_⟩
      intro x867 ex867
      have i868 : vp_in x822 (hN _ a866) := (vin l_a866 (m := 4) (by decide) (qr228 hiv4 r_kv8 r_kv9 r_kv10 hnf r_x12 q_x12 mo811 mo812 mo813 bb_x29 iw_x29 c33 mo814 mo815 mo816 mo817 mo818 mo819 q_x810 c820 r_x822 q_x822 r_x826 q_x826 r_x832 q_x832 r_x839 q_x839 r_x844 q_x844 ex845))
      refine ⟨i868, ?_⟩
      intro S869 eS869
      have hIn : IV S869 := by rw [eS869]; exact iv10_aI hI o_a7 (rg_nw hG ea7) ea866 o_a866 (by decide)
      have hG := rg_a (jj := 23) (x := x822) eS869 hI ea7 o_a7 ea866 o_a866 (by decide) (h1_no (by decide)) (h2_no (y := 0) (by decide)) hG
      have el835 := el_ar eS869 (ow_ne hI o_a7 (by decide) o_a7 (by decide) ea866 ea830 (by decide)) el835
      have el842 := el_ar eS869 (ow_ne hI o_a7 (by decide) o_a7 (by decide) ea866 ea837 (by decide)) el842
      have hI := hIn
      have f0 := fr_A eS869 g0 f0 o_a866 (by decide)
      have d_kv9 := rd_Ik eS869 o_a866 o_a7 (by decide) d_kv9
      have d_x822 := rd_Ik eS869 o_a866 o_a7 (by decide) d_x822
      have d_x810 := rd_Ik eS869 o_a866 o_v0 (by decide) d_x810
      have d_kv800 := rd_Ik eS869 o_a866 o_v0 (by decide) d_kv800
      have d_kv809 := rd_Ik eS869 o_a866 o_v0 (by decide) d_kv809
      have d_x845 := rd_Ik eS869 o_a866 o_a7 (by decide) d_x845
      have ea7 := rf_I eS869 ea7
      have ea824 := rf_I eS869 ea824
      have ea830 := rf_I eS869 ea830
      have ea837 := rf_I eS869 ea837
      have ea848 := rf_I eS869 ea848
      have ea852 := rf_I eS869 ea852
      have ea856 := rf_I eS869 ea856
      have ea861 := rf_I eS869 ea861
      have ea866 := rf_I eS869 ea866
      have l_a824 := ln_I eS869 l_a824
      have l_a830 := ln_I eS869 l_a830
      have l_a837 := ln_I eS869 l_a837
      have l_a848 := ln_I eS869 l_a848
      have l_a852 := ln_I eS869 l_a852
      have l_a856 := ln_I eS869 l_a856
      have l_a861 := ln_I eS869 l_a861
      have l_a866 := ln_I eS869 l_a866
      have g0 := gr_I eS869 g0
      have o_a7 := ob_I eS869 o_a7
      have o_a824 := ob_I eS869 o_a824
      have o_a830 := ob_I eS869 o_a830
      have o_a837 := ob_I eS869 o_a837
      have o_a848 := ob_I eS869 o_a848
      have o_a852 := ob_I eS869 o_a852
      have o_a856 := ob_I eS869 o_a856
      have o_a861 := ob_I eS869 o_a861
      have o_a866 := ob_I eS869 o_a866
      have o_v0 := ob_I eS869 o_v0
      refine ⟨a7, ea7, ?_⟩
      refine ⟨o_a7, ?_⟩
      obtain ⟨a871, ea871, o_a871, l_a871⟩ := shl 46 rfl hI o_a7
      refine ⟨a871, ea871, ?_⟩
      refine ⟨o_a871, ?_⟩
      have i872 : vp_in x822 (hN _ a871) := (vin l_a871 (m := 4) (by decide) (qr228 hiv4 r_kv8 r_kv9 r_kv10 hnf r_x12 q_x12 mo811 mo812 mo813 bb_x29 iw_x29 c33 mo814 mo815 mo816 mo817 mo818 mo819 q_x810 c820 r_x822 q_x822 r_x826 q_x826 r_x832 q_x832 r_x839 q_x839 r_x844 q_x844 ex845))
      refine ⟨i872, ?_⟩
      intro S873 eS873
      have hIn : IV S873 := by rw [eS873]; exact iv10_aI hI o_a7 (rg_nw hG ea7) ea871 o_a871 (by decide)
      have hG := rg_a (jj := 24) (x := x822) eS873 hI ea7 o_a7 ea871 o_a871 (by decide) (h1_one (c := 4) (lo := 1) (hi := 9) (hf := 99) (by decide) d_x822.symm) (h2_no (y := 0) (by decide)) hG
      have el835 := el_ar eS873 (ow_ne hI o_a7 (by decide) o_a7 (by decide) ea871 ea830 (by decide)) el835
      have el842 := el_ar eS873 (ow_ne hI o_a7 (by decide) o_a7 (by decide) ea871 ea837 (by decide)) el842
      have hI := hIn
      have f0 := fr_A eS873 g0 f0 o_a871 (by decide)
      have d_kv9 := rd_Ik eS873 o_a871 o_a7 (by decide) d_kv9
      have d_x822 := rd_Ik eS873 o_a871 o_a7 (by decide) d_x822
      have d_x810 := rd_Ik eS873 o_a871 o_v0 (by decide) d_x810
      have d_kv800 := rd_Ik eS873 o_a871 o_v0 (by decide) d_kv800
      have d_kv809 := rd_Ik eS873 o_a871 o_v0 (by decide) d_kv809
      have d_x845 := rd_Ik eS873 o_a871 o_a7 (by decide) d_x845
      have ea7 := rf_I eS873 ea7
      have ea824 := rf_I eS873 ea824
      have ea830 := rf_I eS873 ea830
      have ea837 := rf_I eS873 ea837
      have ea848 := rf_I eS873 ea848
      have ea852 := rf_I eS873 ea852
      have ea856 := rf_I eS873 ea856
      have ea861 := rf_I eS873 ea861
      have ea866 := rf_I eS873 ea866
      have ea871 := rf_I eS873 ea871
      have l_a824 := ln_I eS873 l_a824
      have l_a830 := ln_I eS873 l_a830
      have l_a837 := ln_I eS873 l_a837
      have l_a848 := ln_I eS873 l_a848
      have l_a852 := ln_I eS873 l_a852
      have l_a856 := ln_I eS873 l_a856
      have l_a861 := ln_I eS873 l_a861
      have l_a866 := ln_I eS873 l_a866
      have l_a871 := ln_I eS873 l_a871
      have g0 := gr_I eS873 g0
      have o_a7 := ob_I eS873 o_a7
      have o_a824 := ob_I eS873 o_a824
      have o_a830 := ob_I eS873 o_a830
      have o_a837 := ob_I eS873 o_a837
      have o_a848 := ob_I eS873 o_a848
      have o_a852 := ob_I eS873 o_a852
      have o_a856 := ob_I eS873 o_a856
      have o_a861 := ob_I eS873 o_a861
      have o_a866 := ob_I eS873 o_a866
      have o_a871 := ob_I eS873 o_a871
      have o_v0 := ob_I eS873 o_v0
      have el874 : fI S873 a871 x822.toNatClampNeg = x781 := by rw [eS873]; exact u2_self _ _ _ _
      refine ⟨a7, ea7, ?_⟩
      refine ⟨o_a7, ?_⟩
      obtain ⟨a876, ea876, o_a876, l_a876⟩ := shl 47 rfl hI o_a7
      refine ⟨a876, ea876, ?_⟩
      refine ⟨o_a876, ?_⟩
      have i877 : vp_in x822 (hN _ a876) := (vin l_a876 (m := 4) (by decide) (qr228 hiv4 r_kv8 r_kv9 r_kv10 hnf r_x12 q_x12 mo811 mo812 mo813 bb_x29 iw_x29 c33 mo814 mo815 mo816 mo817 mo818 mo819 q_x810 c820 r_x822 q_x822 r_x826 q_x826 r_x832 q_x832 r_x839 q_x839 r_x844 q_x844 ex845))
      refine ⟨i877, ?_⟩
      intro S878 eS878
      have hIn : IV S878 := by rw [eS878]; exact iv10_aI hI o_a7 (rg_nw hG ea7) ea876 o_a876 (by decide)
      have hG := rg_a (jj := 25) (x := x822) eS878 hI ea7 o_a7 ea876 o_a876 (by decide) (h1_one (c := 4) (lo := 0) (hi := 9) (hf := 99) (by decide) d_x822.symm) (h2_no (y := 0) (by decide)) hG
      have el835 := el_ar eS878 (ow_ne hI o_a7 (by decide) o_a7 (by decide) ea876 ea830 (by decide)) el835
      have el842 := el_ar eS878 (ow_ne hI o_a7 (by decide) o_a7 (by decide) ea876 ea837 (by decide)) el842
      have el874 := el_ar eS878 (ow_ne hI o_a7 (by decide) o_a7 (by decide) ea876 ea871 (by decide)) el874
      have hI := hIn
      have f0 := fr_A eS878 g0 f0 o_a876 (by decide)
      have d_kv9 := rd_Ik eS878 o_a876 o_a7 (by decide) d_kv9
      have d_x822 := rd_Ik eS878 o_a876 o_a7 (by decide) d_x822
      have d_x810 := rd_Ik eS878 o_a876 o_v0 (by decide) d_x810
      have d_kv800 := rd_Ik eS878 o_a876 o_v0 (by decide) d_kv800
      have d_kv809 := rd_Ik eS878 o_a876 o_v0 (by decide) d_kv809
      have d_x845 := rd_Ik eS878 o_a876 o_a7 (by decide) d_x845
      have ea7 := rf_I eS878 ea7
      have ea824 := rf_I eS878 ea824
      have ea830 := rf_I eS878 ea830
      have ea837 := rf_I eS878 ea837
      have ea848 := rf_I eS878 ea848
      have ea852 := rf_I eS878 ea852
      have ea856 := rf_I eS878 ea856
      have ea861 := rf_I eS878 ea861
      have ea866 := rf_I eS878 ea866
      have ea871 := rf_I eS878 ea871
      have ea876 := rf_I eS878 ea876
      have l_a824 := ln_I eS878 l_a824
      have l_a830 := ln_I eS878 l_a830
      have l_a837 := ln_I eS878 l_a837
      have l_a848 := ln_I eS878 l_a848
      have l_a852 := ln_I eS878 l_a852
      have l_a856 := ln_I eS878 l_a856
      have l_a861 := ln_I eS878 l_a861
      have l_a866 := ln_I eS878 l_a866
      have l_a871 := ln_I eS878 l_a871
      have l_a876 := ln_I eS878 l_a876
      have g0 := gr_I eS878 g0
      have o_a7 := ob_I eS878 o_a7
      have o_a824 := ob_I eS878 o_a824
      have o_a830 := ob_I eS878 o_a830
      have o_a837 := ob_I eS878 o_a837
      have o_a848 := ob_I eS878 o_a848
      have o_a852 := ob_I eS878 o_a852
      have o_a856 := ob_I eS878 o_a856
      have o_a861 := ob_I eS878 o_a861
      have o_a866 := ob_I eS878 o_a866
      have o_a871 := ob_I eS878 o_a871
      have o_a876 := ob_I eS878 o_a876
      have o_v0 := ob_I eS878 o_v0
      have el879 : fI S878 a876 x822.toNatClampNeg = x795 := by rw [eS878]; exact u2_self _ _ _ _
      refine ⟨a7, ea7, ?_⟩
      refine ⟨o_a7, ?_⟩
      intro x881 ex881
      have r_x881 : (0 : Int32) ≤ x881 ∧ x881 ≤ (4 : Int32) := by rw [ex881]; exact nu 20 rfl hI o_a7
      have q_x881 : x881 = x822 := ex881.trans d_x822.symm
      have d_x881 := ex881
      intro x882 ex882
      intro S883 eS883
      have hIn : IV S883 := by rw [eS883]; exact iv10_sI hI o_a7 (rg_nw hG ea7) (nu_one (lo := (0 : Int32)) (hi := (4 : Int32)) (by decide) (qr229 hiv4 r_kv8 r_kv9 r_kv10 hnf r_x12 q_x12 mo811 mo812 mo813 bb_x29 iw_x29 c33 mo814 mo815 mo816 mo817 mo818 mo819 q_x810 c820 r_x822 q_x822 r_x826 q_x826 r_x832 q_x832 r_x839 q_x839 r_x844 q_x844 ex845 r_x881 q_x881 ex882))
      have hG := rg_inc (c := 4) (y := x881) eS883 hI ea7 o_a7 d_x881.symm (qr230 hiv4 r_kv8 r_kv9 r_kv10 hnf r_x12 q_x12 mo811 mo812 mo813 bb_x29 iw_x29 c33 mo814 mo815 mo816 mo817 mo818 mo819 q_x810 c820 r_x822 q_x822 r_x826 q_x826 r_x832 q_x832 r_x839 q_x839 r_x844 q_x844 ex845 r_x881 q_x881 ex882) (qr231 hiv4 r_kv8 r_kv9 r_kv10 hnf r_x12 q_x12 mo811 mo812 mo813 bb_x29 iw_x29 c33 mo814 mo815 mo816 mo817 mo818 mo819 q_x810 c820 r_x822 q_x822 r_x826 q_x826 r_x832 q_x832 r_x839 q_x839 r_x844 q_x844 ex845 r_x881 q_x881 ex882) (hn_4 ea871 (by rw [show x881 = x822 from (qr236 hiv4 r_kv8 r_kv9 r_kv10 hnf r_x12 q_x12 mo811 mo812 mo813 bb_x29 iw_x29 c33 mo814 mo815 mo816 mo817 mo818 mo819 q_x810 c820 r_x822 q_x822 r_x826 q_x826 r_x832 q_x832 r_x839 q_x839 r_x844 q_x844 ex845 r_x881 q_x881 ex882), el874]; exact ⟨(qr237 hiv4 r_kv8 r_kv9 r_kv10 hnf r_x12 q_x12 mo811 mo812 mo813 bb_x29 iw_x29 c33 mo814 mo815 mo816 mo817 mo818 p_x781 mo819 p_x795 q_x810 c820 r_x822 q_x822 r_x826 q_x826 r_x832 q_x832 r_x839 q_x839 r_x844 q_x844 ex845 r_x881 q_x881 ex882), (qr238 hiv4 r_kv8 r_kv9 r_kv10 hnf r_x12 q_x12 mo811 mo812 mo813 bb_x29 iw_x29 c33 mo814 mo815 mo816 mo817 mo818 p_x781 mo819 p_x795 q_x810 c820 r_x822 q_x822 r_x826 q_x826 r_x832 q_x832 r_x839 q_x839 r_x844 q_x844 ex845 r_x881 q_x881 ex882), Or.inl rfl⟩) ea876 (by rw [show x881 = x822 from (qr236 hiv4 r_kv8 r_kv9 r_kv10 hnf r_x12 q_x12 mo811 mo812 mo813 bb_x29 iw_x29 c33 mo814 mo815 mo816 mo817 mo818 mo819 q_x810 c820 r_x822 q_x822 r_x826 q_x826 r_x832 q_x832 r_x839 q_x839 r_x844 q_x844 ex845 r_x881 q_x881 ex882), el879]; exact ⟨(qr239 hiv4 r_kv8 r_kv9 r_kv10 hnf r_x12 q_x12 mo811 mo812 mo813 bb_x29 iw_x29 c33 mo814 mo815 mo816 mo817 mo818 p_x781 mo819 p_x795 q_x810 c820 r_x822 q_x822 r_x826 q_x826 r_x832 q_x832 r_x839 q_x839 r_x844 q_x844 ex845 r_x881 q_x881 ex882), (qr240 hiv4 r_kv8 r_kv9 r_kv10 hnf r_x12 q_x12 mo811 mo812 mo813 bb_x29 iw_x29 c33 mo814 mo815 mo816 mo817 mo818 p_x781 mo819 p_x795 q_x810 c820 r_x822 q_x822 r_x826 q_x826 r_x832 q_x832 r_x839 q_x839 r_x844 q_x844 ex845 r_x881 q_x881 ex882), Or.inl rfl⟩)) (hs_4 eS883 d_x881.symm d_kv9.symm (qr230 hiv4 r_kv8 r_kv9 r_kv10 hnf r_x12 q_x12 mo811 mo812 mo813 bb_x29 iw_x29 c33 mo814 mo815 mo816 mo817 mo818 mo819 q_x810 c820 r_x822 q_x822 r_x826 q_x826 r_x832 q_x832 r_x839 q_x839 r_x844 q_x844 ex845 r_x881 q_x881 ex882) (qr231 hiv4 r_kv8 r_kv9 r_kv10 hnf r_x12 q_x12 mo811 mo812 mo813 bb_x29 iw_x29 c33 mo814 mo815 mo816 mo817 mo818 mo819 q_x810 c820 r_x822 q_x822 r_x826 q_x826 r_x832 q_x832 r_x839 q_x839 r_x844 q_x844 ex845 r_x881 q_x881 ex882) (qr232 hiv4 r_kv8 r_kv9 r_kv10 hnf r_x12 q_x12 mo811 mo812 mo813 bb_x29 iw_x29 c33 mo814 mo815 mo816 mo817 mo818 mo819 q_x810 c820 r_x822 q_x822 r_x826 q_x826 r_x832 q_x832 r_x839 q_x839 r_x844 q_x844 ex845 r_x881 q_x881 ex882) ea830 ea837 el835 (el842.trans (qr233 hiv4 r_kv8 r_kv9 r_kv10 hnf r_x12 q_x12 mo811 mo812 mo813 bb_x29 iw_x29 c33 mo814 mo815 mo816 mo817 mo818 mo819 q_x810 c820 r_x822 q_x822 r_x826 q_x826 r_x832 q_x832 r_x839 q_x839 r_x844 q_x844 ex845 r_x881 q_x881 ex882)) (qr234 hiv4 r_kv8 r_kv9 r_kv10 hnf r_x12 q_x12 mo811 mo812 mo813 bb_x29 iw_x29 c33 mo814 mo815 mo816 mo817 mo818 mo819 q_x810 c820 r_x822 q_x822 r_x826 q_x826 r_x832 q_x832 r_x839 q_x839 r_x844 q_x844 ex845 r_x881 q_x881 ex882) (qr235 hiv4 r_kv8 r_kv9 r_kv10 hnf r_x12 q_x12 mo811 mo812 mo813 bb_x29 iw_x29 c33 mo814 mo815 mo816 mo817 mo818 mo819 q_x810 c820 r_x822 q_x822 r_x826 q_x826 r_x832 q_x832 r_x839 q_x839 r_x844 q_x844 ex845 r_x881 q_x881 ex882)) hG
      have el835 := el_ob eS883 o_a7 o_a830 (by decide) el835
      have el842 := el_ob eS883 o_a7 o_a837 (by decide) el842
      have el874 := el_ob eS883 o_a7 o_a871 (by decide) el874
      have el879 := el_ob eS883 o_a7 o_a876 (by decide) el879
      have hI := hIn
      have f0 := fr_I eS883 g0 f0 o_a7 (by decide)
      have d_kv9 := rd_Ij eS883 (by decide) d_kv9
      have d_x810 := rd_Ik eS883 o_a7 o_v0 (by decide) d_x810
      have d_kv800 := rd_Ik eS883 o_a7 o_v0 (by decide) d_kv800
      have d_kv809 := rd_Ik eS883 o_a7 o_v0 (by decide) d_kv809
      have d_x845 := rd_Ij eS883 (by decide) d_x845
      have d_x882 := rd_Is eS883 (rfl : x882 = x882)
      have ea7 := rf_I eS883 ea7
      have ea824 := rf_I eS883 ea824
      have ea830 := rf_I eS883 ea830
      have ea837 := rf_I eS883 ea837
      have ea848 := rf_I eS883 ea848
      have ea852 := rf_I eS883 ea852
      have ea856 := rf_I eS883 ea856
      have ea861 := rf_I eS883 ea861
      have ea866 := rf_I eS883 ea866
      have ea871 := rf_I eS883 ea871
      have ea876 := rf_I eS883 ea876
      have l_a824 := ln_I eS883 l_a824
      have l_a830 := ln_I eS883 l_a830
      have l_a837 := ln_I eS883 l_a837
      have l_a848 := ln_I eS883 l_a848
      have l_a852 := ln_I eS883 l_a852
      have l_a856 := ln_I eS883 l_a856
      have l_a861 := ln_I eS883 l_a861
      have l_a866 := ln_I eS883 l_a866
      have l_a871 := ln_I eS883 l_a871
      have l_a876 := ln_I eS883 l_a876
      have g0 := gr_I eS883 g0
      have o_a7 := ob_I eS883 o_a7
      have o_a824 := ob_I eS883 o_a824
      have o_a830 := ob_I eS883 o_a830
      have o_a837 := ob_I eS883 o_a837
      have o_a848 := ob_I eS883 o_a848
      have o_a852 := ob_I eS883 o_a852
      have o_a856 := ob_I eS883 o_a856
      have o_a861 := ob_I eS883 o_a861
      have o_a866 := ob_I eS883 o_a866
      have o_a871 := ob_I eS883 o_a871
      have o_a876 := ob_I eS883 o_a876
      have o_v0 := ob_I eS883 o_v0
      have hn : RN S883 v0 := fun z ez => by obtain rfl : a7 = z := Option.some.inj (ea7.symm.trans ez); rw [← d_x845, ← d_kv9, ← d_x882]; exact (qr241 hiv4 r_kv8 r_kv9 r_kv10 hnf r_x12 q_x12 mo811 mo812 mo813 bb_x29 iw_x29 c33 mo814 mo815 mo816 mo817 mo818 mo819 q_x810 c820 r_x822 q_x822 r_x826 q_x826 r_x832 q_x832 r_x839 q_x839 r_x844 q_x844 ex845 r_x881 q_x881 ex882)
      exact hq _ hI g0 f0 ⟨hG, hn, (by have t : x810 = 5 → 0 < kv800 := (qr242 hiv4 hiv6 hO r_kv8 r_kv9 r_kv10 hnf r_x12 q_x12 ph0_S14 mo811 mo812 ph0_S21 mo813 bb_x29 iw_x29 c33 hiv731 ph0_S733 mo814 ph0_S746 mo815 ph0_S757 mo816 ph0_S769 mo817 ph0_S782 mo818 ph0_S796 mo819 q_x810 c820 r_x822 q_x822 r_x826 q_x826 r_x832 q_x832 r_x839 q_x839 r_x844 q_x844 ex845 r_x881 q_x881 ex882); rw [d_x810, d_kv800] at t; exact t), (by have t : x810 = 5 ∨ ¬ iv4 = 5 := (qr243 hiv4 r_kv8 r_kv9 r_kv10 hnf r_x12 q_x12 mo811 mo812 mo813 bb_x29 iw_x29 c33 mo814 mo815 mo816 mo817 mo818 mo819 q_x810 c820 r_x822 q_x822 r_x826 q_x826 r_x832 q_x832 r_x839 q_x839 r_x844 q_x844 ex845 r_x881 q_x881 ex882); rw [di_9, d_x810] at t; exact t), (by have t : iv2 ≤ kv809 ∧ (x810 = 4 → iv2 < kv809 ∨ iv4 = 4) := (qr244 r_kv1 hiv2 hiv4 r_kv8 r_kv9 r_kv10 hnf r_x12 q_x12 mo811 r_kv19 ph2_S14 mo812 mo813 r_kv28 ph2_S21 bb_x29 iw_x29 c33 mo814 r_kv740 ph2_S733 mo815 r_kv755 ph2_S746 mo816 r_kv767 ph2_S757 mo817 r_kv780 ph2_S769 mo818 r_kv794 ph2_S782 mo819 r_kv809 ph2_S796 q_x810 c820 r_x822 q_x822 r_x826 q_x826 r_x832 q_x832 r_x839 q_x839 r_x844 q_x844 ex845 r_x881 q_x881 ex882); rw [di_8, di_9, d_kv809, d_x810] at t; exact t)⟩
    · exact hq _ hI g0 f0 ⟨hG, hn, (by have t : x810 = 5 → 0 < kv800 := (qr245 hiv4 hiv6 hO r_kv8 r_kv9 r_kv10 hnf r_x12 q_x12 ph0_S14 mo811 mo812 ph0_S21 mo813 bb_x29 iw_x29 c33 hiv731 ph0_S733 mo814 ph0_S746 mo815 ph0_S757 mo816 ph0_S769 mo817 ph0_S782 mo818 ph0_S796 mo819 q_x810 c820); rw [d_x810, d_kv800] at t; exact t), (by have t : x810 = 5 ∨ ¬ iv4 = 5 := (qr246 hiv4 r_kv8 r_kv9 r_kv10 hnf r_x12 q_x12 mo811 mo812 mo813 bb_x29 iw_x29 c33 mo814 mo815 mo816 mo817 mo818 mo819 q_x810 c820); rw [di_9, d_x810] at t; exact t), (by have t : iv2 ≤ kv809 ∧ (x810 = 4 → iv2 < kv809 ∨ iv4 = 4) := (qr247 r_kv1 hiv2 hiv4 r_kv8 r_kv9 r_kv10 hnf r_x12 q_x12 mo811 r_kv19 ph2_S14 mo812 mo813 r_kv28 ph2_S21 bb_x29 iw_x29 c33 mo814 r_kv740 ph2_S733 mo815 r_kv755 ph2_S746 mo816 r_kv767 ph2_S757 mo817 r_kv780 ph2_S769 mo818 r_kv794 ph2_S782 mo819 r_kv809 ph2_S796 q_x810 c820); rw [di_8, di_9, d_kv809, d_x810] at t; exact t)⟩
end
section
set_option maxHeartbeats 4000000 in
set_option maxRecDepth 20000 in
theorem m_X11_readWorld {v0 : Nat} {Q : HS → Prop} {S : HS} (hI : IV S) (o_v0 : ob S v0 11)    (hG : RG S v0) (hn : RN S v0) (hO : fI S v0 9 = 5 → 0 < fI S v0 13) (hq : ∀ (T : HS), IV T → Gr S T → FRI [(10, 0), (11, 8), (11, 9), (11, 10), (11, 11), (11, 12), (11, 13), (11, 14)] [] S T → (RG T v0) ∧ (RN T v0) ∧ (fI T v0 9 = 5 → 0 < fI T v0 13) ∧ (fI T v0 9 = 5 ∨ ¬ fI S v0 9 = 5) ∧ (fI S v0 8 ≤ fI T v0 8 ∧ (fI T v0 9 = 4 → fI S v0 8 < fI T v0 8 ∨ fI S v0 9 = 4)) → Q T) : P_X11_readWorld v0 Q S := by
  have g0 := gr_rf S
  have f0 := fri_rf [(10, 0), (11, 8), (11, 9), (11, 10), (11, 11), (11, 12), (11, 13), (11, 14)] [] S
  obtain ⟨kv1, d_kv1⟩ : ∃ z : Int32, z = fI S v0 8 := ⟨_, rfl⟩
  have r_kv1 : (0 : Int32) ≤ kv1 ∧ kv1 ≤ (900 : Int32) := by rw [d_kv1]; exact nu 25 rfl hI o_v0
  obtain ⟨iv2, hiv2⟩ : ∃ z : Int32, z = kv1 := ⟨_, rfl⟩
  have di_8 := hiv2.trans d_kv1
  obtain ⟨kv3, d_kv3⟩ : ∃ z : Int32, z = fI S v0 9 := ⟨_, rfl⟩
  obtain ⟨iv4, hiv4⟩ : ∃ z : Int32, z = kv3 := ⟨_, rfl⟩
  have di_9 := hiv4.trans d_kv3
  obtain ⟨kv5, d_kv5⟩ : ∃ z : Int32, z = fI S v0 13 := ⟨_, rfl⟩
  obtain ⟨iv6, hiv6⟩ : ∃ z : Int32, z = kv5 := ⟨_, rfl⟩
  have di_13 := hiv6.trans d_kv5
  have hO : iv4 = 5 → 0 < iv6 := by rw [di_9, di_13]; exact hO
  obtain ⟨a7, ea7, o_a7, -⟩ := id hG
  obtain ⟨kv8, d_kv8⟩ : ∃ z : Int32, z = fI S a7 6 := ⟨_, rfl⟩
  have r_kv8 : (0 : Int32) ≤ kv8 ∧ kv8 ≤ (12 : Int32) := by rw [d_kv8]; exact nu 22 rfl hI o_a7
  obtain ⟨kv9, d_kv9⟩ : ∃ z : Int32, z = fI S a7 2 := ⟨_, rfl⟩
  have r_kv9 : (0 : Int32) ≤ kv9 ∧ kv9 ≤ (8 : Int32) := by rw [d_kv9]; exact nu 18 rfl hI o_a7
  obtain ⟨kv10, d_kv10⟩ : ∃ z : Int32, z = fI S a7 4 := ⟨_, rfl⟩
  have r_kv10 : (0 : Int32) ≤ kv10 ∧ kv10 ≤ (4 : Int32) := by rw [d_kv10]; exact nu 20 rfl hI o_a7
  have hnf : kv8 = kv9 + kv10 := by rw [d_kv8, d_kv9, d_kv10]; exact hn _ ea7
  refine u_X11_readWorld ?_
  refine u_X11_readWorld_0 ?_
  refine ⟨o_v0, ?_⟩
  refine ⟨a7, ea7, ?_⟩
  refine ⟨o_a7, ?_⟩
  intro x12 ex12
  have r_x12 : (0 : Int32) ≤ x12 ∧ x12 ≤ (60 : Int32) := by rw [ex12]; exact nu 16 rfl hI o_a7
  have d_x12 := ex12
  refine ⟨fun c13 => ?_, fun c13 => ?_⟩
  · refine u_X11_readWorld_15 ?_
    refine ⟨o_v0, ?_⟩
    obtain ⟨iv14, hiv14⟩ : ∃ z : Int32, z = kv5 := ⟨_, rfl⟩
    have d_iv14 := hiv14.trans d_kv5
    have do14_kv1 := d_kv1
    have do14_kv3 := d_kv3
    have do14_iv14 := d_iv14
    refine m_X11_goesOn hI o_v0 hG (by have t : kv3 = 5 → 0 < kv5 := (qr62 hiv4 hiv6 hO r_x12 c13); rw [d_kv3, d_kv5] at t; exact t) (fun S16 hJ g17 fc18 p_S16 => ?_)
    obtain ⟨hG, pg0_S16, pg1_S16, pg2_S16⟩ := p_S16
    have hn := rn_fr fc18 g17 hI o_v0 (by decide) hn
    have hI := hJ
    have d_kv5 := d_kv5.trans (fri_at fc18 (by decide) (by decide) o_v0).symm
    have d_kv8 := d_kv8.trans (fri_at fc18 (by decide) (by decide) o_a7).symm
    have d_kv9 := d_kv9.trans (fri_at fc18 (by decide) (by decide) o_a7).symm
    have d_kv10 := d_kv10.trans (fri_at fc18 (by decide) (by decide) o_a7).symm
    have d_x12 := d_x12.trans (fri_at fc18 (by decide) (by decide) o_a7).symm
    have ea7 := (frr_at fc18 (by decide) (by decide) o_v0).trans ea7
    have f0 := fri_tr (S := S) g0 f0 fc18 (by decide) (by decide)
    have o_a7 := gr_ob g17 o_a7
    have o_v0 := gr_ob g17 o_v0
    have g0 := gr_tr (T := S) g0 g17
    obtain ⟨kv19, d_kv19⟩ : ∃ z : Int32, z = fI S16 v0 9 := ⟨_, rfl⟩
    have ph0_S16 : kv19 = 5 → 0 < kv5 := by rw [d_kv19, d_kv5]; exact pg0_S16
    have ph1_S16 : kv19 = 5 ∨ ¬ kv3 = 5 := by rw [do14_kv3, d_kv19]; exact pg1_S16
    obtain ⟨kv20, d_kv20⟩ : ∃ z : Int32, z = fI S16 v0 8 := ⟨_, rfl⟩
    have r_kv20 : (0 : Int32) ≤ kv20 ∧ kv20 ≤ (900 : Int32) := by rw [d_kv20]; exact nu 25 rfl hI o_v0
    have ph2_S16 : kv1 ≤ kv20 ∧ (kv19 = 4 → kv1 < kv20 ∨ kv3 = 4) := by rw [do14_kv1, do14_kv3, d_kv20, d_kv19]; exact pg2_S16
    intro _
    have do20_kv20 := d_kv20
    have do20_kv19 := d_kv19
    have do20_kv5 := d_kv5
    refine m_X11_readPart hI o_v0 (by decide) hG (by have t : kv19 = 5 → 0 < kv5 := (qr63 hiv4 hiv6 hO r_x12 c13 hiv14 ph0_S16 ph1_S16); rw [d_kv19, d_kv5] at t; exact t) (fun x21 S22 hJ g23 fc24 p_x21 => ?_)
    obtain ⟨hG, p_x21, pg0_S22, pg1_S22, pg2_S22⟩ := p_x21
    have hn := rn_fr fc24 g23 hI o_v0 (by decide) hn
    have hI := hJ
    have d_kv8 := d_kv8.trans (fri_at fc24 (by decide) (by decide) o_a7).symm
    have d_kv9 := d_kv9.trans (fri_at fc24 (by decide) (by decide) o_a7).symm
    have d_kv10 := d_kv10.trans (fri_at fc24 (by decide) (by decide) o_a7).symm
    have d_x12 := d_x12.trans (fri_at fc24 (by decide) (by decide) o_a7).symm
    have ea7 := (frr_at fc24 (by decide) (by decide) o_v0).trans ea7
    have f0 := fri_tr (S := S16) g0 f0 fc24 (by decide) (by decide)
    have o_a7 := gr_ob g23 o_a7
    have o_v0 := gr_ob g23 o_v0
    have g0 := gr_tr (T := S16) g0 g23
    obtain ⟨kv25, d_kv25⟩ : ∃ z : Int32, z = fI S22 v0 9 := ⟨_, rfl⟩
    obtain ⟨kv26, d_kv26⟩ : ∃ z : Int32, z = fI S22 v0 13 := ⟨_, rfl⟩
    have ph0_S22 : kv25 = 5 → 0 < kv26 := by rw [d_kv25, d_kv26]; exact pg0_S22
    have ph1_S22 : kv25 = 5 ∨ ¬ kv19 = 5 := by rw [do20_kv19, d_kv25]; exact pg1_S22
    have mo27 : kv25 = 5 ∨ ¬ kv3 = 5 := ph1_S22.elim Or.inl (fun h => Or.inr (ph1_S16.resolve_left h))
    obtain ⟨kv28, d_kv28⟩ : ∃ z : Int32, z = fI S22 v0 8 := ⟨_, rfl⟩
    have r_kv28 : (0 : Int32) ≤ kv28 ∧ kv28 ≤ (900 : Int32) := by rw [d_kv28]; exact nu 25 rfl hI o_v0
    have ph2_S22 : kv20 ≤ kv28 ∧ (kv25 = 4 → kv20 < kv28 ∨ kv19 = 4) := by rw [do20_kv20, do20_kv19, d_kv28, d_kv25]; exact pg2_S22
    intro _
    intro x29 ex29
    have q_x29 : x29 = kv25 := ex29.trans d_kv25.symm
    have mo30 : x29 = 5 ∨ ¬ kv3 = 5 := mo27.imp_left (fun z => q_x29.trans z)
    have mo31 : x29 = 5 ∨ ¬ kv19 = 5 := ph1_S22.imp_left (fun z => q_x29.trans z)
    have d_x29 := ex29
    refine ⟨fun c32 => ?_, fun c32 => ?_⟩
    · exact hq _ hI g0 f0 ⟨hG, hn, (by have t : x29 = 5 → 0 < kv26 := (qr64 hiv4 hiv6 hO r_x12 c13 hiv14 ph0_S16 mo30 ph0_S22 mo31 q_x29 c32); rw [d_x29, d_kv26] at t; exact t), (by have t : x29 = 5 ∨ ¬ iv4 = 5 := (qr65 hiv4 r_x12 c13 mo30 mo31 q_x29 c32); rw [di_9, d_x29] at t; exact t), (by have t : iv2 ≤ kv28 ∧ (x29 = 4 → iv2 < kv28 ∨ iv4 = 4) := (qr66 r_kv1 hiv2 hiv4 r_x12 c13 mo30 r_kv20 ph2_S16 mo31 r_kv28 ph2_S22 q_x29 c32); rw [di_8, di_9, d_kv28, d_x29] at t; exact t)⟩
    · refine ⟨a7, ea7, ?_⟩
      refine ⟨o_a7, ?_⟩
      intro S34 eS34
      have hIn : IV S34 := by rw [eS34]; exact iv10_sI hI o_a7 (rg_nw hG ea7) (nu_one (lo := (0 : Int32)) (hi := (60 : Int32)) (by decide) (qr67 hiv4 r_x12 c13 mo30 mo31 p_x21 q_x29 c32))
      have hG := rg_c eS34 hI ea7 o_a7 (by decide) hG
      have hn := rn_c eS34 (by decide) hn
      have hI := hIn
      have f0 := fr_I eS34 g0 f0 o_a7 (by decide)
      have d_kv8 := rd_Ij eS34 (by decide) d_kv8
      have d_kv9 := rd_Ij eS34 (by decide) d_kv9
      have d_kv10 := rd_Ij eS34 (by decide) d_kv10
      have d_x29 := rd_Ik eS34 o_a7 o_v0 (by decide) d_x29
      have d_kv26 := rd_Ik eS34 o_a7 o_v0 (by decide) d_kv26
      have d_kv28 := rd_Ik eS34 o_a7 o_v0 (by decide) d_kv28
      have d_x21 := rd_Is eS34 (rfl : x21 = x21)
      have ea7 := rf_I eS34 ea7
      have g0 := gr_I eS34 g0
      have o_a7 := ob_I eS34 o_a7
      have o_v0 := ob_I eS34 o_v0
      exact hq _ hI g0 f0 ⟨hG, hn, (by have t : x29 = 5 → 0 < kv26 := (qr68 hiv4 hiv6 hO r_x12 c13 hiv14 ph0_S16 mo30 ph0_S22 mo31 q_x29 c32); rw [d_x29, d_kv26] at t; exact t), (by have t : x29 = 5 ∨ ¬ iv4 = 5 := (qr69 hiv4 r_x12 c13 mo30 mo31 q_x29 c32); rw [di_9, d_x29] at t; exact t), (by have t : iv2 ≤ kv28 ∧ (x29 = 4 → iv2 < kv28 ∨ iv4 = 4) := (qr70 r_kv1 hiv2 hiv4 r_x12 c13 mo30 r_kv20 ph2_S16 mo31 r_kv28 ph2_S22 q_x29 c32); rw [di_8, di_9, d_kv28, d_x29] at t; exact t)⟩
  · obtain ⟨iv35, hiv35⟩ : ∃ z : Int32, z = kv1 := ⟨_, rfl⟩
    have d_iv35 := hiv35.trans d_kv1
    have do35_iv35 := d_iv35
    have do35_kv3 := d_kv3
    have do35_kv5 := d_kv5
    refine m_X11_flaw hI o_v0 (qr71 r_x12 c13) hG (by have t : kv3 = 5 → 0 < kv5 := (qr72 hiv4 hiv6 hO r_x12 c13); rw [d_kv3, d_kv5] at t; exact t) (fun S37 hJ g38 fc39 p_S37 => ?_)
    obtain ⟨hG, pg0_S37, pg1_S37, pg2_S37, pg3_S37⟩ := p_S37
    have hn := rn_fr fc39 g38 hI o_v0 (by decide) hn
    have hI := hJ
    have d_kv1 := d_kv1.trans (fri_at fc39 (by decide) (by decide) o_v0).symm
    have d_kv8 := d_kv8.trans (fri_at fc39 (by decide) (by decide) o_a7).symm
    have d_kv9 := d_kv9.trans (fri_at fc39 (by decide) (by decide) o_a7).symm
    have d_kv10 := d_kv10.trans (fri_at fc39 (by decide) (by decide) o_a7).symm
    have d_x12 := d_x12.trans (fri_at fc39 (by decide) (by decide) o_a7).symm
    have ea7 := (frr_at fc39 (by decide) (by decide) o_v0).trans ea7
    have f0 := fri_tr (S := S) g0 f0 fc39 (by decide) (by decide)
    have o_a7 := gr_ob g38 o_a7
    have o_v0 := gr_ob g38 o_v0
    have g0 := gr_tr (T := S) g0 g38
    obtain ⟨kv40, d_kv40⟩ : ∃ z : Int32, z = fI S37 v0 9 := ⟨_, rfl⟩
    obtain ⟨kv41, d_kv41⟩ : ∃ z : Int32, z = fI S37 v0 13 := ⟨_, rfl⟩
    have ph0_S37 : kv40 = 5 → 0 < kv41 := by rw [d_kv40, d_kv41]; exact pg0_S37
    have ph1_S37 : kv40 = 5 ∨ ¬ kv3 = 5 := by rw [do35_kv3, d_kv40]; exact pg1_S37
    have ph2_S37 : iv35 ≤ kv1 ∧ (kv40 = 4 → iv35 < kv1 ∨ kv3 = 4) := by rw [do35_iv35, do35_kv3, d_kv1, d_kv40]; exact pg2_S37
    have ph3_S37 : kv40 = 5 := by rw [d_kv40]; exact pg3_S37
    intro _
    refine u_X11_readWorld_15 ?_
    refine ⟨o_v0, ?_⟩
    obtain ⟨iv42, hiv42⟩ : ∃ z : Int32, z = kv41 := ⟨_, rfl⟩
    have d_iv42 := hiv42.trans d_kv41
    have do42_kv1 := d_kv1
    have do42_kv40 := d_kv40
    have do42_iv42 := d_iv42
    refine m_X11_goesOn hI o_v0 hG (by have t : kv40 = 5 → 0 < kv41 := (qr73 hiv4 hiv6 hO r_x12 c13 ph0_S37 ph1_S37 ph3_S37); rw [d_kv40, d_kv41] at t; exact t) (fun S44 hJ g45 fc46 p_S44 => ?_)
    obtain ⟨hG, pg0_S44, pg1_S44, pg2_S44⟩ := p_S44
    have hn := rn_fr fc46 g45 hI o_v0 (by decide) hn
    have hI := hJ
    have d_kv8 := d_kv8.trans (fri_at fc46 (by decide) (by decide) o_a7).symm
    have d_kv9 := d_kv9.trans (fri_at fc46 (by decide) (by decide) o_a7).symm
    have d_kv10 := d_kv10.trans (fri_at fc46 (by decide) (by decide) o_a7).symm
    have d_x12 := d_x12.trans (fri_at fc46 (by decide) (by decide) o_a7).symm
    have d_kv41 := d_kv41.trans (fri_at fc46 (by decide) (by decide) o_v0).symm
    have ea7 := (frr_at fc46 (by decide) (by decide) o_v0).trans ea7
    have f0 := fri_tr (S := S37) g0 f0 fc46 (by decide) (by decide)
    have o_a7 := gr_ob g45 o_a7
    have o_v0 := gr_ob g45 o_v0
    have g0 := gr_tr (T := S37) g0 g45
    obtain ⟨kv47, d_kv47⟩ : ∃ z : Int32, z = fI S44 v0 9 := ⟨_, rfl⟩
    have ph0_S44 : kv47 = 5 → 0 < kv41 := by rw [d_kv47, d_kv41]; exact pg0_S44
    have ph1_S44 : kv47 = 5 ∨ ¬ kv40 = 5 := by rw [do42_kv40, d_kv47]; exact pg1_S44
    have mo48 : kv47 = 5 ∨ ¬ kv3 = 5 := ph1_S44.elim Or.inl (fun h => Or.inr (ph1_S37.resolve_left h))
    obtain ⟨kv49, d_kv49⟩ : ∃ z : Int32, z = fI S44 v0 8 := ⟨_, rfl⟩
    have r_kv49 : (0 : Int32) ≤ kv49 ∧ kv49 ≤ (900 : Int32) := by rw [d_kv49]; exact nu 25 rfl hI o_v0
    have ph2_S44 : kv1 ≤ kv49 ∧ (kv47 = 4 → kv1 < kv49 ∨ kv40 = 4) := by rw [do42_kv1, do42_kv40, d_kv49, d_kv47]; exact pg2_S44
    intro _
    have do49_kv49 := d_kv49
    have do49_kv47 := d_kv47
    have do49_kv41 := d_kv41
    refine m_X11_readPart hI o_v0 (by decide) hG (by have t : kv47 = 5 → 0 < kv41 := (qr74 hiv4 hiv6 hO r_x12 c13 ph0_S37 mo48 ph3_S37 hiv42 ph0_S44 ph1_S44); rw [d_kv47, d_kv41] at t; exact t) (fun x50 S51 hJ g52 fc53 p_x50 => ?_)
    obtain ⟨hG, p_x50, pg0_S51, pg1_S51, pg2_S51⟩ := p_x50
    have hn := rn_fr fc53 g52 hI o_v0 (by decide) hn
    have hI := hJ
    have d_kv8 := d_kv8.trans (fri_at fc53 (by decide) (by decide) o_a7).symm
    have d_kv9 := d_kv9.trans (fri_at fc53 (by decide) (by decide) o_a7).symm
    have d_kv10 := d_kv10.trans (fri_at fc53 (by decide) (by decide) o_a7).symm
    have d_x12 := d_x12.trans (fri_at fc53 (by decide) (by decide) o_a7).symm
    have ea7 := (frr_at fc53 (by decide) (by decide) o_v0).trans ea7
    have f0 := fri_tr (S := S44) g0 f0 fc53 (by decide) (by decide)
    have o_a7 := gr_ob g52 o_a7
    have o_v0 := gr_ob g52 o_v0
    have g0 := gr_tr (T := S44) g0 g52
    obtain ⟨kv54, d_kv54⟩ : ∃ z : Int32, z = fI S51 v0 9 := ⟨_, rfl⟩
    obtain ⟨kv55, d_kv55⟩ : ∃ z : Int32, z = fI S51 v0 13 := ⟨_, rfl⟩
    have ph0_S51 : kv54 = 5 → 0 < kv55 := by rw [d_kv54, d_kv55]; exact pg0_S51
    have ph1_S51 : kv54 = 5 ∨ ¬ kv47 = 5 := by rw [do49_kv47, d_kv54]; exact pg1_S51
    have mo56 : kv54 = 5 ∨ ¬ kv3 = 5 := ph1_S51.elim Or.inl (fun h => Or.inr (mo48.resolve_left h))
    have mo57 : kv54 = 5 ∨ ¬ kv40 = 5 := ph1_S51.elim Or.inl (fun h => Or.inr (ph1_S44.resolve_left h))
    obtain ⟨kv58, d_kv58⟩ : ∃ z : Int32, z = fI S51 v0 8 := ⟨_, rfl⟩
    have r_kv58 : (0 : Int32) ≤ kv58 ∧ kv58 ≤ (900 : Int32) := by rw [d_kv58]; exact nu 25 rfl hI o_v0
    have ph2_S51 : kv49 ≤ kv58 ∧ (kv54 = 4 → kv49 < kv58 ∨ kv47 = 4) := by rw [do49_kv49, do49_kv47, d_kv58, d_kv54]; exact pg2_S51
    intro _
    intro x59 ex59
    have q_x59 : x59 = kv54 := ex59.trans d_kv54.symm
    have mo60 : x59 = 5 ∨ ¬ kv3 = 5 := mo56.imp_left (fun z => q_x59.trans z)
    have mo61 : x59 = 5 ∨ ¬ kv40 = 5 := mo57.imp_left (fun z => q_x59.trans z)
    have mo62 : x59 = 5 ∨ ¬ kv47 = 5 := ph1_S51.imp_left (fun z => q_x59.trans z)
    have d_x59 := ex59
    refine ⟨fun c63 => ?_, fun c63 => ?_⟩
    · exact hq _ hI g0 f0 ⟨hG, hn, (by have t : x59 = 5 → 0 < kv55 := (qr75 hiv4 hiv6 hO r_x12 c13 ph0_S37 mo60 ph3_S37 hiv42 ph0_S44 mo61 ph0_S51 mo62 q_x59 c63); rw [d_x59, d_kv55] at t; exact t), (by have t : x59 = 5 ∨ ¬ iv4 = 5 := (qr76 hiv4 r_x12 c13 mo60 ph3_S37 mo61 mo62 q_x59 c63); rw [di_9, d_x59] at t; exact t), (by have t : iv2 ≤ kv58 ∧ (x59 = 4 → iv2 < kv58 ∨ iv4 = 4) := (qr77 r_kv1 hiv2 hiv4 r_x12 c13 hiv35 mo60 ph2_S37 ph3_S37 mo61 r_kv49 ph2_S44 mo62 r_kv58 ph2_S51 q_x59 c63); rw [di_8, di_9, d_kv58, d_x59] at t; exact t)⟩
    · refine ⟨a7, ea7, ?_⟩
      refine ⟨o_a7, ?_⟩
      intro S65 eS65
      have hIn : IV S65 := by rw [eS65]; exact iv10_sI hI o_a7 (rg_nw hG ea7) (nu_one (lo := (0 : Int32)) (hi := (60 : Int32)) (by decide) (qr78 hiv4 r_x12 c13 mo60 ph3_S37 mo61 mo62 p_x50 q_x59 c63))
      have hG := rg_c eS65 hI ea7 o_a7 (by decide) hG
      have hn := rn_c eS65 (by decide) hn
      have hI := hIn
      have f0 := fr_I eS65 g0 f0 o_a7 (by decide)
      have d_kv8 := rd_Ij eS65 (by decide) d_kv8
      have d_kv9 := rd_Ij eS65 (by decide) d_kv9
      have d_kv10 := rd_Ij eS65 (by decide) d_kv10
      have d_x59 := rd_Ik eS65 o_a7 o_v0 (by decide) d_x59
      have d_kv55 := rd_Ik eS65 o_a7 o_v0 (by decide) d_kv55
      have d_kv58 := rd_Ik eS65 o_a7 o_v0 (by decide) d_kv58
      have d_x50 := rd_Is eS65 (rfl : x50 = x50)
      have ea7 := rf_I eS65 ea7
      have g0 := gr_I eS65 g0
      have o_a7 := ob_I eS65 o_a7
      have o_v0 := ob_I eS65 o_v0
      exact hq _ hI g0 f0 ⟨hG, hn, (by have t : x59 = 5 → 0 < kv55 := (qr79 hiv4 hiv6 hO r_x12 c13 ph0_S37 mo60 ph3_S37 hiv42 ph0_S44 mo61 ph0_S51 mo62 q_x59 c63); rw [d_x59, d_kv55] at t; exact t), (by have t : x59 = 5 ∨ ¬ iv4 = 5 := (qr80 hiv4 r_x12 c13 mo60 ph3_S37 mo61 mo62 q_x59 c63); rw [di_9, d_x59] at t; exact t), (by have t : iv2 ≤ kv58 ∧ (x59 = 4 → iv2 < kv58 ∨ iv4 = 4) := (qr81 r_kv1 hiv2 hiv4 r_x12 c13 hiv35 mo60 ph2_S37 ph3_S37 mo61 r_kv49 ph2_S44 mo62 r_kv58 ph2_S51 q_x59 c63); rw [di_8, di_9, d_kv58, d_x59] at t; exact t)⟩
set_option maxHeartbeats 4000000 in
set_option maxRecDepth 20000 in
theorem m_X11_readLine {v0 : Nat} {Q : HS → Prop} {S : HS} (hI : IV S) (o_v0 : ob S v0 11)    (hG : RG S v0) (hn : RN S v0) (hO : fI S v0 9 = 5 → 0 < fI S v0 13) (hq : ∀ (T : HS), IV T → Gr S T → FRI [(10, 0), (10, 1), (10, 2), (10, 3), (10, 4), (10, 5), (10, 6), (11, 8), (11, 9), (11, 10), (11, 11), (11, 12), (11, 13), (11, 14)] [] S T → (RG T v0) ∧ (RN T v0) ∧ (fI T v0 9 = 5 → 0 < fI T v0 13) ∧ (fI S v0 8 ≤ fI T v0 8 ∧ (fI T v0 9 = 4 → fI S v0 8 < fI T v0 8)) → Q T) : P_X11_readLine v0 Q S := by
  have g0 := gr_rf S
  have f0 := fri_rf [(10, 0), (10, 1), (10, 2), (10, 3), (10, 4), (10, 5), (10, 6), (11, 8), (11, 9), (11, 10), (11, 11), (11, 12), (11, 13), (11, 14)] [] S
  obtain ⟨kv1, d_kv1⟩ : ∃ z : Int32, z = fI S v0 8 := ⟨_, rfl⟩
  have r_kv1 : (0 : Int32) ≤ kv1 ∧ kv1 ≤ (900 : Int32) := by rw [d_kv1]; exact nu 25 rfl hI o_v0
  obtain ⟨iv2, hiv2⟩ : ∃ z : Int32, z = kv1 := ⟨_, rfl⟩
  have di_8 := hiv2.trans d_kv1
  obtain ⟨kv3, d_kv3⟩ : ∃ z : Int32, z = fI S v0 9 := ⟨_, rfl⟩
  obtain ⟨iv4, hiv4⟩ : ∃ z : Int32, z = kv3 := ⟨_, rfl⟩
  have di_9 := hiv4.trans d_kv3
  obtain ⟨kv5, d_kv5⟩ : ∃ z : Int32, z = fI S v0 13 := ⟨_, rfl⟩
  obtain ⟨iv6, hiv6⟩ : ∃ z : Int32, z = kv5 := ⟨_, rfl⟩
  have di_13 := hiv6.trans d_kv5
  have hO : iv4 = 5 → 0 < iv6 := by rw [di_9, di_13]; exact hO
  refine u_X11_readLine ?_
  refine u_X11_readLine_0 ?_
  refine ⟨o_v0, ?_⟩
  refine m_X11_isWord hI o_v0 (by decide) (fun x7 S8 hI2 g9 b_x7 p_x7 => ?_)
  obtain ⟨z_S8, p_x7⟩ := p_x7
  subst z_S8
  intro _ _
  have bb_x7 : x7 = 0 ∨ x7 = 1 := b_x7
  have iw_x7 : x7 = 0 ∨ kv3 = 2 := by rw [d_kv3]; exact p_x7
  refine ⟨fun c11 => ?_, fun c11 => ?_⟩
  · refine m_X11_isWord hI o_v0 (by decide) (fun x12 S13 hI2 g14 b_x12 p_x12 => ?_)
    obtain ⟨z_S13, p_x12⟩ := p_x12
    subst z_S13
    intro _ _
    have bb_x12 : x12 = 0 ∨ x12 = 1 := b_x12
    have iw_x12 : x12 = 0 ∨ kv3 = 2 := by rw [d_kv3]; exact p_x12
    refine ⟨fun c16 => ?_, fun c16 => ?_⟩
    · refine m_X11_isWord hI o_v0 (by decide) (fun x17 S18 hI2 g19 b_x17 p_x17 => ?_)
      obtain ⟨z_S18, p_x17⟩ := p_x17
      subst z_S18
      intro _ _
      have bb_x17 : x17 = 0 ∨ x17 = 1 := b_x17
      have iw_x17 : x17 = 0 ∨ kv3 = 2 := by rw [d_kv3]; exact p_x17
      refine ⟨fun c21 => ?_, fun c21 => ?_⟩
      · refine m_X11_isWord hI o_v0 (by decide) (fun x22 S23 hI2 g24 b_x22 p_x22 => ?_)
        obtain ⟨z_S23, p_x22⟩ := p_x22
        subst z_S23
        intro _ _
        have bb_x22 : x22 = 0 ∨ x22 = 1 := b_x22
        have iw_x22 : x22 = 0 ∨ kv3 = 2 := by rw [d_kv3]; exact p_x22
        refine ⟨fun c26 => ?_, fun c26 => ?_⟩
        · refine m_X11_isWord hI o_v0 (by decide) (fun x27 S28 hI2 g29 b_x27 p_x27 => ?_)
          obtain ⟨z_S28, p_x27⟩ := p_x27
          subst z_S28
          intro _ _
          have bb_x27 : x27 = 0 ∨ x27 = 1 := b_x27
          have iw_x27 : x27 = 0 ∨ kv3 = 2 := by rw [d_kv3]; exact p_x27
          refine ⟨fun c31 => ?_, fun c31 => ?_⟩
          · refine m_X11_isWord hI o_v0 (by decide) (fun x32 S33 hI2 g34 b_x32 p_x32 => ?_)
            obtain ⟨z_S33, p_x32⟩ := p_x32
            subst z_S33
            intro _ _
            have bb_x32 : x32 = 0 ∨ x32 = 1 := b_x32
            have iw_x32 : x32 = 0 ∨ kv3 = 2 := by rw [d_kv3]; exact p_x32
            refine ⟨fun c36 => ?_, fun c36 => ?_⟩
            · obtain ⟨iv37, hiv37⟩ : ∃ z : Int32, z = kv1 := ⟨_, rfl⟩
              have d_iv37 := hiv37.trans d_kv1
              have do37_iv37 := d_iv37
              have do37_kv3 := d_kv3
              have do37_kv5 := d_kv5
              refine m_X11_flaw hI o_v0 (qr40 hiv4 bb_x7 iw_x7 c11 bb_x12 iw_x12 c16 bb_x17 iw_x17 c21 bb_x22 iw_x22 c26 bb_x27 iw_x27 c31 bb_x32 iw_x32 c36) hG (by have t : kv3 = 5 → 0 < kv5 := (qr41 hiv4 hiv6 hO bb_x7 iw_x7 c11 bb_x12 iw_x12 c16 bb_x17 iw_x17 c21 bb_x22 iw_x22 c26 bb_x27 iw_x27 c31 bb_x32 iw_x32 c36); rw [d_kv3, d_kv5] at t; exact t) (fun S39 hJ g40 fc41 p_S39 => ?_)
              obtain ⟨hG, pg0_S39, pg1_S39, pg2_S39, pg3_S39⟩ := p_S39
              have hn := rn_fr fc41 g40 hI o_v0 (by decide) hn
              have hI := hJ
              have d_kv1 := d_kv1.trans (fri_at fc41 (by decide) (by decide) o_v0).symm
              have f0 := fri_tr (S := S) g0 f0 fc41 (by decide) (by decide)
              have o_v0 := gr_ob g40 o_v0
              have g0 := gr_tr (T := S) g0 g40
              obtain ⟨kv42, d_kv42⟩ : ∃ z : Int32, z = fI S39 v0 9 := ⟨_, rfl⟩
              obtain ⟨kv43, d_kv43⟩ : ∃ z : Int32, z = fI S39 v0 13 := ⟨_, rfl⟩
              have ph0_S39 : kv42 = 5 → 0 < kv43 := by rw [d_kv42, d_kv43]; exact pg0_S39
              have ph1_S39 : kv42 = 5 ∨ ¬ kv3 = 5 := by rw [do37_kv3, d_kv42]; exact pg1_S39
              have ph2_S39 : iv37 ≤ kv1 ∧ (kv42 = 4 → iv37 < kv1 ∨ kv3 = 4) := by rw [do37_iv37, do37_kv3, d_kv1, d_kv42]; exact pg2_S39
              have ph3_S39 : kv42 = 5 := by rw [d_kv42]; exact pg3_S39
              intro _
              exact hq _ hI g0 f0 ⟨hG, hn, (by have t : kv42 = 5 → 0 < kv43 := (qr42 hiv4 hiv6 hO bb_x7 iw_x7 c11 bb_x12 iw_x12 c16 bb_x17 iw_x17 c21 bb_x22 iw_x22 c26 bb_x27 iw_x27 c31 bb_x32 iw_x32 c36 ph0_S39 ph1_S39 ph3_S39); rw [d_kv42, d_kv43] at t; exact t), (by have t : iv2 ≤ kv1 ∧ (kv42 = 4 → iv2 < kv1) := (qr43 r_kv1 hiv2 hiv4 bb_x7 iw_x7 c11 bb_x12 iw_x12 c16 bb_x17 iw_x17 c21 bb_x22 iw_x22 c26 bb_x27 iw_x27 c31 bb_x32 iw_x32 c36 hiv37 ph1_S39 ph2_S39 ph3_S39); rw [di_8, d_kv1, d_kv42] at t; exact t)⟩
            · have do43_kv1 := d_kv1
              have do43_kv3 := d_kv3
              have do43_kv5 := d_kv5
              refine m_X11_readSeen hI o_v0 hG hn (by have t : kv3 = 5 → 0 < kv5 := (qr44 hiv4 hiv6 hO bb_x7 iw_x7 c11 bb_x12 iw_x12 c16 bb_x17 iw_x17 c21 bb_x22 iw_x22 c26 bb_x27 iw_x27 c31 bb_x32 iw_x32 c36); rw [d_kv3, d_kv5] at t; exact t) (fun S45 hJ g46 fc47 p_S45 => ?_)
              obtain ⟨hG, hn, pg0_S45, pg1_S45, pg2_S45⟩ := p_S45
              have hI := hJ
              have f0 := fri_tr (S := S) g0 f0 fc47 (by decide) (by decide)
              have o_v0 := gr_ob g46 o_v0
              have g0 := gr_tr (T := S) g0 g46
              obtain ⟨kv48, d_kv48⟩ : ∃ z : Int32, z = fI S45 v0 9 := ⟨_, rfl⟩
              obtain ⟨kv49, d_kv49⟩ : ∃ z : Int32, z = fI S45 v0 13 := ⟨_, rfl⟩
              have ph0_S45 : kv48 = 5 → 0 < kv49 := by rw [d_kv48, d_kv49]; exact pg0_S45
              have ph1_S45 : kv48 = 5 ∨ ¬ kv3 = 5 := by rw [do43_kv3, d_kv48]; exact pg1_S45
              obtain ⟨kv50, d_kv50⟩ : ∃ z : Int32, z = fI S45 v0 8 := ⟨_, rfl⟩
              have r_kv50 : (0 : Int32) ≤ kv50 ∧ kv50 ≤ (900 : Int32) := by rw [d_kv50]; exact nu 25 rfl hI o_v0
              have ph2_S45 : kv1 ≤ kv50 ∧ (kv48 = 4 → kv1 < kv50 ∨ kv3 = 4) := by rw [do43_kv1, do43_kv3, d_kv50, d_kv48]; exact pg2_S45
              intro _
              exact hq _ hI g0 f0 ⟨hG, hn, (by have t : kv48 = 5 → 0 < kv49 := (qr45 hiv4 hiv6 hO bb_x7 iw_x7 c11 bb_x12 iw_x12 c16 bb_x17 iw_x17 c21 bb_x22 iw_x22 c26 bb_x27 iw_x27 c31 bb_x32 iw_x32 c36 ph0_S45 ph1_S45); rw [d_kv48, d_kv49] at t; exact t), (by have t : iv2 ≤ kv50 ∧ (kv48 = 4 → iv2 < kv50) := (qr46 r_kv1 hiv2 hiv4 bb_x7 iw_x7 c11 bb_x12 iw_x12 c16 bb_x17 iw_x17 c21 bb_x22 iw_x22 c26 bb_x27 iw_x27 c31 bb_x32 iw_x32 c36 ph1_S45 r_kv50 ph2_S45); rw [di_8, d_kv50, d_kv48] at t; exact t)⟩
          · have do50_kv1 := d_kv1
            have do50_kv3 := d_kv3
            have do50_kv5 := d_kv5
            refine m_X11_readWalker hI o_v0 hG hn (by have t : kv3 = 5 → 0 < kv5 := (qr47 hiv4 hiv6 hO bb_x7 iw_x7 c11 bb_x12 iw_x12 c16 bb_x17 iw_x17 c21 bb_x22 iw_x22 c26 bb_x27 iw_x27 c31); rw [d_kv3, d_kv5] at t; exact t) (fun S52 hJ g53 fc54 p_S52 => ?_)
            obtain ⟨hG, hn, pg0_S52, pg1_S52, pg2_S52⟩ := p_S52
            have hI := hJ
            have f0 := fri_tr (S := S) g0 f0 fc54 (by decide) (by decide)
            have o_v0 := gr_ob g53 o_v0
            have g0 := gr_tr (T := S) g0 g53
            obtain ⟨kv55, d_kv55⟩ : ∃ z : Int32, z = fI S52 v0 9 := ⟨_, rfl⟩
            obtain ⟨kv56, d_kv56⟩ : ∃ z : Int32, z = fI S52 v0 13 := ⟨_, rfl⟩
            have ph0_S52 : kv55 = 5 → 0 < kv56 := by rw [d_kv55, d_kv56]; exact pg0_S52
            have ph1_S52 : kv55 = 5 ∨ ¬ kv3 = 5 := by rw [do50_kv3, d_kv55]; exact pg1_S52
            obtain ⟨kv57, d_kv57⟩ : ∃ z : Int32, z = fI S52 v0 8 := ⟨_, rfl⟩
            have r_kv57 : (0 : Int32) ≤ kv57 ∧ kv57 ≤ (900 : Int32) := by rw [d_kv57]; exact nu 25 rfl hI o_v0
            have ph2_S52 : kv1 ≤ kv57 ∧ (kv55 = 4 → kv1 < kv57 ∨ kv3 = 4) := by rw [do50_kv1, do50_kv3, d_kv57, d_kv55]; exact pg2_S52
            intro _
            exact hq _ hI g0 f0 ⟨hG, hn, (by have t : kv55 = 5 → 0 < kv56 := (qr48 hiv4 hiv6 hO bb_x7 iw_x7 c11 bb_x12 iw_x12 c16 bb_x17 iw_x17 c21 bb_x22 iw_x22 c26 bb_x27 iw_x27 c31 ph0_S52 ph1_S52); rw [d_kv55, d_kv56] at t; exact t), (by have t : iv2 ≤ kv57 ∧ (kv55 = 4 → iv2 < kv57) := (qr49 r_kv1 hiv2 hiv4 bb_x7 iw_x7 c11 bb_x12 iw_x12 c16 bb_x17 iw_x17 c21 bb_x22 iw_x22 c26 bb_x27 iw_x27 c31 ph1_S52 r_kv57 ph2_S52); rw [di_8, d_kv57, d_kv55] at t; exact t)⟩
        · have do57_kv1 := d_kv1
          have do57_kv3 := d_kv3
          have do57_kv5 := d_kv5
          refine m_X11_readRoad hI o_v0 hG hn (by have t : kv3 = 5 → 0 < kv5 := (qr50 hiv4 hiv6 hO bb_x7 iw_x7 c11 bb_x12 iw_x12 c16 bb_x17 iw_x17 c21 bb_x22 iw_x22 c26); rw [d_kv3, d_kv5] at t; exact t) (fun S59 hJ g60 fc61 p_S59 => ?_)
          obtain ⟨hG, hn, pg0_S59, pg1_S59, pg2_S59⟩ := p_S59
          have hI := hJ
          have f0 := fri_tr (S := S) g0 f0 fc61 (by decide) (by decide)
          have o_v0 := gr_ob g60 o_v0
          have g0 := gr_tr (T := S) g0 g60
          obtain ⟨kv62, d_kv62⟩ : ∃ z : Int32, z = fI S59 v0 9 := ⟨_, rfl⟩
          obtain ⟨kv63, d_kv63⟩ : ∃ z : Int32, z = fI S59 v0 13 := ⟨_, rfl⟩
          have ph0_S59 : kv62 = 5 → 0 < kv63 := by rw [d_kv62, d_kv63]; exact pg0_S59
          have ph1_S59 : kv62 = 5 ∨ ¬ kv3 = 5 := by rw [do57_kv3, d_kv62]; exact pg1_S59
          obtain ⟨kv64, d_kv64⟩ : ∃ z : Int32, z = fI S59 v0 8 := ⟨_, rfl⟩
          have r_kv64 : (0 : Int32) ≤ kv64 ∧ kv64 ≤ (900 : Int32) := by rw [d_kv64]; exact nu 25 rfl hI o_v0
          have ph2_S59 : kv1 ≤ kv64 ∧ (kv62 = 4 → kv1 < kv64 ∨ kv3 = 4) := by rw [do57_kv1, do57_kv3, d_kv64, d_kv62]; exact pg2_S59
          intro _
          exact hq _ hI g0 f0 ⟨hG, hn, (by have t : kv62 = 5 → 0 < kv63 := (qr51 hiv4 hiv6 hO bb_x7 iw_x7 c11 bb_x12 iw_x12 c16 bb_x17 iw_x17 c21 bb_x22 iw_x22 c26 ph0_S59 ph1_S59); rw [d_kv62, d_kv63] at t; exact t), (by have t : iv2 ≤ kv64 ∧ (kv62 = 4 → iv2 < kv64) := (qr52 r_kv1 hiv2 hiv4 bb_x7 iw_x7 c11 bb_x12 iw_x12 c16 bb_x17 iw_x17 c21 bb_x22 iw_x22 c26 ph1_S59 r_kv64 ph2_S59); rw [di_8, d_kv64, d_kv62] at t; exact t)⟩
      · have do64_kv1 := d_kv1
        have do64_kv3 := d_kv3
        have do64_kv5 := d_kv5
        refine m_X11_readPlace hI o_v0 hG hn (by have t : kv3 = 5 → 0 < kv5 := (qr53 hiv4 hiv6 hO bb_x7 iw_x7 c11 bb_x12 iw_x12 c16 bb_x17 iw_x17 c21); rw [d_kv3, d_kv5] at t; exact t) (fun S66 hJ g67 fc68 p_S66 => ?_)
        obtain ⟨hG, hn, pg0_S66, pg1_S66, pg2_S66⟩ := p_S66
        have hI := hJ
        have f0 := fri_tr (S := S) g0 f0 fc68 (by decide) (by decide)
        have o_v0 := gr_ob g67 o_v0
        have g0 := gr_tr (T := S) g0 g67
        obtain ⟨kv69, d_kv69⟩ : ∃ z : Int32, z = fI S66 v0 9 := ⟨_, rfl⟩
        obtain ⟨kv70, d_kv70⟩ : ∃ z : Int32, z = fI S66 v0 13 := ⟨_, rfl⟩
        have ph0_S66 : kv69 = 5 → 0 < kv70 := by rw [d_kv69, d_kv70]; exact pg0_S66
        have ph1_S66 : kv69 = 5 ∨ ¬ kv3 = 5 := by rw [do64_kv3, d_kv69]; exact pg1_S66
        obtain ⟨kv71, d_kv71⟩ : ∃ z : Int32, z = fI S66 v0 8 := ⟨_, rfl⟩
        have r_kv71 : (0 : Int32) ≤ kv71 ∧ kv71 ≤ (900 : Int32) := by rw [d_kv71]; exact nu 25 rfl hI o_v0
        have ph2_S66 : kv1 ≤ kv71 ∧ (kv69 = 4 → kv1 < kv71 ∨ kv3 = 4) := by rw [do64_kv1, do64_kv3, d_kv71, d_kv69]; exact pg2_S66
        intro _
        exact hq _ hI g0 f0 ⟨hG, hn, (by have t : kv69 = 5 → 0 < kv70 := (qr54 hiv4 hiv6 hO bb_x7 iw_x7 c11 bb_x12 iw_x12 c16 bb_x17 iw_x17 c21 ph0_S66 ph1_S66); rw [d_kv69, d_kv70] at t; exact t), (by have t : iv2 ≤ kv71 ∧ (kv69 = 4 → iv2 < kv71) := (qr55 r_kv1 hiv2 hiv4 bb_x7 iw_x7 c11 bb_x12 iw_x12 c16 bb_x17 iw_x17 c21 ph1_S66 r_kv71 ph2_S66); rw [di_8, d_kv71, d_kv69] at t; exact t)⟩
    · have do71_kv1 := d_kv1
      have do71_kv3 := d_kv3
      have do71_kv5 := d_kv5
      refine m_X11_readRain hI o_v0 hG hn (by have t : kv3 = 5 → 0 < kv5 := (qr56 hiv4 hiv6 hO bb_x7 iw_x7 c11 bb_x12 iw_x12 c16); rw [d_kv3, d_kv5] at t; exact t) (fun S73 hJ g74 fc75 p_S73 => ?_)
      obtain ⟨hG, hn, pg0_S73, pg1_S73, pg2_S73⟩ := p_S73
      have hI := hJ
      have f0 := fri_tr (S := S) g0 f0 fc75 (by decide) (by decide)
      have o_v0 := gr_ob g74 o_v0
      have g0 := gr_tr (T := S) g0 g74
      obtain ⟨kv76, d_kv76⟩ : ∃ z : Int32, z = fI S73 v0 9 := ⟨_, rfl⟩
      obtain ⟨kv77, d_kv77⟩ : ∃ z : Int32, z = fI S73 v0 13 := ⟨_, rfl⟩
      have ph0_S73 : kv76 = 5 → 0 < kv77 := by rw [d_kv76, d_kv77]; exact pg0_S73
      have ph1_S73 : kv76 = 5 ∨ ¬ kv3 = 5 := by rw [do71_kv3, d_kv76]; exact pg1_S73
      obtain ⟨kv78, d_kv78⟩ : ∃ z : Int32, z = fI S73 v0 8 := ⟨_, rfl⟩
      have r_kv78 : (0 : Int32) ≤ kv78 ∧ kv78 ≤ (900 : Int32) := by rw [d_kv78]; exact nu 25 rfl hI o_v0
      have ph2_S73 : kv1 ≤ kv78 ∧ (kv76 = 4 → kv1 < kv78 ∨ kv3 = 4) := by rw [do71_kv1, do71_kv3, d_kv78, d_kv76]; exact pg2_S73
      intro _
      exact hq _ hI g0 f0 ⟨hG, hn, (by have t : kv76 = 5 → 0 < kv77 := (qr57 hiv4 hiv6 hO bb_x7 iw_x7 c11 bb_x12 iw_x12 c16 ph0_S73 ph1_S73); rw [d_kv76, d_kv77] at t; exact t), (by have t : iv2 ≤ kv78 ∧ (kv76 = 4 → iv2 < kv78) := (qr58 r_kv1 hiv2 hiv4 bb_x7 iw_x7 c11 bb_x12 iw_x12 c16 ph1_S73 r_kv78 ph2_S73); rw [di_8, d_kv78, d_kv76] at t; exact t)⟩
  · have do78_kv1 := d_kv1
    have do78_kv3 := d_kv3
    have do78_kv5 := d_kv5
    refine m_X11_readWorld hI o_v0 hG hn (by have t : kv3 = 5 → 0 < kv5 := (qr59 hiv4 hiv6 hO bb_x7 iw_x7 c11); rw [d_kv3, d_kv5] at t; exact t) (fun S80 hJ g81 fc82 p_S80 => ?_)
    obtain ⟨hG, hn, pg0_S80, pg1_S80, pg2_S80⟩ := p_S80
    have hI := hJ
    have f0 := fri_tr (S := S) g0 f0 fc82 (by decide) (by decide)
    have o_v0 := gr_ob g81 o_v0
    have g0 := gr_tr (T := S) g0 g81
    obtain ⟨kv83, d_kv83⟩ : ∃ z : Int32, z = fI S80 v0 9 := ⟨_, rfl⟩
    obtain ⟨kv84, d_kv84⟩ : ∃ z : Int32, z = fI S80 v0 13 := ⟨_, rfl⟩
    have ph0_S80 : kv83 = 5 → 0 < kv84 := by rw [d_kv83, d_kv84]; exact pg0_S80
    have ph1_S80 : kv83 = 5 ∨ ¬ kv3 = 5 := by rw [do78_kv3, d_kv83]; exact pg1_S80
    obtain ⟨kv85, d_kv85⟩ : ∃ z : Int32, z = fI S80 v0 8 := ⟨_, rfl⟩
    have r_kv85 : (0 : Int32) ≤ kv85 ∧ kv85 ≤ (900 : Int32) := by rw [d_kv85]; exact nu 25 rfl hI o_v0
    have ph2_S80 : kv1 ≤ kv85 ∧ (kv83 = 4 → kv1 < kv85 ∨ kv3 = 4) := by rw [do78_kv1, do78_kv3, d_kv85, d_kv83]; exact pg2_S80
    intro _
    exact hq _ hI g0 f0 ⟨hG, hn, (by have t : kv83 = 5 → 0 < kv84 := (qr60 hiv4 hiv6 hO bb_x7 iw_x7 c11 ph0_S80 ph1_S80); rw [d_kv83, d_kv84] at t; exact t), (by have t : iv2 ≤ kv85 ∧ (kv83 = 4 → iv2 < kv85) := (qr61 r_kv1 hiv2 hiv4 bb_x7 iw_x7 c11 ph1_S80 r_kv85 ph2_S80); rw [di_8, d_kv85, d_kv83] at t; exact t)⟩
set_option maxHeartbeats 4000000 in
set_option maxRecDepth 20000 in
theorem m_X11_readAll {v0 : Nat} {Q : HS → Prop} {S : HS} (hI : IV S) (o_v0 : ob S v0 11)    (hG : RG S v0) (hn : RN S v0) (hO : fI S v0 9 = 5 → 0 < fI S v0 13) (hq : ∀ (T : HS), IV T → Gr S T → FRI [(10, 0), (10, 1), (10, 2), (10, 3), (10, 4), (10, 5), (10, 6), (11, 8), (11, 9), (11, 10), (11, 11), (11, 12), (11, 13), (11, 14)] [] S T → (RG T v0) ∧ (RN T v0) ∧ (RA T v0) ∧ (fI T v0 9 = 5 → 0 < fI T v0 13) → Q T) : P_X11_readAll v0 Q S := by
  have g0 := gr_rf S
  have f0 := fri_rf [(10, 0), (10, 1), (10, 2), (10, 3), (10, 4), (10, 5), (10, 6), (11, 8), (11, 9), (11, 10), (11, 11), (11, 12), (11, 13), (11, 14)] [] S
  obtain ⟨kv1, d_kv1⟩ : ∃ z : Int32, z = fI S v0 9 := ⟨_, rfl⟩
  obtain ⟨iv2, hiv2⟩ : ∃ z : Int32, z = kv1 := ⟨_, rfl⟩
  have di_9 := hiv2.trans d_kv1
  obtain ⟨kv3, d_kv3⟩ : ∃ z : Int32, z = fI S v0 13 := ⟨_, rfl⟩
  obtain ⟨iv4, hiv4⟩ : ∃ z : Int32, z = kv3 := ⟨_, rfl⟩
  have di_13 := hiv4.trans d_kv3
  have hO : iv2 = 5 → 0 < iv4 := by rw [di_9, di_13]; exact hO
  refine u_X11_readAll ?_
  refine u_X11_readAll_0 ?_
  refine i_X11_readAll_2 (fun (y0 : Nat) (y1 : Int32) (Z : HS) => (2 * (901 - (fI Z v0 8).toInt) + y1.toInt).toNat) (fun (y0 : Nat) (y1 : Int32) (Z : HS) => (IV Z) ∧ (Gr S Z) ∧ (FRI [(10, 0), (10, 1), (10, 2), (10, 3), (10, 4), (10, 5), (10, 6), (11, 8), (11, 9), (11, 10), (11, 11), (11, 12), (11, 13), (11, 14)] [] S Z) ∧ (v0 = y0) ∧ (RG Z v0) ∧ (RN Z v0) ∧ (y1 = 0 ∨ y1 = 1) ∧ (fI Z v0 9 = 5 → 0 < fI Z v0 13)) ?_ _ _ _ ⟨hI, (gr_rf _), (fri_rf _ _ _), rfl, hG, hn, (qr0), (by rw [← d_kv1, ← d_kv3]; exact (qr1 hiv2 hiv4 hO))⟩
  intro w9 w11 S6 X12 ⟨hI, gL7, fL8, q10, hG, hn, i1u5, k5u5⟩ ih13
  subst q10
  have f0 := fri_tr (S := S) g0 f0 fL8 (by decide) (by decide)
  have o_v0 := gr_ob gL7 o_v0
  have g0 := gr_tr (T := S) g0 gL7
  obtain ⟨kv14, d_kv14⟩ : ∃ z : Int32, z = fI S6 v0 9 := ⟨_, rfl⟩
  obtain ⟨kv15, d_kv15⟩ : ∃ z : Int32, z = fI S6 v0 13 := ⟨_, rfl⟩
  have p_k5u5 : kv14 = 5 → 0 < kv15 := by rw [d_kv14, d_kv15]; exact k5u5
  obtain ⟨kv16, d_kv16⟩ : ∃ z : Int32, z = fI S6 v0 8 := ⟨_, rfl⟩
  have r_kv16 : (0 : Int32) ≤ kv16 ∧ kv16 ≤ (900 : Int32) := by rw [d_kv16]; exact nu 25 rfl hI o_v0
  have d0_kv16 := d_kv16
  refine u_X11_readAll_2 ?_
  refine ⟨fun c17 => ?_, fun c17 => ?_⟩
  · refine ⟨o_v0, ?_⟩
    intro x18 ex18
    have q_x18 : x18 = kv14 := ex18.trans d_kv14.symm
    have d_x18 := ex18
    refine ⟨fun c19 => ?_, fun c19 => ?_⟩
    · refine u_X11_readAll_33 ?_
      refine ⟨o_v0, ?_⟩
      obtain ⟨a20, ea20, o_a20, -⟩ := id hG
      refine ⟨a20, ea20, ?_⟩
      refine ⟨o_a20, ?_⟩
      intro x21 ex21
      have r_x21 : (0 : Int32) ≤ x21 ∧ x21 ≤ (60 : Int32) := by rw [ex21]; exact nu 16 rfl hI o_a20
      have d_x21 := ex21
      refine ⟨fun c22 => ?_, fun c22 => ?_⟩
      · refine u_X11_readAll_63 ?_
        refine ⟨o_v0, ?_⟩
        obtain ⟨iv23, hiv23⟩ : ∃ z : Int32, z = kv16 := ⟨_, rfl⟩
        have d_iv23 := hiv23.trans d_kv16
        have do23_iv23 := d_iv23
        have do23_x18 := d_x18
        have do23_kv15 := d_kv15
        refine m_X11_flaw hI o_v0 (qr2 i1u5 c17 q_x18 c19 r_x21 c22) hG (by have t : x18 = 5 → 0 < kv15 := (qr3 i1u5 p_k5u5 c17 q_x18 c19 r_x21 c22); rw [d_x18, d_kv15] at t; exact t) (fun S25 hJ g26 fc27 p_S25 => ?_)
        obtain ⟨hG, pg0_S25, pg1_S25, pg2_S25, pg3_S25⟩ := p_S25
        have hn := rn_fr fc27 g26 hI o_v0 (by decide) hn
        have hI := hJ
        have d_kv16 := d_kv16.trans (fri_at fc27 (by decide) (by decide) o_v0).symm
        have d_x21 := d_x21.trans (fri_at fc27 (by decide) (by decide) o_a20).symm
        have ea20 := (frr_at fc27 (by decide) (by decide) o_v0).trans ea20
        have f0 := fri_tr (S := S6) g0 f0 fc27 (by decide) (by decide)
        have o_a20 := gr_ob g26 o_a20
        have o_v0 := gr_ob g26 o_v0
        have g0 := gr_tr (T := S6) g0 g26
        obtain ⟨kv28, d_kv28⟩ : ∃ z : Int32, z = fI S25 v0 9 := ⟨_, rfl⟩
        obtain ⟨kv29, d_kv29⟩ : ∃ z : Int32, z = fI S25 v0 13 := ⟨_, rfl⟩
        have ph0_S25 : kv28 = 5 → 0 < kv29 := by rw [d_kv28, d_kv29]; exact pg0_S25
        have ph1_S25 : kv28 = 5 ∨ ¬ x18 = 5 := by rw [do23_x18, d_kv28]; exact pg1_S25
        have ph2_S25 : iv23 ≤ kv16 ∧ (kv28 = 4 → iv23 < kv16 ∨ x18 = 4) := by rw [do23_iv23, do23_x18, d_kv16, d_kv28]; exact pg2_S25
        have ph3_S25 : kv28 = 5 := by rw [d_kv28]; exact pg3_S25
        intro _
        exact hq _ hI g0 f0 ⟨hG, hn, (ra_l d_kv29 (qr4 i1u5 p_k5u5 c17 q_x18 c19 r_x21 c22 ph0_S25 ph1_S25 ph3_S25)), (by have t : kv28 = 5 → 0 < kv29 := (qr5 i1u5 p_k5u5 c17 q_x18 c19 r_x21 c22 ph0_S25 ph1_S25 ph3_S25); rw [d_kv28, d_kv29] at t; exact t)⟩
      · refine ⟨a20, ea20, ?_⟩
        refine ⟨o_a20, ?_⟩
        intro x31 ex31
        have r_x31 : (0 : Int32) ≤ x31 ∧ x31 ≤ (8 : Int32) := by rw [ex31]; exact nu 18 rfl hI o_a20
        have d_x31 := ex31
        refine ⟨fun c32 => ?_, fun c32 => ?_⟩
        · refine u_X11_readAll_63 ?_
          refine ⟨o_v0, ?_⟩
          obtain ⟨iv33, hiv33⟩ : ∃ z : Int32, z = kv16 := ⟨_, rfl⟩
          have d_iv33 := hiv33.trans d_kv16
          have do33_iv33 := d_iv33
          have do33_x18 := d_x18
          have do33_kv15 := d_kv15
          refine m_X11_flaw hI o_v0 (qr6 i1u5 c17 q_x18 c19 r_x21 c22 r_x31 c32) hG (by have t : x18 = 5 → 0 < kv15 := (qr7 i1u5 p_k5u5 c17 q_x18 c19 r_x21 c22 r_x31 c32); rw [d_x18, d_kv15] at t; exact t) (fun S35 hJ g36 fc37 p_S35 => ?_)
          obtain ⟨hG, pg0_S35, pg1_S35, pg2_S35, pg3_S35⟩ := p_S35
          have hn := rn_fr fc37 g36 hI o_v0 (by decide) hn
          have hI := hJ
          have d_kv16 := d_kv16.trans (fri_at fc37 (by decide) (by decide) o_v0).symm
          have d_x21 := d_x21.trans (fri_at fc37 (by decide) (by decide) o_a20).symm
          have d_x31 := d_x31.trans (fri_at fc37 (by decide) (by decide) o_a20).symm
          have ea20 := (frr_at fc37 (by decide) (by decide) o_v0).trans ea20
          have f0 := fri_tr (S := S6) g0 f0 fc37 (by decide) (by decide)
          have o_a20 := gr_ob g36 o_a20
          have o_v0 := gr_ob g36 o_v0
          have g0 := gr_tr (T := S6) g0 g36
          obtain ⟨kv38, d_kv38⟩ : ∃ z : Int32, z = fI S35 v0 9 := ⟨_, rfl⟩
          obtain ⟨kv39, d_kv39⟩ : ∃ z : Int32, z = fI S35 v0 13 := ⟨_, rfl⟩
          have ph0_S35 : kv38 = 5 → 0 < kv39 := by rw [d_kv38, d_kv39]; exact pg0_S35
          have ph1_S35 : kv38 = 5 ∨ ¬ x18 = 5 := by rw [do33_x18, d_kv38]; exact pg1_S35
          have ph2_S35 : iv33 ≤ kv16 ∧ (kv38 = 4 → iv33 < kv16 ∨ x18 = 4) := by rw [do33_iv33, do33_x18, d_kv16, d_kv38]; exact pg2_S35
          have ph3_S35 : kv38 = 5 := by rw [d_kv38]; exact pg3_S35
          intro _
          exact hq _ hI g0 f0 ⟨hG, hn, (ra_l d_kv39 (qr8 i1u5 p_k5u5 c17 q_x18 c19 r_x21 c22 r_x31 c32 ph0_S35 ph1_S35 ph3_S35)), (by have t : kv38 = 5 → 0 < kv39 := (qr9 i1u5 p_k5u5 c17 q_x18 c19 r_x21 c22 r_x31 c32 ph0_S35 ph1_S35 ph3_S35); rw [d_kv38, d_kv39] at t; exact t)⟩
        · refine ⟨a20, ea20, ?_⟩
          refine ⟨o_a20, ?_⟩
          intro x41 ex41
          have r_x41 : (0 : Int32) ≤ x41 ∧ x41 ≤ (4 : Int32) := by rw [ex41]; exact nu 20 rfl hI o_a20
          have d_x41 := ex41
          refine ⟨fun c42 => ?_, fun c42 => ?_⟩
          · exact hq _ hI g0 f0 ⟨hG, hn, (ra_r ea20 d_x21 (qr10 i1u5 c17 q_x18 c19 r_x21 c22 r_x31 c32 r_x41 c42)), (by have t : x18 = 5 → 0 < kv15 := (qr11 i1u5 p_k5u5 c17 q_x18 c19 r_x21 c22 r_x31 c32 r_x41 c42); rw [d_x18, d_kv15] at t; exact t)⟩
          · refine u_X11_readAll_63 ?_
            refine ⟨o_v0, ?_⟩
            obtain ⟨iv43, hiv43⟩ : ∃ z : Int32, z = kv16 := ⟨_, rfl⟩
            have d_iv43 := hiv43.trans d_kv16
            have do43_iv43 := d_iv43
            have do43_x18 := d_x18
            have do43_kv15 := d_kv15
            refine m_X11_flaw hI o_v0 (qr12 i1u5 c17 q_x18 c19 r_x21 c22 r_x31 c32 r_x41 c42) hG (by have t : x18 = 5 → 0 < kv15 := (qr13 i1u5 p_k5u5 c17 q_x18 c19 r_x21 c22 r_x31 c32 r_x41 c42); rw [d_x18, d_kv15] at t; exact t) (fun S45 hJ g46 fc47 p_S45 => ?_)
            obtain ⟨hG, pg0_S45, pg1_S45, pg2_S45, pg3_S45⟩ := p_S45
            have hn := rn_fr fc47 g46 hI o_v0 (by decide) hn
            have hI := hJ
            have d_kv16 := d_kv16.trans (fri_at fc47 (by decide) (by decide) o_v0).symm
            have d_x21 := d_x21.trans (fri_at fc47 (by decide) (by decide) o_a20).symm
            have d_x31 := d_x31.trans (fri_at fc47 (by decide) (by decide) o_a20).symm
            have d_x41 := d_x41.trans (fri_at fc47 (by decide) (by decide) o_a20).symm
            have ea20 := (frr_at fc47 (by decide) (by decide) o_v0).trans ea20
            have f0 := fri_tr (S := S6) g0 f0 fc47 (by decide) (by decide)
            have o_a20 := gr_ob g46 o_a20
            have o_v0 := gr_ob g46 o_v0
            have g0 := gr_tr (T := S6) g0 g46
            obtain ⟨kv48, d_kv48⟩ : ∃ z : Int32, z = fI S45 v0 9 := ⟨_, rfl⟩
            obtain ⟨kv49, d_kv49⟩ : ∃ z : Int32, z = fI S45 v0 13 := ⟨_, rfl⟩
            have ph0_S45 : kv48 = 5 → 0 < kv49 := by rw [d_kv48, d_kv49]; exact pg0_S45
            have ph1_S45 : kv48 = 5 ∨ ¬ x18 = 5 := by rw [do43_x18, d_kv48]; exact pg1_S45
            have ph2_S45 : iv43 ≤ kv16 ∧ (kv48 = 4 → iv43 < kv16 ∨ x18 = 4) := by rw [do43_iv43, do43_x18, d_kv16, d_kv48]; exact pg2_S45
            have ph3_S45 : kv48 = 5 := by rw [d_kv48]; exact pg3_S45
            intro _
            exact hq _ hI g0 f0 ⟨hG, hn, (ra_l d_kv49 (qr14 i1u5 p_k5u5 c17 q_x18 c19 r_x21 c22 r_x31 c32 r_x41 c42 ph0_S45 ph1_S45 ph3_S45)), (by have t : kv48 = 5 → 0 < kv49 := (qr15 i1u5 p_k5u5 c17 q_x18 c19 r_x21 c22 r_x31 c32 r_x41 c42 ph0_S45 ph1_S45 ph3_S45); rw [d_kv48, d_kv49] at t; exact t)⟩
    · obtain ⟨iv50, hiv50⟩ : ∃ z : Int32, z = kv16 := ⟨_, rfl⟩
      have d_iv50 := hiv50.trans d_kv16
      have do50_iv50 := d_iv50
      have do50_x18 := d_x18
      have do50_kv15 := d_kv15
      refine m_X11_flaw hI o_v0 (qr16 i1u5 c17 q_x18 c19) hG (by have t : x18 = 5 → 0 < kv15 := (qr17 i1u5 p_k5u5 c17 q_x18 c19); rw [d_x18, d_kv15] at t; exact t) (fun S52 hJ g53 fc54 p_S52 => ?_)
      obtain ⟨hG, pg0_S52, pg1_S52, pg2_S52, pg3_S52⟩ := p_S52
      have hn := rn_fr fc54 g53 hI o_v0 (by decide) hn
      have hI := hJ
      have d_kv16 := d_kv16.trans (fri_at fc54 (by decide) (by decide) o_v0).symm
      have f0 := fri_tr (S := S6) g0 f0 fc54 (by decide) (by decide)
      have o_v0 := gr_ob g53 o_v0
      have g0 := gr_tr (T := S6) g0 g53
      obtain ⟨kv55, d_kv55⟩ : ∃ z : Int32, z = fI S52 v0 9 := ⟨_, rfl⟩
      obtain ⟨kv56, d_kv56⟩ : ∃ z : Int32, z = fI S52 v0 13 := ⟨_, rfl⟩
      have ph0_S52 : kv55 = 5 → 0 < kv56 := by rw [d_kv55, d_kv56]; exact pg0_S52
      have ph1_S52 : kv55 = 5 ∨ ¬ x18 = 5 := by rw [do50_x18, d_kv55]; exact pg1_S52
      have ph2_S52 : iv50 ≤ kv16 ∧ (kv55 = 4 → iv50 < kv16 ∨ x18 = 4) := by rw [do50_iv50, do50_x18, d_kv16, d_kv55]; exact pg2_S52
      have ph3_S52 : kv55 = 5 := by rw [d_kv55]; exact pg3_S52
      intro _
      refine u_X11_readAll_33 ?_
      refine ⟨o_v0, ?_⟩
      obtain ⟨a57, ea57, o_a57, -⟩ := id hG
      refine ⟨a57, ea57, ?_⟩
      refine ⟨o_a57, ?_⟩
      intro x58 ex58
      have r_x58 : (0 : Int32) ≤ x58 ∧ x58 ≤ (60 : Int32) := by rw [ex58]; exact nu 16 rfl hI o_a57
      have d_x58 := ex58
      refine ⟨fun c59 => ?_, fun c59 => ?_⟩
      · refine u_X11_readAll_63 ?_
        refine ⟨o_v0, ?_⟩
        obtain ⟨iv60, hiv60⟩ : ∃ z : Int32, z = kv16 := ⟨_, rfl⟩
        have d_iv60 := hiv60.trans d_kv16
        have do60_iv60 := d_iv60
        have do60_kv55 := d_kv55
        have do60_kv56 := d_kv56
        refine m_X11_flaw hI o_v0 (qr18 i1u5 c17 q_x18 c19 ph1_S52 ph3_S52 r_x58 c59) hG (by have t : kv55 = 5 → 0 < kv56 := (qr19 i1u5 p_k5u5 c17 q_x18 c19 ph0_S52 ph1_S52 ph3_S52 r_x58 c59); rw [d_kv55, d_kv56] at t; exact t) (fun S62 hJ g63 fc64 p_S62 => ?_)
        obtain ⟨hG, pg0_S62, pg1_S62, pg2_S62, pg3_S62⟩ := p_S62
        have hn := rn_fr fc64 g63 hI o_v0 (by decide) hn
        have hI := hJ
        have d_kv16 := d_kv16.trans (fri_at fc64 (by decide) (by decide) o_v0).symm
        have d_x58 := d_x58.trans (fri_at fc64 (by decide) (by decide) o_a57).symm
        have ea57 := (frr_at fc64 (by decide) (by decide) o_v0).trans ea57
        have f0 := fri_tr (S := S52) g0 f0 fc64 (by decide) (by decide)
        have o_a57 := gr_ob g63 o_a57
        have o_v0 := gr_ob g63 o_v0
        have g0 := gr_tr (T := S52) g0 g63
        obtain ⟨kv65, d_kv65⟩ : ∃ z : Int32, z = fI S62 v0 9 := ⟨_, rfl⟩
        obtain ⟨kv66, d_kv66⟩ : ∃ z : Int32, z = fI S62 v0 13 := ⟨_, rfl⟩
        have ph0_S62 : kv65 = 5 → 0 < kv66 := by rw [d_kv65, d_kv66]; exact pg0_S62
        have ph1_S62 : kv65 = 5 ∨ ¬ kv55 = 5 := by rw [do60_kv55, d_kv65]; exact pg1_S62
        have mo67 : kv65 = 5 ∨ ¬ x18 = 5 := ph1_S62.elim Or.inl (fun h => Or.inr (ph1_S52.resolve_left h))
        have ph2_S62 : iv60 ≤ kv16 ∧ (kv65 = 4 → iv60 < kv16 ∨ kv55 = 4) := by rw [do60_iv60, do60_kv55, d_kv16, d_kv65]; exact pg2_S62
        have ph3_S62 : kv65 = 5 := by rw [d_kv65]; exact pg3_S62
        intro _
        exact hq _ hI g0 f0 ⟨hG, hn, (ra_l d_kv66 (qr20 i1u5 p_k5u5 c17 q_x18 c19 ph0_S52 mo67 ph3_S52 r_x58 c59 ph0_S62 ph1_S62 ph3_S62)), (by have t : kv65 = 5 → 0 < kv66 := (qr21 i1u5 p_k5u5 c17 q_x18 c19 ph0_S52 mo67 ph3_S52 r_x58 c59 ph0_S62 ph1_S62 ph3_S62); rw [d_kv65, d_kv66] at t; exact t)⟩
      · refine ⟨a57, ea57, ?_⟩
        refine ⟨o_a57, ?_⟩
        intro x69 ex69
        have r_x69 : (0 : Int32) ≤ x69 ∧ x69 ≤ (8 : Int32) := by rw [ex69]; exact nu 18 rfl hI o_a57
        have d_x69 := ex69
        refine ⟨fun c70 => ?_, fun c70 => ?_⟩
        · refine u_X11_readAll_63 ?_
          refine ⟨o_v0, ?_⟩
          obtain ⟨iv71, hiv71⟩ : ∃ z : Int32, z = kv16 := ⟨_, rfl⟩
          have d_iv71 := hiv71.trans d_kv16
          have do71_iv71 := d_iv71
          have do71_kv55 := d_kv55
          have do71_kv56 := d_kv56
          refine m_X11_flaw hI o_v0 (qr22 i1u5 c17 q_x18 c19 ph1_S52 ph3_S52 r_x58 c59 r_x69 c70) hG (by have t : kv55 = 5 → 0 < kv56 := (qr23 i1u5 p_k5u5 c17 q_x18 c19 ph0_S52 ph1_S52 ph3_S52 r_x58 c59 r_x69 c70); rw [d_kv55, d_kv56] at t; exact t) (fun S73 hJ g74 fc75 p_S73 => ?_)
          obtain ⟨hG, pg0_S73, pg1_S73, pg2_S73, pg3_S73⟩ := p_S73
          have hn := rn_fr fc75 g74 hI o_v0 (by decide) hn
          have hI := hJ
          have d_kv16 := d_kv16.trans (fri_at fc75 (by decide) (by decide) o_v0).symm
          have d_x58 := d_x58.trans (fri_at fc75 (by decide) (by decide) o_a57).symm
          have d_x69 := d_x69.trans (fri_at fc75 (by decide) (by decide) o_a57).symm
          have ea57 := (frr_at fc75 (by decide) (by decide) o_v0).trans ea57
          have f0 := fri_tr (S := S52) g0 f0 fc75 (by decide) (by decide)
          have o_a57 := gr_ob g74 o_a57
          have o_v0 := gr_ob g74 o_v0
          have g0 := gr_tr (T := S52) g0 g74
          obtain ⟨kv76, d_kv76⟩ : ∃ z : Int32, z = fI S73 v0 9 := ⟨_, rfl⟩
          obtain ⟨kv77, d_kv77⟩ : ∃ z : Int32, z = fI S73 v0 13 := ⟨_, rfl⟩
          have ph0_S73 : kv76 = 5 → 0 < kv77 := by rw [d_kv76, d_kv77]; exact pg0_S73
          have ph1_S73 : kv76 = 5 ∨ ¬ kv55 = 5 := by rw [do71_kv55, d_kv76]; exact pg1_S73
          have mo78 : kv76 = 5 ∨ ¬ x18 = 5 := ph1_S73.elim Or.inl (fun h => Or.inr (ph1_S52.resolve_left h))
          have ph2_S73 : iv71 ≤ kv16 ∧ (kv76 = 4 → iv71 < kv16 ∨ kv55 = 4) := by rw [do71_iv71, do71_kv55, d_kv16, d_kv76]; exact pg2_S73
          have ph3_S73 : kv76 = 5 := by rw [d_kv76]; exact pg3_S73
          intro _
          exact hq _ hI g0 f0 ⟨hG, hn, (ra_l d_kv77 (qr24 i1u5 p_k5u5 c17 q_x18 c19 ph0_S52 mo78 ph3_S52 r_x58 c59 r_x69 c70 ph0_S73 ph1_S73 ph3_S73)), (by have t : kv76 = 5 → 0 < kv77 := (qr25 i1u5 p_k5u5 c17 q_x18 c19 ph0_S52 mo78 ph3_S52 r_x58 c59 r_x69 c70 ph0_S73 ph1_S73 ph3_S73); rw [d_kv76, d_kv77] at t; exact t)⟩
        · refine ⟨a57, ea57, ?_⟩
          refine ⟨o_a57, ?_⟩
          intro x80 ex80
          have r_x80 : (0 : Int32) ≤ x80 ∧ x80 ≤ (4 : Int32) := by rw [ex80]; exact nu 20 rfl hI o_a57
          have d_x80 := ex80
          refine ⟨fun c81 => ?_, fun c81 => ?_⟩
          · exact hq _ hI g0 f0 ⟨hG, hn, (ra_l d_kv56 (qr26 i1u5 p_k5u5 c17 q_x18 c19 ph0_S52 ph1_S52 ph3_S52 r_x58 c59 r_x69 c70 r_x80 c81)), (by have t : kv55 = 5 → 0 < kv56 := (qr27 i1u5 p_k5u5 c17 q_x18 c19 ph0_S52 ph1_S52 ph3_S52 r_x58 c59 r_x69 c70 r_x80 c81); rw [d_kv55, d_kv56] at t; exact t)⟩
          · refine u_X11_readAll_63 ?_
            refine ⟨o_v0, ?_⟩
            obtain ⟨iv82, hiv82⟩ : ∃ z : Int32, z = kv16 := ⟨_, rfl⟩
            have d_iv82 := hiv82.trans d_kv16
            have do82_iv82 := d_iv82
            have do82_kv55 := d_kv55
            have do82_kv56 := d_kv56
            refine m_X11_flaw hI o_v0 (qr28 i1u5 c17 q_x18 c19 ph1_S52 ph3_S52 r_x58 c59 r_x69 c70 r_x80 c81) hG (by have t : kv55 = 5 → 0 < kv56 := (qr29 i1u5 p_k5u5 c17 q_x18 c19 ph0_S52 ph1_S52 ph3_S52 r_x58 c59 r_x69 c70 r_x80 c81); rw [d_kv55, d_kv56] at t; exact t) (fun S84 hJ g85 fc86 p_S84 => ?_)
            obtain ⟨hG, pg0_S84, pg1_S84, pg2_S84, pg3_S84⟩ := p_S84
            have hn := rn_fr fc86 g85 hI o_v0 (by decide) hn
            have hI := hJ
            have d_kv16 := d_kv16.trans (fri_at fc86 (by decide) (by decide) o_v0).symm
            have d_x58 := d_x58.trans (fri_at fc86 (by decide) (by decide) o_a57).symm
            have d_x69 := d_x69.trans (fri_at fc86 (by decide) (by decide) o_a57).symm
            have d_x80 := d_x80.trans (fri_at fc86 (by decide) (by decide) o_a57).symm
            have ea57 := (frr_at fc86 (by decide) (by decide) o_v0).trans ea57
            have f0 := fri_tr (S := S52) g0 f0 fc86 (by decide) (by decide)
            have o_a57 := gr_ob g85 o_a57
            have o_v0 := gr_ob g85 o_v0
            have g0 := gr_tr (T := S52) g0 g85
            obtain ⟨kv87, d_kv87⟩ : ∃ z : Int32, z = fI S84 v0 9 := ⟨_, rfl⟩
            obtain ⟨kv88, d_kv88⟩ : ∃ z : Int32, z = fI S84 v0 13 := ⟨_, rfl⟩
            have ph0_S84 : kv87 = 5 → 0 < kv88 := by rw [d_kv87, d_kv88]; exact pg0_S84
            have ph1_S84 : kv87 = 5 ∨ ¬ kv55 = 5 := by rw [do82_kv55, d_kv87]; exact pg1_S84
            have mo89 : kv87 = 5 ∨ ¬ x18 = 5 := ph1_S84.elim Or.inl (fun h => Or.inr (ph1_S52.resolve_left h))
            have ph2_S84 : iv82 ≤ kv16 ∧ (kv87 = 4 → iv82 < kv16 ∨ kv55 = 4) := by rw [do82_iv82, do82_kv55, d_kv16, d_kv87]; exact pg2_S84
            have ph3_S84 : kv87 = 5 := by rw [d_kv87]; exact pg3_S84
            intro _
            exact hq _ hI g0 f0 ⟨hG, hn, (ra_l d_kv88 (qr30 i1u5 p_k5u5 c17 q_x18 c19 ph0_S52 mo89 ph3_S52 r_x58 c59 r_x69 c70 r_x80 c81 ph0_S84 ph1_S84 ph3_S84)), (by have t : kv87 = 5 → 0 < kv88 := (qr31 i1u5 p_k5u5 c17 q_x18 c19 ph0_S52 mo89 ph3_S52 r_x58 c59 r_x69 c70 r_x80 c81 ph0_S84 ph1_S84 ph3_S84); rw [d_kv87, d_kv88] at t; exact t)⟩
  · refine ⟨o_v0, ?_⟩
    have do89_kv16 := d_kv16
    have do89_kv14 := d_kv14
    have do89_kv15 := d_kv15
    refine m_X11_readLine hI o_v0 hG hn (by have t : kv14 = 5 → 0 < kv15 := (qr32 i1u5 p_k5u5 c17); rw [d_kv14, d_kv15] at t; exact t) (fun S91 hJ g92 fc93 p_S91 => ?_)
    obtain ⟨hG, hn, pg0_S91, pg1_S91⟩ := p_S91
    have hI := hJ
    have f0 := fri_tr (S := S6) g0 f0 fc93 (by decide) (by decide)
    have fL8 := fri_tr (S := S6) gL7 fL8 fc93 (by decide) (by decide)
    have o_v0 := gr_ob g92 o_v0
    have g0 := gr_tr (T := S6) g0 g92
    have gL7 := gr_tr (T := S6) gL7 g92
    obtain ⟨kv94, d_kv94⟩ : ∃ z : Int32, z = fI S91 v0 9 := ⟨_, rfl⟩
    obtain ⟨kv95, d_kv95⟩ : ∃ z : Int32, z = fI S91 v0 13 := ⟨_, rfl⟩
    have ph0_S91 : kv94 = 5 → 0 < kv95 := by rw [d_kv94, d_kv95]; exact pg0_S91
    obtain ⟨kv96, d_kv96⟩ : ∃ z : Int32, z = fI S91 v0 8 := ⟨_, rfl⟩
    have r_kv96 : (0 : Int32) ≤ kv96 ∧ kv96 ≤ (900 : Int32) := by rw [d_kv96]; exact nu 25 rfl hI o_v0
    have ph1_S91 : kv16 ≤ kv96 ∧ (kv94 = 4 → kv16 < kv96) := by rw [do89_kv16, d_kv96, d_kv94]; exact pg1_S91
    intro _
    obtain ⟨iv97, hiv97⟩ : ∃ z : Int32, z = kv95 := ⟨_, rfl⟩
    have d_iv97 := hiv97.trans d_kv95
    have do97_kv96 := d_kv96
    have do97_kv94 := d_kv94
    have do97_iv97 := d_iv97
    refine m_X11_eatsSign hI o_v0 hG (by have t : kv94 = 5 → 0 < kv95 := (qr33 i1u5 c17 ph0_S91); rw [d_kv94, d_kv95] at t; exact t) (fun x98 S99 hJ g100 fc101 b_x98 p_x98 => ?_)
    obtain ⟨hG, pg0_S99, pg1_S99, pg2_S99, pg3_S99⟩ := p_x98
    have hn := rn_fr fc101 g100 hI o_v0 (by decide) hn
    have hI := hJ
    have d_kv95 := d_kv95.trans (fri_at fc101 (by decide) (by decide) o_v0).symm
    have f0 := fri_tr (S := S91) g0 f0 fc101 (by decide) (by decide)
    have fL8 := fri_tr (S := S91) gL7 fL8 fc101 (by decide) (by decide)
    have o_v0 := gr_ob g100 o_v0
    have g0 := gr_tr (T := S91) g0 g100
    have gL7 := gr_tr (T := S91) gL7 g100
    obtain ⟨kv102, d_kv102⟩ : ∃ z : Int32, z = fI S99 v0 9 := ⟨_, rfl⟩
    have ph0_S99 : kv102 = 5 → 0 < kv95 := by rw [d_kv102, d_kv95]; exact pg0_S99
    have ph1_S99 : kv102 = 5 ∨ ¬ kv94 = 5 := by rw [do97_kv94, d_kv102]; exact pg1_S99
    obtain ⟨kv103, d_kv103⟩ : ∃ z : Int32, z = fI S99 v0 8 := ⟨_, rfl⟩
    have r_kv103 : (0 : Int32) ≤ kv103 ∧ kv103 ≤ (900 : Int32) := by rw [d_kv103]; exact nu 25 rfl hI o_v0
    have ph2_S99 : kv96 ≤ kv103 ∧ (kv102 = 4 → kv96 < kv103 ∨ kv94 = 4) := by rw [do97_kv96, do97_kv94, d_kv103, d_kv102]; exact pg2_S99
    have ph3_S99 : x98 = 0 ∨ kv94 = 4 := by rw [do97_kv94]; exact pg3_S99
    intro _ _
    have bb_x98 : x98 = 0 ∨ x98 = 1 := b_x98
    exact ih13 _ _ _ ⟨hI, gL7, fL8, rfl, hG, hn, (qr34 i1u5 c17 ph1_S99 ph3_S99 bb_x98), (by rw [← d_kv102, ← d_kv95]; exact (qr35 i1u5 c17 ph0_S91 hiv97 ph0_S99 ph1_S99 ph3_S99 bb_x98))⟩ (by rw [← d0_kv16, ← d_kv103]; exact mu_ra (qr36 i1u5 r_kv16 c17 r_kv96 ph1_S91 ph1_S99 r_kv103 ph2_S99 ph3_S99 bb_x98) (qr37 i1u5 r_kv16 c17 r_kv96 ph1_S91 ph1_S99 r_kv103 ph2_S99 ph3_S99 bb_x98) (qr38 i1u5 c17) (qr39 i1u5 r_kv16 c17 r_kv96 ph1_S91 ph1_S99 r_kv103 ph2_S99 ph3_S99 bb_x98))
end
section
/-! the least ways of the reference -/
def gs (roads : Int32) (L : Nat → Int32) (t m y : Int32) : Prop := ∃ r d v u : Int32, y = -1 ∨ (y = -2 ∧ m < t) ∨ (0 ≤ r ∧ r < roads ∧ 0 ≤ d ∧ d ≤ 1 ∧ 1 ≤ v ∧ v ≤ 9 ∧ y = 100 * r + 10 * d + v ∧ u = (L r.toNatClampNeg + v - 1) / v ∧ m + u ≤ t)
theorem gs_stop {roads t m : Int32} {L : Nat → Int32} : gs roads L t m (-1) := ⟨0, 0, 0, 0, Or.inl rfl⟩
theorem gs_wait {roads t m : Int32} {L : Nat → Int32} (h : m < t) : gs roads L t m (-2) := ⟨0, 0, 0, 0, Or.inr (Or.inl ⟨rfl, h⟩)⟩
theorem gs_go {roads t m r d v u y : Int32} {L : Nat → Int32} (h1 : 0 ≤ r ∧ r < roads) (h2 : 0 ≤ d ∧ d ≤ 1) (h3 : 1 ≤ v ∧ v ≤ 9) (h4 : y = 100 * r + 10 * d + v) (h5 : u = (L r.toNatClampNeg + v - 1) / v) (h6 : m + u ≤ t) : gs roads L t m y := ⟨r, d, v, u, Or.inr (Or.inr ⟨h1.1, h1.2, h2.1, h2.2, h3.1, h3.2, h4, h5, h6⟩)⟩
/-- all spots behind minute m, and those of minute m up to place p, are sound -/
def SBD (S : HS) (o : Nat) (t m p : Int32) : Prop := ∀ w b c, fR S o 3 = some w → fR S o 18 = some b → fR S w 16 = some c → ∀ p' m' : Int32, 0 ≤ p' → p' < 8 → p' < fI S w 2 → 0 ≤ m' → m' ≤ t → (m < m' ∨ (m' = m ∧ p' ≤ p)) → gs (fI S w 3) (fI S c) t m' (fI S b (8 * m' + p').toNatClampNeg)
/-- at most one step was written -/
def TK (S T : HS) (o : Nat) (h y : Int32) : Prop := (∀ b, fR T o 18 = some b → ∀ z, fI T b z = fI S b z ∨ (z = h.toNatClampNeg ∧ fI T b z = y)) ∧ ∀ w c, ob T w 10 → fR T w 16 = some c → fI T c = fI S c
def WYQ (S : HS) (o : Nat) (p m : Int32) : Prop := ∃ (t : Int32) (w : Nat), SBD S o t (-1) (-1) ∧ 0 ≤ m ∧ m ≤ t ∧ t ≤ 400 ∧ fR S o 3 = some w ∧ 0 ≤ p ∧ p < fI S w 2
theorem i32b {x : Int32} {n : Int} {hi : Int32} (h : 0 ≤ x ∧ x ≤ hi) (e : hi.toInt = n) : 0 ≤ x.toInt ∧ x.toInt ≤ n := by
  have a := Int32.le_iff_toInt_le.mp h.1
  have b := Int32.le_iff_toInt_le.mp h.2
  have z : (0 : Int32).toInt = 0 := by decide
  omega
theorem sp_int {m p : Int32} (hm : 0 ≤ m.toInt ∧ m.toInt ≤ 400) (hp : 0 ≤ p.toInt ∧ p.toInt ≤ 7) : (8 * m + p).toInt = 8 * m.toInt + p.toInt := by
  have e8 : (8 : Int32).toInt = 8 := by decide
  have a : (8 * m : Int32).toInt = 8 * m.toInt := by
    rw [Int32.toInt_mul, e8]
    exact Int.bmod_eq_of_le (by omega) (by omega)
  rw [Int32.toInt_add, a]
  exact Int.bmod_eq_of_le (by omega) (by omega)
theorem sp_rng {m p : Int32} (hm : 0 ≤ m ∧ m ≤ 400) (hp : 0 ≤ p ∧ p < 8) : 0 ≤ 8 * m + p ∧ 8 * m + p < 3208 := by
  have a := i32b hm (n := 400) (by decide)
  have c0 := Int32.le_iff_toInt_le.mp hp.1
  have c1 := Int32.lt_iff_toInt_lt.mp hp.2
  have e0 : (0 : Int32).toInt = 0 := by decide
  have e8 : (8 : Int32).toInt = 8 := by decide
  have e3 : (3208 : Int32).toInt = 3208 := by decide
  have e := sp_int (p := p) a ⟨by omega, by omega⟩
  exact ⟨Int32.le_iff_toInt_le.mpr (by rw [e]; omega), Int32.lt_iff_toInt_lt.mpr (by rw [e]; omega)⟩
theorem spot_inj {m m' p p' : Int32} (hm : 0 ≤ m ∧ m ≤ 400) (hm' : 0 ≤ m' ∧ m' ≤ 400) (hp : 0 ≤ p ∧ p ≤ 7) (hp' : 0 ≤ p' ∧ p' ≤ 7) (h : (8 * m' + p').toNatClampNeg = (8 * m + p).toNatClampNeg) : m' = m ∧ p' = p := by
  have a := i32b hm (n := 400) (by decide)
  have b := i32b hm' (n := 400) (by decide)
  have c := i32b hp (n := 7) (by decide)
  have d := i32b hp' (n := 7) (by decide)
  have e1 := sp_int a c
  have e2 := sp_int b d
  have h' : (8 * m' + p').toInt.toNat = (8 * m + p).toInt.toNat := h
  rw [e1, e2] at h'
  exact ⟨Int32.toInt_inj.mp (by omega), Int32.toInt_inj.mp (by omega)⟩
theorem lt8 {p : Int32} (h : p < 8) : p ≤ 7 := by
  have a := Int32.lt_iff_toInt_lt.mp h
  have e8 : (8 : Int32).toInt = 8 := by decide
  have e7 : (7 : Int32).toInt = 7 := by decide
  exact Int32.le_iff_toInt_le.mpr (by omega)
theorem cd_int {R D V : Int32} (hR : 0 ≤ R ∧ R ≤ 11) (hD : 0 ≤ D ∧ D ≤ 1) (hV : 1 ≤ V ∧ V ≤ 9) : (100 * R + 10 * D + V).toInt = 100 * R.toInt + 10 * D.toInt + V.toInt ∧ (0 ≤ R.toInt ∧ R.toInt ≤ 11) ∧ (0 ≤ D.toInt ∧ D.toInt ≤ 1) ∧ (1 ≤ V.toInt ∧ V.toInt ≤ 9) := by
  have a := i32b hR (n := 11) (by decide)
  have b := i32b hD (n := 1) (by decide)
  have c1 := Int32.le_iff_toInt_le.mp hV.1
  have c2 := Int32.le_iff_toInt_le.mp hV.2
  have e1 : (1 : Int32).toInt = 1 := by decide
  have e9 : (9 : Int32).toInt = 9 := by decide
  have e100 : (100 : Int32).toInt = 100 := by decide
  have e10 : (10 : Int32).toInt = 10 := by decide
  have m1 : (100 * R : Int32).toInt = 100 * R.toInt := by
    rw [Int32.toInt_mul, e100]
    exact Int.bmod_eq_of_le (by omega) (by omega)
  have m2 : (10 * D : Int32).toInt = 10 * D.toInt := by
    rw [Int32.toInt_mul, e10]
    exact Int.bmod_eq_of_le (by omega) (by omega)
  have s1 : (100 * R + 10 * D : Int32).toInt = 100 * R.toInt + 10 * D.toInt := by
    rw [Int32.toInt_add, m1, m2]
    exact Int.bmod_eq_of_le (by omega) (by omega)
  refine ⟨?_, a, b, by omega, by omega⟩
  rw [Int32.toInt_add, s1]
  exact Int.bmod_eq_of_le (by omega) (by omega)
section Wy
variable {S T : HS} {a b c w o j k q i : Nat} {t m p h y : Int32}
theorem tk_rf (S : HS) (o : Nat) (h y : Int32) : TK S S o h y := ⟨fun _ _ _ => Or.inl rfl, fun _ _ _ _ => rfl⟩
theorem tk_J {S0 : HS} {v : Int64} (E : T = sJ S a j v) (g : TK S0 S o h y) : TK S0 T o h y := by rw [E]; exact g
theorem tk_17 {S0 : HS} {v : Int32} (E : T = sI S a j v) (hI : IV S) (oo : ob S o 11) (e : fR S o 17 = some a) (g : TK S0 S o h y) : TK S0 T o h y := by
  rw [E]
  refine ⟨fun d hd z => ?_, fun w d ow hd => ?_⟩
  · have hd' : fR S o 18 = some d := hd
    rw [show fI (sI S a j v) d = fI S d from u2_row _ _ (fun z => by
      have := (hI.2.2.2.2.1 o 11 17 o 11 18 a oo (by omega) oo (by decide) e (z ▸ hd')).2
      omega)]
    exact g.1 d hd' z
  · have ow' : ob S w 10 := ow
    have hd' : fR S w 16 = some d := hd
    rw [show fI (sI S a j v) d = fI S d from u2_row _ _ (fun z => by
      have e1 := (hI.2.2.2.2.1 o 11 17 w 10 16 a oo (by omega) ow' (by decide) e (z ▸ hd')).1
      have := ob_inj (show ob S w 11 by rw [← e1]; exact oo) ow'
      omega)]
    exact g.2 w d ow' hd'
theorem tk_18 {S0 : HS} (E : T = sI S a h.toNatClampNeg y) (hI : IV S) (oo : ob S o 11) (e : fR S o 18 = some a) (g : TK S0 S o h y) : TK S0 T o h y := by
  rw [E]
  refine ⟨fun d hd z => ?_, fun w d ow hd => ?_⟩
  · have hd' : fR S o 18 = some d := hd
    obtain rfl : a = d := Option.some.inj (e.symm.trans hd')
    by_cases cz : z = h.toNatClampNeg
    · exact Or.inr ⟨cz, by rw [cz]; exact u2_self _ _ _ _⟩
    · rw [show fI (sI S a h.toNatClampNeg y) a z = fI S a z from u2_ne _ _ (fun t => cz t.2)]
      exact g.1 a hd' z
  · have ow' : ob S w 10 := ow
    have hd' : fR S w 16 = some d := hd
    rw [show fI (sI S a h.toNatClampNeg y) d = fI S d from u2_row _ _ (fun z => by
      have e1 := (hI.2.2.2.2.1 o 11 18 w 10 16 a oo (by omega) ow' (by decide) e (z ▸ hd')).1
      have := ob_inj (show ob S w 11 by rw [← e1]; exact oo) ow'
      omega)]
    exact g.2 w d ow' hd'
theorem sb_tk {wi wr : List (Nat × Nat)} (hI : IV S) (oo : ob S o 11) (fc : FRI wi wr S T) (g : Gr S T) (hn : (11, 3) ∉ wr ∧ (11, 18) ∉ wr ∧ (10, 16) ∉ wr ∧ (10, 2) ∉ wi ∧ (10, 3) ∉ wi) (tk : TK S T o h y) (hh : h = 8 * m + p) (hm : 0 ≤ m ∧ m ≤ 400) (hp : 0 ≤ p ∧ p < 8) (ht : t ≤ 400) (ew : fR S o 3 = some w) (ec : fR S w 16 = some c) (hg : gs (fI S w 3) (fI S c) t m y) (hS : SBD S o t m p) : SBD T o t m p := by
  have ow := ml_ob hI oo ew
  intro w' b c' ew' eb ec' p' m' h0 h8 hpl hm0 hmt hd
  rw [frr_at fc (by decide) hn.1 oo] at ew'
  rw [frr_at fc (by decide) hn.2.1 oo] at eb
  obtain rfl : w = w' := Option.some.inj (ew.symm.trans ew')
  have ec2 := ec'
  rw [frr_at fc (by decide) hn.2.2.1 ow] at ec'
  obtain rfl : c = c' := Option.some.inj (ec.symm.trans ec')
  have i2 := fri_at fc (by decide) hn.2.2.2.1 ow
  have i3 := fri_at fc (by decide) hn.2.2.2.2 ow
  rw [i2] at hpl
  rw [i3, tk.2 w c (gr_ob g ow) ec2]
  have eb2 : fR T o 18 = some b := (frr_at fc (by decide) hn.2.1 oo).trans eb
  rcases tk.1 b eb2 (8 * m' + p').toNatClampNeg with z | ⟨z1, z2⟩
  · rw [z]
    exact hS w b c ew eb ec p' m' h0 h8 hpl hm0 hmt hd
  · rw [hh] at z1
    obtain ⟨rfl, rfl⟩ := spot_inj hm ⟨hm0, Int32.le_trans hmt ht⟩ ⟨hp.1, lt8 hp.2⟩ ⟨h0, lt8 h8⟩ z1
    rw [z2]
    exact hg
theorem sb_J {v : Int64} (E : T = sJ S a j v) (hS : SBD S o t m p) : SBD T o t m p := by rw [E]; exact hS
theorem sb_17 {v : Int32} (E : T = sI S a j v) (hI : IV S) (oo : ob S o 11) (e : fR S o 17 = some a) (hS : SBD S o t m p) : SBD T o t m p := by
  have g := tk_17 E hI oo e (tk_rf S o 0 0)
  subst E
  intro w b c ew eb ec p' m' h0 h8 hpl hm0 hmt hd
  have ew' : fR S o 3 = some w := ew
  have eb' : fR S o 18 = some b := eb
  have ec' : fR S w 16 = some c := ec
  have ow := ml_ob hI oo ew'
  have hw : fI (sI S a j v) w = fI S w := u2_row _ _ (fun z => by
    have hd : ∀ e ∈ shT, e.1 = 11 → e.2.1 = 17 → e.2.2.1 = 13 := by decide
    obtain ⟨a', a1, a2, -⟩ := hI.1 (11, 17, 13, 3208) (by decide) o oo
    obtain rfl : a = a' := Option.some.inj (e.symm.trans a1)
    have := ob_inj (show ob S w 13 by rw [z]; exact a2) ow
    omega)
  rw [hw] at hpl ⊢
  rw [g.2 w c ow ec]
  have hb : fI (sI S a j v) b = fI S b := u2_row _ _ (fun z => by
    have := (hI.2.2.2.2.1 o 11 17 o 11 18 a oo (by omega) oo (by decide) e (z ▸ eb')).2
    omega)
  rw [hb]
  exact hS w b c ew' eb' ec' p' m' h0 h8 hpl hm0 hmt hd
theorem sb_18 {p0 : Int32} (E : T = sI S a h.toNatClampNeg (-1)) (hI : IV S) (oo : ob S o 11) (e : fR S o 18 = some a) (hh : h = 8 * m + p) (hm : 0 ≤ m ∧ m ≤ 400) (hp : 0 ≤ p ∧ p < 8) (ht : t ≤ 400) (hp0 : p0 = p - 1) (hS : SBD S o t m p0) : SBD T o t m p := by
  have g := tk_18 E hI oo e (tk_rf S o h (-1))
  subst E
  intro w b c ew eb ec p' m' h0 h8 hpl hm0 hmt hd
  have ew' : fR S o 3 = some w := ew
  have eb' : fR S o 18 = some b := eb
  have ec' : fR S w 16 = some c := ec
  have ow := ml_ob hI oo ew'
  have hw : fI (sI S a h.toNatClampNeg (-1)) w = fI S w := u2_row _ _ (fun z => by
    obtain ⟨a', a1, a2, -⟩ := hI.1 (11, 18, 13, 3208) (by decide) o oo
    obtain rfl : a = a' := Option.some.inj (e.symm.trans a1)
    have := ob_inj (show ob S w 13 by rw [z]; exact a2) ow
    omega)
  rw [hw] at hpl ⊢
  rw [g.2 w c ow ec]
  obtain rfl : a = b := Option.some.inj (e.symm.trans eb')
  by_cases cz : (8 * m' + p').toNatClampNeg = h.toNatClampNeg
  · rw [show fI (sI S a h.toNatClampNeg (-1)) a (8 * m' + p').toNatClampNeg = -1 by rw [cz]; exact u2_self _ _ _ _]
    exact gs_stop
  · rw [show fI (sI S a h.toNatClampNeg (-1)) a (8 * m' + p').toNatClampNeg = fI S a (8 * m' + p').toNatClampNeg from u2_ne _ _ (fun t => cz t.2)]
    refine hS w a c ew' eb' ec' p' m' h0 h8 hpl hm0 hmt ?_
    rcases hd with d | ⟨d1, d2⟩
    · exact Or.inl d
    · refine Or.inr ⟨d1, ?_⟩
      have hne : p' ≠ p := fun z => cz (by rw [hh, d1, z])
      have x1 := Int32.le_iff_toInt_le.mp d2
      have x2 : p'.toInt ≠ p.toInt := fun z => hne (Int32.toInt_inj.mp z)
      have x3 := i32b ⟨hp.1, lt8 hp.2⟩ (n := 7) (by decide)
      have e1 : (1 : Int32).toInt = 1 := by decide
      have x4 : (p - 1).toInt = p.toInt - 1 := by
        rw [Int32.toInt_sub, e1]
        exact Int.bmod_eq_of_le (by omega) (by omega)
      rw [hp0]
      exact Int32.le_iff_toInt_le.mpr (by rw [x4]; omega)
theorem sb_init : SBD S o t t (-1) := by
  intro w b c _ _ _ p' m' h0 _ _ _ hmt hd
  rcases hd with d | ⟨_, d⟩
  · exact absurd (Int32.lt_iff_toInt_lt.mp d) (by have := Int32.le_iff_toInt_le.mp hmt; omega)
  · have a := Int32.le_iff_toInt_le.mp h0
    have b := Int32.le_iff_toInt_le.mp d
    have e0 : (0 : Int32).toInt = 0 := by decide
    have e1 : (-1 : Int32).toInt = -1 := by decide
    omega
theorem sb_0 (hS : SBD S o t m (-1)) : SBD S o t m (0 - 1) := by
  have e : (0 : Int32) - 1 = -1 := by decide
  rw [e]; exact hS
theorem sb_next {x : Int32} (hS : SBD S o t m (p - 1)) (ew : fR S o 3 = some w) (hpl : fI S w 2 ≤ p) (hp : 0 ≤ p ∧ p ≤ 8) (hm : 0 ≤ m ∧ m ≤ 400) (hx : x = m - 1) : SBD S o t x (-1) := by
  intro w' b c ew' eb ec p' m' h0 h8 hpl' hm0 hmt hd
  obtain rfl : w = w' := Option.some.inj (ew.symm.trans ew')
  refine hS w b c ew eb ec p' m' h0 h8 hpl' hm0 hmt ?_
  have a0 := Int32.le_iff_toInt_le.mp h0
  have e0 : (0 : Int32).toInt = 0 := by decide
  have e1 : (1 : Int32).toInt = 1 := by decide
  have em : (-1 : Int32).toInt = -1 := by decide
  have bm := i32b hm (n := 400) (by decide)
  have bp := i32b hp (n := 8) (by decide)
  have x4 : (m - 1).toInt = m.toInt - 1 := by
    rw [Int32.toInt_sub, e1]
    exact Int.bmod_eq_of_le (by omega) (by omega)
  have x5 : (p - 1).toInt = p.toInt - 1 := by
    rw [Int32.toInt_sub, e1]
    exact Int.bmod_eq_of_le (by omega) (by omega)
  have y1 := Int32.lt_iff_toInt_lt.mp hpl'
  have y2 := Int32.le_iff_toInt_le.mp hpl
  rcases hd with d | ⟨_, d⟩
  · have d1 := Int32.lt_iff_toInt_lt.mp d
    rw [hx, x4] at d1
    by_cases cz : m.toInt < m'.toInt
    · exact Or.inl (Int32.lt_iff_toInt_lt.mpr cz)
    · exact Or.inr ⟨Int32.toInt_inj.mp (by omega), Int32.le_iff_toInt_le.mpr (by rw [x5]; omega)⟩
  · have := Int32.le_iff_toInt_le.mp d
    omega
theorem wyq_num (hI : IV S) (oo : ob S o 11) (hy : WYQ S o p m) : 0 ≤ p ∧ p < 8 ∧ 0 ≤ m ∧ m ≤ 400 := by
  obtain ⟨t, w, -, h1, h2, h3, ew, h4, h5⟩ := hy
  have ow := ml_ob hI oo ew
  have h6 := (hI.2.2.2.1 (10, 2, 0, 8) (by decide) w ow).2
  exact ⟨h4, Int32.lt_of_lt_of_le h5 h6, h1, Int32.le_trans h2 h3⟩
theorem gs_at {x xi x3 : Int32} (hS : SBD S o t (-1) (-1)) (ew : fR S o 3 = some w) (eb : fR S o 18 = some b) (ec : fR S w 16 = some c) (h0 : 0 ≤ p ∧ p < 8) (hpl : p < fI S w 2) (hm : 0 ≤ m ∧ m ≤ t) (hm1 : (-1 : Int32) < m) (hi : xi = 8 * m + p) (hx : x = fI S b xi.toNatClampNeg) (h3 : x3 = fI S w 3) (h3b : x3 ≤ 12) : ∃ r d v u : Int32, (x = -1 ∨ (x = -2 ∧ m < t) ∨ (0 ≤ r ∧ r < x3 ∧ 0 ≤ d ∧ d ≤ 1 ∧ 1 ≤ v ∧ v ≤ 9 ∧ m + u ≤ t ∧ 1 ≤ x)) ∧ (x = -1 ∨ x = -2 ∨ x = 100 * r + 10 * d + v) ∧ (x = -1 ∨ x = -2 ∨ u = (fI S c r.toNatClampNeg + v - 1) / v) := by
  obtain ⟨r, d, v, u, g⟩ := hS w b c ew eb ec p m h0.1 h0.2 hpl hm.1 hm.2 (Or.inl hm1)
  rw [← hi, ← hx, ← h3] at g
  refine ⟨r, d, v, u, ?_, ?_, ?_⟩
  · rcases g with g | g | g
    · exact Or.inl g
    · exact Or.inr (Or.inl g)
    · refine Or.inr (Or.inr ⟨g.1, g.2.1, g.2.2.1, g.2.2.2.1, g.2.2.2.2.1, g.2.2.2.2.2.1, g.2.2.2.2.2.2.2.2, ?_⟩)
      have r11 : r ≤ 11 := by
        have a1 := Int32.lt_iff_toInt_lt.mp g.2.1
        have a2 := Int32.le_iff_toInt_le.mp h3b
        have e12 : (12 : Int32).toInt = 12 := by decide
        have e11 : (11 : Int32).toInt = 11 := by decide
        exact Int32.le_iff_toInt_le.mpr (by omega)
      obtain ⟨e, a, b', c'⟩ := cd_int ⟨g.1, r11⟩ ⟨g.2.2.1, g.2.2.2.1⟩ ⟨g.2.2.2.2.1, g.2.2.2.2.2.1⟩
      rw [← g.2.2.2.2.2.2.1] at e
      have e1 : (1 : Int32).toInt = 1 := by decide
      exact Int32.le_iff_toInt_le.mpr (by omega)
  · rcases g with g | g | g
    · exact Or.inl g
    · exact Or.inr (Or.inl g.1)
    · exact Or.inr (Or.inr g.2.2.2.2.2.2.1)
  · rcases g with g | g | g
    · exact Or.inl g
    · exact Or.inr (Or.inl g.1)
    · exact Or.inr (Or.inr g.2.2.2.2.2.2.2.1)
end Wy
theorem dv_int {a c : Int32} (h0 : 0 ≤ a.toInt) (hc : 0 < c.toInt) : (a / c).toInt = a.toInt / c.toInt := by
  rw [Int32.toInt_div, Int.tdiv_eq_ediv_of_nonneg h0]
  refine Int.bmod_eq_of_le ?_ ?_
  · have := Int.ediv_nonneg h0 (Int.le_of_lt hc); omega
  · have := Int.ediv_le_self c.toInt h0; have := a.toInt_lt; omega
theorem dec100 {y R D V : Int32} (h : y = 100 * R + 10 * D + V) (hR : 0 ≤ R ∧ R ≤ 11) (hD : 0 ≤ D ∧ D ≤ 1) (hV : 1 ≤ V ∧ V ≤ 9) : y / 100 = R := by
  obtain ⟨e, a, b, c⟩ := cd_int hR hD hV
  rw [← h] at e
  have e100 : (100 : Int32).toInt = 100 := by decide
  refine Int32.toInt_inj.mp ?_
  rw [dv_int (by omega) (by decide), e100, e]
  omega
theorem dec10 {y R D V : Int32} (h : y = 100 * R + 10 * D + V) (hR : 0 ≤ R ∧ R ≤ 11) (hD : 0 ≤ D ∧ D ≤ 1) (hV : 1 ≤ V ∧ V ≤ 9) : (y / 10).toInt = 10 * R.toInt + D.toInt := by
  obtain ⟨e, a, b, c⟩ := cd_int hR hD hV
  rw [← h] at e
  have e10 : (10 : Int32).toInt = 10 := by decide
  rw [dv_int (by omega) (by decide), e10, e]
  omega
theorem rm10 {y : Int32} (h0 : 0 ≤ y.toInt) : (y - y / 10 * 10).toInt = y.toInt % 10 := by
  have e10 : (10 : Int32).toInt = 10 := by decide
  have d := dv_int h0 (c := 10) (by decide)
  rw [e10] at d
  have l := y.toInt_lt
  have m : (y / 10 * 10).toInt = y.toInt / 10 * 10 := by
    rw [Int32.toInt_mul, d, e10]
    exact Int.bmod_eq_of_le (by omega) (by omega)
  rw [Int32.toInt_sub, m]
  rw [Int.bmod_eq_of_le (by omega) (by omega)]
  omega
theorem decV {y R D V : Int32} (h : y = 100 * R + 10 * D + V) (hR : 0 ≤ R ∧ R ≤ 11) (hD : 0 ≤ D ∧ D ≤ 1) (hV : 1 ≤ V ∧ V ≤ 9) : y - y / 10 * 10 = V := by
  obtain ⟨e, a, b, c⟩ := cd_int hR hD hV
  rw [← h] at e
  refine Int32.toInt_inj.mp ?_
  rw [rm10 (by omega), e]
  omega
theorem decD {y x R D V : Int32} (hx : x = y / 10) (h : y = 100 * R + 10 * D + V) (hR : 0 ≤ R ∧ R ≤ 11) (hD : 0 ≤ D ∧ D ≤ 1) (hV : 1 ≤ V ∧ V ≤ 9) : x - x / 10 * 10 = D := by
  obtain ⟨e, a, b, c⟩ := cd_int hR hD hV
  have d := dec10 h hR hD hV
  rw [← hx] at d
  refine Int32.toInt_inj.mp ?_
  rw [rm10 (by omega), d]
  omega
end
