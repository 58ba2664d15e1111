set_option maxHeartbeats 4000000 in
set_option maxRecDepth 20000 in
theorem m_X11_readSeen {v0 : Nat} {Q : HS → Prop} {S : HS} (hI : IV S) (o_v0 : ob S v0 11)    (hG : RG S v0) (hn : RN S v0) (hO : fI S v0 9 = 5 → 0 < fI S v0 13) (hq : ∀ (T : HS), IV T → Gr S T → FRI [(10, 5), (11, 8), (11, 9), (11, 10), (11, 11), (11, 12), (11, 13), (11, 14)] [] S T → (RG T v0) ∧ (RN T v0) ∧ (fI T v0 9 = 5 → 0 < fI T v0 13) ∧ (fI T v0 9 = 5 ∨ ¬ fI S v0 9 = 5) ∧ (fI S v0 8 ≤ fI T v0 8 ∧ (fI T v0 9 = 4 → fI S v0 8 < fI T v0 8 ∨ fI S v0 9 = 4)) → Q T) : P_X11_readSeen v0 Q S := by
  have g0 := gr_rf S
  have f0 := fri_rf [(10, 5), (11, 8), (11, 9), (11, 10), (11, 11), (11, 12), (11, 13), (11, 14)] [] S
  obtain ⟨kv1, d_kv1⟩ : ∃ z : Int32, z = fI S v0 8 := ⟨_, rfl⟩
  have r_kv1 : (0 : Int32) ≤ kv1 ∧ kv1 ≤ (900 : Int32) := by rw [d_kv1]; exact nu 25 rfl hI o_v0
  obtain ⟨iv2, hiv2⟩ : ∃ z : Int32, z = kv1 := ⟨_, rfl⟩
  have di_8 := hiv2.trans d_kv1
  obtain ⟨kv3, d_kv3⟩ : ∃ z : Int32, z = fI S v0 9 := ⟨_, rfl⟩
  obtain ⟨iv4, hiv4⟩ : ∃ z : Int32, z = kv3 := ⟨_, rfl⟩
  have di_9 := hiv4.trans d_kv3
  obtain ⟨kv5, d_kv5⟩ : ∃ z : Int32, z = fI S v0 13 := ⟨_, rfl⟩
  obtain ⟨iv6, hiv6⟩ : ∃ z : Int32, z = kv5 := ⟨_, rfl⟩
  have di_13 := hiv6.trans d_kv5
  have hO : iv4 = 5 → 0 < iv6 := by rw [di_9, di_13]; exact hO
  obtain ⟨a7, ea7, o_a7, -⟩ := id hG
  obtain ⟨kv8, d_kv8⟩ : ∃ z : Int32, z = fI S a7 6 := ⟨_, rfl⟩
  have r_kv8 : (0 : Int32) ≤ kv8 ∧ kv8 ≤ (12 : Int32) := by rw [d_kv8]; exact nu 22 rfl hI o_a7
  obtain ⟨kv9, d_kv9⟩ : ∃ z : Int32, z = fI S a7 2 := ⟨_, rfl⟩
  have r_kv9 : (0 : Int32) ≤ kv9 ∧ kv9 ≤ (8 : Int32) := by rw [d_kv9]; exact nu 18 rfl hI o_a7
  obtain ⟨kv10, d_kv10⟩ : ∃ z : Int32, z = fI S a7 4 := ⟨_, rfl⟩
  have r_kv10 : (0 : Int32) ≤ kv10 ∧ kv10 ≤ (4 : Int32) := by rw [d_kv10]; exact nu 20 rfl hI o_a7
  have hnf : kv8 = kv9 + kv10 := by rw [d_kv8, d_kv9, d_kv10]; exact hn _ ea7
  refine u_X11_readSeen ?_
  refine u_X11_readSeen_0 ?_
  refine ⟨o_v0, ?_⟩
  refine ⟨a7, ea7, ?_⟩
  refine ⟨o_a7, ?_⟩
  intro x12 ex12
  have r_x12 : (0 : Int32) ≤ x12 ∧ x12 ≤ (4 : Int32) := by rw [ex12]; exact nu 21 rfl hI o_a7
  have d_x12 := ex12
  have do12_kv1 := d_kv1
  have do12_kv3 := d_kv3
  have do12_kv5 := d_kv5
  refine m_X11_begins hI o_v0 hG (by have t : kv3 = 5 → 0 < kv5 := (qr1 hiv4 hiv6 hO); rw [d_kv3, d_kv5] at t; exact t) (fun S14 hJ g15 fc16 p_S14 => ?_)
  obtain ⟨hG, pg0_S14, pg1_S14, pg2_S14, pg3_S14⟩ := p_S14
  have hn := rn_fr fc16 g15 hI o_v0 (by decide) hn
  have hI := hJ
  have d_kv8 := d_kv8.trans (fri_at fc16 (by decide) (by decide) o_a7).symm
  have d_kv9 := d_kv9.trans (fri_at fc16 (by decide) (by decide) o_a7).symm
  have d_kv10 := d_kv10.trans (fri_at fc16 (by decide) (by decide) o_a7).symm
  have d_x12 := d_x12.trans (fri_at fc16 (by decide) (by decide) o_a7).symm
  have ea7 := (frr_at fc16 (by decide) (by decide) o_v0).trans ea7
  have f0 := fri_tr (S := S) g0 f0 fc16 (by decide) (by decide)
  have o_a7 := gr_ob g15 o_a7
  have o_v0 := gr_ob g15 o_v0
  have g0 := gr_tr (T := S) g0 g15
  obtain ⟨kv17, d_kv17⟩ : ∃ z : Int32, z = fI S14 v0 9 := ⟨_, rfl⟩
  obtain ⟨kv18, d_kv18⟩ : ∃ z : Int32, z = fI S14 v0 13 := ⟨_, rfl⟩
  have ph0_S14 : kv17 = 5 → 0 < kv18 := by rw [d_kv17, d_kv18]; exact pg0_S14
  have ph1_S14 : kv17 = 5 ∨ ¬ kv3 = 5 := by rw [do12_kv3, d_kv17]; exact pg1_S14
  obtain ⟨kv19, d_kv19⟩ : ∃ z : Int32, z = fI S14 v0 8 := ⟨_, rfl⟩
  have r_kv19 : (0 : Int32) ≤ kv19 ∧ kv19 ≤ (900 : Int32) := by rw [d_kv19]; exact nu 25 rfl hI o_v0
  have ph2_S14 : kv1 ≤ kv19 ∧ (kv17 = 4 → kv1 < kv19 ∨ kv3 = 4) := by rw [do12_kv1, do12_kv3, d_kv19, d_kv17]; exact pg2_S14
  have ph3_S14 : kv17 = 5 ∨ ¬ x12 = (4 : Int32) := by rw [d_kv17]; exact pg3_S14
  intro _
  obtain ⟨iv20, hiv20⟩ : ∃ z : Int32, z = kv19 := ⟨_, rfl⟩
  have d_iv20 := hiv20.trans d_kv19
  have do20_iv20 := d_iv20
  have do20_kv17 := d_kv17
  have do20_kv18 := d_kv18
  refine m_X11_known hI o_v0 (qr0) hG hn (by have t : kv17 = 5 → 0 < kv18 := (qr294 hiv4 hiv6 hO r_x12 ph0_S14 ph1_S14 ph3_S14); rw [d_kv17, d_kv18] at t; exact t) (fun x21 S22 hJ g23 fc24 p_x21 => ?_)
  obtain ⟨hG, hn, p_x21, pg0_S22, pg1_S22, pg2_S22⟩ := p_x21
  have hI := hJ
  have d_kv8 := d_kv8.trans (fri_at fc24 (by decide) (by decide) o_a7).symm
  have d_kv9 := d_kv9.trans (fri_at fc24 (by decide) (by decide) o_a7).symm
  have d_kv10 := d_kv10.trans (fri_at fc24 (by decide) (by decide) o_a7).symm
  have d_x12 := d_x12.trans (fri_at fc24 (by decide) (by decide) o_a7).symm
  have d_kv19 := d_kv19.trans (fri_at fc24 (by decide) (by decide) o_v0).symm
  have ea7 := (frr_at fc24 (by decide) (by decide) o_v0).trans ea7
  have f0 := fri_tr (S := S14) g0 f0 fc24 (by decide) (by decide)
  have o_a7 := gr_ob g23 o_a7
  have o_v0 := gr_ob g23 o_v0
  have g0 := gr_tr (T := S14) g0 g23
  obtain ⟨kv25, d_kv25⟩ : ∃ z : Int32, z = fI S22 v0 9 := ⟨_, rfl⟩
  obtain ⟨kv26, d_kv26⟩ : ∃ z : Int32, z = fI S22 v0 13 := ⟨_, rfl⟩
  have ph0_S22 : kv25 = 5 → 0 < kv26 := by rw [d_kv25, d_kv26]; exact pg0_S22
  have ph1_S22 : kv25 = 5 ∨ ¬ kv17 = 5 := by rw [do20_kv17, d_kv25]; exact pg1_S22
  have mo27 : kv25 = 5 ∨ ¬ kv3 = 5 := ph1_S22.elim Or.inl (fun h => Or.inr (ph1_S14.resolve_left h))
  have mo28 : kv25 = 5 ∨ ¬ x12 = (4 : Int32) := ph1_S22.elim Or.inl (fun h => Or.inr (ph3_S14.resolve_left h))
  have ph2_S22 : iv20 ≤ kv19 ∧ (kv25 = 4 → iv20 < kv19 ∨ kv17 = 4) := by rw [do20_iv20, do20_kv17, d_kv19, d_kv25]; exact pg2_S22
  intro _
  have kk_x21 : kv25 = 5 ∨ (0 ≤ x21 ∧ x21 < kv10) := by rw [d_kv25, d_kv10]; exact kr1 p_x21 ea7
  obtain ⟨iv29, hiv29⟩ : ∃ z : Int32, z = kv26 := ⟨_, rfl⟩
  have d_iv29 := hiv29.trans d_kv26
  have do29_kv19 := d_kv19
  have do29_kv25 := d_kv25
  have do29_iv29 := d_iv29
  refine m_X11_goesOn hI o_v0 hG (by have t : kv25 = 5 → 0 < kv26 := (qr295 hiv4 hiv6 hO r_kv8 r_kv9 r_kv10 hnf r_x12 ph0_S14 mo27 mo28 ph0_S22 ph1_S22 kk_x21); rw [d_kv25, d_kv26] at t; exact t) (fun S31 hJ g32 fc33 p_S31 => ?_)
  obtain ⟨hG, pg0_S31, pg1_S31, pg2_S31⟩ := p_S31
  have hn := rn_fr fc33 g32 hI o_v0 (by decide) hn
  have hI := hJ
  have d_kv8 := d_kv8.trans (fri_at fc33 (by decide) (by decide) o_a7).symm
  have d_kv9 := d_kv9.trans (fri_at fc33 (by decide) (by decide) o_a7).symm
  have d_kv10 := d_kv10.trans (fri_at fc33 (by decide) (by decide) o_a7).symm
  have d_x12 := d_x12.trans (fri_at fc33 (by decide) (by decide) o_a7).symm
  have d_kv26 := d_kv26.trans (fri_at fc33 (by decide) (by decide) o_v0).symm
  have ea7 := (frr_at fc33 (by decide) (by decide) o_v0).trans ea7
  have f0 := fri_tr (S := S22) g0 f0 fc33 (by decide) (by decide)
  have o_a7 := gr_ob g32 o_a7
  have o_v0 := gr_ob g32 o_v0
  have g0 := gr_tr (T := S22) g0 g32
  obtain ⟨kv34, d_kv34⟩ : ∃ z : Int32, z = fI S31 v0 9 := ⟨_, rfl⟩
  have ph0_S31 : kv34 = 5 → 0 < kv26 := by rw [d_kv34, d_kv26]; exact pg0_S31
  have ph1_S31 : kv34 = 5 ∨ ¬ kv25 = 5 := by rw [do29_kv25, d_kv34]; exact pg1_S31
  have mo35 : kv34 = 5 ∨ ¬ kv3 = 5 := ph1_S31.elim Or.inl (fun h => Or.inr (mo27.resolve_left h))
  have mo36 : kv34 = 5 ∨ ¬ x12 = (4 : Int32) := ph1_S31.elim Or.inl (fun h => Or.inr (mo28.resolve_left h))
  have mo37 : kv34 = 5 ∨ ¬ kv17 = 5 := ph1_S31.elim Or.inl (fun h => Or.inr (ph1_S22.resolve_left h))
  have mo38 : kv34 = 5 ∨ (0 ≤ x21 ∧ x21 < kv10) := ph1_S31.elim Or.inl (fun h => Or.inr (kk_x21.resolve_left h))
  obtain ⟨kv39, d_kv39⟩ : ∃ z : Int32, z = fI S31 v0 8 := ⟨_, rfl⟩
  have r_kv39 : (0 : Int32) ≤ kv39 ∧ kv39 ≤ (900 : Int32) := by rw [d_kv39]; exact nu 25 rfl hI o_v0
  have ph2_S31 : kv19 ≤ kv39 ∧ (kv34 = 4 → kv19 < kv39 ∨ kv25 = 4) := by rw [do29_kv19, do29_kv25, d_kv39, d_kv34]; exact pg2_S31
  intro _
  refine i_X11_readSeen_24 (fun (y0 : Nat) (y1 : Int32) (y2 : Int32) (Z : HS) => ((5 : Int32).toInt - y2.toInt).toNat) (fun (y0 : Nat) (y1 : Int32) (y2 : Int32) (Z : HS) => (IV Z) ∧ (Gr S31 Z) ∧ (FRI [(11, 8), (11, 9), (11, 10), (11, 11), (11, 12), (11, 13), (11, 14)] [] S31 Z) ∧ (v0 = y0) ∧ (x21 = y1) ∧ (RG Z v0) ∧ (RN Z v0) ∧ (0 ≤ y2 ∧ y2 ≤ 5) ∧ (y2 = 0 ∨ ¬ fI Z v0 9 = 5) ∧ (fI Z v0 9 = 5 ∨ ¬ fI Z a7 5 = 4) ∧ (fI Z v0 9 = 5 ∨ (0 ≤ y1 ∧ y1 < fI Z a7 4)) ∧ (fI Z v0 9 = 5 ∨ ¬ iv4 = 5) ∧ (iv2 ≤ fI Z v0 8 ∧ (fI Z v0 9 = 4 → iv2 < fI Z v0 8 ∨ iv4 = 4)) ∧ (fI Z v0 9 = 5 → 0 < fI Z v0 13)) ?_ _ _ _ _ ⟨hI, (gr_rf _), (fri_rf _ _ _), rfl, rfl, hG, hn, (qr296), (by rw [← d_kv34]; exact (qr297 hiv4 r_kv8 r_kv9 r_kv10 hnf r_x12 mo35 mo36 mo37 mo38 ph1_S31)), (by rw [← d_kv34, ← d_x12]; exact (qr298 hiv4 r_kv8 r_kv9 r_kv10 hnf r_x12 mo35 mo36 mo37 mo38 ph1_S31)), (by rw [← d_kv34, ← d_kv10]; exact (qr299 hiv4 r_kv8 r_kv9 r_kv10 hnf r_x12 mo35 mo36 mo37 mo38 ph1_S31)), (by rw [← d_kv34]; exact (qr300 hiv4 r_kv8 r_kv9 r_kv10 hnf r_x12 mo35 mo36 mo37 mo38 ph1_S31)), (by rw [← d_kv39, ← d_kv34]; exact (qr301 r_kv1 hiv2 hiv4 r_kv8 r_kv9 r_kv10 hnf r_x12 mo35 r_kv19 ph2_S14 mo36 hiv20 mo37 ph2_S22 mo38 ph1_S31 r_kv39 ph2_S31)), (by rw [← d_kv34, ← d_kv26]; exact (qr302 hiv4 hiv6 hO r_kv8 r_kv9 r_kv10 hnf r_x12 ph0_S14 mo35 mo36 ph0_S22 mo37 mo38 hiv29 ph0_S31 ph1_S31))⟩
  intro w44 w46 w48 S41 X49 ⟨hI, gL42, fL43, q45, q47, hG, hn, i1u40, k0u40, k1u40, k2u40, k3u40, k4u40, k5u40⟩ ih50
  subst q45
  subst q47
  have d_kv8 := d_kv8.trans (fri_at fL43 (by decide) (by decide) o_a7).symm
  have d_kv9 := d_kv9.trans (fri_at fL43 (by decide) (by decide) o_a7).symm
  have d_kv10 := d_kv10.trans (fri_at fL43 (by decide) (by decide) o_a7).symm
  have d_x12 := d_x12.trans (fri_at fL43 (by decide) (by decide) o_a7).symm
  have ea7 := (frr_at fL43 (by decide) (by decide) o_v0).trans ea7
  have f0 := fri_tr (S := S31) g0 f0 fL43 (by decide) (by decide)
  have o_a7 := gr_ob gL42 o_a7
  have o_v0 := gr_ob gL42 o_v0
  have g0 := gr_tr (T := S31) g0 gL42
  obtain ⟨kv51, d_kv51⟩ : ∃ z : Int32, z = fI S41 v0 9 := ⟨_, rfl⟩
  have p_k0u40 : w48 = 0 ∨ ¬ kv51 = 5 := by rw [d_kv51]; exact k0u40
  have p_k1u40 : kv51 = 5 ∨ ¬ x12 = 4 := by rw [d_kv51, d_x12]; exact k1u40
  have p_k2u40 : kv51 = 5 ∨ (0 ≤ x21 ∧ x21 < kv10) := by rw [d_kv51, d_kv10]; exact k2u40
  have p_k3u40 : kv51 = 5 ∨ ¬ iv4 = 5 := by rw [d_kv51]; exact k3u40
  obtain ⟨kv52, d_kv52⟩ : ∃ z : Int32, z = fI S41 v0 8 := ⟨_, rfl⟩
  have p_k4u40 : iv2 ≤ kv52 ∧ (kv51 = 4 → iv2 < kv52 ∨ iv4 = 4) := by rw [d_kv52, d_kv51]; exact k4u40
  obtain ⟨kv53, d_kv53⟩ : ∃ z : Int32, z = fI S41 v0 13 := ⟨_, rfl⟩
  have p_k5u40 : kv51 = 5 → 0 < kv53 := by rw [d_kv51, d_kv53]; exact k5u40
  refine u_X11_readSeen_24 ?_
  refine ⟨fun c54 => ?_, fun c54 => ?_⟩
  · refine ⟨o_v0, ?_⟩
    refine ⟨a7, ea7, ?_⟩
    refine ⟨o_a7, ?_⟩
    obtain ⟨a56, ea56, o_a56, l_a56⟩ := shl 48 rfl hI o_a7
    refine ⟨a56, ea56, ?_⟩
    refine ⟨a7, ea7, ?_⟩
    refine ⟨o_a7, ?_⟩
    intro x58 ex58
    have r_x58 : (0 : Int32) ≤ x58 ∧ x58 ≤ (4 : Int32) := by rw [ex58]; exact nu 21 rfl hI o_a7
    have q_x58 : x58 = x12 := ex58.trans d_x12.symm
    have d_x58 := ex58
    refine ⟨o_a56, ?_⟩
    have i59 : vp_in x58 (hN _ a56) := (vin l_a56 (m := 4) (by decide) (qr303 hiv4 r_kv8 r_kv9 r_kv10 hnf r_x12 mo35 mo36 mo37 mo38 ph1_S31 i1u40 p_k0u40 p_k1u40 p_k2u40 p_k3u40 c54 r_x58 q_x58))
    refine ⟨i59, ?_⟩
    intro S60 eS60
    have hIn : IV S60 := by rw [eS60]; exact iv10_aI hI o_a7 (rg_nw hG ea7) ea56 o_a56 (by decide)
    have hG := rg_a (jj := 26) (x := x58) eS60 hI ea7 o_a7 ea56 o_a56 (by decide) (h1_one (c := 5) (lo := 0) (hi := 3) (hf := 4) (by decide) d_x58.symm) (h2_no (y := 0) (by decide)) hG
    have hn := rn_11 eS60 hI o_v0 o_a56 (by decide) hn
    have hI := hIn
    have f0 := fr_A eS60 g0 f0 o_a56 (by decide)
    have d_kv8 := rd_Ik eS60 o_a56 o_a7 (by decide) d_kv8
    have d_kv9 := rd_Ik eS60 o_a56 o_a7 (by decide) d_kv9
    have d_kv10 := rd_Ik eS60 o_a56 o_a7 (by decide) d_kv10
    have d_x58 := rd_Ik eS60 o_a56 o_a7 (by decide) d_x58
    have d_kv51 := rd_Ik eS60 o_a56 o_v0 (by decide) d_kv51
    have d_kv52 := rd_Ik eS60 o_a56 o_v0 (by decide) d_kv52
    have d_kv53 := rd_Ik eS60 o_a56 o_v0 (by decide) d_kv53
    have ea7 := rf_I eS60 ea7
    have ea56 := rf_I eS60 ea56
    have l_a56 := ln_I eS60 l_a56
    have g0 := gr_I eS60 g0
    have o_a56 := ob_I eS60 o_a56
    have o_a7 := ob_I eS60 o_a7
    have o_v0 := ob_I eS60 o_v0
    have el61 : fI S60 a56 x58.toNatClampNeg = x21 := by rw [eS60]; exact u2_self _ _ _ _
    refine ⟨a7, ea7, ?_⟩
    refine ⟨o_a7, ?_⟩
    intro x63 ex63
    have r_x63 : (0 : Int32) ≤ x63 ∧ x63 ≤ (4 : Int32) := by rw [ex63]; exact nu 21 rfl hI o_a7
    have q_x63 : x63 = x58 := ex63.trans d_x58.symm
    have d_x63 := ex63
    intro x64 ex64
    intro S65 eS65
    have hIn : IV S65 := by rw [eS65]; exact iv10_sI hI o_a7 (rg_nw hG ea7) (nu_one (lo := (0 : Int32)) (hi := (4 : Int32)) (by decide) (qr304 hiv4 r_kv8 r_kv9 r_kv10 hnf r_x12 mo35 mo36 mo37 mo38 ph1_S31 i1u40 p_k0u40 p_k1u40 p_k2u40 p_k3u40 c54 r_x58 q_x58 r_x63 q_x63 ex64))
    have hG := rg_inc (c := 5) (y := x63) eS65 hI ea7 o_a7 d_x63.symm (qr305 hiv4 r_kv8 r_kv9 r_kv10 hnf r_x12 mo35 mo36 mo37 mo38 ph1_S31 i1u40 p_k0u40 p_k1u40 p_k2u40 p_k3u40 c54 r_x58 q_x58 r_x63 q_x63 ex64) (qr306 hiv4 r_kv8 r_kv9 r_kv10 hnf r_x12 mo35 mo36 mo37 mo38 ph1_S31 i1u40 p_k0u40 p_k1u40 p_k2u40 p_k3u40 c54 r_x58 q_x58 r_x63 q_x63 ex64) (hn_5 ea56 (by rw [show x63 = x58 from (qr307 hiv4 r_kv8 r_kv9 r_kv10 hnf r_x12 mo35 mo36 mo37 mo38 ph1_S31 i1u40 p_k0u40 p_k1u40 p_k2u40 p_k3u40 c54 r_x58 q_x58 r_x63 q_x63 ex64), el61]; exact ⟨(qr308 hiv4 r_kv8 r_kv9 r_kv10 hnf r_x12 mo35 mo36 mo37 mo38 ph1_S31 i1u40 p_k0u40 p_k1u40 p_k2u40 p_k3u40 c54 r_x58 q_x58 r_x63 q_x63 ex64), (qr309 hiv4 r_kv8 r_kv9 r_kv10 hnf r_x12 mo35 mo36 mo37 mo38 ph1_S31 i1u40 p_k0u40 p_k1u40 p_k2u40 p_k3u40 c54 r_x58 q_x58 r_x63 q_x63 ex64), Or.inr (by rw [← d_kv10]; exact (qr310 hiv4 r_kv8 r_kv9 r_kv10 hnf r_x12 mo35 mo36 mo37 mo38 ph1_S31 i1u40 p_k0u40 p_k1u40 p_k2u40 p_k3u40 c54 r_x58 q_x58 r_x63 q_x63 ex64))⟩)) (fun z _ hz => Or.inl (by rw [eS65] at hz; exact hs_no2 (by decide) z hz)) hG
    have hn := rn_c eS65 (by decide) hn
    have el61 := el_ob eS65 o_a7 o_a56 (by decide) el61
    have hI := hIn
    have f0 := fr_I eS65 g0 f0 o_a7 (by decide)
    have d_kv8 := rd_Ij eS65 (by decide) d_kv8
    have d_kv9 := rd_Ij eS65 (by decide) d_kv9
    have d_kv10 := rd_Ij eS65 (by decide) d_kv10
    have d_kv51 := rd_Ik eS65 o_a7 o_v0 (by decide) d_kv51
    have d_kv52 := rd_Ik eS65 o_a7 o_v0 (by decide) d_kv52
    have d_kv53 := rd_Ik eS65 o_a7 o_v0 (by decide) d_kv53
    have d_x64 := rd_Is eS65 (rfl : x64 = x64)
    have ea7 := rf_I eS65 ea7
    have ea56 := rf_I eS65 ea56
    have l_a56 := ln_I eS65 l_a56
    have g0 := gr_I eS65 g0
    have o_a56 := ob_I eS65 o_a56
    have o_a7 := ob_I eS65 o_a7
    have o_v0 := ob_I eS65 o_v0
    exact hq _ hI g0 f0 ⟨hG, hn, (by have t : kv51 = 5 → 0 < kv53 := (qr311 hiv4 hiv6 hO r_kv8 r_kv9 r_kv10 hnf r_x12 ph0_S14 mo35 mo36 ph0_S22 mo37 mo38 hiv29 ph0_S31 ph1_S31 i1u40 p_k0u40 p_k1u40 p_k2u40 p_k3u40 p_k5u40 c54 r_x58 q_x58 r_x63 q_x63 ex64); rw [d_kv51, d_kv53] at t; exact t), (by have t : kv51 = 5 ∨ ¬ iv4 = 5 := (qr312 hiv4 r_kv8 r_kv9 r_kv10 hnf r_x12 mo35 mo36 mo37 mo38 ph1_S31 i1u40 p_k0u40 p_k1u40 p_k2u40 p_k3u40 c54 r_x58 q_x58 r_x63 q_x63 ex64); rw [di_9, d_kv51] at t; exact t), (by have t : iv2 ≤ kv52 ∧ (kv51 = 4 → iv2 < kv52 ∨ iv4 = 4) := (qr313 r_kv1 hiv2 hiv4 r_kv8 r_kv9 r_kv10 hnf r_x12 mo35 r_kv19 ph2_S14 mo36 hiv20 mo37 ph2_S22 mo38 ph1_S31 r_kv39 ph2_S31 i1u40 p_k0u40 p_k1u40 p_k2u40 p_k3u40 p_k4u40 c54 r_x58 q_x58 r_x63 q_x63 ex64); rw [di_8, di_9, d_kv52, d_kv51] at t; exact t)⟩
  · refine ⟨fun c66 => ?_, fun c66 => ?_⟩
    · refine u_X11_readSeen_47 ?_
      refine ⟨o_v0, ?_⟩
      have do66_kv52 := d_kv52
      have do66_kv51 := d_kv51
      have do66_kv53 := d_kv53
      refine m_X11_readWhole hI o_v0 hG (by have t : kv51 = 5 → 0 < kv53 := (qr314 hiv4 hiv6 hO r_kv8 r_kv9 r_kv10 hnf r_x12 ph0_S14 mo35 mo36 ph0_S22 mo37 mo38 hiv29 ph0_S31 ph1_S31 i1u40 p_k0u40 p_k1u40 p_k2u40 p_k3u40 p_k5u40 c54 c66); rw [d_kv51, d_kv53] at t; exact t) (fun x67 S68 hJ g69 fc70 p_x67 => ?_)
      obtain ⟨hG, p_x67, pg0_S68, pg1_S68, pg2_S68⟩ := p_x67
      have hn := rn_fr fc70 g69 hI o_v0 (by decide) hn
      have hI := hJ
      have d_kv8 := d_kv8.trans (fri_at fc70 (by decide) (by decide) o_a7).symm
      have d_kv9 := d_kv9.trans (fri_at fc70 (by decide) (by decide) o_a7).symm
      have d_kv10 := d_kv10.trans (fri_at fc70 (by decide) (by decide) o_a7).symm
      have d_x12 := d_x12.trans (fri_at fc70 (by decide) (by decide) o_a7).symm
      have ea7 := (frr_at fc70 (by decide) (by decide) o_v0).trans ea7
      have f0 := fri_tr (S := S41) g0 f0 fc70 (by decide) (by decide)
      have fL43 := fri_tr (S := S41) gL42 fL43 fc70 (by decide) (by decide)
      have o_a7 := gr_ob g69 o_a7
      have o_v0 := gr_ob g69 o_v0
      have g0 := gr_tr (T := S41) g0 g69
      have gL42 := gr_tr (T := S41) gL42 g69
      obtain ⟨kv71, d_kv71⟩ : ∃ z : Int32, z = fI S68 v0 9 := ⟨_, rfl⟩
      obtain ⟨kv72, d_kv72⟩ : ∃ z : Int32, z = fI S68 v0 13 := ⟨_, rfl⟩
      have ph0_S68 : kv71 = 5 → 0 < kv72 := by rw [d_kv71, d_kv72]; exact pg0_S68
      have ph1_S68 : kv71 = 5 ∨ ¬ kv51 = 5 := by rw [do66_kv51, d_kv71]; exact pg1_S68
      have mo73 : kv71 = 5 ∨ ¬ x12 = 4 := ph1_S68.elim Or.inl (fun h => Or.inr (p_k1u40.resolve_left h))
      have mo74 : kv71 = 5 ∨ (0 ≤ x21 ∧ x21 < kv10) := ph1_S68.elim Or.inl (fun h => Or.inr (p_k2u40.resolve_left h))
      have mo75 : kv71 = 5 ∨ ¬ iv4 = 5 := ph1_S68.elim Or.inl (fun h => Or.inr (p_k3u40.resolve_left h))
      obtain ⟨kv76, d_kv76⟩ : ∃ z : Int32, z = fI S68 v0 8 := ⟨_, rfl⟩
      have r_kv76 : (0 : Int32) ≤ kv76 ∧ kv76 ≤ (900 : Int32) := by rw [d_kv76]; exact nu 25 rfl hI o_v0
      have ph2_S68 : kv52 ≤ kv76 ∧ (kv71 = 4 → kv52 < kv76 ∨ kv51 = 4) := by rw [do66_kv52, do66_kv51, d_kv76, d_kv71]; exact pg2_S68
      intro _
      intro x77 ex77
      have q_x77 : x77 = kv71 := ex77.trans d_kv71.symm
      have mo78 : x77 = 5 ∨ ¬ x12 = 4 := mo73.imp_left (fun z => q_x77.trans z)
      have mo79 : x77 = 5 ∨ (0 ≤ x21 ∧ x21 < kv10) := mo74.imp_left (fun z => q_x77.trans z)
      have mo80 : x77 = 5 ∨ ¬ iv4 = 5 := mo75.imp_left (fun z => q_x77.trans z)
      have mo81 : x77 = 5 ∨ ¬ kv51 = 5 := ph1_S68.imp_left (fun z => q_x77.trans z)
      have d_x77 := ex77
      refine ⟨fun c82 => ?_, fun c82 => ?_⟩
      · refine ⟨a7, ea7, ?_⟩
        refine ⟨o_a7, ?_⟩
        obtain ⟨a84, ea84, o_a84, l_a84⟩ := shl 49 rfl hI o_a7
        refine ⟨a84, ea84, ?_⟩
        refine ⟨a7, ea7, ?_⟩
        refine ⟨o_a7, ?_⟩
        intro x86 ex86
        have r_x86 : (0 : Int32) ≤ x86 ∧ x86 ≤ (4 : Int32) := by rw [ex86]; exact nu 21 rfl hI o_a7
        have q_x86 : x86 = x12 := ex86.trans d_x12.symm
        have d_x86 := ex86
        refine ⟨o_a84, ?_⟩
        have i87 : vp_in (((5 : Int32) * x86) + w48) (hN _ a84) := (vin l_a84 (m := 20) (by decide) (qr315 hiv4 r_kv8 r_kv9 r_kv10 hnf r_x12 mo35 mo36 mo37 mo38 ph1_S31 i1u40 p_k0u40 mo78 mo79 mo80 c54 c66 mo81 q_x77 c82 r_x86 q_x86))
        refine ⟨i87, ?_⟩
        intro S88 eS88
        have hIn : IV S88 := by rw [eS88]; exact iv10_aI hI o_a7 (rg_nw hG ea7) ea84 o_a84 (by decide)
        have hG := rg_a (jj := 27) (x := (((5 : Int32) * x86) + w48)) eS88 hI ea7 o_a7 ea84 o_a84 (by decide) (h1_no (by decide)) (h2_no (y := 0) (by decide)) hG
        have hn := rn_11 eS88 hI o_v0 o_a84 (by decide) hn
        have hI := hIn
        have f0 := fr_A eS88 g0 f0 o_a84 (by decide)
        have fL43 := fr_A eS88 gL42 fL43 o_a84 (by decide)
        have d_kv8 := rd_Ik eS88 o_a84 o_a7 (by decide) d_kv8
        have d_kv9 := rd_Ik eS88 o_a84 o_a7 (by decide) d_kv9
        have d_kv10 := rd_Ik eS88 o_a84 o_a7 (by decide) d_kv10
        have d_x86 := rd_Ik eS88 o_a84 o_a7 (by decide) d_x86
        have d_x77 := rd_Ik eS88 o_a84 o_v0 (by decide) d_x77
        have d_kv72 := rd_Ik eS88 o_a84 o_v0 (by decide) d_kv72
        have d_kv76 := rd_Ik eS88 o_a84 o_v0 (by decide) d_kv76
        have ea7 := rf_I eS88 ea7
        have ea84 := rf_I eS88 ea84
        have l_a84 := ln_I eS88 l_a84
        have g0 := gr_I eS88 g0
        have gL42 := gr_I eS88 gL42
        have o_a7 := ob_I eS88 o_a7
        have o_a84 := ob_I eS88 o_a84
        have o_v0 := ob_I eS88 o_v0
        intro x89 ex89
        exact ih50 _ _ _ _ ⟨hI, gL42, fL43, rfl, rfl, hG, hn, (qr316 hiv4 r_kv8 r_kv9 r_kv10 hnf r_x12 mo35 mo36 mo37 mo38 ph1_S31 i1u40 p_k0u40 mo78 mo79 mo80 c54 c66 mo81 q_x77 c82 r_x86 q_x86 ex89), (by rw [← d_x77]; exact (qr317 hiv4 r_kv8 r_kv9 r_kv10 hnf r_x12 mo35 mo36 mo37 mo38 ph1_S31 i1u40 p_k0u40 mo78 mo79 mo80 c54 c66 mo81 q_x77 c82 r_x86 q_x86 ex89)), (by rw [← d_x77, ← d_x86]; exact (qr318 hiv4 r_kv8 r_kv9 r_kv10 hnf r_x12 mo35 mo36 mo37 mo38 ph1_S31 i1u40 p_k0u40 mo78 mo79 mo80 c54 c66 mo81 q_x77 c82 r_x86 q_x86 ex89)), (by rw [← d_x77, ← d_kv10]; exact (qr319 hiv4 r_kv8 r_kv9 r_kv10 hnf r_x12 mo35 mo36 mo37 mo38 ph1_S31 i1u40 p_k0u40 mo78 mo79 mo80 c54 c66 mo81 q_x77 c82 r_x86 q_x86 ex89)), (by rw [← d_x77]; exact (qr320 hiv4 r_kv8 r_kv9 r_kv10 hnf r_x12 mo35 mo36 mo37 mo38 ph1_S31 i1u40 p_k0u40 mo78 mo79 mo80 c54 c66 mo81 q_x77 c82 r_x86 q_x86 ex89)), (by rw [← d_kv76, ← d_x77]; exact (qr321 r_kv1 hiv2 hiv4 r_kv8 r_kv9 r_kv10 hnf r_x12 mo35 r_kv19 ph2_S14 mo36 hiv20 mo37 ph2_S22 mo38 ph1_S31 r_kv39 ph2_S31 i1u40 p_k0u40 mo78 mo79 mo80 p_k4u40 c54 c66 mo81 r_kv76 ph2_S68 q_x77 c82 r_x86 q_x86 ex89)), (by rw [← d_x77, ← d_kv72]; exact (qr322 hiv4 hiv6 hO r_kv8 r_kv9 r_kv10 hnf r_x12 ph0_S14 mo35 mo36 ph0_S22 mo37 mo38 hiv29 ph0_S31 ph1_S31 i1u40 p_k0u40 mo78 mo79 mo80 p_k5u40 c54 c66 ph0_S68 mo81 q_x77 c82 r_x86 q_x86 ex89))⟩ (mu_up (qr323 hiv4 r_kv8 r_kv9 r_kv10 hnf r_x12 mo35 mo36 mo37 mo38 ph1_S31 i1u40 p_k0u40 mo78 mo79 mo80 c54 c66 mo81 q_x77 c82 r_x86 q_x86 ex89) (qr324 hiv4 r_kv8 r_kv9 r_kv10 hnf r_x12 mo35 mo36 mo37 mo38 ph1_S31 i1u40 p_k0u40 mo78 mo79 mo80 c54 c66 mo81 q_x77 c82 r_x86 q_x86 ex89))
      · exact hq _ hI g0 f0 ⟨hG, hn, (by have t : x77 = 5 → 0 < kv72 := (qr325 hiv4 hiv6 hO r_kv8 r_kv9 r_kv10 hnf r_x12 ph0_S14 mo35 mo36 ph0_S22 mo37 mo38 hiv29 ph0_S31 ph1_S31 i1u40 p_k0u40 mo78 mo79 mo80 p_k5u40 c54 c66 ph0_S68 mo81 q_x77 c82); rw [d_x77, d_kv72] at t; exact t), (by have t : x77 = 5 ∨ ¬ iv4 = 5 := (qr326 hiv4 r_kv8 r_kv9 r_kv10 hnf r_x12 mo35 mo36 mo37 mo38 ph1_S31 i1u40 p_k0u40 mo78 mo79 mo80 c54 c66 mo81 q_x77 c82); rw [di_9, d_x77] at t; exact t), (by have t : iv2 ≤ kv76 ∧ (x77 = 4 → iv2 < kv76 ∨ iv4 = 4) := (qr327 r_kv1 hiv2 hiv4 r_kv8 r_kv9 r_kv10 hnf r_x12 mo35 r_kv19 ph2_S14 mo36 hiv20 mo37 ph2_S22 mo38 ph1_S31 r_kv39 ph2_S31 i1u40 p_k0u40 mo78 mo79 mo80 p_k4u40 c54 c66 mo81 r_kv76 ph2_S68 q_x77 c82); rw [di_8, di_9, d_kv76, d_x77] at t; exact t)⟩
    · refine ⟨o_v0, ?_⟩
      obtain ⟨iv90, hiv90⟩ : ∃ z : Int32, z = kv53 := ⟨_, rfl⟩
      have d_iv90 := hiv90.trans d_kv53
      have do90_kv52 := d_kv52
      have do90_kv51 := d_kv51
      have do90_iv90 := d_iv90
      refine m_X11_eatsSign hI o_v0 hG (by have t : kv51 = 5 → 0 < kv53 := (qr328 hiv4 hiv6 hO r_kv8 r_kv9 r_kv10 hnf r_x12 ph0_S14 mo35 mo36 ph0_S22 mo37 mo38 hiv29 ph0_S31 ph1_S31 i1u40 p_k0u40 p_k1u40 p_k2u40 p_k3u40 p_k5u40 c54 c66); rw [d_kv51, d_kv53] at t; exact t) (fun x91 S92 hJ g93 fc94 b_x91 p_x91 => ?_)
      obtain ⟨hG, pg0_S92, pg1_S92, pg2_S92, pg3_S92⟩ := p_x91
      have hn := rn_fr fc94 g93 hI o_v0 (by decide) hn
      have hI := hJ
      have d_kv8 := d_kv8.trans (fri_at fc94 (by decide) (by decide) o_a7).symm
      have d_kv9 := d_kv9.trans (fri_at fc94 (by decide) (by decide) o_a7).symm
      have d_kv10 := d_kv10.trans (fri_at fc94 (by decide) (by decide) o_a7).symm
      have d_x12 := d_x12.trans (fri_at fc94 (by decide) (by decide) o_a7).symm
      have d_kv53 := d_kv53.trans (fri_at fc94 (by decide) (by decide) o_v0).symm
      have ea7 := (frr_at fc94 (by decide) (by decide) o_v0).trans ea7
      have f0 := fri_tr (S := S41) g0 f0 fc94 (by decide) (by decide)
      have fL43 := fri_tr (S := S41) gL42 fL43 fc94 (by decide) (by decide)
      have o_a7 := gr_ob g93 o_a7
      have o_v0 := gr_ob g93 o_v0
      have g0 := gr_tr (T := S41) g0 g93
      have gL42 := gr_tr (T := S41) gL42 g93
      obtain ⟨kv95, d_kv95⟩ : ∃ z : Int32, z = fI S92 v0 9 := ⟨_, rfl⟩
      have ph0_S92 : kv95 = 5 → 0 < kv53 := by rw [d_kv95, d_kv53]; exact pg0_S92
      have ph1_S92 : kv95 = 5 ∨ ¬ kv51 = 5 := by rw [do90_kv51, d_kv95]; exact pg1_S92
      have mo96 : kv95 = 5 ∨ ¬ x12 = 4 := ph1_S92.elim Or.inl (fun h => Or.inr (p_k1u40.resolve_left h))
      have mo97 : kv95 = 5 ∨ (0 ≤ x21 ∧ x21 < kv10) := ph1_S92.elim Or.inl (fun h => Or.inr (p_k2u40.resolve_left h))
      have mo98 : kv95 = 5 ∨ ¬ iv4 = 5 := ph1_S92.elim Or.inl (fun h => Or.inr (p_k3u40.resolve_left h))
      obtain ⟨kv99, d_kv99⟩ : ∃ z : Int32, z = fI S92 v0 8 := ⟨_, rfl⟩
      have r_kv99 : (0 : Int32) ≤ kv99 ∧ kv99 ≤ (900 : Int32) := by rw [d_kv99]; exact nu 25 rfl hI o_v0
      have ph2_S92 : kv52 ≤ kv99 ∧ (kv95 = 4 → kv52 < kv99 ∨ kv51 = 4) := by rw [do90_kv52, do90_kv51, d_kv99, d_kv95]; exact pg2_S92
      have ph3_S92 : x91 = 0 ∨ kv51 = 4 := by rw [do90_kv51]; exact pg3_S92
      intro _ _
      have bb_x91 : x91 = 0 ∨ x91 = 1 := b_x91
      refine ⟨fun c100 => ?_, fun c100 => ?_⟩
      · refine u_X11_readSeen_47 ?_
        refine ⟨o_v0, ?_⟩
        have do100_kv99 := d_kv99
        have do100_kv95 := d_kv95
        have do100_kv53 := d_kv53
        refine m_X11_readWhole hI o_v0 hG (by have t : kv95 = 5 → 0 < kv53 := (qr329 hiv4 hiv6 hO r_kv8 r_kv9 r_kv10 hnf r_x12 ph0_S14 mo35 mo36 ph0_S22 mo37 mo38 hiv29 ph0_S31 ph1_S31 i1u40 p_k0u40 mo96 mo97 mo98 p_k5u40 c54 c66 hiv90 ph0_S92 ph1_S92 ph3_S92 bb_x91 c100); rw [d_kv95, d_kv53] at t; exact t) (fun x101 S102 hJ g103 fc104 p_x101 => ?_)
        obtain ⟨hG, p_x101, pg0_S102, pg1_S102, pg2_S102⟩ := p_x101
        have hn := rn_fr fc104 g103 hI o_v0 (by decide) hn
        have hI := hJ
        have d_kv8 := d_kv8.trans (fri_at fc104 (by decide) (by decide) o_a7).symm
        have d_kv9 := d_kv9.trans (fri_at fc104 (by decide) (by decide) o_a7).symm
        have d_kv10 := d_kv10.trans (fri_at fc104 (by decide) (by decide) o_a7).symm
        have d_x12 := d_x12.trans (fri_at fc104 (by decide) (by decide) o_a7).symm
        have ea7 := (frr_at fc104 (by decide) (by decide) o_v0).trans ea7
        have f0 := fri_tr (S := S92) g0 f0 fc104 (by decide) (by decide)
        have fL43 := fri_tr (S := S92) gL42 fL43 fc104 (by decide) (by decide)
        have o_a7 := gr_ob g103 o_a7
        have o_v0 := gr_ob g103 o_v0
        have g0 := gr_tr (T := S92) g0 g103
        have gL42 := gr_tr (T := S92) gL42 g103
        obtain ⟨kv105, d_kv105⟩ : ∃ z : Int32, z = fI S102 v0 9 := ⟨_, rfl⟩
        obtain ⟨kv106, d_kv106⟩ : ∃ z : Int32, z = fI S102 v0 13 := ⟨_, rfl⟩
        have ph0_S102 : kv105 = 5 → 0 < kv106 := by rw [d_kv105, d_kv106]; exact pg0_S102
        have ph1_S102 : kv105 = 5 ∨ ¬ kv95 = 5 := by rw [do100_kv95, d_kv105]; exact pg1_S102
        have mo107 : kv105 = 5 ∨ ¬ x12 = 4 := ph1_S102.elim Or.inl (fun h => Or.inr (mo96.resolve_left h))
        have mo108 : kv105 = 5 ∨ (0 ≤ x21 ∧ x21 < kv10) := ph1_S102.elim Or.inl (fun h => Or.inr (mo97.resolve_left h))
        have mo109 : kv105 = 5 ∨ ¬ iv4 = 5 := ph1_S102.elim Or.inl (fun h => Or.inr (mo98.resolve_left h))
        have mo110 : kv105 = 5 ∨ ¬ kv51 = 5 := ph1_S102.elim Or.inl (fun h => Or.inr (ph1_S92.resolve_left h))
        obtain ⟨kv111, d_kv111⟩ : ∃ z : Int32, z = fI S102 v0 8 := ⟨_, rfl⟩
        have r_kv111 : (0 : Int32) ≤ kv111 ∧ kv111 ≤ (900 : Int32) := by rw [d_kv111]; exact nu 25 rfl hI o_v0
        have ph2_S102 : kv99 ≤ kv111 ∧ (kv105 = 4 → kv99 < kv111 ∨ kv95 = 4) := by rw [do100_kv99, do100_kv95, d_kv111, d_kv105]; exact pg2_S102
        intro _
        intro x112 ex112
        have q_x112 : x112 = kv105 := ex112.trans d_kv105.symm
        have mo113 : x112 = 5 ∨ ¬ x12 = 4 := mo107.imp_left (fun z => q_x112.trans z)
        have mo114 : x112 = 5 ∨ (0 ≤ x21 ∧ x21 < kv10) := mo108.imp_left (fun z => q_x112.trans z)
        have mo115 : x112 = 5 ∨ ¬ iv4 = 5 := mo109.imp_left (fun z => q_x112.trans z)
        have mo116 : x112 = 5 ∨ ¬ kv51 = 5 := mo110.imp_left (fun z => q_x112.trans z)
        have mo117 : x112 = 5 ∨ ¬ kv95 = 5 := ph1_S102.imp_left (fun z => q_x112.trans z)
        have d_x112 := ex112
        refine ⟨fun c118 => ?_, fun c118 => ?_⟩
        · refine ⟨a7, ea7, ?_⟩
          refine ⟨o_a7, ?_⟩
          obtain ⟨a120, ea120, o_a120, l_a120⟩ := shl 49 rfl hI o_a7
          refine ⟨a120, ea120, ?_⟩
          refine ⟨a7, ea7, ?_⟩
          refine ⟨o_a7, ?_⟩
          intro x122 ex122
          have r_x122 : (0 : Int32) ≤ x122 ∧ x122 ≤ (4 : Int32) := by rw [ex122]; exact nu 21 rfl hI o_a7
          have q_x122 : x122 = x12 := ex122.trans d_x12.symm
          have d_x122 := ex122
          refine ⟨o_a120, ?_⟩
          have i123 : vp_in (((5 : Int32) * x122) + w48) (hN _ a120) := (vin l_a120 (m := 20) (by decide) (qr330 hiv4 r_kv8 r_kv9 r_kv10 hnf r_x12 mo35 mo36 mo37 mo38 ph1_S31 i1u40 p_k0u40 mo113 mo114 mo115 c54 c66 mo116 ph3_S92 bb_x91 c100 mo117 q_x112 c118 r_x122 q_x122))
          refine ⟨i123, ?_⟩
          intro S124 eS124
          have hIn : IV S124 := by rw [eS124]; exact iv10_aI hI o_a7 (rg_nw hG ea7) ea120 o_a120 (by decide)
          have hG := rg_a (jj := 27) (x := (((5 : Int32) * x122) + w48)) eS124 hI ea7 o_a7 ea120 o_a120 (by decide) (h1_no (by decide)) (h2_no (y := 0) (by decide)) hG
          have hn := rn_11 eS124 hI o_v0 o_a120 (by decide) hn
          have hI := hIn
          have f0 := fr_A eS124 g0 f0 o_a120 (by decide)
          have fL43 := fr_A eS124 gL42 fL43 o_a120 (by decide)
          have d_kv8 := rd_Ik eS124 o_a120 o_a7 (by decide) d_kv8
          have d_kv9 := rd_Ik eS124 o_a120 o_a7 (by decide) d_kv9
          have d_kv10 := rd_Ik eS124 o_a120 o_a7 (by decide) d_kv10
          have d_x122 := rd_Ik eS124 o_a120 o_a7 (by decide) d_x122
          have d_x112 := rd_Ik eS124 o_a120 o_v0 (by decide) d_x112
          have d_kv106 := rd_Ik eS124 o_a120 o_v0 (by decide) d_kv106
          have d_kv111 := rd_Ik eS124 o_a120 o_v0 (by decide) d_kv111
          have ea7 := rf_I eS124 ea7
          have ea120 := rf_I eS124 ea120
          have l_a120 := ln_I eS124 l_a120
          have g0 := gr_I eS124 g0
          have gL42 := gr_I eS124 gL42
          have o_a120 := ob_I eS124 o_a120
          have o_a7 := ob_I eS124 o_a7
          have o_v0 := ob_I eS124 o_v0
          intro x125 ex125
          exact ih50 _ _ _ _ ⟨hI, gL42, fL43, rfl, rfl, hG, hn, (qr331 hiv4 r_kv8 r_kv9 r_kv10 hnf r_x12 mo35 mo36 mo37 mo38 ph1_S31 i1u40 p_k0u40 mo113 mo114 mo115 c54 c66 mo116 ph3_S92 bb_x91 c100 mo117 q_x112 c118 r_x122 q_x122 ex125), (by rw [← d_x112]; exact (qr332 hiv4 r_kv8 r_kv9 r_kv10 hnf r_x12 mo35 mo36 mo37 mo38 ph1_S31 i1u40 p_k0u40 mo113 mo114 mo115 c54 c66 mo116 ph3_S92 bb_x91 c100 mo117 q_x112 c118 r_x122 q_x122 ex125)), (by rw [← d_x112, ← d_x122]; exact (qr333 hiv4 r_kv8 r_kv9 r_kv10 hnf r_x12 mo35 mo36 mo37 mo38 ph1_S31 i1u40 p_k0u40 mo113 mo114 mo115 c54 c66 mo116 ph3_S92 bb_x91 c100 mo117 q_x112 c118 r_x122 q_x122 ex125)), (by rw [← d_x112, ← d_kv10]; exact (qr334 hiv4 r_kv8 r_kv9 r_kv10 hnf r_x12 mo35 mo36 mo37 mo38 ph1_S31 i1u40 p_k0u40 mo113 mo114 mo115 c54 c66 mo116 ph3_S92 bb_x91 c100 mo117 q_x112 c118 r_x122 q_x122 ex125)), (by rw [← d_x112]; exact (qr335 hiv4 r_kv8 r_kv9 r_kv10 hnf r_x12 mo35 mo36 mo37 mo38 ph1_S31 i1u40 p_k0u40 mo113 mo114 mo115 c54 c66 mo116 ph3_S92 bb_x91 c100 mo117 q_x112 c118 r_x122 q_x122 ex125)), (by rw [← d_kv111, ← d_x112]; exact (qr336 r_kv1 hiv2 hiv4 r_kv8 r_kv9 r_kv10 hnf r_x12 mo35 r_kv19 ph2_S14 mo36 hiv20 mo37 ph2_S22 mo38 ph1_S31 r_kv39 ph2_S31 i1u40 p_k0u40 mo113 mo114 mo115 p_k4u40 c54 c66 mo116 r_kv99 ph2_S92 ph3_S92 bb_x91 c100 mo117 r_kv111 ph2_S102 q_x112 c118 r_x122 q_x122 ex125)), (by rw [← d_x112, ← d_kv106]; exact (qr337 hiv4 hiv6 hO r_kv8 r_kv9 r_kv10 hnf r_x12 ph0_S14 mo35 mo36 ph0_S22 mo37 mo38 hiv29 ph0_S31 ph1_S31 i1u40 p_k0u40 mo113 mo114 mo115 p_k5u40 c54 c66 hiv90 ph0_S92 mo116 ph3_S92 bb_x91 c100 ph0_S102 mo117 q_x112 c118 r_x122 q_x122 ex125))⟩ (mu_up (qr338 hiv4 r_kv8 r_kv9 r_kv10 hnf r_x12 mo35 mo36 mo37 mo38 ph1_S31 i1u40 p_k0u40 mo113 mo114 mo115 c54 c66 mo116 ph3_S92 bb_x91 c100 mo117 q_x112 c118 r_x122 q_x122 ex125) (qr339 hiv4 r_kv8 r_kv9 r_kv10 hnf r_x12 mo35 mo36 mo37 mo38 ph1_S31 i1u40 p_k0u40 mo113 mo114 mo115 c54 c66 mo116 ph3_S92 bb_x91 c100 mo117 q_x112 c118 r_x122 q_x122 ex125))
        · exact hq _ hI g0 f0 ⟨hG, hn, (by have t : x112 = 5 → 0 < kv106 := (qr340 hiv4 hiv6 hO r_kv8 r_kv9 r_kv10 hnf r_x12 ph0_S14 mo35 mo36 ph0_S22 mo37 mo38 hiv29 ph0_S31 ph1_S31 i1u40 p_k0u40 mo113 mo114 mo115 p_k5u40 c54 c66 hiv90 ph0_S92 mo116 ph3_S92 bb_x91 c100 ph0_S102 mo117 q_x112 c118); rw [d_x112, d_kv106] at t; exact t), (by have t : x112 = 5 ∨ ¬ iv4 = 5 := (qr341 hiv4 r_kv8 r_kv9 r_kv10 hnf r_x12 mo35 mo36 mo37 mo38 ph1_S31 i1u40 p_k0u40 mo113 mo114 mo115 c54 c66 mo116 ph3_S92 bb_x91 c100 mo117 q_x112 c118); rw [di_9, d_x112] at t; exact t), (by have t : iv2 ≤ kv111 ∧ (x112 = 4 → iv2 < kv111 ∨ iv4 = 4) := (qr342 r_kv1 hiv2 hiv4 r_kv8 r_kv9 r_kv10 hnf r_x12 mo35 r_kv19 ph2_S14 mo36 hiv20 mo37 ph2_S22 mo38 ph1_S31 r_kv39 ph2_S31 i1u40 p_k0u40 mo113 mo114 mo115 p_k4u40 c54 c66 mo116 r_kv99 ph2_S92 ph3_S92 bb_x91 c100 mo117 r_kv111 ph2_S102 q_x112 c118); rw [di_8, di_9, d_kv111, d_x112] at t; exact t)⟩
      · obtain ⟨iv126, hiv126⟩ : ∃ z : Int32, z = kv99 := ⟨_, rfl⟩
        have d_iv126 := hiv126.trans d_kv99
        have do126_iv126 := d_iv126
        have do126_kv95 := d_kv95
        have do126_kv53 := d_kv53
        refine m_X11_flaw hI o_v0 (qr343 hiv4 r_kv8 r_kv9 r_kv10 hnf r_x12 mo35 mo36 mo37 mo38 ph1_S31 i1u40 p_k0u40 mo96 mo97 mo98 c54 c66 ph1_S92 ph3_S92 bb_x91 c100) hG (by have t : kv95 = 5 → 0 < kv53 := (qr344 hiv4 hiv6 hO r_kv8 r_kv9 r_kv10 hnf r_x12 ph0_S14 mo35 mo36 ph0_S22 mo37 mo38 hiv29 ph0_S31 ph1_S31 i1u40 p_k0u40 mo96 mo97 mo98 p_k5u40 c54 c66 hiv90 ph0_S92 ph1_S92 ph3_S92 bb_x91 c100); rw [d_kv95, d_kv53] at t; exact t) (fun S128 hJ g129 fc130 p_S128 => ?_)
        obtain ⟨hG, pg0_S128, pg1_S128, pg2_S128, pg3_S128⟩ := p_S128
        have hn := rn_fr fc130 g129 hI o_v0 (by decide) hn
        have hI := hJ
        have d_kv8 := d_kv8.trans (fri_at fc130 (by decide) (by decide) o_a7).symm
        have d_kv9 := d_kv9.trans (fri_at fc130 (by decide) (by decide) o_a7).symm
        have d_kv10 := d_kv10.trans (fri_at fc130 (by decide) (by decide) o_a7).symm
        have d_x12 := d_x12.trans (fri_at fc130 (by decide) (by decide) o_a7).symm
        have d_kv99 := d_kv99.trans (fri_at fc130 (by decide) (by decide) o_v0).symm
        have ea7 := (frr_at fc130 (by decide) (by decide) o_v0).trans ea7
        have f0 := fri_tr (S := S92) g0 f0 fc130 (by decide) (by decide)
        have fL43 := fri_tr (S := S92) gL42 fL43 fc130 (by decide) (by decide)
        have o_a7 := gr_ob g129 o_a7
        have o_v0 := gr_ob g129 o_v0
        have g0 := gr_tr (T := S92) g0 g129
        have gL42 := gr_tr (T := S92) gL42 g129
        obtain ⟨kv131, d_kv131⟩ : ∃ z : Int32, z = fI S128 v0 9 := ⟨_, rfl⟩
        obtain ⟨kv132, d_kv132⟩ : ∃ z : Int32, z = fI S128 v0 13 := ⟨_, rfl⟩
        have ph0_S128 : kv131 = 5 → 0 < kv132 := by rw [d_kv131, d_kv132]; exact pg0_S128
        have ph1_S128 : kv131 = 5 ∨ ¬ kv95 = 5 := by rw [do126_kv95, d_kv131]; exact pg1_S128
        have mo133 : kv131 = 5 ∨ ¬ x12 = 4 := ph1_S128.elim Or.inl (fun h => Or.inr (mo96.resolve_left h))
        have mo134 : kv131 = 5 ∨ (0 ≤ x21 ∧ x21 < kv10) := ph1_S128.elim Or.inl (fun h => Or.inr (mo97.resolve_left h))
        have mo135 : kv131 = 5 ∨ ¬ iv4 = 5 := ph1_S128.elim Or.inl (fun h => Or.inr (mo98.resolve_left h))
        have mo136 : kv131 = 5 ∨ ¬ kv51 = 5 := ph1_S128.elim Or.inl (fun h => Or.inr (ph1_S92.resolve_left h))
        have ph2_S128 : iv126 ≤ kv99 ∧ (kv131 = 4 → iv126 < kv99 ∨ kv95 = 4) := by rw [do126_iv126, do126_kv95, d_kv99, d_kv131]; exact pg2_S128
        have ph3_S128 : kv131 = 5 := by rw [d_kv131]; exact pg3_S128
        intro _
        refine u_X11_readSeen_47 ?_
        refine ⟨o_v0, ?_⟩
        have do136_kv99 := d_kv99
        have do136_kv131 := d_kv131
        have do136_kv132 := d_kv132
        refine m_X11_readWhole hI o_v0 hG (by have t : kv131 = 5 → 0 < kv132 := (qr345 hiv4 hiv6 hO r_kv8 r_kv9 r_kv10 hnf r_x12 ph0_S14 mo35 mo36 ph0_S22 mo37 mo38 hiv29 ph0_S31 ph1_S31 i1u40 p_k0u40 mo133 mo134 mo135 p_k5u40 c54 c66 hiv90 ph0_S92 mo136 ph3_S92 bb_x91 c100 ph0_S128 ph1_S128 ph3_S128); rw [d_kv131, d_kv132] at t; exact t) (fun x137 S138 hJ g139 fc140 p_x137 => ?_)
        obtain ⟨hG, p_x137, pg0_S138, pg1_S138, pg2_S138⟩ := p_x137
        have hn := rn_fr fc140 g139 hI o_v0 (by decide) hn
        have hI := hJ
        have d_kv8 := d_kv8.trans (fri_at fc140 (by decide) (by decide) o_a7).symm
        have d_kv9 := d_kv9.trans (fri_at fc140 (by decide) (by decide) o_a7).symm
        have d_kv10 := d_kv10.trans (fri_at fc140 (by decide) (by decide) o_a7).symm
        have d_x12 := d_x12.trans (fri_at fc140 (by decide) (by decide) o_a7).symm
        have ea7 := (frr_at fc140 (by decide) (by decide) o_v0).trans ea7
        have f0 := fri_tr (S := S128) g0 f0 fc140 (by decide) (by decide)
        have fL43 := fri_tr (S := S128) gL42 fL43 fc140 (by decide) (by decide)
        have o_a7 := gr_ob g139 o_a7
        have o_v0 := gr_ob g139 o_v0
        have g0 := gr_tr (T := S128) g0 g139
        have gL42 := gr_tr (T := S128) gL42 g139
        obtain ⟨kv141, d_kv141⟩ : ∃ z : Int32, z = fI S138 v0 9 := ⟨_, rfl⟩
        obtain ⟨kv142, d_kv142⟩ : ∃ z : Int32, z = fI S138 v0 13 := ⟨_, rfl⟩
        have ph0_S138 : kv141 = 5 → 0 < kv142 := by rw [d_kv141, d_kv142]; exact pg0_S138
        have ph1_S138 : kv141 = 5 ∨ ¬ kv131 = 5 := by rw [do136_kv131, d_kv141]; exact pg1_S138
        have mo143 : kv141 = 5 ∨ ¬ x12 = 4 := ph1_S138.elim Or.inl (fun h => Or.inr (mo133.resolve_left h))
        have mo144 : kv141 = 5 ∨ (0 ≤ x21 ∧ x21 < kv10) := ph1_S138.elim Or.inl (fun h => Or.inr (mo134.resolve_left h))
        have mo145 : kv141 = 5 ∨ ¬ iv4 = 5 := ph1_S138.elim Or.inl (fun h => Or.inr (mo135.resolve_left h))
        have mo146 : kv141 = 5 ∨ ¬ kv51 = 5 := ph1_S138.elim Or.inl (fun h => Or.inr (mo136.resolve_left h))
        have mo147 : kv141 = 5 ∨ ¬ kv95 = 5 := ph1_S138.elim Or.inl (fun h => Or.inr (ph1_S128.resolve_left h))
        obtain ⟨kv148, d_kv148⟩ : ∃ z : Int32, z = fI S138 v0 8 := ⟨_, rfl⟩
        have r_kv148 : (0 : Int32) ≤ kv148 ∧ kv148 ≤ (900 : Int32) := by rw [d_kv148]; exact nu 25 rfl hI o_v0
        have ph2_S138 : kv99 ≤ kv148 ∧ (kv141 = 4 → kv99 < kv148 ∨ kv131 = 4) := by rw [do136_kv99, do136_kv131, d_kv148, d_kv141]; exact pg2_S138
        intro _
        intro x149 ex149
        have q_x149 : x149 = kv141 := ex149.trans d_kv141.symm
        have mo150 : x149 = 5 ∨ ¬ x12 = 4 := mo143.imp_left (fun z => q_x149.trans z)
        have mo151 : x149 = 5 ∨ (0 ≤ x21 ∧ x21 < kv10) := mo144.imp_left (fun z => q_x149.trans z)
        have mo152 : x149 = 5 ∨ ¬ iv4 = 5 := mo145.imp_left (fun z => q_x149.trans z)
        have mo153 : x149 = 5 ∨ ¬ kv51 = 5 := mo146.imp_left (fun z => q_x149.trans z)
        have mo154 : x149 = 5 ∨ ¬ kv95 = 5 := mo147.imp_left (fun z => q_x149.trans z)
        have mo155 : x149 = 5 ∨ ¬ kv131 = 5 := ph1_S138.imp_left (fun z => q_x149.trans z)
        have d_x149 := ex149
        refine ⟨fun c156 => ?_, fun c156 => ?_⟩
        · refine ⟨a7, ea7, ?_⟩
          refine ⟨o_a7, ?_⟩
          obtain ⟨a158, ea158, o_a158, l_a158⟩ := shl 49 rfl hI o_a7
          refine ⟨a158, ea158, ?_⟩
          refine ⟨a7, ea7, ?_⟩
          refine ⟨o_a7, ?_⟩
          intro x160 ex160
          have r_x160 : (0 : Int32) ≤ x160 ∧ x160 ≤ (4 : Int32) := by rw [ex160]; exact nu 21 rfl hI o_a7
          have q_x160 : x160 = x12 := ex160.trans d_x12.symm
          have d_x160 := ex160
          refine ⟨o_a158, ?_⟩
          have i161 : vp_in (((5 : Int32) * x160) + w48) (hN _ a158) := (vin l_a158 (m := 20) (by decide) (qr346 hiv4 r_kv8 r_kv9 r_kv10 hnf r_x12 mo35 mo36 mo37 mo38 ph1_S31 i1u40 p_k0u40 mo150 mo151 mo152 c54 c66 mo153 ph3_S92 bb_x91 c100 mo154 ph3_S128 mo155 q_x149 c156 r_x160 q_x160))
          refine ⟨i161, ?_⟩
          intro S162 eS162
          have hIn : IV S162 := by rw [eS162]; exact iv10_aI hI o_a7 (rg_nw hG ea7) ea158 o_a158 (by decide)
          have hG := rg_a (jj := 27) (x := (((5 : Int32) * x160) + w48)) eS162 hI ea7 o_a7 ea158 o_a158 (by decide) (h1_no (by decide)) (h2_no (y := 0) (by decide)) hG
          have hn := rn_11 eS162 hI o_v0 o_a158 (by decide) hn
          have hI := hIn
          have f0 := fr_A eS162 g0 f0 o_a158 (by decide)
          have fL43 := fr_A eS162 gL42 fL43 o_a158 (by decide)
          have d_kv8 := rd_Ik eS162 o_a158 o_a7 (by decide) d_kv8
          have d_kv9 := rd_Ik eS162 o_a158 o_a7 (by decide) d_kv9
          have d_kv10 := rd_Ik eS162 o_a158 o_a7 (by decide) d_kv10
          have d_x160 := rd_Ik eS162 o_a158 o_a7 (by decide) d_x160
          have d_x149 := rd_Ik eS162 o_a158 o_v0 (by decide) d_x149
          have d_kv142 := rd_Ik eS162 o_a158 o_v0 (by decide) d_kv142
          have d_kv148 := rd_Ik eS162 o_a158 o_v0 (by decide) d_kv148
          have ea7 := rf_I eS162 ea7
          have ea158 := rf_I eS162 ea158
          have l_a158 := ln_I eS162 l_a158
          have g0 := gr_I eS162 g0
          have gL42 := gr_I eS162 gL42
          have o_a158 := ob_I eS162 o_a158
          have o_a7 := ob_I eS162 o_a7
          have o_v0 := ob_I eS162 o_v0
          intro x163 ex163
          exact ih50 _ _ _ _ ⟨hI, gL42, fL43, rfl, rfl, hG, hn, (qr347 hiv4 r_kv8 r_kv9 r_kv10 hnf r_x12 mo35 mo36 mo37 mo38 ph1_S31 i1u40 p_k0u40 mo150 mo151 mo152 c54 c66 mo153 ph3_S92 bb_x91 c100 mo154 ph3_S128 mo155 q_x149 c156 r_x160 q_x160 ex163), (by rw [← d_x149]; exact (qr348 hiv4 r_kv8 r_kv9 r_kv10 hnf r_x12 mo35 mo36 mo37 mo38 ph1_S31 i1u40 p_k0u40 mo150 mo151 mo152 c54 c66 mo153 ph3_S92 bb_x91 c100 mo154 ph3_S128 mo155 q_x149 c156 r_x160 q_x160 ex163)), (by rw [← d_x149, ← d_x160]; exact (qr349 hiv4 r_kv8 r_kv9 r_kv10 hnf r_x12 mo35 mo36 mo37 mo38 ph1_S31 i1u40 p_k0u40 mo150 mo151 mo152 c54 c66 mo153 ph3_S92 bb_x91 c100 mo154 ph3_S128 mo155 q_x149 c156 r_x160 q_x160 ex163)), (by rw [← d_x149, ← d_kv10]; exact (qr350 hiv4 r_kv8 r_kv9 r_kv10 hnf r_x12 mo35 mo36 mo37 mo38 ph1_S31 i1u40 p_k0u40 mo150 mo151 mo152 c54 c66 mo153 ph3_S92 bb_x91 c100 mo154 ph3_S128 mo155 q_x149 c156 r_x160 q_x160 ex163)), (by rw [← d_x149]; exact (qr351 hiv4 r_kv8 r_kv9 r_kv10 hnf r_x12 mo35 mo36 mo37 mo38 ph1_S31 i1u40 p_k0u40 mo150 mo151 mo152 c54 c66 mo153 ph3_S92 bb_x91 c100 mo154 ph3_S128 mo155 q_x149 c156 r_x160 q_x160 ex163)), (by rw [← d_kv148, ← d_x149]; exact (qr352 r_kv1 hiv2 hiv4 r_kv8 r_kv9 r_kv10 hnf r_x12 mo35 r_kv19 ph2_S14 mo36 hiv20 mo37 ph2_S22 mo38 ph1_S31 r_kv39 ph2_S31 i1u40 p_k0u40 mo150 mo151 mo152 p_k4u40 c54 c66 mo153 r_kv99 ph2_S92 ph3_S92 bb_x91 c100 hiv126 mo154 ph2_S128 ph3_S128 mo155 r_kv148 ph2_S138 q_x149 c156 r_x160 q_x160 ex163)), (by rw [← d_x149, ← d_kv142]; exact (qr353 hiv4 hiv6 hO r_kv8 r_kv9 r_kv10 hnf r_x12 ph0_S14 mo35 mo36 ph0_S22 mo37 mo38 hiv29 ph0_S31 ph1_S31 i1u40 p_k0u40 mo150 mo151 mo152 p_k5u40 c54 c66 hiv90 ph0_S92 mo153 ph3_S92 bb_x91 c100 ph0_S128 mo154 ph3_S128 ph0_S138 mo155 q_x149 c156 r_x160 q_x160 ex163))⟩ (mu_up (qr354 hiv4 r_kv8 r_kv9 r_kv10 hnf r_x12 mo35 mo36 mo37 mo38 ph1_S31 i1u40 p_k0u40 mo150 mo151 mo152 c54 c66 mo153 ph3_S92 bb_x91 c100 mo154 ph3_S128 mo155 q_x149 c156 r_x160 q_x160 ex163) (qr355 hiv4 r_kv8 r_kv9 r_kv10 hnf r_x12 mo35 mo36 mo37 mo38 ph1_S31 i1u40 p_k0u40 mo150 mo151 mo152 c54 c66 mo153 ph3_S92 bb_x91 c100 mo154 ph3_S128 mo155 q_x149 c156 r_x160 q_x160 ex163))
        · exact hq _ hI g0 f0 ⟨hG, hn, (by have t : x149 = 5 → 0 < kv142 := (qr356 hiv4 hiv6 hO r_kv8 r_kv9 r_kv10 hnf r_x12 ph0_S14 mo35 mo36 ph0_S22 mo37 mo38 hiv29 ph0_S31 ph1_S31 i1u40 p_k0u40 mo150 mo151 mo152 p_k5u40 c54 c66 hiv90 ph0_S92 mo153 ph3_S92 bb_x91 c100 ph0_S128 mo154 ph3_S128 ph0_S138 mo155 q_x149 c156); rw [d_x149, d_kv142] at t; exact t), (by have t : x149 = 5 ∨ ¬ iv4 = 5 := (qr357 hiv4 r_kv8 r_kv9 r_kv10 hnf r_x12 mo35 mo36 mo37 mo38 ph1_S31 i1u40 p_k0u40 mo150 mo151 mo152 c54 c66 mo153 ph3_S92 bb_x91 c100 mo154 ph3_S128 mo155 q_x149 c156); rw [di_9, d_x149] at t; exact t), (by have t : iv2 ≤ kv148 ∧ (x149 = 4 → iv2 < kv148 ∨ iv4 = 4) := (qr358 r_kv1 hiv2 hiv4 r_kv8 r_kv9 r_kv10 hnf r_x12 mo35 r_kv19 ph2_S14 mo36 hiv20 mo37 ph2_S22 mo38 ph1_S31 r_kv39 ph2_S31 i1u40 p_k0u40 mo150 mo151 mo152 p_k4u40 c54 c66 mo153 r_kv99 ph2_S92 ph3_S92 bb_x91 c100 hiv126 mo154 ph2_S128 ph3_S128 mo155 r_kv148 ph2_S138 q_x149 c156); rw [di_8, di_9, d_kv148, d_x149] at t; exact t)⟩
