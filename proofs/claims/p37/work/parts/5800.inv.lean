set_option maxHeartbeats 4000000 in
set_option maxRecDepth 20000 in
theorem m_X10_find {v0 : Nat} {v1 : Int64} {Q : Int32 → HS → Prop} {S : HS} (hI : IV S) (o_v0 : ob S v0 10)     (hq : ∀ (r : Int32) (T : HS), IV T → Gr S T → (S = T) ∧ (r = -1 ∨ (0 ≤ r ∧ r < fI S v0 6)) → Q r T) : P_X10_find v0 v1 Q S := by
  have g0 := gr_rf S
  refine u_X10_find ?_
  refine u_X10_find_0 ?_
  refine i_X10_find_2 (fun (y0 : Nat) (y1 : Int64) (y3 : Int32) (Z : HS) => ((2147483647 : Int32).toInt - y3.toInt).toNat) (fun (y0 : Nat) (y1 : Int64) (y3 : Int32) (Z : HS) => (S = Z) ∧ (v0 = y0) ∧ (v1 = y1) ∧ (0 ≤ y3)) ?_ _ _ _ _ ⟨rfl, rfl, rfl, (qr694)⟩
  intro w5 w7 w9 S2 X10 ⟨eS2, q6, q8, i1u1⟩ ih11
  subst q6
  subst q8
  subst eS2
  refine u_X10_find_2 ?_
  refine ⟨o_v0, ?_⟩
  intro x12 ex12
  have r_x12 : (0 : Int32) ≤ x12 ∧ x12 ≤ (12 : Int32) := by rw [ex12]; exact nu 22 rfl hI o_v0
  have d_x12 := ex12
  refine ⟨fun c13 => ?_, fun c13 => ?_⟩
  · exact hq _ _ hI g0 ⟨rfl, (Or.inl rfl)⟩
  · obtain ⟨a14, ea14, o_a14, l_a14⟩ := shl 50 rfl hI o_v0
    refine ⟨a14, ea14, ?_⟩
    refine ⟨o_a14, ?_⟩
    refine ⟨(vin l_a14 (m := 12) (by decide) (qr809 i1u1 r_x12 c13)), ?_⟩
    intro x15 ex15
    refine ⟨fun c16 => ?_, fun c16 => ?_⟩
    · intro x17 ex17
      exact ih11 _ _ _ _ ⟨rfl, rfl, rfl, (qr810 i1u1 r_x12 c13 c16 ex17)⟩ (mu_up (qr811 i1u1 r_x12 c13 c16 ex17) (qr812 i1u1 r_x12 c13 c16 ex17))
    · exact hq _ _ hI g0 ⟨rfl, (Or.inr ⟨(qr813 i1u1 r_x12 c13 c16), by rw [← d_x12]; exact (qr814 i1u1 r_x12 c13 c16)⟩)⟩
set_option maxHeartbeats 4000000 in
set_option maxRecDepth 20000 in
theorem m_X11_flaw {v0 : Nat} {v1 : Int32} {Q : HS → Prop} {S : HS} (hI : IV S) (o_v0 : ob S v0 11)   (h1 : 1 ≤ v1) (hG : RG S v0) (hO : fI S v0 9 = 5 → 0 < fI S v0 13) (hq : ∀ (T : HS), IV T → Gr S T → FRI [(11, 9), (11, 13), (11, 14)] [] S T → (RG T v0) ∧ (fI T v0 9 = 5 → 0 < fI T v0 13) ∧ (fI T v0 9 = 5 ∨ ¬ fI S v0 9 = 5) ∧ (fI S v0 8 ≤ fI T v0 8 ∧ (fI T v0 9 = 4 → fI S v0 8 < fI T v0 8 ∨ fI S v0 9 = 4)) ∧ (fI T v0 9 = 5) → Q T) : P_X11_flaw v0 v1 Q S := by
  have g0 := gr_rf S
  have f0 := fri_rf [(11, 9), (11, 13), (11, 14)] [] S
  obtain ⟨kv1, d_kv1⟩ : ∃ z : Int32, z = fI S v0 8 := ⟨_, rfl⟩
  have r_kv1 : (0 : Int32) ≤ kv1 ∧ kv1 ≤ (900 : Int32) := by rw [d_kv1]; exact nu 25 rfl hI o_v0
  obtain ⟨iv2, hiv2⟩ : ∃ z : Int32, z = kv1 := ⟨_, rfl⟩
  have di_8 := hiv2.trans d_kv1
  obtain ⟨kv3, d_kv3⟩ : ∃ z : Int32, z = fI S v0 9 := ⟨_, rfl⟩
  obtain ⟨iv4, hiv4⟩ : ∃ z : Int32, z = kv3 := ⟨_, rfl⟩
  have di_9 := hiv4.trans d_kv3
  obtain ⟨kv5, d_kv5⟩ : ∃ z : Int32, z = fI S v0 13 := ⟨_, rfl⟩
  obtain ⟨iv6, hiv6⟩ : ∃ z : Int32, z = kv5 := ⟨_, rfl⟩
  have di_13 := hiv6.trans d_kv5
  have hO : iv4 = 5 → 0 < iv6 := by rw [di_9, di_13]; exact hO
  refine u_X11_flaw ?_
  refine u_X11_flaw_0 ?_
  refine ⟨o_v0, ?_⟩
  intro x7 ex7
  have q_x7 : x7 = kv3 := ex7.trans d_kv3.symm
  have d_x7 := ex7
  refine ⟨fun c8 => ?_, fun c8 => ?_⟩
  · intro S9 eS9
    have hIn : IV S9 := by rw [eS9]; exact iv11_sI hI o_v0 (by decide) (nu_free (by decide))
    have hG := rg_11 eS9 hI o_v0 hG
    have hI := hIn
    have f0 := fr_I eS9 g0 f0 o_v0 (by decide)
    have d_kv1 := rd_Ij eS9 (by decide) d_kv1
    have d_x7 := rd_Ij eS9 (by decide) d_x7
    have d_v1 := rd_Is eS9 (rfl : v1 = v1)
    have g0 := gr_I eS9 g0
    have o_v0 := ob_I eS9 o_v0
    intro x10 ex10
    have d_x10 := ex10
    intro S11 eS11
    have hIn : IV S11 := by rw [eS11]; exact iv11_sI hI o_v0 (by decide) (nu_free (by decide))
    have hG := rg_11 eS11 hI o_v0 hG
    have hI := hIn
    have f0 := fr_I eS11 g0 f0 o_v0 (by decide)
    have d_kv1 := rd_Ij eS11 (by decide) d_kv1
    have d_x7 := rd_Ij eS11 (by decide) d_x7
    have d_v1 := rd_Ij eS11 (by decide) d_v1
    have d_x10 := rd_Ij eS11 (by decide) d_x10
    obtain ⟨kv12, hkv12⟩ : ∃ z : Int32, z = x10 := ⟨_, rfl⟩
    have d_kv12 := rd_Is eS11 hkv12
    have g0 := gr_I eS11 g0
    have o_v0 := ob_I eS11 o_v0
    intro S13 eS13
    have hIn : IV S13 := by rw [eS13]; exact iv11_sI hI o_v0 (by decide) (nu_free (by decide))
    have hG := rg_11 eS13 hI o_v0 hG
    have hI := hIn
    have f0 := fr_I eS13 g0 f0 o_v0 (by decide)
    have d_kv1 := rd_Ij eS13 (by decide) d_kv1
    have d_v1 := rd_Ij eS13 (by decide) d_v1
    have d_x10 := rd_Ij eS13 (by decide) d_x10
    have d_kv12 := rd_Ij eS13 (by decide) d_kv12
    obtain ⟨kv14, hkv14⟩ : ∃ z : Int32, z = (5 : Int32) := ⟨_, rfl⟩
    have d_kv14 := rd_Is eS13 hkv14
    have g0 := gr_I eS13 g0
    have o_v0 := ob_I eS13 o_v0
    exact hq _ hI g0 f0 ⟨hG, (by have t : kv14 = 5 → 0 < v1 := (qr761 h1 hiv4 hiv6 hO q_x7 c8 hkv14); rw [d_kv14, d_v1] at t; exact t), (by have t : kv14 = 5 ∨ ¬ iv4 = 5 := (qr762 hiv4 q_x7 c8 hkv14); rw [di_9, d_kv14] at t; exact t), (by have t : iv2 ≤ kv1 ∧ (kv14 = 4 → iv2 < kv1 ∨ iv4 = 4) := (qr763 r_kv1 hiv2 hiv4 q_x7 c8 hkv14); rw [di_8, di_9, d_kv1, d_kv14] at t; exact t), (by have t : kv14 = 5 := (qr764 hiv4 q_x7 c8 hkv14); rw [d_kv14] at t; exact t)⟩
  · exact hq _ hI g0 f0 ⟨hG, (by have t : x7 = 5 → 0 < kv5 := (qr752 hiv4 hiv6 hO q_x7 c8); rw [d_x7, d_kv5] at t; exact t), (by have t : x7 = 5 ∨ ¬ iv4 = 5 := (qr753 hiv4 q_x7 c8); rw [di_9, d_x7] at t; exact t), (by have t : iv2 ≤ kv1 ∧ (x7 = 4 → iv2 < kv1 ∨ iv4 = 4) := (qr754 r_kv1 hiv2 hiv4 q_x7 c8); rw [di_8, di_9, d_kv1, d_x7] at t; exact t), (by have t : x7 = 5 := (qr765 hiv4 q_x7 c8); rw [d_x7] at t; exact t)⟩
set_option maxHeartbeats 4000000 in
set_option maxRecDepth 20000 in
theorem m_X11_byteAt {v0 : Nat} {v1 : Int32} {Q : Int32 → HS → Prop} {S : HS} (hI : IV S) (o_v0 : ob S v0 11)   (h1 : 0 ≤ v1)  (hq : ∀ (r : Int32) (T : HS), IV T → Gr S T → (S = T) ∧ (r = -1 ∨ v1 < fI S v0 7) → Q r T) : P_X11_byteAt v0 v1 Q S := by
  have g0 := gr_rf S
  refine u_X11_byteAt ?_
  refine u_X11_byteAt_0 ?_
  refine ⟨o_v0, ?_⟩
  intro x1 ex1
  have r_x1 : (0 : Int32) ≤ x1 ∧ x1 ≤ (900 : Int32) := by rw [ex1]; exact nu 24 rfl hI o_v0
  have d_x1 := ex1
  refine ⟨fun c2 => ?_, fun c2 => ?_⟩
  · exact hq _ _ hI g0 ⟨rfl, (Or.inl rfl)⟩
  · obtain ⟨a3, ea3, o_a3, l_a3⟩ := shl 53 rfl hI o_v0
    refine ⟨a3, ea3, ?_⟩
    refine ⟨o_a3, ?_⟩
    refine ⟨(vin l_a3 (m := 900) (by decide) (qr781 h1 r_x1 c2)), ?_⟩
    intro x4 ex4
    exact hq _ _ hI g0 ⟨rfl, (Or.inr (by rw [← d_x1]; exact (qr782 h1 r_x1 c2)))⟩
set_option maxHeartbeats 4000000 in
set_option maxRecDepth 20000 in
theorem m_X11_isDigit {v0 : Int32} {Q : Int32 → HS → Prop} {S : HS} (hI : IV S)      (hq : ∀ (r : Int32) (T : HS), IV T → Gr S T → bl r → (S = T) ∧ (r = 0 ∨ (48 ≤ v0 ∧ v0 ≤ 57)) → Q r T) : P_X11_isDigit v0 Q S := by
  have g0 := gr_rf S
  refine u_X11_isDigit ?_
  refine u_X11_isDigit_0 ?_
  refine ⟨fun c1 => ?_, fun c1 => ?_⟩
  · exact hq _ _ hI g0 (Or.inl rfl) ⟨rfl, (qr758 c1)⟩
  · refine ⟨fun c2 => ?_, fun c2 => ?_⟩
    · exact hq _ _ hI g0 (Or.inl rfl) ⟨rfl, (qr759 c1 c2)⟩
    · exact hq _ _ hI g0 (Or.inr rfl) ⟨rfl, (qr760 c1 c2)⟩
set_option maxHeartbeats 4000000 in
set_option maxRecDepth 20000 in
theorem m_X11_isLetter {v0 : Int32} {Q : Int32 → HS → Prop} {S : HS} (hI : IV S)      (hq : ∀ (r : Int32) (T : HS), IV T → Gr S T → bl r → (S = T) ∧ (r = 0 ∨ (97 ≤ v0 ∧ v0 ≤ 122)) → Q r T) : P_X11_isLetter v0 Q S := by
  have g0 := gr_rf S
  refine u_X11_isLetter ?_
  refine u_X11_isLetter_0 ?_
  refine ⟨fun c1 => ?_, fun c1 => ?_⟩
  · exact hq _ _ hI g0 (Or.inl rfl) ⟨rfl, (qr755 c1)⟩
  · refine ⟨fun c2 => ?_, fun c2 => ?_⟩
    · exact hq _ _ hI g0 (Or.inl rfl) ⟨rfl, (qr756 c1 c2)⟩
    · exact hq _ _ hI g0 (Or.inr rfl) ⟨rfl, (qr757 c1 c2)⟩
set_option maxHeartbeats 4000000 in
set_option maxRecDepth 20000 in
theorem m_X11_goesOn {v0 : Nat} {Q : HS → Prop} {S : HS} (hI : IV S) (o_v0 : ob S v0 11)    (hG : RG S v0) (hO : fI S v0 9 = 5 → 0 < fI S v0 13) (hq : ∀ (T : HS), IV T → Gr S T → FRI [(11, 8), (11, 9), (11, 10), (11, 11), (11, 12)] [] S T → (RG T v0) ∧ (fI T v0 9 = 5 → 0 < fI T v0 13) ∧ (fI T v0 9 = 5 ∨ ¬ fI S v0 9 = 5) ∧ (fI S v0 8 ≤ fI T v0 8 ∧ (fI T v0 9 = 4 → fI S v0 8 < fI T v0 8 ∨ fI S v0 9 = 4)) → Q T) : P_X11_goesOn v0 Q S := by
  have g0 := gr_rf S
  have f0 := fri_rf [(11, 8), (11, 9), (11, 10), (11, 11), (11, 12)] [] S
  obtain ⟨kv1, d_kv1⟩ : ∃ z : Int32, z = fI S v0 8 := ⟨_, rfl⟩
  have r_kv1 : (0 : Int32) ≤ kv1 ∧ kv1 ≤ (900 : Int32) := by rw [d_kv1]; exact nu 25 rfl hI o_v0
  obtain ⟨iv2, hiv2⟩ : ∃ z : Int32, z = kv1 := ⟨_, rfl⟩
  have di_8 := hiv2.trans d_kv1
  obtain ⟨kv3, d_kv3⟩ : ∃ z : Int32, z = fI S v0 9 := ⟨_, rfl⟩
  obtain ⟨iv4, hiv4⟩ : ∃ z : Int32, z = kv3 := ⟨_, rfl⟩
  have di_9 := hiv4.trans d_kv3
  obtain ⟨kv5, d_kv5⟩ : ∃ z : Int32, z = fI S v0 13 := ⟨_, rfl⟩
  obtain ⟨iv6, hiv6⟩ : ∃ z : Int32, z = kv5 := ⟨_, rfl⟩
  have di_13 := hiv6.trans d_kv5
  have hO : iv4 = 5 → 0 < iv6 := by rw [di_9, di_13]; exact hO
  refine u_X11_goesOn ?_
  refine u_X11_goesOn_0 ?_
  refine ⟨o_v0, ?_⟩
  intro x7 ex7
  have q_x7 : x7 = kv3 := ex7.trans d_kv3.symm
  have d_x7 := ex7
  refine ⟨fun c8 => ?_, fun c8 => ?_⟩
  · refine i_X11_goesOn_9 (fun (y0 : Nat) (Z : HS) => ((901 : Int32).toInt - (fI Z v0 8).toInt).toNat) (fun (y0 : Nat) (Z : HS) => (IV Z) ∧ (Gr S Z) ∧ (FRI [(11, 8)] [] S Z) ∧ (v0 = y0) ∧ (RG Z v0) ∧ (iv2 ≤ fI Z v0 8)) ?_ _ _ ⟨hI, (gr_rf _), (fri_rf _ _ _), rfl, hG, (by rw [← d_kv1]; exact (qr699 r_kv1 hiv2 hiv4 q_x7 c8))⟩
    intro w13 S10 X15 ⟨hI, gL11, fL12, q14, hG, k1u9⟩ ih16
    subst q14
    have d_x7 := d_x7.trans (fri_at fL12 (by decide) (by decide) o_v0).symm
    have d_kv5 := d_kv5.trans (fri_at fL12 (by decide) (by decide) o_v0).symm
    have f0 := fri_tr (S := S) g0 f0 fL12 (by decide) (by decide)
    have o_v0 := gr_ob gL11 o_v0
    have g0 := gr_tr (T := S) g0 gL11
    obtain ⟨kv17, d_kv17⟩ : ∃ z : Int32, z = fI S10 v0 8 := ⟨_, rfl⟩
    have p_k1u9 : iv2 ≤ kv17 := by rw [d_kv17]; exact k1u9
    have d0_kv17 := d_kv17
    refine u_X11_goesOn_9 ?_
    refine ⟨o_v0, ?_⟩
    intro x18 ex18
    have r_x18 : (0 : Int32) ≤ x18 ∧ x18 ≤ (900 : Int32) := by rw [ex18]; exact nu 25 rfl hI o_v0
    have q_x18 : x18 = kv17 := ex18.trans d_kv17.symm
    have d_x18 := ex18
    refine m_X11_byteAt hI o_v0 (qr700 r_kv1 hiv2 hiv4 q_x7 c8 p_k1u9 r_x18 q_x18) (fun x19 S20 hI2 g21 p_x19 => ?_)
    obtain ⟨z_S20, p_x19⟩ := p_x19
    subst z_S20
    intro _
    obtain ⟨kv23, d_kv23⟩ : ∃ z : Int32, z = fI S10 v0 7 := ⟨_, rfl⟩
    have r_kv23 : (0 : Int32) ≤ kv23 ∧ kv23 ≤ (900 : Int32) := by rw [d_kv23]; exact nu 24 rfl hI o_v0
    have by_x19 : x19 = -1 ∨ x18 < kv23 := by rw [d_kv23]; exact p_x19
    refine ⟨fun c24 => ?_, fun c24 => ?_⟩
    · intro x25 ex25
      have r_x25 : (0 : Int32) ≤ x25 ∧ x25 ≤ (900 : Int32) := by rw [ex25]; exact nu 25 rfl hI o_v0
      have q_x25 : x25 = x18 := ex25.trans d_x18.symm
      have d_x25 := ex25
      intro S26 eS26
      have hIn : IV S26 := by rw [eS26]; exact iv11_sI hI o_v0 (by decide) (nu_free (by decide))
      have hG := rg_11 eS26 hI o_v0 hG
      have hI := hIn
      have f0 := fr_I eS26 g0 f0 o_v0 (by decide)
      have d_x7 := rd_Ij eS26 (by decide) d_x7
      have d_kv5 := rd_Ij eS26 (by decide) d_kv5
      have d_x25 := rd_Ij eS26 (by decide) d_x25
      have d_kv23 := rd_Ij eS26 (by decide) d_kv23
      obtain ⟨kv27, hkv27⟩ : ∃ z : Int32, z = x25 := ⟨_, rfl⟩
      have d_kv27 := rd_Is eS26 hkv27
      have g0 := gr_I eS26 g0
      have o_v0 := ob_I eS26 o_v0
      intro S28 eS28
      have hIn : IV S28 := by rw [eS28]; exact iv11_sI hI o_v0 (by decide) (nu_free (by decide))
      have hG := rg_11 eS28 hI o_v0 hG
      have hI := hIn
      have f0 := fr_I eS28 g0 f0 o_v0 (by decide)
      have d_kv5 := rd_Ij eS28 (by decide) d_kv5
      have d_x25 := rd_Ij eS28 (by decide) d_x25
      have d_kv23 := rd_Ij eS28 (by decide) d_kv23
      have d_kv27 := rd_Ij eS28 (by decide) d_kv27
      obtain ⟨kv29, hkv29⟩ : ∃ z : Int32, z = (0 : Int32) := ⟨_, rfl⟩
      have d_kv29 := rd_Is eS28 hkv29
      have g0 := gr_I eS28 g0
      have o_v0 := ob_I eS28 o_v0
      intro S30 eS30
      have hIn : IV S30 := by rw [eS30]; exact iv11_sI hI o_v0 (by decide) (nu_free (by decide))
      have hG := rg_11 eS30 hI o_v0 hG
      have hI := hIn
      have f0 := fr_I eS30 g0 f0 o_v0 (by decide)
      have d_kv5 := rd_Ij eS30 (by decide) d_kv5
      have d_x25 := rd_Ij eS30 (by decide) d_x25
      have d_kv23 := rd_Ij eS30 (by decide) d_kv23
      have d_kv27 := rd_Ij eS30 (by decide) d_kv27
      have d_kv29 := rd_Ij eS30 (by decide) d_kv29
      obtain ⟨kv31, hkv31⟩ : ∃ z : Int32, z = (0 : Int32) := ⟨_, rfl⟩
      have d_kv31 := rd_Is eS30 hkv31
      have g0 := gr_I eS30 g0
      have o_v0 := ob_I eS30 o_v0
      intro x32 ex32
      have r_x32 : (0 : Int32) ≤ x32 ∧ x32 ≤ (900 : Int32) := by rw [ex32]; exact nu 25 rfl hI o_v0
      have q_x32 : x32 = x25 := ex32.trans d_x25.symm
      have d_x32 := ex32
      refine m_X11_byteAt hI o_v0 (qr701 r_kv1 hiv2 hiv4 q_x7 c8 p_k1u9 r_x18 q_x18 r_kv23 by_x19 c24 r_x25 q_x25 hkv27 r_x32 q_x32) (fun x33 S34 hI2 g35 p_x33 => ?_)
      obtain ⟨z_S34, p_x33⟩ := p_x33
      subst z_S34
      intro _
      have by_x33 : x33 = -1 ∨ x32 < kv23 := by rw [d_kv23]; exact p_x33
      refine ⟨fun c37 => ?_, fun c37 => ?_⟩
      · refine m_X11_isLetter hI (fun x38 S39 hI2 g40 b_x38 p_x38 => ?_)
        obtain ⟨z_S39, p_x38⟩ := p_x38
        subst z_S39
        intro _ _
        have bb_x38 : x38 = 0 ∨ x38 = 1 := b_x38
        refine ⟨fun c42 => ?_, fun c42 => ?_⟩
        · refine m_X11_isDigit hI (fun x43 S44 hI2 g45 b_x43 p_x43 => ?_)
          obtain ⟨z_S44, p_x43⟩ := p_x43
          subst z_S44
          intro _ _
          have bb_x43 : x43 = 0 ∨ x43 = 1 := b_x43
          refine ⟨fun c47 => ?_, fun c47 => ?_⟩
          · refine ⟨fun c48 => ?_, fun c48 => ?_⟩
            · refine u_X11_goesOn_261 ?_
              refine ⟨o_v0, ?_⟩
              intro S49 eS49
              have hIn : IV S49 := by rw [eS49]; exact iv11_sI hI o_v0 (by decide) (nu_free (by decide))
              have hG := rg_11 eS49 hI o_v0 hG
              have hI := hIn
              have f0 := fr_I eS49 g0 f0 o_v0 (by decide)
              have d_kv5 := rd_Ij eS49 (by decide) d_kv5
              have d_x32 := rd_Ij eS49 (by decide) d_x32
              have d_kv23 := rd_Ij eS49 (by decide) d_kv23
              have d_kv27 := rd_Ij eS49 (by decide) d_kv27
              have d_kv31 := rd_Ij eS49 (by decide) d_kv31
              obtain ⟨kv50, hkv50⟩ : ∃ z : Int32, z = (4 : Int32) := ⟨_, rfl⟩
              have d_kv50 := rd_Is eS49 hkv50
              have g0 := gr_I eS49 g0
              have o_v0 := ob_I eS49 o_v0
              intro S51 eS51
              have hIn : IV S51 := by rw [eS51]; exact iv11_sI hI o_v0 (by decide) (nu_free (by decide))
              have hG := rg_11 eS51 hI o_v0 hG
              have hI := hIn
              have f0 := fr_I eS51 g0 f0 o_v0 (by decide)
              have d_kv5 := rd_Ij eS51 (by decide) d_kv5
              have d_x32 := rd_Ij eS51 (by decide) d_x32
              have d_kv23 := rd_Ij eS51 (by decide) d_kv23
              have d_kv27 := rd_Ij eS51 (by decide) d_kv27
              have d_kv50 := rd_Ij eS51 (by decide) d_kv50
              have d_x33 := rd_Is eS51 (rfl : x33 = x33)
              have g0 := gr_I eS51 g0
              have o_v0 := ob_I eS51 o_v0
              intro x52 ex52
              have r_x52 : (0 : Int32) ≤ x52 ∧ x52 ≤ (900 : Int32) := by rw [ex52]; exact nu 25 rfl hI o_v0
              have q_x52 : x52 = x32 := ex52.trans d_x32.symm
              have d_x52 := ex52
              intro x53 ex53
              intro S54 eS54
              have hIn : IV S54 := by rw [eS54]; exact iv11_sI hI o_v0 (by decide) (nu_one (lo := (0 : Int32)) (hi := (900 : Int32)) (by decide) (qr702 r_kv1 hiv2 hiv4 q_x7 c8 p_k1u9 r_x18 q_x18 r_kv23 by_x19 c24 r_x25 q_x25 hkv27 r_x32 q_x32 by_x33 c37 p_x38 bb_x38 c42 p_x43 bb_x43 c47 c48 r_x52 q_x52 ex53))
              have hG := rg_11 eS54 hI o_v0 hG
              have hI := hIn
              have f0 := fr_I eS54 g0 f0 o_v0 (by decide)
              have d_kv5 := rd_Ij eS54 (by decide) d_kv5
              have d_kv23 := rd_Ij eS54 (by decide) d_kv23
              have d_kv27 := rd_Ij eS54 (by decide) d_kv27
              have d_kv50 := rd_Ij eS54 (by decide) d_kv50
              have d_x33 := rd_Ij eS54 (by decide) d_x33
              have d_x53 := rd_Is eS54 (rfl : x53 = x53)
              have g0 := gr_I eS54 g0
              have o_v0 := ob_I eS54 o_v0
              exact hq _ hI g0 f0 ⟨hG, (by have t : kv50 = 5 → 0 < kv5 := (qr703 hiv4 hiv6 hO q_x7 c8 hkv50); rw [d_kv50, d_kv5] at t; exact t), (by have t : kv50 = 5 ∨ ¬ iv4 = 5 := (qr704 hiv4 q_x7 c8 hkv50); rw [di_9, d_kv50] at t; exact t), (by have t : iv2 ≤ x53 ∧ (kv50 = 4 → iv2 < x53 ∨ iv4 = 4) := (qr705 r_kv1 hiv2 hiv4 q_x7 c8 p_k1u9 r_x18 q_x18 r_kv23 by_x19 c24 r_x25 q_x25 hkv27 r_x32 q_x32 by_x33 c37 p_x38 bb_x38 c42 p_x43 bb_x43 c47 c48 hkv50 r_x52 q_x52 ex53); rw [di_8, di_9, d_x53, d_kv50] at t; exact t)⟩
            · refine ⟨fun c55 => ?_, fun c55 => ?_⟩
              · exact hq _ hI g0 f0 ⟨hG, (by have t : kv29 = 5 → 0 < kv5 := (qr706 hiv4 hiv6 hO q_x7 c8 hkv29); rw [d_kv29, d_kv5] at t; exact t), (by have t : kv29 = 5 ∨ ¬ iv4 = 5 := (qr707 hiv4 q_x7 c8 hkv29); rw [di_9, d_kv29] at t; exact t), (by have t : iv2 ≤ x32 ∧ (kv29 = 4 → iv2 < x32 ∨ iv4 = 4) := (qr708 r_kv1 hiv2 hiv4 q_x7 c8 p_k1u9 r_x18 q_x18 r_kv23 by_x19 c24 r_x25 q_x25 hkv27 hkv29 r_x32 q_x32 by_x33 c37 p_x38 bb_x38 c42 p_x43 bb_x43 c47 c48 c55); rw [di_8, di_9, d_x32, d_kv29] at t; exact t)⟩
              · refine u_X11_goesOn_261 ?_
                refine ⟨o_v0, ?_⟩
                intro S56 eS56
                have hIn : IV S56 := by rw [eS56]; exact iv11_sI hI o_v0 (by decide) (nu_free (by decide))
                have hG := rg_11 eS56 hI o_v0 hG
                have hI := hIn
                have f0 := fr_I eS56 g0 f0 o_v0 (by decide)
                have d_kv5 := rd_Ij eS56 (by decide) d_kv5
                have d_x32 := rd_Ij eS56 (by decide) d_x32
                have d_kv23 := rd_Ij eS56 (by decide) d_kv23
                have d_kv27 := rd_Ij eS56 (by decide) d_kv27
                have d_kv31 := rd_Ij eS56 (by decide) d_kv31
                obtain ⟨kv57, hkv57⟩ : ∃ z : Int32, z = (4 : Int32) := ⟨_, rfl⟩
                have d_kv57 := rd_Is eS56 hkv57
                have g0 := gr_I eS56 g0
                have o_v0 := ob_I eS56 o_v0
                intro S58 eS58
                have hIn : IV S58 := by rw [eS58]; exact iv11_sI hI o_v0 (by decide) (nu_free (by decide))
                have hG := rg_11 eS58 hI o_v0 hG
                have hI := hIn
                have f0 := fr_I eS58 g0 f0 o_v0 (by decide)
                have d_kv5 := rd_Ij eS58 (by decide) d_kv5
                have d_x32 := rd_Ij eS58 (by decide) d_x32
                have d_kv23 := rd_Ij eS58 (by decide) d_kv23
                have d_kv27 := rd_Ij eS58 (by decide) d_kv27
                have d_kv57 := rd_Ij eS58 (by decide) d_kv57
                have d_x33 := rd_Is eS58 (rfl : x33 = x33)
                have g0 := gr_I eS58 g0
                have o_v0 := ob_I eS58 o_v0
                intro x59 ex59
                have r_x59 : (0 : Int32) ≤ x59 ∧ x59 ≤ (900 : Int32) := by rw [ex59]; exact nu 25 rfl hI o_v0
                have q_x59 : x59 = x32 := ex59.trans d_x32.symm
                have d_x59 := ex59
                intro x60 ex60
                intro S61 eS61
                have hIn : IV S61 := by rw [eS61]; exact iv11_sI hI o_v0 (by decide) (nu_one (lo := (0 : Int32)) (hi := (900 : Int32)) (by decide) (qr709 r_kv1 hiv2 hiv4 q_x7 c8 p_k1u9 r_x18 q_x18 r_kv23 by_x19 c24 r_x25 q_x25 hkv27 r_x32 q_x32 by_x33 c37 p_x38 bb_x38 c42 p_x43 bb_x43 c47 c48 c55 r_x59 q_x59 ex60))
                have hG := rg_11 eS61 hI o_v0 hG
                have hI := hIn
                have f0 := fr_I eS61 g0 f0 o_v0 (by decide)
                have d_kv5 := rd_Ij eS61 (by decide) d_kv5
                have d_kv23 := rd_Ij eS61 (by decide) d_kv23
                have d_kv27 := rd_Ij eS61 (by decide) d_kv27
                have d_kv57 := rd_Ij eS61 (by decide) d_kv57
                have d_x33 := rd_Ij eS61 (by decide) d_x33
                have d_x60 := rd_Is eS61 (rfl : x60 = x60)
                have g0 := gr_I eS61 g0
                have o_v0 := ob_I eS61 o_v0
                exact hq _ hI g0 f0 ⟨hG, (by have t : kv57 = 5 → 0 < kv5 := (qr703 hiv4 hiv6 hO q_x7 c8 hkv57); rw [d_kv57, d_kv5] at t; exact t), (by have t : kv57 = 5 ∨ ¬ iv4 = 5 := (qr704 hiv4 q_x7 c8 hkv57); rw [di_9, d_kv57] at t; exact t), (by have t : iv2 ≤ x60 ∧ (kv57 = 4 → iv2 < x60 ∨ iv4 = 4) := (qr710 r_kv1 hiv2 hiv4 q_x7 c8 p_k1u9 r_x18 q_x18 r_kv23 by_x19 c24 r_x25 q_x25 hkv27 r_x32 q_x32 by_x33 c37 p_x38 bb_x38 c42 p_x43 bb_x43 c47 c48 c55 hkv57 r_x59 q_x59 ex60); rw [di_8, di_9, d_x60, d_kv57] at t; exact t)⟩
          · intro S62 eS62
            have hIn : IV S62 := by rw [eS62]; exact iv11_sI hI o_v0 (by decide) (nu_free (by decide))
            have hG := rg_11 eS62 hI o_v0 hG
            have hI := hIn
            have f0 := fr_I eS62 g0 f0 o_v0 (by decide)
            have d_kv5 := rd_Ij eS62 (by decide) d_kv5
            have d_x32 := rd_Ij eS62 (by decide) d_x32
            have d_kv23 := rd_Ij eS62 (by decide) d_kv23
            have d_kv27 := rd_Ij eS62 (by decide) d_kv27
            have d_kv29 := rd_Ij eS62 (by decide) d_kv29
            have d_kv31 := rd_Ij eS62 (by decide) d_kv31
            obtain ⟨kv63, hkv63⟩ : ∃ z : Int32, z = (0 : Int32) := ⟨_, rfl⟩
            have d_kv63 := rd_Is eS62 hkv63
            have g0 := gr_I eS62 g0
            have o_v0 := ob_I eS62 o_v0
            refine i_X11_goesOn_178 (fun (y0 : Nat) (y2 : Int32) (Z : HS) => ((901 : Int32).toInt - (fI Z v0 8).toInt).toNat) (fun (y0 : Nat) (y2 : Int32) (Z : HS) => (IV Z) ∧ (Gr S62 Z) ∧ (FRI [(11, 8), (11, 12)] [] S62 Z) ∧ (v0 = y0) ∧ (RG Z v0) ∧ (iv2 ≤ fI Z v0 8)) ?_ _ _ _ ⟨hI, (gr_rf _), (fri_rf _ _ _), rfl, hG, (by rw [← d_x32]; exact (qr711 r_kv1 hiv2 hiv4 q_x7 c8 p_k1u9 r_x18 q_x18 r_kv23 by_x19 c24 r_x25 q_x25 hkv27 r_x32 q_x32 by_x33 c37 p_x38 bb_x38 c42 p_x43 bb_x43 c47))⟩
            intro w68 w70 S65 X71 ⟨hI, gL66, fL67, q69, hG, k1u64⟩ ih72
            subst q69
            have d_kv5 := d_kv5.trans (fri_at fL67 (by decide) (by decide) o_v0).symm
            have d_kv23 := d_kv23.trans (fri_at fL67 (by decide) (by decide) o_v0).symm
            have d_kv27 := d_kv27.trans (fri_at fL67 (by decide) (by decide) o_v0).symm
            have d_kv29 := d_kv29.trans (fri_at fL67 (by decide) (by decide) o_v0).symm
            have d_kv31 := d_kv31.trans (fri_at fL67 (by decide) (by decide) o_v0).symm
            have f0 := fri_tr (S := S62) g0 f0 fL67 (by decide) (by decide)
            have o_v0 := gr_ob gL66 o_v0
            have g0 := gr_tr (T := S62) g0 gL66
            obtain ⟨kv73, d_kv73⟩ : ∃ z : Int32, z = fI S65 v0 8 := ⟨_, rfl⟩
            have p_k1u64 : iv2 ≤ kv73 := by rw [d_kv73]; exact k1u64
            have d0_kv73 := d_kv73
            refine u_X11_goesOn_178 ?_
            refine ⟨o_v0, ?_⟩
            intro x74 ex74
            have r_x74 : (0 : Int32) ≤ x74 ∧ x74 ≤ (900 : Int32) := by rw [ex74]; exact nu 25 rfl hI o_v0
            have q_x74 : x74 = kv73 := ex74.trans d_kv73.symm
            have d_x74 := ex74
            refine m_X11_byteAt hI o_v0 (qr712 r_kv1 hiv2 hiv4 q_x7 c8 p_k1u9 r_x18 q_x18 r_kv23 by_x19 c24 r_x25 q_x25 hkv27 r_x32 q_x32 by_x33 c37 p_x38 bb_x38 c42 p_x43 bb_x43 c47 p_k1u64 r_x74 q_x74) (fun x75 S76 hI2 g77 p_x75 => ?_)
            obtain ⟨z_S76, p_x75⟩ := p_x75
            subst z_S76
            intro _
            have by_x75 : x75 = -1 ∨ x74 < kv23 := by rw [d_kv23]; exact p_x75
            refine m_X11_isDigit hI (fun x79 S80 hI2 g81 b_x79 p_x79 => ?_)
            obtain ⟨z_S80, p_x79⟩ := p_x79
            subst z_S80
            intro _ _
            have bb_x79 : x79 = 0 ∨ x79 = 1 := b_x79
            refine ⟨fun c83 => ?_, fun c83 => ?_⟩
            · refine ⟨fun c84 => ?_, fun c84 => ?_⟩
              · exact hq _ hI g0 f0 ⟨hG, (by have t : kv29 = 5 → 0 < kv5 := (qr713 hiv4 hiv6 hO q_x7 c8 hkv29 c84); rw [d_kv29, d_kv5] at t; exact t), (by have t : kv29 = 5 ∨ ¬ iv4 = 5 := (qr714 hiv4 q_x7 c8 hkv29 c84); rw [di_9, d_kv29] at t; exact t), (by have t : iv2 ≤ x74 ∧ (kv29 = 4 → iv2 < x74 ∨ iv4 = 4) := (qr715 r_kv1 hiv2 hiv4 q_x7 c8 p_k1u9 r_x18 q_x18 r_kv23 by_x19 c24 r_x25 q_x25 hkv27 hkv29 r_x32 q_x32 by_x33 c37 p_x38 bb_x38 c42 p_x43 bb_x43 c47 p_k1u64 r_x74 q_x74 by_x75 p_x79 bb_x79 c83 c84); rw [di_8, di_9, d_x74, d_kv29] at t; exact t)⟩
              · intro S85 eS85
                have hIn : IV S85 := by rw [eS85]; exact iv11_sI hI o_v0 (by decide) (nu_free (by decide))
                have hG := rg_11 eS85 hI o_v0 hG
                have hI := hIn
                have f0 := fr_I eS85 g0 f0 o_v0 (by decide)
                have d_kv5 := rd_Ij eS85 (by decide) d_kv5
                have d_kv23 := rd_Ij eS85 (by decide) d_kv23
                have d_kv27 := rd_Ij eS85 (by decide) d_kv27
                have d_kv31 := rd_Ij eS85 (by decide) d_kv31
                have d_x74 := rd_Ij eS85 (by decide) d_x74
                obtain ⟨kv86, hkv86⟩ : ∃ z : Int32, z = (3 : Int32) := ⟨_, rfl⟩
                have d_kv86 := rd_Is eS85 hkv86
                have g0 := gr_I eS85 g0
                have o_v0 := ob_I eS85 o_v0
                exact hq _ hI g0 f0 ⟨hG, (by have t : kv86 = 5 → 0 < kv5 := (qr716 hiv4 hiv6 hO q_x7 c8 c84 hkv86); rw [d_kv86, d_kv5] at t; exact t), (by have t : kv86 = 5 ∨ ¬ iv4 = 5 := (qr717 hiv4 q_x7 c8 c84 hkv86); rw [di_9, d_kv86] at t; exact t), (by have t : iv2 ≤ x74 ∧ (kv86 = 4 → iv2 < x74 ∨ iv4 = 4) := (qr718 r_kv1 hiv2 hiv4 q_x7 c8 p_k1u9 r_x18 q_x18 r_kv23 by_x19 c24 r_x25 q_x25 hkv27 r_x32 q_x32 by_x33 c37 p_x38 bb_x38 c42 p_x43 bb_x43 c47 p_k1u64 r_x74 q_x74 by_x75 p_x79 bb_x79 c83 c84 hkv86); rw [di_8, di_9, d_x74, d_kv86] at t; exact t)⟩
            · refine ⟨fun c87 => ?_, fun c87 => ?_⟩
              · refine u_X11_goesOn_220 ?_
                intro x88 ex88
                refine ⟨o_v0, ?_⟩
                intro x89 ex89
                have r_x89 : (0 : Int32) ≤ x89 ∧ x89 ≤ (900 : Int32) := by rw [ex89]; exact nu 25 rfl hI o_v0
                have q_x89 : x89 = x74 := ex89.trans d_x74.symm
                have d_x89 := ex89
                intro x90 ex90
                intro S91 eS91
                have hIn : IV S91 := by rw [eS91]; exact iv11_sI hI o_v0 (by decide) (nu_one (lo := (0 : Int32)) (hi := (900 : Int32)) (by decide) (qr719 r_kv1 hiv2 hiv4 q_x7 c8 p_k1u9 r_x18 q_x18 r_kv23 by_x19 c24 r_x25 q_x25 hkv27 r_x32 q_x32 by_x33 c37 p_x38 bb_x38 c42 p_x43 bb_x43 c47 p_k1u64 r_x74 q_x74 by_x75 p_x79 bb_x79 c83 c87 ex88 r_x89 q_x89 ex90))
                have hG := rg_11 eS91 hI o_v0 hG
                have hI := hIn
                have f0 := fr_I eS91 g0 f0 o_v0 (by decide)
                have fL67 := fr_I eS91 gL66 fL67 o_v0 (by decide)
                have d_kv5 := rd_Ij eS91 (by decide) d_kv5
                have d_kv23 := rd_Ij eS91 (by decide) d_kv23
                have d_kv27 := rd_Ij eS91 (by decide) d_kv27
                have d_kv29 := rd_Ij eS91 (by decide) d_kv29
                have d_kv31 := rd_Ij eS91 (by decide) d_kv31
                have d_x90 := rd_Is eS91 (rfl : x90 = x90)
                have g0 := gr_I eS91 g0
                have gL66 := gr_I eS91 gL66
                have o_v0 := ob_I eS91 o_v0
                exact ih72 _ _ _ ⟨hI, gL66, fL67, rfl, hG, (by rw [← d_x90]; exact (qr720 r_kv1 hiv2 hiv4 q_x7 c8 p_k1u9 r_x18 q_x18 r_kv23 by_x19 c24 r_x25 q_x25 hkv27 r_x32 q_x32 by_x33 c37 p_x38 bb_x38 c42 p_x43 bb_x43 c47 p_k1u64 r_x74 q_x74 by_x75 p_x79 bb_x79 c83 c87 ex88 r_x89 q_x89 ex90))⟩ (by rw [← d0_kv73, ← d_x90]; exact mu_up (qr721 r_kv1 hiv2 hiv4 q_x7 c8 p_k1u9 r_x18 q_x18 r_kv23 by_x19 c24 r_x25 q_x25 hkv27 r_x32 q_x32 by_x33 c37 p_x38 bb_x38 c42 p_x43 bb_x43 c47 p_k1u64 r_x74 q_x74 by_x75 p_x79 bb_x79 c83 c87 ex88 r_x89 q_x89 ex90) (qr722 r_kv1 hiv2 hiv4 q_x7 c8 p_k1u9 r_x18 q_x18 r_kv23 by_x19 c24 r_x25 q_x25 hkv27 r_x32 q_x32 by_x33 c37 p_x38 bb_x38 c42 p_x43 bb_x43 c47 p_k1u64 r_x74 q_x74 by_x75 p_x79 bb_x79 c83 c87 ex88 r_x89 q_x89 ex90))
              · intro x92 ex92
                have d_x92 := ex92
                intro x93 ex93
                have r_x93 : (0 : Int32) ≤ x93 ∧ x93 ≤ (900 : Int32) := by rw [ex93]; exact nu 25 rfl hI o_v0
                have q_x93 : x93 = x74 := ex93.trans d_x74.symm
                have d_x93 := ex93
                refine m_X11_byteAt hI o_v0 (qr723 r_kv1 hiv2 hiv4 q_x7 c8 p_k1u9 r_x18 q_x18 r_kv23 by_x19 c24 r_x25 q_x25 hkv27 r_x32 q_x32 by_x33 c37 p_x38 bb_x38 c42 p_x43 bb_x43 c47 p_k1u64 r_x74 q_x74 by_x75 p_x79 bb_x79 c83 c87 r_x93 q_x93) (fun x94 S95 hI2 g96 p_x94 => ?_)
                obtain ⟨z_S95, p_x94⟩ := p_x94
                subst z_S95
                intro _
                have by_x94 : x94 = -1 ∨ x93 < kv23 := by rw [d_kv23]; exact p_x94
                intro x98 ex98
                intro S99 eS99
                have hIn : IV S99 := by rw [eS99]; exact iv11_sI hI o_v0 (by decide) (nu_free (by decide))
                have hG := rg_11 eS99 hI o_v0 hG
                have hI := hIn
                have f0 := fr_I eS99 g0 f0 o_v0 (by decide)
                have fL67 := fr_I eS99 gL66 fL67 o_v0 (by decide)
                have d_kv5 := rd_Ij eS99 (by decide) d_kv5
                have d_kv23 := rd_Ij eS99 (by decide) d_kv23
                have d_kv27 := rd_Ij eS99 (by decide) d_kv27
                have d_kv29 := rd_Ij eS99 (by decide) d_kv29
                have d_kv31 := rd_Ij eS99 (by decide) d_kv31
                have d_x93 := rd_Ij eS99 (by decide) d_x93
                have d_x98 := rd_Is eS99 (rfl : x98 = x98)
                have g0 := gr_I eS99 g0
                have gL66 := gr_I eS99 gL66
                have o_v0 := ob_I eS99 o_v0
                refine u_X11_goesOn_220 ?_
                intro x100 ex100
                refine ⟨o_v0, ?_⟩
                intro x101 ex101
                have r_x101 : (0 : Int32) ≤ x101 ∧ x101 ≤ (900 : Int32) := by rw [ex101]; exact nu 25 rfl hI o_v0
                have q_x101 : x101 = x93 := ex101.trans d_x93.symm
                have d_x101 := ex101
                intro x102 ex102
                intro S103 eS103
                have hIn : IV S103 := by rw [eS103]; exact iv11_sI hI o_v0 (by decide) (nu_one (lo := (0 : Int32)) (hi := (900 : Int32)) (by decide) (qr724 r_kv1 hiv2 hiv4 q_x7 c8 p_k1u9 r_x18 q_x18 r_kv23 by_x19 c24 r_x25 q_x25 hkv27 r_x32 q_x32 by_x33 c37 p_x38 bb_x38 c42 p_x43 bb_x43 c47 p_k1u64 r_x74 q_x74 by_x75 p_x79 bb_x79 c83 c87 r_x93 q_x93 by_x94 ex98 ex100 r_x101 q_x101 ex102))
                have hG := rg_11 eS103 hI o_v0 hG
                have hI := hIn
                have f0 := fr_I eS103 g0 f0 o_v0 (by decide)
                have fL67 := fr_I eS103 gL66 fL67 o_v0 (by decide)
                have d_kv5 := rd_Ij eS103 (by decide) d_kv5
                have d_kv23 := rd_Ij eS103 (by decide) d_kv23
                have d_kv27 := rd_Ij eS103 (by decide) d_kv27
                have d_kv29 := rd_Ij eS103 (by decide) d_kv29
                have d_kv31 := rd_Ij eS103 (by decide) d_kv31
                have d_x98 := rd_Ij eS103 (by decide) d_x98
                have d_x102 := rd_Is eS103 (rfl : x102 = x102)
                have g0 := gr_I eS103 g0
                have gL66 := gr_I eS103 gL66
                have o_v0 := ob_I eS103 o_v0
                exact ih72 _ _ _ ⟨hI, gL66, fL67, rfl, hG, (by rw [← d_x102]; exact (qr725 r_kv1 hiv2 hiv4 q_x7 c8 p_k1u9 r_x18 q_x18 r_kv23 by_x19 c24 r_x25 q_x25 hkv27 r_x32 q_x32 by_x33 c37 p_x38 bb_x38 c42 p_x43 bb_x43 c47 p_k1u64 r_x74 q_x74 by_x75 p_x79 bb_x79 c83 c87 r_x93 q_x93 by_x94 ex98 ex100 r_x101 q_x101 ex102))⟩ (by rw [← d0_kv73, ← d_x102]; exact mu_up (qr726 r_kv1 hiv2 hiv4 q_x7 c8 p_k1u9 r_x18 q_x18 r_kv23 by_x19 c24 r_x25 q_x25 hkv27 r_x32 q_x32 by_x33 c37 p_x38 bb_x38 c42 p_x43 bb_x43 c47 p_k1u64 r_x74 q_x74 by_x75 p_x79 bb_x79 c83 c87 r_x93 q_x93 by_x94 ex98 ex100 r_x101 q_x101 ex102) (qr727 r_kv1 hiv2 hiv4 q_x7 c8 p_k1u9 r_x18 q_x18 r_kv23 by_x19 c24 r_x25 q_x25 hkv27 r_x32 q_x32 by_x33 c37 p_x38 bb_x38 c42 p_x43 bb_x43 c47 p_k1u64 r_x74 q_x74 by_x75 p_x79 bb_x79 c83 c87 r_x93 q_x93 by_x94 ex98 ex100 r_x101 q_x101 ex102))
        · intro S104 eS104
          have hIn : IV S104 := by rw [eS104]; exact iv11_sJ hI o_v0
          have hG := rg_J eS104 hG
          have hI := hIn
          have f0 := fr_J eS104 f0
          have d_kv5 := rd_J eS104 d_kv5
          have d_x32 := rd_J eS104 d_x32
          have d_kv23 := rd_J eS104 d_kv23
          have d_kv27 := rd_J eS104 d_kv27
          have d_kv29 := rd_J eS104 d_kv29
          have d_kv31 := rd_J eS104 d_kv31
          have g0 := gr_J eS104 g0
          have o_v0 := ob_J eS104 o_v0
          refine i_X11_goesOn_89 (fun (y0 : Nat) (y2 : Int32) (Z : HS) => ((901 : Int32).toInt - (fI Z v0 8).toInt).toNat) (fun (y0 : Nat) (y2 : Int32) (Z : HS) => (IV Z) ∧ (Gr S104 Z) ∧ (FRI [(11, 8)] [] S104 Z) ∧ (v0 = y0) ∧ (RG Z v0) ∧ (iv2 ≤ fI Z v0 8)) ?_ _ _ _ ⟨hI, (gr_rf _), (fri_rf _ _ _), rfl, hG, (by rw [← d_x32]; exact (qr728 r_kv1 hiv2 hiv4 q_x7 c8 p_k1u9 r_x18 q_x18 r_kv23 by_x19 c24 r_x25 q_x25 hkv27 r_x32 q_x32 by_x33 c37 p_x38 bb_x38 c42))⟩
          intro w109 w111 S106 X112 ⟨hI, gL107, fL108, q110, hG, k1u105⟩ ih113
          subst q110
          have d_kv5 := d_kv5.trans (fri_at fL108 (by decide) (by decide) o_v0).symm
          have d_kv23 := d_kv23.trans (fri_at fL108 (by decide) (by decide) o_v0).symm
          have d_kv27 := d_kv27.trans (fri_at fL108 (by decide) (by decide) o_v0).symm
          have d_kv29 := d_kv29.trans (fri_at fL108 (by decide) (by decide) o_v0).symm
          have d_kv31 := d_kv31.trans (fri_at fL108 (by decide) (by decide) o_v0).symm
          have f0 := fri_tr (S := S104) g0 f0 fL108 (by decide) (by decide)
          have o_v0 := gr_ob gL107 o_v0
          have g0 := gr_tr (T := S104) g0 gL107
          obtain ⟨kv114, d_kv114⟩ : ∃ z : Int32, z = fI S106 v0 8 := ⟨_, rfl⟩
          have p_k1u105 : iv2 ≤ kv114 := by rw [d_kv114]; exact k1u105
          have d0_kv114 := d_kv114
          refine u_X11_goesOn_89 ?_
          refine ⟨o_v0, ?_⟩
          intro x115 ex115
          have r_x115 : (0 : Int32) ≤ x115 ∧ x115 ≤ (900 : Int32) := by rw [ex115]; exact nu 25 rfl hI o_v0
          have q_x115 : x115 = kv114 := ex115.trans d_kv114.symm
          have d_x115 := ex115
          refine m_X11_byteAt hI o_v0 (qr729 r_kv1 hiv2 hiv4 q_x7 c8 p_k1u9 r_x18 q_x18 r_kv23 by_x19 c24 r_x25 q_x25 hkv27 r_x32 q_x32 by_x33 c37 p_x38 bb_x38 c42 p_k1u105 r_x115 q_x115) (fun x116 S117 hI2 g118 p_x116 => ?_)
          obtain ⟨z_S117, p_x116⟩ := p_x116
          subst z_S117
          intro _
          have by_x116 : x116 = -1 ∨ x115 < kv23 := by rw [d_kv23]; exact p_x116
          refine m_X11_isLetter hI (fun x120 S121 hI2 g122 b_x120 p_x120 => ?_)
          obtain ⟨z_S121, p_x120⟩ := p_x120
          subst z_S121
          intro _ _
          have bb_x120 : x120 = 0 ∨ x120 = 1 := b_x120
          refine ⟨fun c124 => ?_, fun c124 => ?_⟩
          · refine ⟨fun c125 => ?_, fun c125 => ?_⟩
            · exact hq _ hI g0 f0 ⟨hG, (by have t : kv29 = 5 → 0 < kv5 := (qr730 hiv4 hiv6 hO q_x7 c8 hkv29 c125); rw [d_kv29, d_kv5] at t; exact t), (by have t : kv29 = 5 ∨ ¬ iv4 = 5 := (qr731 hiv4 q_x7 c8 hkv29 c125); rw [di_9, d_kv29] at t; exact t), (by have t : iv2 ≤ x115 ∧ (kv29 = 4 → iv2 < x115 ∨ iv4 = 4) := (qr732 r_kv1 hiv2 hiv4 q_x7 c8 p_k1u9 r_x18 q_x18 r_kv23 by_x19 c24 r_x25 q_x25 hkv27 hkv29 r_x32 q_x32 by_x33 c37 p_x38 bb_x38 c42 p_k1u105 r_x115 q_x115 by_x116 p_x120 bb_x120 c124 c125); rw [di_8, di_9, d_x115, d_kv29] at t; exact t)⟩
            · intro S126 eS126
              have hIn : IV S126 := by rw [eS126]; exact iv11_sI hI o_v0 (by decide) (nu_free (by decide))
              have hG := rg_11 eS126 hI o_v0 hG
              have hI := hIn
              have f0 := fr_I eS126 g0 f0 o_v0 (by decide)
              have d_kv5 := rd_Ij eS126 (by decide) d_kv5
              have d_kv23 := rd_Ij eS126 (by decide) d_kv23
              have d_kv27 := rd_Ij eS126 (by decide) d_kv27
              have d_kv31 := rd_Ij eS126 (by decide) d_kv31
              have d_x115 := rd_Ij eS126 (by decide) d_x115
              obtain ⟨kv127, hkv127⟩ : ∃ z : Int32, z = (2 : Int32) := ⟨_, rfl⟩
              have d_kv127 := rd_Is eS126 hkv127
              have g0 := gr_I eS126 g0
              have o_v0 := ob_I eS126 o_v0
              exact hq _ hI g0 f0 ⟨hG, (by have t : kv127 = 5 → 0 < kv5 := (qr733 hiv4 hiv6 hO q_x7 c8 c125 hkv127); rw [d_kv127, d_kv5] at t; exact t), (by have t : kv127 = 5 ∨ ¬ iv4 = 5 := (qr734 hiv4 q_x7 c8 c125 hkv127); rw [di_9, d_kv127] at t; exact t), (by have t : iv2 ≤ x115 ∧ (kv127 = 4 → iv2 < x115 ∨ iv4 = 4) := (qr735 r_kv1 hiv2 hiv4 q_x7 c8 p_k1u9 r_x18 q_x18 r_kv23 by_x19 c24 r_x25 q_x25 hkv27 r_x32 q_x32 by_x33 c37 p_x38 bb_x38 c42 p_k1u105 r_x115 q_x115 by_x116 p_x120 bb_x120 c124 c125 hkv127); rw [di_8, di_9, d_x115, d_kv127] at t; exact t)⟩
          · refine ⟨fun c128 => ?_, fun c128 => ?_⟩
            · refine u_X11_goesOn_136 ?_
              intro x129 ex129
              refine ⟨o_v0, ?_⟩
              intro x130 ex130
              have r_x130 : (0 : Int32) ≤ x130 ∧ x130 ≤ (900 : Int32) := by rw [ex130]; exact nu 25 rfl hI o_v0
              have q_x130 : x130 = x115 := ex130.trans d_x115.symm
              have d_x130 := ex130
              intro x131 ex131
              intro S132 eS132
              have hIn : IV S132 := by rw [eS132]; exact iv11_sI hI o_v0 (by decide) (nu_one (lo := (0 : Int32)) (hi := (900 : Int32)) (by decide) (qr736 r_kv1 hiv2 hiv4 q_x7 c8 p_k1u9 r_x18 q_x18 r_kv23 by_x19 c24 r_x25 q_x25 hkv27 r_x32 q_x32 by_x33 c37 p_x38 bb_x38 c42 p_k1u105 r_x115 q_x115 by_x116 p_x120 bb_x120 c124 c128 ex129 r_x130 q_x130 ex131))
              have hG := rg_11 eS132 hI o_v0 hG
              have hI := hIn
              have f0 := fr_I eS132 g0 f0 o_v0 (by decide)
              have fL108 := fr_I eS132 gL107 fL108 o_v0 (by decide)
              have d_kv5 := rd_Ij eS132 (by decide) d_kv5
              have d_kv23 := rd_Ij eS132 (by decide) d_kv23
              have d_kv27 := rd_Ij eS132 (by decide) d_kv27
              have d_kv29 := rd_Ij eS132 (by decide) d_kv29
              have d_kv31 := rd_Ij eS132 (by decide) d_kv31
              have d_x131 := rd_Is eS132 (rfl : x131 = x131)
              have g0 := gr_I eS132 g0
              have gL107 := gr_I eS132 gL107
              have o_v0 := ob_I eS132 o_v0
              exact ih113 _ _ _ ⟨hI, gL107, fL108, rfl, hG, (by rw [← d_x131]; exact (qr737 r_kv1 hiv2 hiv4 q_x7 c8 p_k1u9 r_x18 q_x18 r_kv23 by_x19 c24 r_x25 q_x25 hkv27 r_x32 q_x32 by_x33 c37 p_x38 bb_x38 c42 p_k1u105 r_x115 q_x115 by_x116 p_x120 bb_x120 c124 c128 ex129 r_x130 q_x130 ex131))⟩ (by rw [← d0_kv114, ← d_x131]; exact mu_up (qr738 r_kv1 hiv2 hiv4 q_x7 c8 p_k1u9 r_x18 q_x18 r_kv23 by_x19 c24 r_x25 q_x25 hkv27 r_x32 q_x32 by_x33 c37 p_x38 bb_x38 c42 p_k1u105 r_x115 q_x115 by_x116 p_x120 bb_x120 c124 c128 ex129 r_x130 q_x130 ex131) (qr739 r_kv1 hiv2 hiv4 q_x7 c8 p_k1u9 r_x18 q_x18 r_kv23 by_x19 c24 r_x25 q_x25 hkv27 r_x32 q_x32 by_x33 c37 p_x38 bb_x38 c42 p_k1u105 r_x115 q_x115 by_x116 p_x120 bb_x120 c124 c128 ex129 r_x130 q_x130 ex131))
            · intro x133 ex133
              have dj_x133 := ex133
              intro x134 ex134
              have r_x134 : (0 : Int32) ≤ x134 ∧ x134 ≤ (900 : Int32) := by rw [ex134]; exact nu 25 rfl hI o_v0
              have q_x134 : x134 = x115 := ex134.trans d_x115.symm
              have d_x134 := ex134
              refine m_X11_byteAt hI o_v0 (qr740 r_kv1 hiv2 hiv4 q_x7 c8 p_k1u9 r_x18 q_x18 r_kv23 by_x19 c24 r_x25 q_x25 hkv27 r_x32 q_x32 by_x33 c37 p_x38 bb_x38 c42 p_k1u105 r_x115 q_x115 by_x116 p_x120 bb_x120 c124 c128 r_x134 q_x134) (fun x135 S136 hI2 g137 p_x135 => ?_)
              obtain ⟨z_S136, p_x135⟩ := p_x135
              subst z_S136
              intro _
              have by_x135 : x135 = -1 ∨ x134 < kv23 := by rw [d_kv23]; exact p_x135
              intro x139 ex139
              intro S140 eS140
              have hIn : IV S140 := by rw [eS140]; exact iv11_sJ hI o_v0
              have hG := rg_J eS140 hG
              have hI := hIn
              have f0 := fr_J eS140 f0
              have fL108 := fr_J eS140 fL108
              have d_kv5 := rd_J eS140 d_kv5
              have d_kv23 := rd_J eS140 d_kv23
              have d_kv27 := rd_J eS140 d_kv27
              have d_kv29 := rd_J eS140 d_kv29
              have d_kv31 := rd_J eS140 d_kv31
              have d_x134 := rd_J eS140 d_x134
              have g0 := gr_J eS140 g0
              have gL107 := gr_J eS140 gL107
              have o_v0 := ob_J eS140 o_v0
              refine u_X11_goesOn_136 ?_
              intro x141 ex141
              refine ⟨o_v0, ?_⟩
              intro x142 ex142
              have r_x142 : (0 : Int32) ≤ x142 ∧ x142 ≤ (900 : Int32) := by rw [ex142]; exact nu 25 rfl hI o_v0
              have q_x142 : x142 = x134 := ex142.trans d_x134.symm
              have d_x142 := ex142
              intro x143 ex143
              intro S144 eS144
              have hIn : IV S144 := by rw [eS144]; exact iv11_sI hI o_v0 (by decide) (nu_one (lo := (0 : Int32)) (hi := (900 : Int32)) (by decide) (qr741 r_kv1 hiv2 hiv4 q_x7 c8 p_k1u9 r_x18 q_x18 r_kv23 by_x19 c24 r_x25 q_x25 hkv27 r_x32 q_x32 by_x33 c37 p_x38 bb_x38 c42 p_k1u105 r_x115 q_x115 by_x116 p_x120 bb_x120 c124 c128 r_x134 q_x134 by_x135 ex139 ex141 r_x142 q_x142 ex143))
              have hG := rg_11 eS144 hI o_v0 hG
              have hI := hIn
              have f0 := fr_I eS144 g0 f0 o_v0 (by decide)
              have fL108 := fr_I eS144 gL107 fL108 o_v0 (by decide)
              have d_kv5 := rd_Ij eS144 (by decide) d_kv5
              have d_kv23 := rd_Ij eS144 (by decide) d_kv23
              have d_kv27 := rd_Ij eS144 (by decide) d_kv27
              have d_kv29 := rd_Ij eS144 (by decide) d_kv29
              have d_kv31 := rd_Ij eS144 (by decide) d_kv31
              have d_x143 := rd_Is eS144 (rfl : x143 = x143)
              have g0 := gr_I eS144 g0
              have gL107 := gr_I eS144 gL107
              have o_v0 := ob_I eS144 o_v0
              exact ih113 _ _ _ ⟨hI, gL107, fL108, rfl, hG, (by rw [← d_x143]; exact (qr742 r_kv1 hiv2 hiv4 q_x7 c8 p_k1u9 r_x18 q_x18 r_kv23 by_x19 c24 r_x25 q_x25 hkv27 r_x32 q_x32 by_x33 c37 p_x38 bb_x38 c42 p_k1u105 r_x115 q_x115 by_x116 p_x120 bb_x120 c124 c128 r_x134 q_x134 by_x135 ex139 ex141 r_x142 q_x142 ex143))⟩ (by rw [← d0_kv114, ← d_x143]; exact mu_up (qr743 r_kv1 hiv2 hiv4 q_x7 c8 p_k1u9 r_x18 q_x18 r_kv23 by_x19 c24 r_x25 q_x25 hkv27 r_x32 q_x32 by_x33 c37 p_x38 bb_x38 c42 p_k1u105 r_x115 q_x115 by_x116 p_x120 bb_x120 c124 c128 r_x134 q_x134 by_x135 ex139 ex141 r_x142 q_x142 ex143) (qr744 r_kv1 hiv2 hiv4 q_x7 c8 p_k1u9 r_x18 q_x18 r_kv23 by_x19 c24 r_x25 q_x25 hkv27 r_x32 q_x32 by_x33 c37 p_x38 bb_x38 c42 p_k1u105 r_x115 q_x115 by_x116 p_x120 bb_x120 c124 c128 r_x134 q_x134 by_x135 ex139 ex141 r_x142 q_x142 ex143))
      · intro S145 eS145
        have hIn : IV S145 := by rw [eS145]; exact iv11_sI hI o_v0 (by decide) (nu_free (by decide))
        have hG := rg_11 eS145 hI o_v0 hG
        have hI := hIn
        have f0 := fr_I eS145 g0 f0 o_v0 (by decide)
        have d_kv5 := rd_Ij eS145 (by decide) d_kv5
        have d_x32 := rd_Ij eS145 (by decide) d_x32
        have d_kv23 := rd_Ij eS145 (by decide) d_kv23
        have d_kv27 := rd_Ij eS145 (by decide) d_kv27
        have d_kv31 := rd_Ij eS145 (by decide) d_kv31
        obtain ⟨kv146, hkv146⟩ : ∃ z : Int32, z = (1 : Int32) := ⟨_, rfl⟩
        have d_kv146 := rd_Is eS145 hkv146
        have g0 := gr_I eS145 g0
        have o_v0 := ob_I eS145 o_v0
        exact hq _ hI g0 f0 ⟨hG, (by have t : kv146 = 5 → 0 < kv5 := (qr745 hiv4 hiv6 hO q_x7 c8 hkv146); rw [d_kv146, d_kv5] at t; exact t), (by have t : kv146 = 5 ∨ ¬ iv4 = 5 := (qr746 hiv4 q_x7 c8 hkv146); rw [di_9, d_kv146] at t; exact t), (by have t : iv2 ≤ x32 ∧ (kv146 = 4 → iv2 < x32 ∨ iv4 = 4) := (qr747 r_kv1 hiv2 hiv4 q_x7 c8 p_k1u9 r_x18 q_x18 r_kv23 by_x19 c24 r_x25 q_x25 hkv27 r_x32 q_x32 by_x33 c37 hkv146); rw [di_8, di_9, d_x32, d_kv146] at t; exact t)⟩
    · intro x147 ex147
      have r_x147 : (0 : Int32) ≤ x147 ∧ x147 ≤ (900 : Int32) := by rw [ex147]; exact nu 25 rfl hI o_v0
      have q_x147 : x147 = x18 := ex147.trans d_x18.symm
      have d_x147 := ex147
      intro x148 ex148
      intro S149 eS149
      have hIn : IV S149 := by rw [eS149]; exact iv11_sI hI o_v0 (by decide) (nu_one (lo := (0 : Int32)) (hi := (900 : Int32)) (by decide) (qr748 r_kv1 hiv2 hiv4 q_x7 c8 p_k1u9 r_x18 q_x18 r_kv23 by_x19 c24 r_x147 q_x147 ex148))
      have hG := rg_11 eS149 hI o_v0 hG
      have hI := hIn
      have f0 := fr_I eS149 g0 f0 o_v0 (by decide)
      have fL12 := fr_I eS149 gL11 fL12 o_v0 (by decide)
      have d_x7 := rd_Ij eS149 (by decide) d_x7
      have d_kv5 := rd_Ij eS149 (by decide) d_kv5
      have d_kv23 := rd_Ij eS149 (by decide) d_kv23
      have d_x148 := rd_Is eS149 (rfl : x148 = x148)
      have g0 := gr_I eS149 g0
      have gL11 := gr_I eS149 gL11
      have o_v0 := ob_I eS149 o_v0
      exact ih16 _ _ ⟨hI, gL11, fL12, rfl, hG, (by rw [← d_x148]; exact (qr749 r_kv1 hiv2 hiv4 q_x7 c8 p_k1u9 r_x18 q_x18 r_kv23 by_x19 c24 r_x147 q_x147 ex148))⟩ (by rw [← d0_kv17, ← d_x148]; exact mu_up (qr750 r_kv1 hiv2 hiv4 q_x7 c8 p_k1u9 r_x18 q_x18 r_kv23 by_x19 c24 r_x147 q_x147 ex148) (qr751 r_kv1 hiv2 hiv4 q_x7 c8 p_k1u9 r_x18 q_x18 r_kv23 by_x19 c24 r_x147 q_x147 ex148))
  · exact hq _ hI g0 f0 ⟨hG, (by have t : x7 = 5 → 0 < kv5 := (qr752 hiv4 hiv6 hO q_x7 c8); rw [d_x7, d_kv5] at t; exact t), (by have t : x7 = 5 ∨ ¬ iv4 = 5 := (qr753 hiv4 q_x7 c8); rw [di_9, d_x7] at t; exact t), (by have t : iv2 ≤ kv1 ∧ (x7 = 4 → iv2 < kv1 ∨ iv4 = 4) := (qr754 r_kv1 hiv2 hiv4 q_x7 c8); rw [di_8, di_9, d_kv1, d_x7] at t; exact t)⟩
