set_option maxHeartbeats 4000000 in
set_option maxRecDepth 20000 in
theorem m_X10_find {v0 : Nat} {v1 : Int64} {Q : Int32 → HS → Prop} {S : HS} (hI : IV S) (o_v0 : ob S v0 10)     (hq : ∀ (r : Int32) (T : HS), IV T → Gr S T → (S = T) ∧ (r = -1 ∨ (0 ≤ r ∧ r < fI S v0 6)) → Q r T) : P_X10_find v0 v1 Q S := by
  have g0 := gr_rf S
  refine u_X10_find ?_
  refine u_X10_find_0 ?_
  refine i_X10_find_2 (fun (y0 : Nat) (y1 : Int64) (y3 : Int32) (Z : HS) => ((2147483647 : Int32).toInt - y3.toInt).toNat) (fun (y0 : Nat) (y1 : Int64) (y3 : Int32) (Z : HS) => (S = Z) ∧ (v0 = y0) ∧ (v1 = y1) ∧ (0 ≤ y3)) ?_ _ _ _ _ ⟨rfl, rfl, rfl, (qr706)⟩
  intro w5 w7 w9 S2 X10 ⟨eS2, q6, q8, i1u1⟩ ih11
  subst q6
  subst q8
  subst eS2
  refine u_X10_find_2 ?_
  refine ⟨o_v0, ?_⟩
  intro x12 ex12
  have r_x12 : (0 : Int32) ≤ x12 ∧ x12 ≤ (12 : Int32) := by rw [ex12]; exact nu 22 rfl hI o_v0
  have d_x12 := ex12
  refine ⟨fun c13 => ?_, fun c13 => ?_⟩
  · exact hq _ _ hI g0 ⟨rfl, (Or.inl rfl)⟩
  · obtain ⟨a14, ea14, o_a14, l_a14⟩ := shl 50 rfl hI o_v0
    refine ⟨a14, ea14, ?_⟩
    refine ⟨o_a14, ?_⟩
    refine ⟨(vin l_a14 (m := 12) (by decide) (qr823 i1u1 r_x12 c13)), ?_⟩
    intro x15 ex15
    refine ⟨fun c16 => ?_, fun c16 => ?_⟩
    · intro x17 ex17
      exact ih11 _ _ _ _ ⟨rfl, rfl, rfl, (qr824 i1u1 r_x12 c13 c16 ex17)⟩ (mu_up (qr825 i1u1 r_x12 c13 c16 ex17) (qr826 i1u1 r_x12 c13 c16 ex17))
    · exact hq _ _ hI g0 ⟨rfl, (Or.inr ⟨(qr827 i1u1 r_x12 c13 c16), by rw [← d_x12]; exact (qr828 i1u1 r_x12 c13 c16)⟩)⟩
set_option maxHeartbeats 4000000 in
set_option maxRecDepth 20000 in
theorem m_X11_flaw {v0 : Nat} {v1 : Int32} {Q : HS → Prop} {S : HS} (hI : IV S) (o_v0 : ob S v0 11)   (h1 : 1 ≤ v1) (hG : RG S v0) (hO : fI S v0 9 = 5 → 0 < fI S v0 13) (hq : ∀ (T : HS), IV T → Gr S T → FRI [(11, 9), (11, 13), (11, 14)] [] S T → (RG T v0) ∧ (fI T v0 9 = 5 → 0 < fI T v0 13) ∧ (fI T v0 9 = 5 ∨ ¬ fI S v0 9 = 5) ∧ (fI S v0 8 ≤ fI T v0 8 ∧ (fI T v0 9 = 4 → fI S v0 8 < fI T v0 8 ∨ fI S v0 9 = 4)) ∧ (fI T v0 9 = 5) → Q T) : P_X11_flaw v0 v1 Q S := by
  have g0 := gr_rf S
  have f0 := fri_rf [(11, 9), (11, 13), (11, 14)] [] S
  obtain ⟨kv1, d_kv1⟩ : ∃ z : Int32, z = fI S v0 8 := ⟨_, rfl⟩
  have r_kv1 : (0 : Int32) ≤ kv1 ∧ kv1 ≤ (900 : Int32) := by rw [d_kv1]; exact nu 25 rfl hI o_v0
  have di_8 := d_kv1
  obtain ⟨kv2, d_kv2⟩ : ∃ z : Int32, z = fI S v0 9 := ⟨_, rfl⟩
  have di_9 := d_kv2
  obtain ⟨kv3, d_kv3⟩ : ∃ z : Int32, z = fI S v0 13 := ⟨_, rfl⟩
  have di_13 := d_kv3
  have hO : kv2 = 5 → 0 < kv3 := by rw [d_kv2, d_kv3]; exact hO
  refine u_X11_flaw ?_
  refine u_X11_flaw_0 ?_
  refine ⟨o_v0, ?_⟩
  intro x4 ex4
  have q_x4 : x4 = kv2 := ex4.trans d_kv2.symm
  have d_x4 := ex4
  refine ⟨fun c5 => ?_, fun c5 => ?_⟩
  · intro S6 eS6
    have hIn : IV S6 := by rw [eS6]; exact iv11_sI hI o_v0 (by decide) (nu_free (by decide))
    have hG := rg_11 eS6 hI o_v0 hG
    have hI := hIn
    have f0 := fr_I eS6 g0 f0 o_v0 (by decide)
    have d_kv1 := rd_Ij eS6 (by decide) d_kv1
    have d_x4 := rd_Ij eS6 (by decide) d_x4
    have d_v1 := rd_Is eS6 (rfl : v1 = v1)
    have g0 := gr_I eS6 g0
    have o_v0 := ob_I eS6 o_v0
    intro x7 ex7
    have d_x7 := ex7
    intro S8 eS8
    have hIn : IV S8 := by rw [eS8]; exact iv11_sI hI o_v0 (by decide) (nu_free (by decide))
    have hG := rg_11 eS8 hI o_v0 hG
    have hI := hIn
    have f0 := fr_I eS8 g0 f0 o_v0 (by decide)
    have d_kv1 := rd_Ij eS8 (by decide) d_kv1
    have d_x4 := rd_Ij eS8 (by decide) d_x4
    have d_v1 := rd_Ij eS8 (by decide) d_v1
    have d_x7 := rd_Ij eS8 (by decide) d_x7
    obtain ⟨kv9, hkv9⟩ : ∃ z : Int32, z = x7 := ⟨_, rfl⟩
    have d_kv9 := rd_Is eS8 hkv9
    have g0 := gr_I eS8 g0
    have o_v0 := ob_I eS8 o_v0
    intro S10 eS10
    have hIn : IV S10 := by rw [eS10]; exact iv11_sI hI o_v0 (by decide) (nu_free (by decide))
    have hG := rg_11 eS10 hI o_v0 hG
    have hI := hIn
    have f0 := fr_I eS10 g0 f0 o_v0 (by decide)
    have d_kv1 := rd_Ij eS10 (by decide) d_kv1
    have d_v1 := rd_Ij eS10 (by decide) d_v1
    have d_x7 := rd_Ij eS10 (by decide) d_x7
    have d_kv9 := rd_Ij eS10 (by decide) d_kv9
    obtain ⟨kv11, hkv11⟩ : ∃ z : Int32, z = (5 : Int32) := ⟨_, rfl⟩
    have d_kv11 := rd_Is eS10 hkv11
    have g0 := gr_I eS10 g0
    have o_v0 := ob_I eS10 o_v0
    exact hq _ hI g0 f0 ⟨hG, (by have t : kv11 = 5 → 0 < v1 := (qr775 h1 hO q_x4 c5 hkv11); rw [d_kv11, d_v1] at t; exact t), (by have t : kv11 = 5 ∨ ¬ kv2 = 5 := (qr776 q_x4 c5 hkv11); rw [di_9, d_kv11] at t; exact t), (by have t : kv1 ≤ kv1 ∧ (kv11 = 4 → kv1 < kv1 ∨ kv2 = 4) := (qr777 r_kv1 q_x4 c5 hkv11); rw [d_kv1, di_9, d_kv11] at t; exact t), (by have t : kv11 = 5 := (qr778 q_x4 c5 hkv11); rw [d_kv11] at t; exact t)⟩
  · exact hq _ hI g0 f0 ⟨hG, (by have t : x4 = 5 → 0 < kv3 := (qr766 hO q_x4 c5); rw [d_x4, d_kv3] at t; exact t), (by have t : x4 = 5 ∨ ¬ kv2 = 5 := (qr767 q_x4 c5); rw [di_9, d_x4] at t; exact t), (by have t : kv1 ≤ kv1 ∧ (x4 = 4 → kv1 < kv1 ∨ kv2 = 4) := (qr768 r_kv1 q_x4 c5); rw [d_kv1, di_9, d_x4] at t; exact t), (by have t : x4 = 5 := (qr779 q_x4 c5); rw [d_x4] at t; exact t)⟩
set_option maxHeartbeats 4000000 in
set_option maxRecDepth 20000 in
theorem m_X11_byteAt {v0 : Nat} {v1 : Int32} {Q : Int32 → HS → Prop} {S : HS} (hI : IV S) (o_v0 : ob S v0 11)   (h1 : 0 ≤ v1)  (hq : ∀ (r : Int32) (T : HS), IV T → Gr S T → (S = T) ∧ (r = -1 ∨ v1 < fI S v0 7) → Q r T) : P_X11_byteAt v0 v1 Q S := by
  have g0 := gr_rf S
  refine u_X11_byteAt ?_
  refine u_X11_byteAt_0 ?_
  refine ⟨o_v0, ?_⟩
  intro x1 ex1
  have r_x1 : (0 : Int32) ≤ x1 ∧ x1 ≤ (900 : Int32) := by rw [ex1]; exact nu 24 rfl hI o_v0
  have d_x1 := ex1
  refine ⟨fun c2 => ?_, fun c2 => ?_⟩
  · exact hq _ _ hI g0 ⟨rfl, (Or.inl rfl)⟩
  · obtain ⟨a3, ea3, o_a3, l_a3⟩ := shl 53 rfl hI o_v0
    refine ⟨a3, ea3, ?_⟩
    refine ⟨o_a3, ?_⟩
    refine ⟨(vin l_a3 (m := 900) (by decide) (qr795 h1 r_x1 c2)), ?_⟩
    intro x4 ex4
    exact hq _ _ hI g0 ⟨rfl, (Or.inr (by rw [← d_x1]; exact (qr796 h1 r_x1 c2)))⟩
set_option maxHeartbeats 4000000 in
set_option maxRecDepth 20000 in
theorem m_X11_isDigit {v0 : Int32} {Q : Int32 → HS → Prop} {S : HS} (hI : IV S)      (hq : ∀ (r : Int32) (T : HS), IV T → Gr S T → bl r → (S = T) ∧ (r = 0 ∨ (48 ≤ v0 ∧ v0 ≤ 57)) → Q r T) : P_X11_isDigit v0 Q S := by
  have g0 := gr_rf S
  refine u_X11_isDigit ?_
  refine u_X11_isDigit_0 ?_
  refine ⟨fun c1 => ?_, fun c1 => ?_⟩
  · exact hq _ _ hI g0 (Or.inl rfl) ⟨rfl, (qr772 c1)⟩
  · refine ⟨fun c2 => ?_, fun c2 => ?_⟩
    · exact hq _ _ hI g0 (Or.inl rfl) ⟨rfl, (qr773 c1 c2)⟩
    · exact hq _ _ hI g0 (Or.inr rfl) ⟨rfl, (qr774 c1 c2)⟩
set_option maxHeartbeats 4000000 in
set_option maxRecDepth 20000 in
theorem m_X11_isLetter {v0 : Int32} {Q : Int32 → HS → Prop} {S : HS} (hI : IV S)      (hq : ∀ (r : Int32) (T : HS), IV T → Gr S T → bl r → (S = T) ∧ (r = 0 ∨ (97 ≤ v0 ∧ v0 ≤ 122)) → Q r T) : P_X11_isLetter v0 Q S := by
  have g0 := gr_rf S
  refine u_X11_isLetter ?_
  refine u_X11_isLetter_0 ?_
  refine ⟨fun c1 => ?_, fun c1 => ?_⟩
  · exact hq _ _ hI g0 (Or.inl rfl) ⟨rfl, (qr769 c1)⟩
  · refine ⟨fun c2 => ?_, fun c2 => ?_⟩
    · exact hq _ _ hI g0 (Or.inl rfl) ⟨rfl, (qr770 c1 c2)⟩
    · exact hq _ _ hI g0 (Or.inr rfl) ⟨rfl, (qr771 c1 c2)⟩
set_option maxHeartbeats 4000000 in
set_option maxRecDepth 20000 in
theorem m_X11_goesOn {v0 : Nat} {Q : HS → Prop} {S : HS} (hI : IV S) (o_v0 : ob S v0 11)    (hG : RG S v0) (hO : fI S v0 9 = 5 → 0 < fI S v0 13) (hq : ∀ (T : HS), IV T → Gr S T → FRI [(11, 8), (11, 9), (11, 10), (11, 11), (11, 12)] [] S T → (RG T v0) ∧ (fI T v0 9 = 5 → 0 < fI T v0 13) ∧ (fI T v0 9 = 5 ∨ ¬ fI S v0 9 = 5) ∧ (fI S v0 8 ≤ fI T v0 8 ∧ (fI T v0 9 = 4 → fI S v0 8 < fI T v0 8 ∨ fI S v0 9 = 4)) → Q T) : P_X11_goesOn v0 Q S := by
  have g0 := gr_rf S
  have f0 := fri_rf [(11, 8), (11, 9), (11, 10), (11, 11), (11, 12)] [] S
  obtain ⟨kv1, d_kv1⟩ : ∃ z : Int32, z = fI S v0 8 := ⟨_, rfl⟩
  have r_kv1 : (0 : Int32) ≤ kv1 ∧ kv1 ≤ (900 : Int32) := by rw [d_kv1]; exact nu 25 rfl hI o_v0
  have di_8 := d_kv1
  obtain ⟨kv2, d_kv2⟩ : ∃ z : Int32, z = fI S v0 9 := ⟨_, rfl⟩
  have di_9 := d_kv2
  obtain ⟨kv3, d_kv3⟩ : ∃ z : Int32, z = fI S v0 13 := ⟨_, rfl⟩
  have di_13 := d_kv3
  have hO : kv2 = 5 → 0 < kv3 := by rw [d_kv2, d_kv3]; exact hO
  refine u_X11_goesOn ?_
  refine u_X11_goesOn_0 ?_
  refine ⟨o_v0, ?_⟩
  intro x4 ex4
  have q_x4 : x4 = kv2 := ex4.trans d_kv2.symm
  have d_x4 := ex4
  refine ⟨fun c5 => ?_, fun c5 => ?_⟩
  · refine i_X11_goesOn_9 (fun (y0 : Nat) (Z : HS) => ((901 : Int32).toInt - (fI Z v0 8).toInt).toNat) (fun (y0 : Nat) (Z : HS) => (IV Z) ∧ (Gr S Z) ∧ (FRI [(11, 8)] [] S Z) ∧ (v0 = y0) ∧ (RG Z v0) ∧ (kv1 ≤ fI Z v0 8)) ?_ _ _ ⟨hI, (gr_rf _), (fri_rf _ _ _), rfl, hG, (by rw [← d_kv1]; exact (qr711 r_kv1 q_x4 c5))⟩
    intro w10 S7 X12 ⟨hI, gL8, fL9, q11, hG, k1u6⟩ ih13
    subst q11
    have d_x4 := d_x4.trans (fri_at fL9 (by decide) (by decide) o_v0).symm
    have d_kv3 := d_kv3.trans (fri_at fL9 (by decide) (by decide) o_v0).symm
    have f0 := fri_tr (S := S) g0 f0 fL9 (by decide) (by decide)
    have o_v0 := gr_ob gL8 o_v0
    have g0 := gr_tr (T := S) g0 gL8
    obtain ⟨kv14, d_kv14⟩ : ∃ z : Int32, z = fI S7 v0 8 := ⟨_, rfl⟩
    have p_k1u6 : kv1 ≤ kv14 := by rw [d_kv14]; exact k1u6
    have d0_kv14 := d_kv14
    refine u_X11_goesOn_9 ?_
    refine ⟨o_v0, ?_⟩
    intro x15 ex15
    have r_x15 : (0 : Int32) ≤ x15 ∧ x15 ≤ (900 : Int32) := by rw [ex15]; exact nu 25 rfl hI o_v0
    have q_x15 : x15 = kv14 := ex15.trans d_kv14.symm
    have d_x15 := ex15
    refine m_X11_byteAt hI o_v0 (qr712 r_kv1 q_x4 c5 p_k1u6 r_x15 q_x15) (fun x16 S17 hI2 g18 p_x16 => ?_)
    obtain ⟨z_S17, p_x16⟩ := p_x16
    subst z_S17
    intro _
    obtain ⟨kv20, d_kv20⟩ : ∃ z : Int32, z = fI S7 v0 7 := ⟨_, rfl⟩
    have r_kv20 : (0 : Int32) ≤ kv20 ∧ kv20 ≤ (900 : Int32) := by rw [d_kv20]; exact nu 24 rfl hI o_v0
    have by_x16 : x16 = -1 ∨ x15 < kv20 := by rw [d_kv20]; exact p_x16
    refine ⟨fun c21 => ?_, fun c21 => ?_⟩
    · intro x22 ex22
      have r_x22 : (0 : Int32) ≤ x22 ∧ x22 ≤ (900 : Int32) := by rw [ex22]; exact nu 25 rfl hI o_v0
      have q_x22 : x22 = x15 := ex22.trans d_x15.symm
      have d_x22 := ex22
      intro S23 eS23
      have hIn : IV S23 := by rw [eS23]; exact iv11_sI hI o_v0 (by decide) (nu_free (by decide))
      have hG := rg_11 eS23 hI o_v0 hG
      have hI := hIn
      have f0 := fr_I eS23 g0 f0 o_v0 (by decide)
      have d_x4 := rd_Ij eS23 (by decide) d_x4
      have d_kv3 := rd_Ij eS23 (by decide) d_kv3
      have d_x22 := rd_Ij eS23 (by decide) d_x22
      have d_kv20 := rd_Ij eS23 (by decide) d_kv20
      obtain ⟨kv24, hkv24⟩ : ∃ z : Int32, z = x22 := ⟨_, rfl⟩
      have d_kv24 := rd_Is eS23 hkv24
      have g0 := gr_I eS23 g0
      have o_v0 := ob_I eS23 o_v0
      intro S25 eS25
      have hIn : IV S25 := by rw [eS25]; exact iv11_sI hI o_v0 (by decide) (nu_free (by decide))
      have hG := rg_11 eS25 hI o_v0 hG
      have hI := hIn
      have f0 := fr_I eS25 g0 f0 o_v0 (by decide)
      have d_kv3 := rd_Ij eS25 (by decide) d_kv3
      have d_x22 := rd_Ij eS25 (by decide) d_x22
      have d_kv20 := rd_Ij eS25 (by decide) d_kv20
      have d_kv24 := rd_Ij eS25 (by decide) d_kv24
      obtain ⟨kv26, hkv26⟩ : ∃ z : Int32, z = (0 : Int32) := ⟨_, rfl⟩
      have d_kv26 := rd_Is eS25 hkv26
      have g0 := gr_I eS25 g0
      have o_v0 := ob_I eS25 o_v0
      intro S27 eS27
      have hIn : IV S27 := by rw [eS27]; exact iv11_sI hI o_v0 (by decide) (nu_free (by decide))
      have hG := rg_11 eS27 hI o_v0 hG
      have hI := hIn
      have f0 := fr_I eS27 g0 f0 o_v0 (by decide)
      have d_kv3 := rd_Ij eS27 (by decide) d_kv3
      have d_x22 := rd_Ij eS27 (by decide) d_x22
      have d_kv20 := rd_Ij eS27 (by decide) d_kv20
      have d_kv24 := rd_Ij eS27 (by decide) d_kv24
      have d_kv26 := rd_Ij eS27 (by decide) d_kv26
      obtain ⟨kv28, hkv28⟩ : ∃ z : Int32, z = (0 : Int32) := ⟨_, rfl⟩
      have d_kv28 := rd_Is eS27 hkv28
      have g0 := gr_I eS27 g0
      have o_v0 := ob_I eS27 o_v0
      intro x29 ex29
      have r_x29 : (0 : Int32) ≤ x29 ∧ x29 ≤ (900 : Int32) := by rw [ex29]; exact nu 25 rfl hI o_v0
      have q_x29 : x29 = x22 := ex29.trans d_x22.symm
      have d_x29 := ex29
      refine m_X11_byteAt hI o_v0 (qr713 r_kv1 q_x4 c5 p_k1u6 r_x15 q_x15 r_kv20 by_x16 c21 r_x22 q_x22 hkv24 r_x29 q_x29) (fun x30 S31 hI2 g32 p_x30 => ?_)
      obtain ⟨z_S31, p_x30⟩ := p_x30
      subst z_S31
      intro _
      have by_x30 : x30 = -1 ∨ x29 < kv20 := by rw [d_kv20]; exact p_x30
      refine ⟨fun c34 => ?_, fun c34 => ?_⟩
      · refine m_X11_isLetter hI (fun x35 S36 hI2 g37 b_x35 p_x35 => ?_)
        obtain ⟨z_S36, p_x35⟩ := p_x35
        subst z_S36
        intro _ _
        have bb_x35 : x35 = 0 ∨ x35 = 1 := b_x35
        refine ⟨fun c39 => ?_, fun c39 => ?_⟩
        · refine m_X11_isDigit hI (fun x40 S41 hI2 g42 b_x40 p_x40 => ?_)
          obtain ⟨z_S41, p_x40⟩ := p_x40
          subst z_S41
          intro _ _
          have bb_x40 : x40 = 0 ∨ x40 = 1 := b_x40
          refine ⟨fun c44 => ?_, fun c44 => ?_⟩
          · refine ⟨fun c45 => ?_, fun c45 => ?_⟩
            · refine u_X11_goesOn_261 ?_
              refine ⟨o_v0, ?_⟩
              intro S46 eS46
              have hIn : IV S46 := by rw [eS46]; exact iv11_sI hI o_v0 (by decide) (nu_free (by decide))
              have hG := rg_11 eS46 hI o_v0 hG
              have hI := hIn
              have f0 := fr_I eS46 g0 f0 o_v0 (by decide)
              have d_kv3 := rd_Ij eS46 (by decide) d_kv3
              have d_x29 := rd_Ij eS46 (by decide) d_x29
              have d_kv20 := rd_Ij eS46 (by decide) d_kv20
              have d_kv24 := rd_Ij eS46 (by decide) d_kv24
              have d_kv28 := rd_Ij eS46 (by decide) d_kv28
              obtain ⟨kv47, hkv47⟩ : ∃ z : Int32, z = (4 : Int32) := ⟨_, rfl⟩
              have d_kv47 := rd_Is eS46 hkv47
              have g0 := gr_I eS46 g0
              have o_v0 := ob_I eS46 o_v0
              intro S48 eS48
              have hIn : IV S48 := by rw [eS48]; exact iv11_sI hI o_v0 (by decide) (nu_free (by decide))
              have hG := rg_11 eS48 hI o_v0 hG
              have hI := hIn
              have f0 := fr_I eS48 g0 f0 o_v0 (by decide)
              have d_kv3 := rd_Ij eS48 (by decide) d_kv3
              have d_x29 := rd_Ij eS48 (by decide) d_x29
              have d_kv20 := rd_Ij eS48 (by decide) d_kv20
              have d_kv24 := rd_Ij eS48 (by decide) d_kv24
              have d_kv47 := rd_Ij eS48 (by decide) d_kv47
              have d_x30 := rd_Is eS48 (rfl : x30 = x30)
              have g0 := gr_I eS48 g0
              have o_v0 := ob_I eS48 o_v0
              intro x49 ex49
              have r_x49 : (0 : Int32) ≤ x49 ∧ x49 ≤ (900 : Int32) := by rw [ex49]; exact nu 25 rfl hI o_v0
              have q_x49 : x49 = x29 := ex49.trans d_x29.symm
              have d_x49 := ex49
              intro x50 ex50
              intro S51 eS51
              have hIn : IV S51 := by rw [eS51]; exact iv11_sI hI o_v0 (by decide) (nu_one (lo := (0 : Int32)) (hi := (900 : Int32)) (by decide) (qr714 q_x4 c5 c21 c34 p_x35 bb_x35 c39 p_x40 bb_x40 c44 c45))
              have hG := rg_11 eS51 hI o_v0 hG
              have hI := hIn
              have f0 := fr_I eS51 g0 f0 o_v0 (by decide)
              have d_kv3 := rd_Ij eS51 (by decide) d_kv3
              have d_kv20 := rd_Ij eS51 (by decide) d_kv20
              have d_kv24 := rd_Ij eS51 (by decide) d_kv24
              have d_kv47 := rd_Ij eS51 (by decide) d_kv47
              have d_x30 := rd_Ij eS51 (by decide) d_x30
              have d_x50 := rd_Is eS51 (rfl : x50 = x50)
              have g0 := gr_I eS51 g0
              have o_v0 := ob_I eS51 o_v0
              exact hq _ hI g0 f0 ⟨hG, (by have t : kv47 = 5 → 0 < kv3 := (qr715 hO q_x4 c5 c21 c34 p_x35 bb_x35 c39 p_x40 bb_x40 c44 c45 hkv47); rw [d_kv47, d_kv3] at t; exact t), (by have t : kv47 = 5 ∨ ¬ kv2 = 5 := (qr716 q_x4 c5 c21 c34 p_x35 bb_x35 c39 p_x40 bb_x40 c44 c45 hkv47); rw [di_9, d_kv47] at t; exact t), (by have t : kv1 ≤ x50 ∧ (kv47 = 4 → kv1 < x50 ∨ kv2 = 4) := (qr717 r_kv1 q_x4 c5 p_k1u6 r_x15 q_x15 r_kv20 by_x16 c21 r_x22 q_x22 hkv24 r_x29 q_x29 by_x30 c34 p_x35 bb_x35 c39 p_x40 bb_x40 c44 c45 hkv47 r_x49 q_x49 ex50); rw [di_8, di_9, d_x50, d_kv47] at t; exact t)⟩
            · refine ⟨fun c52 => ?_, fun c52 => ?_⟩
              · exact hq _ hI g0 f0 ⟨hG, (by have t : kv26 = 5 → 0 < kv3 := (qr718 hO q_x4 c5 c21 hkv26 c34 p_x35 bb_x35 c39 p_x40 bb_x40 c44 c45 c52); rw [d_kv26, d_kv3] at t; exact t), (by have t : kv26 = 5 ∨ ¬ kv2 = 5 := (qr719 q_x4 c5 c21 hkv26 c34 p_x35 bb_x35 c39 p_x40 bb_x40 c44 c45 c52); rw [di_9, d_kv26] at t; exact t), (by have t : kv1 ≤ x29 ∧ (kv26 = 4 → kv1 < x29 ∨ kv2 = 4) := (qr720 r_kv1 q_x4 c5 p_k1u6 r_x15 q_x15 r_kv20 by_x16 c21 r_x22 q_x22 hkv24 hkv26 r_x29 q_x29 by_x30 c34 p_x35 bb_x35 c39 p_x40 bb_x40 c44 c45 c52); rw [di_8, di_9, d_x29, d_kv26] at t; exact t)⟩
              · refine u_X11_goesOn_261 ?_
                refine ⟨o_v0, ?_⟩
                intro S53 eS53
                have hIn : IV S53 := by rw [eS53]; exact iv11_sI hI o_v0 (by decide) (nu_free (by decide))
                have hG := rg_11 eS53 hI o_v0 hG
                have hI := hIn
                have f0 := fr_I eS53 g0 f0 o_v0 (by decide)
                have d_kv3 := rd_Ij eS53 (by decide) d_kv3
                have d_x29 := rd_Ij eS53 (by decide) d_x29
                have d_kv20 := rd_Ij eS53 (by decide) d_kv20
                have d_kv24 := rd_Ij eS53 (by decide) d_kv24
                have d_kv28 := rd_Ij eS53 (by decide) d_kv28
                obtain ⟨kv54, hkv54⟩ : ∃ z : Int32, z = (4 : Int32) := ⟨_, rfl⟩
                have d_kv54 := rd_Is eS53 hkv54
                have g0 := gr_I eS53 g0
                have o_v0 := ob_I eS53 o_v0
                intro S55 eS55
                have hIn : IV S55 := by rw [eS55]; exact iv11_sI hI o_v0 (by decide) (nu_free (by decide))
                have hG := rg_11 eS55 hI o_v0 hG
                have hI := hIn
                have f0 := fr_I eS55 g0 f0 o_v0 (by decide)
                have d_kv3 := rd_Ij eS55 (by decide) d_kv3
                have d_x29 := rd_Ij eS55 (by decide) d_x29
                have d_kv20 := rd_Ij eS55 (by decide) d_kv20
                have d_kv24 := rd_Ij eS55 (by decide) d_kv24
                have d_kv54 := rd_Ij eS55 (by decide) d_kv54
                have d_x30 := rd_Is eS55 (rfl : x30 = x30)
                have g0 := gr_I eS55 g0
                have o_v0 := ob_I eS55 o_v0
                intro x56 ex56
                have r_x56 : (0 : Int32) ≤ x56 ∧ x56 ≤ (900 : Int32) := by rw [ex56]; exact nu 25 rfl hI o_v0
                have q_x56 : x56 = x29 := ex56.trans d_x29.symm
                have d_x56 := ex56
                intro x57 ex57
                intro S58 eS58
                have hIn : IV S58 := by rw [eS58]; exact iv11_sI hI o_v0 (by decide) (nu_one (lo := (0 : Int32)) (hi := (900 : Int32)) (by decide) (qr721 q_x4 c5 c21 c34 p_x35 bb_x35 c39 p_x40 bb_x40 c44 c45 c52))
                have hG := rg_11 eS58 hI o_v0 hG
                have hI := hIn
                have f0 := fr_I eS58 g0 f0 o_v0 (by decide)
                have d_kv3 := rd_Ij eS58 (by decide) d_kv3
                have d_kv20 := rd_Ij eS58 (by decide) d_kv20
                have d_kv24 := rd_Ij eS58 (by decide) d_kv24
                have d_kv54 := rd_Ij eS58 (by decide) d_kv54
                have d_x30 := rd_Ij eS58 (by decide) d_x30
                have d_x57 := rd_Is eS58 (rfl : x57 = x57)
                have g0 := gr_I eS58 g0
                have o_v0 := ob_I eS58 o_v0
                exact hq _ hI g0 f0 ⟨hG, (by have t : kv54 = 5 → 0 < kv3 := (qr722 hO q_x4 c5 c21 c34 p_x35 bb_x35 c39 p_x40 bb_x40 c44 c45 c52 hkv54); rw [d_kv54, d_kv3] at t; exact t), (by have t : kv54 = 5 ∨ ¬ kv2 = 5 := (qr723 q_x4 c5 c21 c34 p_x35 bb_x35 c39 p_x40 bb_x40 c44 c45 c52 hkv54); rw [di_9, d_kv54] at t; exact t), (by have t : kv1 ≤ x57 ∧ (kv54 = 4 → kv1 < x57 ∨ kv2 = 4) := (qr724 r_kv1 q_x4 c5 p_k1u6 r_x15 q_x15 r_kv20 by_x16 c21 r_x22 q_x22 hkv24 r_x29 q_x29 by_x30 c34 p_x35 bb_x35 c39 p_x40 bb_x40 c44 c45 c52 hkv54 r_x56 q_x56 ex57); rw [di_8, di_9, d_x57, d_kv54] at t; exact t)⟩
          · intro S59 eS59
            have hIn : IV S59 := by rw [eS59]; exact iv11_sI hI o_v0 (by decide) (nu_free (by decide))
            have hG := rg_11 eS59 hI o_v0 hG
            have hI := hIn
            have f0 := fr_I eS59 g0 f0 o_v0 (by decide)
            have d_kv3 := rd_Ij eS59 (by decide) d_kv3
            have d_x29 := rd_Ij eS59 (by decide) d_x29
            have d_kv20 := rd_Ij eS59 (by decide) d_kv20
            have d_kv24 := rd_Ij eS59 (by decide) d_kv24
            have d_kv26 := rd_Ij eS59 (by decide) d_kv26
            have d_kv28 := rd_Ij eS59 (by decide) d_kv28
            obtain ⟨kv60, hkv60⟩ : ∃ z : Int32, z = (0 : Int32) := ⟨_, rfl⟩
            have d_kv60 := rd_Is eS59 hkv60
            have g0 := gr_I eS59 g0
            have o_v0 := ob_I eS59 o_v0
            refine i_X11_goesOn_178 (fun (y0 : Nat) (y2 : Int32) (Z : HS) => ((901 : Int32).toInt - (fI Z v0 8).toInt).toNat) (fun (y0 : Nat) (y2 : Int32) (Z : HS) => (IV Z) ∧ (Gr S59 Z) ∧ (FRI [(11, 8), (11, 12)] [] S59 Z) ∧ (v0 = y0) ∧ (RG Z v0) ∧ (kv1 ≤ fI Z v0 8)) ?_ _ _ _ ⟨hI, (gr_rf _), (fri_rf _ _ _), rfl, hG, (by rw [← d_x29]; exact (qr725 r_kv1 q_x4 c5 p_k1u6 r_x15 q_x15 r_kv20 by_x16 c21 r_x22 q_x22 hkv24 r_x29 q_x29 by_x30 c34 p_x35 bb_x35 c39 p_x40 bb_x40 c44))⟩
            intro w65 w67 S62 X68 ⟨hI, gL63, fL64, q66, hG, k1u61⟩ ih69
            subst q66
            have d_kv3 := d_kv3.trans (fri_at fL64 (by decide) (by decide) o_v0).symm
            have d_kv20 := d_kv20.trans (fri_at fL64 (by decide) (by decide) o_v0).symm
            have d_kv24 := d_kv24.trans (fri_at fL64 (by decide) (by decide) o_v0).symm
            have d_kv26 := d_kv26.trans (fri_at fL64 (by decide) (by decide) o_v0).symm
            have d_kv28 := d_kv28.trans (fri_at fL64 (by decide) (by decide) o_v0).symm
            have f0 := fri_tr (S := S59) g0 f0 fL64 (by decide) (by decide)
            have o_v0 := gr_ob gL63 o_v0
            have g0 := gr_tr (T := S59) g0 gL63
            obtain ⟨kv70, d_kv70⟩ : ∃ z : Int32, z = fI S62 v0 8 := ⟨_, rfl⟩
            have p_k1u61 : kv1 ≤ kv70 := by rw [d_kv70]; exact k1u61
            have d0_kv70 := d_kv70
            refine u_X11_goesOn_178 ?_
            refine ⟨o_v0, ?_⟩
            intro x71 ex71
            have r_x71 : (0 : Int32) ≤ x71 ∧ x71 ≤ (900 : Int32) := by rw [ex71]; exact nu 25 rfl hI o_v0
            have q_x71 : x71 = kv70 := ex71.trans d_kv70.symm
            have d_x71 := ex71
            refine m_X11_byteAt hI o_v0 (qr726 r_kv1 q_x4 c5 p_k1u6 r_x15 q_x15 r_kv20 by_x16 c21 r_x22 q_x22 hkv24 r_x29 q_x29 by_x30 c34 p_x35 bb_x35 c39 p_x40 bb_x40 c44 p_k1u61 r_x71 q_x71) (fun x72 S73 hI2 g74 p_x72 => ?_)
            obtain ⟨z_S73, p_x72⟩ := p_x72
            subst z_S73
            intro _
            have by_x72 : x72 = -1 ∨ x71 < kv20 := by rw [d_kv20]; exact p_x72
            refine m_X11_isDigit hI (fun x76 S77 hI2 g78 b_x76 p_x76 => ?_)
            obtain ⟨z_S77, p_x76⟩ := p_x76
            subst z_S77
            intro _ _
            have bb_x76 : x76 = 0 ∨ x76 = 1 := b_x76
            refine ⟨fun c80 => ?_, fun c80 => ?_⟩
            · refine ⟨fun c81 => ?_, fun c81 => ?_⟩
              · exact hq _ hI g0 f0 ⟨hG, (by have t : kv26 = 5 → 0 < kv3 := (qr727 hO q_x4 c5 c21 hkv26 c34 p_x35 bb_x35 c39 p_x40 bb_x40 c44 p_x76 bb_x76 c80 c81); rw [d_kv26, d_kv3] at t; exact t), (by have t : kv26 = 5 ∨ ¬ kv2 = 5 := (qr728 q_x4 c5 c21 hkv26 c34 p_x35 bb_x35 c39 p_x40 bb_x40 c44 p_x76 bb_x76 c80 c81); rw [di_9, d_kv26] at t; exact t), (by have t : kv1 ≤ x71 ∧ (kv26 = 4 → kv1 < x71 ∨ kv2 = 4) := (qr729 r_kv1 q_x4 c5 p_k1u6 r_x15 q_x15 r_kv20 by_x16 c21 r_x22 q_x22 hkv24 hkv26 r_x29 q_x29 by_x30 c34 p_x35 bb_x35 c39 p_x40 bb_x40 c44 p_k1u61 r_x71 q_x71 by_x72 p_x76 bb_x76 c80 c81); rw [di_8, di_9, d_x71, d_kv26] at t; exact t)⟩
              · intro S82 eS82
                have hIn : IV S82 := by rw [eS82]; exact iv11_sI hI o_v0 (by decide) (nu_free (by decide))
                have hG := rg_11 eS82 hI o_v0 hG
                have hI := hIn
                have f0 := fr_I eS82 g0 f0 o_v0 (by decide)
                have d_kv3 := rd_Ij eS82 (by decide) d_kv3
                have d_kv20 := rd_Ij eS82 (by decide) d_kv20
                have d_kv24 := rd_Ij eS82 (by decide) d_kv24
                have d_kv28 := rd_Ij eS82 (by decide) d_kv28
                have d_x71 := rd_Ij eS82 (by decide) d_x71
                obtain ⟨kv83, hkv83⟩ : ∃ z : Int32, z = (3 : Int32) := ⟨_, rfl⟩
                have d_kv83 := rd_Is eS82 hkv83
                have g0 := gr_I eS82 g0
                have o_v0 := ob_I eS82 o_v0
                exact hq _ hI g0 f0 ⟨hG, (by have t : kv83 = 5 → 0 < kv3 := (qr730 hO q_x4 c5 c21 c34 p_x35 bb_x35 c39 p_x40 bb_x40 c44 p_x76 bb_x76 c80 c81 hkv83); rw [d_kv83, d_kv3] at t; exact t), (by have t : kv83 = 5 ∨ ¬ kv2 = 5 := (qr731 q_x4 c5 c21 c34 p_x35 bb_x35 c39 p_x40 bb_x40 c44 p_x76 bb_x76 c80 c81 hkv83); rw [di_9, d_kv83] at t; exact t), (by have t : kv1 ≤ x71 ∧ (kv83 = 4 → kv1 < x71 ∨ kv2 = 4) := (qr732 r_kv1 q_x4 c5 p_k1u6 r_x15 q_x15 r_kv20 by_x16 c21 r_x22 q_x22 hkv24 r_x29 q_x29 by_x30 c34 p_x35 bb_x35 c39 p_x40 bb_x40 c44 p_k1u61 r_x71 q_x71 by_x72 p_x76 bb_x76 c80 c81 hkv83); rw [di_8, di_9, d_x71, d_kv83] at t; exact t)⟩
            · refine ⟨fun c84 => ?_, fun c84 => ?_⟩
              · refine u_X11_goesOn_220 ?_
                intro x85 ex85
                refine ⟨o_v0, ?_⟩
                intro x86 ex86
                have r_x86 : (0 : Int32) ≤ x86 ∧ x86 ≤ (900 : Int32) := by rw [ex86]; exact nu 25 rfl hI o_v0
                have q_x86 : x86 = x71 := ex86.trans d_x71.symm
                have d_x86 := ex86
                intro x87 ex87
                intro S88 eS88
                have hIn : IV S88 := by rw [eS88]; exact iv11_sI hI o_v0 (by decide) (nu_one (lo := (0 : Int32)) (hi := (900 : Int32)) (by decide) (qr733 q_x4 c5 c21 c34 p_x35 bb_x35 c39 p_x40 bb_x40 c44 p_x76 bb_x76 c80 c84 ex85))
                have hG := rg_11 eS88 hI o_v0 hG
                have hI := hIn
                have f0 := fr_I eS88 g0 f0 o_v0 (by decide)
                have fL64 := fr_I eS88 gL63 fL64 o_v0 (by decide)
                have d_kv3 := rd_Ij eS88 (by decide) d_kv3
                have d_kv20 := rd_Ij eS88 (by decide) d_kv20
                have d_kv24 := rd_Ij eS88 (by decide) d_kv24
                have d_kv26 := rd_Ij eS88 (by decide) d_kv26
                have d_kv28 := rd_Ij eS88 (by decide) d_kv28
                have d_x87 := rd_Is eS88 (rfl : x87 = x87)
                have g0 := gr_I eS88 g0
                have gL63 := gr_I eS88 gL63
                have o_v0 := ob_I eS88 o_v0
                exact ih69 _ _ _ ⟨hI, gL63, fL64, rfl, hG, (by rw [← d_x87]; exact (qr734 r_kv1 q_x4 c5 p_k1u6 r_x15 q_x15 r_kv20 by_x16 c21 r_x22 q_x22 hkv24 r_x29 q_x29 by_x30 c34 p_x35 bb_x35 c39 p_x40 bb_x40 c44 p_k1u61 r_x71 q_x71 by_x72 p_x76 bb_x76 c80 c84 ex85 r_x86 q_x86 ex87))⟩ (by rw [← d0_kv70, ← d_x87]; exact mu_up (qr735 r_kv1 q_x4 c5 p_k1u6 r_x15 q_x15 r_kv20 by_x16 c21 r_x22 q_x22 hkv24 r_x29 q_x29 by_x30 c34 p_x35 bb_x35 c39 p_x40 bb_x40 c44 p_k1u61 r_x71 q_x71 by_x72 p_x76 bb_x76 c80 c84 ex85 r_x86 q_x86 ex87) (qr736 r_kv1 q_x4 c5 p_k1u6 r_x15 q_x15 r_kv20 by_x16 c21 r_x22 q_x22 hkv24 r_x29 q_x29 by_x30 c34 p_x35 bb_x35 c39 p_x40 bb_x40 c44 p_k1u61 r_x71 q_x71 by_x72 p_x76 bb_x76 c80 c84 ex85 r_x86 q_x86 ex87))
              · intro x89 ex89
                have d_x89 := ex89
                intro x90 ex90
                have r_x90 : (0 : Int32) ≤ x90 ∧ x90 ≤ (900 : Int32) := by rw [ex90]; exact nu 25 rfl hI o_v0
                have q_x90 : x90 = x71 := ex90.trans d_x71.symm
                have d_x90 := ex90
                refine m_X11_byteAt hI o_v0 (qr737 r_kv1 q_x4 c5 p_k1u6 r_x15 q_x15 r_kv20 by_x16 c21 r_x22 q_x22 hkv24 r_x29 q_x29 by_x30 c34 p_x35 bb_x35 c39 p_x40 bb_x40 c44 p_k1u61 r_x71 q_x71 by_x72 p_x76 bb_x76 c80 c84 r_x90 q_x90) (fun x91 S92 hI2 g93 p_x91 => ?_)
                obtain ⟨z_S92, p_x91⟩ := p_x91
                subst z_S92
                intro _
                have by_x91 : x91 = -1 ∨ x90 < kv20 := by rw [d_kv20]; exact p_x91
                intro x95 ex95
                intro S96 eS96
                have hIn : IV S96 := by rw [eS96]; exact iv11_sI hI o_v0 (by decide) (nu_free (by decide))
                have hG := rg_11 eS96 hI o_v0 hG
                have hI := hIn
                have f0 := fr_I eS96 g0 f0 o_v0 (by decide)
                have fL64 := fr_I eS96 gL63 fL64 o_v0 (by decide)
                have d_kv3 := rd_Ij eS96 (by decide) d_kv3
                have d_kv20 := rd_Ij eS96 (by decide) d_kv20
                have d_kv24 := rd_Ij eS96 (by decide) d_kv24
                have d_kv26 := rd_Ij eS96 (by decide) d_kv26
                have d_kv28 := rd_Ij eS96 (by decide) d_kv28
                have d_x90 := rd_Ij eS96 (by decide) d_x90
                have d_x95 := rd_Is eS96 (rfl : x95 = x95)
                have g0 := gr_I eS96 g0
                have gL63 := gr_I eS96 gL63
                have o_v0 := ob_I eS96 o_v0
                refine u_X11_goesOn_220 ?_
                intro x97 ex97
                refine ⟨o_v0, ?_⟩
                intro x98 ex98
                have r_x98 : (0 : Int32) ≤ x98 ∧ x98 ≤ (900 : Int32) := by rw [ex98]; exact nu 25 rfl hI o_v0
                have q_x98 : x98 = x90 := ex98.trans d_x90.symm
                have d_x98 := ex98
                intro x99 ex99
                intro S100 eS100
                have hIn : IV S100 := by rw [eS100]; exact iv11_sI hI o_v0 (by decide) (nu_one (lo := (0 : Int32)) (hi := (900 : Int32)) (by decide) (qr738 q_x4 c5 c21 c34 p_x35 bb_x35 c39 p_x40 bb_x40 c44 p_x76 bb_x76 c80 c84 ex97))
                have hG := rg_11 eS100 hI o_v0 hG
                have hI := hIn
                have f0 := fr_I eS100 g0 f0 o_v0 (by decide)
                have fL64 := fr_I eS100 gL63 fL64 o_v0 (by decide)
                have d_kv3 := rd_Ij eS100 (by decide) d_kv3
                have d_kv20 := rd_Ij eS100 (by decide) d_kv20
                have d_kv24 := rd_Ij eS100 (by decide) d_kv24
                have d_kv26 := rd_Ij eS100 (by decide) d_kv26
                have d_kv28 := rd_Ij eS100 (by decide) d_kv28
                have d_x95 := rd_Ij eS100 (by decide) d_x95
                have d_x99 := rd_Is eS100 (rfl : x99 = x99)
                have g0 := gr_I eS100 g0
                have gL63 := gr_I eS100 gL63
                have o_v0 := ob_I eS100 o_v0
                exact ih69 _ _ _ ⟨hI, gL63, fL64, rfl, hG, (by rw [← d_x99]; exact (qr739 r_kv1 q_x4 c5 p_k1u6 r_x15 q_x15 r_kv20 by_x16 c21 r_x22 q_x22 hkv24 r_x29 q_x29 by_x30 c34 p_x35 bb_x35 c39 p_x40 bb_x40 c44 p_k1u61 r_x71 q_x71 by_x72 p_x76 bb_x76 c80 c84 r_x90 q_x90 by_x91 ex95 ex97 r_x98 q_x98 ex99))⟩ (by rw [← d0_kv70, ← d_x99]; exact mu_up (qr740 r_kv1 q_x4 c5 p_k1u6 r_x15 q_x15 r_kv20 by_x16 c21 r_x22 q_x22 hkv24 r_x29 q_x29 by_x30 c34 p_x35 bb_x35 c39 p_x40 bb_x40 c44 p_k1u61 r_x71 q_x71 by_x72 p_x76 bb_x76 c80 c84 r_x90 q_x90 by_x91 ex95 ex97 r_x98 q_x98 ex99) (qr741 r_kv1 q_x4 c5 p_k1u6 r_x15 q_x15 r_kv20 by_x16 c21 r_x22 q_x22 hkv24 r_x29 q_x29 by_x30 c34 p_x35 bb_x35 c39 p_x40 bb_x40 c44 p_k1u61 r_x71 q_x71 by_x72 p_x76 bb_x76 c80 c84 r_x90 q_x90 by_x91 ex95 ex97 r_x98 q_x98 ex99))
        · intro S101 eS101
          have hIn : IV S101 := by rw [eS101]; exact iv11_sJ hI o_v0
          have hG := rg_J eS101 hG
          have hI := hIn
          have f0 := fr_J eS101 f0
          have d_kv3 := rd_J eS101 d_kv3
          have d_x29 := rd_J eS101 d_x29
          have d_kv20 := rd_J eS101 d_kv20
          have d_kv24 := rd_J eS101 d_kv24
          have d_kv26 := rd_J eS101 d_kv26
          have d_kv28 := rd_J eS101 d_kv28
          have g0 := gr_J eS101 g0
          have o_v0 := ob_J eS101 o_v0
          refine i_X11_goesOn_89 (fun (y0 : Nat) (y2 : Int32) (Z : HS) => ((901 : Int32).toInt - (fI Z v0 8).toInt).toNat) (fun (y0 : Nat) (y2 : Int32) (Z : HS) => (IV Z) ∧ (Gr S101 Z) ∧ (FRI [(11, 8)] [] S101 Z) ∧ (v0 = y0) ∧ (RG Z v0) ∧ (kv1 ≤ fI Z v0 8)) ?_ _ _ _ ⟨hI, (gr_rf _), (fri_rf _ _ _), rfl, hG, (by rw [← d_x29]; exact (qr742 r_kv1 q_x4 c5 p_k1u6 r_x15 q_x15 r_kv20 by_x16 c21 r_x22 q_x22 hkv24 r_x29 q_x29 by_x30 c34 p_x35 bb_x35 c39))⟩
          intro w106 w108 S103 X109 ⟨hI, gL104, fL105, q107, hG, k1u102⟩ ih110
          subst q107
          have d_kv3 := d_kv3.trans (fri_at fL105 (by decide) (by decide) o_v0).symm
          have d_kv20 := d_kv20.trans (fri_at fL105 (by decide) (by decide) o_v0).symm
          have d_kv24 := d_kv24.trans (fri_at fL105 (by decide) (by decide) o_v0).symm
          have d_kv26 := d_kv26.trans (fri_at fL105 (by decide) (by decide) o_v0).symm
          have d_kv28 := d_kv28.trans (fri_at fL105 (by decide) (by decide) o_v0).symm
          have f0 := fri_tr (S := S101) g0 f0 fL105 (by decide) (by decide)
          have o_v0 := gr_ob gL104 o_v0
          have g0 := gr_tr (T := S101) g0 gL104
          obtain ⟨kv111, d_kv111⟩ : ∃ z : Int32, z = fI S103 v0 8 := ⟨_, rfl⟩
          have p_k1u102 : kv1 ≤ kv111 := by rw [d_kv111]; exact k1u102
          have d0_kv111 := d_kv111
          refine u_X11_goesOn_89 ?_
          refine ⟨o_v0, ?_⟩
          intro x112 ex112
          have r_x112 : (0 : Int32) ≤ x112 ∧ x112 ≤ (900 : Int32) := by rw [ex112]; exact nu 25 rfl hI o_v0
          have q_x112 : x112 = kv111 := ex112.trans d_kv111.symm
          have d_x112 := ex112
          refine m_X11_byteAt hI o_v0 (qr743 r_kv1 q_x4 c5 p_k1u6 r_x15 q_x15 r_kv20 by_x16 c21 r_x22 q_x22 hkv24 r_x29 q_x29 by_x30 c34 p_x35 bb_x35 c39 p_k1u102 r_x112 q_x112) (fun x113 S114 hI2 g115 p_x113 => ?_)
          obtain ⟨z_S114, p_x113⟩ := p_x113
          subst z_S114
          intro _
          have by_x113 : x113 = -1 ∨ x112 < kv20 := by rw [d_kv20]; exact p_x113
          refine m_X11_isLetter hI (fun x117 S118 hI2 g119 b_x117 p_x117 => ?_)
          obtain ⟨z_S118, p_x117⟩ := p_x117
          subst z_S118
          intro _ _
          have bb_x117 : x117 = 0 ∨ x117 = 1 := b_x117
          refine ⟨fun c121 => ?_, fun c121 => ?_⟩
          · refine ⟨fun c122 => ?_, fun c122 => ?_⟩
            · exact hq _ hI g0 f0 ⟨hG, (by have t : kv26 = 5 → 0 < kv3 := (qr744 hO q_x4 c5 c21 hkv26 c34 p_x35 bb_x35 c39 p_x117 bb_x117 c121 c122); rw [d_kv26, d_kv3] at t; exact t), (by have t : kv26 = 5 ∨ ¬ kv2 = 5 := (qr745 q_x4 c5 c21 hkv26 c34 p_x35 bb_x35 c39 p_x117 bb_x117 c121 c122); rw [di_9, d_kv26] at t; exact t), (by have t : kv1 ≤ x112 ∧ (kv26 = 4 → kv1 < x112 ∨ kv2 = 4) := (qr746 r_kv1 q_x4 c5 p_k1u6 r_x15 q_x15 r_kv20 by_x16 c21 r_x22 q_x22 hkv24 hkv26 r_x29 q_x29 by_x30 c34 p_x35 bb_x35 c39 p_k1u102 r_x112 q_x112 by_x113 p_x117 bb_x117 c121 c122); rw [di_8, di_9, d_x112, d_kv26] at t; exact t)⟩
            · intro S123 eS123
              have hIn : IV S123 := by rw [eS123]; exact iv11_sI hI o_v0 (by decide) (nu_free (by decide))
              have hG := rg_11 eS123 hI o_v0 hG
              have hI := hIn
              have f0 := fr_I eS123 g0 f0 o_v0 (by decide)
              have d_kv3 := rd_Ij eS123 (by decide) d_kv3
              have d_kv20 := rd_Ij eS123 (by decide) d_kv20
              have d_kv24 := rd_Ij eS123 (by decide) d_kv24
              have d_kv28 := rd_Ij eS123 (by decide) d_kv28
              have d_x112 := rd_Ij eS123 (by decide) d_x112
              obtain ⟨kv124, hkv124⟩ : ∃ z : Int32, z = (2 : Int32) := ⟨_, rfl⟩
              have d_kv124 := rd_Is eS123 hkv124
              have g0 := gr_I eS123 g0
              have o_v0 := ob_I eS123 o_v0
              exact hq _ hI g0 f0 ⟨hG, (by have t : kv124 = 5 → 0 < kv3 := (qr747 hO q_x4 c5 c21 c34 p_x35 bb_x35 c39 p_x117 bb_x117 c121 c122 hkv124); rw [d_kv124, d_kv3] at t; exact t), (by have t : kv124 = 5 ∨ ¬ kv2 = 5 := (qr748 q_x4 c5 c21 c34 p_x35 bb_x35 c39 p_x117 bb_x117 c121 c122 hkv124); rw [di_9, d_kv124] at t; exact t), (by have t : kv1 ≤ x112 ∧ (kv124 = 4 → kv1 < x112 ∨ kv2 = 4) := (qr749 r_kv1 q_x4 c5 p_k1u6 r_x15 q_x15 r_kv20 by_x16 c21 r_x22 q_x22 hkv24 r_x29 q_x29 by_x30 c34 p_x35 bb_x35 c39 p_k1u102 r_x112 q_x112 by_x113 p_x117 bb_x117 c121 c122 hkv124); rw [di_8, di_9, d_x112, d_kv124] at t; exact t)⟩
          · refine ⟨fun c125 => ?_, fun c125 => ?_⟩
            · refine u_X11_goesOn_136 ?_
              intro x126 ex126
              refine ⟨o_v0, ?_⟩
              intro x127 ex127
              have r_x127 : (0 : Int32) ≤ x127 ∧ x127 ≤ (900 : Int32) := by rw [ex127]; exact nu 25 rfl hI o_v0
              have q_x127 : x127 = x112 := ex127.trans d_x112.symm
              have d_x127 := ex127
              intro x128 ex128
              intro S129 eS129
              have hIn : IV S129 := by rw [eS129]; exact iv11_sI hI o_v0 (by decide) (nu_one (lo := (0 : Int32)) (hi := (900 : Int32)) (by decide) (qr750 q_x4 c5 c21 c34 p_x35 bb_x35 c39 p_x117 bb_x117 c121 c125 ex126))
              have hG := rg_11 eS129 hI o_v0 hG
              have hI := hIn
              have f0 := fr_I eS129 g0 f0 o_v0 (by decide)
              have fL105 := fr_I eS129 gL104 fL105 o_v0 (by decide)
              have d_kv3 := rd_Ij eS129 (by decide) d_kv3
              have d_kv20 := rd_Ij eS129 (by decide) d_kv20
              have d_kv24 := rd_Ij eS129 (by decide) d_kv24
              have d_kv26 := rd_Ij eS129 (by decide) d_kv26
              have d_kv28 := rd_Ij eS129 (by decide) d_kv28
              have d_x128 := rd_Is eS129 (rfl : x128 = x128)
              have g0 := gr_I eS129 g0
              have gL104 := gr_I eS129 gL104
              have o_v0 := ob_I eS129 o_v0
              exact ih110 _ _ _ ⟨hI, gL104, fL105, rfl, hG, (by rw [← d_x128]; exact (qr751 r_kv1 q_x4 c5 p_k1u6 r_x15 q_x15 r_kv20 by_x16 c21 r_x22 q_x22 hkv24 r_x29 q_x29 by_x30 c34 p_x35 bb_x35 c39 p_k1u102 r_x112 q_x112 by_x113 p_x117 bb_x117 c121 c125 ex126 r_x127 q_x127 ex128))⟩ (by rw [← d0_kv111, ← d_x128]; exact mu_up (qr752 r_kv1 q_x4 c5 p_k1u6 r_x15 q_x15 r_kv20 by_x16 c21 r_x22 q_x22 hkv24 r_x29 q_x29 by_x30 c34 p_x35 bb_x35 c39 p_k1u102 r_x112 q_x112 by_x113 p_x117 bb_x117 c121 c125 ex126 r_x127 q_x127 ex128) (qr753 r_kv1 q_x4 c5 p_k1u6 r_x15 q_x15 r_kv20 by_x16 c21 r_x22 q_x22 hkv24 r_x29 q_x29 by_x30 c34 p_x35 bb_x35 c39 p_k1u102 r_x112 q_x112 by_x113 p_x117 bb_x117 c121 c125 ex126 r_x127 q_x127 ex128))
            · intro x130 ex130
              have dj_x130 := ex130
              intro x131 ex131
              have r_x131 : (0 : Int32) ≤ x131 ∧ x131 ≤ (900 : Int32) := by rw [ex131]; exact nu 25 rfl hI o_v0
              have q_x131 : x131 = x112 := ex131.trans d_x112.symm
              have d_x131 := ex131
              refine m_X11_byteAt hI o_v0 (qr754 r_kv1 q_x4 c5 p_k1u6 r_x15 q_x15 r_kv20 by_x16 c21 r_x22 q_x22 hkv24 r_x29 q_x29 by_x30 c34 p_x35 bb_x35 c39 p_k1u102 r_x112 q_x112 by_x113 p_x117 bb_x117 c121 c125 r_x131 q_x131) (fun x132 S133 hI2 g134 p_x132 => ?_)
              obtain ⟨z_S133, p_x132⟩ := p_x132
              subst z_S133
              intro _
              have by_x132 : x132 = -1 ∨ x131 < kv20 := by rw [d_kv20]; exact p_x132
              intro x136 ex136
              intro S137 eS137
              have hIn : IV S137 := by rw [eS137]; exact iv11_sJ hI o_v0
              have hG := rg_J eS137 hG
              have hI := hIn
              have f0 := fr_J eS137 f0
              have fL105 := fr_J eS137 fL105
              have d_kv3 := rd_J eS137 d_kv3
              have d_kv20 := rd_J eS137 d_kv20
              have d_kv24 := rd_J eS137 d_kv24
              have d_kv26 := rd_J eS137 d_kv26
              have d_kv28 := rd_J eS137 d_kv28
              have d_x131 := rd_J eS137 d_x131
              have g0 := gr_J eS137 g0
              have gL104 := gr_J eS137 gL104
              have o_v0 := ob_J eS137 o_v0
              refine u_X11_goesOn_136 ?_
              intro x138 ex138
              refine ⟨o_v0, ?_⟩
              intro x139 ex139
              have r_x139 : (0 : Int32) ≤ x139 ∧ x139 ≤ (900 : Int32) := by rw [ex139]; exact nu 25 rfl hI o_v0
              have q_x139 : x139 = x131 := ex139.trans d_x131.symm
              have d_x139 := ex139
              intro x140 ex140
              intro S141 eS141
              have hIn : IV S141 := by rw [eS141]; exact iv11_sI hI o_v0 (by decide) (nu_one (lo := (0 : Int32)) (hi := (900 : Int32)) (by decide) (qr755 q_x4 c5 c21 c34 p_x35 bb_x35 c39 p_x117 bb_x117 c121 c125 ex138))
              have hG := rg_11 eS141 hI o_v0 hG
              have hI := hIn
              have f0 := fr_I eS141 g0 f0 o_v0 (by decide)
              have fL105 := fr_I eS141 gL104 fL105 o_v0 (by decide)
              have d_kv3 := rd_Ij eS141 (by decide) d_kv3
              have d_kv20 := rd_Ij eS141 (by decide) d_kv20
              have d_kv24 := rd_Ij eS141 (by decide) d_kv24
              have d_kv26 := rd_Ij eS141 (by decide) d_kv26
              have d_kv28 := rd_Ij eS141 (by decide) d_kv28
              have d_x140 := rd_Is eS141 (rfl : x140 = x140)
              have g0 := gr_I eS141 g0
              have gL104 := gr_I eS141 gL104
              have o_v0 := ob_I eS141 o_v0
              exact ih110 _ _ _ ⟨hI, gL104, fL105, rfl, hG, (by rw [← d_x140]; exact (qr756 r_kv1 q_x4 c5 p_k1u6 r_x15 q_x15 r_kv20 by_x16 c21 r_x22 q_x22 hkv24 r_x29 q_x29 by_x30 c34 p_x35 bb_x35 c39 p_k1u102 r_x112 q_x112 by_x113 p_x117 bb_x117 c121 c125 r_x131 q_x131 by_x132 ex136 ex138 r_x139 q_x139 ex140))⟩ (by rw [← d0_kv111, ← d_x140]; exact mu_up (qr757 r_kv1 q_x4 c5 p_k1u6 r_x15 q_x15 r_kv20 by_x16 c21 r_x22 q_x22 hkv24 r_x29 q_x29 by_x30 c34 p_x35 bb_x35 c39 p_k1u102 r_x112 q_x112 by_x113 p_x117 bb_x117 c121 c125 r_x131 q_x131 by_x132 ex136 ex138 r_x139 q_x139 ex140) (qr758 r_kv1 q_x4 c5 p_k1u6 r_x15 q_x15 r_kv20 by_x16 c21 r_x22 q_x22 hkv24 r_x29 q_x29 by_x30 c34 p_x35 bb_x35 c39 p_k1u102 r_x112 q_x112 by_x113 p_x117 bb_x117 c121 c125 r_x131 q_x131 by_x132 ex136 ex138 r_x139 q_x139 ex140))
      · intro S142 eS142
        have hIn : IV S142 := by rw [eS142]; exact iv11_sI hI o_v0 (by decide) (nu_free (by decide))
        have hG := rg_11 eS142 hI o_v0 hG
        have hI := hIn
        have f0 := fr_I eS142 g0 f0 o_v0 (by decide)
        have d_kv3 := rd_Ij eS142 (by decide) d_kv3
        have d_x29 := rd_Ij eS142 (by decide) d_x29
        have d_kv20 := rd_Ij eS142 (by decide) d_kv20
        have d_kv24 := rd_Ij eS142 (by decide) d_kv24
        have d_kv28 := rd_Ij eS142 (by decide) d_kv28
        obtain ⟨kv143, hkv143⟩ : ∃ z : Int32, z = (1 : Int32) := ⟨_, rfl⟩
        have d_kv143 := rd_Is eS142 hkv143
        have g0 := gr_I eS142 g0
        have o_v0 := ob_I eS142 o_v0
        exact hq _ hI g0 f0 ⟨hG, (by have t : kv143 = 5 → 0 < kv3 := (qr759 hO q_x4 c5 c21 c34 hkv143); rw [d_kv143, d_kv3] at t; exact t), (by have t : kv143 = 5 ∨ ¬ kv2 = 5 := (qr760 q_x4 c5 c21 c34 hkv143); rw [di_9, d_kv143] at t; exact t), (by have t : kv1 ≤ x29 ∧ (kv143 = 4 → kv1 < x29 ∨ kv2 = 4) := (qr761 r_kv1 q_x4 c5 p_k1u6 r_x15 q_x15 r_kv20 by_x16 c21 r_x22 q_x22 hkv24 r_x29 q_x29 by_x30 c34 hkv143); rw [di_8, di_9, d_x29, d_kv143] at t; exact t)⟩
    · intro x144 ex144
      have r_x144 : (0 : Int32) ≤ x144 ∧ x144 ≤ (900 : Int32) := by rw [ex144]; exact nu 25 rfl hI o_v0
      have q_x144 : x144 = x15 := ex144.trans d_x15.symm
      have d_x144 := ex144
      intro x145 ex145
      intro S146 eS146
      have hIn : IV S146 := by rw [eS146]; exact iv11_sI hI o_v0 (by decide) (nu_one (lo := (0 : Int32)) (hi := (900 : Int32)) (by decide) (qr762 q_x4 c5 c21))
      have hG := rg_11 eS146 hI o_v0 hG
      have hI := hIn
      have f0 := fr_I eS146 g0 f0 o_v0 (by decide)
      have fL9 := fr_I eS146 gL8 fL9 o_v0 (by decide)
      have d_x4 := rd_Ij eS146 (by decide) d_x4
      have d_kv3 := rd_Ij eS146 (by decide) d_kv3
      have d_kv20 := rd_Ij eS146 (by decide) d_kv20
      have d_x145 := rd_Is eS146 (rfl : x145 = x145)
      have g0 := gr_I eS146 g0
      have gL8 := gr_I eS146 gL8
      have o_v0 := ob_I eS146 o_v0
      exact ih13 _ _ ⟨hI, gL8, fL9, rfl, hG, (by rw [← d_x145]; exact (qr763 r_kv1 q_x4 c5 p_k1u6 r_x15 q_x15 r_kv20 by_x16 c21 r_x144 q_x144 ex145))⟩ (by rw [← d0_kv14, ← d_x145]; exact mu_up (qr764 r_kv1 q_x4 c5 p_k1u6 r_x15 q_x15 r_kv20 by_x16 c21 r_x144 q_x144 ex145) (qr765 r_kv1 q_x4 c5 p_k1u6 r_x15 q_x15 r_kv20 by_x16 c21 r_x144 q_x144 ex145))
  · exact hq _ hI g0 f0 ⟨hG, (by have t : x4 = 5 → 0 < kv3 := (qr766 hO q_x4 c5); rw [d_x4, d_kv3] at t; exact t), (by have t : x4 = 5 ∨ ¬ kv2 = 5 := (qr767 q_x4 c5); rw [di_9, d_x4] at t; exact t), (by have t : kv1 ≤ kv1 ∧ (x4 = 4 → kv1 < kv1 ∨ kv2 = 4) := (qr768 r_kv1 q_x4 c5); rw [d_kv1, di_9, d_x4] at t; exact t)⟩
