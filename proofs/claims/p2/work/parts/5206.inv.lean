set_option maxHeartbeats 4000000 in
set_option maxRecDepth 20000 in
theorem m_X7_addLeg {v0 : Nat} {v1 : Nat} {v2 : Int32} {v3 : Int32} {v4 : Int64} {v6 : Int32} {Q : HS → Prop} {S : HS} (hI : IV S) (o_v0 : ob S v0 7) (o_v1 : ob S v1 5)    (hM : WM S v0) (hq : ∀ (T : HS), IV T → Gr S T → FRI [(7, 3)] [] S T → (WM T v0) → Q T) : P_X7_addLeg v0 v1 v2 v3 v4 v6 Q S := by
  have g0 := gr_rf S
  have f0 := fri_rf [(7, 3)] [] S
  refine u_X7_addLeg ?_
  refine u_X7_addLeg_0 ?_
  refine ⟨o_v1, ?_⟩
  refine m_X5_minutesAt hI o_v1 (fun x1 S2 hI2 g3 p_x1 => ?_)
  subst p_x1
  intro _
  refine ⟨o_v0, ?_⟩
  intro x5 ex5
  have r_x5 : (0 : Int32) ≤ x5 ∧ x5 ≤ (224 : Int32) := by rw [ex5]; exact nu 8 rfl hI o_v0
  have d_x5 := ex5
  intro x6 ex6
  refine ⟨fun c7 => ?_, fun c7 => ?_⟩
  · refine u_X7_addLeg_82 ?_
    refine ⟨o_v1, ?_⟩
    refine m_X5_startOf hI o_v1 (fun x8 S9 hI2 g10 p_x8 => ?_)
    subst p_x8
    intro _
    refine m_X5_endOf hI o_v1 (fun x12 S13 hI2 g14 p_x12 => ?_)
    subst p_x12
    intro _
    refine ⟨o_v0, ?_⟩
    refine m_X7_addMove hI o_v0 hM (fun S17 hI g18 fc19 p_S17 => ?_)
    have hM := p_S17
    have f0 := fri_tr (S := S) g0 f0 fc19 (by decide) (by decide)
    have o_v0 := gr_ob g18 o_v0
    have o_v1 := gr_ob g18 o_v1
    have g0 := gr_tr (T := S) g0 g18
    intro _
    exact hq _ hI g0 f0 hM
  · refine ⟨fun c20 => ?_, fun c20 => ?_⟩
    · refine u_X7_addLeg_82 ?_
      refine ⟨o_v1, ?_⟩
      refine m_X5_startOf hI o_v1 (fun x21 S22 hI2 g23 p_x21 => ?_)
      subst p_x21
      intro _
      refine m_X5_endOf hI o_v1 (fun x25 S26 hI2 g27 p_x25 => ?_)
      subst p_x25
      intro _
      refine ⟨o_v0, ?_⟩
      refine m_X7_addMove hI o_v0 hM (fun S30 hI g31 fc32 p_S30 => ?_)
      have hM := p_S30
      have f0 := fri_tr (S := S) g0 f0 fc32 (by decide) (by decide)
      have o_v0 := gr_ob g31 o_v0
      have o_v1 := gr_ob g31 o_v1
      have g0 := gr_tr (T := S) g0 g31
      intro _
      exact hq _ hI g0 f0 hM
    · obtain ⟨a33, ea33, o_a33, -⟩ := sh 28 rfl hI o_v0
      have l_a33 := wm hM 7 rfl ea33
      refine ⟨a33, ea33, ?_⟩
      refine ⟨o_a33, ?_⟩
      refine ⟨(vin l_a33 (m := 224) (by decide) (q395 r_x5 ex6 c7 c20)), ?_⟩
      intro x34 ex34
      intro x35 ex35
      intro x36 ex36
      refine ⟨fun c37 => ?_, fun c37 => ?_⟩
      · refine u_X7_addLeg_82 ?_
        refine ⟨o_v1, ?_⟩
        refine m_X5_startOf hI o_v1 (fun x38 S39 hI2 g40 p_x38 => ?_)
        subst p_x38
        intro _
        refine m_X5_endOf hI o_v1 (fun x42 S43 hI2 g44 p_x42 => ?_)
        subst p_x42
        intro _
        refine ⟨o_v0, ?_⟩
        refine m_X7_addMove hI o_v0 hM (fun S47 hI g48 fc49 p_S47 => ?_)
        have hM := p_S47
        have l_a33 := (gr_len g48 o_a33).trans l_a33
        have ea33 := (frr_at fc49 (by decide) (by decide) o_v0).trans ea33
        have f0 := fri_tr (S := S) g0 f0 fc49 (by decide) (by decide)
        have o_a33 := gr_ob g48 o_a33
        have o_v0 := gr_ob g48 o_v0
        have o_v1 := gr_ob g48 o_v1
        have g0 := gr_tr (T := S) g0 g48
        intro _
        exact hq _ hI g0 f0 hM
      · obtain ⟨a50, ea50, o_a50, -⟩ := sh 26 rfl hI o_v0
        have l_a50 := wm hM 5 rfl ea50
        refine ⟨a50, ea50, ?_⟩
        refine ⟨o_a50, ?_⟩
        refine ⟨(vin l_a50 (m := 224) (by decide) (q396 r_x5 ex6 c7 c20 ex35 ex36 c37)), ?_⟩
        intro x51 ex51
        refine ⟨fun c52 => ?_, fun c52 => ?_⟩
        · refine u_X7_addLeg_82 ?_
          refine ⟨o_v1, ?_⟩
          refine m_X5_startOf hI o_v1 (fun x53 S54 hI2 g55 p_x53 => ?_)
          subst p_x53
          intro _
          refine m_X5_endOf hI o_v1 (fun x57 S58 hI2 g59 p_x57 => ?_)
          subst p_x57
          intro _
          refine ⟨o_v0, ?_⟩
          refine m_X7_addMove hI o_v0 hM (fun S62 hI g63 fc64 p_S62 => ?_)
          have hM := p_S62
          have l_a33 := (gr_len g63 o_a33).trans l_a33
          have l_a50 := (gr_len g63 o_a50).trans l_a50
          have ea33 := (frr_at fc64 (by decide) (by decide) o_v0).trans ea33
          have ea50 := (frr_at fc64 (by decide) (by decide) o_v0).trans ea50
          have f0 := fri_tr (S := S) g0 f0 fc64 (by decide) (by decide)
          have o_a33 := gr_ob g63 o_a33
          have o_a50 := gr_ob g63 o_a50
          have o_v0 := gr_ob g63 o_v0
          have o_v1 := gr_ob g63 o_v1
          have g0 := gr_tr (T := S) g0 g63
          intro _
          exact hq _ hI g0 f0 hM
        · obtain ⟨a65, ea65, o_a65, -⟩ := sh 27 rfl hI o_v0
          have l_a65 := wm hM 6 rfl ea65
          refine ⟨a65, ea65, ?_⟩
          refine ⟨o_a65, ?_⟩
          refine ⟨(vin l_a65 (m := 224) (by decide) (q397 r_x5 ex6 c7 c20 ex35 ex36 c37 c52)), ?_⟩
          intro x66 ex66
          refine ⟨fun c67 => ?_, fun c67 => ?_⟩
          · intro S68 eS68
            have hI : IV S68 := by rw [eS68]; exact iv_sI hI o_v0 (by decide) (nu_one (lo := (0 : Int32)) (hi := (224 : Int32)) (by decide) (q398 r_x5 ex6 c7 c20 ex35 ex36 c37 c52 c67))
            have f0 := fr_I eS68 g0 f0 o_v0 (by decide)
            have d_x6 := rd_Is eS68 (rfl : x6 = x6)
            have ea33 := rf_I eS68 ea33
            have ea50 := rf_I eS68 ea50
            have ea65 := rf_I eS68 ea65
            have hM := wm_I eS68 hM
            have l_a33 := ln_I eS68 l_a33
            have l_a50 := ln_I eS68 l_a50
            have l_a65 := ln_I eS68 l_a65
            have g0 := gr_I eS68 g0
            have o_a33 := ob_I eS68 o_a33
            have o_a50 := ob_I eS68 o_a50
            have o_a65 := ob_I eS68 o_a65
            have o_v0 := ob_I eS68 o_v0
            have o_v1 := ob_I eS68 o_v1
            refine u_X7_addLeg_82 ?_
            refine ⟨o_v1, ?_⟩
            refine m_X5_startOf hI o_v1 (fun x69 S70 hI2 g71 p_x69 => ?_)
            subst p_x69
            intro _
            refine m_X5_endOf hI o_v1 (fun x73 S74 hI2 g75 p_x73 => ?_)
            subst p_x73
            intro _
            refine ⟨o_v0, ?_⟩
            refine m_X7_addMove hI o_v0 hM (fun S78 hI g79 fc80 p_S78 => ?_)
            have hM := p_S78
            have l_a33 := (gr_len g79 o_a33).trans l_a33
            have l_a50 := (gr_len g79 o_a50).trans l_a50
            have l_a65 := (gr_len g79 o_a65).trans l_a65
            have ea33 := (frr_at fc80 (by decide) (by decide) o_v0).trans ea33
            have ea50 := (frr_at fc80 (by decide) (by decide) o_v0).trans ea50
            have ea65 := (frr_at fc80 (by decide) (by decide) o_v0).trans ea65
            have f0 := fri_tr (S := S68) g0 f0 fc80 (by decide) (by decide)
            have o_a33 := gr_ob g79 o_a33
            have o_a50 := gr_ob g79 o_a50
            have o_a65 := gr_ob g79 o_a65
            have o_v0 := gr_ob g79 o_v0
            have o_v1 := gr_ob g79 o_v1
            have g0 := gr_tr (T := S68) g0 g79
            intro _
            exact hq _ hI g0 f0 hM
          · exact hq _ hI g0 f0 hM
set_option maxHeartbeats 4000000 in
set_option maxRecDepth 20000 in
theorem m_X7_keyOf {v0 : Nat} {v1 : Int32} {v2 : Int32} {Q : Int64 → HS → Prop} {S : HS} (hI : IV S) (o_v0 : ob S v0 7)     (hq : ∀ (r : Int64) (T : HS), IV T → Gr S T → (S = T) → Q r T) : P_X7_keyOf v0 v1 v2 Q S := by
  have g0 := gr_rf S
  refine u_X7_keyOf ?_
  refine u_X7_keyOf_0 ?_
  intro x1 ex1
  refine ⟨fun c2 => ?_, fun c2 => ?_⟩
  · exact hq _ _ hI g0 rfl
  · refine ⟨o_v0, ?_⟩
    obtain ⟨a3, ea3, o_a3, -⟩ := sh 22 rfl hI o_v0
    have hl_a3 := wyl hI o_v0 1 rfl (by decide) ea3
    refine ⟨a3, ea3, ?_⟩
    refine ⟨o_a3, ?_⟩
    refine ⟨fun c4 => ?_, fun c4 => ?_⟩
    · exact hq _ _ hI g0 rfl
    · refine ⟨a3, ea3, ?_⟩
      refine ⟨o_a3, ?_⟩
      refine ⟨(vinL hl_a3 (q388 ex1 c2 c4)), ?_⟩
      intro x6 ex6
      exact hq _ _ hI g0 rfl
set_option maxHeartbeats 4000000 in
set_option maxRecDepth 20000 in
theorem m_X7_endFrom {v0 : Nat} {v1 : Int32} {v2 : Int32} {Q : Int32 → HS → Prop} {S : HS} (hI : IV S) (o_v0 : ob S v0 7)     (hq : ∀ (r : Int32) (T : HS), IV T → Gr S T → (S = T) → Q r T) : P_X7_endFrom v0 v1 v2 Q S := by
  have g0 := gr_rf S
  refine u_X7_endFrom ?_
  refine u_X7_endFrom_0 ?_
  refine ⟨o_v0, ?_⟩
  refine m_X7_keyOf hI o_v0 (fun x1 S2 hI2 g3 p_x1 => ?_)
  subst p_x1
  intro _
  intro x5 ex5
  exact hq _ _ hI g0 rfl
set_option maxHeartbeats 4000000 in
set_option maxRecDepth 20000 in
theorem m_X7_forget {v0 : Nat} {Q : HS → Prop} {S : HS} (hI : IV S) (o_v0 : ob S v0 7)     (hq : ∀ (T : HS), IV T → Gr S T → FRI [(7, 10)] [] S T → Q T) : P_X7_forget v0 Q S := by
  have g0 := gr_rf S
  have f0 := fri_rf [(7, 10)] [] S
  refine u_X7_forget ?_
  refine u_X7_forget_0 ?_
  refine ⟨o_v0, ?_⟩
  intro S1 eS1
  have hI : IV S1 := by rw [eS1]; exact iv_sI hI o_v0 (by decide) (nu_free (by decide))
  have f0 := fr_I eS1 g0 f0 o_v0 (by decide)
  obtain ⟨y2, hy2⟩ : ∃ z : Int32, z = (-1 : Int32) := ⟨_, rfl⟩
  have d_y2 := rd_Is eS1 hy2
  have g0 := gr_I eS1 g0
  have o_v0 := ob_I eS1 o_v0
  exact hq _ hI g0 f0
set_option maxHeartbeats 4000000 in
set_option maxRecDepth 20000 in
theorem m_X7_isOpen {v0 : Nat} {v1 : Int32} {v2 : Int32} {Q : Int32 → HS → Prop} {S : HS} (hI : IV S) (o_v0 : ob S v0 7)     (hq : ∀ (r : Int32) (T : HS), IV T → Gr S T → bl r → (S = T) → Q r T) : P_X7_isOpen v0 v1 v2 Q S := by
  have g0 := gr_rf S
  refine u_X7_isOpen ?_
  refine u_X7_isOpen_0 ?_
  refine ⟨o_v0, ?_⟩
  refine m_X7_keyOf hI o_v0 (fun x1 S2 hI2 g3 p_x1 => ?_)
  subst p_x1
  intro _
  refine ⟨fun c5 => ?_, fun c5 => ?_⟩
  · exact hq _ _ hI g0 (Or.inl rfl) rfl
  · exact hq _ _ hI g0 (Or.inr rfl) rfl
set_option maxHeartbeats 4000000 in
set_option maxRecDepth 20000 in
theorem m_X7_meanFrom {v0 : Nat} {v1 : Int32} {v2 : Int32} {Q : Int64 → HS → Prop} {S : HS} (hI : IV S) (o_v0 : ob S v0 7)     (hq : ∀ (r : Int64) (T : HS), IV T → Gr S T → (S = T) → Q r T) : P_X7_meanFrom v0 v1 v2 Q S := by
  have g0 := gr_rf S
  refine u_X7_meanFrom ?_
  refine u_X7_meanFrom_0 ?_
  refine ⟨o_v0, ?_⟩
  refine m_X7_keyOf hI o_v0 (fun x1 S2 hI2 g3 p_x1 => ?_)
  subst p_x1
  intro _
  intro x5 ex5
  exact hq _ _ hI g0 rfl
set_option maxHeartbeats 4000000 in
set_option maxRecDepth 20000 in
theorem m_X8_hasPlace {v0 : Nat} {v1 : Int32} {Q : Int32 → HS → Prop} {S : HS} (hI : IV S) (o_v0 : ob S v0 8)     (hq : ∀ (r : Int32) (T : HS), IV T → Gr S T → bl r → (S = T) ∧ (r = 1 → 0 ≤ v1 ∧ v1 < 8) → Q r T) : P_X8_hasPlace v0 v1 Q S := by
  have g0 := gr_rf S
  refine u_X8_hasPlace ?_
  refine u_X8_hasPlace_0 ?_
  refine ⟨fun c1 => ?_, fun c1 => ?_⟩
  · exact hq _ _ hI g0 (Or.inl rfl) ⟨rfl, (q105 c1)⟩
  · refine ⟨o_v0, ?_⟩
    intro x2 ex2
    have r_x2 : (0 : Int32) ≤ x2 ∧ x2 ≤ (8 : Int32) := by rw [ex2]; exact nu 12 rfl hI o_v0
    have d_x2 := ex2
    refine ⟨fun c3 => ?_, fun c3 => ?_⟩
    · exact hq _ _ hI g0 (Or.inl rfl) ⟨rfl, (q106 c1 r_x2 c3)⟩
    · obtain ⟨a4, ea4, o_a4, l_a4⟩ := shl 16 rfl hI o_v0
      refine ⟨a4, ea4, ?_⟩
      refine ⟨o_a4, ?_⟩
      have n_a4 : nI (hN S a4) = 8 := by rw [show hN S a4 = 8 from l_a4]; decide
      refine ⟨fun c5 => ?_, fun c5 => ?_⟩
      · rw [n_a4] at c5
        exact hq _ _ hI g0 (Or.inl rfl) ⟨rfl, (q107 c1 r_x2 c3 c5)⟩
      · rw [n_a4] at c5
        exact hq _ _ hI g0 (Or.inr rfl) ⟨rfl, (q108 c1 r_x2 c3 c5)⟩
set_option maxHeartbeats 4000000 in
set_option maxRecDepth 20000 in
theorem m_X8_canWait {v0 : Nat} {v1 : Int32} {Q : Int32 → HS → Prop} {S : HS} (hI : IV S) (o_v0 : ob S v0 8)     (hq : ∀ (r : Int32) (T : HS), IV T → Gr S T → bl r → (S = T) ∧ (r = 1 → 0 ≤ v1 ∧ v1 < 8) → Q r T) : P_X8_canWait v0 v1 Q S := by
  have g0 := gr_rf S
  refine u_X8_canWait ?_
  refine u_X8_canWait_0 ?_
  refine ⟨o_v0, ?_⟩
  refine m_X8_hasPlace hI o_v0 (fun x1 S2 hI2 g3 b_x1 p_x1 => ?_)
  obtain ⟨z_S2, p_x1⟩ := p_x1
  subst z_S2
  intro _ _
  have bb_x1 : x1 = 0 ∨ x1 = 1 := b_x1
  refine ⟨fun c5 => ?_, fun c5 => ?_⟩
  · exact hq _ _ hI g0 (Or.inl rfl) ⟨rfl, (q385 p_x1 bb_x1 c5)⟩
  · obtain ⟨a6, ea6, o_a6, l_a6⟩ := shl 16 rfl hI o_v0
    refine ⟨a6, ea6, ?_⟩
    refine ⟨o_a6, ?_⟩
    refine ⟨(vin l_a6 (m := 8) (by decide) (q384 p_x1 bb_x1 c5)), ?_⟩
    intro x7 ex7
    refine ⟨fun c8 => ?_, fun c8 => ?_⟩
    · exact hq _ _ hI g0 (Or.inl rfl) ⟨rfl, (q386 p_x1 bb_x1 c5 c8)⟩
    · exact hq _ _ hI g0 (Or.inr rfl) ⟨rfl, (q387 p_x1 bb_x1 c5 c8)⟩
set_option maxHeartbeats 4000000 in
set_option maxRecDepth 20000 in
theorem m_X8_dripOn {v0 : Nat} {v1 : Nat} {v2 : Int32} {Q : Int32 → HS → Prop} {S : HS} (hI : IV S) (o_v0 : ob S v0 8) (o_v1 : ob S v1 6)     (hq : ∀ (r : Int32) (T : HS), IV T → Gr S T → (S = T) → Q r T) : P_X8_dripOn v0 v1 v2 Q S := by
  have g0 := gr_rf S
  refine u_X8_dripOn ?_
  refine u_X8_dripOn_0 ?_
  refine ⟨o_v0, ?_⟩
  refine m_X8_canWait hI o_v0 (fun x1 S2 hI2 g3 b_x1 p_x1 => ?_)
  obtain ⟨z_S2, p_x1⟩ := p_x1
  subst z_S2
  intro _ _
  have bb_x1 : x1 = 0 ∨ x1 = 1 := b_x1
  refine ⟨fun c5 => ?_, fun c5 => ?_⟩
  · exact hq _ _ hI g0 rfl
  · obtain ⟨a6, ea6, o_a6, l_a6⟩ := shl 16 rfl hI o_v0
    refine ⟨a6, ea6, ?_⟩
    refine ⟨o_a6, ?_⟩
    refine ⟨(vin l_a6 (m := 8) (by decide) (q384 p_x1 bb_x1 c5)), ?_⟩
    intro x7 ex7
    refine ⟨o_v1, ?_⟩
    intro x8 ex8
    have d_x8 := ex8
    refine m_X6_shield hI o_v1 (fun x9 S10 hI2 g11 p_x9 => ?_)
    subst p_x9
    intro _
    intro x13 ex13
    exact hq _ _ hI g0 rfl
set_option maxHeartbeats 4000000 in
set_option maxRecDepth 20000 in
theorem m_X8_hasHour {v0 : Nat} {v1 : Int32} {Q : Int32 → HS → Prop} {S : HS} (hI : IV S) (o_v0 : ob S v0 8)     (hq : ∀ (r : Int32) (T : HS), IV T → Gr S T → bl r → (S = T) ∧ (r = 1 → 0 ≤ v1 ∧ v1 < 6) → Q r T) : P_X8_hasHour v0 v1 Q S := by
  have g0 := gr_rf S
  refine u_X8_hasHour ?_
  refine u_X8_hasHour_0 ?_
  refine ⟨fun c1 => ?_, fun c1 => ?_⟩
  · exact hq _ _ hI g0 (Or.inl rfl) ⟨rfl, (q27 c1)⟩
  · refine ⟨o_v0, ?_⟩
    intro x2 ex2
    have r_x2 : (0 : Int32) ≤ x2 ∧ x2 ≤ (6 : Int32) := by rw [ex2]; exact nu 11 rfl hI o_v0
    have d_x2 := ex2
    refine ⟨fun c3 => ?_, fun c3 => ?_⟩
    · exact hq _ _ hI g0 (Or.inl rfl) ⟨rfl, (q28 c1 r_x2 c3)⟩
    · obtain ⟨a4, ea4, o_a4, l_a4⟩ := shl 15 rfl hI o_v0
      refine ⟨a4, ea4, ?_⟩
      refine ⟨o_a4, ?_⟩
      have n_a4 : nI (hN S a4) = 6 := by rw [show hN S a4 = 6 from l_a4]; decide
      refine ⟨fun c5 => ?_, fun c5 => ?_⟩
      · rw [n_a4] at c5
        exact hq _ _ hI g0 (Or.inl rfl) ⟨rfl, (q29 c1 r_x2 c3 c5)⟩
      · rw [n_a4] at c5
        exact hq _ _ hI g0 (Or.inr rfl) ⟨rfl, (q30 c1 r_x2 c3 c5)⟩
set_option maxHeartbeats 4000000 in
set_option maxRecDepth 20000 in
theorem m_X7_price {v0 : Nat} {v1 : Nat} {v2 : Nat} {v3 : Int32} {Q : HS → Prop} {S : HS} (hI : IV S) (o_v0 : ob S v0 7) (o_v1 : ob S v1 8) (o_v2 : ob S v2 1)    (hM : WM S v0) (hq : ∀ (T : HS), IV T → Gr S T → FRI [(7, 3), (7, 9)] [] S T → (WM T v0) → Q T) : P_X7_price v0 v1 v2 v3 Q S := by
  have g0 := gr_rf S
  have f0 := fri_rf [(7, 3), (7, 9)] [] S
  refine u_X7_price ?_
  refine u_X7_price_0 ?_
  refine ⟨o_v0, ?_⟩
  intro S1 eS1
  have hI : IV S1 := by rw [eS1]; exact iv_sI hI o_v0 (by decide) (nu_free (by decide))
  have f0 := fr_I eS1 g0 f0 o_v0 (by decide)
  have d_v3 := rd_Is eS1 (rfl : v3 = v3)
  have hM := wm_I eS1 hM
  have g0 := gr_I eS1 g0
  have o_v0 := ob_I eS1 o_v0
  have o_v1 := ob_I eS1 o_v1
  have o_v2 := ob_I eS1 o_v2
  intro S2 eS2
  have hI : IV S2 := by rw [eS2]; exact iv_sI hI o_v0 (by decide) (nu_one (lo := (0 : Int32)) (hi := (224 : Int32)) (by decide) (q336))
  have f0 := fr_I eS2 g0 f0 o_v0 (by decide)
  have d_v3 := rd_Ij eS2 (by decide) d_v3
  obtain ⟨y3, hy3⟩ : ∃ z : Int32, z = (0 : Int32) := ⟨_, rfl⟩
  have d_y3 := rd_Is eS2 hy3
  have hM := wm_I eS2 hM
  have g0 := gr_I eS2 g0
  have o_v0 := ob_I eS2 o_v0
  have o_v1 := ob_I eS2 o_v1
  have o_v2 := ob_I eS2 o_v2
  intro x4 ex4
  have d_x4 := ex4
  refine ⟨o_v1, ?_⟩
  refine m_X8_hasWalker hI o_v1 (fun x5 S6 hI2 g7 b_x5 p_x5 => ?_)
  obtain ⟨z_S6, p_x5⟩ := p_x5
  subst z_S6
  intro _ _
  have bb_x5 : x5 = 0 ∨ x5 = 1 := b_x5
  refine ⟨fun c9 => ?_, fun c9 => ?_⟩
  · obtain ⟨a10, ea10, o_a10, l_a10⟩ := shl 18 rfl hI o_v1
    refine ⟨a10, ea10, ?_⟩
    intro x11 ex11
    have q_x11 : x11 = x4 := ex11.trans d_x4.symm
    have d_x11 := ex11
    refine ⟨o_a10, ?_⟩
    have i13 : vp_in x11 (hN _ a10) := (vin l_a10 (m := 4) (by decide) (q337 p_x5 bb_x5 c9 q_x11))
    obtain ⟨a12, ea12, o_a12⟩ := ae hI o_a10 (by decide) (by decide) i13
    replace o_a12 : ob _ a12 6 := o_a12
    refine ⟨i13, a12, ea12, ?_⟩
    refine m_X8_hasHour hI o_v1 (fun x14 S15 hI2 g16 b_x14 p_x14 => ?_)
    obtain ⟨z_S15, p_x14⟩ := p_x14
    subst z_S15
    intro _ _
    have bb_x14 : x14 = 0 ∨ x14 = 1 := b_x14
    refine ⟨fun c18 => ?_, fun c18 => ?_⟩
    · refine u_X7_price_46 ?_
      refine i_X7_price_51 (fun (y0 : Nat) (y1 : Nat) (y2 : Nat) (y3 : Int32) (y4 : Nat) (y5 : Int32) (y6 : Int32) (Z : HS) => ((2147483647 : Int32).toInt - y6.toInt).toNat) (fun (y0 : Nat) (y1 : Nat) (y2 : Nat) (y3 : Int32) (y4 : Nat) (y5 : Int32) (y6 : Int32) (Z : HS) => (IV Z) ∧ (Gr S2 Z) ∧ (FRI [(7, 3)] [] S2 Z) ∧ (v0 = y0) ∧ (v1 = y1) ∧ (v2 = y2) ∧ (v3 = y3) ∧ (a12 = y4) ∧ ((0 : Int32) = y5) ∧ (WM Z v0) ∧ (0 ≤ y6)) ?_ _ _ _ _ _ _ _ _ ⟨hI, (gr_rf _), (fri_rf _ _ _), rfl, rfl, rfl, rfl, rfl, rfl, hM, (q338 p_x5 bb_x5 c9 q_x11 p_x14 bb_x14 c18)⟩
      intro w22 w24 w26 w28 w30 w32 w34 S19 X35 ⟨hI, gL20, fL21, q23, q25, q27, q29, q31, q33, hM, i1⟩ ih36
      subst q23
      subst q25
      subst q27
      subst q29
      subst q31
      subst q33
      have l_a10 := (gr_len gL20 o_a10).trans l_a10
      have d_v3 := d_v3.trans (fri_at fL21 (by decide) (by decide) o_v0).symm
      have d_x11 := d_x11.trans (fri_at fL21 (by decide) (by decide) o_v0).symm
      have ea10 := (frr_at fL21 (by decide) (by decide) o_v1).trans ea10
      have f0 := fri_tr (S := S2) g0 f0 fL21 (by decide) (by decide)
      have o_a10 := gr_ob gL20 o_a10
      have o_a12 := gr_ob gL20 o_a12
      have o_v0 := gr_ob gL20 o_v0
      have o_v1 := gr_ob gL20 o_v1
      have o_v2 := gr_ob gL20 o_v2
      have g0 := gr_tr (T := S2) g0 gL20
      refine u_X7_price_51 ?_
      refine ⟨o_v1, ?_⟩
      intro x37 ex37
      have r_x37 : (0 : Int32) ≤ x37 ∧ x37 ≤ (12 : Int32) := by rw [ex37]; exact nu 13 rfl hI o_v1
      have d_x37 := ex37
      refine ⟨fun c38 => ?_, fun c38 => ?_⟩
      · refine i_X7_price_179 (fun (y0 : Nat) (y1 : Nat) (y3 : Int32) (y4 : Nat) (y5 : Int32) (y6 : Int32) (Z : HS) => ((2147483647 : Int32).toInt - y6.toInt).toNat) (fun (y0 : Nat) (y1 : Nat) (y3 : Int32) (y4 : Nat) (y5 : Int32) (y6 : Int32) (Z : HS) => (IV Z) ∧ (Gr S19 Z) ∧ (FRI [(7, 3)] [] S19 Z) ∧ (v0 = y0) ∧ (v1 = y1) ∧ (v3 = y3) ∧ (a12 = y4) ∧ ((0 : Int32) = y5) ∧ (WM Z v0) ∧ (0 ≤ y6)) ?_ _ _ _ _ _ _ _ ⟨hI, (gr_rf _), (fri_rf _ _ _), rfl, rfl, rfl, rfl, rfl, hM, (q339 p_x5 bb_x5 c9 q_x11 p_x14 bb_x14 c18 i1 r_x37 c38)⟩
        intro w42 w44 w46 w48 w50 w52 S39 X53 ⟨hI, gL40, fL41, q43, q45, q47, q49, q51, hM, i1⟩ ih54
        subst q43
        subst q45
        subst q47
        subst q49
        subst q51
        have l_a10 := (gr_len gL40 o_a10).trans l_a10
        have d_v3 := d_v3.trans (fri_at fL41 (by decide) (by decide) o_v0).symm
        have d_x11 := d_x11.trans (fri_at fL41 (by decide) (by decide) o_v0).symm
        have d_x37 := d_x37.trans (fri_at fL41 (by decide) (by decide) o_v1).symm
        have ea10 := (frr_at fL41 (by decide) (by decide) o_v1).trans ea10
        have f0 := fri_tr (S := S19) g0 f0 fL41 (by decide) (by decide)
        have o_a10 := gr_ob gL40 o_a10
        have o_a12 := gr_ob gL40 o_a12
        have o_v0 := gr_ob gL40 o_v0
        have o_v1 := gr_ob gL40 o_v1
        have o_v2 := gr_ob gL40 o_v2
        have g0 := gr_tr (T := S19) g0 gL40
        refine u_X7_price_179 ?_
        refine ⟨o_v1, ?_⟩
        intro x55 ex55
        have r_x55 : (0 : Int32) ≤ x55 ∧ x55 ≤ (8 : Int32) := by rw [ex55]; exact nu 12 rfl hI o_v1
        have d_x55 := ex55
        refine ⟨fun c56 => ?_, fun c56 => ?_⟩
        · exact hq _ hI g0 f0 hM
        · refine m_X8_canWait hI o_v1 (fun x57 S58 hI2 g59 b_x57 p_x57 => ?_)
          obtain ⟨z_S58, p_x57⟩ := p_x57
          subst z_S58
          intro _ _
          have bb_x57 : x57 = 0 ∨ x57 = 1 := b_x57
          refine ⟨fun c61 => ?_, fun c61 => ?_⟩
          · refine u_X7_price_245 ?_
            intro x62 ex62
            exact ih54 _ _ _ _ _ _ _ ⟨hI, gL40, fL41, rfl, rfl, rfl, rfl, rfl, hM, (q340 p_x5 bb_x5 c9 q_x11 p_x14 bb_x14 c18 i1 r_x37 c38 i1 r_x55 c56 p_x57 bb_x57 c61 ex62)⟩ (mu_up (q341 p_x5 bb_x5 c9 q_x11 p_x14 bb_x14 c18 i1 r_x37 c38 i1 r_x55 c56 p_x57 bb_x57 c61 ex62) (q342 p_x5 bb_x5 c9 q_x11 p_x14 bb_x14 c18 i1 r_x37 c38 i1 r_x55 c56 p_x57 bb_x57 c61 ex62))
          · refine ⟨fun c63 => ?_, fun c63 => ?_⟩
            · refine m_X8_dripOn hI o_v1 o_a12 (fun x64 S65 hI2 g66 p_x64 => ?_)
              subst p_x64
              intro _
              obtain ⟨a68, ea68, o_a68, l_a68⟩ := shl 15 rfl hI o_v1
              refine ⟨a68, ea68, ?_⟩
              refine ⟨o_a68, ?_⟩
              have i70 : vp_in v3 (hN _ a68) := (vin l_a68 (m := 6) (by decide) (q343 p_x5 bb_x5 c9 q_x11 p_x14 bb_x14 c18 i1 r_x37 c38 i1 r_x55 c56 p_x57 bb_x57 c61))
              obtain ⟨a69, ea69, o_a69⟩ := ae hI o_a68 (by decide) (by decide) i70
              replace o_a69 : ob _ a69 3 := o_a69
              refine ⟨i70, a69, ea69, ?_⟩
              refine ⟨o_a69, ?_⟩
              intro x71 ex71
              have d_x71 := ex71
              refine u_X7_price_230 ?_
              refine ⟨o_v0, ?_⟩
              refine m_X7_addMove hI o_v0 hM (fun S73 hI g74 fc75 p_S73 => ?_)
              have hM := p_S73
              have l_a10 := (gr_len g74 o_a10).trans l_a10
              have l_a68 := (gr_len g74 o_a68).trans l_a68
              have d_v3 := d_v3.trans (fri_at fc75 (by decide) (by decide) o_v0).symm
              have d_x11 := d_x11.trans (fri_at fc75 (by decide) (by decide) o_v0).symm
              have d_x37 := d_x37.trans (fri_at fc75 (by decide) (by decide) o_v1).symm
              have d_x55 := d_x55.trans (fri_at fc75 (by decide) (by decide) o_v1).symm
              have d_x71 := d_x71.trans (fri_at fc75 (by decide) (by decide) o_a69).symm
              have ea10 := (frr_at fc75 (by decide) (by decide) o_v1).trans ea10
              have ea68 := (frr_at fc75 (by decide) (by decide) o_v1).trans ea68
              have f0 := fri_tr (S := S39) g0 f0 fc75 (by decide) (by decide)
              have fL41 := fri_tr (S := S39) gL40 fL41 fc75 (by decide) (by decide)
              have o_a10 := gr_ob g74 o_a10
              have o_a12 := gr_ob g74 o_a12
              have o_a68 := gr_ob g74 o_a68
              have o_a69 := gr_ob g74 o_a69
              have o_v0 := gr_ob g74 o_v0
              have o_v1 := gr_ob g74 o_v1
              have o_v2 := gr_ob g74 o_v2
              have g0 := gr_tr (T := S39) g0 g74
              have gL40 := gr_tr (T := S39) gL40 g74
              intro _
              refine u_X7_price_245 ?_
              intro x76 ex76
              exact ih54 _ _ _ _ _ _ _ ⟨hI, gL40, fL41, rfl, rfl, rfl, rfl, rfl, hM, (q344 p_x5 bb_x5 c9 q_x11 p_x14 bb_x14 c18 i1 r_x37 c38 i1 r_x55 c56 p_x57 bb_x57 c61 ex76)⟩ (mu_up (q345 p_x5 bb_x5 c9 q_x11 p_x14 bb_x14 c18 i1 r_x37 c38 i1 r_x55 c56 p_x57 bb_x57 c61 ex76) (q346 p_x5 bb_x5 c9 q_x11 p_x14 bb_x14 c18 i1 r_x37 c38 i1 r_x55 c56 p_x57 bb_x57 c61 ex76))
            · refine u_X7_price_230 ?_
              refine ⟨o_v0, ?_⟩
              refine m_X7_addMove hI o_v0 hM (fun S78 hI g79 fc80 p_S78 => ?_)
              have hM := p_S78
              have l_a10 := (gr_len g79 o_a10).trans l_a10
              have d_v3 := d_v3.trans (fri_at fc80 (by decide) (by decide) o_v0).symm
              have d_x11 := d_x11.trans (fri_at fc80 (by decide) (by decide) o_v0).symm
              have d_x37 := d_x37.trans (fri_at fc80 (by decide) (by decide) o_v1).symm
              have d_x55 := d_x55.trans (fri_at fc80 (by decide) (by decide) o_v1).symm
              have ea10 := (frr_at fc80 (by decide) (by decide) o_v1).trans ea10
              have f0 := fri_tr (S := S39) g0 f0 fc80 (by decide) (by decide)
              have fL41 := fri_tr (S := S39) gL40 fL41 fc80 (by decide) (by decide)
              have o_a10 := gr_ob g79 o_a10
              have o_a12 := gr_ob g79 o_a12
              have o_v0 := gr_ob g79 o_v0
              have o_v1 := gr_ob g79 o_v1
              have o_v2 := gr_ob g79 o_v2
              have g0 := gr_tr (T := S39) g0 g79
              have gL40 := gr_tr (T := S39) gL40 g79
              intro _
              refine u_X7_price_245 ?_
              intro x81 ex81
              exact ih54 _ _ _ _ _ _ _ ⟨hI, gL40, fL41, rfl, rfl, rfl, rfl, rfl, hM, (q347 p_x5 bb_x5 c9 q_x11 p_x14 bb_x14 c18 i1 r_x37 c38 i1 r_x55 c56 p_x57 bb_x57 c61 c63 ex81)⟩ (mu_up (q348 p_x5 bb_x5 c9 q_x11 p_x14 bb_x14 c18 i1 r_x37 c38 i1 r_x55 c56 p_x57 bb_x57 c61 c63 ex81) (q349 p_x5 bb_x5 c9 q_x11 p_x14 bb_x14 c18 i1 r_x37 c38 i1 r_x55 c56 p_x57 bb_x57 c61 c63 ex81))
      · obtain ⟨a82, ea82, o_a82, l_a82⟩ := shl 17 rfl hI o_v1
        refine ⟨a82, ea82, ?_⟩
        intro x83 ex83
        have dv_x83 : 0 ≤ x83 ∧ x83 < (12 : Int32) := by rw [ex83]; exact dvl (k := 12) (m := 24) (q350 p_x5 bb_x5 c9 q_x11 p_x14 bb_x14 c18 i1 r_x37 c38 ex83) (q351 p_x5 bb_x5 c9 q_x11 p_x14 bb_x14 c18 i1 r_x37 c38 ex83) (by decide) (by decide)
        refine ⟨o_a82, ?_⟩
        have i85 : vp_in x83 (hN _ a82) := (vin l_a82 (m := 12) (by decide) (q352 p_x5 bb_x5 c9 q_x11 p_x14 bb_x14 c18 i1 r_x37 c38 ex83 dv_x83))
        obtain ⟨a84, ea84, o_a84⟩ := ae hI o_a82 (by decide) (by decide) i85
        replace o_a84 : ob _ a84 5 := o_a84
        refine ⟨i85, a84, ea84, ?_⟩
        intro x86 ex86
        refine ⟨o_a12, ?_⟩
        intro x87 ex87
        have r_x87 : (0 : Int32) ≤ x87 ∧ x87 ≤ (9 : Int32) := by rw [ex87]; exact nu 4 rfl hI o_a12
        have d_x87 := ex87
        refine i_X7_price_86 (fun (y0 : Nat) (y1 : Nat) (y2 : Nat) (y3 : Int32) (y4 : Nat) (y5 : Int32) (y6 : Int32) (y7 : Nat) (y8 : Int32) (y9 : Int32) (Z : HS) => ((2147483647 : Int32).toInt - y9.toInt).toNat) (fun (y0 : Nat) (y1 : Nat) (y2 : Nat) (y3 : Int32) (y4 : Nat) (y5 : Int32) (y6 : Int32) (y7 : Nat) (y8 : Int32) (y9 : Int32) (Z : HS) => (IV Z) ∧ (Gr S19 Z) ∧ (FRI [(7, 3)] [] S19 Z) ∧ (v0 = y0) ∧ (v1 = y1) ∧ (v2 = y2) ∧ (v3 = y3) ∧ (a12 = y4) ∧ ((0 : Int32) = y5) ∧ (w34 = y6) ∧ (a84 = y7) ∧ (x86 = y8) ∧ (WM Z v0)) ?_ _ _ _ _ _ _ _ _ _ _ _ ⟨hI, (gr_rf _), (fri_rf _ _ _), rfl, rfl, rfl, rfl, rfl, rfl, rfl, rfl, rfl, hM⟩
        intro w91 w93 w95 w97 w99 w101 w103 w105 w107 w109 S88 X110 ⟨hI, gL89, fL90, q92, q94, q96, q98, q100, q102, q104, q106, q108, hM⟩ ih111
        subst q92
        subst q94
        subst q96
        subst q98
        subst q100
        subst q102
        subst q104
        subst q106
        subst q108
        have l_a10 := (gr_len gL89 o_a10).trans l_a10
        have l_a82 := (gr_len gL89 o_a82).trans l_a82
        have d_v3 := d_v3.trans (fri_at fL90 (by decide) (by decide) o_v0).symm
        have d_x11 := d_x11.trans (fri_at fL90 (by decide) (by decide) o_v0).symm
        have d_x37 := d_x37.trans (fri_at fL90 (by decide) (by decide) o_v1).symm
        have d_x87 := d_x87.trans (fri_at fL90 (by decide) (by decide) o_a12).symm
        have ea10 := (frr_at fL90 (by decide) (by decide) o_v1).trans ea10
        have ea82 := (frr_at fL90 (by decide) (by decide) o_v1).trans ea82
        have f0 := fri_tr (S := S19) g0 f0 fL90 (by decide) (by decide)
        have fL21 := fri_tr (S := S19) gL20 fL21 fL90 (by decide) (by decide)
        have o_a10 := gr_ob gL89 o_a10
        have o_a12 := gr_ob gL89 o_a12
        have o_a82 := gr_ob gL89 o_a82
        have o_a84 := gr_ob gL89 o_a84
        have o_v0 := gr_ob gL89 o_v0
        have o_v1 := gr_ob gL89 o_v1
        have o_v2 := gr_ob gL89 o_v2
        have g0 := gr_tr (T := S19) g0 gL89
        have gL20 := gr_tr (T := S19) gL20 gL89
        refine u_X7_price_86 ?_
        refine ⟨o_a12, ?_⟩
        intro x112 ex112
        have r_x112 : (0 : Int32) ≤ x112 ∧ x112 ≤ (9 : Int32) := by rw [ex112]; exact nu 5 rfl hI o_a12
        have d_x112 := ex112
        refine ⟨fun c113 => ?_, fun c113 => ?_⟩
        · intro x114 ex114
          exact ih36 _ _ _ _ _ _ _ _ ⟨hI, gL20, fL21, rfl, rfl, rfl, rfl, rfl, rfl, hM, (q353 p_x5 bb_x5 c9 q_x11 p_x14 bb_x14 c18 i1 r_x37 c38 ex83 dv_x83 ex86 r_x112 c113 ex114)⟩ (mu_up (q354 p_x5 bb_x5 c9 q_x11 p_x14 bb_x14 c18 i1 r_x37 c38 ex83 dv_x83 ex86 r_x112 c113 ex114) (q355 p_x5 bb_x5 c9 q_x11 p_x14 bb_x14 c18 i1 r_x37 c38 ex83 dv_x83 ex86 r_x112 c113 ex114))
        · refine ⟨fun c115 => ?_, fun c115 => ?_⟩
          · refine ⟨o_v1, ?_⟩
            obtain ⟨a116, ea116, o_a116, l_a116⟩ := shl 15 rfl hI o_v1
            refine ⟨a116, ea116, ?_⟩
            refine ⟨o_a116, ?_⟩
            have i118 : vp_in v3 (hN _ a116) := (vin l_a116 (m := 6) (by decide) (q356 p_x5 bb_x5 c9 q_x11 p_x14 bb_x14 c18 i1 r_x37 c38 ex83 dv_x83 ex86 r_x112 c113))
            obtain ⟨a117, ea117, o_a117⟩ := ae hI o_a116 (by decide) (by decide) i118
            replace o_a117 : ob _ a117 3 := o_a117
            refine ⟨i118, a117, ea117, ?_⟩
            refine ⟨o_v2, ?_⟩
            refine m_X1_wetOf hI o_v2 o_a12 o_a84 o_a117 (fun x119 S120 hI g121 fc122 => ?_)
            have l_a10 := (gr_len g121 o_a10).trans l_a10
            have l_a116 := (gr_len g121 o_a116).trans l_a116
            have l_a82 := (gr_len g121 o_a82).trans l_a82
            have d_v3 := d_v3.trans (fri_at fc122 (by decide) (by decide) o_v0).symm
            have d_x11 := d_x11.trans (fri_at fc122 (by decide) (by decide) o_v0).symm
            have d_x37 := d_x37.trans (fri_at fc122 (by decide) (by decide) o_v1).symm
            have d_x87 := d_x87.trans (fri_at fc122 (by decide) (by decide) o_a12).symm
            have d_x112 := d_x112.trans (fri_at fc122 (by decide) (by decide) o_a12).symm
            have ea10 := (frr_at fc122 (by decide) (by decide) o_v1).trans ea10
            have ea82 := (frr_at fc122 (by decide) (by decide) o_v1).trans ea82
            have ea116 := (frr_at fc122 (by decide) (by decide) o_v1).trans ea116
            have f0 := fri_tr (S := S88) g0 f0 fc122 (by decide) (by decide)
            have fL21 := fri_tr (S := S88) gL20 fL21 fc122 (by decide) (by decide)
            have fL90 := fri_tr (S := S88) gL89 fL90 fc122 (by decide) (by decide)
            have o_a10 := gr_ob g121 o_a10
            have o_a116 := gr_ob g121 o_a116
            have o_a117 := gr_ob g121 o_a117
            have o_a12 := gr_ob g121 o_a12
            have o_a82 := gr_ob g121 o_a82
            have o_a84 := gr_ob g121 o_a84
            have o_v0 := gr_ob g121 o_v0
            have o_v1 := gr_ob g121 o_v1
            have o_v2 := gr_ob g121 o_v2
            have g0 := gr_tr (T := S88) g0 g121
            have gL20 := gr_tr (T := S88) gL20 g121
            have gL89 := gr_tr (T := S88) gL89 g121
            intro _
            refine ⟨a116, ea116, ?_⟩
            refine ⟨o_a116, ?_⟩
            have i125 : vp_in v3 (hN _ a116) := (vin l_a116 (m := 6) (by decide) (q356 p_x5 bb_x5 c9 q_x11 p_x14 bb_x14 c18 i1 r_x37 c38 ex83 dv_x83 ex86 r_x112 c113))
            obtain ⟨a124, ea124, o_a124⟩ := ae hI o_a116 (by decide) (by decide) i125
            replace o_a124 : ob _ a124 3 := o_a124
            refine ⟨i125, a124, ea124, ?_⟩
            refine ⟨o_a124, ?_⟩
            intro x126 ex126
            have d_x126 := ex126
            refine u_X7_price_134 ?_
            intro x127 ex127
            refine ⟨o_v0, ?_⟩
            refine m_X7_addLeg hI o_v0 o_a84 hM (fun S129 hI g130 fc131 p_S129 => ?_)
            have hM := p_S129
            have l_a10 := (gr_len g130 o_a10).trans l_a10
            have l_a116 := (gr_len g130 o_a116).trans l_a116
            have l_a82 := (gr_len g130 o_a82).trans l_a82
            have d_v3 := d_v3.trans (fri_at fc131 (by decide) (by decide) o_v0).symm
            have d_x11 := d_x11.trans (fri_at fc131 (by decide) (by decide) o_v0).symm
            have d_x37 := d_x37.trans (fri_at fc131 (by decide) (by decide) o_v1).symm
            have d_x87 := d_x87.trans (fri_at fc131 (by decide) (by decide) o_a12).symm
            have d_x112 := d_x112.trans (fri_at fc131 (by decide) (by decide) o_a12).symm
            have d_x126 := d_x126.trans (fri_at fc131 (by decide) (by decide) o_a124).symm
            have ea10 := (frr_at fc131 (by decide) (by decide) o_v1).trans ea10
            have ea82 := (frr_at fc131 (by decide) (by decide) o_v1).trans ea82
            have ea116 := (frr_at fc131 (by decide) (by decide) o_v1).trans ea116
            have f0 := fri_tr (S := S120) g0 f0 fc131 (by decide) (by decide)
            have fL21 := fri_tr (S := S120) gL20 fL21 fc131 (by decide) (by decide)
            have fL90 := fri_tr (S := S120) gL89 fL90 fc131 (by decide) (by decide)
            have o_a10 := gr_ob g130 o_a10
            have o_a116 := gr_ob g130 o_a116
            have o_a117 := gr_ob g130 o_a117
            have o_a12 := gr_ob g130 o_a12
            have o_a124 := gr_ob g130 o_a124
            have o_a82 := gr_ob g130 o_a82
            have o_a84 := gr_ob g130 o_a84
            have o_v0 := gr_ob g130 o_v0
            have o_v1 := gr_ob g130 o_v1
            have o_v2 := gr_ob g130 o_v2
            have g0 := gr_tr (T := S120) g0 g130
            have gL20 := gr_tr (T := S120) gL20 g130
            have gL89 := gr_tr (T := S120) gL89 g130
            intro _
            intro x132 ex132
            exact ih111 _ _ _ _ _ _ _ _ _ _ _ ⟨hI, gL89, fL90, rfl, rfl, rfl, rfl, rfl, rfl, rfl, rfl, rfl, hM⟩ (mu_up (q357 p_x5 bb_x5 c9 q_x11 p_x14 bb_x14 c18 i1 r_x37 c38 ex83 dv_x83 ex86 r_x112 c113 ex127 ex132) (q358 p_x5 bb_x5 c9 q_x11 p_x14 bb_x14 c18 i1 r_x37 c38 ex83 dv_x83 ex86 r_x112 c113 ex127 ex132))
          · refine u_X7_price_134 ?_
            intro x133 ex133
            refine ⟨o_v0, ?_⟩
            refine m_X7_addLeg hI o_v0 o_a84 hM (fun S135 hI g136 fc137 p_S135 => ?_)
            have hM := p_S135
            have l_a10 := (gr_len g136 o_a10).trans l_a10
            have l_a82 := (gr_len g136 o_a82).trans l_a82
            have d_v3 := d_v3.trans (fri_at fc137 (by decide) (by decide) o_v0).symm
            have d_x11 := d_x11.trans (fri_at fc137 (by decide) (by decide) o_v0).symm
            have d_x37 := d_x37.trans (fri_at fc137 (by decide) (by decide) o_v1).symm
            have d_x87 := d_x87.trans (fri_at fc137 (by decide) (by decide) o_a12).symm
            have d_x112 := d_x112.trans (fri_at fc137 (by decide) (by decide) o_a12).symm
            have ea10 := (frr_at fc137 (by decide) (by decide) o_v1).trans ea10
            have ea82 := (frr_at fc137 (by decide) (by decide) o_v1).trans ea82
            have f0 := fri_tr (S := S88) g0 f0 fc137 (by decide) (by decide)
            have fL21 := fri_tr (S := S88) gL20 fL21 fc137 (by decide) (by decide)
            have fL90 := fri_tr (S := S88) gL89 fL90 fc137 (by decide) (by decide)
            have o_a10 := gr_ob g136 o_a10
            have o_a12 := gr_ob g136 o_a12
            have o_a82 := gr_ob g136 o_a82
            have o_a84 := gr_ob g136 o_a84
            have o_v0 := gr_ob g136 o_v0
            have o_v1 := gr_ob g136 o_v1
            have o_v2 := gr_ob g136 o_v2
            have g0 := gr_tr (T := S88) g0 g136
            have gL20 := gr_tr (T := S88) gL20 g136
            have gL89 := gr_tr (T := S88) gL89 g136
            intro _
            intro x138 ex138
            exact ih111 _ _ _ _ _ _ _ _ _ _ _ ⟨hI, gL89, fL90, rfl, rfl, rfl, rfl, rfl, rfl, rfl, rfl, rfl, hM⟩ (mu_up (q359 p_x5 bb_x5 c9 q_x11 p_x14 bb_x14 c18 i1 r_x37 c38 ex83 dv_x83 ex86 r_x112 c113 c115 ex133 ex138) (q360 p_x5 bb_x5 c9 q_x11 p_x14 bb_x14 c18 i1 r_x37 c38 ex83 dv_x83 ex86 r_x112 c113 c115 ex133 ex138))
    · refine u_X7_price_46 ?_
      refine i_X7_price_51 (fun (y0 : Nat) (y1 : Nat) (y2 : Nat) (y3 : Int32) (y4 : Nat) (y5 : Int32) (y6 : Int32) (Z : HS) => ((2147483647 : Int32).toInt - y6.toInt).toNat) (fun (y0 : Nat) (y1 : Nat) (y2 : Nat) (y3 : Int32) (y4 : Nat) (y5 : Int32) (y6 : Int32) (Z : HS) => (IV Z) ∧ (Gr S2 Z) ∧ (FRI [(7, 3)] [] S2 Z) ∧ (v0 = y0) ∧ (v1 = y1) ∧ (v2 = y2) ∧ (v3 = y3) ∧ (a12 = y4) ∧ ((1 : Int32) = y5) ∧ (WM Z v0) ∧ (0 ≤ y6)) ?_ _ _ _ _ _ _ _ _ ⟨hI, (gr_rf _), (fri_rf _ _ _), rfl, rfl, rfl, rfl, rfl, rfl, hM, (q361 p_x5 bb_x5 c9 q_x11 p_x14 bb_x14 c18)⟩
      intro w142 w144 w146 w148 w150 w152 w154 S139 X155 ⟨hI, gL140, fL141, q143, q145, q147, q149, q151, q153, hM, i1⟩ ih156
      subst q143
      subst q145
      subst q147
      subst q149
      subst q151
      subst q153
      have l_a10 := (gr_len gL140 o_a10).trans l_a10
      have d_v3 := d_v3.trans (fri_at fL141 (by decide) (by decide) o_v0).symm
      have d_x11 := d_x11.trans (fri_at fL141 (by decide) (by decide) o_v0).symm
      have ea10 := (frr_at fL141 (by decide) (by decide) o_v1).trans ea10
      have f0 := fri_tr (S := S2) g0 f0 fL141 (by decide) (by decide)
      have o_a10 := gr_ob gL140 o_a10
      have o_a12 := gr_ob gL140 o_a12
      have o_v0 := gr_ob gL140 o_v0
      have o_v1 := gr_ob gL140 o_v1
      have o_v2 := gr_ob gL140 o_v2
      have g0 := gr_tr (T := S2) g0 gL140
      refine u_X7_price_51 ?_
      refine ⟨o_v1, ?_⟩
      intro x157 ex157
      have r_x157 : (0 : Int32) ≤ x157 ∧ x157 ≤ (12 : Int32) := by rw [ex157]; exact nu 13 rfl hI o_v1
      have d_x157 := ex157
      refine ⟨fun c158 => ?_, fun c158 => ?_⟩
      · refine i_X7_price_179 (fun (y0 : Nat) (y1 : Nat) (y3 : Int32) (y4 : Nat) (y5 : Int32) (y6 : Int32) (Z : HS) => ((2147483647 : Int32).toInt - y6.toInt).toNat) (fun (y0 : Nat) (y1 : Nat) (y3 : Int32) (y4 : Nat) (y5 : Int32) (y6 : Int32) (Z : HS) => (IV Z) ∧ (Gr S139 Z) ∧ (FRI [(7, 3)] [] S139 Z) ∧ (v0 = y0) ∧ (v1 = y1) ∧ (v3 = y3) ∧ (a12 = y4) ∧ ((1 : Int32) = y5) ∧ (WM Z v0) ∧ (0 ≤ y6)) ?_ _ _ _ _ _ _ _ ⟨hI, (gr_rf _), (fri_rf _ _ _), rfl, rfl, rfl, rfl, rfl, hM, (q362 p_x5 bb_x5 c9 q_x11 p_x14 bb_x14 c18 i1 r_x157 c158)⟩
        intro w162 w164 w166 w168 w170 w172 S159 X173 ⟨hI, gL160, fL161, q163, q165, q167, q169, q171, hM, i1⟩ ih174
        subst q163
        subst q165
        subst q167
        subst q169
        subst q171
        have l_a10 := (gr_len gL160 o_a10).trans l_a10
        have d_v3 := d_v3.trans (fri_at fL161 (by decide) (by decide) o_v0).symm
        have d_x11 := d_x11.trans (fri_at fL161 (by decide) (by decide) o_v0).symm
        have d_x157 := d_x157.trans (fri_at fL161 (by decide) (by decide) o_v1).symm
        have ea10 := (frr_at fL161 (by decide) (by decide) o_v1).trans ea10
        have f0 := fri_tr (S := S139) g0 f0 fL161 (by decide) (by decide)
        have o_a10 := gr_ob gL160 o_a10
        have o_a12 := gr_ob gL160 o_a12
        have o_v0 := gr_ob gL160 o_v0
        have o_v1 := gr_ob gL160 o_v1
        have o_v2 := gr_ob gL160 o_v2
        have g0 := gr_tr (T := S139) g0 gL160
        refine u_X7_price_179 ?_
        refine ⟨o_v1, ?_⟩
        intro x175 ex175
        have r_x175 : (0 : Int32) ≤ x175 ∧ x175 ≤ (8 : Int32) := by rw [ex175]; exact nu 12 rfl hI o_v1
        have d_x175 := ex175
        refine ⟨fun c176 => ?_, fun c176 => ?_⟩
        · exact hq _ hI g0 f0 hM
        · refine m_X8_canWait hI o_v1 (fun x177 S178 hI2 g179 b_x177 p_x177 => ?_)
          obtain ⟨z_S178, p_x177⟩ := p_x177
          subst z_S178
          intro _ _
          have bb_x177 : x177 = 0 ∨ x177 = 1 := b_x177
          refine ⟨fun c181 => ?_, fun c181 => ?_⟩
          · refine u_X7_price_245 ?_
            intro x182 ex182
            exact ih174 _ _ _ _ _ _ _ ⟨hI, gL160, fL161, rfl, rfl, rfl, rfl, rfl, hM, (q363 p_x5 bb_x5 c9 q_x11 p_x14 bb_x14 c18 i1 r_x157 c158 i1 r_x175 c176 p_x177 bb_x177 c181 ex182)⟩ (mu_up (q364 p_x5 bb_x5 c9 q_x11 p_x14 bb_x14 c18 i1 r_x157 c158 i1 r_x175 c176 p_x177 bb_x177 c181 ex182) (q365 p_x5 bb_x5 c9 q_x11 p_x14 bb_x14 c18 i1 r_x157 c158 i1 r_x175 c176 p_x177 bb_x177 c181 ex182))
          · refine ⟨fun c183 => ?_, fun c183 => ?_⟩
            · refine m_X8_dripOn hI o_v1 o_a12 (fun x184 S185 hI2 g186 p_x184 => ?_)
              subst p_x184
              intro _
              obtain ⟨a188, ea188, o_a188, l_a188⟩ := shl 15 rfl hI o_v1
              refine ⟨a188, ea188, ?_⟩
              refine ⟨o_a188, ?_⟩
              have i190 : vp_in v3 (hN _ a188) := (vin l_a188 (m := 6) (by decide) (q366 p_x5 bb_x5 c9 q_x11 p_x14 bb_x14 c18 i1 r_x157 c158 i1 r_x175 c176 p_x177 bb_x177 c181 c183))
              obtain ⟨a189, ea189, o_a189⟩ := ae hI o_a188 (by decide) (by decide) i190
              replace o_a189 : ob _ a189 3 := o_a189
              refine ⟨i190, a189, ea189, ?_⟩
              refine ⟨o_a189, ?_⟩
              intro x191 ex191
              have d_x191 := ex191
              refine u_X7_price_230 ?_
              refine ⟨o_v0, ?_⟩
              refine m_X7_addMove hI o_v0 hM (fun S193 hI g194 fc195 p_S193 => ?_)
              have hM := p_S193
              have l_a10 := (gr_len g194 o_a10).trans l_a10
              have l_a188 := (gr_len g194 o_a188).trans l_a188
              have d_v3 := d_v3.trans (fri_at fc195 (by decide) (by decide) o_v0).symm
              have d_x11 := d_x11.trans (fri_at fc195 (by decide) (by decide) o_v0).symm
              have d_x157 := d_x157.trans (fri_at fc195 (by decide) (by decide) o_v1).symm
              have d_x175 := d_x175.trans (fri_at fc195 (by decide) (by decide) o_v1).symm
              have d_x191 := d_x191.trans (fri_at fc195 (by decide) (by decide) o_a189).symm
              have ea10 := (frr_at fc195 (by decide) (by decide) o_v1).trans ea10
              have ea188 := (frr_at fc195 (by decide) (by decide) o_v1).trans ea188
              have f0 := fri_tr (S := S159) g0 f0 fc195 (by decide) (by decide)
              have fL161 := fri_tr (S := S159) gL160 fL161 fc195 (by decide) (by decide)
              have o_a10 := gr_ob g194 o_a10
              have o_a12 := gr_ob g194 o_a12
              have o_a188 := gr_ob g194 o_a188
              have o_a189 := gr_ob g194 o_a189
              have o_v0 := gr_ob g194 o_v0
              have o_v1 := gr_ob g194 o_v1
              have o_v2 := gr_ob g194 o_v2
              have g0 := gr_tr (T := S159) g0 g194
              have gL160 := gr_tr (T := S159) gL160 g194
              intro _
              refine u_X7_price_245 ?_
              intro x196 ex196
              exact ih174 _ _ _ _ _ _ _ ⟨hI, gL160, fL161, rfl, rfl, rfl, rfl, rfl, hM, (q367 p_x5 bb_x5 c9 q_x11 p_x14 bb_x14 c18 i1 r_x157 c158 i1 r_x175 c176 p_x177 bb_x177 c181 c183 ex196)⟩ (mu_up (q368 p_x5 bb_x5 c9 q_x11 p_x14 bb_x14 c18 i1 r_x157 c158 i1 r_x175 c176 p_x177 bb_x177 c181 c183 ex196) (q369 p_x5 bb_x5 c9 q_x11 p_x14 bb_x14 c18 i1 r_x157 c158 i1 r_x175 c176 p_x177 bb_x177 c181 c183 ex196))
            · refine u_X7_price_230 ?_
              refine ⟨o_v0, ?_⟩
              refine m_X7_addMove hI o_v0 hM (fun S198 hI g199 fc200 p_S198 => ?_)
              have hM := p_S198
              have l_a10 := (gr_len g199 o_a10).trans l_a10
              have d_v3 := d_v3.trans (fri_at fc200 (by decide) (by decide) o_v0).symm
              have d_x11 := d_x11.trans (fri_at fc200 (by decide) (by decide) o_v0).symm
              have d_x157 := d_x157.trans (fri_at fc200 (by decide) (by decide) o_v1).symm
              have d_x175 := d_x175.trans (fri_at fc200 (by decide) (by decide) o_v1).symm
              have ea10 := (frr_at fc200 (by decide) (by decide) o_v1).trans ea10
              have f0 := fri_tr (S := S159) g0 f0 fc200 (by decide) (by decide)
              have fL161 := fri_tr (S := S159) gL160 fL161 fc200 (by decide) (by decide)
              have o_a10 := gr_ob g199 o_a10
              have o_a12 := gr_ob g199 o_a12
              have o_v0 := gr_ob g199 o_v0
              have o_v1 := gr_ob g199 o_v1
              have o_v2 := gr_ob g199 o_v2
              have g0 := gr_tr (T := S159) g0 g199
              have gL160 := gr_tr (T := S159) gL160 g199
              intro _
              refine u_X7_price_245 ?_
              intro x201 ex201
              exact ih174 _ _ _ _ _ _ _ ⟨hI, gL160, fL161, rfl, rfl, rfl, rfl, rfl, hM, (q370 p_x5 bb_x5 c9 q_x11 p_x14 bb_x14 c18 i1 r_x157 c158 i1 r_x175 c176 p_x177 bb_x177 c181 ex201)⟩ (mu_up (q371 p_x5 bb_x5 c9 q_x11 p_x14 bb_x14 c18 i1 r_x157 c158 i1 r_x175 c176 p_x177 bb_x177 c181 ex201) (q372 p_x5 bb_x5 c9 q_x11 p_x14 bb_x14 c18 i1 r_x157 c158 i1 r_x175 c176 p_x177 bb_x177 c181 ex201))
      · obtain ⟨a202, ea202, o_a202, l_a202⟩ := shl 17 rfl hI o_v1
        refine ⟨a202, ea202, ?_⟩
        intro x203 ex203
        have dv_x203 : 0 ≤ x203 ∧ x203 < (12 : Int32) := by rw [ex203]; exact dvl (k := 12) (m := 24) (q373 p_x5 bb_x5 c9 q_x11 p_x14 bb_x14 c18 i1 r_x157 c158 ex203) (q374 p_x5 bb_x5 c9 q_x11 p_x14 bb_x14 c18 i1 r_x157 c158 ex203) (by decide) (by decide)
        refine ⟨o_a202, ?_⟩
        have i205 : vp_in x203 (hN _ a202) := (vin l_a202 (m := 12) (by decide) (q375 p_x5 bb_x5 c9 q_x11 p_x14 bb_x14 c18 i1 r_x157 c158 ex203 dv_x203))
        obtain ⟨a204, ea204, o_a204⟩ := ae hI o_a202 (by decide) (by decide) i205
        replace o_a204 : ob _ a204 5 := o_a204
        refine ⟨i205, a204, ea204, ?_⟩
        intro x206 ex206
        refine ⟨o_a12, ?_⟩
        intro x207 ex207
        have r_x207 : (0 : Int32) ≤ x207 ∧ x207 ≤ (9 : Int32) := by rw [ex207]; exact nu 4 rfl hI o_a12
        have d_x207 := ex207
        refine i_X7_price_86 (fun (y0 : Nat) (y1 : Nat) (y2 : Nat) (y3 : Int32) (y4 : Nat) (y5 : Int32) (y6 : Int32) (y7 : Nat) (y8 : Int32) (y9 : Int32) (Z : HS) => ((2147483647 : Int32).toInt - y9.toInt).toNat) (fun (y0 : Nat) (y1 : Nat) (y2 : Nat) (y3 : Int32) (y4 : Nat) (y5 : Int32) (y6 : Int32) (y7 : Nat) (y8 : Int32) (y9 : Int32) (Z : HS) => (IV Z) ∧ (Gr S139 Z) ∧ (FRI [(7, 3)] [] S139 Z) ∧ (v0 = y0) ∧ (v1 = y1) ∧ (v2 = y2) ∧ (v3 = y3) ∧ (a12 = y4) ∧ ((1 : Int32) = y5) ∧ (w154 = y6) ∧ (a204 = y7) ∧ (x206 = y8) ∧ (WM Z v0)) ?_ _ _ _ _ _ _ _ _ _ _ _ ⟨hI, (gr_rf _), (fri_rf _ _ _), rfl, rfl, rfl, rfl, rfl, rfl, rfl, rfl, rfl, hM⟩
        intro w211 w213 w215 w217 w219 w221 w223 w225 w227 w229 S208 X230 ⟨hI, gL209, fL210, q212, q214, q216, q218, q220, q222, q224, q226, q228, hM⟩ ih231
        subst q212
        subst q214
        subst q216
        subst q218
        subst q220
        subst q222
        subst q224
        subst q226
        subst q228
        have l_a10 := (gr_len gL209 o_a10).trans l_a10
        have l_a202 := (gr_len gL209 o_a202).trans l_a202
        have d_v3 := d_v3.trans (fri_at fL210 (by decide) (by decide) o_v0).symm
        have d_x11 := d_x11.trans (fri_at fL210 (by decide) (by decide) o_v0).symm
        have d_x157 := d_x157.trans (fri_at fL210 (by decide) (by decide) o_v1).symm
        have d_x207 := d_x207.trans (fri_at fL210 (by decide) (by decide) o_a12).symm
        have ea10 := (frr_at fL210 (by decide) (by decide) o_v1).trans ea10
        have ea202 := (frr_at fL210 (by decide) (by decide) o_v1).trans ea202
        have f0 := fri_tr (S := S139) g0 f0 fL210 (by decide) (by decide)
        have fL141 := fri_tr (S := S139) gL140 fL141 fL210 (by decide) (by decide)
        have o_a10 := gr_ob gL209 o_a10
        have o_a12 := gr_ob gL209 o_a12
        have o_a202 := gr_ob gL209 o_a202
        have o_a204 := gr_ob gL209 o_a204
        have o_v0 := gr_ob gL209 o_v0
        have o_v1 := gr_ob gL209 o_v1
        have o_v2 := gr_ob gL209 o_v2
        have g0 := gr_tr (T := S139) g0 gL209
        have gL140 := gr_tr (T := S139) gL140 gL209
        refine u_X7_price_86 ?_
        refine ⟨o_a12, ?_⟩
        intro x232 ex232
        have r_x232 : (0 : Int32) ≤ x232 ∧ x232 ≤ (9 : Int32) := by rw [ex232]; exact nu 5 rfl hI o_a12
        have d_x232 := ex232
        refine ⟨fun c233 => ?_, fun c233 => ?_⟩
        · intro x234 ex234
          exact ih156 _ _ _ _ _ _ _ _ ⟨hI, gL140, fL141, rfl, rfl, rfl, rfl, rfl, rfl, hM, (q376 p_x5 bb_x5 c9 q_x11 p_x14 bb_x14 c18 i1 r_x157 c158 ex203 dv_x203 ex206 r_x232 c233 ex234)⟩ (mu_up (q377 p_x5 bb_x5 c9 q_x11 p_x14 bb_x14 c18 i1 r_x157 c158 ex203 dv_x203 ex206 r_x232 c233 ex234) (q378 p_x5 bb_x5 c9 q_x11 p_x14 bb_x14 c18 i1 r_x157 c158 ex203 dv_x203 ex206 r_x232 c233 ex234))
        · refine ⟨fun c235 => ?_, fun c235 => ?_⟩
          · refine ⟨o_v1, ?_⟩
            obtain ⟨a236, ea236, o_a236, l_a236⟩ := shl 15 rfl hI o_v1
            refine ⟨a236, ea236, ?_⟩
            refine ⟨o_a236, ?_⟩
            have i238 : vp_in v3 (hN _ a236) := (vin l_a236 (m := 6) (by decide) (q379 p_x5 bb_x5 c9 q_x11 p_x14 bb_x14 c18 i1 r_x157 c158 ex203 dv_x203 ex206 r_x232 c233 c235))
            obtain ⟨a237, ea237, o_a237⟩ := ae hI o_a236 (by decide) (by decide) i238
            replace o_a237 : ob _ a237 3 := o_a237
            refine ⟨i238, a237, ea237, ?_⟩
            refine ⟨o_v2, ?_⟩
            refine m_X1_wetOf hI o_v2 o_a12 o_a204 o_a237 (fun x239 S240 hI g241 fc242 => ?_)
            have l_a10 := (gr_len g241 o_a10).trans l_a10
            have l_a202 := (gr_len g241 o_a202).trans l_a202
            have l_a236 := (gr_len g241 o_a236).trans l_a236
            have d_v3 := d_v3.trans (fri_at fc242 (by decide) (by decide) o_v0).symm
            have d_x11 := d_x11.trans (fri_at fc242 (by decide) (by decide) o_v0).symm
            have d_x157 := d_x157.trans (fri_at fc242 (by decide) (by decide) o_v1).symm
            have d_x207 := d_x207.trans (fri_at fc242 (by decide) (by decide) o_a12).symm
            have d_x232 := d_x232.trans (fri_at fc242 (by decide) (by decide) o_a12).symm
            have ea10 := (frr_at fc242 (by decide) (by decide) o_v1).trans ea10
            have ea202 := (frr_at fc242 (by decide) (by decide) o_v1).trans ea202
            have ea236 := (frr_at fc242 (by decide) (by decide) o_v1).trans ea236
            have f0 := fri_tr (S := S208) g0 f0 fc242 (by decide) (by decide)
            have fL141 := fri_tr (S := S208) gL140 fL141 fc242 (by decide) (by decide)
            have fL210 := fri_tr (S := S208) gL209 fL210 fc242 (by decide) (by decide)
            have o_a10 := gr_ob g241 o_a10
            have o_a12 := gr_ob g241 o_a12
            have o_a202 := gr_ob g241 o_a202
            have o_a204 := gr_ob g241 o_a204
            have o_a236 := gr_ob g241 o_a236
            have o_a237 := gr_ob g241 o_a237
            have o_v0 := gr_ob g241 o_v0
            have o_v1 := gr_ob g241 o_v1
            have o_v2 := gr_ob g241 o_v2
            have g0 := gr_tr (T := S208) g0 g241
            have gL140 := gr_tr (T := S208) gL140 g241
            have gL209 := gr_tr (T := S208) gL209 g241
            intro _
            refine ⟨a236, ea236, ?_⟩
            refine ⟨o_a236, ?_⟩
            have i245 : vp_in v3 (hN _ a236) := (vin l_a236 (m := 6) (by decide) (q379 p_x5 bb_x5 c9 q_x11 p_x14 bb_x14 c18 i1 r_x157 c158 ex203 dv_x203 ex206 r_x232 c233 c235))
            obtain ⟨a244, ea244, o_a244⟩ := ae hI o_a236 (by decide) (by decide) i245
            replace o_a244 : ob _ a244 3 := o_a244
            refine ⟨i245, a244, ea244, ?_⟩
            refine ⟨o_a244, ?_⟩
            intro x246 ex246
            have d_x246 := ex246
            refine u_X7_price_134 ?_
            intro x247 ex247
            refine ⟨o_v0, ?_⟩
            refine m_X7_addLeg hI o_v0 o_a204 hM (fun S249 hI g250 fc251 p_S249 => ?_)
            have hM := p_S249
            have l_a10 := (gr_len g250 o_a10).trans l_a10
            have l_a202 := (gr_len g250 o_a202).trans l_a202
            have l_a236 := (gr_len g250 o_a236).trans l_a236
            have d_v3 := d_v3.trans (fri_at fc251 (by decide) (by decide) o_v0).symm
            have d_x11 := d_x11.trans (fri_at fc251 (by decide) (by decide) o_v0).symm
            have d_x157 := d_x157.trans (fri_at fc251 (by decide) (by decide) o_v1).symm
            have d_x207 := d_x207.trans (fri_at fc251 (by decide) (by decide) o_a12).symm
            have d_x232 := d_x232.trans (fri_at fc251 (by decide) (by decide) o_a12).symm
            have d_x246 := d_x246.trans (fri_at fc251 (by decide) (by decide) o_a244).symm
            have ea10 := (frr_at fc251 (by decide) (by decide) o_v1).trans ea10
            have ea202 := (frr_at fc251 (by decide) (by decide) o_v1).trans ea202
            have ea236 := (frr_at fc251 (by decide) (by decide) o_v1).trans ea236
            have f0 := fri_tr (S := S240) g0 f0 fc251 (by decide) (by decide)
            have fL141 := fri_tr (S := S240) gL140 fL141 fc251 (by decide) (by decide)
            have fL210 := fri_tr (S := S240) gL209 fL210 fc251 (by decide) (by decide)
            have o_a10 := gr_ob g250 o_a10
            have o_a12 := gr_ob g250 o_a12
            have o_a202 := gr_ob g250 o_a202
            have o_a204 := gr_ob g250 o_a204
            have o_a236 := gr_ob g250 o_a236
            have o_a237 := gr_ob g250 o_a237
            have o_a244 := gr_ob g250 o_a244
            have o_v0 := gr_ob g250 o_v0
            have o_v1 := gr_ob g250 o_v1
            have o_v2 := gr_ob g250 o_v2
            have g0 := gr_tr (T := S240) g0 g250
            have gL140 := gr_tr (T := S240) gL140 g250
            have gL209 := gr_tr (T := S240) gL209 g250
            intro _
            intro x252 ex252
            exact ih231 _ _ _ _ _ _ _ _ _ _ _ ⟨hI, gL209, fL210, rfl, rfl, rfl, rfl, rfl, rfl, rfl, rfl, rfl, hM⟩ (mu_up (q380 p_x5 bb_x5 c9 q_x11 p_x14 bb_x14 c18 i1 r_x157 c158 ex203 dv_x203 ex206 r_x232 c233 c235 ex247 ex252) (q381 p_x5 bb_x5 c9 q_x11 p_x14 bb_x14 c18 i1 r_x157 c158 ex203 dv_x203 ex206 r_x232 c233 c235 ex247 ex252))
          · refine u_X7_price_134 ?_
            intro x253 ex253
            refine ⟨o_v0, ?_⟩
            refine m_X7_addLeg hI o_v0 o_a204 hM (fun S255 hI g256 fc257 p_S255 => ?_)
            have hM := p_S255
            have l_a10 := (gr_len g256 o_a10).trans l_a10
            have l_a202 := (gr_len g256 o_a202).trans l_a202
            have d_v3 := d_v3.trans (fri_at fc257 (by decide) (by decide) o_v0).symm
            have d_x11 := d_x11.trans (fri_at fc257 (by decide) (by decide) o_v0).symm
            have d_x157 := d_x157.trans (fri_at fc257 (by decide) (by decide) o_v1).symm
            have d_x207 := d_x207.trans (fri_at fc257 (by decide) (by decide) o_a12).symm
            have d_x232 := d_x232.trans (fri_at fc257 (by decide) (by decide) o_a12).symm
            have ea10 := (frr_at fc257 (by decide) (by decide) o_v1).trans ea10
            have ea202 := (frr_at fc257 (by decide) (by decide) o_v1).trans ea202
            have f0 := fri_tr (S := S208) g0 f0 fc257 (by decide) (by decide)
            have fL141 := fri_tr (S := S208) gL140 fL141 fc257 (by decide) (by decide)
            have fL210 := fri_tr (S := S208) gL209 fL210 fc257 (by decide) (by decide)
            have o_a10 := gr_ob g256 o_a10
            have o_a12 := gr_ob g256 o_a12
            have o_a202 := gr_ob g256 o_a202
            have o_a204 := gr_ob g256 o_a204
            have o_v0 := gr_ob g256 o_v0
            have o_v1 := gr_ob g256 o_v1
            have o_v2 := gr_ob g256 o_v2
            have g0 := gr_tr (T := S208) g0 g256
            have gL140 := gr_tr (T := S208) gL140 g256
            have gL209 := gr_tr (T := S208) gL209 g256
            intro _
            intro x258 ex258
            exact ih231 _ _ _ _ _ _ _ _ _ _ _ ⟨hI, gL209, fL210, rfl, rfl, rfl, rfl, rfl, rfl, rfl, rfl, rfl, hM⟩ (mu_up (q382 p_x5 bb_x5 c9 q_x11 p_x14 bb_x14 c18 i1 r_x157 c158 ex203 dv_x203 ex206 r_x232 c233 ex253 ex258) (q383 p_x5 bb_x5 c9 q_x11 p_x14 bb_x14 c18 i1 r_x157 c158 ex203 dv_x203 ex206 r_x232 c233 ex253 ex258))
  · exact hq _ hI g0 f0 hM
