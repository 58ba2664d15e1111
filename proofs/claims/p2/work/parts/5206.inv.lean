set_option maxHeartbeats 4000000 in
set_option maxRecDepth 20000 in
theorem m_X7_addLeg {v0 : Nat} {v1 : Nat} {v2 : Int32} {v3 : Int32} {v4 : Int64} {v6 : Int32} {Q : HS → Prop} {S : HS} (hI : IV S) (o_v0 : ob S v0 7) (o_v1 : ob S v1 5)    (hM : WM S v0) (hq : ∀ (T : HS), IV T → Gr S T → FRI [(7, 3)] [] S T → (WM T v0) → Q T) : P_X7_addLeg v0 v1 v2 v3 v4 v6 Q S := by
  have g0 := gr_rf S
  have f0 := fri_rf [(7, 3)] [] S
  refine u_X7_addLeg ?_
  refine u_X7_addLeg_0 ?_
  refine ⟨o_v1, ?_⟩
  refine m_X5_minutesAt hI o_v1 (fun x1 S2 hI2 g3 p_x1 => ?_)
  subst p_x1
  intro _
  refine ⟨o_v0, ?_⟩
  intro x5 ex5
  have r_x5 : (0 : Int32) ≤ x5 ∧ x5 ≤ (224 : Int32) := by rw [ex5]; exact nu 8 rfl hI o_v0
  have d_x5 := ex5
  intro x6 ex6
  refine ⟨fun c7 => ?_, fun c7 => ?_⟩
  · refine u_X7_addLeg_82 ?_
    refine ⟨o_v1, ?_⟩
    refine m_X5_startOf hI o_v1 (fun x8 S9 hI2 g10 p_x8 => ?_)
    subst p_x8
    intro _
    refine m_X5_endOf hI o_v1 (fun x12 S13 hI2 g14 p_x12 => ?_)
    subst p_x12
    intro _
    refine ⟨o_v0, ?_⟩
    refine m_X7_addMove hI o_v0 hM (fun S17 hI g18 fc19 p_S17 => ?_)
    obtain hM := p_S17
    have f0 := fri_tr (S := S) g0 f0 fc19 (by decide) (by decide)
    have o_v0 := gr_ob g18 o_v0
    have o_v1 := gr_ob g18 o_v1
    have g0 := gr_tr (T := S) g0 g18
    intro _
    exact hq _ hI g0 f0 hM
  · refine ⟨fun c20 => ?_, fun c20 => ?_⟩
    · refine u_X7_addLeg_82 ?_
      refine ⟨o_v1, ?_⟩
      refine m_X5_startOf hI o_v1 (fun x21 S22 hI2 g23 p_x21 => ?_)
      subst p_x21
      intro _
      refine m_X5_endOf hI o_v1 (fun x25 S26 hI2 g27 p_x25 => ?_)
      subst p_x25
      intro _
      refine ⟨o_v0, ?_⟩
      refine m_X7_addMove hI o_v0 hM (fun S30 hI g31 fc32 p_S30 => ?_)
      obtain hM := p_S30
      have f0 := fri_tr (S := S) g0 f0 fc32 (by decide) (by decide)
      have o_v0 := gr_ob g31 o_v0
      have o_v1 := gr_ob g31 o_v1
      have g0 := gr_tr (T := S) g0 g31
      intro _
      exact hq _ hI g0 f0 hM
    · obtain ⟨a33, ea33, o_a33, -⟩ := sh 28 rfl hI o_v0
      have l_a33 := wm hM 7 rfl ea33
      refine ⟨a33, ea33, ?_⟩
      refine ⟨o_a33, ?_⟩
      refine ⟨(vin l_a33 (m := 224) (by decide) (q395 r_x5 ex6 c7 c20)), ?_⟩
      intro x34 ex34
      intro x35 ex35
      intro x36 ex36
      refine ⟨fun c37 => ?_, fun c37 => ?_⟩
      · refine u_X7_addLeg_82 ?_
        refine ⟨o_v1, ?_⟩
        refine m_X5_startOf hI o_v1 (fun x38 S39 hI2 g40 p_x38 => ?_)
        subst p_x38
        intro _
        refine m_X5_endOf hI o_v1 (fun x42 S43 hI2 g44 p_x42 => ?_)
        subst p_x42
        intro _
        refine ⟨o_v0, ?_⟩
        refine m_X7_addMove hI o_v0 hM (fun S47 hI g48 fc49 p_S47 => ?_)
        obtain hM := p_S47
        have l_a33 := (gr_len g48 o_a33).trans l_a33
        have ea33 := (frr_at fc49 (by decide) (by decide) o_v0).trans ea33
        have f0 := fri_tr (S := S) g0 f0 fc49 (by decide) (by decide)
        have o_a33 := gr_ob g48 o_a33
        have o_v0 := gr_ob g48 o_v0
        have o_v1 := gr_ob g48 o_v1
        have g0 := gr_tr (T := S) g0 g48
        intro _
        exact hq _ hI g0 f0 hM
      · obtain ⟨a50, ea50, o_a50, -⟩ := sh 26 rfl hI o_v0
        have l_a50 := wm hM 5 rfl ea50
        refine ⟨a50, ea50, ?_⟩
        refine ⟨o_a50, ?_⟩
        refine ⟨(vin l_a50 (m := 224) (by decide) (q396 r_x5 ex6 c7 c20 ex35 ex36 c37)), ?_⟩
        intro x51 ex51
        refine ⟨fun c52 => ?_, fun c52 => ?_⟩
        · refine u_X7_addLeg_82 ?_
          refine ⟨o_v1, ?_⟩
          refine m_X5_startOf hI o_v1 (fun x53 S54 hI2 g55 p_x53 => ?_)
          subst p_x53
          intro _
          refine m_X5_endOf hI o_v1 (fun x57 S58 hI2 g59 p_x57 => ?_)
          subst p_x57
          intro _
          refine ⟨o_v0, ?_⟩
          refine m_X7_addMove hI o_v0 hM (fun S62 hI g63 fc64 p_S62 => ?_)
          obtain hM := p_S62
          have l_a33 := (gr_len g63 o_a33).trans l_a33
          have l_a50 := (gr_len g63 o_a50).trans l_a50
          have ea33 := (frr_at fc64 (by decide) (by decide) o_v0).trans ea33
          have ea50 := (frr_at fc64 (by decide) (by decide) o_v0).trans ea50
          have f0 := fri_tr (S := S) g0 f0 fc64 (by decide) (by decide)
          have o_a33 := gr_ob g63 o_a33
          have o_a50 := gr_ob g63 o_a50
          have o_v0 := gr_ob g63 o_v0
          have o_v1 := gr_ob g63 o_v1
          have g0 := gr_tr (T := S) g0 g63
          intro _
          exact hq _ hI g0 f0 hM
        · obtain ⟨a65, ea65, o_a65, -⟩ := sh 27 rfl hI o_v0
          have l_a65 := wm hM 6 rfl ea65
          refine ⟨a65, ea65, ?_⟩
          refine ⟨o_a65, ?_⟩
          refine ⟨(vin l_a65 (m := 224) (by decide) (q397 r_x5 ex6 c7 c20 ex35 ex36 c37 c52)), ?_⟩
          intro x66 ex66
          refine ⟨fun c67 => ?_, fun c67 => ?_⟩
          · have hI := iv_sI (j := 3) (v := x6) hI o_v0 (by decide) (nu_one (lo := (0 : Int32)) (hi := (224 : Int32)) (by decide) (q398 r_x5 ex6 c7 c20 ex35 ex36 c37 c52 c67))
            have f0 : FRI _ _ _ (sI S v0 3 x6) := fri_sI (S := S) g0 f0 o_v0 (by decide)
            have d_x6 : x6 = fI (sI S v0 3 x6) v0 3 := (u2_self _ _ _ _).symm
            refine u_X7_addLeg_82 ?_
            refine ⟨o_v1, ?_⟩
            refine m_X5_startOf hI o_v1 (fun x68 S69 hI2 g70 p_x68 => ?_)
            subst p_x68
            intro _
            refine m_X5_endOf hI o_v1 (fun x72 S73 hI2 g74 p_x72 => ?_)
            subst p_x72
            intro _
            refine ⟨o_v0, ?_⟩
            refine m_X7_addMove hI o_v0 hM (fun S77 hI g78 fc79 p_S77 => ?_)
            obtain hM := p_S77
            have l_a33 := (gr_len g78 o_a33).trans l_a33
            have l_a50 := (gr_len g78 o_a50).trans l_a50
            have l_a65 := (gr_len g78 o_a65).trans l_a65
            have ea33 := (frr_at fc79 (by decide) (by decide) o_v0).trans ea33
            have ea50 := (frr_at fc79 (by decide) (by decide) o_v0).trans ea50
            have ea65 := (frr_at fc79 (by decide) (by decide) o_v0).trans ea65
            have f0 := fri_tr (S := sI S v0 3 x6) g0 f0 fc79 (by decide) (by decide)
            have o_a33 := gr_ob g78 o_a33
            have o_a50 := gr_ob g78 o_a50
            have o_a65 := gr_ob g78 o_a65
            have o_v0 := gr_ob g78 o_v0
            have o_v1 := gr_ob g78 o_v1
            have g0 := gr_tr (T := sI S v0 3 x6) g0 g78
            intro _
            exact hq _ hI g0 f0 hM
          · exact hq _ hI g0 f0 hM
set_option maxHeartbeats 4000000 in
set_option maxRecDepth 20000 in
theorem m_X7_keyOf {v0 : Nat} {v1 : Int32} {v2 : Int32} {Q : Int64 → HS → Prop} {S : HS} (hI : IV S) (o_v0 : ob S v0 7)     (hq : ∀ (r : Int64) (T : HS), IV T → Gr S T → (S = T) → Q r T) : P_X7_keyOf v0 v1 v2 Q S := by
  have g0 := gr_rf S
  refine u_X7_keyOf ?_
  refine u_X7_keyOf_0 ?_
  intro x1 ex1
  refine ⟨fun c2 => ?_, fun c2 => ?_⟩
  · exact hq _ _ hI g0 rfl
  · refine ⟨o_v0, ?_⟩
    obtain ⟨a3, ea3, o_a3, -⟩ := sh 22 rfl hI o_v0
    have hl_a3 := wyl hI o_v0 1 rfl (by decide) ea3
    refine ⟨a3, ea3, ?_⟩
    refine ⟨o_a3, ?_⟩
    refine ⟨fun c4 => ?_, fun c4 => ?_⟩
    · exact hq _ _ hI g0 rfl
    · refine ⟨a3, ea3, ?_⟩
      refine ⟨o_a3, ?_⟩
      refine ⟨(vinL hl_a3 (q388 ex1 c2 c4)), ?_⟩
      intro x6 ex6
      exact hq _ _ hI g0 rfl
set_option maxHeartbeats 4000000 in
set_option maxRecDepth 20000 in
theorem m_X7_endFrom {v0 : Nat} {v1 : Int32} {v2 : Int32} {Q : Int32 → HS → Prop} {S : HS} (hI : IV S) (o_v0 : ob S v0 7)     (hq : ∀ (r : Int32) (T : HS), IV T → Gr S T → (S = T) → Q r T) : P_X7_endFrom v0 v1 v2 Q S := by
  have g0 := gr_rf S
  refine u_X7_endFrom ?_
  refine u_X7_endFrom_0 ?_
  refine ⟨o_v0, ?_⟩
  refine m_X7_keyOf hI o_v0 (fun x1 S2 hI2 g3 p_x1 => ?_)
  subst p_x1
  intro _
  intro x5 ex5
  exact hq _ _ hI g0 rfl
set_option maxHeartbeats 4000000 in
set_option maxRecDepth 20000 in
theorem m_X7_forget {v0 : Nat} {Q : HS → Prop} {S : HS} (hI : IV S) (o_v0 : ob S v0 7)     (hq : ∀ (T : HS), IV T → Gr S T → FRI [(7, 10)] [] S T → Q T) : P_X7_forget v0 Q S := by
  have g0 := gr_rf S
  have f0 := fri_rf [(7, 10)] [] S
  refine u_X7_forget ?_
  refine u_X7_forget_0 ?_
  refine ⟨o_v0, ?_⟩
  have hI := iv_sI (j := 10) (v := (-1 : Int32)) hI o_v0 (by decide) (nu_free (by decide))
  have f0 : FRI _ _ _ (sI S v0 10 (-1 : Int32)) := fri_sI (S := S) g0 f0 o_v0 (by decide)
  obtain ⟨y1, hy1⟩ : ∃ z : Int32, z = (-1 : Int32) := ⟨_, rfl⟩
  have d_y1 : y1 = fI (sI S v0 10 (-1 : Int32)) v0 10 := hy1.trans (u2_self _ _ _ _).symm
  exact hq _ hI g0 f0
set_option maxHeartbeats 4000000 in
set_option maxRecDepth 20000 in
theorem m_X7_isOpen {v0 : Nat} {v1 : Int32} {v2 : Int32} {Q : Int32 → HS → Prop} {S : HS} (hI : IV S) (o_v0 : ob S v0 7)     (hq : ∀ (r : Int32) (T : HS), IV T → Gr S T → bl r → (S = T) → Q r T) : P_X7_isOpen v0 v1 v2 Q S := by
  have g0 := gr_rf S
  refine u_X7_isOpen ?_
  refine u_X7_isOpen_0 ?_
  refine ⟨o_v0, ?_⟩
  refine m_X7_keyOf hI o_v0 (fun x1 S2 hI2 g3 p_x1 => ?_)
  subst p_x1
  intro _
  refine ⟨fun c5 => ?_, fun c5 => ?_⟩
  · exact hq _ _ hI g0 (Or.inl rfl) rfl
  · exact hq _ _ hI g0 (Or.inr rfl) rfl
set_option maxHeartbeats 4000000 in
set_option maxRecDepth 20000 in
theorem m_X7_meanFrom {v0 : Nat} {v1 : Int32} {v2 : Int32} {Q : Int64 → HS → Prop} {S : HS} (hI : IV S) (o_v0 : ob S v0 7)     (hq : ∀ (r : Int64) (T : HS), IV T → Gr S T → (S = T) → Q r T) : P_X7_meanFrom v0 v1 v2 Q S := by
  have g0 := gr_rf S
  refine u_X7_meanFrom ?_
  refine u_X7_meanFrom_0 ?_
  refine ⟨o_v0, ?_⟩
  refine m_X7_keyOf hI o_v0 (fun x1 S2 hI2 g3 p_x1 => ?_)
  subst p_x1
  intro _
  intro x5 ex5
  exact hq _ _ hI g0 rfl
set_option maxHeartbeats 4000000 in
set_option maxRecDepth 20000 in
theorem m_X8_hasPlace {v0 : Nat} {v1 : Int32} {Q : Int32 → HS → Prop} {S : HS} (hI : IV S) (o_v0 : ob S v0 8)     (hq : ∀ (r : Int32) (T : HS), IV T → Gr S T → bl r → (S = T) ∧ (r = 1 → 0 ≤ v1 ∧ v1 < 8) → Q r T) : P_X8_hasPlace v0 v1 Q S := by
  have g0 := gr_rf S
  refine u_X8_hasPlace ?_
  refine u_X8_hasPlace_0 ?_
  refine ⟨fun c1 => ?_, fun c1 => ?_⟩
  · exact hq _ _ hI g0 (Or.inl rfl) ⟨rfl, (q105 c1)⟩
  · refine ⟨o_v0, ?_⟩
    intro x2 ex2
    have r_x2 : (0 : Int32) ≤ x2 ∧ x2 ≤ (8 : Int32) := by rw [ex2]; exact nu 12 rfl hI o_v0
    have d_x2 := ex2
    refine ⟨fun c3 => ?_, fun c3 => ?_⟩
    · exact hq _ _ hI g0 (Or.inl rfl) ⟨rfl, (q106 c1 r_x2 c3)⟩
    · obtain ⟨a4, ea4, o_a4, l_a4⟩ := shl 16 rfl hI o_v0
      refine ⟨a4, ea4, ?_⟩
      refine ⟨o_a4, ?_⟩
      have n_a4 : nI (hN S a4) = 8 := by rw [show hN S a4 = 8 from l_a4]; decide
      refine ⟨fun c5 => ?_, fun c5 => ?_⟩
      · rw [n_a4] at c5
        exact hq _ _ hI g0 (Or.inl rfl) ⟨rfl, (q107 c1 r_x2 c3 c5)⟩
      · rw [n_a4] at c5
        exact hq _ _ hI g0 (Or.inr rfl) ⟨rfl, (q108 c1 r_x2 c3 c5)⟩
set_option maxHeartbeats 4000000 in
set_option maxRecDepth 20000 in
theorem m_X8_canWait {v0 : Nat} {v1 : Int32} {Q : Int32 → HS → Prop} {S : HS} (hI : IV S) (o_v0 : ob S v0 8)     (hq : ∀ (r : Int32) (T : HS), IV T → Gr S T → bl r → (S = T) ∧ (r = 1 → 0 ≤ v1 ∧ v1 < 8) → Q r T) : P_X8_canWait v0 v1 Q S := by
  have g0 := gr_rf S
  refine u_X8_canWait ?_
  refine u_X8_canWait_0 ?_
  refine ⟨o_v0, ?_⟩
  refine m_X8_hasPlace hI o_v0 (fun x1 S2 hI2 g3 b_x1 p_x1 => ?_)
  obtain ⟨z_S2, p_x1⟩ := p_x1
  subst z_S2
  intro _ _
  have bb_x1 : x1 = 0 ∨ x1 = 1 := b_x1
  refine ⟨fun c5 => ?_, fun c5 => ?_⟩
  · exact hq _ _ hI g0 (Or.inl rfl) ⟨rfl, (q385 p_x1 bb_x1 c5)⟩
  · obtain ⟨a6, ea6, o_a6, l_a6⟩ := shl 16 rfl hI o_v0
    refine ⟨a6, ea6, ?_⟩
    refine ⟨o_a6, ?_⟩
    refine ⟨(vin l_a6 (m := 8) (by decide) (q384 p_x1 bb_x1 c5)), ?_⟩
    intro x7 ex7
    refine ⟨fun c8 => ?_, fun c8 => ?_⟩
    · exact hq _ _ hI g0 (Or.inl rfl) ⟨rfl, (q386 p_x1 bb_x1 c5 c8)⟩
    · exact hq _ _ hI g0 (Or.inr rfl) ⟨rfl, (q387 p_x1 bb_x1 c5 c8)⟩
set_option maxHeartbeats 4000000 in
set_option maxRecDepth 20000 in
theorem m_X8_dripOn {v0 : Nat} {v1 : Nat} {v2 : Int32} {Q : Int32 → HS → Prop} {S : HS} (hI : IV S) (o_v0 : ob S v0 8) (o_v1 : ob S v1 6)     (hq : ∀ (r : Int32) (T : HS), IV T → Gr S T → (S = T) → Q r T) : P_X8_dripOn v0 v1 v2 Q S := by
  have g0 := gr_rf S
  refine u_X8_dripOn ?_
  refine u_X8_dripOn_0 ?_
  refine ⟨o_v0, ?_⟩
  refine m_X8_canWait hI o_v0 (fun x1 S2 hI2 g3 b_x1 p_x1 => ?_)
  obtain ⟨z_S2, p_x1⟩ := p_x1
  subst z_S2
  intro _ _
  have bb_x1 : x1 = 0 ∨ x1 = 1 := b_x1
  refine ⟨fun c5 => ?_, fun c5 => ?_⟩
  · exact hq _ _ hI g0 rfl
  · obtain ⟨a6, ea6, o_a6, l_a6⟩ := shl 16 rfl hI o_v0
    refine ⟨a6, ea6, ?_⟩
    refine ⟨o_a6, ?_⟩
    refine ⟨(vin l_a6 (m := 8) (by decide) (q384 p_x1 bb_x1 c5)), ?_⟩
    intro x7 ex7
    refine ⟨o_v1, ?_⟩
    intro x8 ex8
    have d_x8 := ex8
    refine m_X6_shield hI o_v1 (fun x9 S10 hI2 g11 p_x9 => ?_)
    subst p_x9
    intro _
    intro x13 ex13
    exact hq _ _ hI g0 rfl
set_option maxHeartbeats 4000000 in
set_option maxRecDepth 20000 in
theorem m_X8_hasHour {v0 : Nat} {v1 : Int32} {Q : Int32 → HS → Prop} {S : HS} (hI : IV S) (o_v0 : ob S v0 8)     (hq : ∀ (r : Int32) (T : HS), IV T → Gr S T → bl r → (S = T) ∧ (r = 1 → 0 ≤ v1 ∧ v1 < 6) → Q r T) : P_X8_hasHour v0 v1 Q S := by
  have g0 := gr_rf S
  refine u_X8_hasHour ?_
  refine u_X8_hasHour_0 ?_
  refine ⟨fun c1 => ?_, fun c1 => ?_⟩
  · exact hq _ _ hI g0 (Or.inl rfl) ⟨rfl, (q27 c1)⟩
  · refine ⟨o_v0, ?_⟩
    intro x2 ex2
    have r_x2 : (0 : Int32) ≤ x2 ∧ x2 ≤ (6 : Int32) := by rw [ex2]; exact nu 11 rfl hI o_v0
    have d_x2 := ex2
    refine ⟨fun c3 => ?_, fun c3 => ?_⟩
    · exact hq _ _ hI g0 (Or.inl rfl) ⟨rfl, (q28 c1 r_x2 c3)⟩
    · obtain ⟨a4, ea4, o_a4, l_a4⟩ := shl 15 rfl hI o_v0
      refine ⟨a4, ea4, ?_⟩
      refine ⟨o_a4, ?_⟩
      have n_a4 : nI (hN S a4) = 6 := by rw [show hN S a4 = 6 from l_a4]; decide
      refine ⟨fun c5 => ?_, fun c5 => ?_⟩
      · rw [n_a4] at c5
        exact hq _ _ hI g0 (Or.inl rfl) ⟨rfl, (q29 c1 r_x2 c3 c5)⟩
      · rw [n_a4] at c5
        exact hq _ _ hI g0 (Or.inr rfl) ⟨rfl, (q30 c1 r_x2 c3 c5)⟩
set_option maxHeartbeats 4000000 in
set_option maxRecDepth 20000 in
theorem m_X7_price {v0 : Nat} {v1 : Nat} {v2 : Nat} {v3 : Int32} {Q : HS → Prop} {S : HS} (hI : IV S) (o_v0 : ob S v0 7) (o_v1 : ob S v1 8) (o_v2 : ob S v2 1)    (hM : WM S v0) (hq : ∀ (T : HS), IV T → Gr S T → FRI [(7, 3), (7, 9)] [] S T → (WM T v0) → Q T) : P_X7_price v0 v1 v2 v3 Q S := by
  have g0 := gr_rf S
  have f0 := fri_rf [(7, 3), (7, 9)] [] S
  refine u_X7_price ?_
  refine u_X7_price_0 ?_
  refine ⟨o_v0, ?_⟩
  have hI := iv_sI (j := 9) (v := v3) hI o_v0 (by decide) (nu_free (by decide))
  have f0 : FRI _ _ _ (sI S v0 9 v3) := fri_sI (S := S) g0 f0 o_v0 (by decide)
  have d_v3 : v3 = fI (sI S v0 9 v3) v0 9 := (u2_self _ _ _ _).symm
  have hI := iv_sI (j := 3) (v := (0 : Int32)) hI o_v0 (by decide) (nu_one (lo := (0 : Int32)) (hi := (224 : Int32)) (by decide) (q336))
  have f0 : FRI _ _ _ (sI (sI S v0 9 v3) v0 3 (0 : Int32)) := fri_sI (S := sI S v0 9 v3) g0 f0 o_v0 (by decide)
  have d_v3 : v3 = fI (sI (sI S v0 9 v3) v0 3 (0 : Int32)) v0 9 := d_v3.trans (rd_j (by decide)).symm
  obtain ⟨y1, hy1⟩ : ∃ z : Int32, z = (0 : Int32) := ⟨_, rfl⟩
  have d_y1 : y1 = fI (sI (sI S v0 9 v3) v0 3 (0 : Int32)) v0 3 := hy1.trans (u2_self _ _ _ _).symm
  intro x2 ex2
  have d_x2 := ex2
  refine ⟨o_v1, ?_⟩
  refine m_X8_hasWalker hI o_v1 (fun x3 S4 hI2 g5 b_x3 p_x3 => ?_)
  obtain ⟨z_S4, p_x3⟩ := p_x3
  subst z_S4
  intro _ _
  have bb_x3 : x3 = 0 ∨ x3 = 1 := b_x3
  refine ⟨fun c7 => ?_, fun c7 => ?_⟩
  · obtain ⟨a8, ea8, o_a8, l_a8⟩ := shl 18 rfl hI o_v1
    refine ⟨a8, ea8, ?_⟩
    intro x9 ex9
    have q_x9 : x9 = x2 := ex9.trans d_x2.symm
    have d_x9 := ex9
    refine ⟨o_a8, ?_⟩
    have i11 : vp_in x9 (hN _ a8) := (vin l_a8 (m := 4) (by decide) (q337 p_x3 bb_x3 c7 q_x9))
    obtain ⟨a10, ea10, o_a10⟩ := ae hI o_a8 (by decide) (by decide) i11
    replace o_a10 : ob _ a10 6 := o_a10
    refine ⟨i11, a10, ea10, ?_⟩
    refine m_X8_hasHour hI o_v1 (fun x12 S13 hI2 g14 b_x12 p_x12 => ?_)
    obtain ⟨z_S13, p_x12⟩ := p_x12
    subst z_S13
    intro _ _
    have bb_x12 : x12 = 0 ∨ x12 = 1 := b_x12
    refine ⟨fun c16 => ?_, fun c16 => ?_⟩
    · refine u_X7_price_46 ?_
      refine i_X7_price_51 (fun (y0 : Nat) (y1 : Nat) (y2 : Nat) (y3 : Int32) (y4 : Nat) (y5 : Int32) (y6 : Int32) (Z : HS) => ((2147483647 : Int32).toInt - y6.toInt).toNat) (fun (y0 : Nat) (y1 : Nat) (y2 : Nat) (y3 : Int32) (y4 : Nat) (y5 : Int32) (y6 : Int32) (Z : HS) => (IV Z) ∧ (Gr (sI (sI S v0 9 v3) v0 3 (0 : Int32)) Z) ∧ (FRI [(7, 3)] [] (sI (sI S v0 9 v3) v0 3 (0 : Int32)) Z) ∧ (v0 = y0) ∧ (v1 = y1) ∧ (v2 = y2) ∧ (v3 = y3) ∧ (a10 = y4) ∧ ((0 : Int32) = y5) ∧ (WM Z v0) ∧ (0 ≤ y6)) ?_ _ _ _ _ _ _ _ _ ⟨hI, (gr_rf _), (fri_rf _ _ _), rfl, rfl, rfl, rfl, rfl, rfl, hM, (q338 p_x3 bb_x3 c7 q_x9 p_x12 bb_x12 c16)⟩
      intro w20 w22 w24 w26 w28 w30 w32 S17 X33 ⟨hI, gL18, fL19, q21, q23, q25, q27, q29, q31, hM, i1⟩ ih34
      subst q21
      subst q23
      subst q25
      subst q27
      subst q29
      subst q31
      have l_a8 := (gr_len gL18 o_a8).trans l_a8
      have d_v3 := d_v3.trans (fri_at fL19 (by decide) (by decide) o_v0).symm
      have d_x9 := d_x9.trans (fri_at fL19 (by decide) (by decide) o_v0).symm
      have ea8 := (frr_at fL19 (by decide) (by decide) o_v1).trans ea8
      have f0 := fri_tr (S := sI (sI S v0 9 v3) v0 3 (0 : Int32)) g0 f0 fL19 (by decide) (by decide)
      have o_a10 := gr_ob gL18 o_a10
      have o_a8 := gr_ob gL18 o_a8
      have o_v0 := gr_ob gL18 o_v0
      have o_v1 := gr_ob gL18 o_v1
      have o_v2 := gr_ob gL18 o_v2
      have g0 := gr_tr (T := sI (sI S v0 9 v3) v0 3 (0 : Int32)) g0 gL18
      refine u_X7_price_51 ?_
      refine ⟨o_v1, ?_⟩
      intro x35 ex35
      have r_x35 : (0 : Int32) ≤ x35 ∧ x35 ≤ (12 : Int32) := by rw [ex35]; exact nu 13 rfl hI o_v1
      have d_x35 := ex35
      refine ⟨fun c36 => ?_, fun c36 => ?_⟩
      · refine i_X7_price_179 (fun (y0 : Nat) (y1 : Nat) (y3 : Int32) (y4 : Nat) (y5 : Int32) (y6 : Int32) (Z : HS) => ((2147483647 : Int32).toInt - y6.toInt).toNat) (fun (y0 : Nat) (y1 : Nat) (y3 : Int32) (y4 : Nat) (y5 : Int32) (y6 : Int32) (Z : HS) => (IV Z) ∧ (Gr S17 Z) ∧ (FRI [(7, 3)] [] S17 Z) ∧ (v0 = y0) ∧ (v1 = y1) ∧ (v3 = y3) ∧ (a10 = y4) ∧ ((0 : Int32) = y5) ∧ (WM Z v0) ∧ (0 ≤ y6)) ?_ _ _ _ _ _ _ _ ⟨hI, (gr_rf _), (fri_rf _ _ _), rfl, rfl, rfl, rfl, rfl, hM, (q339 p_x3 bb_x3 c7 q_x9 p_x12 bb_x12 c16 i1 r_x35 c36)⟩
        intro w40 w42 w44 w46 w48 w50 S37 X51 ⟨hI, gL38, fL39, q41, q43, q45, q47, q49, hM, i1⟩ ih52
        subst q41
        subst q43
        subst q45
        subst q47
        subst q49
        have l_a8 := (gr_len gL38 o_a8).trans l_a8
        have d_v3 := d_v3.trans (fri_at fL39 (by decide) (by decide) o_v0).symm
        have d_x9 := d_x9.trans (fri_at fL39 (by decide) (by decide) o_v0).symm
        have d_x35 := d_x35.trans (fri_at fL39 (by decide) (by decide) o_v1).symm
        have ea8 := (frr_at fL39 (by decide) (by decide) o_v1).trans ea8
        have f0 := fri_tr (S := S17) g0 f0 fL39 (by decide) (by decide)
        have fL19 := fri_tr (S := S17) gL18 fL19 fL39 (by decide) (by decide)
        have o_a10 := gr_ob gL38 o_a10
        have o_a8 := gr_ob gL38 o_a8
        have o_v0 := gr_ob gL38 o_v0
        have o_v1 := gr_ob gL38 o_v1
        have o_v2 := gr_ob gL38 o_v2
        have g0 := gr_tr (T := S17) g0 gL38
        have gL18 := gr_tr (T := S17) gL18 gL38
        refine u_X7_price_179 ?_
        refine ⟨o_v1, ?_⟩
        intro x53 ex53
        have r_x53 : (0 : Int32) ≤ x53 ∧ x53 ≤ (8 : Int32) := by rw [ex53]; exact nu 12 rfl hI o_v1
        have d_x53 := ex53
        refine ⟨fun c54 => ?_, fun c54 => ?_⟩
        · exact hq _ hI g0 f0 hM
        · refine m_X8_canWait hI o_v1 (fun x55 S56 hI2 g57 b_x55 p_x55 => ?_)
          obtain ⟨z_S56, p_x55⟩ := p_x55
          subst z_S56
          intro _ _
          have bb_x55 : x55 = 0 ∨ x55 = 1 := b_x55
          refine ⟨fun c59 => ?_, fun c59 => ?_⟩
          · refine u_X7_price_245 ?_
            intro x60 ex60
            exact ih52 _ _ _ _ _ _ _ ⟨hI, gL38, fL39, rfl, rfl, rfl, rfl, rfl, hM, (q340 p_x3 bb_x3 c7 q_x9 p_x12 bb_x12 c16 i1 r_x35 c36 i1 r_x53 c54 p_x55 bb_x55 c59 ex60)⟩ (mu_up (q341 p_x3 bb_x3 c7 q_x9 p_x12 bb_x12 c16 i1 r_x35 c36 i1 r_x53 c54 p_x55 bb_x55 c59 ex60) (q342 p_x3 bb_x3 c7 q_x9 p_x12 bb_x12 c16 i1 r_x35 c36 i1 r_x53 c54 p_x55 bb_x55 c59 ex60))
          · refine ⟨fun c61 => ?_, fun c61 => ?_⟩
            · refine m_X8_dripOn hI o_v1 o_a10 (fun x62 S63 hI2 g64 p_x62 => ?_)
              subst p_x62
              intro _
              obtain ⟨a66, ea66, o_a66, l_a66⟩ := shl 15 rfl hI o_v1
              refine ⟨a66, ea66, ?_⟩
              refine ⟨o_a66, ?_⟩
              have i68 : vp_in v3 (hN _ a66) := (vin l_a66 (m := 6) (by decide) (q343 p_x3 bb_x3 c7 q_x9 p_x12 bb_x12 c16 i1 r_x35 c36 i1 r_x53 c54 p_x55 bb_x55 c59))
              obtain ⟨a67, ea67, o_a67⟩ := ae hI o_a66 (by decide) (by decide) i68
              replace o_a67 : ob _ a67 3 := o_a67
              refine ⟨i68, a67, ea67, ?_⟩
              refine ⟨o_a67, ?_⟩
              intro x69 ex69
              have d_x69 := ex69
              refine u_X7_price_230 ?_
              intro x70 ex70
              refine ⟨o_v0, ?_⟩
              refine m_X7_addMove hI o_v0 hM (fun S72 hI g73 fc74 p_S72 => ?_)
              obtain hM := p_S72
              have l_a66 := (gr_len g73 o_a66).trans l_a66
              have l_a8 := (gr_len g73 o_a8).trans l_a8
              have d_v3 := d_v3.trans (fri_at fc74 (by decide) (by decide) o_v0).symm
              have d_x9 := d_x9.trans (fri_at fc74 (by decide) (by decide) o_v0).symm
              have d_x35 := d_x35.trans (fri_at fc74 (by decide) (by decide) o_v1).symm
              have d_x53 := d_x53.trans (fri_at fc74 (by decide) (by decide) o_v1).symm
              have d_x69 := d_x69.trans (fri_at fc74 (by decide) (by decide) o_a67).symm
              have ea8 := (frr_at fc74 (by decide) (by decide) o_v1).trans ea8
              have ea66 := (frr_at fc74 (by decide) (by decide) o_v1).trans ea66
              have f0 := fri_tr (S := S37) g0 f0 fc74 (by decide) (by decide)
              have fL19 := fri_tr (S := S37) gL18 fL19 fc74 (by decide) (by decide)
              have fL39 := fri_tr (S := S37) gL38 fL39 fc74 (by decide) (by decide)
              have o_a10 := gr_ob g73 o_a10
              have o_a66 := gr_ob g73 o_a66
              have o_a67 := gr_ob g73 o_a67
              have o_a8 := gr_ob g73 o_a8
              have o_v0 := gr_ob g73 o_v0
              have o_v1 := gr_ob g73 o_v1
              have o_v2 := gr_ob g73 o_v2
              have g0 := gr_tr (T := S37) g0 g73
              have gL18 := gr_tr (T := S37) gL18 g73
              have gL38 := gr_tr (T := S37) gL38 g73
              intro _
              refine u_X7_price_245 ?_
              intro x75 ex75
              exact ih52 _ _ _ _ _ _ _ ⟨hI, gL38, fL39, rfl, rfl, rfl, rfl, rfl, hM, (q344 p_x3 bb_x3 c7 q_x9 p_x12 bb_x12 c16 i1 r_x35 c36 i1 r_x53 c54 p_x55 bb_x55 c59 ex75)⟩ (mu_up (q345 p_x3 bb_x3 c7 q_x9 p_x12 bb_x12 c16 i1 r_x35 c36 i1 r_x53 c54 p_x55 bb_x55 c59 ex75) (q346 p_x3 bb_x3 c7 q_x9 p_x12 bb_x12 c16 i1 r_x35 c36 i1 r_x53 c54 p_x55 bb_x55 c59 ex75))
            · refine u_X7_price_230 ?_
              refine ⟨o_v0, ?_⟩
              refine m_X7_addMove hI o_v0 hM (fun S77 hI g78 fc79 p_S77 => ?_)
              obtain hM := p_S77
              have l_a8 := (gr_len g78 o_a8).trans l_a8
              have d_v3 := d_v3.trans (fri_at fc79 (by decide) (by decide) o_v0).symm
              have d_x9 := d_x9.trans (fri_at fc79 (by decide) (by decide) o_v0).symm
              have d_x35 := d_x35.trans (fri_at fc79 (by decide) (by decide) o_v1).symm
              have d_x53 := d_x53.trans (fri_at fc79 (by decide) (by decide) o_v1).symm
              have ea8 := (frr_at fc79 (by decide) (by decide) o_v1).trans ea8
              have f0 := fri_tr (S := S37) g0 f0 fc79 (by decide) (by decide)
              have fL19 := fri_tr (S := S37) gL18 fL19 fc79 (by decide) (by decide)
              have fL39 := fri_tr (S := S37) gL38 fL39 fc79 (by decide) (by decide)
              have o_a10 := gr_ob g78 o_a10
              have o_a8 := gr_ob g78 o_a8
              have o_v0 := gr_ob g78 o_v0
              have o_v1 := gr_ob g78 o_v1
              have o_v2 := gr_ob g78 o_v2
              have g0 := gr_tr (T := S37) g0 g78
              have gL18 := gr_tr (T := S37) gL18 g78
              have gL38 := gr_tr (T := S37) gL38 g78
              intro _
              refine u_X7_price_245 ?_
              intro x80 ex80
              exact ih52 _ _ _ _ _ _ _ ⟨hI, gL38, fL39, rfl, rfl, rfl, rfl, rfl, hM, (q347 p_x3 bb_x3 c7 q_x9 p_x12 bb_x12 c16 i1 r_x35 c36 i1 r_x53 c54 p_x55 bb_x55 c59 c61 ex80)⟩ (mu_up (q348 p_x3 bb_x3 c7 q_x9 p_x12 bb_x12 c16 i1 r_x35 c36 i1 r_x53 c54 p_x55 bb_x55 c59 c61 ex80) (q349 p_x3 bb_x3 c7 q_x9 p_x12 bb_x12 c16 i1 r_x35 c36 i1 r_x53 c54 p_x55 bb_x55 c59 c61 ex80))
      · obtain ⟨a81, ea81, o_a81, l_a81⟩ := shl 17 rfl hI o_v1
        refine ⟨a81, ea81, ?_⟩
        intro x82 ex82
        have dv_x82 : 0 ≤ x82 ∧ x82 < (12 : Int32) := by rw [ex82]; exact dvl (k := 12) (m := 24) (q350 p_x3 bb_x3 c7 q_x9 p_x12 bb_x12 c16 i1 r_x35 c36 ex82) (q351 p_x3 bb_x3 c7 q_x9 p_x12 bb_x12 c16 i1 r_x35 c36 ex82) (by decide) (by decide)
        refine ⟨o_a81, ?_⟩
        have i84 : vp_in x82 (hN _ a81) := (vin l_a81 (m := 12) (by decide) (q352 p_x3 bb_x3 c7 q_x9 p_x12 bb_x12 c16 i1 r_x35 c36 ex82 dv_x82))
        obtain ⟨a83, ea83, o_a83⟩ := ae hI o_a81 (by decide) (by decide) i84
        replace o_a83 : ob _ a83 5 := o_a83
        refine ⟨i84, a83, ea83, ?_⟩
        intro x85 ex85
        refine ⟨o_a10, ?_⟩
        intro x86 ex86
        have r_x86 : (0 : Int32) ≤ x86 ∧ x86 ≤ (9 : Int32) := by rw [ex86]; exact nu 4 rfl hI o_a10
        have d_x86 := ex86
        refine i_X7_price_86 (fun (y0 : Nat) (y1 : Nat) (y2 : Nat) (y3 : Int32) (y4 : Nat) (y5 : Int32) (y6 : Int32) (y7 : Nat) (y8 : Int32) (y9 : Int32) (Z : HS) => ((2147483647 : Int32).toInt - y9.toInt).toNat) (fun (y0 : Nat) (y1 : Nat) (y2 : Nat) (y3 : Int32) (y4 : Nat) (y5 : Int32) (y6 : Int32) (y7 : Nat) (y8 : Int32) (y9 : Int32) (Z : HS) => (IV Z) ∧ (Gr S17 Z) ∧ (FRI [(7, 3)] [] S17 Z) ∧ (v0 = y0) ∧ (v1 = y1) ∧ (v2 = y2) ∧ (v3 = y3) ∧ (a10 = y4) ∧ ((0 : Int32) = y5) ∧ (w32 = y6) ∧ (a83 = y7) ∧ (x85 = y8) ∧ (WM Z v0)) ?_ _ _ _ _ _ _ _ _ _ _ _ ⟨hI, (gr_rf _), (fri_rf _ _ _), rfl, rfl, rfl, rfl, rfl, rfl, rfl, rfl, rfl, hM⟩
        intro w90 w92 w94 w96 w98 w100 w102 w104 w106 w108 S87 X109 ⟨hI, gL88, fL89, q91, q93, q95, q97, q99, q101, q103, q105, q107, hM⟩ ih110
        subst q91
        subst q93
        subst q95
        subst q97
        subst q99
        subst q101
        subst q103
        subst q105
        subst q107
        have l_a8 := (gr_len gL88 o_a8).trans l_a8
        have l_a81 := (gr_len gL88 o_a81).trans l_a81
        have d_v3 := d_v3.trans (fri_at fL89 (by decide) (by decide) o_v0).symm
        have d_x9 := d_x9.trans (fri_at fL89 (by decide) (by decide) o_v0).symm
        have d_x35 := d_x35.trans (fri_at fL89 (by decide) (by decide) o_v1).symm
        have d_x86 := d_x86.trans (fri_at fL89 (by decide) (by decide) o_a10).symm
        have ea8 := (frr_at fL89 (by decide) (by decide) o_v1).trans ea8
        have ea81 := (frr_at fL89 (by decide) (by decide) o_v1).trans ea81
        have f0 := fri_tr (S := S17) g0 f0 fL89 (by decide) (by decide)
        have fL19 := fri_tr (S := S17) gL18 fL19 fL89 (by decide) (by decide)
        have o_a10 := gr_ob gL88 o_a10
        have o_a8 := gr_ob gL88 o_a8
        have o_a81 := gr_ob gL88 o_a81
        have o_a83 := gr_ob gL88 o_a83
        have o_v0 := gr_ob gL88 o_v0
        have o_v1 := gr_ob gL88 o_v1
        have o_v2 := gr_ob gL88 o_v2
        have g0 := gr_tr (T := S17) g0 gL88
        have gL18 := gr_tr (T := S17) gL18 gL88
        refine u_X7_price_86 ?_
        refine ⟨o_a10, ?_⟩
        intro x111 ex111
        have r_x111 : (0 : Int32) ≤ x111 ∧ x111 ≤ (9 : Int32) := by rw [ex111]; exact nu 5 rfl hI o_a10
        have d_x111 := ex111
        refine ⟨fun c112 => ?_, fun c112 => ?_⟩
        · intro x113 ex113
          exact ih34 _ _ _ _ _ _ _ _ ⟨hI, gL18, fL19, rfl, rfl, rfl, rfl, rfl, rfl, hM, (q353 p_x3 bb_x3 c7 q_x9 p_x12 bb_x12 c16 i1 r_x35 c36 ex82 dv_x82 ex85 r_x111 c112 ex113)⟩ (mu_up (q354 p_x3 bb_x3 c7 q_x9 p_x12 bb_x12 c16 i1 r_x35 c36 ex82 dv_x82 ex85 r_x111 c112 ex113) (q355 p_x3 bb_x3 c7 q_x9 p_x12 bb_x12 c16 i1 r_x35 c36 ex82 dv_x82 ex85 r_x111 c112 ex113))
        · refine ⟨fun c114 => ?_, fun c114 => ?_⟩
          · refine ⟨o_v1, ?_⟩
            obtain ⟨a115, ea115, o_a115, l_a115⟩ := shl 15 rfl hI o_v1
            refine ⟨a115, ea115, ?_⟩
            refine ⟨o_a115, ?_⟩
            have i117 : vp_in v3 (hN _ a115) := (vin l_a115 (m := 6) (by decide) (q356 p_x3 bb_x3 c7 q_x9 p_x12 bb_x12 c16 i1 r_x35 c36 ex82 dv_x82 ex85 r_x111 c112))
            obtain ⟨a116, ea116, o_a116⟩ := ae hI o_a115 (by decide) (by decide) i117
            replace o_a116 : ob _ a116 3 := o_a116
            refine ⟨i117, a116, ea116, ?_⟩
            refine ⟨o_v2, ?_⟩
            refine m_X1_wetOf hI o_v2 o_a10 o_a83 o_a116 (fun x118 S119 hI g120 fc121 => ?_)
            have l_a115 := (gr_len g120 o_a115).trans l_a115
            have l_a8 := (gr_len g120 o_a8).trans l_a8
            have l_a81 := (gr_len g120 o_a81).trans l_a81
            have d_v3 := d_v3.trans (fri_at fc121 (by decide) (by decide) o_v0).symm
            have d_x9 := d_x9.trans (fri_at fc121 (by decide) (by decide) o_v0).symm
            have d_x35 := d_x35.trans (fri_at fc121 (by decide) (by decide) o_v1).symm
            have d_x86 := d_x86.trans (fri_at fc121 (by decide) (by decide) o_a10).symm
            have d_x111 := d_x111.trans (fri_at fc121 (by decide) (by decide) o_a10).symm
            have ea8 := (frr_at fc121 (by decide) (by decide) o_v1).trans ea8
            have ea81 := (frr_at fc121 (by decide) (by decide) o_v1).trans ea81
            have ea115 := (frr_at fc121 (by decide) (by decide) o_v1).trans ea115
            have f0 := fri_tr (S := S87) g0 f0 fc121 (by decide) (by decide)
            have fL19 := fri_tr (S := S87) gL18 fL19 fc121 (by decide) (by decide)
            have fL89 := fri_tr (S := S87) gL88 fL89 fc121 (by decide) (by decide)
            have o_a10 := gr_ob g120 o_a10
            have o_a115 := gr_ob g120 o_a115
            have o_a116 := gr_ob g120 o_a116
            have o_a8 := gr_ob g120 o_a8
            have o_a81 := gr_ob g120 o_a81
            have o_a83 := gr_ob g120 o_a83
            have o_v0 := gr_ob g120 o_v0
            have o_v1 := gr_ob g120 o_v1
            have o_v2 := gr_ob g120 o_v2
            have g0 := gr_tr (T := S87) g0 g120
            have gL18 := gr_tr (T := S87) gL18 g120
            have gL88 := gr_tr (T := S87) gL88 g120
            intro _
            refine ⟨a115, ea115, ?_⟩
            refine ⟨o_a115, ?_⟩
            have i124 : vp_in v3 (hN _ a115) := (vin l_a115 (m := 6) (by decide) (q356 p_x3 bb_x3 c7 q_x9 p_x12 bb_x12 c16 i1 r_x35 c36 ex82 dv_x82 ex85 r_x111 c112))
            obtain ⟨a123, ea123, o_a123⟩ := ae hI o_a115 (by decide) (by decide) i124
            replace o_a123 : ob _ a123 3 := o_a123
            refine ⟨i124, a123, ea123, ?_⟩
            refine ⟨o_a123, ?_⟩
            intro x125 ex125
            have d_x125 := ex125
            refine u_X7_price_134 ?_
            intro x126 ex126
            intro x127 ex127
            refine ⟨o_v0, ?_⟩
            refine m_X7_addLeg hI o_v0 o_a83 hM (fun S129 hI g130 fc131 p_S129 => ?_)
            obtain hM := p_S129
            have l_a115 := (gr_len g130 o_a115).trans l_a115
            have l_a8 := (gr_len g130 o_a8).trans l_a8
            have l_a81 := (gr_len g130 o_a81).trans l_a81
            have d_v3 := d_v3.trans (fri_at fc131 (by decide) (by decide) o_v0).symm
            have d_x9 := d_x9.trans (fri_at fc131 (by decide) (by decide) o_v0).symm
            have d_x35 := d_x35.trans (fri_at fc131 (by decide) (by decide) o_v1).symm
            have d_x86 := d_x86.trans (fri_at fc131 (by decide) (by decide) o_a10).symm
            have d_x111 := d_x111.trans (fri_at fc131 (by decide) (by decide) o_a10).symm
            have d_x125 := d_x125.trans (fri_at fc131 (by decide) (by decide) o_a123).symm
            have ea8 := (frr_at fc131 (by decide) (by decide) o_v1).trans ea8
            have ea81 := (frr_at fc131 (by decide) (by decide) o_v1).trans ea81
            have ea115 := (frr_at fc131 (by decide) (by decide) o_v1).trans ea115
            have f0 := fri_tr (S := S119) g0 f0 fc131 (by decide) (by decide)
            have fL19 := fri_tr (S := S119) gL18 fL19 fc131 (by decide) (by decide)
            have fL89 := fri_tr (S := S119) gL88 fL89 fc131 (by decide) (by decide)
            have o_a10 := gr_ob g130 o_a10
            have o_a115 := gr_ob g130 o_a115
            have o_a116 := gr_ob g130 o_a116
            have o_a123 := gr_ob g130 o_a123
            have o_a8 := gr_ob g130 o_a8
            have o_a81 := gr_ob g130 o_a81
            have o_a83 := gr_ob g130 o_a83
            have o_v0 := gr_ob g130 o_v0
            have o_v1 := gr_ob g130 o_v1
            have o_v2 := gr_ob g130 o_v2
            have g0 := gr_tr (T := S119) g0 g130
            have gL18 := gr_tr (T := S119) gL18 g130
            have gL88 := gr_tr (T := S119) gL88 g130
            intro _
            intro x132 ex132
            exact ih110 _ _ _ _ _ _ _ _ _ _ _ ⟨hI, gL88, fL89, rfl, rfl, rfl, rfl, rfl, rfl, rfl, rfl, rfl, hM⟩ (mu_up (q357 p_x3 bb_x3 c7 q_x9 p_x12 bb_x12 c16 i1 r_x35 c36 ex82 dv_x82 ex85 r_x111 c112 ex127 ex132) (q358 p_x3 bb_x3 c7 q_x9 p_x12 bb_x12 c16 i1 r_x35 c36 ex82 dv_x82 ex85 r_x111 c112 ex127 ex132))
          · refine u_X7_price_134 ?_
            intro x133 ex133
            refine ⟨o_v0, ?_⟩
            refine m_X7_addLeg hI o_v0 o_a83 hM (fun S135 hI g136 fc137 p_S135 => ?_)
            obtain hM := p_S135
            have l_a8 := (gr_len g136 o_a8).trans l_a8
            have l_a81 := (gr_len g136 o_a81).trans l_a81
            have d_v3 := d_v3.trans (fri_at fc137 (by decide) (by decide) o_v0).symm
            have d_x9 := d_x9.trans (fri_at fc137 (by decide) (by decide) o_v0).symm
            have d_x35 := d_x35.trans (fri_at fc137 (by decide) (by decide) o_v1).symm
            have d_x86 := d_x86.trans (fri_at fc137 (by decide) (by decide) o_a10).symm
            have d_x111 := d_x111.trans (fri_at fc137 (by decide) (by decide) o_a10).symm
            have ea8 := (frr_at fc137 (by decide) (by decide) o_v1).trans ea8
            have ea81 := (frr_at fc137 (by decide) (by decide) o_v1).trans ea81
            have f0 := fri_tr (S := S87) g0 f0 fc137 (by decide) (by decide)
            have fL19 := fri_tr (S := S87) gL18 fL19 fc137 (by decide) (by decide)
            have fL89 := fri_tr (S := S87) gL88 fL89 fc137 (by decide) (by decide)
            have o_a10 := gr_ob g136 o_a10
            have o_a8 := gr_ob g136 o_a8
            have o_a81 := gr_ob g136 o_a81
            have o_a83 := gr_ob g136 o_a83
            have o_v0 := gr_ob g136 o_v0
            have o_v1 := gr_ob g136 o_v1
            have o_v2 := gr_ob g136 o_v2
            have g0 := gr_tr (T := S87) g0 g136
            have gL18 := gr_tr (T := S87) gL18 g136
            have gL88 := gr_tr (T := S87) gL88 g136
            intro _
            intro x138 ex138
            exact ih110 _ _ _ _ _ _ _ _ _ _ _ ⟨hI, gL88, fL89, rfl, rfl, rfl, rfl, rfl, rfl, rfl, rfl, rfl, hM⟩ (mu_up (q359 p_x3 bb_x3 c7 q_x9 p_x12 bb_x12 c16 i1 r_x35 c36 ex82 dv_x82 ex85 r_x111 c112 c114 ex133 ex138) (q360 p_x3 bb_x3 c7 q_x9 p_x12 bb_x12 c16 i1 r_x35 c36 ex82 dv_x82 ex85 r_x111 c112 c114 ex133 ex138))
    · refine u_X7_price_46 ?_
      refine i_X7_price_51 (fun (y0 : Nat) (y1 : Nat) (y2 : Nat) (y3 : Int32) (y4 : Nat) (y5 : Int32) (y6 : Int32) (Z : HS) => ((2147483647 : Int32).toInt - y6.toInt).toNat) (fun (y0 : Nat) (y1 : Nat) (y2 : Nat) (y3 : Int32) (y4 : Nat) (y5 : Int32) (y6 : Int32) (Z : HS) => (IV Z) ∧ (Gr (sI (sI S v0 9 v3) v0 3 (0 : Int32)) Z) ∧ (FRI [(7, 3)] [] (sI (sI S v0 9 v3) v0 3 (0 : Int32)) Z) ∧ (v0 = y0) ∧ (v1 = y1) ∧ (v2 = y2) ∧ (v3 = y3) ∧ (a10 = y4) ∧ ((1 : Int32) = y5) ∧ (WM Z v0) ∧ (0 ≤ y6)) ?_ _ _ _ _ _ _ _ _ ⟨hI, (gr_rf _), (fri_rf _ _ _), rfl, rfl, rfl, rfl, rfl, rfl, hM, (q361 p_x3 bb_x3 c7 q_x9 p_x12 bb_x12 c16)⟩
      intro w142 w144 w146 w148 w150 w152 w154 S139 X155 ⟨hI, gL140, fL141, q143, q145, q147, q149, q151, q153, hM, i1⟩ ih156
      subst q143
      subst q145
      subst q147
      subst q149
      subst q151
      subst q153
      have l_a8 := (gr_len gL140 o_a8).trans l_a8
      have d_v3 := d_v3.trans (fri_at fL141 (by decide) (by decide) o_v0).symm
      have d_x9 := d_x9.trans (fri_at fL141 (by decide) (by decide) o_v0).symm
      have ea8 := (frr_at fL141 (by decide) (by decide) o_v1).trans ea8
      have f0 := fri_tr (S := sI (sI S v0 9 v3) v0 3 (0 : Int32)) g0 f0 fL141 (by decide) (by decide)
      have o_a10 := gr_ob gL140 o_a10
      have o_a8 := gr_ob gL140 o_a8
      have o_v0 := gr_ob gL140 o_v0
      have o_v1 := gr_ob gL140 o_v1
      have o_v2 := gr_ob gL140 o_v2
      have g0 := gr_tr (T := sI (sI S v0 9 v3) v0 3 (0 : Int32)) g0 gL140
      refine u_X7_price_51 ?_
      refine ⟨o_v1, ?_⟩
      intro x157 ex157
      have r_x157 : (0 : Int32) ≤ x157 ∧ x157 ≤ (12 : Int32) := by rw [ex157]; exact nu 13 rfl hI o_v1
      have d_x157 := ex157
      refine ⟨fun c158 => ?_, fun c158 => ?_⟩
      · refine i_X7_price_179 (fun (y0 : Nat) (y1 : Nat) (y3 : Int32) (y4 : Nat) (y5 : Int32) (y6 : Int32) (Z : HS) => ((2147483647 : Int32).toInt - y6.toInt).toNat) (fun (y0 : Nat) (y1 : Nat) (y3 : Int32) (y4 : Nat) (y5 : Int32) (y6 : Int32) (Z : HS) => (IV Z) ∧ (Gr S139 Z) ∧ (FRI [(7, 3)] [] S139 Z) ∧ (v0 = y0) ∧ (v1 = y1) ∧ (v3 = y3) ∧ (a10 = y4) ∧ ((1 : Int32) = y5) ∧ (WM Z v0) ∧ (0 ≤ y6)) ?_ _ _ _ _ _ _ _ ⟨hI, (gr_rf _), (fri_rf _ _ _), rfl, rfl, rfl, rfl, rfl, hM, (q362 p_x3 bb_x3 c7 q_x9 p_x12 bb_x12 c16 i1 r_x157 c158)⟩
        intro w162 w164 w166 w168 w170 w172 S159 X173 ⟨hI, gL160, fL161, q163, q165, q167, q169, q171, hM, i1⟩ ih174
        subst q163
        subst q165
        subst q167
        subst q169
        subst q171
        have l_a8 := (gr_len gL160 o_a8).trans l_a8
        have d_v3 := d_v3.trans (fri_at fL161 (by decide) (by decide) o_v0).symm
        have d_x9 := d_x9.trans (fri_at fL161 (by decide) (by decide) o_v0).symm
        have d_x157 := d_x157.trans (fri_at fL161 (by decide) (by decide) o_v1).symm
        have ea8 := (frr_at fL161 (by decide) (by decide) o_v1).trans ea8
        have f0 := fri_tr (S := S139) g0 f0 fL161 (by decide) (by decide)
        have fL141 := fri_tr (S := S139) gL140 fL141 fL161 (by decide) (by decide)
        have o_a10 := gr_ob gL160 o_a10
        have o_a8 := gr_ob gL160 o_a8
        have o_v0 := gr_ob gL160 o_v0
        have o_v1 := gr_ob gL160 o_v1
        have o_v2 := gr_ob gL160 o_v2
        have g0 := gr_tr (T := S139) g0 gL160
        have gL140 := gr_tr (T := S139) gL140 gL160
        refine u_X7_price_179 ?_
        refine ⟨o_v1, ?_⟩
        intro x175 ex175
        have r_x175 : (0 : Int32) ≤ x175 ∧ x175 ≤ (8 : Int32) := by rw [ex175]; exact nu 12 rfl hI o_v1
        have d_x175 := ex175
        refine ⟨fun c176 => ?_, fun c176 => ?_⟩
        · exact hq _ hI g0 f0 hM
        · refine m_X8_canWait hI o_v1 (fun x177 S178 hI2 g179 b_x177 p_x177 => ?_)
          obtain ⟨z_S178, p_x177⟩ := p_x177
          subst z_S178
          intro _ _
          have bb_x177 : x177 = 0 ∨ x177 = 1 := b_x177
          refine ⟨fun c181 => ?_, fun c181 => ?_⟩
          · refine u_X7_price_245 ?_
            intro x182 ex182
            exact ih174 _ _ _ _ _ _ _ ⟨hI, gL160, fL161, rfl, rfl, rfl, rfl, rfl, hM, (q363 p_x3 bb_x3 c7 q_x9 p_x12 bb_x12 c16 i1 r_x157 c158 i1 r_x175 c176 p_x177 bb_x177 c181 ex182)⟩ (mu_up (q364 p_x3 bb_x3 c7 q_x9 p_x12 bb_x12 c16 i1 r_x157 c158 i1 r_x175 c176 p_x177 bb_x177 c181 ex182) (q365 p_x3 bb_x3 c7 q_x9 p_x12 bb_x12 c16 i1 r_x157 c158 i1 r_x175 c176 p_x177 bb_x177 c181 ex182))
          · refine ⟨fun c183 => ?_, fun c183 => ?_⟩
            · refine m_X8_dripOn hI o_v1 o_a10 (fun x184 S185 hI2 g186 p_x184 => ?_)
              subst p_x184
              intro _
              obtain ⟨a188, ea188, o_a188, l_a188⟩ := shl 15 rfl hI o_v1
              refine ⟨a188, ea188, ?_⟩
              refine ⟨o_a188, ?_⟩
              have i190 : vp_in v3 (hN _ a188) := (vin l_a188 (m := 6) (by decide) (q366 p_x3 bb_x3 c7 q_x9 p_x12 bb_x12 c16 i1 r_x157 c158 i1 r_x175 c176 p_x177 bb_x177 c181 c183))
              obtain ⟨a189, ea189, o_a189⟩ := ae hI o_a188 (by decide) (by decide) i190
              replace o_a189 : ob _ a189 3 := o_a189
              refine ⟨i190, a189, ea189, ?_⟩
              refine ⟨o_a189, ?_⟩
              intro x191 ex191
              have d_x191 := ex191
              refine u_X7_price_230 ?_
              intro x192 ex192
              refine ⟨o_v0, ?_⟩
              refine m_X7_addMove hI o_v0 hM (fun S194 hI g195 fc196 p_S194 => ?_)
              obtain hM := p_S194
              have l_a188 := (gr_len g195 o_a188).trans l_a188
              have l_a8 := (gr_len g195 o_a8).trans l_a8
              have d_v3 := d_v3.trans (fri_at fc196 (by decide) (by decide) o_v0).symm
              have d_x9 := d_x9.trans (fri_at fc196 (by decide) (by decide) o_v0).symm
              have d_x157 := d_x157.trans (fri_at fc196 (by decide) (by decide) o_v1).symm
              have d_x175 := d_x175.trans (fri_at fc196 (by decide) (by decide) o_v1).symm
              have d_x191 := d_x191.trans (fri_at fc196 (by decide) (by decide) o_a189).symm
              have ea8 := (frr_at fc196 (by decide) (by decide) o_v1).trans ea8
              have ea188 := (frr_at fc196 (by decide) (by decide) o_v1).trans ea188
              have f0 := fri_tr (S := S159) g0 f0 fc196 (by decide) (by decide)
              have fL141 := fri_tr (S := S159) gL140 fL141 fc196 (by decide) (by decide)
              have fL161 := fri_tr (S := S159) gL160 fL161 fc196 (by decide) (by decide)
              have o_a10 := gr_ob g195 o_a10
              have o_a188 := gr_ob g195 o_a188
              have o_a189 := gr_ob g195 o_a189
              have o_a8 := gr_ob g195 o_a8
              have o_v0 := gr_ob g195 o_v0
              have o_v1 := gr_ob g195 o_v1
              have o_v2 := gr_ob g195 o_v2
              have g0 := gr_tr (T := S159) g0 g195
              have gL140 := gr_tr (T := S159) gL140 g195
              have gL160 := gr_tr (T := S159) gL160 g195
              intro _
              refine u_X7_price_245 ?_
              intro x197 ex197
              exact ih174 _ _ _ _ _ _ _ ⟨hI, gL160, fL161, rfl, rfl, rfl, rfl, rfl, hM, (q367 p_x3 bb_x3 c7 q_x9 p_x12 bb_x12 c16 i1 r_x157 c158 i1 r_x175 c176 p_x177 bb_x177 c181 c183 ex197)⟩ (mu_up (q368 p_x3 bb_x3 c7 q_x9 p_x12 bb_x12 c16 i1 r_x157 c158 i1 r_x175 c176 p_x177 bb_x177 c181 c183 ex197) (q369 p_x3 bb_x3 c7 q_x9 p_x12 bb_x12 c16 i1 r_x157 c158 i1 r_x175 c176 p_x177 bb_x177 c181 c183 ex197))
            · refine u_X7_price_230 ?_
              refine ⟨o_v0, ?_⟩
              refine m_X7_addMove hI o_v0 hM (fun S199 hI g200 fc201 p_S199 => ?_)
              obtain hM := p_S199
              have l_a8 := (gr_len g200 o_a8).trans l_a8
              have d_v3 := d_v3.trans (fri_at fc201 (by decide) (by decide) o_v0).symm
              have d_x9 := d_x9.trans (fri_at fc201 (by decide) (by decide) o_v0).symm
              have d_x157 := d_x157.trans (fri_at fc201 (by decide) (by decide) o_v1).symm
              have d_x175 := d_x175.trans (fri_at fc201 (by decide) (by decide) o_v1).symm
              have ea8 := (frr_at fc201 (by decide) (by decide) o_v1).trans ea8
              have f0 := fri_tr (S := S159) g0 f0 fc201 (by decide) (by decide)
              have fL141 := fri_tr (S := S159) gL140 fL141 fc201 (by decide) (by decide)
              have fL161 := fri_tr (S := S159) gL160 fL161 fc201 (by decide) (by decide)
              have o_a10 := gr_ob g200 o_a10
              have o_a8 := gr_ob g200 o_a8
              have o_v0 := gr_ob g200 o_v0
              have o_v1 := gr_ob g200 o_v1
              have o_v2 := gr_ob g200 o_v2
              have g0 := gr_tr (T := S159) g0 g200
              have gL140 := gr_tr (T := S159) gL140 g200
              have gL160 := gr_tr (T := S159) gL160 g200
              intro _
              refine u_X7_price_245 ?_
              intro x202 ex202
              exact ih174 _ _ _ _ _ _ _ ⟨hI, gL160, fL161, rfl, rfl, rfl, rfl, rfl, hM, (q370 p_x3 bb_x3 c7 q_x9 p_x12 bb_x12 c16 i1 r_x157 c158 i1 r_x175 c176 p_x177 bb_x177 c181 ex202)⟩ (mu_up (q371 p_x3 bb_x3 c7 q_x9 p_x12 bb_x12 c16 i1 r_x157 c158 i1 r_x175 c176 p_x177 bb_x177 c181 ex202) (q372 p_x3 bb_x3 c7 q_x9 p_x12 bb_x12 c16 i1 r_x157 c158 i1 r_x175 c176 p_x177 bb_x177 c181 ex202))
      · obtain ⟨a203, ea203, o_a203, l_a203⟩ := shl 17 rfl hI o_v1
        refine ⟨a203, ea203, ?_⟩
        intro x204 ex204
        have dv_x204 : 0 ≤ x204 ∧ x204 < (12 : Int32) := by rw [ex204]; exact dvl (k := 12) (m := 24) (q373 p_x3 bb_x3 c7 q_x9 p_x12 bb_x12 c16 i1 r_x157 c158 ex204) (q374 p_x3 bb_x3 c7 q_x9 p_x12 bb_x12 c16 i1 r_x157 c158 ex204) (by decide) (by decide)
        refine ⟨o_a203, ?_⟩
        have i206 : vp_in x204 (hN _ a203) := (vin l_a203 (m := 12) (by decide) (q375 p_x3 bb_x3 c7 q_x9 p_x12 bb_x12 c16 i1 r_x157 c158 ex204 dv_x204))
        obtain ⟨a205, ea205, o_a205⟩ := ae hI o_a203 (by decide) (by decide) i206
        replace o_a205 : ob _ a205 5 := o_a205
        refine ⟨i206, a205, ea205, ?_⟩
        intro x207 ex207
        refine ⟨o_a10, ?_⟩
        intro x208 ex208
        have r_x208 : (0 : Int32) ≤ x208 ∧ x208 ≤ (9 : Int32) := by rw [ex208]; exact nu 4 rfl hI o_a10
        have d_x208 := ex208
        refine i_X7_price_86 (fun (y0 : Nat) (y1 : Nat) (y2 : Nat) (y3 : Int32) (y4 : Nat) (y5 : Int32) (y6 : Int32) (y7 : Nat) (y8 : Int32) (y9 : Int32) (Z : HS) => ((2147483647 : Int32).toInt - y9.toInt).toNat) (fun (y0 : Nat) (y1 : Nat) (y2 : Nat) (y3 : Int32) (y4 : Nat) (y5 : Int32) (y6 : Int32) (y7 : Nat) (y8 : Int32) (y9 : Int32) (Z : HS) => (IV Z) ∧ (Gr S139 Z) ∧ (FRI [(7, 3)] [] S139 Z) ∧ (v0 = y0) ∧ (v1 = y1) ∧ (v2 = y2) ∧ (v3 = y3) ∧ (a10 = y4) ∧ ((1 : Int32) = y5) ∧ (w154 = y6) ∧ (a205 = y7) ∧ (x207 = y8) ∧ (WM Z v0)) ?_ _ _ _ _ _ _ _ _ _ _ _ ⟨hI, (gr_rf _), (fri_rf _ _ _), rfl, rfl, rfl, rfl, rfl, rfl, rfl, rfl, rfl, hM⟩
        intro w212 w214 w216 w218 w220 w222 w224 w226 w228 w230 S209 X231 ⟨hI, gL210, fL211, q213, q215, q217, q219, q221, q223, q225, q227, q229, hM⟩ ih232
        subst q213
        subst q215
        subst q217
        subst q219
        subst q221
        subst q223
        subst q225
        subst q227
        subst q229
        have l_a203 := (gr_len gL210 o_a203).trans l_a203
        have l_a8 := (gr_len gL210 o_a8).trans l_a8
        have d_v3 := d_v3.trans (fri_at fL211 (by decide) (by decide) o_v0).symm
        have d_x9 := d_x9.trans (fri_at fL211 (by decide) (by decide) o_v0).symm
        have d_x157 := d_x157.trans (fri_at fL211 (by decide) (by decide) o_v1).symm
        have d_x208 := d_x208.trans (fri_at fL211 (by decide) (by decide) o_a10).symm
        have ea8 := (frr_at fL211 (by decide) (by decide) o_v1).trans ea8
        have ea203 := (frr_at fL211 (by decide) (by decide) o_v1).trans ea203
        have f0 := fri_tr (S := S139) g0 f0 fL211 (by decide) (by decide)
        have fL141 := fri_tr (S := S139) gL140 fL141 fL211 (by decide) (by decide)
        have o_a10 := gr_ob gL210 o_a10
        have o_a203 := gr_ob gL210 o_a203
        have o_a205 := gr_ob gL210 o_a205
        have o_a8 := gr_ob gL210 o_a8
        have o_v0 := gr_ob gL210 o_v0
        have o_v1 := gr_ob gL210 o_v1
        have o_v2 := gr_ob gL210 o_v2
        have g0 := gr_tr (T := S139) g0 gL210
        have gL140 := gr_tr (T := S139) gL140 gL210
        refine u_X7_price_86 ?_
        refine ⟨o_a10, ?_⟩
        intro x233 ex233
        have r_x233 : (0 : Int32) ≤ x233 ∧ x233 ≤ (9 : Int32) := by rw [ex233]; exact nu 5 rfl hI o_a10
        have d_x233 := ex233
        refine ⟨fun c234 => ?_, fun c234 => ?_⟩
        · intro x235 ex235
          exact ih156 _ _ _ _ _ _ _ _ ⟨hI, gL140, fL141, rfl, rfl, rfl, rfl, rfl, rfl, hM, (q376 p_x3 bb_x3 c7 q_x9 p_x12 bb_x12 c16 i1 r_x157 c158 ex204 dv_x204 ex207 r_x233 c234 ex235)⟩ (mu_up (q377 p_x3 bb_x3 c7 q_x9 p_x12 bb_x12 c16 i1 r_x157 c158 ex204 dv_x204 ex207 r_x233 c234 ex235) (q378 p_x3 bb_x3 c7 q_x9 p_x12 bb_x12 c16 i1 r_x157 c158 ex204 dv_x204 ex207 r_x233 c234 ex235))
        · refine ⟨fun c236 => ?_, fun c236 => ?_⟩
          · refine ⟨o_v1, ?_⟩
            obtain ⟨a237, ea237, o_a237, l_a237⟩ := shl 15 rfl hI o_v1
            refine ⟨a237, ea237, ?_⟩
            refine ⟨o_a237, ?_⟩
            have i239 : vp_in v3 (hN _ a237) := (vin l_a237 (m := 6) (by decide) (q379 p_x3 bb_x3 c7 q_x9 p_x12 bb_x12 c16 i1 r_x157 c158 ex204 dv_x204 ex207 r_x233 c234 c236))
            obtain ⟨a238, ea238, o_a238⟩ := ae hI o_a237 (by decide) (by decide) i239
            replace o_a238 : ob _ a238 3 := o_a238
            refine ⟨i239, a238, ea238, ?_⟩
            refine ⟨o_v2, ?_⟩
            refine m_X1_wetOf hI o_v2 o_a10 o_a205 o_a238 (fun x240 S241 hI g242 fc243 => ?_)
            have l_a203 := (gr_len g242 o_a203).trans l_a203
            have l_a237 := (gr_len g242 o_a237).trans l_a237
            have l_a8 := (gr_len g242 o_a8).trans l_a8
            have d_v3 := d_v3.trans (fri_at fc243 (by decide) (by decide) o_v0).symm
            have d_x9 := d_x9.trans (fri_at fc243 (by decide) (by decide) o_v0).symm
            have d_x157 := d_x157.trans (fri_at fc243 (by decide) (by decide) o_v1).symm
            have d_x208 := d_x208.trans (fri_at fc243 (by decide) (by decide) o_a10).symm
            have d_x233 := d_x233.trans (fri_at fc243 (by decide) (by decide) o_a10).symm
            have ea8 := (frr_at fc243 (by decide) (by decide) o_v1).trans ea8
            have ea203 := (frr_at fc243 (by decide) (by decide) o_v1).trans ea203
            have ea237 := (frr_at fc243 (by decide) (by decide) o_v1).trans ea237
            have f0 := fri_tr (S := S209) g0 f0 fc243 (by decide) (by decide)
            have fL141 := fri_tr (S := S209) gL140 fL141 fc243 (by decide) (by decide)
            have fL211 := fri_tr (S := S209) gL210 fL211 fc243 (by decide) (by decide)
            have o_a10 := gr_ob g242 o_a10
            have o_a203 := gr_ob g242 o_a203
            have o_a205 := gr_ob g242 o_a205
            have o_a237 := gr_ob g242 o_a237
            have o_a238 := gr_ob g242 o_a238
            have o_a8 := gr_ob g242 o_a8
            have o_v0 := gr_ob g242 o_v0
            have o_v1 := gr_ob g242 o_v1
            have o_v2 := gr_ob g242 o_v2
            have g0 := gr_tr (T := S209) g0 g242
            have gL140 := gr_tr (T := S209) gL140 g242
            have gL210 := gr_tr (T := S209) gL210 g242
            intro _
            refine ⟨a237, ea237, ?_⟩
            refine ⟨o_a237, ?_⟩
            have i246 : vp_in v3 (hN _ a237) := (vin l_a237 (m := 6) (by decide) (q379 p_x3 bb_x3 c7 q_x9 p_x12 bb_x12 c16 i1 r_x157 c158 ex204 dv_x204 ex207 r_x233 c234 c236))
            obtain ⟨a245, ea245, o_a245⟩ := ae hI o_a237 (by decide) (by decide) i246
            replace o_a245 : ob _ a245 3 := o_a245
            refine ⟨i246, a245, ea245, ?_⟩
            refine ⟨o_a245, ?_⟩
            intro x247 ex247
            have d_x247 := ex247
            refine u_X7_price_134 ?_
            intro x248 ex248
            intro x249 ex249
            refine ⟨o_v0, ?_⟩
            refine m_X7_addLeg hI o_v0 o_a205 hM (fun S251 hI g252 fc253 p_S251 => ?_)
            obtain hM := p_S251
            have l_a203 := (gr_len g252 o_a203).trans l_a203
            have l_a237 := (gr_len g252 o_a237).trans l_a237
            have l_a8 := (gr_len g252 o_a8).trans l_a8
            have d_v3 := d_v3.trans (fri_at fc253 (by decide) (by decide) o_v0).symm
            have d_x9 := d_x9.trans (fri_at fc253 (by decide) (by decide) o_v0).symm
            have d_x157 := d_x157.trans (fri_at fc253 (by decide) (by decide) o_v1).symm
            have d_x208 := d_x208.trans (fri_at fc253 (by decide) (by decide) o_a10).symm
            have d_x233 := d_x233.trans (fri_at fc253 (by decide) (by decide) o_a10).symm
            have d_x247 := d_x247.trans (fri_at fc253 (by decide) (by decide) o_a245).symm
            have ea8 := (frr_at fc253 (by decide) (by decide) o_v1).trans ea8
            have ea203 := (frr_at fc253 (by decide) (by decide) o_v1).trans ea203
            have ea237 := (frr_at fc253 (by decide) (by decide) o_v1).trans ea237
            have f0 := fri_tr (S := S241) g0 f0 fc253 (by decide) (by decide)
            have fL141 := fri_tr (S := S241) gL140 fL141 fc253 (by decide) (by decide)
            have fL211 := fri_tr (S := S241) gL210 fL211 fc253 (by decide) (by decide)
            have o_a10 := gr_ob g252 o_a10
            have o_a203 := gr_ob g252 o_a203
            have o_a205 := gr_ob g252 o_a205
            have o_a237 := gr_ob g252 o_a237
            have o_a238 := gr_ob g252 o_a238
            have o_a245 := gr_ob g252 o_a245
            have o_a8 := gr_ob g252 o_a8
            have o_v0 := gr_ob g252 o_v0
            have o_v1 := gr_ob g252 o_v1
            have o_v2 := gr_ob g252 o_v2
            have g0 := gr_tr (T := S241) g0 g252
            have gL140 := gr_tr (T := S241) gL140 g252
            have gL210 := gr_tr (T := S241) gL210 g252
            intro _
            intro x254 ex254
            exact ih232 _ _ _ _ _ _ _ _ _ _ _ ⟨hI, gL210, fL211, rfl, rfl, rfl, rfl, rfl, rfl, rfl, rfl, rfl, hM⟩ (mu_up (q380 p_x3 bb_x3 c7 q_x9 p_x12 bb_x12 c16 i1 r_x157 c158 ex204 dv_x204 ex207 r_x233 c234 c236 ex249 ex254) (q381 p_x3 bb_x3 c7 q_x9 p_x12 bb_x12 c16 i1 r_x157 c158 ex204 dv_x204 ex207 r_x233 c234 c236 ex249 ex254))
          · refine u_X7_price_134 ?_
            intro x255 ex255
            refine ⟨o_v0, ?_⟩
            refine m_X7_addLeg hI o_v0 o_a205 hM (fun S257 hI g258 fc259 p_S257 => ?_)
            obtain hM := p_S257
            have l_a203 := (gr_len g258 o_a203).trans l_a203
            have l_a8 := (gr_len g258 o_a8).trans l_a8
            have d_v3 := d_v3.trans (fri_at fc259 (by decide) (by decide) o_v0).symm
            have d_x9 := d_x9.trans (fri_at fc259 (by decide) (by decide) o_v0).symm
            have d_x157 := d_x157.trans (fri_at fc259 (by decide) (by decide) o_v1).symm
            have d_x208 := d_x208.trans (fri_at fc259 (by decide) (by decide) o_a10).symm
            have d_x233 := d_x233.trans (fri_at fc259 (by decide) (by decide) o_a10).symm
            have ea8 := (frr_at fc259 (by decide) (by decide) o_v1).trans ea8
            have ea203 := (frr_at fc259 (by decide) (by decide) o_v1).trans ea203
            have f0 := fri_tr (S := S209) g0 f0 fc259 (by decide) (by decide)
            have fL141 := fri_tr (S := S209) gL140 fL141 fc259 (by decide) (by decide)
            have fL211 := fri_tr (S := S209) gL210 fL211 fc259 (by decide) (by decide)
            have o_a10 := gr_ob g258 o_a10
            have o_a203 := gr_ob g258 o_a203
            have o_a205 := gr_ob g258 o_a205
            have o_a8 := gr_ob g258 o_a8
            have o_v0 := gr_ob g258 o_v0
            have o_v1 := gr_ob g258 o_v1
            have o_v2 := gr_ob g258 o_v2
            have g0 := gr_tr (T := S209) g0 g258
            have gL140 := gr_tr (T := S209) gL140 g258
            have gL210 := gr_tr (T := S209) gL210 g258
            intro _
            intro x260 ex260
            exact ih232 _ _ _ _ _ _ _ _ _ _ _ ⟨hI, gL210, fL211, rfl, rfl, rfl, rfl, rfl, rfl, rfl, rfl, rfl, hM⟩ (mu_up (q382 p_x3 bb_x3 c7 q_x9 p_x12 bb_x12 c16 i1 r_x157 c158 ex204 dv_x204 ex207 r_x233 c234 ex255 ex260) (q383 p_x3 bb_x3 c7 q_x9 p_x12 bb_x12 c16 i1 r_x157 c158 ex204 dv_x204 ex207 r_x233 c234 ex255 ex260))
  · exact hq _ hI g0 f0 hM
