set_option maxHeartbeats 4000000 in
set_option maxRecDepth 20000 in
theorem m_X1_legsOf {v0 : Nat} {Q : Int32 → HS → Prop} {S : HS} (hI : IV S) (o_v0 : ob S v0 8)     (hq : ∀ (r : Int32) (T : HS), IV T → Gr S T → (S = T) → Q r T) : P_X1_legsOf v0 Q S := by
  have g0 := gr_rf S
  refine u_X1_legsOf ?_
  refine u_X1_legsOf_0 ?_
  refine ⟨o_v0, ?_⟩
  intro x1 ex1
  have r_x1 : (0 : Int32) ≤ x1 ∧ x1 ≤ (12 : Int32) := by rw [ex1]; exact nu 13 rfl hI o_v0
  have d_x1 := ex1
  intro x2 ex2
  have r_x2 : (0 : Int32) ≤ x2 ∧ x2 ≤ (6 : Int32) := by rw [ex2]; exact nu 11 rfl hI o_v0
  have d_x2 := ex2
  exact hq _ _ hI g0 rfl
set_option maxHeartbeats 4000000 in
set_option maxRecDepth 20000 in
theorem m_X6_canGo {v0 : Nat} {v1 : Int32} {Q : Int32 → HS → Prop} {S : HS} (hI : IV S) (o_v0 : ob S v0 6)     (hq : ∀ (r : Int32) (T : HS), IV T → Gr S T → bl r → (S = T) → Q r T) : P_X6_canGo v0 v1 Q S := by
  have g0 := gr_rf S
  refine u_X6_canGo ?_
  refine u_X6_canGo_0 ?_
  refine ⟨o_v0, ?_⟩
  intro x1 ex1
  have r_x1 : (0 : Int32) ≤ x1 ∧ x1 ≤ (9 : Int32) := by rw [ex1]; exact nu 4 rfl hI o_v0
  have d_x1 := ex1
  refine ⟨fun c2 => ?_, fun c2 => ?_⟩
  · exact hq _ _ hI g0 (Or.inl rfl) rfl
  · intro x3 ex3
    have r_x3 : (0 : Int32) ≤ x3 ∧ x3 ≤ (9 : Int32) := by rw [ex3]; exact nu 5 rfl hI o_v0
    have d_x3 := ex3
    refine ⟨fun c4 => ?_, fun c4 => ?_⟩
    · exact hq _ _ hI g0 (Or.inl rfl) rfl
    · refine ⟨fun c5 => ?_, fun c5 => ?_⟩
      · exact hq _ _ hI g0 (Or.inl rfl) rfl
      · refine ⟨fun c6 => ?_, fun c6 => ?_⟩
        · exact hq _ _ hI g0 (Or.inl rfl) rfl
        · exact hq _ _ hI g0 (Or.inr rfl) rfl
set_option maxHeartbeats 4000000 in
set_option maxRecDepth 20000 in
theorem m_X8_hasRoad {v0 : Nat} {v1 : Int32} {Q : Int32 → HS → Prop} {S : HS} (hI : IV S) (o_v0 : ob S v0 8)     (hq : ∀ (r : Int32) (T : HS), IV T → Gr S T → bl r → (S = T) ∧ (r = 1 → 0 ≤ v1 ∧ v1 < 12) → Q r T) : P_X8_hasRoad v0 v1 Q S := by
  have g0 := gr_rf S
  refine u_X8_hasRoad ?_
  refine u_X8_hasRoad_0 ?_
  refine ⟨fun c1 => ?_, fun c1 => ?_⟩
  · exact hq _ _ hI g0 (Or.inl rfl) ⟨rfl, (q23 c1)⟩
  · refine ⟨o_v0, ?_⟩
    intro x2 ex2
    have r_x2 : (0 : Int32) ≤ x2 ∧ x2 ≤ (12 : Int32) := by rw [ex2]; exact nu 13 rfl hI o_v0
    have d_x2 := ex2
    refine ⟨fun c3 => ?_, fun c3 => ?_⟩
    · exact hq _ _ hI g0 (Or.inl rfl) ⟨rfl, (q24 c1 r_x2 c3)⟩
    · obtain ⟨a4, ea4, o_a4, l_a4⟩ := shl 17 rfl hI o_v0
      refine ⟨a4, ea4, ?_⟩
      refine ⟨o_a4, ?_⟩
      have n_a4 : nI (hN S a4) = 12 := by rw [show hN S a4 = 12 from l_a4]; decide
      refine ⟨fun c5 => ?_, fun c5 => ?_⟩
      · rw [n_a4] at c5
        exact hq _ _ hI g0 (Or.inl rfl) ⟨rfl, (q25 c1 r_x2 c3 c5)⟩
      · rw [n_a4] at c5
        exact hq _ _ hI g0 (Or.inr rfl) ⟨rfl, (q26 c1 r_x2 c3 c5)⟩
set_option maxHeartbeats 4000000 in
set_option maxRecDepth 20000 in
theorem m_X8_hasSeen {v0 : Nat} {v1 : Int32} {Q : Int32 → HS → Prop} {S : HS} (hI : IV S) (o_v0 : ob S v0 8)     (hq : ∀ (r : Int32) (T : HS), IV T → Gr S T → bl r → (S = T) ∧ (r = 1 → 0 ≤ v1 ∧ v1 < 4) → Q r T) : P_X8_hasSeen v0 v1 Q S := by
  have g0 := gr_rf S
  refine u_X8_hasSeen ?_
  refine u_X8_hasSeen_0 ?_
  refine ⟨fun c1 => ?_, fun c1 => ?_⟩
  · exact hq _ _ hI g0 (Or.inl rfl) ⟨rfl, (q19 c1)⟩
  · refine ⟨o_v0, ?_⟩
    intro x2 ex2
    have r_x2 : (0 : Int32) ≤ x2 ∧ x2 ≤ (4 : Int32) := by rw [ex2]; exact nu 15 rfl hI o_v0
    have d_x2 := ex2
    refine ⟨fun c3 => ?_, fun c3 => ?_⟩
    · exact hq _ _ hI g0 (Or.inl rfl) ⟨rfl, (q20 c1 r_x2 c3)⟩
    · obtain ⟨a4, ea4, o_a4, l_a4⟩ := shl 19 rfl hI o_v0
      refine ⟨a4, ea4, ?_⟩
      refine ⟨o_a4, ?_⟩
      have n_a4 : nI (hN S a4) = 4 := by rw [show hN S a4 = 4 from l_a4]; decide
      refine ⟨fun c5 => ?_, fun c5 => ?_⟩
      · rw [n_a4] at c5
        exact hq _ _ hI g0 (Or.inl rfl) ⟨rfl, (q21 c1 r_x2 c3 c5)⟩
      · rw [n_a4] at c5
        exact hq _ _ hI g0 (Or.inr rfl) ⟨rfl, (q22 c1 r_x2 c3 c5)⟩
set_option maxHeartbeats 4000000 in
set_option maxRecDepth 20000 in
theorem m_X8_hasWalker {v0 : Nat} {v1 : Int32} {Q : Int32 → HS → Prop} {S : HS} (hI : IV S) (o_v0 : ob S v0 8)     (hq : ∀ (r : Int32) (T : HS), IV T → Gr S T → bl r → (S = T) ∧ (r = 1 → 0 ≤ v1 ∧ v1 < 4) → Q r T) : P_X8_hasWalker v0 v1 Q S := by
  have g0 := gr_rf S
  refine u_X8_hasWalker ?_
  refine u_X8_hasWalker_0 ?_
  refine ⟨fun c1 => ?_, fun c1 => ?_⟩
  · exact hq _ _ hI g0 (Or.inl rfl) ⟨rfl, (q19 c1)⟩
  · refine ⟨o_v0, ?_⟩
    intro x2 ex2
    have r_x2 : (0 : Int32) ≤ x2 ∧ x2 ≤ (4 : Int32) := by rw [ex2]; exact nu 14 rfl hI o_v0
    have d_x2 := ex2
    refine ⟨fun c3 => ?_, fun c3 => ?_⟩
    · exact hq _ _ hI g0 (Or.inl rfl) ⟨rfl, (q20 c1 r_x2 c3)⟩
    · obtain ⟨a4, ea4, o_a4, l_a4⟩ := shl 18 rfl hI o_v0
      refine ⟨a4, ea4, ?_⟩
      refine ⟨o_a4, ?_⟩
      have n_a4 : nI (hN S a4) = 4 := by rw [show hN S a4 = 4 from l_a4]; decide
      refine ⟨fun c5 => ?_, fun c5 => ?_⟩
      · rw [n_a4] at c5
        exact hq _ _ hI g0 (Or.inl rfl) ⟨rfl, (q21 c1 r_x2 c3 c5)⟩
      · rw [n_a4] at c5
        exact hq _ _ hI g0 (Or.inr rfl) ⟨rfl, (q22 c1 r_x2 c3 c5)⟩
set_option maxHeartbeats 4000000 in
set_option maxRecDepth 20000 in
theorem m_X1_fitCode {v0 : Nat} {v1 : Nat} {v2 : Int32} {v3 : Int32} {Q : Int32 → HS → Prop} {S : HS} (hI : IV S) (o_v0 : ob S v0 1) (o_v1 : ob S v1 8)     (hq : ∀ (r : Int32) (T : HS), IV T → Gr S T → FRI [] [] S T → Q r T) : P_X1_fitCode v0 v1 v2 v3 Q S := by
  have g0 := gr_rf S
  have f0 := fri_rf [] [] S
  refine u_X1_fitCode ?_
  refine u_X1_fitCode_0 ?_
  refine ⟨fun c1 => ?_, fun c1 => ?_⟩
  · exact hq _ _ hI g0 f0
  · refine u_X1_legsOf ?_
    refine u_X1_legsOf_0 ?_
    refine ⟨o_v1, ?_⟩
    intro x2 ex2
    have r_x2 : (0 : Int32) ≤ x2 ∧ x2 ≤ (12 : Int32) := by rw [ex2]; exact nu 13 rfl hI o_v1
    have d_x2 := ex2
    intro x3 ex3
    have r_x3 : (0 : Int32) ≤ x3 ∧ x3 ≤ (6 : Int32) := by rw [ex3]; exact nu 11 rfl hI o_v1
    have d_x3 := ex3
    intro _
    refine ⟨fun c4 => ?_, fun c4 => ?_⟩
    · exact hq _ _ hI g0 f0
    · refine ⟨o_v1, ?_⟩
      refine m_X8_hasSeen hI o_v1 (fun x5 S6 hI2 g7 b_x5 p_x5 => ?_)
      obtain ⟨z_S6, p_x5⟩ := p_x5
      subst z_S6
      intro _ _
      have bb_x5 : x5 = 0 ∨ x5 = 1 := b_x5
      refine ⟨fun c9 => ?_, fun c9 => ?_⟩
      · exact hq _ _ hI g0 f0
      · intro x10 ex10
        have r_x10 : (0 : Int32) ≤ x10 ∧ x10 ≤ (6 : Int32) := by rw [ex10]; exact nu 11 rfl hI o_v1
        have q_x10 : x10 = x3 := ex10.trans d_x3.symm
        have d_x10 := ex10
        refine ⟨fun c11 => ?_, fun c11 => ?_⟩
        · intro x12 ex12
          intro x13 ex13
          intro x14 ex14
          have dv_x14 : 0 ≤ x14 ∧ x14 ≤ v3 := by rw [ex14]; exact dv0 (q1328 c1 r_x2 r_x3 c4 p_x5 bb_x5 c9 r_x10 q_x10 c11 ex12 ex13 ex14) (by decide)
          intro x15 ex15
          have r_x15 : (0 : Int32) ≤ x15 ∧ x15 ≤ (6 : Int32) := by rw [ex15]; exact nu 11 rfl hI o_v1
          have q_x15 : x15 = x10 := ex15.trans d_x10.symm
          have d_x15 := ex15
          refine ⟨(q1329 c1 r_x2 r_x3 c4 p_x5 bb_x5 c9 r_x10 q_x10 c11 ex12 ex13 ex14 dv_x14 r_x15 q_x15), ?_⟩
          intro x16 ex16
          have dv_x16 : 0 ≤ x16 ∧ x16 < x15 := by rw [ex16]; exact rm_rng (q1330 c1 r_x2 r_x3 c4 p_x5 bb_x5 c9 r_x10 q_x10 c11 ex12 ex13 ex14 dv_x14 r_x15 q_x15 ex16) (q1331 c1 r_x2 r_x3 c4 p_x5 bb_x5 c9 r_x10 q_x10 c11 ex12 ex13 ex14 dv_x14 r_x15 q_x15 ex16)
          intro x17 ex17
          intro x18 ex18
          have r_x18 : (0 : Int32) ≤ x18 ∧ x18 ≤ (6 : Int32) := by rw [ex18]; exact nu 11 rfl hI o_v1
          have q_x18 : x18 = x15 := ex18.trans d_x15.symm
          have d_x18 := ex18
          refine ⟨(q1332 c1 r_x2 r_x3 c4 p_x5 bb_x5 c9 r_x10 q_x10 c11 ex12 ex13 ex14 dv_x14 r_x15 q_x15 ex16 dv_x16 ex17 r_x18 q_x18), ?_⟩
          intro x19 ex19
          obtain ⟨a20, ea20, o_a20, l_a20⟩ := shl 19 rfl hI o_v1
          refine ⟨a20, ea20, ?_⟩
          refine ⟨o_a20, ?_⟩
          refine ⟨(vin l_a20 (m := 4) (by decide) (q1333 c1 r_x2 r_x3 c4 p_x5 bb_x5 c9 r_x10 q_x10 c11 ex12 ex13 ex14 dv_x14 r_x15 q_x15 ex16 dv_x16 ex17 r_x18 q_x18 ex19)), ?_⟩
          intro x21 ex21
          refine m_X8_hasWalker hI o_v1 (fun x22 S23 hI2 g24 b_x22 p_x22 => ?_)
          obtain ⟨z_S23, p_x22⟩ := p_x22
          subst z_S23
          intro _ _
          have bb_x22 : x22 = 0 ∨ x22 = 1 := b_x22
          refine ⟨fun c26 => ?_, fun c26 => ?_⟩
          · exact hq _ _ hI g0 f0
          · intro x27 ex27
            refine m_X8_hasRoad hI o_v1 (fun x28 S29 hI2 g30 b_x28 p_x28 => ?_)
            obtain ⟨z_S29, p_x28⟩ := p_x28
            subst z_S29
            intro _ _
            have bb_x28 : x28 = 0 ∨ x28 = 1 := b_x28
            refine ⟨fun c32 => ?_, fun c32 => ?_⟩
            · exact hq _ _ hI g0 f0
            · obtain ⟨a33, ea33, o_a33, l_a33⟩ := shl 18 rfl hI o_v1
              refine ⟨a33, ea33, ?_⟩
              refine ⟨o_a33, ?_⟩
              have i35 : vp_in x21 (hN _ a33) := (vin l_a33 (m := 4) (by decide) (q1334 c1 r_x2 r_x3 c4 p_x5 bb_x5 c9 r_x10 q_x10 c11 ex12 ex13 ex14 dv_x14 r_x15 q_x15 ex16 dv_x16 ex17 r_x18 q_x18 ex19 p_x22 bb_x22 c26 ex27 p_x28 bb_x28 c32))
              obtain ⟨a34, ea34, o_a34⟩ := ae hI o_a33 (by decide) (by decide) i35
              replace o_a34 : ob _ a34 6 := o_a34
              refine ⟨i35, a34, ea34, ?_⟩
              refine ⟨o_a34, ?_⟩
              refine m_X6_canGo hI o_a34 (fun x36 S37 hI2 g38 b_x36 p_x36 => ?_)
              subst p_x36
              intro _ _
              have bb_x36 : x36 = 0 ∨ x36 = 1 := b_x36
              refine ⟨fun c40 => ?_, fun c40 => ?_⟩
              · refine ⟨a33, ea33, ?_⟩
                refine ⟨o_a33, ?_⟩
                have i43 : vp_in x21 (hN _ a33) := (vin l_a33 (m := 4) (by decide) (q1335 c1 r_x2 r_x3 c4 p_x5 bb_x5 c9 r_x10 q_x10 c11 ex12 ex13 ex14 dv_x14 r_x15 q_x15 ex16 dv_x16 ex17 r_x18 q_x18 ex19 p_x22 bb_x22 c26 ex27 p_x28 bb_x28 c32 bb_x36 c40))
                obtain ⟨a42, ea42, o_a42⟩ := ae hI o_a33 (by decide) (by decide) i43
                replace o_a42 : ob _ a42 6 := o_a42
                refine ⟨i43, a42, ea42, ?_⟩
                obtain ⟨a44, ea44, o_a44, l_a44⟩ := shl 17 rfl hI o_v1
                refine ⟨a44, ea44, ?_⟩
                intro x45 ex45
                refine ⟨o_a44, ?_⟩
                have i47 : vp_in x45 (hN _ a44) := (vin l_a44 (m := 12) (by decide) (q1336 c1 r_x2 r_x3 c4 p_x5 bb_x5 c9 r_x10 q_x10 c11 ex12 ex13 ex14 dv_x14 r_x15 q_x15 ex16 dv_x16 ex17 r_x18 q_x18 ex19 p_x22 bb_x22 c26 ex27 p_x28 bb_x28 c32 bb_x36 c40 ex45))
                obtain ⟨a46, ea46, o_a46⟩ := ae hI o_a44 (by decide) (by decide) i47
                replace o_a46 : ob _ a46 5 := o_a46
                refine ⟨i47, a46, ea46, ?_⟩
                intro x48 ex48
                obtain ⟨a49, ea49, o_a49, l_a49⟩ := shl 15 rfl hI o_v1
                refine ⟨a49, ea49, ?_⟩
                refine ⟨o_a49, ?_⟩
                have i51 : vp_in x16 (hN _ a49) := (vin l_a49 (m := 6) (by decide) (q1337 c1 r_x2 r_x3 c4 p_x5 bb_x5 c9 r_x10 q_x10 c11 ex12 ex13 ex14 dv_x14 r_x15 q_x15 ex16 dv_x16 ex17 r_x18 q_x18 ex19 p_x22 bb_x22 c26 ex27 p_x28 bb_x28 c32 bb_x36 c40 ex45 ex48))
                obtain ⟨a50, ea50, o_a50⟩ := ae hI o_a49 (by decide) (by decide) i51
                replace o_a50 : ob _ a50 3 := o_a50
                refine ⟨i51, a50, ea50, ?_⟩
                refine ⟨o_v0, ?_⟩
                refine m_X1_wetOf hI o_v0 o_a42 o_a46 o_a50 (fun x52 S53 hI g54 fc55 => ?_)
                have l_a20 := (gr_len g54 o_a20).trans l_a20
                have l_a33 := (gr_len g54 o_a33).trans l_a33
                have l_a44 := (gr_len g54 o_a44).trans l_a44
                have l_a49 := (gr_len g54 o_a49).trans l_a49
                have d_x2 := d_x2.trans (fri_at fc55 (by decide) (by decide) o_v1).symm
                have d_x18 := d_x18.trans (fri_at fc55 (by decide) (by decide) o_v1).symm
                have ea20 := (frr_at fc55 (by decide) (by decide) o_v1).trans ea20
                have ea33 := (frr_at fc55 (by decide) (by decide) o_v1).trans ea33
                have ea44 := (frr_at fc55 (by decide) (by decide) o_v1).trans ea44
                have ea49 := (frr_at fc55 (by decide) (by decide) o_v1).trans ea49
                have f0 := fri_tr g0 f0 fc55 (by decide) (by decide)
                have o_a20 := gr_ob g54 o_a20
                have o_a33 := gr_ob g54 o_a33
                have o_a34 := gr_ob g54 o_a34
                have o_a42 := gr_ob g54 o_a42
                have o_a44 := gr_ob g54 o_a44
                have o_a46 := gr_ob g54 o_a46
                have o_a49 := gr_ob g54 o_a49
                have o_a50 := gr_ob g54 o_a50
                have o_v0 := gr_ob g54 o_v0
                have o_v1 := gr_ob g54 o_v1
                have g0 := gr_tr g0 g54
                intro _
                refine i_X1_fitCode_141 (fun (y0 : Nat) (y1 : Nat) (y2 : Int32) (y4 : Int32) (y5 : Int32) (y6 : Int32) (y8 : Int32) (Z : HS) => ((2147483647 : Int32).toInt - y8.toInt).toNat) (fun (y0 : Nat) (y1 : Nat) (y2 : Int32) (y4 : Int32) (y5 : Int32) (y6 : Int32) (y8 : Int32) (Z : HS) => (S53 = Z) ∧ (v0 = y0) ∧ (v1 = y1) ∧ (v2 = y2) ∧ (x13 = y4) ∧ (x16 = y5) ∧ (x19 = y6) ∧ (0 ≤ y8)) ?_ _ _ _ _ _ _ _ _ ⟨rfl, rfl, rfl, rfl, rfl, rfl, rfl, (q1338 c1 r_x2 r_x3 c4 p_x5 bb_x5 c9 r_x10 q_x10 c11 ex12 ex13 ex14 dv_x14 r_x15 q_x15 ex16 dv_x16 ex17 r_x18 q_x18 ex19 p_x22 bb_x22 c26 ex27 p_x28 bb_x28 c32 bb_x36 c40 ex45 ex48)⟩
                intro w59 w61 w63 w65 w67 w69 w71 S56 X72 ⟨eS56, q60, q62, q64, q66, q68, q70, i1⟩ ih73
                subst q60
                subst q62
                subst q64
                subst q66
                subst q68
                subst q70
                subst eS56
                refine u_X1_fitCode_141 ?_
                refine ⟨fun c74 => ?_, fun c74 => ?_⟩
                · intro x75 ex75
                  intro x76 ex76
                  exact hq _ _ hI g0 f0
                · refine ⟨o_v0, ?_⟩
                  obtain ⟨a77, ea77, o_a77, l_a77⟩ := shl 9 rfl hI o_v0
                  refine ⟨a77, ea77, ?_⟩
                  refine ⟨o_a77, ?_⟩
                  refine ⟨(vin l_a77 (m := 5) (by decide) (q1339 c1 r_x2 r_x3 c4 p_x5 bb_x5 c9 r_x10 q_x10 c11 ex12 ex13 ex14 dv_x14 r_x15 q_x15 ex16 dv_x16 ex17 r_x18 q_x18 ex19 p_x22 bb_x22 c26 ex27 p_x28 bb_x28 c32 bb_x36 c40 ex45 ex48 i1 c74)), ?_⟩
                  intro x78 ex78
                  refine ⟨o_v1, ?_⟩
                  obtain ⟨a79, ea79, o_a79, l_a79⟩ := shl 20 rfl hI o_v1
                  refine ⟨a79, ea79, ?_⟩
                  refine ⟨o_a79, ?_⟩
                  intro x80 ex80
                  refine ⟨(vin l_a79 (m := 20) (by decide) (q1340 c1 r_x2 r_x3 c4 p_x5 bb_x5 c9 r_x10 q_x10 c11 ex12 ex13 ex14 dv_x14 r_x15 q_x15 ex16 dv_x16 ex17 r_x18 q_x18 ex19 p_x22 bb_x22 c26 ex27 p_x28 bb_x28 c32 bb_x36 c40 ex45 ex48 i1 c74 ex80)), ?_⟩
                  intro x81 ex81
                  refine ⟨fun c82 => ?_, fun c82 => ?_⟩
                  · intro x83 ex83
                    exact ih73 _ _ _ _ _ _ _ _ ⟨rfl, rfl, rfl, rfl, rfl, rfl, rfl, (q1341 c1 r_x2 r_x3 c4 p_x5 bb_x5 c9 r_x10 q_x10 c11 ex12 ex13 ex14 dv_x14 r_x15 q_x15 ex16 dv_x16 ex17 r_x18 q_x18 ex19 p_x22 bb_x22 c26 ex27 p_x28 bb_x28 c32 bb_x36 c40 ex45 ex48 i1 c74 ex80 c82 ex83)⟩ (mu_up (q1342 c1 r_x2 r_x3 c4 p_x5 bb_x5 c9 r_x10 q_x10 c11 ex12 ex13 ex14 dv_x14 r_x15 q_x15 ex16 dv_x16 ex17 r_x18 q_x18 ex19 p_x22 bb_x22 c26 ex27 p_x28 bb_x28 c32 bb_x36 c40 ex45 ex48 i1 c74 ex80 c82 ex83) (q1343 c1 r_x2 r_x3 c4 p_x5 bb_x5 c9 r_x10 q_x10 c11 ex12 ex13 ex14 dv_x14 r_x15 q_x15 ex16 dv_x16 ex17 r_x18 q_x18 ex19 p_x22 bb_x22 c26 ex27 p_x28 bb_x28 c32 bb_x36 c40 ex45 ex48 i1 c74 ex80 c82 ex83))
                  · exact hq _ _ hI g0 f0
              · exact hq _ _ hI g0 f0
        · exact hq _ _ hI g0 f0
set_option maxHeartbeats 4000000 in
set_option maxRecDepth 20000 in
theorem m_X1_countFits {v0 : Nat} {v1 : Nat} {v2 : Int32} {Q : Int32 → HS → Prop} {S : HS} (hI : IV S) (o_v0 : ob S v0 1) (o_v1 : ob S v1 8)     (hq : ∀ (r : Int32) (T : HS), IV T → Gr S T → FRI [] [] S T → Q r T) : P_X1_countFits v0 v1 v2 Q S := by
  have g0 := gr_rf S
  have f0 := fri_rf [] [] S
  refine u_X1_countFits ?_
  refine u_X1_countFits_0 ?_
  refine i_X1_countFits_5 (fun (y0 : Nat) (y1 : Nat) (y2 : Int32) (y3 : Int32) (y4 : Int32) (Z : HS) => ((2147483647 : Int32).toInt - y4.toInt).toNat) (fun (y0 : Nat) (y1 : Nat) (y2 : Int32) (y3 : Int32) (y4 : Int32) (Z : HS) => (IV Z) ∧ (Gr S Z) ∧ (FRI [] [] S Z) ∧ (v0 = y0) ∧ (v1 = y1) ∧ (v2 = y2) ∧ (0 ≤ y4)) ?_ _ _ _ _ _ _ ⟨hI, (gr_rf _), (fri_rf _ _ _), rfl, rfl, rfl, (q82)⟩
  intro w4 w6 w8 w10 w11 S1 X12 ⟨hI, gL2, fL3, q5, q7, q9, i1⟩ ih13
  subst q5
  subst q7
  subst q9
  have f0 := fri_tr g0 f0 fL3 (by decide) (by decide)
  have o_v0 := gr_ob gL2 o_v0
  have o_v1 := gr_ob gL2 o_v1
  have g0 := gr_tr g0 gL2
  refine u_X1_countFits_5 ?_
  refine u_X1_legsOf ?_
  refine u_X1_legsOf_0 ?_
  refine ⟨o_v1, ?_⟩
  intro x14 ex14
  have r_x14 : (0 : Int32) ≤ x14 ∧ x14 ≤ (12 : Int32) := by rw [ex14]; exact nu 13 rfl hI o_v1
  have d_x14 := ex14
  intro x15 ex15
  have r_x15 : (0 : Int32) ≤ x15 ∧ x15 ≤ (6 : Int32) := by rw [ex15]; exact nu 11 rfl hI o_v1
  have d_x15 := ex15
  intro _
  refine ⟨fun c16 => ?_, fun c16 => ?_⟩
  · exact hq _ _ hI g0 f0
  · refine ⟨o_v0, ?_⟩
    refine m_X1_fitCode hI o_v0 o_v1 (fun x17 S18 hI g19 fc20 => ?_)
    have d_x14 := d_x14.trans (fri_at fc20 (by decide) (by decide) o_v1).symm
    have d_x15 := d_x15.trans (fri_at fc20 (by decide) (by decide) o_v1).symm
    have f0 := fri_tr g0 f0 fc20 (by decide) (by decide)
    have fL3 := fri_tr gL2 fL3 fc20 (by decide) (by decide)
    have o_v0 := gr_ob g19 o_v0
    have o_v1 := gr_ob g19 o_v1
    have g0 := gr_tr g0 g19
    have gL2 := gr_tr gL2 g19
    intro _
    refine ⟨fun c21 => ?_, fun c21 => ?_⟩
    · refine u_X1_countFits_29 ?_
      intro x22 ex22
      exact ih13 _ _ _ _ _ _ ⟨hI, gL2, fL3, rfl, rfl, rfl, (q1376 i1 r_x14 r_x15 c16 c21 ex22)⟩ (mu_up (q1377 i1 r_x14 r_x15 c16 c21 ex22) (q1378 i1 r_x14 r_x15 c16 c21 ex22))
    · intro x23 ex23
      refine u_X1_countFits_29 ?_
      intro x24 ex24
      exact ih13 _ _ _ _ _ _ ⟨hI, gL2, fL3, rfl, rfl, rfl, (q1379 i1 r_x14 r_x15 c16 c21 ex24)⟩ (mu_up (q1380 i1 r_x14 r_x15 c16 c21 ex24) (q1381 i1 r_x14 r_x15 c16 c21 ex24))
set_option maxHeartbeats 4000000 in
set_option maxRecDepth 20000 in
theorem m_X1_findFit {v0 : Nat} {v1 : Nat} {v2 : Int32} {v3 : Int32} {Q : Int32 → HS → Prop} {S : HS} (hI : IV S) (o_v0 : ob S v0 1) (o_v1 : ob S v1 8)     (hq : ∀ (r : Int32) (T : HS), IV T → Gr S T → FRI [] [] S T → Q r T) : P_X1_findFit v0 v1 v2 v3 Q S := by
  have g0 := gr_rf S
  have f0 := fri_rf [] [] S
  refine u_X1_findFit ?_
  refine u_X1_findFit_0 ?_
  refine i_X1_findFit_6 (fun (y0 : Nat) (y1 : Nat) (y2 : Int32) (y4 : Int32) (y5 : Int32) (Z : HS) => ((2147483647 : Int32).toInt - y5.toInt).toNat) (fun (y0 : Nat) (y1 : Nat) (y2 : Int32) (y4 : Int32) (y5 : Int32) (Z : HS) => (IV Z) ∧ (Gr S Z) ∧ (FRI [] [] S Z) ∧ (v0 = y0) ∧ (v1 = y1) ∧ (v2 = y2) ∧ (0 ≤ y5)) ?_ _ _ _ _ _ _ ⟨hI, (gr_rf _), (fri_rf _ _ _), rfl, rfl, rfl, (q82)⟩
  intro w4 w6 w8 w10 w11 S1 X12 ⟨hI, gL2, fL3, q5, q7, q9, i1⟩ ih13
  subst q5
  subst q7
  subst q9
  have f0 := fri_tr g0 f0 fL3 (by decide) (by decide)
  have o_v0 := gr_ob gL2 o_v0
  have o_v1 := gr_ob gL2 o_v1
  have g0 := gr_tr g0 gL2
  refine u_X1_findFit_6 ?_
  refine u_X1_legsOf ?_
  refine u_X1_legsOf_0 ?_
  refine ⟨o_v1, ?_⟩
  intro x14 ex14
  have r_x14 : (0 : Int32) ≤ x14 ∧ x14 ≤ (12 : Int32) := by rw [ex14]; exact nu 13 rfl hI o_v1
  have d_x14 := ex14
  intro x15 ex15
  have r_x15 : (0 : Int32) ≤ x15 ∧ x15 ≤ (6 : Int32) := by rw [ex15]; exact nu 11 rfl hI o_v1
  have d_x15 := ex15
  intro _
  refine ⟨fun c16 => ?_, fun c16 => ?_⟩
  · exact hq _ _ hI g0 f0
  · refine ⟨o_v0, ?_⟩
    refine m_X1_fitCode hI o_v0 o_v1 (fun x17 S18 hI g19 fc20 => ?_)
    have d_x14 := d_x14.trans (fri_at fc20 (by decide) (by decide) o_v1).symm
    have d_x15 := d_x15.trans (fri_at fc20 (by decide) (by decide) o_v1).symm
    have f0 := fri_tr g0 f0 fc20 (by decide) (by decide)
    have fL3 := fri_tr gL2 fL3 fc20 (by decide) (by decide)
    have o_v0 := gr_ob g19 o_v0
    have o_v1 := gr_ob g19 o_v1
    have g0 := gr_tr g0 g19
    have gL2 := gr_tr gL2 g19
    intro _
    refine ⟨fun c21 => ?_, fun c21 => ?_⟩
    · refine u_X1_findFit_39 ?_
      refine ⟨fun c22 => ?_, fun c22 => ?_⟩
      · refine u_X1_findFit_48 ?_
        intro x23 ex23
        exact ih13 _ _ _ _ _ _ ⟨hI, gL2, fL3, rfl, rfl, rfl, (q1316 i1 r_x14 r_x15 c16 c21 c22 ex23)⟩ (mu_up (q1317 i1 r_x14 r_x15 c16 c21 c22 ex23) (q1318 i1 r_x14 r_x15 c16 c21 c22 ex23))
      · intro x24 ex24
        refine u_X1_findFit_48 ?_
        intro x25 ex25
        exact ih13 _ _ _ _ _ _ ⟨hI, gL2, fL3, rfl, rfl, rfl, (q1319 i1 r_x14 r_x15 c16 c21 c22 ex25)⟩ (mu_up (q1320 i1 r_x14 r_x15 c16 c21 c22 ex25) (q1321 i1 r_x14 r_x15 c16 c21 c22 ex25))
    · refine ⟨fun c26 => ?_, fun c26 => ?_⟩
      · refine u_X1_findFit_39 ?_
        refine ⟨fun c27 => ?_, fun c27 => ?_⟩
        · refine u_X1_findFit_48 ?_
          intro x28 ex28
          exact ih13 _ _ _ _ _ _ ⟨hI, gL2, fL3, rfl, rfl, rfl, (q1322 i1 r_x14 r_x15 c16 c21 c26 c27 ex28)⟩ (mu_up (q1323 i1 r_x14 r_x15 c16 c21 c26 c27 ex28) (q1324 i1 r_x14 r_x15 c16 c21 c26 c27 ex28))
        · intro x29 ex29
          refine u_X1_findFit_48 ?_
          intro x30 ex30
          exact ih13 _ _ _ _ _ _ ⟨hI, gL2, fL3, rfl, rfl, rfl, (q1325 i1 r_x14 r_x15 c16 c21 c26 c27 ex29 ex30)⟩ (mu_up (q1326 i1 r_x14 r_x15 c16 c21 c26 c27 ex29 ex30) (q1327 i1 r_x14 r_x15 c16 c21 c26 c27 ex29 ex30))
      · exact hq _ _ hI g0 f0
set_option maxHeartbeats 4000000 in
set_option maxRecDepth 20000 in
theorem m_X1_leastWet {v0 : Nat} {v1 : Nat} {v2 : Nat} {v3 : Int32} {v4 : Nat} {Q : Int64 → HS → Prop} {S : HS} (hI : IV S) (o_v0 : ob S v0 1) (o_v1 : ob S v1 6) (o_v2 : ob S v2 5) (o_v4 : ob S v4 3)     (hq : ∀ (r : Int64) (T : HS), IV T → Gr S T → FRI [] [] S T → Q r T) : P_X1_leastWet v0 v1 v2 v3 v4 Q S := by
  have g0 := gr_rf S
  have f0 := fri_rf [] [] S
  refine u_X1_leastWet ?_
  refine u_X1_leastWet_0 ?_
  refine ⟨o_v0, ?_⟩
  refine m_X1_bestSpeed hI o_v0 o_v1 o_v2 o_v4 (fun x1 S2 hI g3 fc4 => ?_)
  have f0 := fri_tr g0 f0 fc4 (by decide) (by decide)
  have o_v0 := gr_ob g3 o_v0
  have o_v1 := gr_ob g3 o_v1
  have o_v2 := gr_ob g3 o_v2
  have o_v4 := gr_ob g3 o_v4
  have g0 := gr_tr g0 g3
  intro _
  refine m_X1_wetOf hI o_v0 o_v1 o_v2 o_v4 (fun x5 S6 hI g7 fc8 => ?_)
  have f0 := fri_tr g0 f0 fc8 (by decide) (by decide)
  have o_v0 := gr_ob g7 o_v0
  have o_v1 := gr_ob g7 o_v1
  have o_v2 := gr_ob g7 o_v2
  have o_v4 := gr_ob g7 o_v4
  have g0 := gr_tr g0 g7
  intro _
  exact hq _ _ hI g0 f0
set_option maxHeartbeats 4000000 in
set_option maxRecDepth 20000 in
theorem m_X1_wetInLee {v0 : Nat} {v1 : Nat} {v2 : Nat} {Q : Int64 → HS → Prop} {S : HS} (hI : IV S) (o_v0 : ob S v0 1) (o_v1 : ob S v1 6) (o_v2 : ob S v2 6)     (hq : ∀ (r : Int64) (T : HS), IV T → Gr S T → FRI [] [] S T → Q r T) : P_X1_wetInLee v0 v1 v2 Q S := by
  have g0 := gr_rf S
  have f0 := fri_rf [] [] S
  refine u_X1_wetInLee ?_
  refine u_X1_wetInLee_0 ?_
  refine ⟨o_v2, ?_⟩
  intro x1 ex1
  have d_x1 := ex1
  refine ⟨o_v0, ?_⟩
  refine m_X1_soak hI o_v0 o_v1 (fun x2 S3 hI g4 fc5 => ?_)
  have d_x1 := d_x1.trans (fri_at fc5 (by decide) (by decide) o_v2).symm
  have f0 := fri_tr g0 f0 fc5 (by decide) (by decide)
  have o_v0 := gr_ob g4 o_v0
  have o_v1 := gr_ob g4 o_v1
  have o_v2 := gr_ob g4 o_v2
  have g0 := gr_tr g0 g4
  intro _
  refine ⟨o_v1, ?_⟩
  intro x6 ex6
  have d_x6 := ex6
  refine m_X1_soak hI o_v0 o_v2 (fun x7 S8 hI g9 fc10 => ?_)
  have d_x1 := d_x1.trans (fri_at fc10 (by decide) (by decide) o_v2).symm
  have d_x6 := d_x6.trans (fri_at fc10 (by decide) (by decide) o_v1).symm
  have f0 := fri_tr g0 f0 fc10 (by decide) (by decide)
  have o_v0 := gr_ob g9 o_v0
  have o_v1 := gr_ob g9 o_v1
  have o_v2 := gr_ob g9 o_v2
  have g0 := gr_tr g0 g9
  intro _
  exact hq _ _ hI g0 f0
set_option maxHeartbeats 4000000 in
set_option maxRecDepth 20000 in
theorem m_X1_worstSpeed {v0 : Nat} {v1 : Nat} {v2 : Nat} {v3 : Int32} {v4 : Nat} {Q : Int32 → HS → Prop} {S : HS} (hI : IV S) (o_v0 : ob S v0 1) (o_v1 : ob S v1 6) (o_v2 : ob S v2 5) (o_v4 : ob S v4 3)     (hq : ∀ (r : Int32) (T : HS), IV T → Gr S T → FRI [] [] S T → Q r T) : P_X1_worstSpeed v0 v1 v2 v3 v4 Q S := by
  have g0 := gr_rf S
  have f0 := fri_rf [] [] S
  refine u_X1_worstSpeed ?_
  refine u_X1_worstSpeed_0 ?_
  refine ⟨o_v1, ?_⟩
  intro x1 ex1
  have r_x1 : (0 : Int32) ≤ x1 ∧ x1 ≤ (9 : Int32) := by rw [ex1]; exact nu 4 rfl hI o_v1
  have d_x1 := ex1
  intro x2 ex2
  have r_x2 : (0 : Int32) ≤ x2 ∧ x2 ≤ (9 : Int32) := by rw [ex2]; exact nu 4 rfl hI o_v1
  have q_x2 : x2 = x1 := ex2.trans d_x1.symm
  have d_x2 := ex2
  refine i_X1_worstSpeed_17 (fun (y0 : Nat) (y1 : Nat) (y2 : Nat) (y3 : Int32) (y4 : Nat) (y5 : Int32) (y6 : Int64) (y8 : Int32) (Z : HS) => ((2147483647 : Int32).toInt - y8.toInt).toNat) (fun (y0 : Nat) (y1 : Nat) (y2 : Nat) (y3 : Int32) (y4 : Nat) (y5 : Int32) (y6 : Int64) (y8 : Int32) (Z : HS) => (IV Z) ∧ (Gr S Z) ∧ (FRI [] [] S Z) ∧ (v0 = y0) ∧ (v1 = y1) ∧ (v2 = y2) ∧ (v3 = y3) ∧ (v4 = y4)) ?_ _ _ _ _ _ _ _ _ _ ⟨hI, (gr_rf _), (fri_rf _ _ _), rfl, rfl, rfl, rfl, rfl⟩
  intro w6 w8 w10 w12 w14 w16 w17 w18 S3 X19 ⟨hI, gL4, fL5, q7, q9, q11, q13, q15⟩ ih20
  subst q7
  subst q9
  subst q11
  subst q13
  subst q15
  have d_x2 := d_x2.trans (fri_at fL5 (by decide) (by decide) o_v1).symm
  have f0 := fri_tr g0 f0 fL5 (by decide) (by decide)
  have o_v0 := gr_ob gL4 o_v0
  have o_v1 := gr_ob gL4 o_v1
  have o_v2 := gr_ob gL4 o_v2
  have o_v4 := gr_ob gL4 o_v4
  have g0 := gr_tr g0 gL4
  refine u_X1_worstSpeed_17 ?_
  refine ⟨o_v1, ?_⟩
  intro x21 ex21
  have r_x21 : (0 : Int32) ≤ x21 ∧ x21 ≤ (9 : Int32) := by rw [ex21]; exact nu 5 rfl hI o_v1
  have d_x21 := ex21
  refine ⟨fun c22 => ?_, fun c22 => ?_⟩
  · exact hq _ _ hI g0 f0
  · refine ⟨o_v0, ?_⟩
    refine m_X1_wetOf hI o_v0 o_v1 o_v2 o_v4 (fun x23 S24 hI g25 fc26 => ?_)
    have d_x2 := d_x2.trans (fri_at fc26 (by decide) (by decide) o_v1).symm
    have d_x21 := d_x21.trans (fri_at fc26 (by decide) (by decide) o_v1).symm
    have f0 := fri_tr g0 f0 fc26 (by decide) (by decide)
    have fL5 := fri_tr gL4 fL5 fc26 (by decide) (by decide)
    have o_v0 := gr_ob g25 o_v0
    have o_v1 := gr_ob g25 o_v1
    have o_v2 := gr_ob g25 o_v2
    have o_v4 := gr_ob g25 o_v4
    have g0 := gr_tr g0 g25
    have gL4 := gr_tr gL4 g25
    intro _
    refine ⟨fun c27 => ?_, fun c27 => ?_⟩
    · refine u_X1_worstSpeed_55 ?_
      intro x28 ex28
      exact ih20 _ _ _ _ _ _ _ _ _ ⟨hI, gL4, fL5, rfl, rfl, rfl, rfl, rfl⟩ (mu_up (q31 r_x21 c22 c27 ex28) (q32 r_x21 c22 c27 ex28))
    · refine u_X1_worstSpeed_55 ?_
      intro x29 ex29
      exact ih20 _ _ _ _ _ _ _ _ _ ⟨hI, gL4, fL5, rfl, rfl, rfl, rfl, rfl⟩ (mu_up (q33 r_x21 c22 c27 ex29) (q34 r_x21 c22 c27 ex29))
set_option maxHeartbeats 4000000 in
set_option maxRecDepth 20000 in
theorem m_X2_addFaces {v0 : Nat} {v1 : Nat} {Q : HS → Prop} {S : HS} (hI : IV S) (o_v0 : ob S v0 2) (o_v1 : ob S v1 14) (l_v1 : hN S v1 = 5)    (hq : ∀ (T : HS), IV T → Gr S T → FRI [] [] S T → Q T) : P_X2_addFaces v0 v1 Q S := by
  have g0 := gr_rf S
  have f0 := fri_rf [] [] S
  refine u_X2_addFaces ?_
  refine u_X2_addFaces_0 ?_
  refine i_X2_addFaces_2 (fun (y0 : Nat) (y1 : Nat) (y2 : Int32) (Z : HS) => ((2147483647 : Int32).toInt - y2.toInt).toNat) (fun (y0 : Nat) (y1 : Nat) (y2 : Int32) (Z : HS) => (IV Z) ∧ (Gr S Z) ∧ (FRI [] [] S Z) ∧ (v0 = y0) ∧ (v1 = y1) ∧ (0 ≤ y2)) ?_ _ _ _ _ ⟨hI, (gr_rf _), (fri_rf _ _ _), rfl, rfl, (q82)⟩
  intro w4 w6 w8 S1 X9 ⟨hI, gL2, fL3, q5, q7, i1⟩ ih10
  subst q5
  subst q7
  have l_v1 := (gr_len gL2 o_v1).trans l_v1
  have f0 := fri_tr g0 f0 fL3 (by decide) (by decide)
  have o_v0 := gr_ob gL2 o_v0
  have o_v1 := gr_ob gL2 o_v1
  have g0 := gr_tr g0 gL2
  refine u_X2_addFaces_2 ?_
  refine ⟨fun c11 => ?_, fun c11 => ?_⟩
  · exact hq _ hI g0 f0
  · refine ⟨o_v1, ?_⟩
    have n_v1 : nI (hN S1 v1) = 5 := by rw [show hN S1 v1 = 5 from l_v1]; decide
    refine ⟨fun c12 => ?_, fun c12 => ?_⟩
    · rw [n_v1] at c12
      exact hq _ hI g0 f0
    · rw [n_v1] at c12
      refine ⟨o_v0, ?_⟩
      obtain ⟨a13, ea13, o_a13, l_a13⟩ := shl 11 rfl hI o_v0
      refine ⟨a13, ea13, ?_⟩
      refine ⟨o_a13, ?_⟩
      refine ⟨(vin l_a13 (m := 5) (by decide) (q1372 i1 c11 c12)), ?_⟩
      intro x14 ex14
      refine ⟨(vin l_v1 (m := 5) (by decide) (q1372 i1 c11 c12)), ?_⟩
      intro x15 ex15
      intro x16 ex16
      have i17 : vp_in w8 (hN _ a13) := (vin l_a13 (m := 5) (by decide) (q1372 i1 c11 c12))
      refine ⟨i17, ?_⟩
      have hI := iv_aJ (i := w8.toNatClampNeg) (v := x16) hI o_v0 (by decide) ea13 o_a13 (by decide)
      intro x18 ex18
      exact ih10 _ _ _ _ ⟨hI, gL2, fL3, rfl, rfl, (q1373 i1 c11 c12 ex18)⟩ (mu_up (q1374 i1 c11 c12 ex18) (q1375 i1 c11 c12 ex18))
set_option maxHeartbeats 4000000 in
set_option maxRecDepth 20000 in
theorem m_X2_allGot {v0 : Nat} {Q : Int64 → HS → Prop} {S : HS} (hI : IV S) (o_v0 : ob S v0 2)     (hq : ∀ (r : Int64) (T : HS), IV T → Gr S T → (S = T) → Q r T) : P_X2_allGot v0 Q S := by
  have g0 := gr_rf S
  refine u_X2_allGot ?_
  refine u_X2_allGot_0 ?_
  refine i_X2_allGot_4 (fun (y0 : Nat) (y1 : Int64) (y3 : Int32) (Z : HS) => ((2147483647 : Int32).toInt - y3.toInt).toNat) (fun (y0 : Nat) (y1 : Int64) (y3 : Int32) (Z : HS) => (S = Z) ∧ (v0 = y0) ∧ (0 ≤ y3)) ?_ _ _ _ _ ⟨rfl, rfl, (q82)⟩
  intro w4 w6 w7 S1 X8 ⟨eS1, q5, i1⟩ ih9
  subst q5
  subst eS1
  refine u_X2_allGot_4 ?_
  refine ⟨fun c10 => ?_, fun c10 => ?_⟩
  · exact hq _ _ hI g0 rfl
  · refine ⟨o_v0, ?_⟩
    obtain ⟨a11, ea11, o_a11, l_a11⟩ := shl 11 rfl hI o_v0
    refine ⟨a11, ea11, ?_⟩
    refine ⟨o_a11, ?_⟩
    refine ⟨(vin l_a11 (m := 5) (by decide) (q730 i1 c10)), ?_⟩
    intro x12 ex12
    intro x13 ex13
    intro x14 ex14
    exact ih9 _ _ _ _ ⟨rfl, rfl, (q731 i1 c10 ex14)⟩ (mu_up (q732 i1 c10 ex14) (q733 i1 c10 ex14))
set_option maxHeartbeats 4000000 in
set_option maxRecDepth 20000 in
theorem m_X4_fail {v0 : Nat} {v1 : Int32} {Q : Int32 → HS → Prop} {S : HS} (hI : IV S) (o_v0 : ob S v0 4)    (hT : TX S v0) (hq : ∀ (r : Int32) (T : HS), IV T → Gr S T → FRI [(4, 0), (4, 1)] [] S T → bl r → (TX T v0) → Q r T) : P_X4_fail v0 v1 Q S := by
  have g0 := gr_rf S
  have f0 := fri_rf [(4, 0), (4, 1)] [] S
  refine u_X4_fail ?_
  refine u_X4_fail_0 ?_
  refine ⟨o_v0, ?_⟩
  have hI := iv_sI (j := 0) (v := v1) hI o_v0 (by decide) (nu_free (by decide))
  have f0 : FRI _ _ _ (sI S v0 0 v1) := fri_sI g0 f0 o_v0 (by decide)
  have d_v1 : v1 = fI (sI S v0 0 v1) v0 0 := (u2_self _ _ _ _).symm
  intro x1 ex1
  have d_x1 := ex1
  have hI := iv_sI (j := 1) (v := x1) hI o_v0 (by decide) (nu_free (by decide))
  have f0 : FRI _ _ _ (sI (sI S v0 0 v1) v0 1 x1) := fri_sI g0 f0 o_v0 (by decide)
  have d_v1 : v1 = fI (sI (sI S v0 0 v1) v0 1 x1) v0 0 := d_v1.trans (rd_j (by decide)).symm
  have d_x1 : x1 = fI (sI (sI S v0 0 v1) v0 1 x1) v0 7 := d_x1.trans (rd_j (by decide)).symm
  have d_x1 : x1 = fI (sI (sI S v0 0 v1) v0 1 x1) v0 1 := (u2_self _ _ _ _).symm
  exact hq _ _ hI g0 f0 (Or.inl rfl) hT
set_option maxHeartbeats 4000000 in
set_option maxRecDepth 20000 in
theorem m_X4_sortAt {v0 : Nat} {v1 : Int32} {Q : Int32 → HS → Prop} {S : HS} (hI : IV S) (o_v0 : ob S v0 4)    (hT : TX S v0) (hq : ∀ (r : Int32) (T : HS), IV T → Gr S T → (S = T) ∧ (r = 0 ∨ (0 ≤ v1 ∧ v1 < 900)) → Q r T) : P_X4_sortAt v0 v1 Q S := by
  have g0 := gr_rf S
  refine u_X4_sortAt ?_
  refine u_X4_sortAt_0 ?_
  refine ⟨fun c1 => ?_, fun c1 => ?_⟩
  · exact hq _ _ hI g0 ⟨rfl, (q688 c1)⟩
  · refine ⟨o_v0, ?_⟩
    intro x2 ex2
    have r_x2 : (0 : Int32) ≤ x2 ∧ x2 ≤ (900 : Int32) := by rw [ex2]; exact nu 6 rfl hI o_v0
    have d_x2 := ex2
    refine ⟨fun c3 => ?_, fun c3 => ?_⟩
    · exact hq _ _ hI g0 ⟨rfl, (q689 c1 r_x2 c3)⟩
    · obtain ⟨a4, ea4, o_a4, l_a4⟩ := hT
      refine ⟨a4, ea4, ?_⟩
      refine ⟨o_a4, ?_⟩
      have n_a4 : nI (hN S a4) = 900 := by rw [show hN S a4 = 900 from l_a4]; decide
      refine ⟨fun c5 => ?_, fun c5 => ?_⟩
      · rw [n_a4] at c5
        refine ⟨a4, ea4, ?_⟩
        refine ⟨o_a4, ?_⟩
        refine ⟨(vin l_a4 (m := 900) (by decide) (q690 c1 r_x2 c3 c5)), ?_⟩
        intro x7 ex7
        refine ⟨fun c8 => ?_, fun c8 => ?_⟩
        · refine u_X4_sortAt_44 ?_
          refine ⟨fun c9 => ?_, fun c9 => ?_⟩
          · refine u_X4_sortAt_58 ?_
            refine ⟨fun c10 => ?_, fun c10 => ?_, fun c10 => ?_, fun c10 => ?_⟩
            · exact hq _ _ hI g0 ⟨rfl, (q691 c1 r_x2 c3 c5 c8 c9)⟩
            · exact hq _ _ hI g0 ⟨rfl, (q692 c1 r_x2 c3 c5 c8 c9)⟩
            · exact hq _ _ hI g0 ⟨rfl, (q693 c1 r_x2 c3 c5 c8 c9)⟩
            · exact hq _ _ hI g0 ⟨rfl, (q694 c1 r_x2 c3 c5 c8 c9)⟩
          · refine ⟨fun c11 => ?_, fun c11 => ?_⟩
            · refine u_X4_sortAt_58 ?_
              refine ⟨fun c12 => ?_, fun c12 => ?_, fun c12 => ?_, fun c12 => ?_⟩
              · exact hq _ _ hI g0 ⟨rfl, (q695 c1 r_x2 c3 c5 c8 c9 c11)⟩
              · exact hq _ _ hI g0 ⟨rfl, (q696 c1 r_x2 c3 c5 c8 c9 c11)⟩
              · exact hq _ _ hI g0 ⟨rfl, (q697 c1 r_x2 c3 c5 c8 c9 c11)⟩
              · exact hq _ _ hI g0 ⟨rfl, (q698 c1 r_x2 c3 c5 c8 c9 c11)⟩
            · exact hq _ _ hI g0 ⟨rfl, (q699 c1 r_x2 c3 c5 c8 c9 c11)⟩
        · refine ⟨fun c13 => ?_, fun c13 => ?_⟩
          · refine u_X4_sortAt_44 ?_
            refine ⟨fun c14 => ?_, fun c14 => ?_⟩
            · refine u_X4_sortAt_58 ?_
              refine ⟨fun c15 => ?_, fun c15 => ?_, fun c15 => ?_, fun c15 => ?_⟩
              · exact hq _ _ hI g0 ⟨rfl, (q700 c1 r_x2 c3 c5 c8 c13 c14)⟩
              · exact hq _ _ hI g0 ⟨rfl, (q701 c1 r_x2 c3 c5 c8 c13 c14)⟩
              · exact hq _ _ hI g0 ⟨rfl, (q702 c1 r_x2 c3 c5 c8 c13 c14)⟩
              · exact hq _ _ hI g0 ⟨rfl, (q703 c1 r_x2 c3 c5 c8 c13 c14)⟩
            · refine ⟨fun c16 => ?_, fun c16 => ?_⟩
              · refine u_X4_sortAt_58 ?_
                refine ⟨fun c17 => ?_, fun c17 => ?_, fun c17 => ?_, fun c17 => ?_⟩
                · exact hq _ _ hI g0 ⟨rfl, (q704 c1 r_x2 c3 c5 c8 c13 c14 c16)⟩
                · exact hq _ _ hI g0 ⟨rfl, (q705 c1 r_x2 c3 c5 c8 c13 c14 c16)⟩
                · exact hq _ _ hI g0 ⟨rfl, (q706 c1 r_x2 c3 c5 c8 c13 c14 c16)⟩
                · exact hq _ _ hI g0 ⟨rfl, (q707 c1 r_x2 c3 c5 c8 c13 c14 c16)⟩
              · exact hq _ _ hI g0 ⟨rfl, (q708 c1 r_x2 c3 c5 c8 c13 c14 c16)⟩
          · exact hq _ _ hI g0 ⟨rfl, (q709 c1 r_x2 c3 c5 c8 c13)⟩
      · rw [n_a4] at c5
        exact hq _ _ hI g0 ⟨rfl, (q710 c1 r_x2 c3 c5)⟩
set_option maxHeartbeats 4000000 in
set_option maxRecDepth 20000 in
theorem m_X4_next {v0 : Nat} {Q : HS → Prop} {S : HS} (hI : IV S) (o_v0 : ob S v0 4)    (hT : TX S v0) (hq : ∀ (T : HS), IV T → Gr S T → FRI [(4, 4), (4, 6), (4, 7)] [] S T → (TX T v0) → Q T) : P_X4_next v0 Q S := by
  have g0 := gr_rf S
  have f0 := fri_rf [(4, 4), (4, 6), (4, 7)] [] S
  refine u_X4_next ?_
  refine u_X4_next_0 ?_
  refine i_X4_next_2 (fun (y0 : Nat) (y1 : Int32) (Z : HS) => ((2147483647 : Int32).toInt - y1.toInt).toNat) (fun (y0 : Nat) (y1 : Int32) (Z : HS) => (IV Z) ∧ (Gr S Z) ∧ (FRI [(4, 4)] [] S Z) ∧ (v0 = y0) ∧ (TX Z v0) ∧ (0 ≤ y1)) ?_ _ _ _ ⟨hI, (gr_rf _), (fri_rf _ _ _), rfl, hT, (q82)⟩
  intro w4 w6 S1 X7 ⟨hI, gL2, fL3, q5, hT, i1⟩ ih8
  subst q5
  have f0 := fri_tr g0 f0 fL3 (by decide) (by decide)
  have o_v0 := gr_ob gL2 o_v0
  have g0 := gr_tr g0 gL2
  refine u_X4_next_2 ?_
  refine ⟨fun c9 => ?_, fun c9 => ?_⟩
  · refine u_X4_next_37 ?_
    refine ⟨o_v0, ?_⟩
    intro x10 ex10
    have d_x10 := ex10
    have hI := iv_sI (j := 7) (v := x10) hI o_v0 (by decide) (nu_free (by decide))
    have f0 : FRI _ _ _ (sI S1 v0 7 x10) := fri_sI g0 f0 o_v0 (by decide)
    have fL3 : FRI _ _ _ (sI S1 v0 7 x10) := fri_sI gL2 fL3 o_v0 (by decide)
    have d_x10 : x10 = fI (sI S1 v0 7 x10) v0 4 := d_x10.trans (rd_j (by decide)).symm
    have d_x10 : x10 = fI (sI S1 v0 7 x10) v0 7 := (u2_self _ _ _ _).symm
    intro x11 ex11
    have q_x11 : x11 = x10 := ex11.trans d_x10.symm
    have d_x11 := ex11
    refine m_X4_sortAt hI o_v0 hT (fun x12 S13 hI2 g14 p_x12 => ?_)
    obtain ⟨z_S13, p_x12⟩ := p_x12
    subst z_S13
    intro _
    have hI := iv_sI (j := 6) (v := x12) hI o_v0 (by decide) (nu_free (by decide))
    have f0 : FRI _ _ _ (sI (sI S1 v0 7 x10) v0 6 x12) := fri_sI g0 f0 o_v0 (by decide)
    have fL3 : FRI _ _ _ (sI (sI S1 v0 7 x10) v0 6 x12) := fri_sI gL2 fL3 o_v0 (by decide)
    have d_x11 : x11 = fI (sI (sI S1 v0 7 x10) v0 6 x12) v0 4 := d_x11.trans (rd_j (by decide)).symm
    have d_x10 : x10 = fI (sI (sI S1 v0 7 x10) v0 6 x12) v0 7 := d_x10.trans (rd_j (by decide)).symm
    have d_x12 : x12 = fI (sI (sI S1 v0 7 x10) v0 6 x12) v0 6 := (u2_self _ _ _ _).symm
    have hI := iv_sJ (j := 8) (v := (0 : Int64)) hI o_v0 (by decide)
    intro x16 ex16
    have q_x16 : x16 = x12 := ex16.trans d_x12.symm
    have d_x16 := ex16
    refine ⟨fun c17 => ?_, fun c17 => ?_⟩
    · refine u_X4_next_78 ?_
      refine u_X4_next_83 ?_
      refine ⟨o_v0, ?_⟩
      intro x18 ex18
      have q_x18 : x18 = x16 := ex18.trans d_x16.symm
      have d_x18 := ex18
      refine ⟨fun c19 => ?_, fun c19 => ?_⟩
      · refine u_X4_next_98 ?_
        refine ⟨o_v0, ?_⟩
        intro x20 ex20
        have q_x20 : x20 = x18 := ex20.trans d_x18.symm
        have d_x20 := ex20
        refine ⟨fun c21 => ?_, fun c21 => ?_⟩
        · refine u_X4_next_114 ?_
          refine i_X4_next_118 (fun (y0 : Nat) (y1 : Int32) (y2 : Int32) (y3 : Int32) (y4 : Int32) (Z : HS) => ((2147483647 : Int32).toInt - y4.toInt).toNat) (fun (y0 : Nat) (y1 : Int32) (y2 : Int32) (y3 : Int32) (y4 : Int32) (Z : HS) => (IV Z) ∧ (Gr (sJ (sI (sI S1 v0 7 x10) v0 6 x12) v0 8 (0 : Int64)) Z) ∧ (FRI [(4, 4)] [] (sJ (sI (sI S1 v0 7 x10) v0 6 x12) v0 8 (0 : Int64)) Z) ∧ (v0 = y0) ∧ ((1 : Int32) = y1) ∧ ((3 : Int32) = y2) ∧ ((10 : Int32) = y3) ∧ (TX Z v0) ∧ (0 ≤ y4) ∧ ((y1 = 0 ∨ fI Z v0 6 = 1 ∨ fI Z v0 6 = 2) ∧ (y1 = 0 → fI Z v0 6 = 0 ∨ (0 ≤ fI Z v0 4 ∧ fI Z v0 4 < 900)))) ?_ _ _ _ _ _ _ ⟨hI, (gr_rf _), (fri_rf _ _ _), rfl, rfl, rfl, rfl, hT, (q229 i1 c9 q_x11 p_x12 q_x16 c17 q_x18 c19 q_x20 c21), (by rw [← d_x20, ← d_x11]; exact (q230 i1 c9 q_x11 p_x12 q_x16 c17 q_x18 c19 q_x20 c21))⟩
          intro w25 w27 w29 w31 w33 S22 X34 ⟨hI, gL23, fL24, q26, q28, q30, q32, hT, i1, k1⟩ ih35
          subst q26
          subst q28
          subst q30
          subst q32
          have d_x10 := d_x10.trans (fri_at fL24 (by decide) (by decide) o_v0).symm
          have d_x20 := d_x20.trans (fri_at fL24 (by decide) (by decide) o_v0).symm
          have f0 := fri_tr g0 f0 fL24 (by decide) (by decide)
          have fL3 := fri_tr gL2 fL3 fL24 (by decide) (by decide)
          have o_v0 := gr_ob gL23 o_v0
          have g0 := gr_tr g0 gL23
          have gL2 := gr_tr gL2 gL23
          obtain ⟨y36, d_y36⟩ : ∃ z : Int32, z = fI S22 v0 4 := ⟨_, rfl⟩
          have p_k1 : ((1 : Int32) = 0 ∨ x20 = 1 ∨ x20 = 2) ∧ ((1 : Int32) = 0 → x20 = 0 ∨ (0 ≤ y36 ∧ y36 < 900)) := by rw [d_x20, d_y36]; exact k1
          refine u_X4_next_118 ?_
          refine ⟨fun c37 => ?_, fun c37 => ?_⟩
          · refine u_X4_next_217 ?_
            refine ⟨fun c38 => ?_, fun c38 => ?_⟩
            · refine u_X4_next_240 ?_
              refine ⟨fun c39 => ?_, fun c39 => ?_⟩
              · exact hq _ hI g0 f0 hT
              · refine ⟨o_v0, ?_⟩
                intro x40 ex40
                have q_x40 : x40 = x20 := ex40.trans d_x20.symm
                have d_x40 := ex40
                refine ⟨fun c41 => ?_, fun c41 => ?_⟩
                · exact hq _ hI g0 f0 hT
                · intro x42 ex42
                  have q_x42 : x42 = y36 := ex42.trans d_y36.symm
                  have d_x42 := ex42
                  intro x43 ex43
                  have hI := iv_sI (j := 4) (v := x43) hI o_v0 (by decide) (nu_free (by decide))
                  have f0 : FRI _ _ _ (sI S22 v0 4 x43) := fri_sI g0 f0 o_v0 (by decide)
                  have fL3 : FRI _ _ _ (sI S22 v0 4 x43) := fri_sI gL2 fL3 o_v0 (by decide)
                  have fL24 : FRI _ _ _ (sI S22 v0 4 x43) := fri_sI gL23 fL24 o_v0 (by decide)
                  have d_x10 : x10 = fI (sI S22 v0 4 x43) v0 7 := d_x10.trans (rd_j (by decide)).symm
                  have d_x40 : x40 = fI (sI S22 v0 4 x43) v0 6 := d_x40.trans (rd_j (by decide)).symm
                  have d_x43 : x43 = fI (sI S22 v0 4 x43) v0 4 := (u2_self _ _ _ _).symm
                  exact hq _ hI g0 f0 hT
            · refine ⟨o_v0, ?_⟩
              intro x44 ex44
              have q_x44 : x44 = y36 := ex44.trans d_y36.symm
              have d_x44 := ex44
              intro x45 ex45
              have q_x45 : x45 = x10 := ex45.trans d_x10.symm
              have d_x45 := ex45
              refine ⟨fun c46 => ?_, fun c46 => ?_⟩
              · refine u_X4_next_240 ?_
                refine ⟨fun c47 => ?_, fun c47 => ?_⟩
                · exact hq _ hI g0 f0 hT
                · refine ⟨o_v0, ?_⟩
                  intro x48 ex48
                  have q_x48 : x48 = x20 := ex48.trans d_x20.symm
                  have d_x48 := ex48
                  refine ⟨fun c49 => ?_, fun c49 => ?_⟩
                  · exact hq _ hI g0 f0 hT
                  · intro x50 ex50
                    have q_x50 : x50 = x44 := ex50.trans d_x44.symm
                    have d_x50 := ex50
                    intro x51 ex51
                    have hI := iv_sI (j := 4) (v := x51) hI o_v0 (by decide) (nu_free (by decide))
                    have f0 : FRI _ _ _ (sI S22 v0 4 x51) := fri_sI g0 f0 o_v0 (by decide)
                    have fL3 : FRI _ _ _ (sI S22 v0 4 x51) := fri_sI gL2 fL3 o_v0 (by decide)
                    have fL24 : FRI _ _ _ (sI S22 v0 4 x51) := fri_sI gL23 fL24 o_v0 (by decide)
                    have d_x45 : x45 = fI (sI S22 v0 4 x51) v0 7 := d_x45.trans (rd_j (by decide)).symm
                    have d_x48 : x48 = fI (sI S22 v0 4 x51) v0 6 := d_x48.trans (rd_j (by decide)).symm
                    have d_x51 : x51 = fI (sI S22 v0 4 x51) v0 4 := (u2_self _ _ _ _).symm
                    exact hq _ hI g0 f0 hT
              · have hI := iv_sI (j := 6) (v := (6 : Int32)) hI o_v0 (by decide) (nu_free (by decide))
                have f0 : FRI _ _ _ (sI S22 v0 6 (6 : Int32)) := fri_sI g0 f0 o_v0 (by decide)
                have fL3 : FRI _ _ _ (sI S22 v0 6 (6 : Int32)) := fri_sI gL2 fL3 o_v0 (by decide)
                have fL24 : FRI _ _ _ (sI S22 v0 6 (6 : Int32)) := fri_sI gL23 fL24 o_v0 (by decide)
                have d_x45 : x45 = fI (sI S22 v0 6 (6 : Int32)) v0 7 := d_x45.trans (rd_j (by decide)).symm
                have d_x44 : x44 = fI (sI S22 v0 6 (6 : Int32)) v0 4 := d_x44.trans (rd_j (by decide)).symm
                obtain ⟨y52, hy52⟩ : ∃ z : Int32, z = (6 : Int32) := ⟨_, rfl⟩
                have d_y52 : y52 = fI (sI S22 v0 6 (6 : Int32)) v0 6 := hy52.trans (u2_self _ _ _ _).symm
                refine u_X4_next_240 ?_
                refine ⟨fun c53 => ?_, fun c53 => ?_⟩
                · exact hq _ hI g0 f0 hT
                · refine ⟨o_v0, ?_⟩
                  intro x54 ex54
                  have q_x54 : x54 = y52 := ex54.trans d_y52.symm
                  have d_x54 := ex54
                  refine ⟨fun c55 => ?_, fun c55 => ?_⟩
                  · exact hq _ hI g0 f0 hT
                  · intro x56 ex56
                    have q_x56 : x56 = x44 := ex56.trans d_x44.symm
                    have d_x56 := ex56
                    intro x57 ex57
                    have hI := iv_sI (j := 4) (v := x57) hI o_v0 (by decide) (nu_free (by decide))
                    have f0 : FRI _ _ _ (sI (sI S22 v0 6 (6 : Int32)) v0 4 x57) := fri_sI g0 f0 o_v0 (by decide)
                    have fL3 : FRI _ _ _ (sI (sI S22 v0 6 (6 : Int32)) v0 4 x57) := fri_sI gL2 fL3 o_v0 (by decide)
                    have fL24 : FRI _ _ _ (sI (sI S22 v0 6 (6 : Int32)) v0 4 x57) := fri_sI gL23 fL24 o_v0 (by decide)
                    have d_x45 : x45 = fI (sI (sI S22 v0 6 (6 : Int32)) v0 4 x57) v0 7 := d_x45.trans (rd_j (by decide)).symm
                    have d_x54 : x54 = fI (sI (sI S22 v0 6 (6 : Int32)) v0 4 x57) v0 6 := d_x54.trans (rd_j (by decide)).symm
                    have d_x57 : x57 = fI (sI (sI S22 v0 6 (6 : Int32)) v0 4 x57) v0 4 := (u2_self _ _ _ _).symm
                    exact hq _ hI g0 f0 hT
          · refine ⟨fun c58 => ?_, fun c58 => ?_⟩
            · refine u_X4_next_217 ?_
              refine ⟨fun c59 => ?_, fun c59 => ?_⟩
              · refine u_X4_next_240 ?_
                refine ⟨fun c60 => ?_, fun c60 => ?_⟩
                · exact hq _ hI g0 f0 hT
                · refine ⟨o_v0, ?_⟩
                  intro x61 ex61
                  have q_x61 : x61 = x20 := ex61.trans d_x20.symm
                  have d_x61 := ex61
                  refine ⟨fun c62 => ?_, fun c62 => ?_⟩
                  · exact hq _ hI g0 f0 hT
                  · intro x63 ex63
                    have q_x63 : x63 = y36 := ex63.trans d_y36.symm
                    have d_x63 := ex63
                    intro x64 ex64
                    have hI := iv_sI (j := 4) (v := x64) hI o_v0 (by decide) (nu_free (by decide))
                    have f0 : FRI _ _ _ (sI S22 v0 4 x64) := fri_sI g0 f0 o_v0 (by decide)
                    have fL3 : FRI _ _ _ (sI S22 v0 4 x64) := fri_sI gL2 fL3 o_v0 (by decide)
                    have fL24 : FRI _ _ _ (sI S22 v0 4 x64) := fri_sI gL23 fL24 o_v0 (by decide)
                    have d_x10 : x10 = fI (sI S22 v0 4 x64) v0 7 := d_x10.trans (rd_j (by decide)).symm
                    have d_x61 : x61 = fI (sI S22 v0 4 x64) v0 6 := d_x61.trans (rd_j (by decide)).symm
                    have d_x64 : x64 = fI (sI S22 v0 4 x64) v0 4 := (u2_self _ _ _ _).symm
                    exact hq _ hI g0 f0 hT
              · refine ⟨o_v0, ?_⟩
                intro x65 ex65
                have q_x65 : x65 = y36 := ex65.trans d_y36.symm
                have d_x65 := ex65
                intro x66 ex66
                have q_x66 : x66 = x10 := ex66.trans d_x10.symm
                have d_x66 := ex66
                refine ⟨fun c67 => ?_, fun c67 => ?_⟩
                · refine u_X4_next_240 ?_
                  refine ⟨fun c68 => ?_, fun c68 => ?_⟩
                  · exact hq _ hI g0 f0 hT
                  · refine ⟨o_v0, ?_⟩
                    intro x69 ex69
                    have q_x69 : x69 = x20 := ex69.trans d_x20.symm
                    have d_x69 := ex69
                    refine ⟨fun c70 => ?_, fun c70 => ?_⟩
                    · exact hq _ hI g0 f0 hT
                    · intro x71 ex71
                      have q_x71 : x71 = x65 := ex71.trans d_x65.symm
                      have d_x71 := ex71
                      intro x72 ex72
                      have hI := iv_sI (j := 4) (v := x72) hI o_v0 (by decide) (nu_free (by decide))
                      have f0 : FRI _ _ _ (sI S22 v0 4 x72) := fri_sI g0 f0 o_v0 (by decide)
                      have fL3 : FRI _ _ _ (sI S22 v0 4 x72) := fri_sI gL2 fL3 o_v0 (by decide)
                      have fL24 : FRI _ _ _ (sI S22 v0 4 x72) := fri_sI gL23 fL24 o_v0 (by decide)
                      have d_x66 : x66 = fI (sI S22 v0 4 x72) v0 7 := d_x66.trans (rd_j (by decide)).symm
                      have d_x69 : x69 = fI (sI S22 v0 4 x72) v0 6 := d_x69.trans (rd_j (by decide)).symm
                      have d_x72 : x72 = fI (sI S22 v0 4 x72) v0 4 := (u2_self _ _ _ _).symm
                      exact hq _ hI g0 f0 hT
                · have hI := iv_sI (j := 6) (v := (6 : Int32)) hI o_v0 (by decide) (nu_free (by decide))
                  have f0 : FRI _ _ _ (sI S22 v0 6 (6 : Int32)) := fri_sI g0 f0 o_v0 (by decide)
                  have fL3 : FRI _ _ _ (sI S22 v0 6 (6 : Int32)) := fri_sI gL2 fL3 o_v0 (by decide)
                  have fL24 : FRI _ _ _ (sI S22 v0 6 (6 : Int32)) := fri_sI gL23 fL24 o_v0 (by decide)
                  have d_x66 : x66 = fI (sI S22 v0 6 (6 : Int32)) v0 7 := d_x66.trans (rd_j (by decide)).symm
                  have d_x65 : x65 = fI (sI S22 v0 6 (6 : Int32)) v0 4 := d_x65.trans (rd_j (by decide)).symm
                  obtain ⟨y73, hy73⟩ : ∃ z : Int32, z = (6 : Int32) := ⟨_, rfl⟩
                  have d_y73 : y73 = fI (sI S22 v0 6 (6 : Int32)) v0 6 := hy73.trans (u2_self _ _ _ _).symm
                  refine u_X4_next_240 ?_
                  refine ⟨fun c74 => ?_, fun c74 => ?_⟩
                  · exact hq _ hI g0 f0 hT
                  · refine ⟨o_v0, ?_⟩
                    intro x75 ex75
                    have q_x75 : x75 = y73 := ex75.trans d_y73.symm
                    have d_x75 := ex75
                    refine ⟨fun c76 => ?_, fun c76 => ?_⟩
                    · exact hq _ hI g0 f0 hT
                    · intro x77 ex77
                      have q_x77 : x77 = x65 := ex77.trans d_x65.symm
                      have d_x77 := ex77
                      intro x78 ex78
                      have hI := iv_sI (j := 4) (v := x78) hI o_v0 (by decide) (nu_free (by decide))
                      have f0 : FRI _ _ _ (sI (sI S22 v0 6 (6 : Int32)) v0 4 x78) := fri_sI g0 f0 o_v0 (by decide)
                      have fL3 : FRI _ _ _ (sI (sI S22 v0 6 (6 : Int32)) v0 4 x78) := fri_sI gL2 fL3 o_v0 (by decide)
                      have fL24 : FRI _ _ _ (sI (sI S22 v0 6 (6 : Int32)) v0 4 x78) := fri_sI gL23 fL24 o_v0 (by decide)
                      have d_x66 : x66 = fI (sI (sI S22 v0 6 (6 : Int32)) v0 4 x78) v0 7 := d_x66.trans (rd_j (by decide)).symm
                      have d_x75 : x75 = fI (sI (sI S22 v0 6 (6 : Int32)) v0 4 x78) v0 6 := d_x75.trans (rd_j (by decide)).symm
                      have d_x78 : x78 = fI (sI (sI S22 v0 6 (6 : Int32)) v0 4 x78) v0 4 := (u2_self _ _ _ _).symm
                      exact hq _ hI g0 f0 hT
            · refine ⟨o_v0, ?_⟩
              intro x79 ex79
              have q_x79 : x79 = y36 := ex79.trans d_y36.symm
              have d_x79 := ex79
              refine m_X4_sortAt hI o_v0 hT (fun x80 S81 hI2 g82 p_x80 => ?_)
              obtain ⟨z_S81, p_x80⟩ := p_x80
              subst z_S81
              intro _
              intro x84 ex84
              have q_x84 : x84 = x20 := ex84.trans d_x20.symm
              have d_x84 := ex84
              refine ⟨fun c85 => ?_, fun c85 => ?_⟩
              · refine u_X4_next_217 ?_
                refine ⟨fun c86 => ?_, fun c86 => ?_⟩
                · refine u_X4_next_240 ?_
                  refine ⟨fun c87 => ?_, fun c87 => ?_⟩
                  · exact hq _ hI g0 f0 hT
                  · refine ⟨o_v0, ?_⟩
                    intro x88 ex88
                    have q_x88 : x88 = x84 := ex88.trans d_x84.symm
                    have d_x88 := ex88
                    refine ⟨fun c89 => ?_, fun c89 => ?_⟩
                    · exact hq _ hI g0 f0 hT
                    · intro x90 ex90
                      have q_x90 : x90 = x79 := ex90.trans d_x79.symm
                      have d_x90 := ex90
                      intro x91 ex91
                      have hI := iv_sI (j := 4) (v := x91) hI o_v0 (by decide) (nu_free (by decide))
                      have f0 : FRI _ _ _ (sI S22 v0 4 x91) := fri_sI g0 f0 o_v0 (by decide)
                      have fL3 : FRI _ _ _ (sI S22 v0 4 x91) := fri_sI gL2 fL3 o_v0 (by decide)
                      have fL24 : FRI _ _ _ (sI S22 v0 4 x91) := fri_sI gL23 fL24 o_v0 (by decide)
                      have d_x10 : x10 = fI (sI S22 v0 4 x91) v0 7 := d_x10.trans (rd_j (by decide)).symm
                      have d_x88 : x88 = fI (sI S22 v0 4 x91) v0 6 := d_x88.trans (rd_j (by decide)).symm
                      have d_x91 : x91 = fI (sI S22 v0 4 x91) v0 4 := (u2_self _ _ _ _).symm
                      exact hq _ hI g0 f0 hT
                · refine ⟨o_v0, ?_⟩
                  intro x92 ex92
                  have q_x92 : x92 = x79 := ex92.trans d_x79.symm
                  have d_x92 := ex92
                  intro x93 ex93
                  have q_x93 : x93 = x10 := ex93.trans d_x10.symm
                  have d_x93 := ex93
                  refine ⟨fun c94 => ?_, fun c94 => ?_⟩
                  · refine u_X4_next_240 ?_
                    refine ⟨fun c95 => ?_, fun c95 => ?_⟩
                    · exact hq _ hI g0 f0 hT
                    · refine ⟨o_v0, ?_⟩
                      intro x96 ex96
                      have q_x96 : x96 = x84 := ex96.trans d_x84.symm
                      have d_x96 := ex96
                      refine ⟨fun c97 => ?_, fun c97 => ?_⟩
                      · exact hq _ hI g0 f0 hT
                      · intro x98 ex98
                        have q_x98 : x98 = x92 := ex98.trans d_x92.symm
                        have d_x98 := ex98
                        intro x99 ex99
                        have hI := iv_sI (j := 4) (v := x99) hI o_v0 (by decide) (nu_free (by decide))
                        have f0 : FRI _ _ _ (sI S22 v0 4 x99) := fri_sI g0 f0 o_v0 (by decide)
                        have fL3 : FRI _ _ _ (sI S22 v0 4 x99) := fri_sI gL2 fL3 o_v0 (by decide)
                        have fL24 : FRI _ _ _ (sI S22 v0 4 x99) := fri_sI gL23 fL24 o_v0 (by decide)
                        have d_x93 : x93 = fI (sI S22 v0 4 x99) v0 7 := d_x93.trans (rd_j (by decide)).symm
                        have d_x96 : x96 = fI (sI S22 v0 4 x99) v0 6 := d_x96.trans (rd_j (by decide)).symm
                        have d_x99 : x99 = fI (sI S22 v0 4 x99) v0 4 := (u2_self _ _ _ _).symm
                        exact hq _ hI g0 f0 hT
                  · have hI := iv_sI (j := 6) (v := (6 : Int32)) hI o_v0 (by decide) (nu_free (by decide))
                    have f0 : FRI _ _ _ (sI S22 v0 6 (6 : Int32)) := fri_sI g0 f0 o_v0 (by decide)
                    have fL3 : FRI _ _ _ (sI S22 v0 6 (6 : Int32)) := fri_sI gL2 fL3 o_v0 (by decide)
                    have fL24 : FRI _ _ _ (sI S22 v0 6 (6 : Int32)) := fri_sI gL23 fL24 o_v0 (by decide)
                    have d_x93 : x93 = fI (sI S22 v0 6 (6 : Int32)) v0 7 := d_x93.trans (rd_j (by decide)).symm
                    have d_x92 : x92 = fI (sI S22 v0 6 (6 : Int32)) v0 4 := d_x92.trans (rd_j (by decide)).symm
                    obtain ⟨y100, hy100⟩ : ∃ z : Int32, z = (6 : Int32) := ⟨_, rfl⟩
                    have d_y100 : y100 = fI (sI S22 v0 6 (6 : Int32)) v0 6 := hy100.trans (u2_self _ _ _ _).symm
                    refine u_X4_next_240 ?_
                    refine ⟨fun c101 => ?_, fun c101 => ?_⟩
                    · exact hq _ hI g0 f0 hT
                    · refine ⟨o_v0, ?_⟩
                      intro x102 ex102
                      have q_x102 : x102 = y100 := ex102.trans d_y100.symm
                      have d_x102 := ex102
                      refine ⟨fun c103 => ?_, fun c103 => ?_⟩
                      · exact hq _ hI g0 f0 hT
                      · intro x104 ex104
                        have q_x104 : x104 = x92 := ex104.trans d_x92.symm
                        have d_x104 := ex104
                        intro x105 ex105
                        have hI := iv_sI (j := 4) (v := x105) hI o_v0 (by decide) (nu_free (by decide))
                        have f0 : FRI _ _ _ (sI (sI S22 v0 6 (6 : Int32)) v0 4 x105) := fri_sI g0 f0 o_v0 (by decide)
                        have fL3 : FRI _ _ _ (sI (sI S22 v0 6 (6 : Int32)) v0 4 x105) := fri_sI gL2 fL3 o_v0 (by decide)
                        have fL24 : FRI _ _ _ (sI (sI S22 v0 6 (6 : Int32)) v0 4 x105) := fri_sI gL23 fL24 o_v0 (by decide)
                        have d_x93 : x93 = fI (sI (sI S22 v0 6 (6 : Int32)) v0 4 x105) v0 7 := d_x93.trans (rd_j (by decide)).symm
                        have d_x102 : x102 = fI (sI (sI S22 v0 6 (6 : Int32)) v0 4 x105) v0 6 := d_x102.trans (rd_j (by decide)).symm
                        have d_x105 : x105 = fI (sI (sI S22 v0 6 (6 : Int32)) v0 4 x105) v0 4 := (u2_self _ _ _ _).symm
                        exact hq _ hI g0 f0 hT
              · refine ⟨fun c106 => ?_, fun c106 => ?_⟩
                · refine u_X4_next_201 ?_
                  refine ⟨o_v0, ?_⟩
                  intro x107 ex107
                  have q_x107 : x107 = x79 := ex107.trans d_x79.symm
                  have d_x107 := ex107
                  intro x108 ex108
                  have hI := iv_sI (j := 4) (v := x108) hI o_v0 (by decide) (nu_free (by decide))
                  have f0 : FRI _ _ _ (sI S22 v0 4 x108) := fri_sI g0 f0 o_v0 (by decide)
                  have fL3 : FRI _ _ _ (sI S22 v0 4 x108) := fri_sI gL2 fL3 o_v0 (by decide)
                  have fL24 : FRI _ _ _ (sI S22 v0 4 x108) := fri_sI gL23 fL24 o_v0 (by decide)
                  have d_x10 : x10 = fI (sI S22 v0 4 x108) v0 7 := d_x10.trans (rd_j (by decide)).symm
                  have d_x84 : x84 = fI (sI S22 v0 4 x108) v0 6 := d_x84.trans (rd_j (by decide)).symm
                  have d_x108 : x108 = fI (sI S22 v0 4 x108) v0 4 := (u2_self _ _ _ _).symm
                  intro x109 ex109
                  exact ih35 _ _ _ _ _ _ ⟨hI, gL23, fL24, rfl, rfl, rfl, rfl, hT, (q231 i1 c9 q_x11 p_x12 q_x16 c17 q_x18 c19 q_x20 c21 i1 p_k1 c58 q_x79 p_x80 q_x84 c85 c106 q_x107 ex108 ex109), (by rw [← d_x84, ← d_x108]; exact (q232 i1 c9 q_x11 p_x12 q_x16 c17 q_x18 c19 q_x20 c21 i1 p_k1 c58 q_x79 p_x80 q_x84 c85 c106 q_x107 ex108 ex109))⟩ (mu_up (q233 i1 c9 q_x11 p_x12 q_x16 c17 q_x18 c19 q_x20 c21 i1 p_k1 c58 q_x79 p_x80 q_x84 c85 c106 q_x107 ex108 ex109) (q234 i1 c9 q_x11 p_x12 q_x16 c17 q_x18 c19 q_x20 c21 i1 p_k1 c58 q_x79 p_x80 q_x84 c85 c106 q_x107 ex108 ex109))
                · intro x110 ex110
                  have q_x110 : x110 = x79 := ex110.trans d_x79.symm
                  have d_x110 := ex110
                  obtain ⟨a111, ea111, o_a111, l_a111⟩ := hT
                  refine ⟨a111, ea111, ?_⟩
                  refine ⟨o_a111, ?_⟩
                  have n_a111 : nI (hN S22 a111) = 900 := by rw [show hN S22 a111 = 900 from l_a111]; decide
                  refine ⟨fun c112 => ?_, fun c112 => ?_⟩
                  · rw [n_a111] at c112
                    refine u_X4_next_201 ?_
                    refine ⟨o_v0, ?_⟩
                    intro x113 ex113
                    have q_x113 : x113 = x110 := ex113.trans d_x110.symm
                    have d_x113 := ex113
                    intro x114 ex114
                    have hI := iv_sI (j := 4) (v := x114) hI o_v0 (by decide) (nu_free (by decide))
                    have f0 : FRI _ _ _ (sI S22 v0 4 x114) := fri_sI g0 f0 o_v0 (by decide)
                    have fL3 : FRI _ _ _ (sI S22 v0 4 x114) := fri_sI gL2 fL3 o_v0 (by decide)
                    have fL24 : FRI _ _ _ (sI S22 v0 4 x114) := fri_sI gL23 fL24 o_v0 (by decide)
                    have d_x10 : x10 = fI (sI S22 v0 4 x114) v0 7 := d_x10.trans (rd_j (by decide)).symm
                    have d_x84 : x84 = fI (sI S22 v0 4 x114) v0 6 := d_x84.trans (rd_j (by decide)).symm
                    have d_x114 : x114 = fI (sI S22 v0 4 x114) v0 4 := (u2_self _ _ _ _).symm
                    intro x115 ex115
                    exact ih35 _ _ _ _ _ _ ⟨hI, gL23, fL24, rfl, rfl, rfl, rfl, hT, (q235 i1 c9 q_x11 p_x12 q_x16 c17 q_x18 c19 q_x20 c21 i1 p_k1 c58 q_x79 p_x80 q_x84 c85 c106 q_x110 c112 q_x113 ex114 ex115), (by rw [← d_x84, ← d_x114]; exact (q236 i1 c9 q_x11 p_x12 q_x16 c17 q_x18 c19 q_x20 c21 i1 p_k1 c58 q_x79 p_x80 q_x84 c85 c106 q_x110 c112 q_x113 ex114 ex115))⟩ (mu_up (q237 i1 c9 q_x11 p_x12 q_x16 c17 q_x18 c19 q_x20 c21 i1 p_k1 c58 q_x79 p_x80 q_x84 c85 c106 q_x110 c112 q_x113 ex114 ex115) (q238 i1 c9 q_x11 p_x12 q_x16 c17 q_x18 c19 q_x20 c21 i1 p_k1 c58 q_x79 p_x80 q_x84 c85 c106 q_x110 c112 q_x113 ex114 ex115))
                  · rw [n_a111] at c112
                    intro x116 ex116
                    have dj_x116 := ex116
                    refine ⟨a111, ea111, ?_⟩
                    intro x118 ex118
                    have q_x118 : x118 = x110 := ex118.trans d_x110.symm
                    have d_x118 := ex118
                    refine ⟨o_a111, ?_⟩
                    refine ⟨(vin l_a111 (m := 900) (by decide) (q239 i1 c9 q_x11 p_x12 q_x16 c17 q_x18 c19 q_x20 c21 i1 p_k1 c58 q_x79 p_x80 q_x84 c85 c106 q_x110 c112 q_x118)), ?_⟩
                    intro x119 ex119
                    intro x120 ex120
                    have q_x120 : x120 = x84 := ex120.trans d_x84.symm
                    have d_x120 := ex120
                    refine ⟨fun c121 => ?_, fun c121 => ?_⟩
                    · refine u_X4_next_195 ?_
                      refine ⟨o_v0, ?_⟩
                      intro x122 ex122
                      have hI := iv_sJ (j := 8) (v := x122) hI o_v0 (by decide)
                      refine u_X4_next_201 ?_
                      refine ⟨o_v0, ?_⟩
                      intro x123 ex123
                      have q_x123 : x123 = x118 := ex123.trans d_x118.symm
                      have d_x123 := ex123
                      intro x124 ex124
                      have hI := iv_sI (j := 4) (v := x124) hI o_v0 (by decide) (nu_free (by decide))
                      have f0 : FRI _ _ _ (sI (sJ S22 v0 8 x122) v0 4 x124) := fri_sI g0 f0 o_v0 (by decide)
                      have fL3 : FRI _ _ _ (sI (sJ S22 v0 8 x122) v0 4 x124) := fri_sI gL2 fL3 o_v0 (by decide)
                      have fL24 : FRI _ _ _ (sI (sJ S22 v0 8 x122) v0 4 x124) := fri_sI gL23 fL24 o_v0 (by decide)
                      have d_x10 : x10 = fI (sI (sJ S22 v0 8 x122) v0 4 x124) v0 7 := d_x10.trans (rd_j (by decide)).symm
                      have d_x120 : x120 = fI (sI (sJ S22 v0 8 x122) v0 4 x124) v0 6 := d_x120.trans (rd_j (by decide)).symm
                      have d_x124 : x124 = fI (sI (sJ S22 v0 8 x122) v0 4 x124) v0 4 := (u2_self _ _ _ _).symm
                      intro x125 ex125
                      exact ih35 _ _ _ _ _ _ ⟨hI, gL23, fL24, rfl, rfl, rfl, rfl, hT, (q240 i1 c9 q_x11 p_x12 q_x16 c17 q_x18 c19 q_x20 c21 i1 p_k1 c58 q_x79 p_x80 q_x84 c85 c106 q_x110 c112 q_x118 q_x120 c121 q_x123 ex124 ex125), (by rw [← d_x120, ← d_x124]; exact (q241 i1 c9 q_x11 p_x12 q_x16 c17 q_x18 c19 q_x20 c21 i1 p_k1 c58 q_x79 p_x80 q_x84 c85 c106 q_x110 c112 q_x118 q_x120 c121 q_x123 ex124 ex125))⟩ (mu_up (q242 i1 c9 q_x11 p_x12 q_x16 c17 q_x18 c19 q_x20 c21 i1 p_k1 c58 q_x79 p_x80 q_x84 c85 c106 q_x110 c112 q_x118 q_x120 c121 q_x123 ex124 ex125) (q243 i1 c9 q_x11 p_x12 q_x16 c17 q_x18 c19 q_x20 c21 i1 p_k1 c58 q_x79 p_x80 q_x84 c85 c106 q_x110 c112 q_x118 q_x120 c121 q_x123 ex124 ex125))
                    · refine u_X4_next_195 ?_
                      refine ⟨o_v0, ?_⟩
                      intro x126 ex126
                      have hI := iv_sJ (j := 8) (v := x126) hI o_v0 (by decide)
                      refine u_X4_next_201 ?_
                      refine ⟨o_v0, ?_⟩
                      intro x127 ex127
                      have q_x127 : x127 = x118 := ex127.trans d_x118.symm
                      have d_x127 := ex127
                      intro x128 ex128
                      have hI := iv_sI (j := 4) (v := x128) hI o_v0 (by decide) (nu_free (by decide))
                      have f0 : FRI _ _ _ (sI (sJ S22 v0 8 x126) v0 4 x128) := fri_sI g0 f0 o_v0 (by decide)
                      have fL3 : FRI _ _ _ (sI (sJ S22 v0 8 x126) v0 4 x128) := fri_sI gL2 fL3 o_v0 (by decide)
                      have fL24 : FRI _ _ _ (sI (sJ S22 v0 8 x126) v0 4 x128) := fri_sI gL23 fL24 o_v0 (by decide)
                      have d_x10 : x10 = fI (sI (sJ S22 v0 8 x126) v0 4 x128) v0 7 := d_x10.trans (rd_j (by decide)).symm
                      have d_x120 : x120 = fI (sI (sJ S22 v0 8 x126) v0 4 x128) v0 6 := d_x120.trans (rd_j (by decide)).symm
                      have d_x128 : x128 = fI (sI (sJ S22 v0 8 x126) v0 4 x128) v0 4 := (u2_self _ _ _ _).symm
                      intro x129 ex129
                      exact ih35 _ _ _ _ _ _ ⟨hI, gL23, fL24, rfl, rfl, rfl, rfl, hT, (q244 i1 c9 q_x11 p_x12 q_x16 c17 q_x18 c19 q_x20 c21 i1 p_k1 c58 q_x79 p_x80 q_x84 c85 c106 q_x110 c112 q_x118 q_x120 c121 q_x127 ex128 ex129), (by rw [← d_x120, ← d_x128]; exact (q245 i1 c9 q_x11 p_x12 q_x16 c17 q_x18 c19 q_x20 c21 i1 p_k1 c58 q_x79 p_x80 q_x84 c85 c106 q_x110 c112 q_x118 q_x120 c121 q_x127 ex128 ex129))⟩ (mu_up (q246 i1 c9 q_x11 p_x12 q_x16 c17 q_x18 c19 q_x20 c21 i1 p_k1 c58 q_x79 p_x80 q_x84 c85 c106 q_x110 c112 q_x118 q_x120 c121 q_x127 ex128 ex129) (q247 i1 c9 q_x11 p_x12 q_x16 c17 q_x18 c19 q_x20 c21 i1 p_k1 c58 q_x79 p_x80 q_x84 c85 c106 q_x110 c112 q_x118 q_x120 c121 q_x127 ex128 ex129))
        · refine u_X4_next_114 ?_
          refine i_X4_next_118 (fun (y0 : Nat) (y1 : Int32) (y2 : Int32) (y3 : Int32) (y4 : Int32) (Z : HS) => ((2147483647 : Int32).toInt - y4.toInt).toNat) (fun (y0 : Nat) (y1 : Int32) (y2 : Int32) (y3 : Int32) (y4 : Int32) (Z : HS) => (IV Z) ∧ (Gr (sJ (sI (sI S1 v0 7 x10) v0 6 x12) v0 8 (0 : Int64)) Z) ∧ (FRI [(4, 4)] [] (sJ (sI (sI S1 v0 7 x10) v0 6 x12) v0 8 (0 : Int64)) Z) ∧ (v0 = y0) ∧ ((1 : Int32) = y1) ∧ ((3 : Int32) = y2) ∧ ((32 : Int32) = y3) ∧ (TX Z v0) ∧ (0 ≤ y4) ∧ ((y1 = 0 ∨ fI Z v0 6 = 1 ∨ fI Z v0 6 = 2) ∧ (y1 = 0 → fI Z v0 6 = 0 ∨ (0 ≤ fI Z v0 4 ∧ fI Z v0 4 < 900)))) ?_ _ _ _ _ _ _ ⟨hI, (gr_rf _), (fri_rf _ _ _), rfl, rfl, rfl, rfl, hT, (q248 i1 c9 q_x11 p_x12 q_x16 c17 q_x18 c19 q_x20 c21), (by rw [← d_x20, ← d_x11]; exact (q249 i1 c9 q_x11 p_x12 q_x16 c17 q_x18 c19 q_x20 c21))⟩
          intro w133 w135 w137 w139 w141 S130 X142 ⟨hI, gL131, fL132, q134, q136, q138, q140, hT, i1, k1⟩ ih143
          subst q134
          subst q136
          subst q138
          subst q140
          have d_x10 := d_x10.trans (fri_at fL132 (by decide) (by decide) o_v0).symm
          have d_x20 := d_x20.trans (fri_at fL132 (by decide) (by decide) o_v0).symm
          have f0 := fri_tr g0 f0 fL132 (by decide) (by decide)
          have fL3 := fri_tr gL2 fL3 fL132 (by decide) (by decide)
          have o_v0 := gr_ob gL131 o_v0
          have g0 := gr_tr g0 gL131
          have gL2 := gr_tr gL2 gL131
          obtain ⟨y144, d_y144⟩ : ∃ z : Int32, z = fI S130 v0 4 := ⟨_, rfl⟩
          have p_k1 : ((1 : Int32) = 0 ∨ x20 = 1 ∨ x20 = 2) ∧ ((1 : Int32) = 0 → x20 = 0 ∨ (0 ≤ y144 ∧ y144 < 900)) := by rw [d_x20, d_y144]; exact k1
          refine u_X4_next_118 ?_
          refine ⟨fun c145 => ?_, fun c145 => ?_⟩
          · refine u_X4_next_217 ?_
            refine ⟨fun c146 => ?_, fun c146 => ?_⟩
            · refine u_X4_next_240 ?_
              refine ⟨fun c147 => ?_, fun c147 => ?_⟩
              · exact hq _ hI g0 f0 hT
              · refine ⟨o_v0, ?_⟩
                intro x148 ex148
                have q_x148 : x148 = x20 := ex148.trans d_x20.symm
                have d_x148 := ex148
                refine ⟨fun c149 => ?_, fun c149 => ?_⟩
                · exact hq _ hI g0 f0 hT
                · intro x150 ex150
                  have q_x150 : x150 = y144 := ex150.trans d_y144.symm
                  have d_x150 := ex150
                  intro x151 ex151
                  have hI := iv_sI (j := 4) (v := x151) hI o_v0 (by decide) (nu_free (by decide))
                  have f0 : FRI _ _ _ (sI S130 v0 4 x151) := fri_sI g0 f0 o_v0 (by decide)
                  have fL3 : FRI _ _ _ (sI S130 v0 4 x151) := fri_sI gL2 fL3 o_v0 (by decide)
                  have fL132 : FRI _ _ _ (sI S130 v0 4 x151) := fri_sI gL131 fL132 o_v0 (by decide)
                  have d_x10 : x10 = fI (sI S130 v0 4 x151) v0 7 := d_x10.trans (rd_j (by decide)).symm
                  have d_x148 : x148 = fI (sI S130 v0 4 x151) v0 6 := d_x148.trans (rd_j (by decide)).symm
                  have d_x151 : x151 = fI (sI S130 v0 4 x151) v0 4 := (u2_self _ _ _ _).symm
                  exact hq _ hI g0 f0 hT
            · refine ⟨o_v0, ?_⟩
              intro x152 ex152
              have q_x152 : x152 = y144 := ex152.trans d_y144.symm
              have d_x152 := ex152
              intro x153 ex153
              have q_x153 : x153 = x10 := ex153.trans d_x10.symm
              have d_x153 := ex153
              refine ⟨fun c154 => ?_, fun c154 => ?_⟩
              · refine u_X4_next_240 ?_
                refine ⟨fun c155 => ?_, fun c155 => ?_⟩
                · exact hq _ hI g0 f0 hT
                · refine ⟨o_v0, ?_⟩
                  intro x156 ex156
                  have q_x156 : x156 = x20 := ex156.trans d_x20.symm
                  have d_x156 := ex156
                  refine ⟨fun c157 => ?_, fun c157 => ?_⟩
                  · exact hq _ hI g0 f0 hT
                  · intro x158 ex158
                    have q_x158 : x158 = x152 := ex158.trans d_x152.symm
                    have d_x158 := ex158
                    intro x159 ex159
                    have hI := iv_sI (j := 4) (v := x159) hI o_v0 (by decide) (nu_free (by decide))
                    have f0 : FRI _ _ _ (sI S130 v0 4 x159) := fri_sI g0 f0 o_v0 (by decide)
                    have fL3 : FRI _ _ _ (sI S130 v0 4 x159) := fri_sI gL2 fL3 o_v0 (by decide)
                    have fL132 : FRI _ _ _ (sI S130 v0 4 x159) := fri_sI gL131 fL132 o_v0 (by decide)
                    have d_x153 : x153 = fI (sI S130 v0 4 x159) v0 7 := d_x153.trans (rd_j (by decide)).symm
                    have d_x156 : x156 = fI (sI S130 v0 4 x159) v0 6 := d_x156.trans (rd_j (by decide)).symm
                    have d_x159 : x159 = fI (sI S130 v0 4 x159) v0 4 := (u2_self _ _ _ _).symm
                    exact hq _ hI g0 f0 hT
              · have hI := iv_sI (j := 6) (v := (6 : Int32)) hI o_v0 (by decide) (nu_free (by decide))
                have f0 : FRI _ _ _ (sI S130 v0 6 (6 : Int32)) := fri_sI g0 f0 o_v0 (by decide)
                have fL3 : FRI _ _ _ (sI S130 v0 6 (6 : Int32)) := fri_sI gL2 fL3 o_v0 (by decide)
                have fL132 : FRI _ _ _ (sI S130 v0 6 (6 : Int32)) := fri_sI gL131 fL132 o_v0 (by decide)
                have d_x153 : x153 = fI (sI S130 v0 6 (6 : Int32)) v0 7 := d_x153.trans (rd_j (by decide)).symm
                have d_x152 : x152 = fI (sI S130 v0 6 (6 : Int32)) v0 4 := d_x152.trans (rd_j (by decide)).symm
                obtain ⟨y160, hy160⟩ : ∃ z : Int32, z = (6 : Int32) := ⟨_, rfl⟩
                have d_y160 : y160 = fI (sI S130 v0 6 (6 : Int32)) v0 6 := hy160.trans (u2_self _ _ _ _).symm
                refine u_X4_next_240 ?_
                refine ⟨fun c161 => ?_, fun c161 => ?_⟩
                · exact hq _ hI g0 f0 hT
                · refine ⟨o_v0, ?_⟩
                  intro x162 ex162
                  have q_x162 : x162 = y160 := ex162.trans d_y160.symm
                  have d_x162 := ex162
                  refine ⟨fun c163 => ?_, fun c163 => ?_⟩
                  · exact hq _ hI g0 f0 hT
                  · intro x164 ex164
                    have q_x164 : x164 = x152 := ex164.trans d_x152.symm
                    have d_x164 := ex164
                    intro x165 ex165
                    have hI := iv_sI (j := 4) (v := x165) hI o_v0 (by decide) (nu_free (by decide))
                    have f0 : FRI _ _ _ (sI (sI S130 v0 6 (6 : Int32)) v0 4 x165) := fri_sI g0 f0 o_v0 (by decide)
                    have fL3 : FRI _ _ _ (sI (sI S130 v0 6 (6 : Int32)) v0 4 x165) := fri_sI gL2 fL3 o_v0 (by decide)
                    have fL132 : FRI _ _ _ (sI (sI S130 v0 6 (6 : Int32)) v0 4 x165) := fri_sI gL131 fL132 o_v0 (by decide)
                    have d_x153 : x153 = fI (sI (sI S130 v0 6 (6 : Int32)) v0 4 x165) v0 7 := d_x153.trans (rd_j (by decide)).symm
                    have d_x162 : x162 = fI (sI (sI S130 v0 6 (6 : Int32)) v0 4 x165) v0 6 := d_x162.trans (rd_j (by decide)).symm
                    have d_x165 : x165 = fI (sI (sI S130 v0 6 (6 : Int32)) v0 4 x165) v0 4 := (u2_self _ _ _ _).symm
                    exact hq _ hI g0 f0 hT
          · refine ⟨fun c166 => ?_, fun c166 => ?_⟩
            · refine u_X4_next_217 ?_
              refine ⟨fun c167 => ?_, fun c167 => ?_⟩
              · refine u_X4_next_240 ?_
                refine ⟨fun c168 => ?_, fun c168 => ?_⟩
                · exact hq _ hI g0 f0 hT
                · refine ⟨o_v0, ?_⟩
                  intro x169 ex169
                  have q_x169 : x169 = x20 := ex169.trans d_x20.symm
                  have d_x169 := ex169
                  refine ⟨fun c170 => ?_, fun c170 => ?_⟩
                  · exact hq _ hI g0 f0 hT
                  · intro x171 ex171
                    have q_x171 : x171 = y144 := ex171.trans d_y144.symm
                    have d_x171 := ex171
                    intro x172 ex172
                    have hI := iv_sI (j := 4) (v := x172) hI o_v0 (by decide) (nu_free (by decide))
                    have f0 : FRI _ _ _ (sI S130 v0 4 x172) := fri_sI g0 f0 o_v0 (by decide)
                    have fL3 : FRI _ _ _ (sI S130 v0 4 x172) := fri_sI gL2 fL3 o_v0 (by decide)
                    have fL132 : FRI _ _ _ (sI S130 v0 4 x172) := fri_sI gL131 fL132 o_v0 (by decide)
                    have d_x10 : x10 = fI (sI S130 v0 4 x172) v0 7 := d_x10.trans (rd_j (by decide)).symm
                    have d_x169 : x169 = fI (sI S130 v0 4 x172) v0 6 := d_x169.trans (rd_j (by decide)).symm
                    have d_x172 : x172 = fI (sI S130 v0 4 x172) v0 4 := (u2_self _ _ _ _).symm
                    exact hq _ hI g0 f0 hT
              · refine ⟨o_v0, ?_⟩
                intro x173 ex173
                have q_x173 : x173 = y144 := ex173.trans d_y144.symm
                have d_x173 := ex173
                intro x174 ex174
                have q_x174 : x174 = x10 := ex174.trans d_x10.symm
                have d_x174 := ex174
                refine ⟨fun c175 => ?_, fun c175 => ?_⟩
                · refine u_X4_next_240 ?_
                  refine ⟨fun c176 => ?_, fun c176 => ?_⟩
                  · exact hq _ hI g0 f0 hT
                  · refine ⟨o_v0, ?_⟩
                    intro x177 ex177
                    have q_x177 : x177 = x20 := ex177.trans d_x20.symm
                    have d_x177 := ex177
                    refine ⟨fun c178 => ?_, fun c178 => ?_⟩
                    · exact hq _ hI g0 f0 hT
                    · intro x179 ex179
                      have q_x179 : x179 = x173 := ex179.trans d_x173.symm
                      have d_x179 := ex179
                      intro x180 ex180
                      have hI := iv_sI (j := 4) (v := x180) hI o_v0 (by decide) (nu_free (by decide))
                      have f0 : FRI _ _ _ (sI S130 v0 4 x180) := fri_sI g0 f0 o_v0 (by decide)
                      have fL3 : FRI _ _ _ (sI S130 v0 4 x180) := fri_sI gL2 fL3 o_v0 (by decide)
                      have fL132 : FRI _ _ _ (sI S130 v0 4 x180) := fri_sI gL131 fL132 o_v0 (by decide)
                      have d_x174 : x174 = fI (sI S130 v0 4 x180) v0 7 := d_x174.trans (rd_j (by decide)).symm
                      have d_x177 : x177 = fI (sI S130 v0 4 x180) v0 6 := d_x177.trans (rd_j (by decide)).symm
                      have d_x180 : x180 = fI (sI S130 v0 4 x180) v0 4 := (u2_self _ _ _ _).symm
                      exact hq _ hI g0 f0 hT
                · have hI := iv_sI (j := 6) (v := (6 : Int32)) hI o_v0 (by decide) (nu_free (by decide))
                  have f0 : FRI _ _ _ (sI S130 v0 6 (6 : Int32)) := fri_sI g0 f0 o_v0 (by decide)
                  have fL3 : FRI _ _ _ (sI S130 v0 6 (6 : Int32)) := fri_sI gL2 fL3 o_v0 (by decide)
                  have fL132 : FRI _ _ _ (sI S130 v0 6 (6 : Int32)) := fri_sI gL131 fL132 o_v0 (by decide)
                  have d_x174 : x174 = fI (sI S130 v0 6 (6 : Int32)) v0 7 := d_x174.trans (rd_j (by decide)).symm
                  have d_x173 : x173 = fI (sI S130 v0 6 (6 : Int32)) v0 4 := d_x173.trans (rd_j (by decide)).symm
                  obtain ⟨y181, hy181⟩ : ∃ z : Int32, z = (6 : Int32) := ⟨_, rfl⟩
                  have d_y181 : y181 = fI (sI S130 v0 6 (6 : Int32)) v0 6 := hy181.trans (u2_self _ _ _ _).symm
                  refine u_X4_next_240 ?_
                  refine ⟨fun c182 => ?_, fun c182 => ?_⟩
                  · exact hq _ hI g0 f0 hT
                  · refine ⟨o_v0, ?_⟩
                    intro x183 ex183
                    have q_x183 : x183 = y181 := ex183.trans d_y181.symm
                    have d_x183 := ex183
                    refine ⟨fun c184 => ?_, fun c184 => ?_⟩
                    · exact hq _ hI g0 f0 hT
                    · intro x185 ex185
                      have q_x185 : x185 = x173 := ex185.trans d_x173.symm
                      have d_x185 := ex185
                      intro x186 ex186
                      have hI := iv_sI (j := 4) (v := x186) hI o_v0 (by decide) (nu_free (by decide))
                      have f0 : FRI _ _ _ (sI (sI S130 v0 6 (6 : Int32)) v0 4 x186) := fri_sI g0 f0 o_v0 (by decide)
                      have fL3 : FRI _ _ _ (sI (sI S130 v0 6 (6 : Int32)) v0 4 x186) := fri_sI gL2 fL3 o_v0 (by decide)
                      have fL132 : FRI _ _ _ (sI (sI S130 v0 6 (6 : Int32)) v0 4 x186) := fri_sI gL131 fL132 o_v0 (by decide)
                      have d_x174 : x174 = fI (sI (sI S130 v0 6 (6 : Int32)) v0 4 x186) v0 7 := d_x174.trans (rd_j (by decide)).symm
                      have d_x183 : x183 = fI (sI (sI S130 v0 6 (6 : Int32)) v0 4 x186) v0 6 := d_x183.trans (rd_j (by decide)).symm
                      have d_x186 : x186 = fI (sI (sI S130 v0 6 (6 : Int32)) v0 4 x186) v0 4 := (u2_self _ _ _ _).symm
                      exact hq _ hI g0 f0 hT
            · refine ⟨o_v0, ?_⟩
              intro x187 ex187
              have q_x187 : x187 = y144 := ex187.trans d_y144.symm
              have d_x187 := ex187
              refine m_X4_sortAt hI o_v0 hT (fun x188 S189 hI2 g190 p_x188 => ?_)
              obtain ⟨z_S189, p_x188⟩ := p_x188
              subst z_S189
              intro _
              intro x192 ex192
              have q_x192 : x192 = x20 := ex192.trans d_x20.symm
              have d_x192 := ex192
              refine ⟨fun c193 => ?_, fun c193 => ?_⟩
              · refine u_X4_next_217 ?_
                refine ⟨fun c194 => ?_, fun c194 => ?_⟩
                · refine u_X4_next_240 ?_
                  refine ⟨fun c195 => ?_, fun c195 => ?_⟩
                  · exact hq _ hI g0 f0 hT
                  · refine ⟨o_v0, ?_⟩
                    intro x196 ex196
                    have q_x196 : x196 = x192 := ex196.trans d_x192.symm
                    have d_x196 := ex196
                    refine ⟨fun c197 => ?_, fun c197 => ?_⟩
                    · exact hq _ hI g0 f0 hT
                    · intro x198 ex198
                      have q_x198 : x198 = x187 := ex198.trans d_x187.symm
                      have d_x198 := ex198
                      intro x199 ex199
                      have hI := iv_sI (j := 4) (v := x199) hI o_v0 (by decide) (nu_free (by decide))
                      have f0 : FRI _ _ _ (sI S130 v0 4 x199) := fri_sI g0 f0 o_v0 (by decide)
                      have fL3 : FRI _ _ _ (sI S130 v0 4 x199) := fri_sI gL2 fL3 o_v0 (by decide)
                      have fL132 : FRI _ _ _ (sI S130 v0 4 x199) := fri_sI gL131 fL132 o_v0 (by decide)
                      have d_x10 : x10 = fI (sI S130 v0 4 x199) v0 7 := d_x10.trans (rd_j (by decide)).symm
                      have d_x196 : x196 = fI (sI S130 v0 4 x199) v0 6 := d_x196.trans (rd_j (by decide)).symm
                      have d_x199 : x199 = fI (sI S130 v0 4 x199) v0 4 := (u2_self _ _ _ _).symm
                      exact hq _ hI g0 f0 hT
                · refine ⟨o_v0, ?_⟩
                  intro x200 ex200
                  have q_x200 : x200 = x187 := ex200.trans d_x187.symm
                  have d_x200 := ex200
                  intro x201 ex201
                  have q_x201 : x201 = x10 := ex201.trans d_x10.symm
                  have d_x201 := ex201
                  refine ⟨fun c202 => ?_, fun c202 => ?_⟩
                  · refine u_X4_next_240 ?_
                    refine ⟨fun c203 => ?_, fun c203 => ?_⟩
                    · exact hq _ hI g0 f0 hT
                    · refine ⟨o_v0, ?_⟩
                      intro x204 ex204
                      have q_x204 : x204 = x192 := ex204.trans d_x192.symm
                      have d_x204 := ex204
                      refine ⟨fun c205 => ?_, fun c205 => ?_⟩
                      · exact hq _ hI g0 f0 hT
                      · intro x206 ex206
                        have q_x206 : x206 = x200 := ex206.trans d_x200.symm
                        have d_x206 := ex206
                        intro x207 ex207
                        have hI := iv_sI (j := 4) (v := x207) hI o_v0 (by decide) (nu_free (by decide))
                        have f0 : FRI _ _ _ (sI S130 v0 4 x207) := fri_sI g0 f0 o_v0 (by decide)
                        have fL3 : FRI _ _ _ (sI S130 v0 4 x207) := fri_sI gL2 fL3 o_v0 (by decide)
                        have fL132 : FRI _ _ _ (sI S130 v0 4 x207) := fri_sI gL131 fL132 o_v0 (by decide)
                        have d_x201 : x201 = fI (sI S130 v0 4 x207) v0 7 := d_x201.trans (rd_j (by decide)).symm
                        have d_x204 : x204 = fI (sI S130 v0 4 x207) v0 6 := d_x204.trans (rd_j (by decide)).symm
                        have d_x207 : x207 = fI (sI S130 v0 4 x207) v0 4 := (u2_self _ _ _ _).symm
                        exact hq _ hI g0 f0 hT
                  · have hI := iv_sI (j := 6) (v := (6 : Int32)) hI o_v0 (by decide) (nu_free (by decide))
                    have f0 : FRI _ _ _ (sI S130 v0 6 (6 : Int32)) := fri_sI g0 f0 o_v0 (by decide)
                    have fL3 : FRI _ _ _ (sI S130 v0 6 (6 : Int32)) := fri_sI gL2 fL3 o_v0 (by decide)
                    have fL132 : FRI _ _ _ (sI S130 v0 6 (6 : Int32)) := fri_sI gL131 fL132 o_v0 (by decide)
                    have d_x201 : x201 = fI (sI S130 v0 6 (6 : Int32)) v0 7 := d_x201.trans (rd_j (by decide)).symm
                    have d_x200 : x200 = fI (sI S130 v0 6 (6 : Int32)) v0 4 := d_x200.trans (rd_j (by decide)).symm
                    obtain ⟨y208, hy208⟩ : ∃ z : Int32, z = (6 : Int32) := ⟨_, rfl⟩
                    have d_y208 : y208 = fI (sI S130 v0 6 (6 : Int32)) v0 6 := hy208.trans (u2_self _ _ _ _).symm
                    refine u_X4_next_240 ?_
                    refine ⟨fun c209 => ?_, fun c209 => ?_⟩
                    · exact hq _ hI g0 f0 hT
                    · refine ⟨o_v0, ?_⟩
                      intro x210 ex210
                      have q_x210 : x210 = y208 := ex210.trans d_y208.symm
                      have d_x210 := ex210
                      refine ⟨fun c211 => ?_, fun c211 => ?_⟩
                      · exact hq _ hI g0 f0 hT
                      · intro x212 ex212
                        have q_x212 : x212 = x200 := ex212.trans d_x200.symm
                        have d_x212 := ex212
                        intro x213 ex213
                        have hI := iv_sI (j := 4) (v := x213) hI o_v0 (by decide) (nu_free (by decide))
                        have f0 : FRI _ _ _ (sI (sI S130 v0 6 (6 : Int32)) v0 4 x213) := fri_sI g0 f0 o_v0 (by decide)
                        have fL3 : FRI _ _ _ (sI (sI S130 v0 6 (6 : Int32)) v0 4 x213) := fri_sI gL2 fL3 o_v0 (by decide)
                        have fL132 : FRI _ _ _ (sI (sI S130 v0 6 (6 : Int32)) v0 4 x213) := fri_sI gL131 fL132 o_v0 (by decide)
                        have d_x201 : x201 = fI (sI (sI S130 v0 6 (6 : Int32)) v0 4 x213) v0 7 := d_x201.trans (rd_j (by decide)).symm
                        have d_x210 : x210 = fI (sI (sI S130 v0 6 (6 : Int32)) v0 4 x213) v0 6 := d_x210.trans (rd_j (by decide)).symm
                        have d_x213 : x213 = fI (sI (sI S130 v0 6 (6 : Int32)) v0 4 x213) v0 4 := (u2_self _ _ _ _).symm
                        exact hq _ hI g0 f0 hT
              · refine ⟨fun c214 => ?_, fun c214 => ?_⟩
                · refine u_X4_next_201 ?_
                  refine ⟨o_v0, ?_⟩
                  intro x215 ex215
                  have q_x215 : x215 = x187 := ex215.trans d_x187.symm
                  have d_x215 := ex215
                  intro x216 ex216
                  have hI := iv_sI (j := 4) (v := x216) hI o_v0 (by decide) (nu_free (by decide))
                  have f0 : FRI _ _ _ (sI S130 v0 4 x216) := fri_sI g0 f0 o_v0 (by decide)
                  have fL3 : FRI _ _ _ (sI S130 v0 4 x216) := fri_sI gL2 fL3 o_v0 (by decide)
                  have fL132 : FRI _ _ _ (sI S130 v0 4 x216) := fri_sI gL131 fL132 o_v0 (by decide)
                  have d_x10 : x10 = fI (sI S130 v0 4 x216) v0 7 := d_x10.trans (rd_j (by decide)).symm
                  have d_x192 : x192 = fI (sI S130 v0 4 x216) v0 6 := d_x192.trans (rd_j (by decide)).symm
                  have d_x216 : x216 = fI (sI S130 v0 4 x216) v0 4 := (u2_self _ _ _ _).symm
                  intro x217 ex217
                  exact ih143 _ _ _ _ _ _ ⟨hI, gL131, fL132, rfl, rfl, rfl, rfl, hT, (q250 i1 c9 q_x11 p_x12 q_x16 c17 q_x18 c19 q_x20 c21 i1 p_k1 c166 q_x187 p_x188 q_x192 c193 c214 q_x215 ex216 ex217), (by rw [← d_x192, ← d_x216]; exact (q251 i1 c9 q_x11 p_x12 q_x16 c17 q_x18 c19 q_x20 c21 i1 p_k1 c166 q_x187 p_x188 q_x192 c193 c214 q_x215 ex216 ex217))⟩ (mu_up (q252 i1 c9 q_x11 p_x12 q_x16 c17 q_x18 c19 q_x20 c21 i1 p_k1 c166 q_x187 p_x188 q_x192 c193 c214 q_x215 ex216 ex217) (q253 i1 c9 q_x11 p_x12 q_x16 c17 q_x18 c19 q_x20 c21 i1 p_k1 c166 q_x187 p_x188 q_x192 c193 c214 q_x215 ex216 ex217))
                · intro x218 ex218
                  have q_x218 : x218 = x187 := ex218.trans d_x187.symm
                  have d_x218 := ex218
                  obtain ⟨a219, ea219, o_a219, l_a219⟩ := hT
                  refine ⟨a219, ea219, ?_⟩
                  refine ⟨o_a219, ?_⟩
                  have n_a219 : nI (hN S130 a219) = 900 := by rw [show hN S130 a219 = 900 from l_a219]; decide
                  refine ⟨fun c220 => ?_, fun c220 => ?_⟩
                  · rw [n_a219] at c220
                    refine u_X4_next_201 ?_
                    refine ⟨o_v0, ?_⟩
                    intro x221 ex221
                    have q_x221 : x221 = x218 := ex221.trans d_x218.symm
                    have d_x221 := ex221
                    intro x222 ex222
                    have hI := iv_sI (j := 4) (v := x222) hI o_v0 (by decide) (nu_free (by decide))
                    have f0 : FRI _ _ _ (sI S130 v0 4 x222) := fri_sI g0 f0 o_v0 (by decide)
                    have fL3 : FRI _ _ _ (sI S130 v0 4 x222) := fri_sI gL2 fL3 o_v0 (by decide)
                    have fL132 : FRI _ _ _ (sI S130 v0 4 x222) := fri_sI gL131 fL132 o_v0 (by decide)
                    have d_x10 : x10 = fI (sI S130 v0 4 x222) v0 7 := d_x10.trans (rd_j (by decide)).symm
                    have d_x192 : x192 = fI (sI S130 v0 4 x222) v0 6 := d_x192.trans (rd_j (by decide)).symm
                    have d_x222 : x222 = fI (sI S130 v0 4 x222) v0 4 := (u2_self _ _ _ _).symm
                    intro x223 ex223
                    exact ih143 _ _ _ _ _ _ ⟨hI, gL131, fL132, rfl, rfl, rfl, rfl, hT, (q254 i1 c9 q_x11 p_x12 q_x16 c17 q_x18 c19 q_x20 c21 i1 p_k1 c166 q_x187 p_x188 q_x192 c193 c214 q_x218 c220 q_x221 ex222 ex223), (by rw [← d_x192, ← d_x222]; exact (q255 i1 c9 q_x11 p_x12 q_x16 c17 q_x18 c19 q_x20 c21 i1 p_k1 c166 q_x187 p_x188 q_x192 c193 c214 q_x218 c220 q_x221 ex222 ex223))⟩ (mu_up (q256 i1 c9 q_x11 p_x12 q_x16 c17 q_x18 c19 q_x20 c21 i1 p_k1 c166 q_x187 p_x188 q_x192 c193 c214 q_x218 c220 q_x221 ex222 ex223) (q257 i1 c9 q_x11 p_x12 q_x16 c17 q_x18 c19 q_x20 c21 i1 p_k1 c166 q_x187 p_x188 q_x192 c193 c214 q_x218 c220 q_x221 ex222 ex223))
                  · rw [n_a219] at c220
                    intro x224 ex224
                    have dj_x224 := ex224
                    refine ⟨a219, ea219, ?_⟩
                    intro x226 ex226
                    have q_x226 : x226 = x218 := ex226.trans d_x218.symm
                    have d_x226 := ex226
                    refine ⟨o_a219, ?_⟩
                    refine ⟨(vin l_a219 (m := 900) (by decide) (q258 i1 c9 q_x11 p_x12 q_x16 c17 q_x18 c19 q_x20 c21 i1 p_k1 c166 q_x187 p_x188 q_x192 c193 c214 q_x218 c220 q_x226)), ?_⟩
                    intro x227 ex227
                    intro x228 ex228
                    have q_x228 : x228 = x192 := ex228.trans d_x192.symm
                    have d_x228 := ex228
                    refine ⟨fun c229 => ?_, fun c229 => ?_⟩
                    · refine u_X4_next_195 ?_
                      refine ⟨o_v0, ?_⟩
                      intro x230 ex230
                      have hI := iv_sJ (j := 8) (v := x230) hI o_v0 (by decide)
                      refine u_X4_next_201 ?_
                      refine ⟨o_v0, ?_⟩
                      intro x231 ex231
                      have q_x231 : x231 = x226 := ex231.trans d_x226.symm
                      have d_x231 := ex231
                      intro x232 ex232
                      have hI := iv_sI (j := 4) (v := x232) hI o_v0 (by decide) (nu_free (by decide))
                      have f0 : FRI _ _ _ (sI (sJ S130 v0 8 x230) v0 4 x232) := fri_sI g0 f0 o_v0 (by decide)
                      have fL3 : FRI _ _ _ (sI (sJ S130 v0 8 x230) v0 4 x232) := fri_sI gL2 fL3 o_v0 (by decide)
                      have fL132 : FRI _ _ _ (sI (sJ S130 v0 8 x230) v0 4 x232) := fri_sI gL131 fL132 o_v0 (by decide)
                      have d_x10 : x10 = fI (sI (sJ S130 v0 8 x230) v0 4 x232) v0 7 := d_x10.trans (rd_j (by decide)).symm
                      have d_x228 : x228 = fI (sI (sJ S130 v0 8 x230) v0 4 x232) v0 6 := d_x228.trans (rd_j (by decide)).symm
                      have d_x232 : x232 = fI (sI (sJ S130 v0 8 x230) v0 4 x232) v0 4 := (u2_self _ _ _ _).symm
                      intro x233 ex233
                      exact ih143 _ _ _ _ _ _ ⟨hI, gL131, fL132, rfl, rfl, rfl, rfl, hT, (q259 i1 c9 q_x11 p_x12 q_x16 c17 q_x18 c19 q_x20 c21 i1 p_k1 c166 q_x187 p_x188 q_x192 c193 c214 q_x218 c220 q_x226 q_x228 c229 q_x231 ex232 ex233), (by rw [← d_x228, ← d_x232]; exact (q260 i1 c9 q_x11 p_x12 q_x16 c17 q_x18 c19 q_x20 c21 i1 p_k1 c166 q_x187 p_x188 q_x192 c193 c214 q_x218 c220 q_x226 q_x228 c229 q_x231 ex232 ex233))⟩ (mu_up (q261 i1 c9 q_x11 p_x12 q_x16 c17 q_x18 c19 q_x20 c21 i1 p_k1 c166 q_x187 p_x188 q_x192 c193 c214 q_x218 c220 q_x226 q_x228 c229 q_x231 ex232 ex233) (q262 i1 c9 q_x11 p_x12 q_x16 c17 q_x18 c19 q_x20 c21 i1 p_k1 c166 q_x187 p_x188 q_x192 c193 c214 q_x218 c220 q_x226 q_x228 c229 q_x231 ex232 ex233))
                    · refine u_X4_next_195 ?_
                      refine ⟨o_v0, ?_⟩
                      intro x234 ex234
                      have hI := iv_sJ (j := 8) (v := x234) hI o_v0 (by decide)
                      refine u_X4_next_201 ?_
                      refine ⟨o_v0, ?_⟩
                      intro x235 ex235
                      have q_x235 : x235 = x226 := ex235.trans d_x226.symm
                      have d_x235 := ex235
                      intro x236 ex236
                      have hI := iv_sI (j := 4) (v := x236) hI o_v0 (by decide) (nu_free (by decide))
                      have f0 : FRI _ _ _ (sI (sJ S130 v0 8 x234) v0 4 x236) := fri_sI g0 f0 o_v0 (by decide)
                      have fL3 : FRI _ _ _ (sI (sJ S130 v0 8 x234) v0 4 x236) := fri_sI gL2 fL3 o_v0 (by decide)
                      have fL132 : FRI _ _ _ (sI (sJ S130 v0 8 x234) v0 4 x236) := fri_sI gL131 fL132 o_v0 (by decide)
                      have d_x10 : x10 = fI (sI (sJ S130 v0 8 x234) v0 4 x236) v0 7 := d_x10.trans (rd_j (by decide)).symm
                      have d_x228 : x228 = fI (sI (sJ S130 v0 8 x234) v0 4 x236) v0 6 := d_x228.trans (rd_j (by decide)).symm
                      have d_x236 : x236 = fI (sI (sJ S130 v0 8 x234) v0 4 x236) v0 4 := (u2_self _ _ _ _).symm
                      intro x237 ex237
                      exact ih143 _ _ _ _ _ _ ⟨hI, gL131, fL132, rfl, rfl, rfl, rfl, hT, (q263 i1 c9 q_x11 p_x12 q_x16 c17 q_x18 c19 q_x20 c21 i1 p_k1 c166 q_x187 p_x188 q_x192 c193 c214 q_x218 c220 q_x226 q_x228 c229 q_x235 ex236 ex237), (by rw [← d_x228, ← d_x236]; exact (q264 i1 c9 q_x11 p_x12 q_x16 c17 q_x18 c19 q_x20 c21 i1 p_k1 c166 q_x187 p_x188 q_x192 c193 c214 q_x218 c220 q_x226 q_x228 c229 q_x235 ex236 ex237))⟩ (mu_up (q265 i1 c9 q_x11 p_x12 q_x16 c17 q_x18 c19 q_x20 c21 i1 p_k1 c166 q_x187 p_x188 q_x192 c193 c214 q_x218 c220 q_x226 q_x228 c229 q_x235 ex236 ex237) (q266 i1 c9 q_x11 p_x12 q_x16 c17 q_x18 c19 q_x20 c21 i1 p_k1 c166 q_x187 p_x188 q_x192 c193 c214 q_x218 c220 q_x226 q_x228 c229 q_x235 ex236 ex237))
      · refine u_X4_next_98 ?_
        refine ⟨o_v0, ?_⟩
        intro x238 ex238
        have q_x238 : x238 = x18 := ex238.trans d_x18.symm
        have d_x238 := ex238
        refine ⟨fun c239 => ?_, fun c239 => ?_⟩
        · refine u_X4_next_114 ?_
          refine i_X4_next_118 (fun (y0 : Nat) (y1 : Int32) (y2 : Int32) (y3 : Int32) (y4 : Int32) (Z : HS) => ((2147483647 : Int32).toInt - y4.toInt).toNat) (fun (y0 : Nat) (y1 : Int32) (y2 : Int32) (y3 : Int32) (y4 : Int32) (Z : HS) => (IV Z) ∧ (Gr (sJ (sI (sI S1 v0 7 x10) v0 6 x12) v0 8 (0 : Int64)) Z) ∧ (FRI [(4, 4)] [] (sJ (sI (sI S1 v0 7 x10) v0 6 x12) v0 8 (0 : Int64)) Z) ∧ (v0 = y0) ∧ ((1 : Int32) = y1) ∧ ((8 : Int32) = y2) ∧ ((10 : Int32) = y3) ∧ (TX Z v0) ∧ (0 ≤ y4) ∧ ((y1 = 0 ∨ fI Z v0 6 = 1 ∨ fI Z v0 6 = 2) ∧ (y1 = 0 → fI Z v0 6 = 0 ∨ (0 ≤ fI Z v0 4 ∧ fI Z v0 4 < 900)))) ?_ _ _ _ _ _ _ ⟨hI, (gr_rf _), (fri_rf _ _ _), rfl, rfl, rfl, rfl, hT, (q267 i1 c9 q_x11 p_x12 q_x16 c17 q_x18 c19 q_x238 c239), (by rw [← d_x238, ← d_x11]; exact (q268 i1 c9 q_x11 p_x12 q_x16 c17 q_x18 c19 q_x238 c239))⟩
          intro w243 w245 w247 w249 w251 S240 X252 ⟨hI, gL241, fL242, q244, q246, q248, q250, hT, i1, k1⟩ ih253
          subst q244
          subst q246
          subst q248
          subst q250
          have d_x10 := d_x10.trans (fri_at fL242 (by decide) (by decide) o_v0).symm
          have d_x238 := d_x238.trans (fri_at fL242 (by decide) (by decide) o_v0).symm
          have f0 := fri_tr g0 f0 fL242 (by decide) (by decide)
          have fL3 := fri_tr gL2 fL3 fL242 (by decide) (by decide)
          have o_v0 := gr_ob gL241 o_v0
          have g0 := gr_tr g0 gL241
          have gL2 := gr_tr gL2 gL241
          obtain ⟨y254, d_y254⟩ : ∃ z : Int32, z = fI S240 v0 4 := ⟨_, rfl⟩
          have p_k1 : ((1 : Int32) = 0 ∨ x238 = 1 ∨ x238 = 2) ∧ ((1 : Int32) = 0 → x238 = 0 ∨ (0 ≤ y254 ∧ y254 < 900)) := by rw [d_x238, d_y254]; exact k1
          refine u_X4_next_118 ?_
          refine ⟨fun c255 => ?_, fun c255 => ?_⟩
          · refine u_X4_next_217 ?_
            refine ⟨fun c256 => ?_, fun c256 => ?_⟩
            · refine u_X4_next_240 ?_
              refine ⟨fun c257 => ?_, fun c257 => ?_⟩
              · exact hq _ hI g0 f0 hT
              · refine ⟨o_v0, ?_⟩
                intro x258 ex258
                have q_x258 : x258 = x238 := ex258.trans d_x238.symm
                have d_x258 := ex258
                refine ⟨fun c259 => ?_, fun c259 => ?_⟩
                · exact hq _ hI g0 f0 hT
                · intro x260 ex260
                  have q_x260 : x260 = y254 := ex260.trans d_y254.symm
                  have d_x260 := ex260
                  intro x261 ex261
                  have hI := iv_sI (j := 4) (v := x261) hI o_v0 (by decide) (nu_free (by decide))
                  have f0 : FRI _ _ _ (sI S240 v0 4 x261) := fri_sI g0 f0 o_v0 (by decide)
                  have fL3 : FRI _ _ _ (sI S240 v0 4 x261) := fri_sI gL2 fL3 o_v0 (by decide)
                  have fL242 : FRI _ _ _ (sI S240 v0 4 x261) := fri_sI gL241 fL242 o_v0 (by decide)
                  have d_x10 : x10 = fI (sI S240 v0 4 x261) v0 7 := d_x10.trans (rd_j (by decide)).symm
                  have d_x258 : x258 = fI (sI S240 v0 4 x261) v0 6 := d_x258.trans (rd_j (by decide)).symm
                  have d_x261 : x261 = fI (sI S240 v0 4 x261) v0 4 := (u2_self _ _ _ _).symm
                  exact hq _ hI g0 f0 hT
            · refine ⟨o_v0, ?_⟩
              intro x262 ex262
              have q_x262 : x262 = y254 := ex262.trans d_y254.symm
              have d_x262 := ex262
              intro x263 ex263
              have q_x263 : x263 = x10 := ex263.trans d_x10.symm
              have d_x263 := ex263
              refine ⟨fun c264 => ?_, fun c264 => ?_⟩
              · refine u_X4_next_240 ?_
                refine ⟨fun c265 => ?_, fun c265 => ?_⟩
                · exact hq _ hI g0 f0 hT
                · refine ⟨o_v0, ?_⟩
                  intro x266 ex266
                  have q_x266 : x266 = x238 := ex266.trans d_x238.symm
                  have d_x266 := ex266
                  refine ⟨fun c267 => ?_, fun c267 => ?_⟩
                  · exact hq _ hI g0 f0 hT
                  · intro x268 ex268
                    have q_x268 : x268 = x262 := ex268.trans d_x262.symm
                    have d_x268 := ex268
                    intro x269 ex269
                    have hI := iv_sI (j := 4) (v := x269) hI o_v0 (by decide) (nu_free (by decide))
                    have f0 : FRI _ _ _ (sI S240 v0 4 x269) := fri_sI g0 f0 o_v0 (by decide)
                    have fL3 : FRI _ _ _ (sI S240 v0 4 x269) := fri_sI gL2 fL3 o_v0 (by decide)
                    have fL242 : FRI _ _ _ (sI S240 v0 4 x269) := fri_sI gL241 fL242 o_v0 (by decide)
                    have d_x263 : x263 = fI (sI S240 v0 4 x269) v0 7 := d_x263.trans (rd_j (by decide)).symm
                    have d_x266 : x266 = fI (sI S240 v0 4 x269) v0 6 := d_x266.trans (rd_j (by decide)).symm
                    have d_x269 : x269 = fI (sI S240 v0 4 x269) v0 4 := (u2_self _ _ _ _).symm
                    exact hq _ hI g0 f0 hT
              · have hI := iv_sI (j := 6) (v := (6 : Int32)) hI o_v0 (by decide) (nu_free (by decide))
                have f0 : FRI _ _ _ (sI S240 v0 6 (6 : Int32)) := fri_sI g0 f0 o_v0 (by decide)
                have fL3 : FRI _ _ _ (sI S240 v0 6 (6 : Int32)) := fri_sI gL2 fL3 o_v0 (by decide)
                have fL242 : FRI _ _ _ (sI S240 v0 6 (6 : Int32)) := fri_sI gL241 fL242 o_v0 (by decide)
                have d_x263 : x263 = fI (sI S240 v0 6 (6 : Int32)) v0 7 := d_x263.trans (rd_j (by decide)).symm
                have d_x262 : x262 = fI (sI S240 v0 6 (6 : Int32)) v0 4 := d_x262.trans (rd_j (by decide)).symm
                obtain ⟨y270, hy270⟩ : ∃ z : Int32, z = (6 : Int32) := ⟨_, rfl⟩
                have d_y270 : y270 = fI (sI S240 v0 6 (6 : Int32)) v0 6 := hy270.trans (u2_self _ _ _ _).symm
                refine u_X4_next_240 ?_
                refine ⟨fun c271 => ?_, fun c271 => ?_⟩
                · exact hq _ hI g0 f0 hT
                · refine ⟨o_v0, ?_⟩
                  intro x272 ex272
                  have q_x272 : x272 = y270 := ex272.trans d_y270.symm
                  have d_x272 := ex272
                  refine ⟨fun c273 => ?_, fun c273 => ?_⟩
                  · exact hq _ hI g0 f0 hT
                  · intro x274 ex274
                    have q_x274 : x274 = x262 := ex274.trans d_x262.symm
                    have d_x274 := ex274
                    intro x275 ex275
                    have hI := iv_sI (j := 4) (v := x275) hI o_v0 (by decide) (nu_free (by decide))
                    have f0 : FRI _ _ _ (sI (sI S240 v0 6 (6 : Int32)) v0 4 x275) := fri_sI g0 f0 o_v0 (by decide)
                    have fL3 : FRI _ _ _ (sI (sI S240 v0 6 (6 : Int32)) v0 4 x275) := fri_sI gL2 fL3 o_v0 (by decide)
                    have fL242 : FRI _ _ _ (sI (sI S240 v0 6 (6 : Int32)) v0 4 x275) := fri_sI gL241 fL242 o_v0 (by decide)
                    have d_x263 : x263 = fI (sI (sI S240 v0 6 (6 : Int32)) v0 4 x275) v0 7 := d_x263.trans (rd_j (by decide)).symm
                    have d_x272 : x272 = fI (sI (sI S240 v0 6 (6 : Int32)) v0 4 x275) v0 6 := d_x272.trans (rd_j (by decide)).symm
                    have d_x275 : x275 = fI (sI (sI S240 v0 6 (6 : Int32)) v0 4 x275) v0 4 := (u2_self _ _ _ _).symm
                    exact hq _ hI g0 f0 hT
          · refine ⟨fun c276 => ?_, fun c276 => ?_⟩
            · refine u_X4_next_217 ?_
              refine ⟨fun c277 => ?_, fun c277 => ?_⟩
              · refine u_X4_next_240 ?_
                refine ⟨fun c278 => ?_, fun c278 => ?_⟩
                · exact hq _ hI g0 f0 hT
                · refine ⟨o_v0, ?_⟩
                  intro x279 ex279
                  have q_x279 : x279 = x238 := ex279.trans d_x238.symm
                  have d_x279 := ex279
                  refine ⟨fun c280 => ?_, fun c280 => ?_⟩
                  · exact hq _ hI g0 f0 hT
                  · intro x281 ex281
                    have q_x281 : x281 = y254 := ex281.trans d_y254.symm
                    have d_x281 := ex281
                    intro x282 ex282
                    have hI := iv_sI (j := 4) (v := x282) hI o_v0 (by decide) (nu_free (by decide))
                    have f0 : FRI _ _ _ (sI S240 v0 4 x282) := fri_sI g0 f0 o_v0 (by decide)
                    have fL3 : FRI _ _ _ (sI S240 v0 4 x282) := fri_sI gL2 fL3 o_v0 (by decide)
                    have fL242 : FRI _ _ _ (sI S240 v0 4 x282) := fri_sI gL241 fL242 o_v0 (by decide)
                    have d_x10 : x10 = fI (sI S240 v0 4 x282) v0 7 := d_x10.trans (rd_j (by decide)).symm
                    have d_x279 : x279 = fI (sI S240 v0 4 x282) v0 6 := d_x279.trans (rd_j (by decide)).symm
                    have d_x282 : x282 = fI (sI S240 v0 4 x282) v0 4 := (u2_self _ _ _ _).symm
                    exact hq _ hI g0 f0 hT
              · refine ⟨o_v0, ?_⟩
                intro x283 ex283
                have q_x283 : x283 = y254 := ex283.trans d_y254.symm
                have d_x283 := ex283
                intro x284 ex284
                have q_x284 : x284 = x10 := ex284.trans d_x10.symm
                have d_x284 := ex284
                refine ⟨fun c285 => ?_, fun c285 => ?_⟩
                · refine u_X4_next_240 ?_
                  refine ⟨fun c286 => ?_, fun c286 => ?_⟩
                  · exact hq _ hI g0 f0 hT
                  · refine ⟨o_v0, ?_⟩
                    intro x287 ex287
                    have q_x287 : x287 = x238 := ex287.trans d_x238.symm
                    have d_x287 := ex287
                    refine ⟨fun c288 => ?_, fun c288 => ?_⟩
                    · exact hq _ hI g0 f0 hT
                    · intro x289 ex289
                      have q_x289 : x289 = x283 := ex289.trans d_x283.symm
                      have d_x289 := ex289
                      intro x290 ex290
                      have hI := iv_sI (j := 4) (v := x290) hI o_v0 (by decide) (nu_free (by decide))
                      have f0 : FRI _ _ _ (sI S240 v0 4 x290) := fri_sI g0 f0 o_v0 (by decide)
                      have fL3 : FRI _ _ _ (sI S240 v0 4 x290) := fri_sI gL2 fL3 o_v0 (by decide)
                      have fL242 : FRI _ _ _ (sI S240 v0 4 x290) := fri_sI gL241 fL242 o_v0 (by decide)
                      have d_x284 : x284 = fI (sI S240 v0 4 x290) v0 7 := d_x284.trans (rd_j (by decide)).symm
                      have d_x287 : x287 = fI (sI S240 v0 4 x290) v0 6 := d_x287.trans (rd_j (by decide)).symm
                      have d_x290 : x290 = fI (sI S240 v0 4 x290) v0 4 := (u2_self _ _ _ _).symm
                      exact hq _ hI g0 f0 hT
                · have hI := iv_sI (j := 6) (v := (6 : Int32)) hI o_v0 (by decide) (nu_free (by decide))
                  have f0 : FRI _ _ _ (sI S240 v0 6 (6 : Int32)) := fri_sI g0 f0 o_v0 (by decide)
                  have fL3 : FRI _ _ _ (sI S240 v0 6 (6 : Int32)) := fri_sI gL2 fL3 o_v0 (by decide)
                  have fL242 : FRI _ _ _ (sI S240 v0 6 (6 : Int32)) := fri_sI gL241 fL242 o_v0 (by decide)
                  have d_x284 : x284 = fI (sI S240 v0 6 (6 : Int32)) v0 7 := d_x284.trans (rd_j (by decide)).symm
                  have d_x283 : x283 = fI (sI S240 v0 6 (6 : Int32)) v0 4 := d_x283.trans (rd_j (by decide)).symm
                  obtain ⟨y291, hy291⟩ : ∃ z : Int32, z = (6 : Int32) := ⟨_, rfl⟩
                  have d_y291 : y291 = fI (sI S240 v0 6 (6 : Int32)) v0 6 := hy291.trans (u2_self _ _ _ _).symm
                  refine u_X4_next_240 ?_
                  refine ⟨fun c292 => ?_, fun c292 => ?_⟩
                  · exact hq _ hI g0 f0 hT
                  · refine ⟨o_v0, ?_⟩
                    intro x293 ex293
                    have q_x293 : x293 = y291 := ex293.trans d_y291.symm
                    have d_x293 := ex293
                    refine ⟨fun c294 => ?_, fun c294 => ?_⟩
                    · exact hq _ hI g0 f0 hT
                    · intro x295 ex295
                      have q_x295 : x295 = x283 := ex295.trans d_x283.symm
                      have d_x295 := ex295
                      intro x296 ex296
                      have hI := iv_sI (j := 4) (v := x296) hI o_v0 (by decide) (nu_free (by decide))
                      have f0 : FRI _ _ _ (sI (sI S240 v0 6 (6 : Int32)) v0 4 x296) := fri_sI g0 f0 o_v0 (by decide)
                      have fL3 : FRI _ _ _ (sI (sI S240 v0 6 (6 : Int32)) v0 4 x296) := fri_sI gL2 fL3 o_v0 (by decide)
                      have fL242 : FRI _ _ _ (sI (sI S240 v0 6 (6 : Int32)) v0 4 x296) := fri_sI gL241 fL242 o_v0 (by decide)
                      have d_x284 : x284 = fI (sI (sI S240 v0 6 (6 : Int32)) v0 4 x296) v0 7 := d_x284.trans (rd_j (by decide)).symm
                      have d_x293 : x293 = fI (sI (sI S240 v0 6 (6 : Int32)) v0 4 x296) v0 6 := d_x293.trans (rd_j (by decide)).symm
                      have d_x296 : x296 = fI (sI (sI S240 v0 6 (6 : Int32)) v0 4 x296) v0 4 := (u2_self _ _ _ _).symm
                      exact hq _ hI g0 f0 hT
            · refine ⟨o_v0, ?_⟩
              intro x297 ex297
              have q_x297 : x297 = y254 := ex297.trans d_y254.symm
              have d_x297 := ex297
              refine m_X4_sortAt hI o_v0 hT (fun x298 S299 hI2 g300 p_x298 => ?_)
              obtain ⟨z_S299, p_x298⟩ := p_x298
              subst z_S299
              intro _
              intro x302 ex302
              have q_x302 : x302 = x238 := ex302.trans d_x238.symm
              have d_x302 := ex302
              refine ⟨fun c303 => ?_, fun c303 => ?_⟩
              · refine u_X4_next_217 ?_
                refine ⟨fun c304 => ?_, fun c304 => ?_⟩
                · refine u_X4_next_240 ?_
                  refine ⟨fun c305 => ?_, fun c305 => ?_⟩
                  · exact hq _ hI g0 f0 hT
                  · refine ⟨o_v0, ?_⟩
                    intro x306 ex306
                    have q_x306 : x306 = x302 := ex306.trans d_x302.symm
                    have d_x306 := ex306
                    refine ⟨fun c307 => ?_, fun c307 => ?_⟩
                    · exact hq _ hI g0 f0 hT
                    · intro x308 ex308
                      have q_x308 : x308 = x297 := ex308.trans d_x297.symm
                      have d_x308 := ex308
                      intro x309 ex309
                      have hI := iv_sI (j := 4) (v := x309) hI o_v0 (by decide) (nu_free (by decide))
                      have f0 : FRI _ _ _ (sI S240 v0 4 x309) := fri_sI g0 f0 o_v0 (by decide)
                      have fL3 : FRI _ _ _ (sI S240 v0 4 x309) := fri_sI gL2 fL3 o_v0 (by decide)
                      have fL242 : FRI _ _ _ (sI S240 v0 4 x309) := fri_sI gL241 fL242 o_v0 (by decide)
                      have d_x10 : x10 = fI (sI S240 v0 4 x309) v0 7 := d_x10.trans (rd_j (by decide)).symm
                      have d_x306 : x306 = fI (sI S240 v0 4 x309) v0 6 := d_x306.trans (rd_j (by decide)).symm
                      have d_x309 : x309 = fI (sI S240 v0 4 x309) v0 4 := (u2_self _ _ _ _).symm
                      exact hq _ hI g0 f0 hT
                · refine ⟨o_v0, ?_⟩
                  intro x310 ex310
                  have q_x310 : x310 = x297 := ex310.trans d_x297.symm
                  have d_x310 := ex310
                  intro x311 ex311
                  have q_x311 : x311 = x10 := ex311.trans d_x10.symm
                  have d_x311 := ex311
                  refine ⟨fun c312 => ?_, fun c312 => ?_⟩
                  · refine u_X4_next_240 ?_
                    refine ⟨fun c313 => ?_, fun c313 => ?_⟩
                    · exact hq _ hI g0 f0 hT
                    · refine ⟨o_v0, ?_⟩
                      intro x314 ex314
                      have q_x314 : x314 = x302 := ex314.trans d_x302.symm
                      have d_x314 := ex314
                      refine ⟨fun c315 => ?_, fun c315 => ?_⟩
                      · exact hq _ hI g0 f0 hT
                      · intro x316 ex316
                        have q_x316 : x316 = x310 := ex316.trans d_x310.symm
                        have d_x316 := ex316
                        intro x317 ex317
                        have hI := iv_sI (j := 4) (v := x317) hI o_v0 (by decide) (nu_free (by decide))
                        have f0 : FRI _ _ _ (sI S240 v0 4 x317) := fri_sI g0 f0 o_v0 (by decide)
                        have fL3 : FRI _ _ _ (sI S240 v0 4 x317) := fri_sI gL2 fL3 o_v0 (by decide)
                        have fL242 : FRI _ _ _ (sI S240 v0 4 x317) := fri_sI gL241 fL242 o_v0 (by decide)
                        have d_x311 : x311 = fI (sI S240 v0 4 x317) v0 7 := d_x311.trans (rd_j (by decide)).symm
                        have d_x314 : x314 = fI (sI S240 v0 4 x317) v0 6 := d_x314.trans (rd_j (by decide)).symm
                        have d_x317 : x317 = fI (sI S240 v0 4 x317) v0 4 := (u2_self _ _ _ _).symm
                        exact hq _ hI g0 f0 hT
                  · have hI := iv_sI (j := 6) (v := (6 : Int32)) hI o_v0 (by decide) (nu_free (by decide))
                    have f0 : FRI _ _ _ (sI S240 v0 6 (6 : Int32)) := fri_sI g0 f0 o_v0 (by decide)
                    have fL3 : FRI _ _ _ (sI S240 v0 6 (6 : Int32)) := fri_sI gL2 fL3 o_v0 (by decide)
                    have fL242 : FRI _ _ _ (sI S240 v0 6 (6 : Int32)) := fri_sI gL241 fL242 o_v0 (by decide)
                    have d_x311 : x311 = fI (sI S240 v0 6 (6 : Int32)) v0 7 := d_x311.trans (rd_j (by decide)).symm
                    have d_x310 : x310 = fI (sI S240 v0 6 (6 : Int32)) v0 4 := d_x310.trans (rd_j (by decide)).symm
                    obtain ⟨y318, hy318⟩ : ∃ z : Int32, z = (6 : Int32) := ⟨_, rfl⟩
                    have d_y318 : y318 = fI (sI S240 v0 6 (6 : Int32)) v0 6 := hy318.trans (u2_self _ _ _ _).symm
                    refine u_X4_next_240 ?_
                    refine ⟨fun c319 => ?_, fun c319 => ?_⟩
                    · exact hq _ hI g0 f0 hT
                    · refine ⟨o_v0, ?_⟩
                      intro x320 ex320
                      have q_x320 : x320 = y318 := ex320.trans d_y318.symm
                      have d_x320 := ex320
                      refine ⟨fun c321 => ?_, fun c321 => ?_⟩
                      · exact hq _ hI g0 f0 hT
                      · intro x322 ex322
                        have q_x322 : x322 = x310 := ex322.trans d_x310.symm
                        have d_x322 := ex322
                        intro x323 ex323
                        have hI := iv_sI (j := 4) (v := x323) hI o_v0 (by decide) (nu_free (by decide))
                        have f0 : FRI _ _ _ (sI (sI S240 v0 6 (6 : Int32)) v0 4 x323) := fri_sI g0 f0 o_v0 (by decide)
                        have fL3 : FRI _ _ _ (sI (sI S240 v0 6 (6 : Int32)) v0 4 x323) := fri_sI gL2 fL3 o_v0 (by decide)
                        have fL242 : FRI _ _ _ (sI (sI S240 v0 6 (6 : Int32)) v0 4 x323) := fri_sI gL241 fL242 o_v0 (by decide)
                        have d_x311 : x311 = fI (sI (sI S240 v0 6 (6 : Int32)) v0 4 x323) v0 7 := d_x311.trans (rd_j (by decide)).symm
                        have d_x320 : x320 = fI (sI (sI S240 v0 6 (6 : Int32)) v0 4 x323) v0 6 := d_x320.trans (rd_j (by decide)).symm
                        have d_x323 : x323 = fI (sI (sI S240 v0 6 (6 : Int32)) v0 4 x323) v0 4 := (u2_self _ _ _ _).symm
                        exact hq _ hI g0 f0 hT
              · refine ⟨fun c324 => ?_, fun c324 => ?_⟩
                · refine u_X4_next_201 ?_
                  refine ⟨o_v0, ?_⟩
                  intro x325 ex325
                  have q_x325 : x325 = x297 := ex325.trans d_x297.symm
                  have d_x325 := ex325
                  intro x326 ex326
                  have hI := iv_sI (j := 4) (v := x326) hI o_v0 (by decide) (nu_free (by decide))
                  have f0 : FRI _ _ _ (sI S240 v0 4 x326) := fri_sI g0 f0 o_v0 (by decide)
                  have fL3 : FRI _ _ _ (sI S240 v0 4 x326) := fri_sI gL2 fL3 o_v0 (by decide)
                  have fL242 : FRI _ _ _ (sI S240 v0 4 x326) := fri_sI gL241 fL242 o_v0 (by decide)
                  have d_x10 : x10 = fI (sI S240 v0 4 x326) v0 7 := d_x10.trans (rd_j (by decide)).symm
                  have d_x302 : x302 = fI (sI S240 v0 4 x326) v0 6 := d_x302.trans (rd_j (by decide)).symm
                  have d_x326 : x326 = fI (sI S240 v0 4 x326) v0 4 := (u2_self _ _ _ _).symm
                  intro x327 ex327
                  exact ih253 _ _ _ _ _ _ ⟨hI, gL241, fL242, rfl, rfl, rfl, rfl, hT, (q269 i1 c9 q_x11 p_x12 q_x16 c17 q_x18 c19 q_x238 c239 i1 p_k1 c276 q_x297 p_x298 q_x302 c303 c324 q_x325 ex326 ex327), (by rw [← d_x302, ← d_x326]; exact (q270 i1 c9 q_x11 p_x12 q_x16 c17 q_x18 c19 q_x238 c239 i1 p_k1 c276 q_x297 p_x298 q_x302 c303 c324 q_x325 ex326 ex327))⟩ (mu_up (q271 i1 c9 q_x11 p_x12 q_x16 c17 q_x18 c19 q_x238 c239 i1 p_k1 c276 q_x297 p_x298 q_x302 c303 c324 q_x325 ex326 ex327) (q272 i1 c9 q_x11 p_x12 q_x16 c17 q_x18 c19 q_x238 c239 i1 p_k1 c276 q_x297 p_x298 q_x302 c303 c324 q_x325 ex326 ex327))
                · intro x328 ex328
                  have q_x328 : x328 = x297 := ex328.trans d_x297.symm
                  have d_x328 := ex328
                  obtain ⟨a329, ea329, o_a329, l_a329⟩ := hT
                  refine ⟨a329, ea329, ?_⟩
                  refine ⟨o_a329, ?_⟩
                  have n_a329 : nI (hN S240 a329) = 900 := by rw [show hN S240 a329 = 900 from l_a329]; decide
                  refine ⟨fun c330 => ?_, fun c330 => ?_⟩
                  · rw [n_a329] at c330
                    refine u_X4_next_201 ?_
                    refine ⟨o_v0, ?_⟩
                    intro x331 ex331
                    have q_x331 : x331 = x328 := ex331.trans d_x328.symm
                    have d_x331 := ex331
                    intro x332 ex332
                    have hI := iv_sI (j := 4) (v := x332) hI o_v0 (by decide) (nu_free (by decide))
                    have f0 : FRI _ _ _ (sI S240 v0 4 x332) := fri_sI g0 f0 o_v0 (by decide)
                    have fL3 : FRI _ _ _ (sI S240 v0 4 x332) := fri_sI gL2 fL3 o_v0 (by decide)
                    have fL242 : FRI _ _ _ (sI S240 v0 4 x332) := fri_sI gL241 fL242 o_v0 (by decide)
                    have d_x10 : x10 = fI (sI S240 v0 4 x332) v0 7 := d_x10.trans (rd_j (by decide)).symm
                    have d_x302 : x302 = fI (sI S240 v0 4 x332) v0 6 := d_x302.trans (rd_j (by decide)).symm
                    have d_x332 : x332 = fI (sI S240 v0 4 x332) v0 4 := (u2_self _ _ _ _).symm
                    intro x333 ex333
                    exact ih253 _ _ _ _ _ _ ⟨hI, gL241, fL242, rfl, rfl, rfl, rfl, hT, (q273 i1 c9 q_x11 p_x12 q_x16 c17 q_x18 c19 q_x238 c239 i1 p_k1 c276 q_x297 p_x298 q_x302 c303 c324 q_x328 c330 q_x331 ex332 ex333), (by rw [← d_x302, ← d_x332]; exact (q274 i1 c9 q_x11 p_x12 q_x16 c17 q_x18 c19 q_x238 c239 i1 p_k1 c276 q_x297 p_x298 q_x302 c303 c324 q_x328 c330 q_x331 ex332 ex333))⟩ (mu_up (q275 i1 c9 q_x11 p_x12 q_x16 c17 q_x18 c19 q_x238 c239 i1 p_k1 c276 q_x297 p_x298 q_x302 c303 c324 q_x328 c330 q_x331 ex332 ex333) (q276 i1 c9 q_x11 p_x12 q_x16 c17 q_x18 c19 q_x238 c239 i1 p_k1 c276 q_x297 p_x298 q_x302 c303 c324 q_x328 c330 q_x331 ex332 ex333))
                  · rw [n_a329] at c330
                    intro x334 ex334
                    have dj_x334 := ex334
                    refine ⟨a329, ea329, ?_⟩
                    intro x336 ex336
                    have q_x336 : x336 = x328 := ex336.trans d_x328.symm
                    have d_x336 := ex336
                    refine ⟨o_a329, ?_⟩
                    refine ⟨(vin l_a329 (m := 900) (by decide) (q277 i1 c9 q_x11 p_x12 q_x16 c17 q_x18 c19 q_x238 c239 i1 p_k1 c276 q_x297 p_x298 q_x302 c303 c324 q_x328 c330 q_x336)), ?_⟩
                    intro x337 ex337
                    intro x338 ex338
                    have q_x338 : x338 = x302 := ex338.trans d_x302.symm
                    have d_x338 := ex338
                    refine ⟨fun c339 => ?_, fun c339 => ?_⟩
                    · refine u_X4_next_195 ?_
                      refine ⟨o_v0, ?_⟩
                      intro x340 ex340
                      have hI := iv_sJ (j := 8) (v := x340) hI o_v0 (by decide)
                      refine u_X4_next_201 ?_
                      refine ⟨o_v0, ?_⟩
                      intro x341 ex341
                      have q_x341 : x341 = x336 := ex341.trans d_x336.symm
                      have d_x341 := ex341
                      intro x342 ex342
                      have hI := iv_sI (j := 4) (v := x342) hI o_v0 (by decide) (nu_free (by decide))
                      have f0 : FRI _ _ _ (sI (sJ S240 v0 8 x340) v0 4 x342) := fri_sI g0 f0 o_v0 (by decide)
                      have fL3 : FRI _ _ _ (sI (sJ S240 v0 8 x340) v0 4 x342) := fri_sI gL2 fL3 o_v0 (by decide)
                      have fL242 : FRI _ _ _ (sI (sJ S240 v0 8 x340) v0 4 x342) := fri_sI gL241 fL242 o_v0 (by decide)
                      have d_x10 : x10 = fI (sI (sJ S240 v0 8 x340) v0 4 x342) v0 7 := d_x10.trans (rd_j (by decide)).symm
                      have d_x338 : x338 = fI (sI (sJ S240 v0 8 x340) v0 4 x342) v0 6 := d_x338.trans (rd_j (by decide)).symm
                      have d_x342 : x342 = fI (sI (sJ S240 v0 8 x340) v0 4 x342) v0 4 := (u2_self _ _ _ _).symm
                      intro x343 ex343
                      exact ih253 _ _ _ _ _ _ ⟨hI, gL241, fL242, rfl, rfl, rfl, rfl, hT, (q278 i1 c9 q_x11 p_x12 q_x16 c17 q_x18 c19 q_x238 c239 i1 p_k1 c276 q_x297 p_x298 q_x302 c303 c324 q_x328 c330 q_x336 q_x338 c339 q_x341 ex342 ex343), (by rw [← d_x338, ← d_x342]; exact (q279 i1 c9 q_x11 p_x12 q_x16 c17 q_x18 c19 q_x238 c239 i1 p_k1 c276 q_x297 p_x298 q_x302 c303 c324 q_x328 c330 q_x336 q_x338 c339 q_x341 ex342 ex343))⟩ (mu_up (q280 i1 c9 q_x11 p_x12 q_x16 c17 q_x18 c19 q_x238 c239 i1 p_k1 c276 q_x297 p_x298 q_x302 c303 c324 q_x328 c330 q_x336 q_x338 c339 q_x341 ex342 ex343) (q281 i1 c9 q_x11 p_x12 q_x16 c17 q_x18 c19 q_x238 c239 i1 p_k1 c276 q_x297 p_x298 q_x302 c303 c324 q_x328 c330 q_x336 q_x338 c339 q_x341 ex342 ex343))
                    · refine u_X4_next_195 ?_
                      refine ⟨o_v0, ?_⟩
                      intro x344 ex344
                      have hI := iv_sJ (j := 8) (v := x344) hI o_v0 (by decide)
                      refine u_X4_next_201 ?_
                      refine ⟨o_v0, ?_⟩
                      intro x345 ex345
                      have q_x345 : x345 = x336 := ex345.trans d_x336.symm
                      have d_x345 := ex345
                      intro x346 ex346
                      have hI := iv_sI (j := 4) (v := x346) hI o_v0 (by decide) (nu_free (by decide))
                      have f0 : FRI _ _ _ (sI (sJ S240 v0 8 x344) v0 4 x346) := fri_sI g0 f0 o_v0 (by decide)
                      have fL3 : FRI _ _ _ (sI (sJ S240 v0 8 x344) v0 4 x346) := fri_sI gL2 fL3 o_v0 (by decide)
                      have fL242 : FRI _ _ _ (sI (sJ S240 v0 8 x344) v0 4 x346) := fri_sI gL241 fL242 o_v0 (by decide)
                      have d_x10 : x10 = fI (sI (sJ S240 v0 8 x344) v0 4 x346) v0 7 := d_x10.trans (rd_j (by decide)).symm
                      have d_x338 : x338 = fI (sI (sJ S240 v0 8 x344) v0 4 x346) v0 6 := d_x338.trans (rd_j (by decide)).symm
                      have d_x346 : x346 = fI (sI (sJ S240 v0 8 x344) v0 4 x346) v0 4 := (u2_self _ _ _ _).symm
                      intro x347 ex347
                      exact ih253 _ _ _ _ _ _ ⟨hI, gL241, fL242, rfl, rfl, rfl, rfl, hT, (q282 i1 c9 q_x11 p_x12 q_x16 c17 q_x18 c19 q_x238 c239 i1 p_k1 c276 q_x297 p_x298 q_x302 c303 c324 q_x328 c330 q_x336 q_x338 c339 q_x345 ex346 ex347), (by rw [← d_x338, ← d_x346]; exact (q283 i1 c9 q_x11 p_x12 q_x16 c17 q_x18 c19 q_x238 c239 i1 p_k1 c276 q_x297 p_x298 q_x302 c303 c324 q_x328 c330 q_x336 q_x338 c339 q_x345 ex346 ex347))⟩ (mu_up (q284 i1 c9 q_x11 p_x12 q_x16 c17 q_x18 c19 q_x238 c239 i1 p_k1 c276 q_x297 p_x298 q_x302 c303 c324 q_x328 c330 q_x336 q_x338 c339 q_x345 ex346 ex347) (q285 i1 c9 q_x11 p_x12 q_x16 c17 q_x18 c19 q_x238 c239 i1 p_k1 c276 q_x297 p_x298 q_x302 c303 c324 q_x328 c330 q_x336 q_x338 c339 q_x345 ex346 ex347))
        · refine u_X4_next_114 ?_
          refine i_X4_next_118 (fun (y0 : Nat) (y1 : Int32) (y2 : Int32) (y3 : Int32) (y4 : Int32) (Z : HS) => ((2147483647 : Int32).toInt - y4.toInt).toNat) (fun (y0 : Nat) (y1 : Int32) (y2 : Int32) (y3 : Int32) (y4 : Int32) (Z : HS) => (IV Z) ∧ (Gr (sJ (sI (sI S1 v0 7 x10) v0 6 x12) v0 8 (0 : Int64)) Z) ∧ (FRI [(4, 4)] [] (sJ (sI (sI S1 v0 7 x10) v0 6 x12) v0 8 (0 : Int64)) Z) ∧ (v0 = y0) ∧ ((1 : Int32) = y1) ∧ ((8 : Int32) = y2) ∧ ((32 : Int32) = y3) ∧ (TX Z v0) ∧ (0 ≤ y4) ∧ ((y1 = 0 ∨ fI Z v0 6 = 1 ∨ fI Z v0 6 = 2) ∧ (y1 = 0 → fI Z v0 6 = 0 ∨ (0 ≤ fI Z v0 4 ∧ fI Z v0 4 < 900)))) ?_ _ _ _ _ _ _ ⟨hI, (gr_rf _), (fri_rf _ _ _), rfl, rfl, rfl, rfl, hT, (q286 i1 c9 q_x11 p_x12 q_x16 c17 q_x18 c19 q_x238 c239), (by rw [← d_x238, ← d_x11]; exact (q287 i1 c9 q_x11 p_x12 q_x16 c17 q_x18 c19 q_x238 c239))⟩
          intro w351 w353 w355 w357 w359 S348 X360 ⟨hI, gL349, fL350, q352, q354, q356, q358, hT, i1, k1⟩ ih361
          subst q352
          subst q354
          subst q356
          subst q358
          have d_x10 := d_x10.trans (fri_at fL350 (by decide) (by decide) o_v0).symm
          have d_x238 := d_x238.trans (fri_at fL350 (by decide) (by decide) o_v0).symm
          have f0 := fri_tr g0 f0 fL350 (by decide) (by decide)
          have fL3 := fri_tr gL2 fL3 fL350 (by decide) (by decide)
          have o_v0 := gr_ob gL349 o_v0
          have g0 := gr_tr g0 gL349
          have gL2 := gr_tr gL2 gL349
          obtain ⟨y362, d_y362⟩ : ∃ z : Int32, z = fI S348 v0 4 := ⟨_, rfl⟩
          have p_k1 : ((1 : Int32) = 0 ∨ x238 = 1 ∨ x238 = 2) ∧ ((1 : Int32) = 0 → x238 = 0 ∨ (0 ≤ y362 ∧ y362 < 900)) := by rw [d_x238, d_y362]; exact k1
          refine u_X4_next_118 ?_
          refine ⟨fun c363 => ?_, fun c363 => ?_⟩
          · refine u_X4_next_217 ?_
            refine ⟨fun c364 => ?_, fun c364 => ?_⟩
            · refine u_X4_next_240 ?_
              refine ⟨fun c365 => ?_, fun c365 => ?_⟩
              · exact hq _ hI g0 f0 hT
              · refine ⟨o_v0, ?_⟩
                intro x366 ex366
                have q_x366 : x366 = x238 := ex366.trans d_x238.symm
                have d_x366 := ex366
                refine ⟨fun c367 => ?_, fun c367 => ?_⟩
                · exact hq _ hI g0 f0 hT
                · intro x368 ex368
                  have q_x368 : x368 = y362 := ex368.trans d_y362.symm
                  have d_x368 := ex368
                  intro x369 ex369
                  have hI := iv_sI (j := 4) (v := x369) hI o_v0 (by decide) (nu_free (by decide))
                  have f0 : FRI _ _ _ (sI S348 v0 4 x369) := fri_sI g0 f0 o_v0 (by decide)
                  have fL3 : FRI _ _ _ (sI S348 v0 4 x369) := fri_sI gL2 fL3 o_v0 (by decide)
                  have fL350 : FRI _ _ _ (sI S348 v0 4 x369) := fri_sI gL349 fL350 o_v0 (by decide)
                  have d_x10 : x10 = fI (sI S348 v0 4 x369) v0 7 := d_x10.trans (rd_j (by decide)).symm
                  have d_x366 : x366 = fI (sI S348 v0 4 x369) v0 6 := d_x366.trans (rd_j (by decide)).symm
                  have d_x369 : x369 = fI (sI S348 v0 4 x369) v0 4 := (u2_self _ _ _ _).symm
                  exact hq _ hI g0 f0 hT
            · refine ⟨o_v0, ?_⟩
              intro x370 ex370
              have q_x370 : x370 = y362 := ex370.trans d_y362.symm
              have d_x370 := ex370
              intro x371 ex371
              have q_x371 : x371 = x10 := ex371.trans d_x10.symm
              have d_x371 := ex371
              refine ⟨fun c372 => ?_, fun c372 => ?_⟩
              · refine u_X4_next_240 ?_
                refine ⟨fun c373 => ?_, fun c373 => ?_⟩
                · exact hq _ hI g0 f0 hT
                · refine ⟨o_v0, ?_⟩
                  intro x374 ex374
                  have q_x374 : x374 = x238 := ex374.trans d_x238.symm
                  have d_x374 := ex374
                  refine ⟨fun c375 => ?_, fun c375 => ?_⟩
                  · exact hq _ hI g0 f0 hT
                  · intro x376 ex376
                    have q_x376 : x376 = x370 := ex376.trans d_x370.symm
                    have d_x376 := ex376
                    intro x377 ex377
                    have hI := iv_sI (j := 4) (v := x377) hI o_v0 (by decide) (nu_free (by decide))
                    have f0 : FRI _ _ _ (sI S348 v0 4 x377) := fri_sI g0 f0 o_v0 (by decide)
                    have fL3 : FRI _ _ _ (sI S348 v0 4 x377) := fri_sI gL2 fL3 o_v0 (by decide)
                    have fL350 : FRI _ _ _ (sI S348 v0 4 x377) := fri_sI gL349 fL350 o_v0 (by decide)
                    have d_x371 : x371 = fI (sI S348 v0 4 x377) v0 7 := d_x371.trans (rd_j (by decide)).symm
                    have d_x374 : x374 = fI (sI S348 v0 4 x377) v0 6 := d_x374.trans (rd_j (by decide)).symm
                    have d_x377 : x377 = fI (sI S348 v0 4 x377) v0 4 := (u2_self _ _ _ _).symm
                    exact hq _ hI g0 f0 hT
              · have hI := iv_sI (j := 6) (v := (6 : Int32)) hI o_v0 (by decide) (nu_free (by decide))
                have f0 : FRI _ _ _ (sI S348 v0 6 (6 : Int32)) := fri_sI g0 f0 o_v0 (by decide)
                have fL3 : FRI _ _ _ (sI S348 v0 6 (6 : Int32)) := fri_sI gL2 fL3 o_v0 (by decide)
                have fL350 : FRI _ _ _ (sI S348 v0 6 (6 : Int32)) := fri_sI gL349 fL350 o_v0 (by decide)
                have d_x371 : x371 = fI (sI S348 v0 6 (6 : Int32)) v0 7 := d_x371.trans (rd_j (by decide)).symm
                have d_x370 : x370 = fI (sI S348 v0 6 (6 : Int32)) v0 4 := d_x370.trans (rd_j (by decide)).symm
                obtain ⟨y378, hy378⟩ : ∃ z : Int32, z = (6 : Int32) := ⟨_, rfl⟩
                have d_y378 : y378 = fI (sI S348 v0 6 (6 : Int32)) v0 6 := hy378.trans (u2_self _ _ _ _).symm
                refine u_X4_next_240 ?_
                refine ⟨fun c379 => ?_, fun c379 => ?_⟩
                · exact hq _ hI g0 f0 hT
                · refine ⟨o_v0, ?_⟩
                  intro x380 ex380
                  have q_x380 : x380 = y378 := ex380.trans d_y378.symm
                  have d_x380 := ex380
                  refine ⟨fun c381 => ?_, fun c381 => ?_⟩
                  · exact hq _ hI g0 f0 hT
                  · intro x382 ex382
                    have q_x382 : x382 = x370 := ex382.trans d_x370.symm
                    have d_x382 := ex382
                    intro x383 ex383
                    have hI := iv_sI (j := 4) (v := x383) hI o_v0 (by decide) (nu_free (by decide))
                    have f0 : FRI _ _ _ (sI (sI S348 v0 6 (6 : Int32)) v0 4 x383) := fri_sI g0 f0 o_v0 (by decide)
                    have fL3 : FRI _ _ _ (sI (sI S348 v0 6 (6 : Int32)) v0 4 x383) := fri_sI gL2 fL3 o_v0 (by decide)
                    have fL350 : FRI _ _ _ (sI (sI S348 v0 6 (6 : Int32)) v0 4 x383) := fri_sI gL349 fL350 o_v0 (by decide)
                    have d_x371 : x371 = fI (sI (sI S348 v0 6 (6 : Int32)) v0 4 x383) v0 7 := d_x371.trans (rd_j (by decide)).symm
                    have d_x380 : x380 = fI (sI (sI S348 v0 6 (6 : Int32)) v0 4 x383) v0 6 := d_x380.trans (rd_j (by decide)).symm
                    have d_x383 : x383 = fI (sI (sI S348 v0 6 (6 : Int32)) v0 4 x383) v0 4 := (u2_self _ _ _ _).symm
                    exact hq _ hI g0 f0 hT
          · refine ⟨fun c384 => ?_, fun c384 => ?_⟩
            · refine u_X4_next_217 ?_
              refine ⟨fun c385 => ?_, fun c385 => ?_⟩
              · refine u_X4_next_240 ?_
                refine ⟨fun c386 => ?_, fun c386 => ?_⟩
                · exact hq _ hI g0 f0 hT
                · refine ⟨o_v0, ?_⟩
                  intro x387 ex387
                  have q_x387 : x387 = x238 := ex387.trans d_x238.symm
                  have d_x387 := ex387
                  refine ⟨fun c388 => ?_, fun c388 => ?_⟩
                  · exact hq _ hI g0 f0 hT
                  · intro x389 ex389
                    have q_x389 : x389 = y362 := ex389.trans d_y362.symm
                    have d_x389 := ex389
                    intro x390 ex390
                    have hI := iv_sI (j := 4) (v := x390) hI o_v0 (by decide) (nu_free (by decide))
                    have f0 : FRI _ _ _ (sI S348 v0 4 x390) := fri_sI g0 f0 o_v0 (by decide)
                    have fL3 : FRI _ _ _ (sI S348 v0 4 x390) := fri_sI gL2 fL3 o_v0 (by decide)
                    have fL350 : FRI _ _ _ (sI S348 v0 4 x390) := fri_sI gL349 fL350 o_v0 (by decide)
                    have d_x10 : x10 = fI (sI S348 v0 4 x390) v0 7 := d_x10.trans (rd_j (by decide)).symm
                    have d_x387 : x387 = fI (sI S348 v0 4 x390) v0 6 := d_x387.trans (rd_j (by decide)).symm
                    have d_x390 : x390 = fI (sI S348 v0 4 x390) v0 4 := (u2_self _ _ _ _).symm
                    exact hq _ hI g0 f0 hT
              · refine ⟨o_v0, ?_⟩
                intro x391 ex391
                have q_x391 : x391 = y362 := ex391.trans d_y362.symm
                have d_x391 := ex391
                intro x392 ex392
                have q_x392 : x392 = x10 := ex392.trans d_x10.symm
                have d_x392 := ex392
                refine ⟨fun c393 => ?_, fun c393 => ?_⟩
                · refine u_X4_next_240 ?_
                  refine ⟨fun c394 => ?_, fun c394 => ?_⟩
                  · exact hq _ hI g0 f0 hT
                  · refine ⟨o_v0, ?_⟩
                    intro x395 ex395
                    have q_x395 : x395 = x238 := ex395.trans d_x238.symm
                    have d_x395 := ex395
                    refine ⟨fun c396 => ?_, fun c396 => ?_⟩
                    · exact hq _ hI g0 f0 hT
                    · intro x397 ex397
                      have q_x397 : x397 = x391 := ex397.trans d_x391.symm
                      have d_x397 := ex397
                      intro x398 ex398
                      have hI := iv_sI (j := 4) (v := x398) hI o_v0 (by decide) (nu_free (by decide))
                      have f0 : FRI _ _ _ (sI S348 v0 4 x398) := fri_sI g0 f0 o_v0 (by decide)
                      have fL3 : FRI _ _ _ (sI S348 v0 4 x398) := fri_sI gL2 fL3 o_v0 (by decide)
                      have fL350 : FRI _ _ _ (sI S348 v0 4 x398) := fri_sI gL349 fL350 o_v0 (by decide)
                      have d_x392 : x392 = fI (sI S348 v0 4 x398) v0 7 := d_x392.trans (rd_j (by decide)).symm
                      have d_x395 : x395 = fI (sI S348 v0 4 x398) v0 6 := d_x395.trans (rd_j (by decide)).symm
                      have d_x398 : x398 = fI (sI S348 v0 4 x398) v0 4 := (u2_self _ _ _ _).symm
                      exact hq _ hI g0 f0 hT
                · have hI := iv_sI (j := 6) (v := (6 : Int32)) hI o_v0 (by decide) (nu_free (by decide))
                  have f0 : FRI _ _ _ (sI S348 v0 6 (6 : Int32)) := fri_sI g0 f0 o_v0 (by decide)
                  have fL3 : FRI _ _ _ (sI S348 v0 6 (6 : Int32)) := fri_sI gL2 fL3 o_v0 (by decide)
                  have fL350 : FRI _ _ _ (sI S348 v0 6 (6 : Int32)) := fri_sI gL349 fL350 o_v0 (by decide)
                  have d_x392 : x392 = fI (sI S348 v0 6 (6 : Int32)) v0 7 := d_x392.trans (rd_j (by decide)).symm
                  have d_x391 : x391 = fI (sI S348 v0 6 (6 : Int32)) v0 4 := d_x391.trans (rd_j (by decide)).symm
                  obtain ⟨y399, hy399⟩ : ∃ z : Int32, z = (6 : Int32) := ⟨_, rfl⟩
                  have d_y399 : y399 = fI (sI S348 v0 6 (6 : Int32)) v0 6 := hy399.trans (u2_self _ _ _ _).symm
                  refine u_X4_next_240 ?_
                  refine ⟨fun c400 => ?_, fun c400 => ?_⟩
                  · exact hq _ hI g0 f0 hT
                  · refine ⟨o_v0, ?_⟩
                    intro x401 ex401
                    have q_x401 : x401 = y399 := ex401.trans d_y399.symm
                    have d_x401 := ex401
                    refine ⟨fun c402 => ?_, fun c402 => ?_⟩
                    · exact hq _ hI g0 f0 hT
                    · intro x403 ex403
                      have q_x403 : x403 = x391 := ex403.trans d_x391.symm
                      have d_x403 := ex403
                      intro x404 ex404
                      have hI := iv_sI (j := 4) (v := x404) hI o_v0 (by decide) (nu_free (by decide))
                      have f0 : FRI _ _ _ (sI (sI S348 v0 6 (6 : Int32)) v0 4 x404) := fri_sI g0 f0 o_v0 (by decide)
                      have fL3 : FRI _ _ _ (sI (sI S348 v0 6 (6 : Int32)) v0 4 x404) := fri_sI gL2 fL3 o_v0 (by decide)
                      have fL350 : FRI _ _ _ (sI (sI S348 v0 6 (6 : Int32)) v0 4 x404) := fri_sI gL349 fL350 o_v0 (by decide)
                      have d_x392 : x392 = fI (sI (sI S348 v0 6 (6 : Int32)) v0 4 x404) v0 7 := d_x392.trans (rd_j (by decide)).symm
                      have d_x401 : x401 = fI (sI (sI S348 v0 6 (6 : Int32)) v0 4 x404) v0 6 := d_x401.trans (rd_j (by decide)).symm
                      have d_x404 : x404 = fI (sI (sI S348 v0 6 (6 : Int32)) v0 4 x404) v0 4 := (u2_self _ _ _ _).symm
                      exact hq _ hI g0 f0 hT
            · refine ⟨o_v0, ?_⟩
              intro x405 ex405
              have q_x405 : x405 = y362 := ex405.trans d_y362.symm
              have d_x405 := ex405
              refine m_X4_sortAt hI o_v0 hT (fun x406 S407 hI2 g408 p_x406 => ?_)
              obtain ⟨z_S407, p_x406⟩ := p_x406
              subst z_S407
              intro _
              intro x410 ex410
              have q_x410 : x410 = x238 := ex410.trans d_x238.symm
              have d_x410 := ex410
              refine ⟨fun c411 => ?_, fun c411 => ?_⟩
              · refine u_X4_next_217 ?_
                refine ⟨fun c412 => ?_, fun c412 => ?_⟩
                · refine u_X4_next_240 ?_
                  refine ⟨fun c413 => ?_, fun c413 => ?_⟩
                  · exact hq _ hI g0 f0 hT
                  · refine ⟨o_v0, ?_⟩
                    intro x414 ex414
                    have q_x414 : x414 = x410 := ex414.trans d_x410.symm
                    have d_x414 := ex414
                    refine ⟨fun c415 => ?_, fun c415 => ?_⟩
                    · exact hq _ hI g0 f0 hT
                    · intro x416 ex416
                      have q_x416 : x416 = x405 := ex416.trans d_x405.symm
                      have d_x416 := ex416
                      intro x417 ex417
                      have hI := iv_sI (j := 4) (v := x417) hI o_v0 (by decide) (nu_free (by decide))
                      have f0 : FRI _ _ _ (sI S348 v0 4 x417) := fri_sI g0 f0 o_v0 (by decide)
                      have fL3 : FRI _ _ _ (sI S348 v0 4 x417) := fri_sI gL2 fL3 o_v0 (by decide)
                      have fL350 : FRI _ _ _ (sI S348 v0 4 x417) := fri_sI gL349 fL350 o_v0 (by decide)
                      have d_x10 : x10 = fI (sI S348 v0 4 x417) v0 7 := d_x10.trans (rd_j (by decide)).symm
                      have d_x414 : x414 = fI (sI S348 v0 4 x417) v0 6 := d_x414.trans (rd_j (by decide)).symm
                      have d_x417 : x417 = fI (sI S348 v0 4 x417) v0 4 := (u2_self _ _ _ _).symm
                      exact hq _ hI g0 f0 hT
                · refine ⟨o_v0, ?_⟩
                  intro x418 ex418
                  have q_x418 : x418 = x405 := ex418.trans d_x405.symm
                  have d_x418 := ex418
                  intro x419 ex419
                  have q_x419 : x419 = x10 := ex419.trans d_x10.symm
                  have d_x419 := ex419
                  refine ⟨fun c420 => ?_, fun c420 => ?_⟩
                  · refine u_X4_next_240 ?_
                    refine ⟨fun c421 => ?_, fun c421 => ?_⟩
                    · exact hq _ hI g0 f0 hT
                    · refine ⟨o_v0, ?_⟩
                      intro x422 ex422
                      have q_x422 : x422 = x410 := ex422.trans d_x410.symm
                      have d_x422 := ex422
                      refine ⟨fun c423 => ?_, fun c423 => ?_⟩
                      · exact hq _ hI g0 f0 hT
                      · intro x424 ex424
                        have q_x424 : x424 = x418 := ex424.trans d_x418.symm
                        have d_x424 := ex424
                        intro x425 ex425
                        have hI := iv_sI (j := 4) (v := x425) hI o_v0 (by decide) (nu_free (by decide))
                        have f0 : FRI _ _ _ (sI S348 v0 4 x425) := fri_sI g0 f0 o_v0 (by decide)
                        have fL3 : FRI _ _ _ (sI S348 v0 4 x425) := fri_sI gL2 fL3 o_v0 (by decide)
                        have fL350 : FRI _ _ _ (sI S348 v0 4 x425) := fri_sI gL349 fL350 o_v0 (by decide)
                        have d_x419 : x419 = fI (sI S348 v0 4 x425) v0 7 := d_x419.trans (rd_j (by decide)).symm
                        have d_x422 : x422 = fI (sI S348 v0 4 x425) v0 6 := d_x422.trans (rd_j (by decide)).symm
                        have d_x425 : x425 = fI (sI S348 v0 4 x425) v0 4 := (u2_self _ _ _ _).symm
                        exact hq _ hI g0 f0 hT
                  · have hI := iv_sI (j := 6) (v := (6 : Int32)) hI o_v0 (by decide) (nu_free (by decide))
                    have f0 : FRI _ _ _ (sI S348 v0 6 (6 : Int32)) := fri_sI g0 f0 o_v0 (by decide)
                    have fL3 : FRI _ _ _ (sI S348 v0 6 (6 : Int32)) := fri_sI gL2 fL3 o_v0 (by decide)
                    have fL350 : FRI _ _ _ (sI S348 v0 6 (6 : Int32)) := fri_sI gL349 fL350 o_v0 (by decide)
                    have d_x419 : x419 = fI (sI S348 v0 6 (6 : Int32)) v0 7 := d_x419.trans (rd_j (by decide)).symm
                    have d_x418 : x418 = fI (sI S348 v0 6 (6 : Int32)) v0 4 := d_x418.trans (rd_j (by decide)).symm
                    obtain ⟨y426, hy426⟩ : ∃ z : Int32, z = (6 : Int32) := ⟨_, rfl⟩
                    have d_y426 : y426 = fI (sI S348 v0 6 (6 : Int32)) v0 6 := hy426.trans (u2_self _ _ _ _).symm
                    refine u_X4_next_240 ?_
                    refine ⟨fun c427 => ?_, fun c427 => ?_⟩
                    · exact hq _ hI g0 f0 hT
                    · refine ⟨o_v0, ?_⟩
                      intro x428 ex428
                      have q_x428 : x428 = y426 := ex428.trans d_y426.symm
                      have d_x428 := ex428
                      refine ⟨fun c429 => ?_, fun c429 => ?_⟩
                      · exact hq _ hI g0 f0 hT
                      · intro x430 ex430
                        have q_x430 : x430 = x418 := ex430.trans d_x418.symm
                        have d_x430 := ex430
                        intro x431 ex431
                        have hI := iv_sI (j := 4) (v := x431) hI o_v0 (by decide) (nu_free (by decide))
                        have f0 : FRI _ _ _ (sI (sI S348 v0 6 (6 : Int32)) v0 4 x431) := fri_sI g0 f0 o_v0 (by decide)
                        have fL3 : FRI _ _ _ (sI (sI S348 v0 6 (6 : Int32)) v0 4 x431) := fri_sI gL2 fL3 o_v0 (by decide)
                        have fL350 : FRI _ _ _ (sI (sI S348 v0 6 (6 : Int32)) v0 4 x431) := fri_sI gL349 fL350 o_v0 (by decide)
                        have d_x419 : x419 = fI (sI (sI S348 v0 6 (6 : Int32)) v0 4 x431) v0 7 := d_x419.trans (rd_j (by decide)).symm
                        have d_x428 : x428 = fI (sI (sI S348 v0 6 (6 : Int32)) v0 4 x431) v0 6 := d_x428.trans (rd_j (by decide)).symm
                        have d_x431 : x431 = fI (sI (sI S348 v0 6 (6 : Int32)) v0 4 x431) v0 4 := (u2_self _ _ _ _).symm
                        exact hq _ hI g0 f0 hT
              · refine ⟨fun c432 => ?_, fun c432 => ?_⟩
                · refine u_X4_next_201 ?_
                  refine ⟨o_v0, ?_⟩
                  intro x433 ex433
                  have q_x433 : x433 = x405 := ex433.trans d_x405.symm
                  have d_x433 := ex433
                  intro x434 ex434
                  have hI := iv_sI (j := 4) (v := x434) hI o_v0 (by decide) (nu_free (by decide))
                  have f0 : FRI _ _ _ (sI S348 v0 4 x434) := fri_sI g0 f0 o_v0 (by decide)
                  have fL3 : FRI _ _ _ (sI S348 v0 4 x434) := fri_sI gL2 fL3 o_v0 (by decide)
                  have fL350 : FRI _ _ _ (sI S348 v0 4 x434) := fri_sI gL349 fL350 o_v0 (by decide)
                  have d_x10 : x10 = fI (sI S348 v0 4 x434) v0 7 := d_x10.trans (rd_j (by decide)).symm
                  have d_x410 : x410 = fI (sI S348 v0 4 x434) v0 6 := d_x410.trans (rd_j (by decide)).symm
                  have d_x434 : x434 = fI (sI S348 v0 4 x434) v0 4 := (u2_self _ _ _ _).symm
                  intro x435 ex435
                  exact ih361 _ _ _ _ _ _ ⟨hI, gL349, fL350, rfl, rfl, rfl, rfl, hT, (q288 i1 c9 q_x11 p_x12 q_x16 c17 q_x18 c19 q_x238 c239 i1 p_k1 c384 q_x405 p_x406 q_x410 c411 c432 q_x433 ex434 ex435), (by rw [← d_x410, ← d_x434]; exact (q289 i1 c9 q_x11 p_x12 q_x16 c17 q_x18 c19 q_x238 c239 i1 p_k1 c384 q_x405 p_x406 q_x410 c411 c432 q_x433 ex434 ex435))⟩ (mu_up (q290 i1 c9 q_x11 p_x12 q_x16 c17 q_x18 c19 q_x238 c239 i1 p_k1 c384 q_x405 p_x406 q_x410 c411 c432 q_x433 ex434 ex435) (q291 i1 c9 q_x11 p_x12 q_x16 c17 q_x18 c19 q_x238 c239 i1 p_k1 c384 q_x405 p_x406 q_x410 c411 c432 q_x433 ex434 ex435))
                · intro x436 ex436
                  have q_x436 : x436 = x405 := ex436.trans d_x405.symm
                  have d_x436 := ex436
                  obtain ⟨a437, ea437, o_a437, l_a437⟩ := hT
                  refine ⟨a437, ea437, ?_⟩
                  refine ⟨o_a437, ?_⟩
                  have n_a437 : nI (hN S348 a437) = 900 := by rw [show hN S348 a437 = 900 from l_a437]; decide
                  refine ⟨fun c438 => ?_, fun c438 => ?_⟩
                  · rw [n_a437] at c438
                    refine u_X4_next_201 ?_
                    refine ⟨o_v0, ?_⟩
                    intro x439 ex439
                    have q_x439 : x439 = x436 := ex439.trans d_x436.symm
                    have d_x439 := ex439
                    intro x440 ex440
                    have hI := iv_sI (j := 4) (v := x440) hI o_v0 (by decide) (nu_free (by decide))
                    have f0 : FRI _ _ _ (sI S348 v0 4 x440) := fri_sI g0 f0 o_v0 (by decide)
                    have fL3 : FRI _ _ _ (sI S348 v0 4 x440) := fri_sI gL2 fL3 o_v0 (by decide)
                    have fL350 : FRI _ _ _ (sI S348 v0 4 x440) := fri_sI gL349 fL350 o_v0 (by decide)
                    have d_x10 : x10 = fI (sI S348 v0 4 x440) v0 7 := d_x10.trans (rd_j (by decide)).symm
                    have d_x410 : x410 = fI (sI S348 v0 4 x440) v0 6 := d_x410.trans (rd_j (by decide)).symm
                    have d_x440 : x440 = fI (sI S348 v0 4 x440) v0 4 := (u2_self _ _ _ _).symm
                    intro x441 ex441
                    exact ih361 _ _ _ _ _ _ ⟨hI, gL349, fL350, rfl, rfl, rfl, rfl, hT, (q292 i1 c9 q_x11 p_x12 q_x16 c17 q_x18 c19 q_x238 c239 i1 p_k1 c384 q_x405 p_x406 q_x410 c411 c432 q_x436 c438 q_x439 ex440 ex441), (by rw [← d_x410, ← d_x440]; exact (q293 i1 c9 q_x11 p_x12 q_x16 c17 q_x18 c19 q_x238 c239 i1 p_k1 c384 q_x405 p_x406 q_x410 c411 c432 q_x436 c438 q_x439 ex440 ex441))⟩ (mu_up (q294 i1 c9 q_x11 p_x12 q_x16 c17 q_x18 c19 q_x238 c239 i1 p_k1 c384 q_x405 p_x406 q_x410 c411 c432 q_x436 c438 q_x439 ex440 ex441) (q295 i1 c9 q_x11 p_x12 q_x16 c17 q_x18 c19 q_x238 c239 i1 p_k1 c384 q_x405 p_x406 q_x410 c411 c432 q_x436 c438 q_x439 ex440 ex441))
                  · rw [n_a437] at c438
                    intro x442 ex442
                    have dj_x442 := ex442
                    refine ⟨a437, ea437, ?_⟩
                    intro x444 ex444
                    have q_x444 : x444 = x436 := ex444.trans d_x436.symm
                    have d_x444 := ex444
                    refine ⟨o_a437, ?_⟩
                    refine ⟨(vin l_a437 (m := 900) (by decide) (q296 i1 c9 q_x11 p_x12 q_x16 c17 q_x18 c19 q_x238 c239 i1 p_k1 c384 q_x405 p_x406 q_x410 c411 c432 q_x436 c438 q_x444)), ?_⟩
                    intro x445 ex445
                    intro x446 ex446
                    have q_x446 : x446 = x410 := ex446.trans d_x410.symm
                    have d_x446 := ex446
                    refine ⟨fun c447 => ?_, fun c447 => ?_⟩
                    · refine u_X4_next_195 ?_
                      refine ⟨o_v0, ?_⟩
                      intro x448 ex448
                      have hI := iv_sJ (j := 8) (v := x448) hI o_v0 (by decide)
                      refine u_X4_next_201 ?_
                      refine ⟨o_v0, ?_⟩
                      intro x449 ex449
                      have q_x449 : x449 = x444 := ex449.trans d_x444.symm
                      have d_x449 := ex449
                      intro x450 ex450
                      have hI := iv_sI (j := 4) (v := x450) hI o_v0 (by decide) (nu_free (by decide))
                      have f0 : FRI _ _ _ (sI (sJ S348 v0 8 x448) v0 4 x450) := fri_sI g0 f0 o_v0 (by decide)
                      have fL3 : FRI _ _ _ (sI (sJ S348 v0 8 x448) v0 4 x450) := fri_sI gL2 fL3 o_v0 (by decide)
                      have fL350 : FRI _ _ _ (sI (sJ S348 v0 8 x448) v0 4 x450) := fri_sI gL349 fL350 o_v0 (by decide)
                      have d_x10 : x10 = fI (sI (sJ S348 v0 8 x448) v0 4 x450) v0 7 := d_x10.trans (rd_j (by decide)).symm
                      have d_x446 : x446 = fI (sI (sJ S348 v0 8 x448) v0 4 x450) v0 6 := d_x446.trans (rd_j (by decide)).symm
                      have d_x450 : x450 = fI (sI (sJ S348 v0 8 x448) v0 4 x450) v0 4 := (u2_self _ _ _ _).symm
                      intro x451 ex451
                      exact ih361 _ _ _ _ _ _ ⟨hI, gL349, fL350, rfl, rfl, rfl, rfl, hT, (q297 i1 c9 q_x11 p_x12 q_x16 c17 q_x18 c19 q_x238 c239 i1 p_k1 c384 q_x405 p_x406 q_x410 c411 c432 q_x436 c438 q_x444 q_x446 c447 q_x449 ex450 ex451), (by rw [← d_x446, ← d_x450]; exact (q298 i1 c9 q_x11 p_x12 q_x16 c17 q_x18 c19 q_x238 c239 i1 p_k1 c384 q_x405 p_x406 q_x410 c411 c432 q_x436 c438 q_x444 q_x446 c447 q_x449 ex450 ex451))⟩ (mu_up (q299 i1 c9 q_x11 p_x12 q_x16 c17 q_x18 c19 q_x238 c239 i1 p_k1 c384 q_x405 p_x406 q_x410 c411 c432 q_x436 c438 q_x444 q_x446 c447 q_x449 ex450 ex451) (q300 i1 c9 q_x11 p_x12 q_x16 c17 q_x18 c19 q_x238 c239 i1 p_k1 c384 q_x405 p_x406 q_x410 c411 c432 q_x436 c438 q_x444 q_x446 c447 q_x449 ex450 ex451))
                    · refine u_X4_next_195 ?_
                      refine ⟨o_v0, ?_⟩
                      intro x452 ex452
                      have hI := iv_sJ (j := 8) (v := x452) hI o_v0 (by decide)
                      refine u_X4_next_201 ?_
                      refine ⟨o_v0, ?_⟩
                      intro x453 ex453
                      have q_x453 : x453 = x444 := ex453.trans d_x444.symm
                      have d_x453 := ex453
                      intro x454 ex454
                      have hI := iv_sI (j := 4) (v := x454) hI o_v0 (by decide) (nu_free (by decide))
                      have f0 : FRI _ _ _ (sI (sJ S348 v0 8 x452) v0 4 x454) := fri_sI g0 f0 o_v0 (by decide)
                      have fL3 : FRI _ _ _ (sI (sJ S348 v0 8 x452) v0 4 x454) := fri_sI gL2 fL3 o_v0 (by decide)
                      have fL350 : FRI _ _ _ (sI (sJ S348 v0 8 x452) v0 4 x454) := fri_sI gL349 fL350 o_v0 (by decide)
                      have d_x10 : x10 = fI (sI (sJ S348 v0 8 x452) v0 4 x454) v0 7 := d_x10.trans (rd_j (by decide)).symm
                      have d_x446 : x446 = fI (sI (sJ S348 v0 8 x452) v0 4 x454) v0 6 := d_x446.trans (rd_j (by decide)).symm
                      have d_x454 : x454 = fI (sI (sJ S348 v0 8 x452) v0 4 x454) v0 4 := (u2_self _ _ _ _).symm
                      intro x455 ex455
                      exact ih361 _ _ _ _ _ _ ⟨hI, gL349, fL350, rfl, rfl, rfl, rfl, hT, (q301 i1 c9 q_x11 p_x12 q_x16 c17 q_x18 c19 q_x238 c239 i1 p_k1 c384 q_x405 p_x406 q_x410 c411 c432 q_x436 c438 q_x444 q_x446 c447 q_x453 ex454 ex455), (by rw [← d_x446, ← d_x454]; exact (q302 i1 c9 q_x11 p_x12 q_x16 c17 q_x18 c19 q_x238 c239 i1 p_k1 c384 q_x405 p_x406 q_x410 c411 c432 q_x436 c438 q_x444 q_x446 c447 q_x453 ex454 ex455))⟩ (mu_up (q303 i1 c9 q_x11 p_x12 q_x16 c17 q_x18 c19 q_x238 c239 i1 p_k1 c384 q_x405 p_x406 q_x410 c411 c432 q_x436 c438 q_x444 q_x446 c447 q_x453 ex454 ex455) (q304 i1 c9 q_x11 p_x12 q_x16 c17 q_x18 c19 q_x238 c239 i1 p_k1 c384 q_x405 p_x406 q_x410 c411 c432 q_x436 c438 q_x444 q_x446 c447 q_x453 ex454 ex455))
    · intro x456 ex456
      have q_x456 : x456 = x16 := ex456.trans d_x16.symm
      have d_x456 := ex456
      refine ⟨fun c457 => ?_, fun c457 => ?_⟩
      · refine u_X4_next_83 ?_
        refine ⟨o_v0, ?_⟩
        intro x458 ex458
        have q_x458 : x458 = x456 := ex458.trans d_x456.symm
        have d_x458 := ex458
        refine ⟨fun c459 => ?_, fun c459 => ?_⟩
        · refine u_X4_next_98 ?_
          refine ⟨o_v0, ?_⟩
          intro x460 ex460
          have q_x460 : x460 = x458 := ex460.trans d_x458.symm
          have d_x460 := ex460
          refine ⟨fun c461 => ?_, fun c461 => ?_⟩
          · refine u_X4_next_114 ?_
            refine i_X4_next_118 (fun (y0 : Nat) (y1 : Int32) (y2 : Int32) (y3 : Int32) (y4 : Int32) (Z : HS) => ((2147483647 : Int32).toInt - y4.toInt).toNat) (fun (y0 : Nat) (y1 : Int32) (y2 : Int32) (y3 : Int32) (y4 : Int32) (Z : HS) => (IV Z) ∧ (Gr (sJ (sI (sI S1 v0 7 x10) v0 6 x12) v0 8 (0 : Int64)) Z) ∧ (FRI [(4, 4)] [] (sJ (sI (sI S1 v0 7 x10) v0 6 x12) v0 8 (0 : Int64)) Z) ∧ (v0 = y0) ∧ ((0 : Int32) = y1) ∧ ((3 : Int32) = y2) ∧ ((10 : Int32) = y3) ∧ (TX Z v0) ∧ (0 ≤ y4) ∧ ((y1 = 0 ∨ fI Z v0 6 = 1 ∨ fI Z v0 6 = 2) ∧ (y1 = 0 → fI Z v0 6 = 0 ∨ (0 ≤ fI Z v0 4 ∧ fI Z v0 4 < 900)))) ?_ _ _ _ _ _ _ ⟨hI, (gr_rf _), (fri_rf _ _ _), rfl, rfl, rfl, rfl, hT, (q305 i1 c9 q_x11 p_x12 q_x16 c17 q_x456 c457 q_x458 c459 q_x460 c461), (by rw [← d_x460, ← d_x11]; exact (q306 i1 c9 q_x11 p_x12 q_x16 c17 q_x456 c457 q_x458 c459 q_x460 c461))⟩
            intro w465 w467 w469 w471 w473 S462 X474 ⟨hI, gL463, fL464, q466, q468, q470, q472, hT, i1, k1⟩ ih475
            subst q466
            subst q468
            subst q470
            subst q472
            have d_x10 := d_x10.trans (fri_at fL464 (by decide) (by decide) o_v0).symm
            have d_x460 := d_x460.trans (fri_at fL464 (by decide) (by decide) o_v0).symm
            have f0 := fri_tr g0 f0 fL464 (by decide) (by decide)
            have fL3 := fri_tr gL2 fL3 fL464 (by decide) (by decide)
            have o_v0 := gr_ob gL463 o_v0
            have g0 := gr_tr g0 gL463
            have gL2 := gr_tr gL2 gL463
            obtain ⟨y476, d_y476⟩ : ∃ z : Int32, z = fI S462 v0 4 := ⟨_, rfl⟩
            have p_k1 : ((0 : Int32) = 0 ∨ x460 = 1 ∨ x460 = 2) ∧ ((0 : Int32) = 0 → x460 = 0 ∨ (0 ≤ y476 ∧ y476 < 900)) := by rw [d_x460, d_y476]; exact k1
            refine u_X4_next_118 ?_
            refine ⟨fun c477 => ?_, fun c477 => ?_⟩
            · refine u_X4_next_217 ?_
              refine ⟨fun c478 => ?_, fun c478 => ?_⟩
              · refine u_X4_next_240 ?_
                refine ⟨fun c479 => ?_, fun c479 => ?_⟩
                · exact hq _ hI g0 f0 hT
                · refine ⟨o_v0, ?_⟩
                  intro x480 ex480
                  have q_x480 : x480 = x460 := ex480.trans d_x460.symm
                  have d_x480 := ex480
                  refine ⟨fun c481 => ?_, fun c481 => ?_⟩
                  · exact hq _ hI g0 f0 hT
                  · intro x482 ex482
                    have q_x482 : x482 = y476 := ex482.trans d_y476.symm
                    have d_x482 := ex482
                    intro x483 ex483
                    have hI := iv_sI (j := 4) (v := x483) hI o_v0 (by decide) (nu_free (by decide))
                    have f0 : FRI _ _ _ (sI S462 v0 4 x483) := fri_sI g0 f0 o_v0 (by decide)
                    have fL3 : FRI _ _ _ (sI S462 v0 4 x483) := fri_sI gL2 fL3 o_v0 (by decide)
                    have fL464 : FRI _ _ _ (sI S462 v0 4 x483) := fri_sI gL463 fL464 o_v0 (by decide)
                    have d_x10 : x10 = fI (sI S462 v0 4 x483) v0 7 := d_x10.trans (rd_j (by decide)).symm
                    have d_x480 : x480 = fI (sI S462 v0 4 x483) v0 6 := d_x480.trans (rd_j (by decide)).symm
                    have d_x483 : x483 = fI (sI S462 v0 4 x483) v0 4 := (u2_self _ _ _ _).symm
                    exact hq _ hI g0 f0 hT
              · refine ⟨o_v0, ?_⟩
                intro x484 ex484
                have q_x484 : x484 = y476 := ex484.trans d_y476.symm
                have d_x484 := ex484
                intro x485 ex485
                have q_x485 : x485 = x10 := ex485.trans d_x10.symm
                have d_x485 := ex485
                refine ⟨fun c486 => ?_, fun c486 => ?_⟩
                · refine u_X4_next_240 ?_
                  refine ⟨fun c487 => ?_, fun c487 => ?_⟩
                  · exact hq _ hI g0 f0 hT
                  · refine ⟨o_v0, ?_⟩
                    intro x488 ex488
                    have q_x488 : x488 = x460 := ex488.trans d_x460.symm
                    have d_x488 := ex488
                    refine ⟨fun c489 => ?_, fun c489 => ?_⟩
                    · exact hq _ hI g0 f0 hT
                    · intro x490 ex490
                      have q_x490 : x490 = x484 := ex490.trans d_x484.symm
                      have d_x490 := ex490
                      intro x491 ex491
                      have hI := iv_sI (j := 4) (v := x491) hI o_v0 (by decide) (nu_free (by decide))
                      have f0 : FRI _ _ _ (sI S462 v0 4 x491) := fri_sI g0 f0 o_v0 (by decide)
                      have fL3 : FRI _ _ _ (sI S462 v0 4 x491) := fri_sI gL2 fL3 o_v0 (by decide)
                      have fL464 : FRI _ _ _ (sI S462 v0 4 x491) := fri_sI gL463 fL464 o_v0 (by decide)
                      have d_x485 : x485 = fI (sI S462 v0 4 x491) v0 7 := d_x485.trans (rd_j (by decide)).symm
                      have d_x488 : x488 = fI (sI S462 v0 4 x491) v0 6 := d_x488.trans (rd_j (by decide)).symm
                      have d_x491 : x491 = fI (sI S462 v0 4 x491) v0 4 := (u2_self _ _ _ _).symm
                      exact hq _ hI g0 f0 hT
                · have hI := iv_sI (j := 6) (v := (6 : Int32)) hI o_v0 (by decide) (nu_free (by decide))
                  have f0 : FRI _ _ _ (sI S462 v0 6 (6 : Int32)) := fri_sI g0 f0 o_v0 (by decide)
                  have fL3 : FRI _ _ _ (sI S462 v0 6 (6 : Int32)) := fri_sI gL2 fL3 o_v0 (by decide)
                  have fL464 : FRI _ _ _ (sI S462 v0 6 (6 : Int32)) := fri_sI gL463 fL464 o_v0 (by decide)
                  have d_x485 : x485 = fI (sI S462 v0 6 (6 : Int32)) v0 7 := d_x485.trans (rd_j (by decide)).symm
                  have d_x484 : x484 = fI (sI S462 v0 6 (6 : Int32)) v0 4 := d_x484.trans (rd_j (by decide)).symm
                  obtain ⟨y492, hy492⟩ : ∃ z : Int32, z = (6 : Int32) := ⟨_, rfl⟩
                  have d_y492 : y492 = fI (sI S462 v0 6 (6 : Int32)) v0 6 := hy492.trans (u2_self _ _ _ _).symm
                  refine u_X4_next_240 ?_
                  refine ⟨fun c493 => ?_, fun c493 => ?_⟩
                  · exact hq _ hI g0 f0 hT
                  · refine ⟨o_v0, ?_⟩
                    intro x494 ex494
                    have q_x494 : x494 = y492 := ex494.trans d_y492.symm
                    have d_x494 := ex494
                    refine ⟨fun c495 => ?_, fun c495 => ?_⟩
                    · exact hq _ hI g0 f0 hT
                    · intro x496 ex496
                      have q_x496 : x496 = x484 := ex496.trans d_x484.symm
                      have d_x496 := ex496
                      intro x497 ex497
                      have hI := iv_sI (j := 4) (v := x497) hI o_v0 (by decide) (nu_free (by decide))
                      have f0 : FRI _ _ _ (sI (sI S462 v0 6 (6 : Int32)) v0 4 x497) := fri_sI g0 f0 o_v0 (by decide)
                      have fL3 : FRI _ _ _ (sI (sI S462 v0 6 (6 : Int32)) v0 4 x497) := fri_sI gL2 fL3 o_v0 (by decide)
                      have fL464 : FRI _ _ _ (sI (sI S462 v0 6 (6 : Int32)) v0 4 x497) := fri_sI gL463 fL464 o_v0 (by decide)
                      have d_x485 : x485 = fI (sI (sI S462 v0 6 (6 : Int32)) v0 4 x497) v0 7 := d_x485.trans (rd_j (by decide)).symm
                      have d_x494 : x494 = fI (sI (sI S462 v0 6 (6 : Int32)) v0 4 x497) v0 6 := d_x494.trans (rd_j (by decide)).symm
                      have d_x497 : x497 = fI (sI (sI S462 v0 6 (6 : Int32)) v0 4 x497) v0 4 := (u2_self _ _ _ _).symm
                      exact hq _ hI g0 f0 hT
            · refine ⟨fun c498 => ?_, fun c498 => ?_⟩
              · refine u_X4_next_217 ?_
                refine ⟨fun c499 => ?_, fun c499 => ?_⟩
                · refine u_X4_next_240 ?_
                  refine ⟨fun c500 => ?_, fun c500 => ?_⟩
                  · exact hq _ hI g0 f0 hT
                  · refine ⟨o_v0, ?_⟩
                    intro x501 ex501
                    have q_x501 : x501 = x460 := ex501.trans d_x460.symm
                    have d_x501 := ex501
                    refine ⟨fun c502 => ?_, fun c502 => ?_⟩
                    · exact hq _ hI g0 f0 hT
                    · intro x503 ex503
                      have q_x503 : x503 = y476 := ex503.trans d_y476.symm
                      have d_x503 := ex503
                      intro x504 ex504
                      have hI := iv_sI (j := 4) (v := x504) hI o_v0 (by decide) (nu_free (by decide))
                      have f0 : FRI _ _ _ (sI S462 v0 4 x504) := fri_sI g0 f0 o_v0 (by decide)
                      have fL3 : FRI _ _ _ (sI S462 v0 4 x504) := fri_sI gL2 fL3 o_v0 (by decide)
                      have fL464 : FRI _ _ _ (sI S462 v0 4 x504) := fri_sI gL463 fL464 o_v0 (by decide)
                      have d_x10 : x10 = fI (sI S462 v0 4 x504) v0 7 := d_x10.trans (rd_j (by decide)).symm
                      have d_x501 : x501 = fI (sI S462 v0 4 x504) v0 6 := d_x501.trans (rd_j (by decide)).symm
                      have d_x504 : x504 = fI (sI S462 v0 4 x504) v0 4 := (u2_self _ _ _ _).symm
                      exact hq _ hI g0 f0 hT
                · refine ⟨o_v0, ?_⟩
                  intro x505 ex505
                  have q_x505 : x505 = y476 := ex505.trans d_y476.symm
                  have d_x505 := ex505
                  intro x506 ex506
                  have q_x506 : x506 = x10 := ex506.trans d_x10.symm
                  have d_x506 := ex506
                  refine ⟨fun c507 => ?_, fun c507 => ?_⟩
                  · refine u_X4_next_240 ?_
                    refine ⟨fun c508 => ?_, fun c508 => ?_⟩
                    · exact hq _ hI g0 f0 hT
                    · refine ⟨o_v0, ?_⟩
                      intro x509 ex509
                      have q_x509 : x509 = x460 := ex509.trans d_x460.symm
                      have d_x509 := ex509
                      refine ⟨fun c510 => ?_, fun c510 => ?_⟩
                      · exact hq _ hI g0 f0 hT
                      · intro x511 ex511
                        have q_x511 : x511 = x505 := ex511.trans d_x505.symm
                        have d_x511 := ex511
                        intro x512 ex512
                        have hI := iv_sI (j := 4) (v := x512) hI o_v0 (by decide) (nu_free (by decide))
                        have f0 : FRI _ _ _ (sI S462 v0 4 x512) := fri_sI g0 f0 o_v0 (by decide)
                        have fL3 : FRI _ _ _ (sI S462 v0 4 x512) := fri_sI gL2 fL3 o_v0 (by decide)
                        have fL464 : FRI _ _ _ (sI S462 v0 4 x512) := fri_sI gL463 fL464 o_v0 (by decide)
                        have d_x506 : x506 = fI (sI S462 v0 4 x512) v0 7 := d_x506.trans (rd_j (by decide)).symm
                        have d_x509 : x509 = fI (sI S462 v0 4 x512) v0 6 := d_x509.trans (rd_j (by decide)).symm
                        have d_x512 : x512 = fI (sI S462 v0 4 x512) v0 4 := (u2_self _ _ _ _).symm
                        exact hq _ hI g0 f0 hT
                  · have hI := iv_sI (j := 6) (v := (6 : Int32)) hI o_v0 (by decide) (nu_free (by decide))
                    have f0 : FRI _ _ _ (sI S462 v0 6 (6 : Int32)) := fri_sI g0 f0 o_v0 (by decide)
                    have fL3 : FRI _ _ _ (sI S462 v0 6 (6 : Int32)) := fri_sI gL2 fL3 o_v0 (by decide)
                    have fL464 : FRI _ _ _ (sI S462 v0 6 (6 : Int32)) := fri_sI gL463 fL464 o_v0 (by decide)
                    have d_x506 : x506 = fI (sI S462 v0 6 (6 : Int32)) v0 7 := d_x506.trans (rd_j (by decide)).symm
                    have d_x505 : x505 = fI (sI S462 v0 6 (6 : Int32)) v0 4 := d_x505.trans (rd_j (by decide)).symm
                    obtain ⟨y513, hy513⟩ : ∃ z : Int32, z = (6 : Int32) := ⟨_, rfl⟩
                    have d_y513 : y513 = fI (sI S462 v0 6 (6 : Int32)) v0 6 := hy513.trans (u2_self _ _ _ _).symm
                    refine u_X4_next_240 ?_
                    refine ⟨fun c514 => ?_, fun c514 => ?_⟩
                    · exact hq _ hI g0 f0 hT
                    · refine ⟨o_v0, ?_⟩
                      intro x515 ex515
                      have q_x515 : x515 = y513 := ex515.trans d_y513.symm
                      have d_x515 := ex515
                      refine ⟨fun c516 => ?_, fun c516 => ?_⟩
                      · exact hq _ hI g0 f0 hT
                      · intro x517 ex517
                        have q_x517 : x517 = x505 := ex517.trans d_x505.symm
                        have d_x517 := ex517
                        intro x518 ex518
                        have hI := iv_sI (j := 4) (v := x518) hI o_v0 (by decide) (nu_free (by decide))
                        have f0 : FRI _ _ _ (sI (sI S462 v0 6 (6 : Int32)) v0 4 x518) := fri_sI g0 f0 o_v0 (by decide)
                        have fL3 : FRI _ _ _ (sI (sI S462 v0 6 (6 : Int32)) v0 4 x518) := fri_sI gL2 fL3 o_v0 (by decide)
                        have fL464 : FRI _ _ _ (sI (sI S462 v0 6 (6 : Int32)) v0 4 x518) := fri_sI gL463 fL464 o_v0 (by decide)
                        have d_x506 : x506 = fI (sI (sI S462 v0 6 (6 : Int32)) v0 4 x518) v0 7 := d_x506.trans (rd_j (by decide)).symm
                        have d_x515 : x515 = fI (sI (sI S462 v0 6 (6 : Int32)) v0 4 x518) v0 6 := d_x515.trans (rd_j (by decide)).symm
                        have d_x518 : x518 = fI (sI (sI S462 v0 6 (6 : Int32)) v0 4 x518) v0 4 := (u2_self _ _ _ _).symm
                        exact hq _ hI g0 f0 hT
              · refine ⟨o_v0, ?_⟩
                intro x519 ex519
                have q_x519 : x519 = y476 := ex519.trans d_y476.symm
                have d_x519 := ex519
                refine m_X4_sortAt hI o_v0 hT (fun x520 S521 hI2 g522 p_x520 => ?_)
                obtain ⟨z_S521, p_x520⟩ := p_x520
                subst z_S521
                intro _
                intro x524 ex524
                have q_x524 : x524 = x460 := ex524.trans d_x460.symm
                have d_x524 := ex524
                refine ⟨fun c525 => ?_, fun c525 => ?_⟩
                · refine u_X4_next_217 ?_
                  refine ⟨fun c526 => ?_, fun c526 => ?_⟩
                  · refine u_X4_next_240 ?_
                    refine ⟨fun c527 => ?_, fun c527 => ?_⟩
                    · exact hq _ hI g0 f0 hT
                    · refine ⟨o_v0, ?_⟩
                      intro x528 ex528
                      have q_x528 : x528 = x524 := ex528.trans d_x524.symm
                      have d_x528 := ex528
                      refine ⟨fun c529 => ?_, fun c529 => ?_⟩
                      · exact hq _ hI g0 f0 hT
                      · intro x530 ex530
                        have q_x530 : x530 = x519 := ex530.trans d_x519.symm
                        have d_x530 := ex530
                        intro x531 ex531
                        have hI := iv_sI (j := 4) (v := x531) hI o_v0 (by decide) (nu_free (by decide))
                        have f0 : FRI _ _ _ (sI S462 v0 4 x531) := fri_sI g0 f0 o_v0 (by decide)
                        have fL3 : FRI _ _ _ (sI S462 v0 4 x531) := fri_sI gL2 fL3 o_v0 (by decide)
                        have fL464 : FRI _ _ _ (sI S462 v0 4 x531) := fri_sI gL463 fL464 o_v0 (by decide)
                        have d_x10 : x10 = fI (sI S462 v0 4 x531) v0 7 := d_x10.trans (rd_j (by decide)).symm
                        have d_x528 : x528 = fI (sI S462 v0 4 x531) v0 6 := d_x528.trans (rd_j (by decide)).symm
                        have d_x531 : x531 = fI (sI S462 v0 4 x531) v0 4 := (u2_self _ _ _ _).symm
                        exact hq _ hI g0 f0 hT
                  · refine ⟨o_v0, ?_⟩
                    intro x532 ex532
                    have q_x532 : x532 = x519 := ex532.trans d_x519.symm
                    have d_x532 := ex532
                    intro x533 ex533
                    have q_x533 : x533 = x10 := ex533.trans d_x10.symm
                    have d_x533 := ex533
                    refine ⟨fun c534 => ?_, fun c534 => ?_⟩
                    · refine u_X4_next_240 ?_
                      refine ⟨fun c535 => ?_, fun c535 => ?_⟩
                      · exact hq _ hI g0 f0 hT
                      · refine ⟨o_v0, ?_⟩
                        intro x536 ex536
                        have q_x536 : x536 = x524 := ex536.trans d_x524.symm
                        have d_x536 := ex536
                        refine ⟨fun c537 => ?_, fun c537 => ?_⟩
                        · exact hq _ hI g0 f0 hT
                        · intro x538 ex538
                          have q_x538 : x538 = x532 := ex538.trans d_x532.symm
                          have d_x538 := ex538
                          intro x539 ex539
                          have hI := iv_sI (j := 4) (v := x539) hI o_v0 (by decide) (nu_free (by decide))
                          have f0 : FRI _ _ _ (sI S462 v0 4 x539) := fri_sI g0 f0 o_v0 (by decide)
                          have fL3 : FRI _ _ _ (sI S462 v0 4 x539) := fri_sI gL2 fL3 o_v0 (by decide)
                          have fL464 : FRI _ _ _ (sI S462 v0 4 x539) := fri_sI gL463 fL464 o_v0 (by decide)
                          have d_x533 : x533 = fI (sI S462 v0 4 x539) v0 7 := d_x533.trans (rd_j (by decide)).symm
                          have d_x536 : x536 = fI (sI S462 v0 4 x539) v0 6 := d_x536.trans (rd_j (by decide)).symm
                          have d_x539 : x539 = fI (sI S462 v0 4 x539) v0 4 := (u2_self _ _ _ _).symm
                          exact hq _ hI g0 f0 hT
                    · have hI := iv_sI (j := 6) (v := (6 : Int32)) hI o_v0 (by decide) (nu_free (by decide))
                      have f0 : FRI _ _ _ (sI S462 v0 6 (6 : Int32)) := fri_sI g0 f0 o_v0 (by decide)
                      have fL3 : FRI _ _ _ (sI S462 v0 6 (6 : Int32)) := fri_sI gL2 fL3 o_v0 (by decide)
                      have fL464 : FRI _ _ _ (sI S462 v0 6 (6 : Int32)) := fri_sI gL463 fL464 o_v0 (by decide)
                      have d_x533 : x533 = fI (sI S462 v0 6 (6 : Int32)) v0 7 := d_x533.trans (rd_j (by decide)).symm
                      have d_x532 : x532 = fI (sI S462 v0 6 (6 : Int32)) v0 4 := d_x532.trans (rd_j (by decide)).symm
                      obtain ⟨y540, hy540⟩ : ∃ z : Int32, z = (6 : Int32) := ⟨_, rfl⟩
                      have d_y540 : y540 = fI (sI S462 v0 6 (6 : Int32)) v0 6 := hy540.trans (u2_self _ _ _ _).symm
                      refine u_X4_next_240 ?_
                      refine ⟨fun c541 => ?_, fun c541 => ?_⟩
                      · exact hq _ hI g0 f0 hT
                      · refine ⟨o_v0, ?_⟩
                        intro x542 ex542
                        have q_x542 : x542 = y540 := ex542.trans d_y540.symm
                        have d_x542 := ex542
                        refine ⟨fun c543 => ?_, fun c543 => ?_⟩
                        · exact hq _ hI g0 f0 hT
                        · intro x544 ex544
                          have q_x544 : x544 = x532 := ex544.trans d_x532.symm
                          have d_x544 := ex544
                          intro x545 ex545
                          have hI := iv_sI (j := 4) (v := x545) hI o_v0 (by decide) (nu_free (by decide))
                          have f0 : FRI _ _ _ (sI (sI S462 v0 6 (6 : Int32)) v0 4 x545) := fri_sI g0 f0 o_v0 (by decide)
                          have fL3 : FRI _ _ _ (sI (sI S462 v0 6 (6 : Int32)) v0 4 x545) := fri_sI gL2 fL3 o_v0 (by decide)
                          have fL464 : FRI _ _ _ (sI (sI S462 v0 6 (6 : Int32)) v0 4 x545) := fri_sI gL463 fL464 o_v0 (by decide)
                          have d_x533 : x533 = fI (sI (sI S462 v0 6 (6 : Int32)) v0 4 x545) v0 7 := d_x533.trans (rd_j (by decide)).symm
                          have d_x542 : x542 = fI (sI (sI S462 v0 6 (6 : Int32)) v0 4 x545) v0 6 := d_x542.trans (rd_j (by decide)).symm
                          have d_x545 : x545 = fI (sI (sI S462 v0 6 (6 : Int32)) v0 4 x545) v0 4 := (u2_self _ _ _ _).symm
                          exact hq _ hI g0 f0 hT
                · refine ⟨fun c546 => ?_, fun c546 => ?_⟩
                  · refine u_X4_next_201 ?_
                    refine ⟨o_v0, ?_⟩
                    intro x547 ex547
                    have q_x547 : x547 = x519 := ex547.trans d_x519.symm
                    have d_x547 := ex547
                    intro x548 ex548
                    have hI := iv_sI (j := 4) (v := x548) hI o_v0 (by decide) (nu_free (by decide))
                    have f0 : FRI _ _ _ (sI S462 v0 4 x548) := fri_sI g0 f0 o_v0 (by decide)
                    have fL3 : FRI _ _ _ (sI S462 v0 4 x548) := fri_sI gL2 fL3 o_v0 (by decide)
                    have fL464 : FRI _ _ _ (sI S462 v0 4 x548) := fri_sI gL463 fL464 o_v0 (by decide)
                    have d_x10 : x10 = fI (sI S462 v0 4 x548) v0 7 := d_x10.trans (rd_j (by decide)).symm
                    have d_x524 : x524 = fI (sI S462 v0 4 x548) v0 6 := d_x524.trans (rd_j (by decide)).symm
                    have d_x548 : x548 = fI (sI S462 v0 4 x548) v0 4 := (u2_self _ _ _ _).symm
                    intro x549 ex549
                    exact ih475 _ _ _ _ _ _ ⟨hI, gL463, fL464, rfl, rfl, rfl, rfl, hT, (q307 i1 c9 q_x11 p_x12 q_x16 c17 q_x456 c457 q_x458 c459 q_x460 c461 i1 p_k1 c477 c498 q_x519 p_x520 q_x524 c525 c546 q_x547 ex548 ex549), (by rw [← d_x524, ← d_x548]; exact (q308 i1 c9 q_x11 p_x12 q_x16 c17 q_x456 c457 q_x458 c459 q_x460 c461 i1 p_k1 c477 c498 q_x519 p_x520 q_x524 c525 c546 q_x547 ex548 ex549))⟩ (mu_up (q309 i1 c9 q_x11 p_x12 q_x16 c17 q_x456 c457 q_x458 c459 q_x460 c461 i1 p_k1 c477 c498 q_x519 p_x520 q_x524 c525 c546 q_x547 ex548 ex549) (q310 i1 c9 q_x11 p_x12 q_x16 c17 q_x456 c457 q_x458 c459 q_x460 c461 i1 p_k1 c477 c498 q_x519 p_x520 q_x524 c525 c546 q_x547 ex548 ex549))
                  · intro x550 ex550
                    have q_x550 : x550 = x519 := ex550.trans d_x519.symm
                    have d_x550 := ex550
                    obtain ⟨a551, ea551, o_a551, l_a551⟩ := hT
                    refine ⟨a551, ea551, ?_⟩
                    refine ⟨o_a551, ?_⟩
                    have n_a551 : nI (hN S462 a551) = 900 := by rw [show hN S462 a551 = 900 from l_a551]; decide
                    refine ⟨fun c552 => ?_, fun c552 => ?_⟩
                    · rw [n_a551] at c552
                      refine u_X4_next_201 ?_
                      refine ⟨o_v0, ?_⟩
                      intro x553 ex553
                      have q_x553 : x553 = x550 := ex553.trans d_x550.symm
                      have d_x553 := ex553
                      intro x554 ex554
                      have hI := iv_sI (j := 4) (v := x554) hI o_v0 (by decide) (nu_free (by decide))
                      have f0 : FRI _ _ _ (sI S462 v0 4 x554) := fri_sI g0 f0 o_v0 (by decide)
                      have fL3 : FRI _ _ _ (sI S462 v0 4 x554) := fri_sI gL2 fL3 o_v0 (by decide)
                      have fL464 : FRI _ _ _ (sI S462 v0 4 x554) := fri_sI gL463 fL464 o_v0 (by decide)
                      have d_x10 : x10 = fI (sI S462 v0 4 x554) v0 7 := d_x10.trans (rd_j (by decide)).symm
                      have d_x524 : x524 = fI (sI S462 v0 4 x554) v0 6 := d_x524.trans (rd_j (by decide)).symm
                      have d_x554 : x554 = fI (sI S462 v0 4 x554) v0 4 := (u2_self _ _ _ _).symm
                      intro x555 ex555
                      exact ih475 _ _ _ _ _ _ ⟨hI, gL463, fL464, rfl, rfl, rfl, rfl, hT, (q311 i1 c9 q_x11 p_x12 q_x16 c17 q_x456 c457 q_x458 c459 q_x460 c461 i1 p_k1 c477 c498 q_x519 p_x520 q_x524 c525 c546 q_x550 c552 q_x553 ex554 ex555), (by rw [← d_x524, ← d_x554]; exact (q312 i1 c9 q_x11 p_x12 q_x16 c17 q_x456 c457 q_x458 c459 q_x460 c461 i1 p_k1 c477 c498 q_x519 p_x520 q_x524 c525 c546 q_x550 c552 q_x553 ex554 ex555))⟩ (mu_up (q313 i1 c9 q_x11 p_x12 q_x16 c17 q_x456 c457 q_x458 c459 q_x460 c461 i1 p_k1 c477 c498 q_x519 p_x520 q_x524 c525 c546 q_x550 c552 q_x553 ex554 ex555) (q314 i1 c9 q_x11 p_x12 q_x16 c17 q_x456 c457 q_x458 c459 q_x460 c461 i1 p_k1 c477 c498 q_x519 p_x520 q_x524 c525 c546 q_x550 c552 q_x553 ex554 ex555))
                    · rw [n_a551] at c552
                      intro x556 ex556
                      have dj_x556 := ex556
                      refine ⟨a551, ea551, ?_⟩
                      intro x558 ex558
                      have q_x558 : x558 = x550 := ex558.trans d_x550.symm
                      have d_x558 := ex558
                      refine ⟨o_a551, ?_⟩
                      refine ⟨(vin l_a551 (m := 900) (by decide) (q315 i1 c9 q_x11 p_x12 q_x16 c17 q_x456 c457 q_x458 c459 q_x460 c461 i1 p_k1 c477 c498 q_x519 p_x520 q_x524 c525 c546 q_x550 c552 q_x558)), ?_⟩
                      intro x559 ex559
                      intro x560 ex560
                      have q_x560 : x560 = x524 := ex560.trans d_x524.symm
                      have d_x560 := ex560
                      refine ⟨fun c561 => ?_, fun c561 => ?_⟩
                      · refine u_X4_next_195 ?_
                        refine ⟨o_v0, ?_⟩
                        intro x562 ex562
                        have hI := iv_sJ (j := 8) (v := x562) hI o_v0 (by decide)
                        refine u_X4_next_201 ?_
                        refine ⟨o_v0, ?_⟩
                        intro x563 ex563
                        have q_x563 : x563 = x558 := ex563.trans d_x558.symm
                        have d_x563 := ex563
                        intro x564 ex564
                        have hI := iv_sI (j := 4) (v := x564) hI o_v0 (by decide) (nu_free (by decide))
                        have f0 : FRI _ _ _ (sI (sJ S462 v0 8 x562) v0 4 x564) := fri_sI g0 f0 o_v0 (by decide)
                        have fL3 : FRI _ _ _ (sI (sJ S462 v0 8 x562) v0 4 x564) := fri_sI gL2 fL3 o_v0 (by decide)
                        have fL464 : FRI _ _ _ (sI (sJ S462 v0 8 x562) v0 4 x564) := fri_sI gL463 fL464 o_v0 (by decide)
                        have d_x10 : x10 = fI (sI (sJ S462 v0 8 x562) v0 4 x564) v0 7 := d_x10.trans (rd_j (by decide)).symm
                        have d_x560 : x560 = fI (sI (sJ S462 v0 8 x562) v0 4 x564) v0 6 := d_x560.trans (rd_j (by decide)).symm
                        have d_x564 : x564 = fI (sI (sJ S462 v0 8 x562) v0 4 x564) v0 4 := (u2_self _ _ _ _).symm
                        intro x565 ex565
                        exact ih475 _ _ _ _ _ _ ⟨hI, gL463, fL464, rfl, rfl, rfl, rfl, hT, (q316 i1 c9 q_x11 p_x12 q_x16 c17 q_x456 c457 q_x458 c459 q_x460 c461 i1 p_k1 c477 c498 q_x519 p_x520 q_x524 c525 c546 q_x550 c552 q_x558 q_x560 c561 q_x563 ex564 ex565), (by rw [← d_x560, ← d_x564]; exact (q317 i1 c9 q_x11 p_x12 q_x16 c17 q_x456 c457 q_x458 c459 q_x460 c461 i1 p_k1 c477 c498 q_x519 p_x520 q_x524 c525 c546 q_x550 c552 q_x558 q_x560 c561 q_x563 ex564 ex565))⟩ (mu_up (q318 i1 c9 q_x11 p_x12 q_x16 c17 q_x456 c457 q_x458 c459 q_x460 c461 i1 p_k1 c477 c498 q_x519 p_x520 q_x524 c525 c546 q_x550 c552 q_x558 q_x560 c561 q_x563 ex564 ex565) (q319 i1 c9 q_x11 p_x12 q_x16 c17 q_x456 c457 q_x458 c459 q_x460 c461 i1 p_k1 c477 c498 q_x519 p_x520 q_x524 c525 c546 q_x550 c552 q_x558 q_x560 c561 q_x563 ex564 ex565))
                      · refine u_X4_next_195 ?_
                        refine ⟨o_v0, ?_⟩
                        intro x566 ex566
                        have hI := iv_sJ (j := 8) (v := x566) hI o_v0 (by decide)
                        refine u_X4_next_201 ?_
                        refine ⟨o_v0, ?_⟩
                        intro x567 ex567
                        have q_x567 : x567 = x558 := ex567.trans d_x558.symm
                        have d_x567 := ex567
                        intro x568 ex568
                        have hI := iv_sI (j := 4) (v := x568) hI o_v0 (by decide) (nu_free (by decide))
                        have f0 : FRI _ _ _ (sI (sJ S462 v0 8 x566) v0 4 x568) := fri_sI g0 f0 o_v0 (by decide)
                        have fL3 : FRI _ _ _ (sI (sJ S462 v0 8 x566) v0 4 x568) := fri_sI gL2 fL3 o_v0 (by decide)
                        have fL464 : FRI _ _ _ (sI (sJ S462 v0 8 x566) v0 4 x568) := fri_sI gL463 fL464 o_v0 (by decide)
                        have d_x10 : x10 = fI (sI (sJ S462 v0 8 x566) v0 4 x568) v0 7 := d_x10.trans (rd_j (by decide)).symm
                        have d_x560 : x560 = fI (sI (sJ S462 v0 8 x566) v0 4 x568) v0 6 := d_x560.trans (rd_j (by decide)).symm
                        have d_x568 : x568 = fI (sI (sJ S462 v0 8 x566) v0 4 x568) v0 4 := (u2_self _ _ _ _).symm
                        intro x569 ex569
                        exact ih475 _ _ _ _ _ _ ⟨hI, gL463, fL464, rfl, rfl, rfl, rfl, hT, (q320 i1 c9 q_x11 p_x12 q_x16 c17 q_x456 c457 q_x458 c459 q_x460 c461 i1 p_k1 c477 c498 q_x519 p_x520 q_x524 c525 c546 q_x550 c552 q_x558 q_x560 c561 q_x567 ex568 ex569), (by rw [← d_x560, ← d_x568]; exact (q321 i1 c9 q_x11 p_x12 q_x16 c17 q_x456 c457 q_x458 c459 q_x460 c461 i1 p_k1 c477 c498 q_x519 p_x520 q_x524 c525 c546 q_x550 c552 q_x558 q_x560 c561 q_x567 ex568 ex569))⟩ (mu_up (q322 i1 c9 q_x11 p_x12 q_x16 c17 q_x456 c457 q_x458 c459 q_x460 c461 i1 p_k1 c477 c498 q_x519 p_x520 q_x524 c525 c546 q_x550 c552 q_x558 q_x560 c561 q_x567 ex568 ex569) (q323 i1 c9 q_x11 p_x12 q_x16 c17 q_x456 c457 q_x458 c459 q_x460 c461 i1 p_k1 c477 c498 q_x519 p_x520 q_x524 c525 c546 q_x550 c552 q_x558 q_x560 c561 q_x567 ex568 ex569))
          · refine u_X4_next_114 ?_
            refine i_X4_next_118 (fun (y0 : Nat) (y1 : Int32) (y2 : Int32) (y3 : Int32) (y4 : Int32) (Z : HS) => ((2147483647 : Int32).toInt - y4.toInt).toNat) (fun (y0 : Nat) (y1 : Int32) (y2 : Int32) (y3 : Int32) (y4 : Int32) (Z : HS) => (IV Z) ∧ (Gr (sJ (sI (sI S1 v0 7 x10) v0 6 x12) v0 8 (0 : Int64)) Z) ∧ (FRI [(4, 4)] [] (sJ (sI (sI S1 v0 7 x10) v0 6 x12) v0 8 (0 : Int64)) Z) ∧ (v0 = y0) ∧ ((0 : Int32) = y1) ∧ ((3 : Int32) = y2) ∧ ((32 : Int32) = y3) ∧ (TX Z v0) ∧ (0 ≤ y4) ∧ ((y1 = 0 ∨ fI Z v0 6 = 1 ∨ fI Z v0 6 = 2) ∧ (y1 = 0 → fI Z v0 6 = 0 ∨ (0 ≤ fI Z v0 4 ∧ fI Z v0 4 < 900)))) ?_ _ _ _ _ _ _ ⟨hI, (gr_rf _), (fri_rf _ _ _), rfl, rfl, rfl, rfl, hT, (q324 i1 c9 q_x11 p_x12 q_x16 c17 q_x456 c457 q_x458 c459 q_x460 c461), (by rw [← d_x460, ← d_x11]; exact (q325 i1 c9 q_x11 p_x12 q_x16 c17 q_x456 c457 q_x458 c459 q_x460 c461))⟩
            intro w573 w575 w577 w579 w581 S570 X582 ⟨hI, gL571, fL572, q574, q576, q578, q580, hT, i1, k1⟩ ih583
            subst q574
            subst q576
            subst q578
            subst q580
            have d_x10 := d_x10.trans (fri_at fL572 (by decide) (by decide) o_v0).symm
            have d_x460 := d_x460.trans (fri_at fL572 (by decide) (by decide) o_v0).symm
            have f0 := fri_tr g0 f0 fL572 (by decide) (by decide)
            have fL3 := fri_tr gL2 fL3 fL572 (by decide) (by decide)
            have o_v0 := gr_ob gL571 o_v0
            have g0 := gr_tr g0 gL571
            have gL2 := gr_tr gL2 gL571
            obtain ⟨y584, d_y584⟩ : ∃ z : Int32, z = fI S570 v0 4 := ⟨_, rfl⟩
            have p_k1 : ((0 : Int32) = 0 ∨ x460 = 1 ∨ x460 = 2) ∧ ((0 : Int32) = 0 → x460 = 0 ∨ (0 ≤ y584 ∧ y584 < 900)) := by rw [d_x460, d_y584]; exact k1
            refine u_X4_next_118 ?_
            refine ⟨fun c585 => ?_, fun c585 => ?_⟩
            · refine u_X4_next_217 ?_
              refine ⟨fun c586 => ?_, fun c586 => ?_⟩
              · refine u_X4_next_240 ?_
                refine ⟨fun c587 => ?_, fun c587 => ?_⟩
                · exact hq _ hI g0 f0 hT
                · refine ⟨o_v0, ?_⟩
                  intro x588 ex588
                  have q_x588 : x588 = x460 := ex588.trans d_x460.symm
                  have d_x588 := ex588
                  refine ⟨fun c589 => ?_, fun c589 => ?_⟩
                  · exact hq _ hI g0 f0 hT
                  · intro x590 ex590
                    have q_x590 : x590 = y584 := ex590.trans d_y584.symm
                    have d_x590 := ex590
                    intro x591 ex591
                    have hI := iv_sI (j := 4) (v := x591) hI o_v0 (by decide) (nu_free (by decide))
                    have f0 : FRI _ _ _ (sI S570 v0 4 x591) := fri_sI g0 f0 o_v0 (by decide)
                    have fL3 : FRI _ _ _ (sI S570 v0 4 x591) := fri_sI gL2 fL3 o_v0 (by decide)
                    have fL572 : FRI _ _ _ (sI S570 v0 4 x591) := fri_sI gL571 fL572 o_v0 (by decide)
                    have d_x10 : x10 = fI (sI S570 v0 4 x591) v0 7 := d_x10.trans (rd_j (by decide)).symm
                    have d_x588 : x588 = fI (sI S570 v0 4 x591) v0 6 := d_x588.trans (rd_j (by decide)).symm
                    have d_x591 : x591 = fI (sI S570 v0 4 x591) v0 4 := (u2_self _ _ _ _).symm
                    exact hq _ hI g0 f0 hT
              · refine ⟨o_v0, ?_⟩
                intro x592 ex592
                have q_x592 : x592 = y584 := ex592.trans d_y584.symm
                have d_x592 := ex592
                intro x593 ex593
                have q_x593 : x593 = x10 := ex593.trans d_x10.symm
                have d_x593 := ex593
                refine ⟨fun c594 => ?_, fun c594 => ?_⟩
                · refine u_X4_next_240 ?_
                  refine ⟨fun c595 => ?_, fun c595 => ?_⟩
                  · exact hq _ hI g0 f0 hT
                  · refine ⟨o_v0, ?_⟩
                    intro x596 ex596
                    have q_x596 : x596 = x460 := ex596.trans d_x460.symm
                    have d_x596 := ex596
                    refine ⟨fun c597 => ?_, fun c597 => ?_⟩
                    · exact hq _ hI g0 f0 hT
                    · intro x598 ex598
                      have q_x598 : x598 = x592 := ex598.trans d_x592.symm
                      have d_x598 := ex598
                      intro x599 ex599
                      have hI := iv_sI (j := 4) (v := x599) hI o_v0 (by decide) (nu_free (by decide))
                      have f0 : FRI _ _ _ (sI S570 v0 4 x599) := fri_sI g0 f0 o_v0 (by decide)
                      have fL3 : FRI _ _ _ (sI S570 v0 4 x599) := fri_sI gL2 fL3 o_v0 (by decide)
                      have fL572 : FRI _ _ _ (sI S570 v0 4 x599) := fri_sI gL571 fL572 o_v0 (by decide)
                      have d_x593 : x593 = fI (sI S570 v0 4 x599) v0 7 := d_x593.trans (rd_j (by decide)).symm
                      have d_x596 : x596 = fI (sI S570 v0 4 x599) v0 6 := d_x596.trans (rd_j (by decide)).symm
                      have d_x599 : x599 = fI (sI S570 v0 4 x599) v0 4 := (u2_self _ _ _ _).symm
                      exact hq _ hI g0 f0 hT
                · have hI := iv_sI (j := 6) (v := (6 : Int32)) hI o_v0 (by decide) (nu_free (by decide))
                  have f0 : FRI _ _ _ (sI S570 v0 6 (6 : Int32)) := fri_sI g0 f0 o_v0 (by decide)
                  have fL3 : FRI _ _ _ (sI S570 v0 6 (6 : Int32)) := fri_sI gL2 fL3 o_v0 (by decide)
                  have fL572 : FRI _ _ _ (sI S570 v0 6 (6 : Int32)) := fri_sI gL571 fL572 o_v0 (by decide)
                  have d_x593 : x593 = fI (sI S570 v0 6 (6 : Int32)) v0 7 := d_x593.trans (rd_j (by decide)).symm
                  have d_x592 : x592 = fI (sI S570 v0 6 (6 : Int32)) v0 4 := d_x592.trans (rd_j (by decide)).symm
                  obtain ⟨y600, hy600⟩ : ∃ z : Int32, z = (6 : Int32) := ⟨_, rfl⟩
                  have d_y600 : y600 = fI (sI S570 v0 6 (6 : Int32)) v0 6 := hy600.trans (u2_self _ _ _ _).symm
                  refine u_X4_next_240 ?_
                  refine ⟨fun c601 => ?_, fun c601 => ?_⟩
                  · exact hq _ hI g0 f0 hT
                  · refine ⟨o_v0, ?_⟩
                    intro x602 ex602
                    have q_x602 : x602 = y600 := ex602.trans d_y600.symm
                    have d_x602 := ex602
                    refine ⟨fun c603 => ?_, fun c603 => ?_⟩
                    · exact hq _ hI g0 f0 hT
                    · intro x604 ex604
                      have q_x604 : x604 = x592 := ex604.trans d_x592.symm
                      have d_x604 := ex604
                      intro x605 ex605
                      have hI := iv_sI (j := 4) (v := x605) hI o_v0 (by decide) (nu_free (by decide))
                      have f0 : FRI _ _ _ (sI (sI S570 v0 6 (6 : Int32)) v0 4 x605) := fri_sI g0 f0 o_v0 (by decide)
                      have fL3 : FRI _ _ _ (sI (sI S570 v0 6 (6 : Int32)) v0 4 x605) := fri_sI gL2 fL3 o_v0 (by decide)
                      have fL572 : FRI _ _ _ (sI (sI S570 v0 6 (6 : Int32)) v0 4 x605) := fri_sI gL571 fL572 o_v0 (by decide)
                      have d_x593 : x593 = fI (sI (sI S570 v0 6 (6 : Int32)) v0 4 x605) v0 7 := d_x593.trans (rd_j (by decide)).symm
                      have d_x602 : x602 = fI (sI (sI S570 v0 6 (6 : Int32)) v0 4 x605) v0 6 := d_x602.trans (rd_j (by decide)).symm
                      have d_x605 : x605 = fI (sI (sI S570 v0 6 (6 : Int32)) v0 4 x605) v0 4 := (u2_self _ _ _ _).symm
                      exact hq _ hI g0 f0 hT
            · refine ⟨fun c606 => ?_, fun c606 => ?_⟩
              · refine u_X4_next_217 ?_
                refine ⟨fun c607 => ?_, fun c607 => ?_⟩
                · refine u_X4_next_240 ?_
                  refine ⟨fun c608 => ?_, fun c608 => ?_⟩
                  · exact hq _ hI g0 f0 hT
                  · refine ⟨o_v0, ?_⟩
                    intro x609 ex609
                    have q_x609 : x609 = x460 := ex609.trans d_x460.symm
                    have d_x609 := ex609
                    refine ⟨fun c610 => ?_, fun c610 => ?_⟩
                    · exact hq _ hI g0 f0 hT
                    · intro x611 ex611
                      have q_x611 : x611 = y584 := ex611.trans d_y584.symm
                      have d_x611 := ex611
                      intro x612 ex612
                      have hI := iv_sI (j := 4) (v := x612) hI o_v0 (by decide) (nu_free (by decide))
                      have f0 : FRI _ _ _ (sI S570 v0 4 x612) := fri_sI g0 f0 o_v0 (by decide)
                      have fL3 : FRI _ _ _ (sI S570 v0 4 x612) := fri_sI gL2 fL3 o_v0 (by decide)
                      have fL572 : FRI _ _ _ (sI S570 v0 4 x612) := fri_sI gL571 fL572 o_v0 (by decide)
                      have d_x10 : x10 = fI (sI S570 v0 4 x612) v0 7 := d_x10.trans (rd_j (by decide)).symm
                      have d_x609 : x609 = fI (sI S570 v0 4 x612) v0 6 := d_x609.trans (rd_j (by decide)).symm
                      have d_x612 : x612 = fI (sI S570 v0 4 x612) v0 4 := (u2_self _ _ _ _).symm
                      exact hq _ hI g0 f0 hT
                · refine ⟨o_v0, ?_⟩
                  intro x613 ex613
                  have q_x613 : x613 = y584 := ex613.trans d_y584.symm
                  have d_x613 := ex613
                  intro x614 ex614
                  have q_x614 : x614 = x10 := ex614.trans d_x10.symm
                  have d_x614 := ex614
                  refine ⟨fun c615 => ?_, fun c615 => ?_⟩
                  · refine u_X4_next_240 ?_
                    refine ⟨fun c616 => ?_, fun c616 => ?_⟩
                    · exact hq _ hI g0 f0 hT
                    · refine ⟨o_v0, ?_⟩
                      intro x617 ex617
                      have q_x617 : x617 = x460 := ex617.trans d_x460.symm
                      have d_x617 := ex617
                      refine ⟨fun c618 => ?_, fun c618 => ?_⟩
                      · exact hq _ hI g0 f0 hT
                      · intro x619 ex619
                        have q_x619 : x619 = x613 := ex619.trans d_x613.symm
                        have d_x619 := ex619
                        intro x620 ex620
                        have hI := iv_sI (j := 4) (v := x620) hI o_v0 (by decide) (nu_free (by decide))
                        have f0 : FRI _ _ _ (sI S570 v0 4 x620) := fri_sI g0 f0 o_v0 (by decide)
                        have fL3 : FRI _ _ _ (sI S570 v0 4 x620) := fri_sI gL2 fL3 o_v0 (by decide)
                        have fL572 : FRI _ _ _ (sI S570 v0 4 x620) := fri_sI gL571 fL572 o_v0 (by decide)
                        have d_x614 : x614 = fI (sI S570 v0 4 x620) v0 7 := d_x614.trans (rd_j (by decide)).symm
                        have d_x617 : x617 = fI (sI S570 v0 4 x620) v0 6 := d_x617.trans (rd_j (by decide)).symm
                        have d_x620 : x620 = fI (sI S570 v0 4 x620) v0 4 := (u2_self _ _ _ _).symm
                        exact hq _ hI g0 f0 hT
                  · have hI := iv_sI (j := 6) (v := (6 : Int32)) hI o_v0 (by decide) (nu_free (by decide))
                    have f0 : FRI _ _ _ (sI S570 v0 6 (6 : Int32)) := fri_sI g0 f0 o_v0 (by decide)
                    have fL3 : FRI _ _ _ (sI S570 v0 6 (6 : Int32)) := fri_sI gL2 fL3 o_v0 (by decide)
                    have fL572 : FRI _ _ _ (sI S570 v0 6 (6 : Int32)) := fri_sI gL571 fL572 o_v0 (by decide)
                    have d_x614 : x614 = fI (sI S570 v0 6 (6 : Int32)) v0 7 := d_x614.trans (rd_j (by decide)).symm
                    have d_x613 : x613 = fI (sI S570 v0 6 (6 : Int32)) v0 4 := d_x613.trans (rd_j (by decide)).symm
                    obtain ⟨y621, hy621⟩ : ∃ z : Int32, z = (6 : Int32) := ⟨_, rfl⟩
                    have d_y621 : y621 = fI (sI S570 v0 6 (6 : Int32)) v0 6 := hy621.trans (u2_self _ _ _ _).symm
                    refine u_X4_next_240 ?_
                    refine ⟨fun c622 => ?_, fun c622 => ?_⟩
                    · exact hq _ hI g0 f0 hT
                    · refine ⟨o_v0, ?_⟩
                      intro x623 ex623
                      have q_x623 : x623 = y621 := ex623.trans d_y621.symm
                      have d_x623 := ex623
                      refine ⟨fun c624 => ?_, fun c624 => ?_⟩
                      · exact hq _ hI g0 f0 hT
                      · intro x625 ex625
                        have q_x625 : x625 = x613 := ex625.trans d_x613.symm
                        have d_x625 := ex625
                        intro x626 ex626
                        have hI := iv_sI (j := 4) (v := x626) hI o_v0 (by decide) (nu_free (by decide))
                        have f0 : FRI _ _ _ (sI (sI S570 v0 6 (6 : Int32)) v0 4 x626) := fri_sI g0 f0 o_v0 (by decide)
                        have fL3 : FRI _ _ _ (sI (sI S570 v0 6 (6 : Int32)) v0 4 x626) := fri_sI gL2 fL3 o_v0 (by decide)
                        have fL572 : FRI _ _ _ (sI (sI S570 v0 6 (6 : Int32)) v0 4 x626) := fri_sI gL571 fL572 o_v0 (by decide)
                        have d_x614 : x614 = fI (sI (sI S570 v0 6 (6 : Int32)) v0 4 x626) v0 7 := d_x614.trans (rd_j (by decide)).symm
                        have d_x623 : x623 = fI (sI (sI S570 v0 6 (6 : Int32)) v0 4 x626) v0 6 := d_x623.trans (rd_j (by decide)).symm
                        have d_x626 : x626 = fI (sI (sI S570 v0 6 (6 : Int32)) v0 4 x626) v0 4 := (u2_self _ _ _ _).symm
                        exact hq _ hI g0 f0 hT
              · refine ⟨o_v0, ?_⟩
                intro x627 ex627
                have q_x627 : x627 = y584 := ex627.trans d_y584.symm
                have d_x627 := ex627
                refine m_X4_sortAt hI o_v0 hT (fun x628 S629 hI2 g630 p_x628 => ?_)
                obtain ⟨z_S629, p_x628⟩ := p_x628
                subst z_S629
                intro _
                intro x632 ex632
                have q_x632 : x632 = x460 := ex632.trans d_x460.symm
                have d_x632 := ex632
                refine ⟨fun c633 => ?_, fun c633 => ?_⟩
                · refine u_X4_next_217 ?_
                  refine ⟨fun c634 => ?_, fun c634 => ?_⟩
                  · refine u_X4_next_240 ?_
                    refine ⟨fun c635 => ?_, fun c635 => ?_⟩
                    · exact hq _ hI g0 f0 hT
                    · refine ⟨o_v0, ?_⟩
                      intro x636 ex636
                      have q_x636 : x636 = x632 := ex636.trans d_x632.symm
                      have d_x636 := ex636
                      refine ⟨fun c637 => ?_, fun c637 => ?_⟩
                      · exact hq _ hI g0 f0 hT
                      · intro x638 ex638
                        have q_x638 : x638 = x627 := ex638.trans d_x627.symm
                        have d_x638 := ex638
                        intro x639 ex639
                        have hI := iv_sI (j := 4) (v := x639) hI o_v0 (by decide) (nu_free (by decide))
                        have f0 : FRI _ _ _ (sI S570 v0 4 x639) := fri_sI g0 f0 o_v0 (by decide)
                        have fL3 : FRI _ _ _ (sI S570 v0 4 x639) := fri_sI gL2 fL3 o_v0 (by decide)
                        have fL572 : FRI _ _ _ (sI S570 v0 4 x639) := fri_sI gL571 fL572 o_v0 (by decide)
                        have d_x10 : x10 = fI (sI S570 v0 4 x639) v0 7 := d_x10.trans (rd_j (by decide)).symm
                        have d_x636 : x636 = fI (sI S570 v0 4 x639) v0 6 := d_x636.trans (rd_j (by decide)).symm
                        have d_x639 : x639 = fI (sI S570 v0 4 x639) v0 4 := (u2_self _ _ _ _).symm
                        exact hq _ hI g0 f0 hT
                  · refine ⟨o_v0, ?_⟩
                    intro x640 ex640
                    have q_x640 : x640 = x627 := ex640.trans d_x627.symm
                    have d_x640 := ex640
                    intro x641 ex641
                    have q_x641 : x641 = x10 := ex641.trans d_x10.symm
                    have d_x641 := ex641
                    refine ⟨fun c642 => ?_, fun c642 => ?_⟩
                    · refine u_X4_next_240 ?_
                      refine ⟨fun c643 => ?_, fun c643 => ?_⟩
                      · exact hq _ hI g0 f0 hT
                      · refine ⟨o_v0, ?_⟩
                        intro x644 ex644
                        have q_x644 : x644 = x632 := ex644.trans d_x632.symm
                        have d_x644 := ex644
                        refine ⟨fun c645 => ?_, fun c645 => ?_⟩
                        · exact hq _ hI g0 f0 hT
                        · intro x646 ex646
                          have q_x646 : x646 = x640 := ex646.trans d_x640.symm
                          have d_x646 := ex646
                          intro x647 ex647
                          have hI := iv_sI (j := 4) (v := x647) hI o_v0 (by decide) (nu_free (by decide))
                          have f0 : FRI _ _ _ (sI S570 v0 4 x647) := fri_sI g0 f0 o_v0 (by decide)
                          have fL3 : FRI _ _ _ (sI S570 v0 4 x647) := fri_sI gL2 fL3 o_v0 (by decide)
                          have fL572 : FRI _ _ _ (sI S570 v0 4 x647) := fri_sI gL571 fL572 o_v0 (by decide)
                          have d_x641 : x641 = fI (sI S570 v0 4 x647) v0 7 := d_x641.trans (rd_j (by decide)).symm
                          have d_x644 : x644 = fI (sI S570 v0 4 x647) v0 6 := d_x644.trans (rd_j (by decide)).symm
                          have d_x647 : x647 = fI (sI S570 v0 4 x647) v0 4 := (u2_self _ _ _ _).symm
                          exact hq _ hI g0 f0 hT
                    · have hI := iv_sI (j := 6) (v := (6 : Int32)) hI o_v0 (by decide) (nu_free (by decide))
                      have f0 : FRI _ _ _ (sI S570 v0 6 (6 : Int32)) := fri_sI g0 f0 o_v0 (by decide)
                      have fL3 : FRI _ _ _ (sI S570 v0 6 (6 : Int32)) := fri_sI gL2 fL3 o_v0 (by decide)
                      have fL572 : FRI _ _ _ (sI S570 v0 6 (6 : Int32)) := fri_sI gL571 fL572 o_v0 (by decide)
                      have d_x641 : x641 = fI (sI S570 v0 6 (6 : Int32)) v0 7 := d_x641.trans (rd_j (by decide)).symm
                      have d_x640 : x640 = fI (sI S570 v0 6 (6 : Int32)) v0 4 := d_x640.trans (rd_j (by decide)).symm
                      obtain ⟨y648, hy648⟩ : ∃ z : Int32, z = (6 : Int32) := ⟨_, rfl⟩
                      have d_y648 : y648 = fI (sI S570 v0 6 (6 : Int32)) v0 6 := hy648.trans (u2_self _ _ _ _).symm
                      refine u_X4_next_240 ?_
                      refine ⟨fun c649 => ?_, fun c649 => ?_⟩
                      · exact hq _ hI g0 f0 hT
                      · refine ⟨o_v0, ?_⟩
                        intro x650 ex650
                        have q_x650 : x650 = y648 := ex650.trans d_y648.symm
                        have d_x650 := ex650
                        refine ⟨fun c651 => ?_, fun c651 => ?_⟩
                        · exact hq _ hI g0 f0 hT
                        · intro x652 ex652
                          have q_x652 : x652 = x640 := ex652.trans d_x640.symm
                          have d_x652 := ex652
                          intro x653 ex653
                          have hI := iv_sI (j := 4) (v := x653) hI o_v0 (by decide) (nu_free (by decide))
                          have f0 : FRI _ _ _ (sI (sI S570 v0 6 (6 : Int32)) v0 4 x653) := fri_sI g0 f0 o_v0 (by decide)
                          have fL3 : FRI _ _ _ (sI (sI S570 v0 6 (6 : Int32)) v0 4 x653) := fri_sI gL2 fL3 o_v0 (by decide)
                          have fL572 : FRI _ _ _ (sI (sI S570 v0 6 (6 : Int32)) v0 4 x653) := fri_sI gL571 fL572 o_v0 (by decide)
                          have d_x641 : x641 = fI (sI (sI S570 v0 6 (6 : Int32)) v0 4 x653) v0 7 := d_x641.trans (rd_j (by decide)).symm
                          have d_x650 : x650 = fI (sI (sI S570 v0 6 (6 : Int32)) v0 4 x653) v0 6 := d_x650.trans (rd_j (by decide)).symm
                          have d_x653 : x653 = fI (sI (sI S570 v0 6 (6 : Int32)) v0 4 x653) v0 4 := (u2_self _ _ _ _).symm
                          exact hq _ hI g0 f0 hT
                · refine ⟨fun c654 => ?_, fun c654 => ?_⟩
                  · refine u_X4_next_201 ?_
                    refine ⟨o_v0, ?_⟩
                    intro x655 ex655
                    have q_x655 : x655 = x627 := ex655.trans d_x627.symm
                    have d_x655 := ex655
                    intro x656 ex656
                    have hI := iv_sI (j := 4) (v := x656) hI o_v0 (by decide) (nu_free (by decide))
                    have f0 : FRI _ _ _ (sI S570 v0 4 x656) := fri_sI g0 f0 o_v0 (by decide)
                    have fL3 : FRI _ _ _ (sI S570 v0 4 x656) := fri_sI gL2 fL3 o_v0 (by decide)
                    have fL572 : FRI _ _ _ (sI S570 v0 4 x656) := fri_sI gL571 fL572 o_v0 (by decide)
                    have d_x10 : x10 = fI (sI S570 v0 4 x656) v0 7 := d_x10.trans (rd_j (by decide)).symm
                    have d_x632 : x632 = fI (sI S570 v0 4 x656) v0 6 := d_x632.trans (rd_j (by decide)).symm
                    have d_x656 : x656 = fI (sI S570 v0 4 x656) v0 4 := (u2_self _ _ _ _).symm
                    intro x657 ex657
                    exact ih583 _ _ _ _ _ _ ⟨hI, gL571, fL572, rfl, rfl, rfl, rfl, hT, (q326 i1 c9 q_x11 p_x12 q_x16 c17 q_x456 c457 q_x458 c459 q_x460 c461 i1 p_k1 c585 c606 q_x627 p_x628 q_x632 c633 c654 q_x655 ex656 ex657), (by rw [← d_x632, ← d_x656]; exact (q327 i1 c9 q_x11 p_x12 q_x16 c17 q_x456 c457 q_x458 c459 q_x460 c461 i1 p_k1 c585 c606 q_x627 p_x628 q_x632 c633 c654 q_x655 ex656 ex657))⟩ (mu_up (q328 i1 c9 q_x11 p_x12 q_x16 c17 q_x456 c457 q_x458 c459 q_x460 c461 i1 p_k1 c585 c606 q_x627 p_x628 q_x632 c633 c654 q_x655 ex656 ex657) (q329 i1 c9 q_x11 p_x12 q_x16 c17 q_x456 c457 q_x458 c459 q_x460 c461 i1 p_k1 c585 c606 q_x627 p_x628 q_x632 c633 c654 q_x655 ex656 ex657))
                  · intro x658 ex658
                    have q_x658 : x658 = x627 := ex658.trans d_x627.symm
                    have d_x658 := ex658
                    obtain ⟨a659, ea659, o_a659, l_a659⟩ := hT
                    refine ⟨a659, ea659, ?_⟩
                    refine ⟨o_a659, ?_⟩
                    have n_a659 : nI (hN S570 a659) = 900 := by rw [show hN S570 a659 = 900 from l_a659]; decide
                    refine ⟨fun c660 => ?_, fun c660 => ?_⟩
                    · rw [n_a659] at c660
                      refine u_X4_next_201 ?_
                      refine ⟨o_v0, ?_⟩
                      intro x661 ex661
                      have q_x661 : x661 = x658 := ex661.trans d_x658.symm
                      have d_x661 := ex661
                      intro x662 ex662
                      have hI := iv_sI (j := 4) (v := x662) hI o_v0 (by decide) (nu_free (by decide))
                      have f0 : FRI _ _ _ (sI S570 v0 4 x662) := fri_sI g0 f0 o_v0 (by decide)
                      have fL3 : FRI _ _ _ (sI S570 v0 4 x662) := fri_sI gL2 fL3 o_v0 (by decide)
                      have fL572 : FRI _ _ _ (sI S570 v0 4 x662) := fri_sI gL571 fL572 o_v0 (by decide)
                      have d_x10 : x10 = fI (sI S570 v0 4 x662) v0 7 := d_x10.trans (rd_j (by decide)).symm
                      have d_x632 : x632 = fI (sI S570 v0 4 x662) v0 6 := d_x632.trans (rd_j (by decide)).symm
                      have d_x662 : x662 = fI (sI S570 v0 4 x662) v0 4 := (u2_self _ _ _ _).symm
                      intro x663 ex663
                      exact ih583 _ _ _ _ _ _ ⟨hI, gL571, fL572, rfl, rfl, rfl, rfl, hT, (q330 i1 c9 q_x11 p_x12 q_x16 c17 q_x456 c457 q_x458 c459 q_x460 c461 i1 p_k1 c585 c606 q_x627 p_x628 q_x632 c633 c654 q_x658 c660 q_x661 ex662 ex663), (by rw [← d_x632, ← d_x662]; exact (q331 i1 c9 q_x11 p_x12 q_x16 c17 q_x456 c457 q_x458 c459 q_x460 c461 i1 p_k1 c585 c606 q_x627 p_x628 q_x632 c633 c654 q_x658 c660 q_x661 ex662 ex663))⟩ (mu_up (q332 i1 c9 q_x11 p_x12 q_x16 c17 q_x456 c457 q_x458 c459 q_x460 c461 i1 p_k1 c585 c606 q_x627 p_x628 q_x632 c633 c654 q_x658 c660 q_x661 ex662 ex663) (q333 i1 c9 q_x11 p_x12 q_x16 c17 q_x456 c457 q_x458 c459 q_x460 c461 i1 p_k1 c585 c606 q_x627 p_x628 q_x632 c633 c654 q_x658 c660 q_x661 ex662 ex663))
                    · rw [n_a659] at c660
                      intro x664 ex664
                      have dj_x664 := ex664
                      refine ⟨a659, ea659, ?_⟩
                      intro x666 ex666
                      have q_x666 : x666 = x658 := ex666.trans d_x658.symm
                      have d_x666 := ex666
                      refine ⟨o_a659, ?_⟩
                      refine ⟨(vin l_a659 (m := 900) (by decide) (q334 i1 c9 q_x11 p_x12 q_x16 c17 q_x456 c457 q_x458 c459 q_x460 c461 i1 p_k1 c585 c606 q_x627 p_x628 q_x632 c633 c654 q_x658 c660 q_x666)), ?_⟩
                      intro x667 ex667
                      intro x668 ex668
                      have q_x668 : x668 = x632 := ex668.trans d_x632.symm
                      have d_x668 := ex668
                      refine ⟨fun c669 => ?_, fun c669 => ?_⟩
                      · refine u_X4_next_195 ?_
                        refine ⟨o_v0, ?_⟩
                        intro x670 ex670
                        have hI := iv_sJ (j := 8) (v := x670) hI o_v0 (by decide)
                        refine u_X4_next_201 ?_
                        refine ⟨o_v0, ?_⟩
                        intro x671 ex671
                        have q_x671 : x671 = x666 := ex671.trans d_x666.symm
                        have d_x671 := ex671
                        intro x672 ex672
                        have hI := iv_sI (j := 4) (v := x672) hI o_v0 (by decide) (nu_free (by decide))
                        have f0 : FRI _ _ _ (sI (sJ S570 v0 8 x670) v0 4 x672) := fri_sI g0 f0 o_v0 (by decide)
                        have fL3 : FRI _ _ _ (sI (sJ S570 v0 8 x670) v0 4 x672) := fri_sI gL2 fL3 o_v0 (by decide)
                        have fL572 : FRI _ _ _ (sI (sJ S570 v0 8 x670) v0 4 x672) := fri_sI gL571 fL572 o_v0 (by decide)
                        have d_x10 : x10 = fI (sI (sJ S570 v0 8 x670) v0 4 x672) v0 7 := d_x10.trans (rd_j (by decide)).symm
                        have d_x668 : x668 = fI (sI (sJ S570 v0 8 x670) v0 4 x672) v0 6 := d_x668.trans (rd_j (by decide)).symm
                        have d_x672 : x672 = fI (sI (sJ S570 v0 8 x670) v0 4 x672) v0 4 := (u2_self _ _ _ _).symm
                        intro x673 ex673
                        exact ih583 _ _ _ _ _ _ ⟨hI, gL571, fL572, rfl, rfl, rfl, rfl, hT, (q335 i1 c9 q_x11 p_x12 q_x16 c17 q_x456 c457 q_x458 c459 q_x460 c461 i1 p_k1 c585 c606 q_x627 p_x628 q_x632 c633 c654 q_x658 c660 q_x666 q_x668 c669 q_x671 ex672 ex673), (by rw [← d_x668, ← d_x672]; exact (q336 i1 c9 q_x11 p_x12 q_x16 c17 q_x456 c457 q_x458 c459 q_x460 c461 i1 p_k1 c585 c606 q_x627 p_x628 q_x632 c633 c654 q_x658 c660 q_x666 q_x668 c669 q_x671 ex672 ex673))⟩ (mu_up (q337 i1 c9 q_x11 p_x12 q_x16 c17 q_x456 c457 q_x458 c459 q_x460 c461 i1 p_k1 c585 c606 q_x627 p_x628 q_x632 c633 c654 q_x658 c660 q_x666 q_x668 c669 q_x671 ex672 ex673) (q338 i1 c9 q_x11 p_x12 q_x16 c17 q_x456 c457 q_x458 c459 q_x460 c461 i1 p_k1 c585 c606 q_x627 p_x628 q_x632 c633 c654 q_x658 c660 q_x666 q_x668 c669 q_x671 ex672 ex673))
                      · refine u_X4_next_195 ?_
                        refine ⟨o_v0, ?_⟩
                        intro x674 ex674
                        have hI := iv_sJ (j := 8) (v := x674) hI o_v0 (by decide)
                        refine u_X4_next_201 ?_
                        refine ⟨o_v0, ?_⟩
                        intro x675 ex675
                        have q_x675 : x675 = x666 := ex675.trans d_x666.symm
                        have d_x675 := ex675
                        intro x676 ex676
                        have hI := iv_sI (j := 4) (v := x676) hI o_v0 (by decide) (nu_free (by decide))
                        have f0 : FRI _ _ _ (sI (sJ S570 v0 8 x674) v0 4 x676) := fri_sI g0 f0 o_v0 (by decide)
                        have fL3 : FRI _ _ _ (sI (sJ S570 v0 8 x674) v0 4 x676) := fri_sI gL2 fL3 o_v0 (by decide)
                        have fL572 : FRI _ _ _ (sI (sJ S570 v0 8 x674) v0 4 x676) := fri_sI gL571 fL572 o_v0 (by decide)
                        have d_x10 : x10 = fI (sI (sJ S570 v0 8 x674) v0 4 x676) v0 7 := d_x10.trans (rd_j (by decide)).symm
                        have d_x668 : x668 = fI (sI (sJ S570 v0 8 x674) v0 4 x676) v0 6 := d_x668.trans (rd_j (by decide)).symm
                        have d_x676 : x676 = fI (sI (sJ S570 v0 8 x674) v0 4 x676) v0 4 := (u2_self _ _ _ _).symm
                        intro x677 ex677
                        exact ih583 _ _ _ _ _ _ ⟨hI, gL571, fL572, rfl, rfl, rfl, rfl, hT, (q339 i1 c9 q_x11 p_x12 q_x16 c17 q_x456 c457 q_x458 c459 q_x460 c461 i1 p_k1 c585 c606 q_x627 p_x628 q_x632 c633 c654 q_x658 c660 q_x666 q_x668 c669 q_x675 ex676 ex677), (by rw [← d_x668, ← d_x676]; exact (q340 i1 c9 q_x11 p_x12 q_x16 c17 q_x456 c457 q_x458 c459 q_x460 c461 i1 p_k1 c585 c606 q_x627 p_x628 q_x632 c633 c654 q_x658 c660 q_x666 q_x668 c669 q_x675 ex676 ex677))⟩ (mu_up (q341 i1 c9 q_x11 p_x12 q_x16 c17 q_x456 c457 q_x458 c459 q_x460 c461 i1 p_k1 c585 c606 q_x627 p_x628 q_x632 c633 c654 q_x658 c660 q_x666 q_x668 c669 q_x675 ex676 ex677) (q342 i1 c9 q_x11 p_x12 q_x16 c17 q_x456 c457 q_x458 c459 q_x460 c461 i1 p_k1 c585 c606 q_x627 p_x628 q_x632 c633 c654 q_x658 c660 q_x666 q_x668 c669 q_x675 ex676 ex677))
        · refine u_X4_next_98 ?_
          refine ⟨o_v0, ?_⟩
          intro x678 ex678
          have q_x678 : x678 = x458 := ex678.trans d_x458.symm
          have d_x678 := ex678
          refine ⟨fun c679 => ?_, fun c679 => ?_⟩
          · refine u_X4_next_114 ?_
            refine i_X4_next_118 (fun (y0 : Nat) (y1 : Int32) (y2 : Int32) (y3 : Int32) (y4 : Int32) (Z : HS) => ((2147483647 : Int32).toInt - y4.toInt).toNat) (fun (y0 : Nat) (y1 : Int32) (y2 : Int32) (y3 : Int32) (y4 : Int32) (Z : HS) => (IV Z) ∧ (Gr (sJ (sI (sI S1 v0 7 x10) v0 6 x12) v0 8 (0 : Int64)) Z) ∧ (FRI [(4, 4)] [] (sJ (sI (sI S1 v0 7 x10) v0 6 x12) v0 8 (0 : Int64)) Z) ∧ (v0 = y0) ∧ ((0 : Int32) = y1) ∧ ((8 : Int32) = y2) ∧ ((10 : Int32) = y3) ∧ (TX Z v0) ∧ (0 ≤ y4) ∧ ((y1 = 0 ∨ fI Z v0 6 = 1 ∨ fI Z v0 6 = 2) ∧ (y1 = 0 → fI Z v0 6 = 0 ∨ (0 ≤ fI Z v0 4 ∧ fI Z v0 4 < 900)))) ?_ _ _ _ _ _ _ ⟨hI, (gr_rf _), (fri_rf _ _ _), rfl, rfl, rfl, rfl, hT, (q343 i1 c9 q_x11 p_x12 q_x16 c17 q_x456 c457 q_x458 c459 q_x678 c679), (by rw [← d_x678, ← d_x11]; exact (q344 i1 c9 q_x11 p_x12 q_x16 c17 q_x456 c457 q_x458 c459 q_x678 c679))⟩
            intro w683 w685 w687 w689 w691 S680 X692 ⟨hI, gL681, fL682, q684, q686, q688, q690, hT, i1, k1⟩ ih693
            subst q684
            subst q686
            subst q688
            subst q690
            have d_x10 := d_x10.trans (fri_at fL682 (by decide) (by decide) o_v0).symm
            have d_x678 := d_x678.trans (fri_at fL682 (by decide) (by decide) o_v0).symm
            have f0 := fri_tr g0 f0 fL682 (by decide) (by decide)
            have fL3 := fri_tr gL2 fL3 fL682 (by decide) (by decide)
            have o_v0 := gr_ob gL681 o_v0
            have g0 := gr_tr g0 gL681
            have gL2 := gr_tr gL2 gL681
            obtain ⟨y694, d_y694⟩ : ∃ z : Int32, z = fI S680 v0 4 := ⟨_, rfl⟩
            have p_k1 : ((0 : Int32) = 0 ∨ x678 = 1 ∨ x678 = 2) ∧ ((0 : Int32) = 0 → x678 = 0 ∨ (0 ≤ y694 ∧ y694 < 900)) := by rw [d_x678, d_y694]; exact k1
            refine u_X4_next_118 ?_
            refine ⟨fun c695 => ?_, fun c695 => ?_⟩
            · refine u_X4_next_217 ?_
              refine ⟨fun c696 => ?_, fun c696 => ?_⟩
              · refine u_X4_next_240 ?_
                refine ⟨fun c697 => ?_, fun c697 => ?_⟩
                · exact hq _ hI g0 f0 hT
                · refine ⟨o_v0, ?_⟩
                  intro x698 ex698
                  have q_x698 : x698 = x678 := ex698.trans d_x678.symm
                  have d_x698 := ex698
                  refine ⟨fun c699 => ?_, fun c699 => ?_⟩
                  · exact hq _ hI g0 f0 hT
                  · intro x700 ex700
                    have q_x700 : x700 = y694 := ex700.trans d_y694.symm
                    have d_x700 := ex700
                    intro x701 ex701
                    have hI := iv_sI (j := 4) (v := x701) hI o_v0 (by decide) (nu_free (by decide))
                    have f0 : FRI _ _ _ (sI S680 v0 4 x701) := fri_sI g0 f0 o_v0 (by decide)
                    have fL3 : FRI _ _ _ (sI S680 v0 4 x701) := fri_sI gL2 fL3 o_v0 (by decide)
                    have fL682 : FRI _ _ _ (sI S680 v0 4 x701) := fri_sI gL681 fL682 o_v0 (by decide)
                    have d_x10 : x10 = fI (sI S680 v0 4 x701) v0 7 := d_x10.trans (rd_j (by decide)).symm
                    have d_x698 : x698 = fI (sI S680 v0 4 x701) v0 6 := d_x698.trans (rd_j (by decide)).symm
                    have d_x701 : x701 = fI (sI S680 v0 4 x701) v0 4 := (u2_self _ _ _ _).symm
                    exact hq _ hI g0 f0 hT
              · refine ⟨o_v0, ?_⟩
                intro x702 ex702
                have q_x702 : x702 = y694 := ex702.trans d_y694.symm
                have d_x702 := ex702
                intro x703 ex703
                have q_x703 : x703 = x10 := ex703.trans d_x10.symm
                have d_x703 := ex703
                refine ⟨fun c704 => ?_, fun c704 => ?_⟩
                · refine u_X4_next_240 ?_
                  refine ⟨fun c705 => ?_, fun c705 => ?_⟩
                  · exact hq _ hI g0 f0 hT
                  · refine ⟨o_v0, ?_⟩
                    intro x706 ex706
                    have q_x706 : x706 = x678 := ex706.trans d_x678.symm
                    have d_x706 := ex706
                    refine ⟨fun c707 => ?_, fun c707 => ?_⟩
                    · exact hq _ hI g0 f0 hT
                    · intro x708 ex708
                      have q_x708 : x708 = x702 := ex708.trans d_x702.symm
                      have d_x708 := ex708
                      intro x709 ex709
                      have hI := iv_sI (j := 4) (v := x709) hI o_v0 (by decide) (nu_free (by decide))
                      have f0 : FRI _ _ _ (sI S680 v0 4 x709) := fri_sI g0 f0 o_v0 (by decide)
                      have fL3 : FRI _ _ _ (sI S680 v0 4 x709) := fri_sI gL2 fL3 o_v0 (by decide)
                      have fL682 : FRI _ _ _ (sI S680 v0 4 x709) := fri_sI gL681 fL682 o_v0 (by decide)
                      have d_x703 : x703 = fI (sI S680 v0 4 x709) v0 7 := d_x703.trans (rd_j (by decide)).symm
                      have d_x706 : x706 = fI (sI S680 v0 4 x709) v0 6 := d_x706.trans (rd_j (by decide)).symm
                      have d_x709 : x709 = fI (sI S680 v0 4 x709) v0 4 := (u2_self _ _ _ _).symm
                      exact hq _ hI g0 f0 hT
                · have hI := iv_sI (j := 6) (v := (6 : Int32)) hI o_v0 (by decide) (nu_free (by decide))
                  have f0 : FRI _ _ _ (sI S680 v0 6 (6 : Int32)) := fri_sI g0 f0 o_v0 (by decide)
                  have fL3 : FRI _ _ _ (sI S680 v0 6 (6 : Int32)) := fri_sI gL2 fL3 o_v0 (by decide)
                  have fL682 : FRI _ _ _ (sI S680 v0 6 (6 : Int32)) := fri_sI gL681 fL682 o_v0 (by decide)
                  have d_x703 : x703 = fI (sI S680 v0 6 (6 : Int32)) v0 7 := d_x703.trans (rd_j (by decide)).symm
                  have d_x702 : x702 = fI (sI S680 v0 6 (6 : Int32)) v0 4 := d_x702.trans (rd_j (by decide)).symm
                  obtain ⟨y710, hy710⟩ : ∃ z : Int32, z = (6 : Int32) := ⟨_, rfl⟩
                  have d_y710 : y710 = fI (sI S680 v0 6 (6 : Int32)) v0 6 := hy710.trans (u2_self _ _ _ _).symm
                  refine u_X4_next_240 ?_
                  refine ⟨fun c711 => ?_, fun c711 => ?_⟩
                  · exact hq _ hI g0 f0 hT
                  · refine ⟨o_v0, ?_⟩
                    intro x712 ex712
                    have q_x712 : x712 = y710 := ex712.trans d_y710.symm
                    have d_x712 := ex712
                    refine ⟨fun c713 => ?_, fun c713 => ?_⟩
                    · exact hq _ hI g0 f0 hT
                    · intro x714 ex714
                      have q_x714 : x714 = x702 := ex714.trans d_x702.symm
                      have d_x714 := ex714
                      intro x715 ex715
                      have hI := iv_sI (j := 4) (v := x715) hI o_v0 (by decide) (nu_free (by decide))
                      have f0 : FRI _ _ _ (sI (sI S680 v0 6 (6 : Int32)) v0 4 x715) := fri_sI g0 f0 o_v0 (by decide)
                      have fL3 : FRI _ _ _ (sI (sI S680 v0 6 (6 : Int32)) v0 4 x715) := fri_sI gL2 fL3 o_v0 (by decide)
                      have fL682 : FRI _ _ _ (sI (sI S680 v0 6 (6 : Int32)) v0 4 x715) := fri_sI gL681 fL682 o_v0 (by decide)
                      have d_x703 : x703 = fI (sI (sI S680 v0 6 (6 : Int32)) v0 4 x715) v0 7 := d_x703.trans (rd_j (by decide)).symm
                      have d_x712 : x712 = fI (sI (sI S680 v0 6 (6 : Int32)) v0 4 x715) v0 6 := d_x712.trans (rd_j (by decide)).symm
                      have d_x715 : x715 = fI (sI (sI S680 v0 6 (6 : Int32)) v0 4 x715) v0 4 := (u2_self _ _ _ _).symm
                      exact hq _ hI g0 f0 hT
            · refine ⟨fun c716 => ?_, fun c716 => ?_⟩
              · refine u_X4_next_217 ?_
                refine ⟨fun c717 => ?_, fun c717 => ?_⟩
                · refine u_X4_next_240 ?_
                  refine ⟨fun c718 => ?_, fun c718 => ?_⟩
                  · exact hq _ hI g0 f0 hT
                  · refine ⟨o_v0, ?_⟩
                    intro x719 ex719
                    have q_x719 : x719 = x678 := ex719.trans d_x678.symm
                    have d_x719 := ex719
                    refine ⟨fun c720 => ?_, fun c720 => ?_⟩
                    · exact hq _ hI g0 f0 hT
                    · intro x721 ex721
                      have q_x721 : x721 = y694 := ex721.trans d_y694.symm
                      have d_x721 := ex721
                      intro x722 ex722
                      have hI := iv_sI (j := 4) (v := x722) hI o_v0 (by decide) (nu_free (by decide))
                      have f0 : FRI _ _ _ (sI S680 v0 4 x722) := fri_sI g0 f0 o_v0 (by decide)
                      have fL3 : FRI _ _ _ (sI S680 v0 4 x722) := fri_sI gL2 fL3 o_v0 (by decide)
                      have fL682 : FRI _ _ _ (sI S680 v0 4 x722) := fri_sI gL681 fL682 o_v0 (by decide)
                      have d_x10 : x10 = fI (sI S680 v0 4 x722) v0 7 := d_x10.trans (rd_j (by decide)).symm
                      have d_x719 : x719 = fI (sI S680 v0 4 x722) v0 6 := d_x719.trans (rd_j (by decide)).symm
                      have d_x722 : x722 = fI (sI S680 v0 4 x722) v0 4 := (u2_self _ _ _ _).symm
                      exact hq _ hI g0 f0 hT
                · refine ⟨o_v0, ?_⟩
                  intro x723 ex723
                  have q_x723 : x723 = y694 := ex723.trans d_y694.symm
                  have d_x723 := ex723
                  intro x724 ex724
                  have q_x724 : x724 = x10 := ex724.trans d_x10.symm
                  have d_x724 := ex724
                  refine ⟨fun c725 => ?_, fun c725 => ?_⟩
                  · refine u_X4_next_240 ?_
                    refine ⟨fun c726 => ?_, fun c726 => ?_⟩
                    · exact hq _ hI g0 f0 hT
                    · refine ⟨o_v0, ?_⟩
                      intro x727 ex727
                      have q_x727 : x727 = x678 := ex727.trans d_x678.symm
                      have d_x727 := ex727
                      refine ⟨fun c728 => ?_, fun c728 => ?_⟩
                      · exact hq _ hI g0 f0 hT
                      · intro x729 ex729
                        have q_x729 : x729 = x723 := ex729.trans d_x723.symm
                        have d_x729 := ex729
                        intro x730 ex730
                        have hI := iv_sI (j := 4) (v := x730) hI o_v0 (by decide) (nu_free (by decide))
                        have f0 : FRI _ _ _ (sI S680 v0 4 x730) := fri_sI g0 f0 o_v0 (by decide)
                        have fL3 : FRI _ _ _ (sI S680 v0 4 x730) := fri_sI gL2 fL3 o_v0 (by decide)
                        have fL682 : FRI _ _ _ (sI S680 v0 4 x730) := fri_sI gL681 fL682 o_v0 (by decide)
                        have d_x724 : x724 = fI (sI S680 v0 4 x730) v0 7 := d_x724.trans (rd_j (by decide)).symm
                        have d_x727 : x727 = fI (sI S680 v0 4 x730) v0 6 := d_x727.trans (rd_j (by decide)).symm
                        have d_x730 : x730 = fI (sI S680 v0 4 x730) v0 4 := (u2_self _ _ _ _).symm
                        exact hq _ hI g0 f0 hT
                  · have hI := iv_sI (j := 6) (v := (6 : Int32)) hI o_v0 (by decide) (nu_free (by decide))
                    have f0 : FRI _ _ _ (sI S680 v0 6 (6 : Int32)) := fri_sI g0 f0 o_v0 (by decide)
                    have fL3 : FRI _ _ _ (sI S680 v0 6 (6 : Int32)) := fri_sI gL2 fL3 o_v0 (by decide)
                    have fL682 : FRI _ _ _ (sI S680 v0 6 (6 : Int32)) := fri_sI gL681 fL682 o_v0 (by decide)
                    have d_x724 : x724 = fI (sI S680 v0 6 (6 : Int32)) v0 7 := d_x724.trans (rd_j (by decide)).symm
                    have d_x723 : x723 = fI (sI S680 v0 6 (6 : Int32)) v0 4 := d_x723.trans (rd_j (by decide)).symm
                    obtain ⟨y731, hy731⟩ : ∃ z : Int32, z = (6 : Int32) := ⟨_, rfl⟩
                    have d_y731 : y731 = fI (sI S680 v0 6 (6 : Int32)) v0 6 := hy731.trans (u2_self _ _ _ _).symm
                    refine u_X4_next_240 ?_
                    refine ⟨fun c732 => ?_, fun c732 => ?_⟩
                    · exact hq _ hI g0 f0 hT
                    · refine ⟨o_v0, ?_⟩
                      intro x733 ex733
                      have q_x733 : x733 = y731 := ex733.trans d_y731.symm
                      have d_x733 := ex733
                      refine ⟨fun c734 => ?_, fun c734 => ?_⟩
                      · exact hq _ hI g0 f0 hT
                      · intro x735 ex735
                        have q_x735 : x735 = x723 := ex735.trans d_x723.symm
                        have d_x735 := ex735
                        intro x736 ex736
                        have hI := iv_sI (j := 4) (v := x736) hI o_v0 (by decide) (nu_free (by decide))
                        have f0 : FRI _ _ _ (sI (sI S680 v0 6 (6 : Int32)) v0 4 x736) := fri_sI g0 f0 o_v0 (by decide)
                        have fL3 : FRI _ _ _ (sI (sI S680 v0 6 (6 : Int32)) v0 4 x736) := fri_sI gL2 fL3 o_v0 (by decide)
                        have fL682 : FRI _ _ _ (sI (sI S680 v0 6 (6 : Int32)) v0 4 x736) := fri_sI gL681 fL682 o_v0 (by decide)
                        have d_x724 : x724 = fI (sI (sI S680 v0 6 (6 : Int32)) v0 4 x736) v0 7 := d_x724.trans (rd_j (by decide)).symm
                        have d_x733 : x733 = fI (sI (sI S680 v0 6 (6 : Int32)) v0 4 x736) v0 6 := d_x733.trans (rd_j (by decide)).symm
                        have d_x736 : x736 = fI (sI (sI S680 v0 6 (6 : Int32)) v0 4 x736) v0 4 := (u2_self _ _ _ _).symm
                        exact hq _ hI g0 f0 hT
              · refine ⟨o_v0, ?_⟩
                intro x737 ex737
                have q_x737 : x737 = y694 := ex737.trans d_y694.symm
                have d_x737 := ex737
                refine m_X4_sortAt hI o_v0 hT (fun x738 S739 hI2 g740 p_x738 => ?_)
                obtain ⟨z_S739, p_x738⟩ := p_x738
                subst z_S739
                intro _
                intro x742 ex742
                have q_x742 : x742 = x678 := ex742.trans d_x678.symm
                have d_x742 := ex742
                refine ⟨fun c743 => ?_, fun c743 => ?_⟩
                · refine u_X4_next_217 ?_
                  refine ⟨fun c744 => ?_, fun c744 => ?_⟩
                  · refine u_X4_next_240 ?_
                    refine ⟨fun c745 => ?_, fun c745 => ?_⟩
                    · exact hq _ hI g0 f0 hT
                    · refine ⟨o_v0, ?_⟩
                      intro x746 ex746
                      have q_x746 : x746 = x742 := ex746.trans d_x742.symm
                      have d_x746 := ex746
                      refine ⟨fun c747 => ?_, fun c747 => ?_⟩
                      · exact hq _ hI g0 f0 hT
                      · intro x748 ex748
                        have q_x748 : x748 = x737 := ex748.trans d_x737.symm
                        have d_x748 := ex748
                        intro x749 ex749
                        have hI := iv_sI (j := 4) (v := x749) hI o_v0 (by decide) (nu_free (by decide))
                        have f0 : FRI _ _ _ (sI S680 v0 4 x749) := fri_sI g0 f0 o_v0 (by decide)
                        have fL3 : FRI _ _ _ (sI S680 v0 4 x749) := fri_sI gL2 fL3 o_v0 (by decide)
                        have fL682 : FRI _ _ _ (sI S680 v0 4 x749) := fri_sI gL681 fL682 o_v0 (by decide)
                        have d_x10 : x10 = fI (sI S680 v0 4 x749) v0 7 := d_x10.trans (rd_j (by decide)).symm
                        have d_x746 : x746 = fI (sI S680 v0 4 x749) v0 6 := d_x746.trans (rd_j (by decide)).symm
                        have d_x749 : x749 = fI (sI S680 v0 4 x749) v0 4 := (u2_self _ _ _ _).symm
                        exact hq _ hI g0 f0 hT
                  · refine ⟨o_v0, ?_⟩
                    intro x750 ex750
                    have q_x750 : x750 = x737 := ex750.trans d_x737.symm
                    have d_x750 := ex750
                    intro x751 ex751
                    have q_x751 : x751 = x10 := ex751.trans d_x10.symm
                    have d_x751 := ex751
                    refine ⟨fun c752 => ?_, fun c752 => ?_⟩
                    · refine u_X4_next_240 ?_
                      refine ⟨fun c753 => ?_, fun c753 => ?_⟩
                      · exact hq _ hI g0 f0 hT
                      · refine ⟨o_v0, ?_⟩
                        intro x754 ex754
                        have q_x754 : x754 = x742 := ex754.trans d_x742.symm
                        have d_x754 := ex754
                        refine ⟨fun c755 => ?_, fun c755 => ?_⟩
                        · exact hq _ hI g0 f0 hT
                        · intro x756 ex756
                          have q_x756 : x756 = x750 := ex756.trans d_x750.symm
                          have d_x756 := ex756
                          intro x757 ex757
                          have hI := iv_sI (j := 4) (v := x757) hI o_v0 (by decide) (nu_free (by decide))
                          have f0 : FRI _ _ _ (sI S680 v0 4 x757) := fri_sI g0 f0 o_v0 (by decide)
                          have fL3 : FRI _ _ _ (sI S680 v0 4 x757) := fri_sI gL2 fL3 o_v0 (by decide)
                          have fL682 : FRI _ _ _ (sI S680 v0 4 x757) := fri_sI gL681 fL682 o_v0 (by decide)
                          have d_x751 : x751 = fI (sI S680 v0 4 x757) v0 7 := d_x751.trans (rd_j (by decide)).symm
                          have d_x754 : x754 = fI (sI S680 v0 4 x757) v0 6 := d_x754.trans (rd_j (by decide)).symm
                          have d_x757 : x757 = fI (sI S680 v0 4 x757) v0 4 := (u2_self _ _ _ _).symm
                          exact hq _ hI g0 f0 hT
                    · have hI := iv_sI (j := 6) (v := (6 : Int32)) hI o_v0 (by decide) (nu_free (by decide))
                      have f0 : FRI _ _ _ (sI S680 v0 6 (6 : Int32)) := fri_sI g0 f0 o_v0 (by decide)
                      have fL3 : FRI _ _ _ (sI S680 v0 6 (6 : Int32)) := fri_sI gL2 fL3 o_v0 (by decide)
                      have fL682 : FRI _ _ _ (sI S680 v0 6 (6 : Int32)) := fri_sI gL681 fL682 o_v0 (by decide)
                      have d_x751 : x751 = fI (sI S680 v0 6 (6 : Int32)) v0 7 := d_x751.trans (rd_j (by decide)).symm
                      have d_x750 : x750 = fI (sI S680 v0 6 (6 : Int32)) v0 4 := d_x750.trans (rd_j (by decide)).symm
                      obtain ⟨y758, hy758⟩ : ∃ z : Int32, z = (6 : Int32) := ⟨_, rfl⟩
                      have d_y758 : y758 = fI (sI S680 v0 6 (6 : Int32)) v0 6 := hy758.trans (u2_self _ _ _ _).symm
                      refine u_X4_next_240 ?_
                      refine ⟨fun c759 => ?_, fun c759 => ?_⟩
                      · exact hq _ hI g0 f0 hT
                      · refine ⟨o_v0, ?_⟩
                        intro x760 ex760
                        have q_x760 : x760 = y758 := ex760.trans d_y758.symm
                        have d_x760 := ex760
                        refine ⟨fun c761 => ?_, fun c761 => ?_⟩
                        · exact hq _ hI g0 f0 hT
                        · intro x762 ex762
                          have q_x762 : x762 = x750 := ex762.trans d_x750.symm
                          have d_x762 := ex762
                          intro x763 ex763
                          have hI := iv_sI (j := 4) (v := x763) hI o_v0 (by decide) (nu_free (by decide))
                          have f0 : FRI _ _ _ (sI (sI S680 v0 6 (6 : Int32)) v0 4 x763) := fri_sI g0 f0 o_v0 (by decide)
                          have fL3 : FRI _ _ _ (sI (sI S680 v0 6 (6 : Int32)) v0 4 x763) := fri_sI gL2 fL3 o_v0 (by decide)
                          have fL682 : FRI _ _ _ (sI (sI S680 v0 6 (6 : Int32)) v0 4 x763) := fri_sI gL681 fL682 o_v0 (by decide)
                          have d_x751 : x751 = fI (sI (sI S680 v0 6 (6 : Int32)) v0 4 x763) v0 7 := d_x751.trans (rd_j (by decide)).symm
                          have d_x760 : x760 = fI (sI (sI S680 v0 6 (6 : Int32)) v0 4 x763) v0 6 := d_x760.trans (rd_j (by decide)).symm
                          have d_x763 : x763 = fI (sI (sI S680 v0 6 (6 : Int32)) v0 4 x763) v0 4 := (u2_self _ _ _ _).symm
                          exact hq _ hI g0 f0 hT
                · refine ⟨fun c764 => ?_, fun c764 => ?_⟩
                  · refine u_X4_next_201 ?_
                    refine ⟨o_v0, ?_⟩
                    intro x765 ex765
                    have q_x765 : x765 = x737 := ex765.trans d_x737.symm
                    have d_x765 := ex765
                    intro x766 ex766
                    have hI := iv_sI (j := 4) (v := x766) hI o_v0 (by decide) (nu_free (by decide))
                    have f0 : FRI _ _ _ (sI S680 v0 4 x766) := fri_sI g0 f0 o_v0 (by decide)
                    have fL3 : FRI _ _ _ (sI S680 v0 4 x766) := fri_sI gL2 fL3 o_v0 (by decide)
                    have fL682 : FRI _ _ _ (sI S680 v0 4 x766) := fri_sI gL681 fL682 o_v0 (by decide)
                    have d_x10 : x10 = fI (sI S680 v0 4 x766) v0 7 := d_x10.trans (rd_j (by decide)).symm
                    have d_x742 : x742 = fI (sI S680 v0 4 x766) v0 6 := d_x742.trans (rd_j (by decide)).symm
                    have d_x766 : x766 = fI (sI S680 v0 4 x766) v0 4 := (u2_self _ _ _ _).symm
                    intro x767 ex767
                    exact ih693 _ _ _ _ _ _ ⟨hI, gL681, fL682, rfl, rfl, rfl, rfl, hT, (q345 i1 c9 q_x11 p_x12 q_x16 c17 q_x456 c457 q_x458 c459 q_x678 c679 i1 p_k1 c695 c716 q_x737 p_x738 q_x742 c743 c764 q_x765 ex766 ex767), (by rw [← d_x742, ← d_x766]; exact (q346 i1 c9 q_x11 p_x12 q_x16 c17 q_x456 c457 q_x458 c459 q_x678 c679 i1 p_k1 c695 c716 q_x737 p_x738 q_x742 c743 c764 q_x765 ex766 ex767))⟩ (mu_up (q347 i1 c9 q_x11 p_x12 q_x16 c17 q_x456 c457 q_x458 c459 q_x678 c679 i1 p_k1 c695 c716 q_x737 p_x738 q_x742 c743 c764 q_x765 ex766 ex767) (q348 i1 c9 q_x11 p_x12 q_x16 c17 q_x456 c457 q_x458 c459 q_x678 c679 i1 p_k1 c695 c716 q_x737 p_x738 q_x742 c743 c764 q_x765 ex766 ex767))
                  · intro x768 ex768
                    have q_x768 : x768 = x737 := ex768.trans d_x737.symm
                    have d_x768 := ex768
                    obtain ⟨a769, ea769, o_a769, l_a769⟩ := hT
                    refine ⟨a769, ea769, ?_⟩
                    refine ⟨o_a769, ?_⟩
                    have n_a769 : nI (hN S680 a769) = 900 := by rw [show hN S680 a769 = 900 from l_a769]; decide
                    refine ⟨fun c770 => ?_, fun c770 => ?_⟩
                    · rw [n_a769] at c770
                      refine u_X4_next_201 ?_
                      refine ⟨o_v0, ?_⟩
                      intro x771 ex771
                      have q_x771 : x771 = x768 := ex771.trans d_x768.symm
                      have d_x771 := ex771
                      intro x772 ex772
                      have hI := iv_sI (j := 4) (v := x772) hI o_v0 (by decide) (nu_free (by decide))
                      have f0 : FRI _ _ _ (sI S680 v0 4 x772) := fri_sI g0 f0 o_v0 (by decide)
                      have fL3 : FRI _ _ _ (sI S680 v0 4 x772) := fri_sI gL2 fL3 o_v0 (by decide)
                      have fL682 : FRI _ _ _ (sI S680 v0 4 x772) := fri_sI gL681 fL682 o_v0 (by decide)
                      have d_x10 : x10 = fI (sI S680 v0 4 x772) v0 7 := d_x10.trans (rd_j (by decide)).symm
                      have d_x742 : x742 = fI (sI S680 v0 4 x772) v0 6 := d_x742.trans (rd_j (by decide)).symm
                      have d_x772 : x772 = fI (sI S680 v0 4 x772) v0 4 := (u2_self _ _ _ _).symm
                      intro x773 ex773
                      exact ih693 _ _ _ _ _ _ ⟨hI, gL681, fL682, rfl, rfl, rfl, rfl, hT, (q349 i1 c9 q_x11 p_x12 q_x16 c17 q_x456 c457 q_x458 c459 q_x678 c679 i1 p_k1 c695 c716 q_x737 p_x738 q_x742 c743 c764 q_x768 c770 q_x771 ex772 ex773), (by rw [← d_x742, ← d_x772]; exact (q350 i1 c9 q_x11 p_x12 q_x16 c17 q_x456 c457 q_x458 c459 q_x678 c679 i1 p_k1 c695 c716 q_x737 p_x738 q_x742 c743 c764 q_x768 c770 q_x771 ex772 ex773))⟩ (mu_up (q351 i1 c9 q_x11 p_x12 q_x16 c17 q_x456 c457 q_x458 c459 q_x678 c679 i1 p_k1 c695 c716 q_x737 p_x738 q_x742 c743 c764 q_x768 c770 q_x771 ex772 ex773) (q352 i1 c9 q_x11 p_x12 q_x16 c17 q_x456 c457 q_x458 c459 q_x678 c679 i1 p_k1 c695 c716 q_x737 p_x738 q_x742 c743 c764 q_x768 c770 q_x771 ex772 ex773))
                    · rw [n_a769] at c770
                      intro x774 ex774
                      have dj_x774 := ex774
                      refine ⟨a769, ea769, ?_⟩
                      intro x776 ex776
                      have q_x776 : x776 = x768 := ex776.trans d_x768.symm
                      have d_x776 := ex776
                      refine ⟨o_a769, ?_⟩
                      refine ⟨(vin l_a769 (m := 900) (by decide) (q353 i1 c9 q_x11 p_x12 q_x16 c17 q_x456 c457 q_x458 c459 q_x678 c679 i1 p_k1 c695 c716 q_x737 p_x738 q_x742 c743 c764 q_x768 c770 q_x776)), ?_⟩
                      intro x777 ex777
                      intro x778 ex778
                      have q_x778 : x778 = x742 := ex778.trans d_x742.symm
                      have d_x778 := ex778
                      refine ⟨fun c779 => ?_, fun c779 => ?_⟩
                      · refine u_X4_next_195 ?_
                        refine ⟨o_v0, ?_⟩
                        intro x780 ex780
                        have hI := iv_sJ (j := 8) (v := x780) hI o_v0 (by decide)
                        refine u_X4_next_201 ?_
                        refine ⟨o_v0, ?_⟩
                        intro x781 ex781
                        have q_x781 : x781 = x776 := ex781.trans d_x776.symm
                        have d_x781 := ex781
                        intro x782 ex782
                        have hI := iv_sI (j := 4) (v := x782) hI o_v0 (by decide) (nu_free (by decide))
                        have f0 : FRI _ _ _ (sI (sJ S680 v0 8 x780) v0 4 x782) := fri_sI g0 f0 o_v0 (by decide)
                        have fL3 : FRI _ _ _ (sI (sJ S680 v0 8 x780) v0 4 x782) := fri_sI gL2 fL3 o_v0 (by decide)
                        have fL682 : FRI _ _ _ (sI (sJ S680 v0 8 x780) v0 4 x782) := fri_sI gL681 fL682 o_v0 (by decide)
                        have d_x10 : x10 = fI (sI (sJ S680 v0 8 x780) v0 4 x782) v0 7 := d_x10.trans (rd_j (by decide)).symm
                        have d_x778 : x778 = fI (sI (sJ S680 v0 8 x780) v0 4 x782) v0 6 := d_x778.trans (rd_j (by decide)).symm
                        have d_x782 : x782 = fI (sI (sJ S680 v0 8 x780) v0 4 x782) v0 4 := (u2_self _ _ _ _).symm
                        intro x783 ex783
                        exact ih693 _ _ _ _ _ _ ⟨hI, gL681, fL682, rfl, rfl, rfl, rfl, hT, (q354 i1 c9 q_x11 p_x12 q_x16 c17 q_x456 c457 q_x458 c459 q_x678 c679 i1 p_k1 c695 c716 q_x737 p_x738 q_x742 c743 c764 q_x768 c770 q_x776 q_x778 c779 q_x781 ex782 ex783), (by rw [← d_x778, ← d_x782]; exact (q355 i1 c9 q_x11 p_x12 q_x16 c17 q_x456 c457 q_x458 c459 q_x678 c679 i1 p_k1 c695 c716 q_x737 p_x738 q_x742 c743 c764 q_x768 c770 q_x776 q_x778 c779 q_x781 ex782 ex783))⟩ (mu_up (q356 i1 c9 q_x11 p_x12 q_x16 c17 q_x456 c457 q_x458 c459 q_x678 c679 i1 p_k1 c695 c716 q_x737 p_x738 q_x742 c743 c764 q_x768 c770 q_x776 q_x778 c779 q_x781 ex782 ex783) (q357 i1 c9 q_x11 p_x12 q_x16 c17 q_x456 c457 q_x458 c459 q_x678 c679 i1 p_k1 c695 c716 q_x737 p_x738 q_x742 c743 c764 q_x768 c770 q_x776 q_x778 c779 q_x781 ex782 ex783))
                      · refine u_X4_next_195 ?_
                        refine ⟨o_v0, ?_⟩
                        intro x784 ex784
                        have hI := iv_sJ (j := 8) (v := x784) hI o_v0 (by decide)
                        refine u_X4_next_201 ?_
                        refine ⟨o_v0, ?_⟩
                        intro x785 ex785
                        have q_x785 : x785 = x776 := ex785.trans d_x776.symm
                        have d_x785 := ex785
                        intro x786 ex786
                        have hI := iv_sI (j := 4) (v := x786) hI o_v0 (by decide) (nu_free (by decide))
                        have f0 : FRI _ _ _ (sI (sJ S680 v0 8 x784) v0 4 x786) := fri_sI g0 f0 o_v0 (by decide)
                        have fL3 : FRI _ _ _ (sI (sJ S680 v0 8 x784) v0 4 x786) := fri_sI gL2 fL3 o_v0 (by decide)
                        have fL682 : FRI _ _ _ (sI (sJ S680 v0 8 x784) v0 4 x786) := fri_sI gL681 fL682 o_v0 (by decide)
                        have d_x10 : x10 = fI (sI (sJ S680 v0 8 x784) v0 4 x786) v0 7 := d_x10.trans (rd_j (by decide)).symm
                        have d_x778 : x778 = fI (sI (sJ S680 v0 8 x784) v0 4 x786) v0 6 := d_x778.trans (rd_j (by decide)).symm
                        have d_x786 : x786 = fI (sI (sJ S680 v0 8 x784) v0 4 x786) v0 4 := (u2_self _ _ _ _).symm
                        intro x787 ex787
                        exact ih693 _ _ _ _ _ _ ⟨hI, gL681, fL682, rfl, rfl, rfl, rfl, hT, (q358 i1 c9 q_x11 p_x12 q_x16 c17 q_x456 c457 q_x458 c459 q_x678 c679 i1 p_k1 c695 c716 q_x737 p_x738 q_x742 c743 c764 q_x768 c770 q_x776 q_x778 c779 q_x785 ex786 ex787), (by rw [← d_x778, ← d_x786]; exact (q359 i1 c9 q_x11 p_x12 q_x16 c17 q_x456 c457 q_x458 c459 q_x678 c679 i1 p_k1 c695 c716 q_x737 p_x738 q_x742 c743 c764 q_x768 c770 q_x776 q_x778 c779 q_x785 ex786 ex787))⟩ (mu_up (q360 i1 c9 q_x11 p_x12 q_x16 c17 q_x456 c457 q_x458 c459 q_x678 c679 i1 p_k1 c695 c716 q_x737 p_x738 q_x742 c743 c764 q_x768 c770 q_x776 q_x778 c779 q_x785 ex786 ex787) (q361 i1 c9 q_x11 p_x12 q_x16 c17 q_x456 c457 q_x458 c459 q_x678 c679 i1 p_k1 c695 c716 q_x737 p_x738 q_x742 c743 c764 q_x768 c770 q_x776 q_x778 c779 q_x785 ex786 ex787))
          · refine u_X4_next_114 ?_
            refine i_X4_next_118 (fun (y0 : Nat) (y1 : Int32) (y2 : Int32) (y3 : Int32) (y4 : Int32) (Z : HS) => ((2147483647 : Int32).toInt - y4.toInt).toNat) (fun (y0 : Nat) (y1 : Int32) (y2 : Int32) (y3 : Int32) (y4 : Int32) (Z : HS) => (IV Z) ∧ (Gr (sJ (sI (sI S1 v0 7 x10) v0 6 x12) v0 8 (0 : Int64)) Z) ∧ (FRI [(4, 4)] [] (sJ (sI (sI S1 v0 7 x10) v0 6 x12) v0 8 (0 : Int64)) Z) ∧ (v0 = y0) ∧ ((0 : Int32) = y1) ∧ ((8 : Int32) = y2) ∧ ((32 : Int32) = y3) ∧ (TX Z v0) ∧ (0 ≤ y4) ∧ ((y1 = 0 ∨ fI Z v0 6 = 1 ∨ fI Z v0 6 = 2) ∧ (y1 = 0 → fI Z v0 6 = 0 ∨ (0 ≤ fI Z v0 4 ∧ fI Z v0 4 < 900)))) ?_ _ _ _ _ _ _ ⟨hI, (gr_rf _), (fri_rf _ _ _), rfl, rfl, rfl, rfl, hT, (q362 i1 c9 q_x11 p_x12 q_x16 c17 q_x456 c457 q_x458 c459 q_x678 c679), (by rw [← d_x678, ← d_x11]; exact (q363 i1 c9 q_x11 p_x12 q_x16 c17 q_x456 c457 q_x458 c459 q_x678 c679))⟩
            intro w791 w793 w795 w797 w799 S788 X800 ⟨hI, gL789, fL790, q792, q794, q796, q798, hT, i1, k1⟩ ih801
            subst q792
            subst q794
            subst q796
            subst q798
            have d_x10 := d_x10.trans (fri_at fL790 (by decide) (by decide) o_v0).symm
            have d_x678 := d_x678.trans (fri_at fL790 (by decide) (by decide) o_v0).symm
            have f0 := fri_tr g0 f0 fL790 (by decide) (by decide)
            have fL3 := fri_tr gL2 fL3 fL790 (by decide) (by decide)
            have o_v0 := gr_ob gL789 o_v0
            have g0 := gr_tr g0 gL789
            have gL2 := gr_tr gL2 gL789
            obtain ⟨y802, d_y802⟩ : ∃ z : Int32, z = fI S788 v0 4 := ⟨_, rfl⟩
            have p_k1 : ((0 : Int32) = 0 ∨ x678 = 1 ∨ x678 = 2) ∧ ((0 : Int32) = 0 → x678 = 0 ∨ (0 ≤ y802 ∧ y802 < 900)) := by rw [d_x678, d_y802]; exact k1
            refine u_X4_next_118 ?_
            refine ⟨fun c803 => ?_, fun c803 => ?_⟩
            · refine u_X4_next_217 ?_
              refine ⟨fun c804 => ?_, fun c804 => ?_⟩
              · refine u_X4_next_240 ?_
                refine ⟨fun c805 => ?_, fun c805 => ?_⟩
                · exact hq _ hI g0 f0 hT
                · refine ⟨o_v0, ?_⟩
                  intro x806 ex806
                  have q_x806 : x806 = x678 := ex806.trans d_x678.symm
                  have d_x806 := ex806
                  refine ⟨fun c807 => ?_, fun c807 => ?_⟩
                  · exact hq _ hI g0 f0 hT
                  · intro x808 ex808
                    have q_x808 : x808 = y802 := ex808.trans d_y802.symm
                    have d_x808 := ex808
                    intro x809 ex809
                    have hI := iv_sI (j := 4) (v := x809) hI o_v0 (by decide) (nu_free (by decide))
                    have f0 : FRI _ _ _ (sI S788 v0 4 x809) := fri_sI g0 f0 o_v0 (by decide)
                    have fL3 : FRI _ _ _ (sI S788 v0 4 x809) := fri_sI gL2 fL3 o_v0 (by decide)
                    have fL790 : FRI _ _ _ (sI S788 v0 4 x809) := fri_sI gL789 fL790 o_v0 (by decide)
                    have d_x10 : x10 = fI (sI S788 v0 4 x809) v0 7 := d_x10.trans (rd_j (by decide)).symm
                    have d_x806 : x806 = fI (sI S788 v0 4 x809) v0 6 := d_x806.trans (rd_j (by decide)).symm
                    have d_x809 : x809 = fI (sI S788 v0 4 x809) v0 4 := (u2_self _ _ _ _).symm
                    exact hq _ hI g0 f0 hT
              · refine ⟨o_v0, ?_⟩
                intro x810 ex810
                have q_x810 : x810 = y802 := ex810.trans d_y802.symm
                have d_x810 := ex810
                intro x811 ex811
                have q_x811 : x811 = x10 := ex811.trans d_x10.symm
                have d_x811 := ex811
                refine ⟨fun c812 => ?_, fun c812 => ?_⟩
                · refine u_X4_next_240 ?_
                  refine ⟨fun c813 => ?_, fun c813 => ?_⟩
                  · exact hq _ hI g0 f0 hT
                  · refine ⟨o_v0, ?_⟩
                    intro x814 ex814
                    have q_x814 : x814 = x678 := ex814.trans d_x678.symm
                    have d_x814 := ex814
                    refine ⟨fun c815 => ?_, fun c815 => ?_⟩
                    · exact hq _ hI g0 f0 hT
                    · intro x816 ex816
                      have q_x816 : x816 = x810 := ex816.trans d_x810.symm
                      have d_x816 := ex816
                      intro x817 ex817
                      have hI := iv_sI (j := 4) (v := x817) hI o_v0 (by decide) (nu_free (by decide))
                      have f0 : FRI _ _ _ (sI S788 v0 4 x817) := fri_sI g0 f0 o_v0 (by decide)
                      have fL3 : FRI _ _ _ (sI S788 v0 4 x817) := fri_sI gL2 fL3 o_v0 (by decide)
                      have fL790 : FRI _ _ _ (sI S788 v0 4 x817) := fri_sI gL789 fL790 o_v0 (by decide)
                      have d_x811 : x811 = fI (sI S788 v0 4 x817) v0 7 := d_x811.trans (rd_j (by decide)).symm
                      have d_x814 : x814 = fI (sI S788 v0 4 x817) v0 6 := d_x814.trans (rd_j (by decide)).symm
                      have d_x817 : x817 = fI (sI S788 v0 4 x817) v0 4 := (u2_self _ _ _ _).symm
                      exact hq _ hI g0 f0 hT
                · have hI := iv_sI (j := 6) (v := (6 : Int32)) hI o_v0 (by decide) (nu_free (by decide))
                  have f0 : FRI _ _ _ (sI S788 v0 6 (6 : Int32)) := fri_sI g0 f0 o_v0 (by decide)
                  have fL3 : FRI _ _ _ (sI S788 v0 6 (6 : Int32)) := fri_sI gL2 fL3 o_v0 (by decide)
                  have fL790 : FRI _ _ _ (sI S788 v0 6 (6 : Int32)) := fri_sI gL789 fL790 o_v0 (by decide)
                  have d_x811 : x811 = fI (sI S788 v0 6 (6 : Int32)) v0 7 := d_x811.trans (rd_j (by decide)).symm
                  have d_x810 : x810 = fI (sI S788 v0 6 (6 : Int32)) v0 4 := d_x810.trans (rd_j (by decide)).symm
                  obtain ⟨y818, hy818⟩ : ∃ z : Int32, z = (6 : Int32) := ⟨_, rfl⟩
                  have d_y818 : y818 = fI (sI S788 v0 6 (6 : Int32)) v0 6 := hy818.trans (u2_self _ _ _ _).symm
                  refine u_X4_next_240 ?_
                  refine ⟨fun c819 => ?_, fun c819 => ?_⟩
                  · exact hq _ hI g0 f0 hT
                  · refine ⟨o_v0, ?_⟩
                    intro x820 ex820
                    have q_x820 : x820 = y818 := ex820.trans d_y818.symm
                    have d_x820 := ex820
                    refine ⟨fun c821 => ?_, fun c821 => ?_⟩
                    · exact hq _ hI g0 f0 hT
                    · intro x822 ex822
                      have q_x822 : x822 = x810 := ex822.trans d_x810.symm
                      have d_x822 := ex822
                      intro x823 ex823
                      have hI := iv_sI (j := 4) (v := x823) hI o_v0 (by decide) (nu_free (by decide))
                      have f0 : FRI _ _ _ (sI (sI S788 v0 6 (6 : Int32)) v0 4 x823) := fri_sI g0 f0 o_v0 (by decide)
                      have fL3 : FRI _ _ _ (sI (sI S788 v0 6 (6 : Int32)) v0 4 x823) := fri_sI gL2 fL3 o_v0 (by decide)
                      have fL790 : FRI _ _ _ (sI (sI S788 v0 6 (6 : Int32)) v0 4 x823) := fri_sI gL789 fL790 o_v0 (by decide)
                      have d_x811 : x811 = fI (sI (sI S788 v0 6 (6 : Int32)) v0 4 x823) v0 7 := d_x811.trans (rd_j (by decide)).symm
                      have d_x820 : x820 = fI (sI (sI S788 v0 6 (6 : Int32)) v0 4 x823) v0 6 := d_x820.trans (rd_j (by decide)).symm
                      have d_x823 : x823 = fI (sI (sI S788 v0 6 (6 : Int32)) v0 4 x823) v0 4 := (u2_self _ _ _ _).symm
                      exact hq _ hI g0 f0 hT
            · refine ⟨fun c824 => ?_, fun c824 => ?_⟩
              · refine u_X4_next_217 ?_
                refine ⟨fun c825 => ?_, fun c825 => ?_⟩
                · refine u_X4_next_240 ?_
                  refine ⟨fun c826 => ?_, fun c826 => ?_⟩
                  · exact hq _ hI g0 f0 hT
                  · refine ⟨o_v0, ?_⟩
                    intro x827 ex827
                    have q_x827 : x827 = x678 := ex827.trans d_x678.symm
                    have d_x827 := ex827
                    refine ⟨fun c828 => ?_, fun c828 => ?_⟩
                    · exact hq _ hI g0 f0 hT
                    · intro x829 ex829
                      have q_x829 : x829 = y802 := ex829.trans d_y802.symm
                      have d_x829 := ex829
                      intro x830 ex830
                      have hI := iv_sI (j := 4) (v := x830) hI o_v0 (by decide) (nu_free (by decide))
                      have f0 : FRI _ _ _ (sI S788 v0 4 x830) := fri_sI g0 f0 o_v0 (by decide)
                      have fL3 : FRI _ _ _ (sI S788 v0 4 x830) := fri_sI gL2 fL3 o_v0 (by decide)
                      have fL790 : FRI _ _ _ (sI S788 v0 4 x830) := fri_sI gL789 fL790 o_v0 (by decide)
                      have d_x10 : x10 = fI (sI S788 v0 4 x830) v0 7 := d_x10.trans (rd_j (by decide)).symm
                      have d_x827 : x827 = fI (sI S788 v0 4 x830) v0 6 := d_x827.trans (rd_j (by decide)).symm
                      have d_x830 : x830 = fI (sI S788 v0 4 x830) v0 4 := (u2_self _ _ _ _).symm
                      exact hq _ hI g0 f0 hT
                · refine ⟨o_v0, ?_⟩
                  intro x831 ex831
                  have q_x831 : x831 = y802 := ex831.trans d_y802.symm
                  have d_x831 := ex831
                  intro x832 ex832
                  have q_x832 : x832 = x10 := ex832.trans d_x10.symm
                  have d_x832 := ex832
                  refine ⟨fun c833 => ?_, fun c833 => ?_⟩
                  · refine u_X4_next_240 ?_
                    refine ⟨fun c834 => ?_, fun c834 => ?_⟩
                    · exact hq _ hI g0 f0 hT
                    · refine ⟨o_v0, ?_⟩
                      intro x835 ex835
                      have q_x835 : x835 = x678 := ex835.trans d_x678.symm
                      have d_x835 := ex835
                      refine ⟨fun c836 => ?_, fun c836 => ?_⟩
                      · exact hq _ hI g0 f0 hT
                      · intro x837 ex837
                        have q_x837 : x837 = x831 := ex837.trans d_x831.symm
                        have d_x837 := ex837
                        intro x838 ex838
                        have hI := iv_sI (j := 4) (v := x838) hI o_v0 (by decide) (nu_free (by decide))
                        have f0 : FRI _ _ _ (sI S788 v0 4 x838) := fri_sI g0 f0 o_v0 (by decide)
                        have fL3 : FRI _ _ _ (sI S788 v0 4 x838) := fri_sI gL2 fL3 o_v0 (by decide)
                        have fL790 : FRI _ _ _ (sI S788 v0 4 x838) := fri_sI gL789 fL790 o_v0 (by decide)
                        have d_x832 : x832 = fI (sI S788 v0 4 x838) v0 7 := d_x832.trans (rd_j (by decide)).symm
                        have d_x835 : x835 = fI (sI S788 v0 4 x838) v0 6 := d_x835.trans (rd_j (by decide)).symm
                        have d_x838 : x838 = fI (sI S788 v0 4 x838) v0 4 := (u2_self _ _ _ _).symm
                        exact hq _ hI g0 f0 hT
                  · have hI := iv_sI (j := 6) (v := (6 : Int32)) hI o_v0 (by decide) (nu_free (by decide))
                    have f0 : FRI _ _ _ (sI S788 v0 6 (6 : Int32)) := fri_sI g0 f0 o_v0 (by decide)
                    have fL3 : FRI _ _ _ (sI S788 v0 6 (6 : Int32)) := fri_sI gL2 fL3 o_v0 (by decide)
                    have fL790 : FRI _ _ _ (sI S788 v0 6 (6 : Int32)) := fri_sI gL789 fL790 o_v0 (by decide)
                    have d_x832 : x832 = fI (sI S788 v0 6 (6 : Int32)) v0 7 := d_x832.trans (rd_j (by decide)).symm
                    have d_x831 : x831 = fI (sI S788 v0 6 (6 : Int32)) v0 4 := d_x831.trans (rd_j (by decide)).symm
                    obtain ⟨y839, hy839⟩ : ∃ z : Int32, z = (6 : Int32) := ⟨_, rfl⟩
                    have d_y839 : y839 = fI (sI S788 v0 6 (6 : Int32)) v0 6 := hy839.trans (u2_self _ _ _ _).symm
                    refine u_X4_next_240 ?_
                    refine ⟨fun c840 => ?_, fun c840 => ?_⟩
                    · exact hq _ hI g0 f0 hT
                    · refine ⟨o_v0, ?_⟩
                      intro x841 ex841
                      have q_x841 : x841 = y839 := ex841.trans d_y839.symm
                      have d_x841 := ex841
                      refine ⟨fun c842 => ?_, fun c842 => ?_⟩
                      · exact hq _ hI g0 f0 hT
                      · intro x843 ex843
                        have q_x843 : x843 = x831 := ex843.trans d_x831.symm
                        have d_x843 := ex843
                        intro x844 ex844
                        have hI := iv_sI (j := 4) (v := x844) hI o_v0 (by decide) (nu_free (by decide))
                        have f0 : FRI _ _ _ (sI (sI S788 v0 6 (6 : Int32)) v0 4 x844) := fri_sI g0 f0 o_v0 (by decide)
                        have fL3 : FRI _ _ _ (sI (sI S788 v0 6 (6 : Int32)) v0 4 x844) := fri_sI gL2 fL3 o_v0 (by decide)
                        have fL790 : FRI _ _ _ (sI (sI S788 v0 6 (6 : Int32)) v0 4 x844) := fri_sI gL789 fL790 o_v0 (by decide)
                        have d_x832 : x832 = fI (sI (sI S788 v0 6 (6 : Int32)) v0 4 x844) v0 7 := d_x832.trans (rd_j (by decide)).symm
                        have d_x841 : x841 = fI (sI (sI S788 v0 6 (6 : Int32)) v0 4 x844) v0 6 := d_x841.trans (rd_j (by decide)).symm
                        have d_x844 : x844 = fI (sI (sI S788 v0 6 (6 : Int32)) v0 4 x844) v0 4 := (u2_self _ _ _ _).symm
                        exact hq _ hI g0 f0 hT
              · refine ⟨o_v0, ?_⟩
                intro x845 ex845
                have q_x845 : x845 = y802 := ex845.trans d_y802.symm
                have d_x845 := ex845
                refine m_X4_sortAt hI o_v0 hT (fun x846 S847 hI2 g848 p_x846 => ?_)
                obtain ⟨z_S847, p_x846⟩ := p_x846
                subst z_S847
                intro _
                intro x850 ex850
                have q_x850 : x850 = x678 := ex850.trans d_x678.symm
                have d_x850 := ex850
                refine ⟨fun c851 => ?_, fun c851 => ?_⟩
                · refine u_X4_next_217 ?_
                  refine ⟨fun c852 => ?_, fun c852 => ?_⟩
                  · refine u_X4_next_240 ?_
                    refine ⟨fun c853 => ?_, fun c853 => ?_⟩
                    · exact hq _ hI g0 f0 hT
                    · refine ⟨o_v0, ?_⟩
                      intro x854 ex854
                      have q_x854 : x854 = x850 := ex854.trans d_x850.symm
                      have d_x854 := ex854
                      refine ⟨fun c855 => ?_, fun c855 => ?_⟩
                      · exact hq _ hI g0 f0 hT
                      · intro x856 ex856
                        have q_x856 : x856 = x845 := ex856.trans d_x845.symm
                        have d_x856 := ex856
                        intro x857 ex857
                        have hI := iv_sI (j := 4) (v := x857) hI o_v0 (by decide) (nu_free (by decide))
                        have f0 : FRI _ _ _ (sI S788 v0 4 x857) := fri_sI g0 f0 o_v0 (by decide)
                        have fL3 : FRI _ _ _ (sI S788 v0 4 x857) := fri_sI gL2 fL3 o_v0 (by decide)
                        have fL790 : FRI _ _ _ (sI S788 v0 4 x857) := fri_sI gL789 fL790 o_v0 (by decide)
                        have d_x10 : x10 = fI (sI S788 v0 4 x857) v0 7 := d_x10.trans (rd_j (by decide)).symm
                        have d_x854 : x854 = fI (sI S788 v0 4 x857) v0 6 := d_x854.trans (rd_j (by decide)).symm
                        have d_x857 : x857 = fI (sI S788 v0 4 x857) v0 4 := (u2_self _ _ _ _).symm
                        exact hq _ hI g0 f0 hT
                  · refine ⟨o_v0, ?_⟩
                    intro x858 ex858
                    have q_x858 : x858 = x845 := ex858.trans d_x845.symm
                    have d_x858 := ex858
                    intro x859 ex859
                    have q_x859 : x859 = x10 := ex859.trans d_x10.symm
                    have d_x859 := ex859
                    refine ⟨fun c860 => ?_, fun c860 => ?_⟩
                    · refine u_X4_next_240 ?_
                      refine ⟨fun c861 => ?_, fun c861 => ?_⟩
                      · exact hq _ hI g0 f0 hT
                      · refine ⟨o_v0, ?_⟩
                        intro x862 ex862
                        have q_x862 : x862 = x850 := ex862.trans d_x850.symm
                        have d_x862 := ex862
                        refine ⟨fun c863 => ?_, fun c863 => ?_⟩
                        · exact hq _ hI g0 f0 hT
                        · intro x864 ex864
                          have q_x864 : x864 = x858 := ex864.trans d_x858.symm
                          have d_x864 := ex864
                          intro x865 ex865
                          have hI := iv_sI (j := 4) (v := x865) hI o_v0 (by decide) (nu_free (by decide))
                          have f0 : FRI _ _ _ (sI S788 v0 4 x865) := fri_sI g0 f0 o_v0 (by decide)
                          have fL3 : FRI _ _ _ (sI S788 v0 4 x865) := fri_sI gL2 fL3 o_v0 (by decide)
                          have fL790 : FRI _ _ _ (sI S788 v0 4 x865) := fri_sI gL789 fL790 o_v0 (by decide)
                          have d_x859 : x859 = fI (sI S788 v0 4 x865) v0 7 := d_x859.trans (rd_j (by decide)).symm
                          have d_x862 : x862 = fI (sI S788 v0 4 x865) v0 6 := d_x862.trans (rd_j (by decide)).symm
                          have d_x865 : x865 = fI (sI S788 v0 4 x865) v0 4 := (u2_self _ _ _ _).symm
                          exact hq _ hI g0 f0 hT
                    · have hI := iv_sI (j := 6) (v := (6 : Int32)) hI o_v0 (by decide) (nu_free (by decide))
                      have f0 : FRI _ _ _ (sI S788 v0 6 (6 : Int32)) := fri_sI g0 f0 o_v0 (by decide)
                      have fL3 : FRI _ _ _ (sI S788 v0 6 (6 : Int32)) := fri_sI gL2 fL3 o_v0 (by decide)
                      have fL790 : FRI _ _ _ (sI S788 v0 6 (6 : Int32)) := fri_sI gL789 fL790 o_v0 (by decide)
                      have d_x859 : x859 = fI (sI S788 v0 6 (6 : Int32)) v0 7 := d_x859.trans (rd_j (by decide)).symm
                      have d_x858 : x858 = fI (sI S788 v0 6 (6 : Int32)) v0 4 := d_x858.trans (rd_j (by decide)).symm
                      obtain ⟨y866, hy866⟩ : ∃ z : Int32, z = (6 : Int32) := ⟨_, rfl⟩
                      have d_y866 : y866 = fI (sI S788 v0 6 (6 : Int32)) v0 6 := hy866.trans (u2_self _ _ _ _).symm
                      refine u_X4_next_240 ?_
                      refine ⟨fun c867 => ?_, fun c867 => ?_⟩
                      · exact hq _ hI g0 f0 hT
                      · refine ⟨o_v0, ?_⟩
                        intro x868 ex868
                        have q_x868 : x868 = y866 := ex868.trans d_y866.symm
                        have d_x868 := ex868
                        refine ⟨fun c869 => ?_, fun c869 => ?_⟩
                        · exact hq _ hI g0 f0 hT
                        · intro x870 ex870
                          have q_x870 : x870 = x858 := ex870.trans d_x858.symm
                          have d_x870 := ex870
                          intro x871 ex871
                          have hI := iv_sI (j := 4) (v := x871) hI o_v0 (by decide) (nu_free (by decide))
                          have f0 : FRI _ _ _ (sI (sI S788 v0 6 (6 : Int32)) v0 4 x871) := fri_sI g0 f0 o_v0 (by decide)
                          have fL3 : FRI _ _ _ (sI (sI S788 v0 6 (6 : Int32)) v0 4 x871) := fri_sI gL2 fL3 o_v0 (by decide)
                          have fL790 : FRI _ _ _ (sI (sI S788 v0 6 (6 : Int32)) v0 4 x871) := fri_sI gL789 fL790 o_v0 (by decide)
                          have d_x859 : x859 = fI (sI (sI S788 v0 6 (6 : Int32)) v0 4 x871) v0 7 := d_x859.trans (rd_j (by decide)).symm
                          have d_x868 : x868 = fI (sI (sI S788 v0 6 (6 : Int32)) v0 4 x871) v0 6 := d_x868.trans (rd_j (by decide)).symm
                          have d_x871 : x871 = fI (sI (sI S788 v0 6 (6 : Int32)) v0 4 x871) v0 4 := (u2_self _ _ _ _).symm
                          exact hq _ hI g0 f0 hT
                · refine ⟨fun c872 => ?_, fun c872 => ?_⟩
                  · refine u_X4_next_201 ?_
                    refine ⟨o_v0, ?_⟩
                    intro x873 ex873
                    have q_x873 : x873 = x845 := ex873.trans d_x845.symm
                    have d_x873 := ex873
                    intro x874 ex874
                    have hI := iv_sI (j := 4) (v := x874) hI o_v0 (by decide) (nu_free (by decide))
                    have f0 : FRI _ _ _ (sI S788 v0 4 x874) := fri_sI g0 f0 o_v0 (by decide)
                    have fL3 : FRI _ _ _ (sI S788 v0 4 x874) := fri_sI gL2 fL3 o_v0 (by decide)
                    have fL790 : FRI _ _ _ (sI S788 v0 4 x874) := fri_sI gL789 fL790 o_v0 (by decide)
                    have d_x10 : x10 = fI (sI S788 v0 4 x874) v0 7 := d_x10.trans (rd_j (by decide)).symm
                    have d_x850 : x850 = fI (sI S788 v0 4 x874) v0 6 := d_x850.trans (rd_j (by decide)).symm
                    have d_x874 : x874 = fI (sI S788 v0 4 x874) v0 4 := (u2_self _ _ _ _).symm
                    intro x875 ex875
                    exact ih801 _ _ _ _ _ _ ⟨hI, gL789, fL790, rfl, rfl, rfl, rfl, hT, (q364 i1 c9 q_x11 p_x12 q_x16 c17 q_x456 c457 q_x458 c459 q_x678 c679 i1 p_k1 c803 c824 q_x845 p_x846 q_x850 c851 c872 q_x873 ex874 ex875), (by rw [← d_x850, ← d_x874]; exact (q365 i1 c9 q_x11 p_x12 q_x16 c17 q_x456 c457 q_x458 c459 q_x678 c679 i1 p_k1 c803 c824 q_x845 p_x846 q_x850 c851 c872 q_x873 ex874 ex875))⟩ (mu_up (q366 i1 c9 q_x11 p_x12 q_x16 c17 q_x456 c457 q_x458 c459 q_x678 c679 i1 p_k1 c803 c824 q_x845 p_x846 q_x850 c851 c872 q_x873 ex874 ex875) (q367 i1 c9 q_x11 p_x12 q_x16 c17 q_x456 c457 q_x458 c459 q_x678 c679 i1 p_k1 c803 c824 q_x845 p_x846 q_x850 c851 c872 q_x873 ex874 ex875))
                  · intro x876 ex876
                    have q_x876 : x876 = x845 := ex876.trans d_x845.symm
                    have d_x876 := ex876
                    obtain ⟨a877, ea877, o_a877, l_a877⟩ := hT
                    refine ⟨a877, ea877, ?_⟩
                    refine ⟨o_a877, ?_⟩
                    have n_a877 : nI (hN S788 a877) = 900 := by rw [show hN S788 a877 = 900 from l_a877]; decide
                    refine ⟨fun c878 => ?_, fun c878 => ?_⟩
                    · rw [n_a877] at c878
                      refine u_X4_next_201 ?_
                      refine ⟨o_v0, ?_⟩
                      intro x879 ex879
                      have q_x879 : x879 = x876 := ex879.trans d_x876.symm
                      have d_x879 := ex879
                      intro x880 ex880
                      have hI := iv_sI (j := 4) (v := x880) hI o_v0 (by decide) (nu_free (by decide))
                      have f0 : FRI _ _ _ (sI S788 v0 4 x880) := fri_sI g0 f0 o_v0 (by decide)
                      have fL3 : FRI _ _ _ (sI S788 v0 4 x880) := fri_sI gL2 fL3 o_v0 (by decide)
                      have fL790 : FRI _ _ _ (sI S788 v0 4 x880) := fri_sI gL789 fL790 o_v0 (by decide)
                      have d_x10 : x10 = fI (sI S788 v0 4 x880) v0 7 := d_x10.trans (rd_j (by decide)).symm
                      have d_x850 : x850 = fI (sI S788 v0 4 x880) v0 6 := d_x850.trans (rd_j (by decide)).symm
                      have d_x880 : x880 = fI (sI S788 v0 4 x880) v0 4 := (u2_self _ _ _ _).symm
                      intro x881 ex881
                      exact ih801 _ _ _ _ _ _ ⟨hI, gL789, fL790, rfl, rfl, rfl, rfl, hT, (q368 i1 c9 q_x11 p_x12 q_x16 c17 q_x456 c457 q_x458 c459 q_x678 c679 i1 p_k1 c803 c824 q_x845 p_x846 q_x850 c851 c872 q_x876 c878 q_x879 ex880 ex881), (by rw [← d_x850, ← d_x880]; exact (q369 i1 c9 q_x11 p_x12 q_x16 c17 q_x456 c457 q_x458 c459 q_x678 c679 i1 p_k1 c803 c824 q_x845 p_x846 q_x850 c851 c872 q_x876 c878 q_x879 ex880 ex881))⟩ (mu_up (q370 i1 c9 q_x11 p_x12 q_x16 c17 q_x456 c457 q_x458 c459 q_x678 c679 i1 p_k1 c803 c824 q_x845 p_x846 q_x850 c851 c872 q_x876 c878 q_x879 ex880 ex881) (q371 i1 c9 q_x11 p_x12 q_x16 c17 q_x456 c457 q_x458 c459 q_x678 c679 i1 p_k1 c803 c824 q_x845 p_x846 q_x850 c851 c872 q_x876 c878 q_x879 ex880 ex881))
                    · rw [n_a877] at c878
                      intro x882 ex882
                      have dj_x882 := ex882
                      refine ⟨a877, ea877, ?_⟩
                      intro x884 ex884
                      have q_x884 : x884 = x876 := ex884.trans d_x876.symm
                      have d_x884 := ex884
                      refine ⟨o_a877, ?_⟩
                      refine ⟨(vin l_a877 (m := 900) (by decide) (q372 i1 c9 q_x11 p_x12 q_x16 c17 q_x456 c457 q_x458 c459 q_x678 c679 i1 p_k1 c803 c824 q_x845 p_x846 q_x850 c851 c872 q_x876 c878 q_x884)), ?_⟩
                      intro x885 ex885
                      intro x886 ex886
                      have q_x886 : x886 = x850 := ex886.trans d_x850.symm
                      have d_x886 := ex886
                      refine ⟨fun c887 => ?_, fun c887 => ?_⟩
                      · refine u_X4_next_195 ?_
                        refine ⟨o_v0, ?_⟩
                        intro x888 ex888
                        have hI := iv_sJ (j := 8) (v := x888) hI o_v0 (by decide)
                        refine u_X4_next_201 ?_
                        refine ⟨o_v0, ?_⟩
                        intro x889 ex889
                        have q_x889 : x889 = x884 := ex889.trans d_x884.symm
                        have d_x889 := ex889
                        intro x890 ex890
                        have hI := iv_sI (j := 4) (v := x890) hI o_v0 (by decide) (nu_free (by decide))
                        have f0 : FRI _ _ _ (sI (sJ S788 v0 8 x888) v0 4 x890) := fri_sI g0 f0 o_v0 (by decide)
                        have fL3 : FRI _ _ _ (sI (sJ S788 v0 8 x888) v0 4 x890) := fri_sI gL2 fL3 o_v0 (by decide)
                        have fL790 : FRI _ _ _ (sI (sJ S788 v0 8 x888) v0 4 x890) := fri_sI gL789 fL790 o_v0 (by decide)
                        have d_x10 : x10 = fI (sI (sJ S788 v0 8 x888) v0 4 x890) v0 7 := d_x10.trans (rd_j (by decide)).symm
                        have d_x886 : x886 = fI (sI (sJ S788 v0 8 x888) v0 4 x890) v0 6 := d_x886.trans (rd_j (by decide)).symm
                        have d_x890 : x890 = fI (sI (sJ S788 v0 8 x888) v0 4 x890) v0 4 := (u2_self _ _ _ _).symm
                        intro x891 ex891
                        exact ih801 _ _ _ _ _ _ ⟨hI, gL789, fL790, rfl, rfl, rfl, rfl, hT, (q373 i1 c9 q_x11 p_x12 q_x16 c17 q_x456 c457 q_x458 c459 q_x678 c679 i1 p_k1 c803 c824 q_x845 p_x846 q_x850 c851 c872 q_x876 c878 q_x884 q_x886 c887 q_x889 ex890 ex891), (by rw [← d_x886, ← d_x890]; exact (q374 i1 c9 q_x11 p_x12 q_x16 c17 q_x456 c457 q_x458 c459 q_x678 c679 i1 p_k1 c803 c824 q_x845 p_x846 q_x850 c851 c872 q_x876 c878 q_x884 q_x886 c887 q_x889 ex890 ex891))⟩ (mu_up (q375 i1 c9 q_x11 p_x12 q_x16 c17 q_x456 c457 q_x458 c459 q_x678 c679 i1 p_k1 c803 c824 q_x845 p_x846 q_x850 c851 c872 q_x876 c878 q_x884 q_x886 c887 q_x889 ex890 ex891) (q376 i1 c9 q_x11 p_x12 q_x16 c17 q_x456 c457 q_x458 c459 q_x678 c679 i1 p_k1 c803 c824 q_x845 p_x846 q_x850 c851 c872 q_x876 c878 q_x884 q_x886 c887 q_x889 ex890 ex891))
                      · refine u_X4_next_195 ?_
                        refine ⟨o_v0, ?_⟩
                        intro x892 ex892
                        have hI := iv_sJ (j := 8) (v := x892) hI o_v0 (by decide)
                        refine u_X4_next_201 ?_
                        refine ⟨o_v0, ?_⟩
                        intro x893 ex893
                        have q_x893 : x893 = x884 := ex893.trans d_x884.symm
                        have d_x893 := ex893
                        intro x894 ex894
                        have hI := iv_sI (j := 4) (v := x894) hI o_v0 (by decide) (nu_free (by decide))
                        have f0 : FRI _ _ _ (sI (sJ S788 v0 8 x892) v0 4 x894) := fri_sI g0 f0 o_v0 (by decide)
                        have fL3 : FRI _ _ _ (sI (sJ S788 v0 8 x892) v0 4 x894) := fri_sI gL2 fL3 o_v0 (by decide)
                        have fL790 : FRI _ _ _ (sI (sJ S788 v0 8 x892) v0 4 x894) := fri_sI gL789 fL790 o_v0 (by decide)
                        have d_x10 : x10 = fI (sI (sJ S788 v0 8 x892) v0 4 x894) v0 7 := d_x10.trans (rd_j (by decide)).symm
                        have d_x886 : x886 = fI (sI (sJ S788 v0 8 x892) v0 4 x894) v0 6 := d_x886.trans (rd_j (by decide)).symm
                        have d_x894 : x894 = fI (sI (sJ S788 v0 8 x892) v0 4 x894) v0 4 := (u2_self _ _ _ _).symm
                        intro x895 ex895
                        exact ih801 _ _ _ _ _ _ ⟨hI, gL789, fL790, rfl, rfl, rfl, rfl, hT, (q377 i1 c9 q_x11 p_x12 q_x16 c17 q_x456 c457 q_x458 c459 q_x678 c679 i1 p_k1 c803 c824 q_x845 p_x846 q_x850 c851 c872 q_x876 c878 q_x884 q_x886 c887 q_x893 ex894 ex895), (by rw [← d_x886, ← d_x894]; exact (q378 i1 c9 q_x11 p_x12 q_x16 c17 q_x456 c457 q_x458 c459 q_x678 c679 i1 p_k1 c803 c824 q_x845 p_x846 q_x850 c851 c872 q_x876 c878 q_x884 q_x886 c887 q_x893 ex894 ex895))⟩ (mu_up (q379 i1 c9 q_x11 p_x12 q_x16 c17 q_x456 c457 q_x458 c459 q_x678 c679 i1 p_k1 c803 c824 q_x845 p_x846 q_x850 c851 c872 q_x876 c878 q_x884 q_x886 c887 q_x893 ex894 ex895) (q380 i1 c9 q_x11 p_x12 q_x16 c17 q_x456 c457 q_x458 c459 q_x678 c679 i1 p_k1 c803 c824 q_x845 p_x846 q_x850 c851 c872 q_x876 c878 q_x884 q_x886 c887 q_x893 ex894 ex895))
      · refine u_X4_next_78 ?_
        refine u_X4_next_83 ?_
        refine ⟨o_v0, ?_⟩
        intro x896 ex896
        have q_x896 : x896 = x456 := ex896.trans d_x456.symm
        have d_x896 := ex896
        refine ⟨fun c897 => ?_, fun c897 => ?_⟩
        · refine u_X4_next_98 ?_
          refine ⟨o_v0, ?_⟩
          intro x898 ex898
          have q_x898 : x898 = x896 := ex898.trans d_x896.symm
          have d_x898 := ex898
          refine ⟨fun c899 => ?_, fun c899 => ?_⟩
          · refine u_X4_next_114 ?_
            refine i_X4_next_118 (fun (y0 : Nat) (y1 : Int32) (y2 : Int32) (y3 : Int32) (y4 : Int32) (Z : HS) => ((2147483647 : Int32).toInt - y4.toInt).toNat) (fun (y0 : Nat) (y1 : Int32) (y2 : Int32) (y3 : Int32) (y4 : Int32) (Z : HS) => (IV Z) ∧ (Gr (sJ (sI (sI S1 v0 7 x10) v0 6 x12) v0 8 (0 : Int64)) Z) ∧ (FRI [(4, 4)] [] (sJ (sI (sI S1 v0 7 x10) v0 6 x12) v0 8 (0 : Int64)) Z) ∧ (v0 = y0) ∧ ((1 : Int32) = y1) ∧ ((3 : Int32) = y2) ∧ ((10 : Int32) = y3) ∧ (TX Z v0) ∧ (0 ≤ y4) ∧ ((y1 = 0 ∨ fI Z v0 6 = 1 ∨ fI Z v0 6 = 2) ∧ (y1 = 0 → fI Z v0 6 = 0 ∨ (0 ≤ fI Z v0 4 ∧ fI Z v0 4 < 900)))) ?_ _ _ _ _ _ _ ⟨hI, (gr_rf _), (fri_rf _ _ _), rfl, rfl, rfl, rfl, hT, (q381 i1 c9 q_x11 p_x12 q_x16 c17 q_x456 c457 q_x896 c897 q_x898 c899), (by rw [← d_x898, ← d_x11]; exact (q382 i1 c9 q_x11 p_x12 q_x16 c17 q_x456 c457 q_x896 c897 q_x898 c899))⟩
            intro w903 w905 w907 w909 w911 S900 X912 ⟨hI, gL901, fL902, q904, q906, q908, q910, hT, i1, k1⟩ ih913
            subst q904
            subst q906
            subst q908
            subst q910
            have d_x10 := d_x10.trans (fri_at fL902 (by decide) (by decide) o_v0).symm
            have d_x898 := d_x898.trans (fri_at fL902 (by decide) (by decide) o_v0).symm
            have f0 := fri_tr g0 f0 fL902 (by decide) (by decide)
            have fL3 := fri_tr gL2 fL3 fL902 (by decide) (by decide)
            have o_v0 := gr_ob gL901 o_v0
            have g0 := gr_tr g0 gL901
            have gL2 := gr_tr gL2 gL901
            obtain ⟨y914, d_y914⟩ : ∃ z : Int32, z = fI S900 v0 4 := ⟨_, rfl⟩
            have p_k1 : ((1 : Int32) = 0 ∨ x898 = 1 ∨ x898 = 2) ∧ ((1 : Int32) = 0 → x898 = 0 ∨ (0 ≤ y914 ∧ y914 < 900)) := by rw [d_x898, d_y914]; exact k1
            refine u_X4_next_118 ?_
            refine ⟨fun c915 => ?_, fun c915 => ?_⟩
            · refine u_X4_next_217 ?_
              refine ⟨fun c916 => ?_, fun c916 => ?_⟩
              · refine u_X4_next_240 ?_
                refine ⟨fun c917 => ?_, fun c917 => ?_⟩
                · exact hq _ hI g0 f0 hT
                · refine ⟨o_v0, ?_⟩
                  intro x918 ex918
                  have q_x918 : x918 = x898 := ex918.trans d_x898.symm
                  have d_x918 := ex918
                  refine ⟨fun c919 => ?_, fun c919 => ?_⟩
                  · exact hq _ hI g0 f0 hT
                  · intro x920 ex920
                    have q_x920 : x920 = y914 := ex920.trans d_y914.symm
                    have d_x920 := ex920
                    intro x921 ex921
                    have hI := iv_sI (j := 4) (v := x921) hI o_v0 (by decide) (nu_free (by decide))
                    have f0 : FRI _ _ _ (sI S900 v0 4 x921) := fri_sI g0 f0 o_v0 (by decide)
                    have fL3 : FRI _ _ _ (sI S900 v0 4 x921) := fri_sI gL2 fL3 o_v0 (by decide)
                    have fL902 : FRI _ _ _ (sI S900 v0 4 x921) := fri_sI gL901 fL902 o_v0 (by decide)
                    have d_x10 : x10 = fI (sI S900 v0 4 x921) v0 7 := d_x10.trans (rd_j (by decide)).symm
                    have d_x918 : x918 = fI (sI S900 v0 4 x921) v0 6 := d_x918.trans (rd_j (by decide)).symm
                    have d_x921 : x921 = fI (sI S900 v0 4 x921) v0 4 := (u2_self _ _ _ _).symm
                    exact hq _ hI g0 f0 hT
              · refine ⟨o_v0, ?_⟩
                intro x922 ex922
                have q_x922 : x922 = y914 := ex922.trans d_y914.symm
                have d_x922 := ex922
                intro x923 ex923
                have q_x923 : x923 = x10 := ex923.trans d_x10.symm
                have d_x923 := ex923
                refine ⟨fun c924 => ?_, fun c924 => ?_⟩
                · refine u_X4_next_240 ?_
                  refine ⟨fun c925 => ?_, fun c925 => ?_⟩
                  · exact hq _ hI g0 f0 hT
                  · refine ⟨o_v0, ?_⟩
                    intro x926 ex926
                    have q_x926 : x926 = x898 := ex926.trans d_x898.symm
                    have d_x926 := ex926
                    refine ⟨fun c927 => ?_, fun c927 => ?_⟩
                    · exact hq _ hI g0 f0 hT
                    · intro x928 ex928
                      have q_x928 : x928 = x922 := ex928.trans d_x922.symm
                      have d_x928 := ex928
                      intro x929 ex929
                      have hI := iv_sI (j := 4) (v := x929) hI o_v0 (by decide) (nu_free (by decide))
                      have f0 : FRI _ _ _ (sI S900 v0 4 x929) := fri_sI g0 f0 o_v0 (by decide)
                      have fL3 : FRI _ _ _ (sI S900 v0 4 x929) := fri_sI gL2 fL3 o_v0 (by decide)
                      have fL902 : FRI _ _ _ (sI S900 v0 4 x929) := fri_sI gL901 fL902 o_v0 (by decide)
                      have d_x923 : x923 = fI (sI S900 v0 4 x929) v0 7 := d_x923.trans (rd_j (by decide)).symm
                      have d_x926 : x926 = fI (sI S900 v0 4 x929) v0 6 := d_x926.trans (rd_j (by decide)).symm
                      have d_x929 : x929 = fI (sI S900 v0 4 x929) v0 4 := (u2_self _ _ _ _).symm
                      exact hq _ hI g0 f0 hT
                · have hI := iv_sI (j := 6) (v := (6 : Int32)) hI o_v0 (by decide) (nu_free (by decide))
                  have f0 : FRI _ _ _ (sI S900 v0 6 (6 : Int32)) := fri_sI g0 f0 o_v0 (by decide)
                  have fL3 : FRI _ _ _ (sI S900 v0 6 (6 : Int32)) := fri_sI gL2 fL3 o_v0 (by decide)
                  have fL902 : FRI _ _ _ (sI S900 v0 6 (6 : Int32)) := fri_sI gL901 fL902 o_v0 (by decide)
                  have d_x923 : x923 = fI (sI S900 v0 6 (6 : Int32)) v0 7 := d_x923.trans (rd_j (by decide)).symm
                  have d_x922 : x922 = fI (sI S900 v0 6 (6 : Int32)) v0 4 := d_x922.trans (rd_j (by decide)).symm
                  obtain ⟨y930, hy930⟩ : ∃ z : Int32, z = (6 : Int32) := ⟨_, rfl⟩
                  have d_y930 : y930 = fI (sI S900 v0 6 (6 : Int32)) v0 6 := hy930.trans (u2_self _ _ _ _).symm
                  refine u_X4_next_240 ?_
                  refine ⟨fun c931 => ?_, fun c931 => ?_⟩
                  · exact hq _ hI g0 f0 hT
                  · refine ⟨o_v0, ?_⟩
                    intro x932 ex932
                    have q_x932 : x932 = y930 := ex932.trans d_y930.symm
                    have d_x932 := ex932
                    refine ⟨fun c933 => ?_, fun c933 => ?_⟩
                    · exact hq _ hI g0 f0 hT
                    · intro x934 ex934
                      have q_x934 : x934 = x922 := ex934.trans d_x922.symm
                      have d_x934 := ex934
                      intro x935 ex935
                      have hI := iv_sI (j := 4) (v := x935) hI o_v0 (by decide) (nu_free (by decide))
                      have f0 : FRI _ _ _ (sI (sI S900 v0 6 (6 : Int32)) v0 4 x935) := fri_sI g0 f0 o_v0 (by decide)
                      have fL3 : FRI _ _ _ (sI (sI S900 v0 6 (6 : Int32)) v0 4 x935) := fri_sI gL2 fL3 o_v0 (by decide)
                      have fL902 : FRI _ _ _ (sI (sI S900 v0 6 (6 : Int32)) v0 4 x935) := fri_sI gL901 fL902 o_v0 (by decide)
                      have d_x923 : x923 = fI (sI (sI S900 v0 6 (6 : Int32)) v0 4 x935) v0 7 := d_x923.trans (rd_j (by decide)).symm
                      have d_x932 : x932 = fI (sI (sI S900 v0 6 (6 : Int32)) v0 4 x935) v0 6 := d_x932.trans (rd_j (by decide)).symm
                      have d_x935 : x935 = fI (sI (sI S900 v0 6 (6 : Int32)) v0 4 x935) v0 4 := (u2_self _ _ _ _).symm
                      exact hq _ hI g0 f0 hT
            · refine ⟨fun c936 => ?_, fun c936 => ?_⟩
              · refine u_X4_next_217 ?_
                refine ⟨fun c937 => ?_, fun c937 => ?_⟩
                · refine u_X4_next_240 ?_
                  refine ⟨fun c938 => ?_, fun c938 => ?_⟩
                  · exact hq _ hI g0 f0 hT
                  · refine ⟨o_v0, ?_⟩
                    intro x939 ex939
                    have q_x939 : x939 = x898 := ex939.trans d_x898.symm
                    have d_x939 := ex939
                    refine ⟨fun c940 => ?_, fun c940 => ?_⟩
                    · exact hq _ hI g0 f0 hT
                    · intro x941 ex941
                      have q_x941 : x941 = y914 := ex941.trans d_y914.symm
                      have d_x941 := ex941
                      intro x942 ex942
                      have hI := iv_sI (j := 4) (v := x942) hI o_v0 (by decide) (nu_free (by decide))
                      have f0 : FRI _ _ _ (sI S900 v0 4 x942) := fri_sI g0 f0 o_v0 (by decide)
                      have fL3 : FRI _ _ _ (sI S900 v0 4 x942) := fri_sI gL2 fL3 o_v0 (by decide)
                      have fL902 : FRI _ _ _ (sI S900 v0 4 x942) := fri_sI gL901 fL902 o_v0 (by decide)
                      have d_x10 : x10 = fI (sI S900 v0 4 x942) v0 7 := d_x10.trans (rd_j (by decide)).symm
                      have d_x939 : x939 = fI (sI S900 v0 4 x942) v0 6 := d_x939.trans (rd_j (by decide)).symm
                      have d_x942 : x942 = fI (sI S900 v0 4 x942) v0 4 := (u2_self _ _ _ _).symm
                      exact hq _ hI g0 f0 hT
                · refine ⟨o_v0, ?_⟩
                  intro x943 ex943
                  have q_x943 : x943 = y914 := ex943.trans d_y914.symm
                  have d_x943 := ex943
                  intro x944 ex944
                  have q_x944 : x944 = x10 := ex944.trans d_x10.symm
                  have d_x944 := ex944
                  refine ⟨fun c945 => ?_, fun c945 => ?_⟩
                  · refine u_X4_next_240 ?_
                    refine ⟨fun c946 => ?_, fun c946 => ?_⟩
                    · exact hq _ hI g0 f0 hT
                    · refine ⟨o_v0, ?_⟩
                      intro x947 ex947
                      have q_x947 : x947 = x898 := ex947.trans d_x898.symm
                      have d_x947 := ex947
                      refine ⟨fun c948 => ?_, fun c948 => ?_⟩
                      · exact hq _ hI g0 f0 hT
                      · intro x949 ex949
                        have q_x949 : x949 = x943 := ex949.trans d_x943.symm
                        have d_x949 := ex949
                        intro x950 ex950
                        have hI := iv_sI (j := 4) (v := x950) hI o_v0 (by decide) (nu_free (by decide))
                        have f0 : FRI _ _ _ (sI S900 v0 4 x950) := fri_sI g0 f0 o_v0 (by decide)
                        have fL3 : FRI _ _ _ (sI S900 v0 4 x950) := fri_sI gL2 fL3 o_v0 (by decide)
                        have fL902 : FRI _ _ _ (sI S900 v0 4 x950) := fri_sI gL901 fL902 o_v0 (by decide)
                        have d_x944 : x944 = fI (sI S900 v0 4 x950) v0 7 := d_x944.trans (rd_j (by decide)).symm
                        have d_x947 : x947 = fI (sI S900 v0 4 x950) v0 6 := d_x947.trans (rd_j (by decide)).symm
                        have d_x950 : x950 = fI (sI S900 v0 4 x950) v0 4 := (u2_self _ _ _ _).symm
                        exact hq _ hI g0 f0 hT
                  · have hI := iv_sI (j := 6) (v := (6 : Int32)) hI o_v0 (by decide) (nu_free (by decide))
                    have f0 : FRI _ _ _ (sI S900 v0 6 (6 : Int32)) := fri_sI g0 f0 o_v0 (by decide)
                    have fL3 : FRI _ _ _ (sI S900 v0 6 (6 : Int32)) := fri_sI gL2 fL3 o_v0 (by decide)
                    have fL902 : FRI _ _ _ (sI S900 v0 6 (6 : Int32)) := fri_sI gL901 fL902 o_v0 (by decide)
                    have d_x944 : x944 = fI (sI S900 v0 6 (6 : Int32)) v0 7 := d_x944.trans (rd_j (by decide)).symm
                    have d_x943 : x943 = fI (sI S900 v0 6 (6 : Int32)) v0 4 := d_x943.trans (rd_j (by decide)).symm
                    obtain ⟨y951, hy951⟩ : ∃ z : Int32, z = (6 : Int32) := ⟨_, rfl⟩
                    have d_y951 : y951 = fI (sI S900 v0 6 (6 : Int32)) v0 6 := hy951.trans (u2_self _ _ _ _).symm
                    refine u_X4_next_240 ?_
                    refine ⟨fun c952 => ?_, fun c952 => ?_⟩
                    · exact hq _ hI g0 f0 hT
                    · refine ⟨o_v0, ?_⟩
                      intro x953 ex953
                      have q_x953 : x953 = y951 := ex953.trans d_y951.symm
                      have d_x953 := ex953
                      refine ⟨fun c954 => ?_, fun c954 => ?_⟩
                      · exact hq _ hI g0 f0 hT
                      · intro x955 ex955
                        have q_x955 : x955 = x943 := ex955.trans d_x943.symm
                        have d_x955 := ex955
                        intro x956 ex956
                        have hI := iv_sI (j := 4) (v := x956) hI o_v0 (by decide) (nu_free (by decide))
                        have f0 : FRI _ _ _ (sI (sI S900 v0 6 (6 : Int32)) v0 4 x956) := fri_sI g0 f0 o_v0 (by decide)
                        have fL3 : FRI _ _ _ (sI (sI S900 v0 6 (6 : Int32)) v0 4 x956) := fri_sI gL2 fL3 o_v0 (by decide)
                        have fL902 : FRI _ _ _ (sI (sI S900 v0 6 (6 : Int32)) v0 4 x956) := fri_sI gL901 fL902 o_v0 (by decide)
                        have d_x944 : x944 = fI (sI (sI S900 v0 6 (6 : Int32)) v0 4 x956) v0 7 := d_x944.trans (rd_j (by decide)).symm
                        have d_x953 : x953 = fI (sI (sI S900 v0 6 (6 : Int32)) v0 4 x956) v0 6 := d_x953.trans (rd_j (by decide)).symm
                        have d_x956 : x956 = fI (sI (sI S900 v0 6 (6 : Int32)) v0 4 x956) v0 4 := (u2_self _ _ _ _).symm
                        exact hq _ hI g0 f0 hT
              · refine ⟨o_v0, ?_⟩
                intro x957 ex957
                have q_x957 : x957 = y914 := ex957.trans d_y914.symm
                have d_x957 := ex957
                refine m_X4_sortAt hI o_v0 hT (fun x958 S959 hI2 g960 p_x958 => ?_)
                obtain ⟨z_S959, p_x958⟩ := p_x958
                subst z_S959
                intro _
                intro x962 ex962
                have q_x962 : x962 = x898 := ex962.trans d_x898.symm
                have d_x962 := ex962
                refine ⟨fun c963 => ?_, fun c963 => ?_⟩
                · refine u_X4_next_217 ?_
                  refine ⟨fun c964 => ?_, fun c964 => ?_⟩
                  · refine u_X4_next_240 ?_
                    refine ⟨fun c965 => ?_, fun c965 => ?_⟩
                    · exact hq _ hI g0 f0 hT
                    · refine ⟨o_v0, ?_⟩
                      intro x966 ex966
                      have q_x966 : x966 = x962 := ex966.trans d_x962.symm
                      have d_x966 := ex966
                      refine ⟨fun c967 => ?_, fun c967 => ?_⟩
                      · exact hq _ hI g0 f0 hT
                      · intro x968 ex968
                        have q_x968 : x968 = x957 := ex968.trans d_x957.symm
                        have d_x968 := ex968
                        intro x969 ex969
                        have hI := iv_sI (j := 4) (v := x969) hI o_v0 (by decide) (nu_free (by decide))
                        have f0 : FRI _ _ _ (sI S900 v0 4 x969) := fri_sI g0 f0 o_v0 (by decide)
                        have fL3 : FRI _ _ _ (sI S900 v0 4 x969) := fri_sI gL2 fL3 o_v0 (by decide)
                        have fL902 : FRI _ _ _ (sI S900 v0 4 x969) := fri_sI gL901 fL902 o_v0 (by decide)
                        have d_x10 : x10 = fI (sI S900 v0 4 x969) v0 7 := d_x10.trans (rd_j (by decide)).symm
                        have d_x966 : x966 = fI (sI S900 v0 4 x969) v0 6 := d_x966.trans (rd_j (by decide)).symm
                        have d_x969 : x969 = fI (sI S900 v0 4 x969) v0 4 := (u2_self _ _ _ _).symm
                        exact hq _ hI g0 f0 hT
                  · refine ⟨o_v0, ?_⟩
                    intro x970 ex970
                    have q_x970 : x970 = x957 := ex970.trans d_x957.symm
                    have d_x970 := ex970
                    intro x971 ex971
                    have q_x971 : x971 = x10 := ex971.trans d_x10.symm
                    have d_x971 := ex971
                    refine ⟨fun c972 => ?_, fun c972 => ?_⟩
                    · refine u_X4_next_240 ?_
                      refine ⟨fun c973 => ?_, fun c973 => ?_⟩
                      · exact hq _ hI g0 f0 hT
                      · refine ⟨o_v0, ?_⟩
                        intro x974 ex974
                        have q_x974 : x974 = x962 := ex974.trans d_x962.symm
                        have d_x974 := ex974
                        refine ⟨fun c975 => ?_, fun c975 => ?_⟩
                        · exact hq _ hI g0 f0 hT
                        · intro x976 ex976
                          have q_x976 : x976 = x970 := ex976.trans d_x970.symm
                          have d_x976 := ex976
                          intro x977 ex977
                          have hI := iv_sI (j := 4) (v := x977) hI o_v0 (by decide) (nu_free (by decide))
                          have f0 : FRI _ _ _ (sI S900 v0 4 x977) := fri_sI g0 f0 o_v0 (by decide)
                          have fL3 : FRI _ _ _ (sI S900 v0 4 x977) := fri_sI gL2 fL3 o_v0 (by decide)
                          have fL902 : FRI _ _ _ (sI S900 v0 4 x977) := fri_sI gL901 fL902 o_v0 (by decide)
                          have d_x971 : x971 = fI (sI S900 v0 4 x977) v0 7 := d_x971.trans (rd_j (by decide)).symm
                          have d_x974 : x974 = fI (sI S900 v0 4 x977) v0 6 := d_x974.trans (rd_j (by decide)).symm
                          have d_x977 : x977 = fI (sI S900 v0 4 x977) v0 4 := (u2_self _ _ _ _).symm
                          exact hq _ hI g0 f0 hT
                    · have hI := iv_sI (j := 6) (v := (6 : Int32)) hI o_v0 (by decide) (nu_free (by decide))
                      have f0 : FRI _ _ _ (sI S900 v0 6 (6 : Int32)) := fri_sI g0 f0 o_v0 (by decide)
                      have fL3 : FRI _ _ _ (sI S900 v0 6 (6 : Int32)) := fri_sI gL2 fL3 o_v0 (by decide)
                      have fL902 : FRI _ _ _ (sI S900 v0 6 (6 : Int32)) := fri_sI gL901 fL902 o_v0 (by decide)
                      have d_x971 : x971 = fI (sI S900 v0 6 (6 : Int32)) v0 7 := d_x971.trans (rd_j (by decide)).symm
                      have d_x970 : x970 = fI (sI S900 v0 6 (6 : Int32)) v0 4 := d_x970.trans (rd_j (by decide)).symm
                      obtain ⟨y978, hy978⟩ : ∃ z : Int32, z = (6 : Int32) := ⟨_, rfl⟩
                      have d_y978 : y978 = fI (sI S900 v0 6 (6 : Int32)) v0 6 := hy978.trans (u2_self _ _ _ _).symm
                      refine u_X4_next_240 ?_
                      refine ⟨fun c979 => ?_, fun c979 => ?_⟩
                      · exact hq _ hI g0 f0 hT
                      · refine ⟨o_v0, ?_⟩
                        intro x980 ex980
                        have q_x980 : x980 = y978 := ex980.trans d_y978.symm
                        have d_x980 := ex980
                        refine ⟨fun c981 => ?_, fun c981 => ?_⟩
                        · exact hq _ hI g0 f0 hT
                        · intro x982 ex982
                          have q_x982 : x982 = x970 := ex982.trans d_x970.symm
                          have d_x982 := ex982
                          intro x983 ex983
                          have hI := iv_sI (j := 4) (v := x983) hI o_v0 (by decide) (nu_free (by decide))
                          have f0 : FRI _ _ _ (sI (sI S900 v0 6 (6 : Int32)) v0 4 x983) := fri_sI g0 f0 o_v0 (by decide)
                          have fL3 : FRI _ _ _ (sI (sI S900 v0 6 (6 : Int32)) v0 4 x983) := fri_sI gL2 fL3 o_v0 (by decide)
                          have fL902 : FRI _ _ _ (sI (sI S900 v0 6 (6 : Int32)) v0 4 x983) := fri_sI gL901 fL902 o_v0 (by decide)
                          have d_x971 : x971 = fI (sI (sI S900 v0 6 (6 : Int32)) v0 4 x983) v0 7 := d_x971.trans (rd_j (by decide)).symm
                          have d_x980 : x980 = fI (sI (sI S900 v0 6 (6 : Int32)) v0 4 x983) v0 6 := d_x980.trans (rd_j (by decide)).symm
                          have d_x983 : x983 = fI (sI (sI S900 v0 6 (6 : Int32)) v0 4 x983) v0 4 := (u2_self _ _ _ _).symm
                          exact hq _ hI g0 f0 hT
                · refine ⟨fun c984 => ?_, fun c984 => ?_⟩
                  · refine u_X4_next_201 ?_
                    refine ⟨o_v0, ?_⟩
                    intro x985 ex985
                    have q_x985 : x985 = x957 := ex985.trans d_x957.symm
                    have d_x985 := ex985
                    intro x986 ex986
                    have hI := iv_sI (j := 4) (v := x986) hI o_v0 (by decide) (nu_free (by decide))
                    have f0 : FRI _ _ _ (sI S900 v0 4 x986) := fri_sI g0 f0 o_v0 (by decide)
                    have fL3 : FRI _ _ _ (sI S900 v0 4 x986) := fri_sI gL2 fL3 o_v0 (by decide)
                    have fL902 : FRI _ _ _ (sI S900 v0 4 x986) := fri_sI gL901 fL902 o_v0 (by decide)
                    have d_x10 : x10 = fI (sI S900 v0 4 x986) v0 7 := d_x10.trans (rd_j (by decide)).symm
                    have d_x962 : x962 = fI (sI S900 v0 4 x986) v0 6 := d_x962.trans (rd_j (by decide)).symm
                    have d_x986 : x986 = fI (sI S900 v0 4 x986) v0 4 := (u2_self _ _ _ _).symm
                    intro x987 ex987
                    exact ih913 _ _ _ _ _ _ ⟨hI, gL901, fL902, rfl, rfl, rfl, rfl, hT, (q383 i1 c9 q_x11 p_x12 q_x16 c17 q_x456 c457 q_x896 c897 q_x898 c899 i1 p_k1 c936 q_x957 p_x958 q_x962 c963 c984 q_x985 ex986 ex987), (by rw [← d_x962, ← d_x986]; exact (q384 i1 c9 q_x11 p_x12 q_x16 c17 q_x456 c457 q_x896 c897 q_x898 c899 i1 p_k1 c936 q_x957 p_x958 q_x962 c963 c984 q_x985 ex986 ex987))⟩ (mu_up (q385 i1 c9 q_x11 p_x12 q_x16 c17 q_x456 c457 q_x896 c897 q_x898 c899 i1 p_k1 c936 q_x957 p_x958 q_x962 c963 c984 q_x985 ex986 ex987) (q386 i1 c9 q_x11 p_x12 q_x16 c17 q_x456 c457 q_x896 c897 q_x898 c899 i1 p_k1 c936 q_x957 p_x958 q_x962 c963 c984 q_x985 ex986 ex987))
                  · intro x988 ex988
                    have q_x988 : x988 = x957 := ex988.trans d_x957.symm
                    have d_x988 := ex988
                    obtain ⟨a989, ea989, o_a989, l_a989⟩ := hT
                    refine ⟨a989, ea989, ?_⟩
                    refine ⟨o_a989, ?_⟩
                    have n_a989 : nI (hN S900 a989) = 900 := by rw [show hN S900 a989 = 900 from l_a989]; decide
                    refine ⟨fun c990 => ?_, fun c990 => ?_⟩
                    · rw [n_a989] at c990
                      refine u_X4_next_201 ?_
                      refine ⟨o_v0, ?_⟩
                      intro x991 ex991
                      have q_x991 : x991 = x988 := ex991.trans d_x988.symm
                      have d_x991 := ex991
                      intro x992 ex992
                      have hI := iv_sI (j := 4) (v := x992) hI o_v0 (by decide) (nu_free (by decide))
                      have f0 : FRI _ _ _ (sI S900 v0 4 x992) := fri_sI g0 f0 o_v0 (by decide)
                      have fL3 : FRI _ _ _ (sI S900 v0 4 x992) := fri_sI gL2 fL3 o_v0 (by decide)
                      have fL902 : FRI _ _ _ (sI S900 v0 4 x992) := fri_sI gL901 fL902 o_v0 (by decide)
                      have d_x10 : x10 = fI (sI S900 v0 4 x992) v0 7 := d_x10.trans (rd_j (by decide)).symm
                      have d_x962 : x962 = fI (sI S900 v0 4 x992) v0 6 := d_x962.trans (rd_j (by decide)).symm
                      have d_x992 : x992 = fI (sI S900 v0 4 x992) v0 4 := (u2_self _ _ _ _).symm
                      intro x993 ex993
                      exact ih913 _ _ _ _ _ _ ⟨hI, gL901, fL902, rfl, rfl, rfl, rfl, hT, (q387 i1 c9 q_x11 p_x12 q_x16 c17 q_x456 c457 q_x896 c897 q_x898 c899 i1 p_k1 c936 q_x957 p_x958 q_x962 c963 c984 q_x988 c990 q_x991 ex992 ex993), (by rw [← d_x962, ← d_x992]; exact (q388 i1 c9 q_x11 p_x12 q_x16 c17 q_x456 c457 q_x896 c897 q_x898 c899 i1 p_k1 c936 q_x957 p_x958 q_x962 c963 c984 q_x988 c990 q_x991 ex992 ex993))⟩ (mu_up (q389 i1 c9 q_x11 p_x12 q_x16 c17 q_x456 c457 q_x896 c897 q_x898 c899 i1 p_k1 c936 q_x957 p_x958 q_x962 c963 c984 q_x988 c990 q_x991 ex992 ex993) (q390 i1 c9 q_x11 p_x12 q_x16 c17 q_x456 c457 q_x896 c897 q_x898 c899 i1 p_k1 c936 q_x957 p_x958 q_x962 c963 c984 q_x988 c990 q_x991 ex992 ex993))
                    · rw [n_a989] at c990
                      intro x994 ex994
                      have dj_x994 := ex994
                      refine ⟨a989, ea989, ?_⟩
                      intro x996 ex996
                      have q_x996 : x996 = x988 := ex996.trans d_x988.symm
                      have d_x996 := ex996
                      refine ⟨o_a989, ?_⟩
                      refine ⟨(vin l_a989 (m := 900) (by decide) (q391 i1 c9 q_x11 p_x12 q_x16 c17 q_x456 c457 q_x896 c897 q_x898 c899 i1 p_k1 c936 q_x957 p_x958 q_x962 c963 c984 q_x988 c990 q_x996)), ?_⟩
                      intro x997 ex997
                      intro x998 ex998
                      have q_x998 : x998 = x962 := ex998.trans d_x962.symm
                      have d_x998 := ex998
                      refine ⟨fun c999 => ?_, fun c999 => ?_⟩
                      · refine u_X4_next_195 ?_
                        refine ⟨o_v0, ?_⟩
                        intro x1000 ex1000
                        have hI := iv_sJ (j := 8) (v := x1000) hI o_v0 (by decide)
                        refine u_X4_next_201 ?_
                        refine ⟨o_v0, ?_⟩
                        intro x1001 ex1001
                        have q_x1001 : x1001 = x996 := ex1001.trans d_x996.symm
                        have d_x1001 := ex1001
                        intro x1002 ex1002
                        have hI := iv_sI (j := 4) (v := x1002) hI o_v0 (by decide) (nu_free (by decide))
                        have f0 : FRI _ _ _ (sI (sJ S900 v0 8 x1000) v0 4 x1002) := fri_sI g0 f0 o_v0 (by decide)
                        have fL3 : FRI _ _ _ (sI (sJ S900 v0 8 x1000) v0 4 x1002) := fri_sI gL2 fL3 o_v0 (by decide)
                        have fL902 : FRI _ _ _ (sI (sJ S900 v0 8 x1000) v0 4 x1002) := fri_sI gL901 fL902 o_v0 (by decide)
                        have d_x10 : x10 = fI (sI (sJ S900 v0 8 x1000) v0 4 x1002) v0 7 := d_x10.trans (rd_j (by decide)).symm
                        have d_x998 : x998 = fI (sI (sJ S900 v0 8 x1000) v0 4 x1002) v0 6 := d_x998.trans (rd_j (by decide)).symm
                        have d_x1002 : x1002 = fI (sI (sJ S900 v0 8 x1000) v0 4 x1002) v0 4 := (u2_self _ _ _ _).symm
                        intro x1003 ex1003
                        exact ih913 _ _ _ _ _ _ ⟨hI, gL901, fL902, rfl, rfl, rfl, rfl, hT, (q392 i1 c9 q_x11 p_x12 q_x16 c17 q_x456 c457 q_x896 c897 q_x898 c899 i1 p_k1 c936 q_x957 p_x958 q_x962 c963 c984 q_x988 c990 q_x996 q_x998 c999 q_x1001 ex1002 ex1003), (by rw [← d_x998, ← d_x1002]; exact (q393 i1 c9 q_x11 p_x12 q_x16 c17 q_x456 c457 q_x896 c897 q_x898 c899 i1 p_k1 c936 q_x957 p_x958 q_x962 c963 c984 q_x988 c990 q_x996 q_x998 c999 q_x1001 ex1002 ex1003))⟩ (mu_up (q394 i1 c9 q_x11 p_x12 q_x16 c17 q_x456 c457 q_x896 c897 q_x898 c899 i1 p_k1 c936 q_x957 p_x958 q_x962 c963 c984 q_x988 c990 q_x996 q_x998 c999 q_x1001 ex1002 ex1003) (q395 i1 c9 q_x11 p_x12 q_x16 c17 q_x456 c457 q_x896 c897 q_x898 c899 i1 p_k1 c936 q_x957 p_x958 q_x962 c963 c984 q_x988 c990 q_x996 q_x998 c999 q_x1001 ex1002 ex1003))
                      · refine u_X4_next_195 ?_
                        refine ⟨o_v0, ?_⟩
                        intro x1004 ex1004
                        have hI := iv_sJ (j := 8) (v := x1004) hI o_v0 (by decide)
                        refine u_X4_next_201 ?_
                        refine ⟨o_v0, ?_⟩
                        intro x1005 ex1005
                        have q_x1005 : x1005 = x996 := ex1005.trans d_x996.symm
                        have d_x1005 := ex1005
                        intro x1006 ex1006
                        have hI := iv_sI (j := 4) (v := x1006) hI o_v0 (by decide) (nu_free (by decide))
                        have f0 : FRI _ _ _ (sI (sJ S900 v0 8 x1004) v0 4 x1006) := fri_sI g0 f0 o_v0 (by decide)
                        have fL3 : FRI _ _ _ (sI (sJ S900 v0 8 x1004) v0 4 x1006) := fri_sI gL2 fL3 o_v0 (by decide)
                        have fL902 : FRI _ _ _ (sI (sJ S900 v0 8 x1004) v0 4 x1006) := fri_sI gL901 fL902 o_v0 (by decide)
                        have d_x10 : x10 = fI (sI (sJ S900 v0 8 x1004) v0 4 x1006) v0 7 := d_x10.trans (rd_j (by decide)).symm
                        have d_x998 : x998 = fI (sI (sJ S900 v0 8 x1004) v0 4 x1006) v0 6 := d_x998.trans (rd_j (by decide)).symm
                        have d_x1006 : x1006 = fI (sI (sJ S900 v0 8 x1004) v0 4 x1006) v0 4 := (u2_self _ _ _ _).symm
                        intro x1007 ex1007
                        exact ih913 _ _ _ _ _ _ ⟨hI, gL901, fL902, rfl, rfl, rfl, rfl, hT, (q396 i1 c9 q_x11 p_x12 q_x16 c17 q_x456 c457 q_x896 c897 q_x898 c899 i1 p_k1 c936 q_x957 p_x958 q_x962 c963 c984 q_x988 c990 q_x996 q_x998 c999 q_x1005 ex1006 ex1007), (by rw [← d_x998, ← d_x1006]; exact (q397 i1 c9 q_x11 p_x12 q_x16 c17 q_x456 c457 q_x896 c897 q_x898 c899 i1 p_k1 c936 q_x957 p_x958 q_x962 c963 c984 q_x988 c990 q_x996 q_x998 c999 q_x1005 ex1006 ex1007))⟩ (mu_up (q398 i1 c9 q_x11 p_x12 q_x16 c17 q_x456 c457 q_x896 c897 q_x898 c899 i1 p_k1 c936 q_x957 p_x958 q_x962 c963 c984 q_x988 c990 q_x996 q_x998 c999 q_x1005 ex1006 ex1007) (q399 i1 c9 q_x11 p_x12 q_x16 c17 q_x456 c457 q_x896 c897 q_x898 c899 i1 p_k1 c936 q_x957 p_x958 q_x962 c963 c984 q_x988 c990 q_x996 q_x998 c999 q_x1005 ex1006 ex1007))
          · refine u_X4_next_114 ?_
            refine i_X4_next_118 (fun (y0 : Nat) (y1 : Int32) (y2 : Int32) (y3 : Int32) (y4 : Int32) (Z : HS) => ((2147483647 : Int32).toInt - y4.toInt).toNat) (fun (y0 : Nat) (y1 : Int32) (y2 : Int32) (y3 : Int32) (y4 : Int32) (Z : HS) => (IV Z) ∧ (Gr (sJ (sI (sI S1 v0 7 x10) v0 6 x12) v0 8 (0 : Int64)) Z) ∧ (FRI [(4, 4)] [] (sJ (sI (sI S1 v0 7 x10) v0 6 x12) v0 8 (0 : Int64)) Z) ∧ (v0 = y0) ∧ ((1 : Int32) = y1) ∧ ((3 : Int32) = y2) ∧ ((32 : Int32) = y3) ∧ (TX Z v0) ∧ (0 ≤ y4) ∧ ((y1 = 0 ∨ fI Z v0 6 = 1 ∨ fI Z v0 6 = 2) ∧ (y1 = 0 → fI Z v0 6 = 0 ∨ (0 ≤ fI Z v0 4 ∧ fI Z v0 4 < 900)))) ?_ _ _ _ _ _ _ ⟨hI, (gr_rf _), (fri_rf _ _ _), rfl, rfl, rfl, rfl, hT, (q400 i1 c9 q_x11 p_x12 q_x16 c17 q_x456 c457 q_x896 c897 q_x898 c899), (by rw [← d_x898, ← d_x11]; exact (q401 i1 c9 q_x11 p_x12 q_x16 c17 q_x456 c457 q_x896 c897 q_x898 c899))⟩
            intro w1011 w1013 w1015 w1017 w1019 S1008 X1020 ⟨hI, gL1009, fL1010, q1012, q1014, q1016, q1018, hT, i1, k1⟩ ih1021
            subst q1012
            subst q1014
            subst q1016
            subst q1018
            have d_x10 := d_x10.trans (fri_at fL1010 (by decide) (by decide) o_v0).symm
            have d_x898 := d_x898.trans (fri_at fL1010 (by decide) (by decide) o_v0).symm
            have f0 := fri_tr g0 f0 fL1010 (by decide) (by decide)
            have fL3 := fri_tr gL2 fL3 fL1010 (by decide) (by decide)
            have o_v0 := gr_ob gL1009 o_v0
            have g0 := gr_tr g0 gL1009
            have gL2 := gr_tr gL2 gL1009
            obtain ⟨y1022, d_y1022⟩ : ∃ z : Int32, z = fI S1008 v0 4 := ⟨_, rfl⟩
            have p_k1 : ((1 : Int32) = 0 ∨ x898 = 1 ∨ x898 = 2) ∧ ((1 : Int32) = 0 → x898 = 0 ∨ (0 ≤ y1022 ∧ y1022 < 900)) := by rw [d_x898, d_y1022]; exact k1
            refine u_X4_next_118 ?_
            refine ⟨fun c1023 => ?_, fun c1023 => ?_⟩
            · refine u_X4_next_217 ?_
              refine ⟨fun c1024 => ?_, fun c1024 => ?_⟩
              · refine u_X4_next_240 ?_
                refine ⟨fun c1025 => ?_, fun c1025 => ?_⟩
                · exact hq _ hI g0 f0 hT
                · refine ⟨o_v0, ?_⟩
                  intro x1026 ex1026
                  have q_x1026 : x1026 = x898 := ex1026.trans d_x898.symm
                  have d_x1026 := ex1026
                  refine ⟨fun c1027 => ?_, fun c1027 => ?_⟩
                  · exact hq _ hI g0 f0 hT
                  · intro x1028 ex1028
                    have q_x1028 : x1028 = y1022 := ex1028.trans d_y1022.symm
                    have d_x1028 := ex1028
                    intro x1029 ex1029
                    have hI := iv_sI (j := 4) (v := x1029) hI o_v0 (by decide) (nu_free (by decide))
                    have f0 : FRI _ _ _ (sI S1008 v0 4 x1029) := fri_sI g0 f0 o_v0 (by decide)
                    have fL3 : FRI _ _ _ (sI S1008 v0 4 x1029) := fri_sI gL2 fL3 o_v0 (by decide)
                    have fL1010 : FRI _ _ _ (sI S1008 v0 4 x1029) := fri_sI gL1009 fL1010 o_v0 (by decide)
                    have d_x10 : x10 = fI (sI S1008 v0 4 x1029) v0 7 := d_x10.trans (rd_j (by decide)).symm
                    have d_x1026 : x1026 = fI (sI S1008 v0 4 x1029) v0 6 := d_x1026.trans (rd_j (by decide)).symm
                    have d_x1029 : x1029 = fI (sI S1008 v0 4 x1029) v0 4 := (u2_self _ _ _ _).symm
                    exact hq _ hI g0 f0 hT
              · refine ⟨o_v0, ?_⟩
                intro x1030 ex1030
                have q_x1030 : x1030 = y1022 := ex1030.trans d_y1022.symm
                have d_x1030 := ex1030
                intro x1031 ex1031
                have q_x1031 : x1031 = x10 := ex1031.trans d_x10.symm
                have d_x1031 := ex1031
                refine ⟨fun c1032 => ?_, fun c1032 => ?_⟩
                · refine u_X4_next_240 ?_
                  refine ⟨fun c1033 => ?_, fun c1033 => ?_⟩
                  · exact hq _ hI g0 f0 hT
                  · refine ⟨o_v0, ?_⟩
                    intro x1034 ex1034
                    have q_x1034 : x1034 = x898 := ex1034.trans d_x898.symm
                    have d_x1034 := ex1034
                    refine ⟨fun c1035 => ?_, fun c1035 => ?_⟩
                    · exact hq _ hI g0 f0 hT
                    · intro x1036 ex1036
                      have q_x1036 : x1036 = x1030 := ex1036.trans d_x1030.symm
                      have d_x1036 := ex1036
                      intro x1037 ex1037
                      have hI := iv_sI (j := 4) (v := x1037) hI o_v0 (by decide) (nu_free (by decide))
                      have f0 : FRI _ _ _ (sI S1008 v0 4 x1037) := fri_sI g0 f0 o_v0 (by decide)
                      have fL3 : FRI _ _ _ (sI S1008 v0 4 x1037) := fri_sI gL2 fL3 o_v0 (by decide)
                      have fL1010 : FRI _ _ _ (sI S1008 v0 4 x1037) := fri_sI gL1009 fL1010 o_v0 (by decide)
                      have d_x1031 : x1031 = fI (sI S1008 v0 4 x1037) v0 7 := d_x1031.trans (rd_j (by decide)).symm
                      have d_x1034 : x1034 = fI (sI S1008 v0 4 x1037) v0 6 := d_x1034.trans (rd_j (by decide)).symm
                      have d_x1037 : x1037 = fI (sI S1008 v0 4 x1037) v0 4 := (u2_self _ _ _ _).symm
                      exact hq _ hI g0 f0 hT
                · have hI := iv_sI (j := 6) (v := (6 : Int32)) hI o_v0 (by decide) (nu_free (by decide))
                  have f0 : FRI _ _ _ (sI S1008 v0 6 (6 : Int32)) := fri_sI g0 f0 o_v0 (by decide)
                  have fL3 : FRI _ _ _ (sI S1008 v0 6 (6 : Int32)) := fri_sI gL2 fL3 o_v0 (by decide)
                  have fL1010 : FRI _ _ _ (sI S1008 v0 6 (6 : Int32)) := fri_sI gL1009 fL1010 o_v0 (by decide)
                  have d_x1031 : x1031 = fI (sI S1008 v0 6 (6 : Int32)) v0 7 := d_x1031.trans (rd_j (by decide)).symm
                  have d_x1030 : x1030 = fI (sI S1008 v0 6 (6 : Int32)) v0 4 := d_x1030.trans (rd_j (by decide)).symm
                  obtain ⟨y1038, hy1038⟩ : ∃ z : Int32, z = (6 : Int32) := ⟨_, rfl⟩
                  have d_y1038 : y1038 = fI (sI S1008 v0 6 (6 : Int32)) v0 6 := hy1038.trans (u2_self _ _ _ _).symm
                  refine u_X4_next_240 ?_
                  refine ⟨fun c1039 => ?_, fun c1039 => ?_⟩
                  · exact hq _ hI g0 f0 hT
                  · refine ⟨o_v0, ?_⟩
                    intro x1040 ex1040
                    have q_x1040 : x1040 = y1038 := ex1040.trans d_y1038.symm
                    have d_x1040 := ex1040
                    refine ⟨fun c1041 => ?_, fun c1041 => ?_⟩
                    · exact hq _ hI g0 f0 hT
                    · intro x1042 ex1042
                      have q_x1042 : x1042 = x1030 := ex1042.trans d_x1030.symm
                      have d_x1042 := ex1042
                      intro x1043 ex1043
                      have hI := iv_sI (j := 4) (v := x1043) hI o_v0 (by decide) (nu_free (by decide))
                      have f0 : FRI _ _ _ (sI (sI S1008 v0 6 (6 : Int32)) v0 4 x1043) := fri_sI g0 f0 o_v0 (by decide)
                      have fL3 : FRI _ _ _ (sI (sI S1008 v0 6 (6 : Int32)) v0 4 x1043) := fri_sI gL2 fL3 o_v0 (by decide)
                      have fL1010 : FRI _ _ _ (sI (sI S1008 v0 6 (6 : Int32)) v0 4 x1043) := fri_sI gL1009 fL1010 o_v0 (by decide)
                      have d_x1031 : x1031 = fI (sI (sI S1008 v0 6 (6 : Int32)) v0 4 x1043) v0 7 := d_x1031.trans (rd_j (by decide)).symm
                      have d_x1040 : x1040 = fI (sI (sI S1008 v0 6 (6 : Int32)) v0 4 x1043) v0 6 := d_x1040.trans (rd_j (by decide)).symm
                      have d_x1043 : x1043 = fI (sI (sI S1008 v0 6 (6 : Int32)) v0 4 x1043) v0 4 := (u2_self _ _ _ _).symm
                      exact hq _ hI g0 f0 hT
            · refine ⟨fun c1044 => ?_, fun c1044 => ?_⟩
              · refine u_X4_next_217 ?_
                refine ⟨fun c1045 => ?_, fun c1045 => ?_⟩
                · refine u_X4_next_240 ?_
                  refine ⟨fun c1046 => ?_, fun c1046 => ?_⟩
                  · exact hq _ hI g0 f0 hT
                  · refine ⟨o_v0, ?_⟩
                    intro x1047 ex1047
                    have q_x1047 : x1047 = x898 := ex1047.trans d_x898.symm
                    have d_x1047 := ex1047
                    refine ⟨fun c1048 => ?_, fun c1048 => ?_⟩
                    · exact hq _ hI g0 f0 hT
                    · intro x1049 ex1049
                      have q_x1049 : x1049 = y1022 := ex1049.trans d_y1022.symm
                      have d_x1049 := ex1049
                      intro x1050 ex1050
                      have hI := iv_sI (j := 4) (v := x1050) hI o_v0 (by decide) (nu_free (by decide))
                      have f0 : FRI _ _ _ (sI S1008 v0 4 x1050) := fri_sI g0 f0 o_v0 (by decide)
                      have fL3 : FRI _ _ _ (sI S1008 v0 4 x1050) := fri_sI gL2 fL3 o_v0 (by decide)
                      have fL1010 : FRI _ _ _ (sI S1008 v0 4 x1050) := fri_sI gL1009 fL1010 o_v0 (by decide)
                      have d_x10 : x10 = fI (sI S1008 v0 4 x1050) v0 7 := d_x10.trans (rd_j (by decide)).symm
                      have d_x1047 : x1047 = fI (sI S1008 v0 4 x1050) v0 6 := d_x1047.trans (rd_j (by decide)).symm
                      have d_x1050 : x1050 = fI (sI S1008 v0 4 x1050) v0 4 := (u2_self _ _ _ _).symm
                      exact hq _ hI g0 f0 hT
                · refine ⟨o_v0, ?_⟩
                  intro x1051 ex1051
                  have q_x1051 : x1051 = y1022 := ex1051.trans d_y1022.symm
                  have d_x1051 := ex1051
                  intro x1052 ex1052
                  have q_x1052 : x1052 = x10 := ex1052.trans d_x10.symm
                  have d_x1052 := ex1052
                  refine ⟨fun c1053 => ?_, fun c1053 => ?_⟩
                  · refine u_X4_next_240 ?_
                    refine ⟨fun c1054 => ?_, fun c1054 => ?_⟩
                    · exact hq _ hI g0 f0 hT
                    · refine ⟨o_v0, ?_⟩
                      intro x1055 ex1055
                      have q_x1055 : x1055 = x898 := ex1055.trans d_x898.symm
                      have d_x1055 := ex1055
                      refine ⟨fun c1056 => ?_, fun c1056 => ?_⟩
                      · exact hq _ hI g0 f0 hT
                      · intro x1057 ex1057
                        have q_x1057 : x1057 = x1051 := ex1057.trans d_x1051.symm
                        have d_x1057 := ex1057
                        intro x1058 ex1058
                        have hI := iv_sI (j := 4) (v := x1058) hI o_v0 (by decide) (nu_free (by decide))
                        have f0 : FRI _ _ _ (sI S1008 v0 4 x1058) := fri_sI g0 f0 o_v0 (by decide)
                        have fL3 : FRI _ _ _ (sI S1008 v0 4 x1058) := fri_sI gL2 fL3 o_v0 (by decide)
                        have fL1010 : FRI _ _ _ (sI S1008 v0 4 x1058) := fri_sI gL1009 fL1010 o_v0 (by decide)
                        have d_x1052 : x1052 = fI (sI S1008 v0 4 x1058) v0 7 := d_x1052.trans (rd_j (by decide)).symm
                        have d_x1055 : x1055 = fI (sI S1008 v0 4 x1058) v0 6 := d_x1055.trans (rd_j (by decide)).symm
                        have d_x1058 : x1058 = fI (sI S1008 v0 4 x1058) v0 4 := (u2_self _ _ _ _).symm
                        exact hq _ hI g0 f0 hT
                  · have hI := iv_sI (j := 6) (v := (6 : Int32)) hI o_v0 (by decide) (nu_free (by decide))
                    have f0 : FRI _ _ _ (sI S1008 v0 6 (6 : Int32)) := fri_sI g0 f0 o_v0 (by decide)
                    have fL3 : FRI _ _ _ (sI S1008 v0 6 (6 : Int32)) := fri_sI gL2 fL3 o_v0 (by decide)
                    have fL1010 : FRI _ _ _ (sI S1008 v0 6 (6 : Int32)) := fri_sI gL1009 fL1010 o_v0 (by decide)
                    have d_x1052 : x1052 = fI (sI S1008 v0 6 (6 : Int32)) v0 7 := d_x1052.trans (rd_j (by decide)).symm
                    have d_x1051 : x1051 = fI (sI S1008 v0 6 (6 : Int32)) v0 4 := d_x1051.trans (rd_j (by decide)).symm
                    obtain ⟨y1059, hy1059⟩ : ∃ z : Int32, z = (6 : Int32) := ⟨_, rfl⟩
                    have d_y1059 : y1059 = fI (sI S1008 v0 6 (6 : Int32)) v0 6 := hy1059.trans (u2_self _ _ _ _).symm
                    refine u_X4_next_240 ?_
                    refine ⟨fun c1060 => ?_, fun c1060 => ?_⟩
                    · exact hq _ hI g0 f0 hT
                    · refine ⟨o_v0, ?_⟩
                      intro x1061 ex1061
                      have q_x1061 : x1061 = y1059 := ex1061.trans d_y1059.symm
                      have d_x1061 := ex1061
                      refine ⟨fun c1062 => ?_, fun c1062 => ?_⟩
                      · exact hq _ hI g0 f0 hT
                      · intro x1063 ex1063
                        have q_x1063 : x1063 = x1051 := ex1063.trans d_x1051.symm
                        have d_x1063 := ex1063
                        intro x1064 ex1064
                        have hI := iv_sI (j := 4) (v := x1064) hI o_v0 (by decide) (nu_free (by decide))
                        have f0 : FRI _ _ _ (sI (sI S1008 v0 6 (6 : Int32)) v0 4 x1064) := fri_sI g0 f0 o_v0 (by decide)
                        have fL3 : FRI _ _ _ (sI (sI S1008 v0 6 (6 : Int32)) v0 4 x1064) := fri_sI gL2 fL3 o_v0 (by decide)
                        have fL1010 : FRI _ _ _ (sI (sI S1008 v0 6 (6 : Int32)) v0 4 x1064) := fri_sI gL1009 fL1010 o_v0 (by decide)
                        have d_x1052 : x1052 = fI (sI (sI S1008 v0 6 (6 : Int32)) v0 4 x1064) v0 7 := d_x1052.trans (rd_j (by decide)).symm
                        have d_x1061 : x1061 = fI (sI (sI S1008 v0 6 (6 : Int32)) v0 4 x1064) v0 6 := d_x1061.trans (rd_j (by decide)).symm
                        have d_x1064 : x1064 = fI (sI (sI S1008 v0 6 (6 : Int32)) v0 4 x1064) v0 4 := (u2_self _ _ _ _).symm
                        exact hq _ hI g0 f0 hT
              · refine ⟨o_v0, ?_⟩
                intro x1065 ex1065
                have q_x1065 : x1065 = y1022 := ex1065.trans d_y1022.symm
                have d_x1065 := ex1065
                refine m_X4_sortAt hI o_v0 hT (fun x1066 S1067 hI2 g1068 p_x1066 => ?_)
                obtain ⟨z_S1067, p_x1066⟩ := p_x1066
                subst z_S1067
                intro _
                intro x1070 ex1070
                have q_x1070 : x1070 = x898 := ex1070.trans d_x898.symm
                have d_x1070 := ex1070
                refine ⟨fun c1071 => ?_, fun c1071 => ?_⟩
                · refine u_X4_next_217 ?_
                  refine ⟨fun c1072 => ?_, fun c1072 => ?_⟩
                  · refine u_X4_next_240 ?_
                    refine ⟨fun c1073 => ?_, fun c1073 => ?_⟩
                    · exact hq _ hI g0 f0 hT
                    · refine ⟨o_v0, ?_⟩
                      intro x1074 ex1074
                      have q_x1074 : x1074 = x1070 := ex1074.trans d_x1070.symm
                      have d_x1074 := ex1074
                      refine ⟨fun c1075 => ?_, fun c1075 => ?_⟩
                      · exact hq _ hI g0 f0 hT
                      · intro x1076 ex1076
                        have q_x1076 : x1076 = x1065 := ex1076.trans d_x1065.symm
                        have d_x1076 := ex1076
                        intro x1077 ex1077
                        have hI := iv_sI (j := 4) (v := x1077) hI o_v0 (by decide) (nu_free (by decide))
                        have f0 : FRI _ _ _ (sI S1008 v0 4 x1077) := fri_sI g0 f0 o_v0 (by decide)
                        have fL3 : FRI _ _ _ (sI S1008 v0 4 x1077) := fri_sI gL2 fL3 o_v0 (by decide)
                        have fL1010 : FRI _ _ _ (sI S1008 v0 4 x1077) := fri_sI gL1009 fL1010 o_v0 (by decide)
                        have d_x10 : x10 = fI (sI S1008 v0 4 x1077) v0 7 := d_x10.trans (rd_j (by decide)).symm
                        have d_x1074 : x1074 = fI (sI S1008 v0 4 x1077) v0 6 := d_x1074.trans (rd_j (by decide)).symm
                        have d_x1077 : x1077 = fI (sI S1008 v0 4 x1077) v0 4 := (u2_self _ _ _ _).symm
                        exact hq _ hI g0 f0 hT
                  · refine ⟨o_v0, ?_⟩
                    intro x1078 ex1078
                    have q_x1078 : x1078 = x1065 := ex1078.trans d_x1065.symm
                    have d_x1078 := ex1078
                    intro x1079 ex1079
                    have q_x1079 : x1079 = x10 := ex1079.trans d_x10.symm
                    have d_x1079 := ex1079
                    refine ⟨fun c1080 => ?_, fun c1080 => ?_⟩
                    · refine u_X4_next_240 ?_
                      refine ⟨fun c1081 => ?_, fun c1081 => ?_⟩
                      · exact hq _ hI g0 f0 hT
                      · refine ⟨o_v0, ?_⟩
                        intro x1082 ex1082
                        have q_x1082 : x1082 = x1070 := ex1082.trans d_x1070.symm
                        have d_x1082 := ex1082
                        refine ⟨fun c1083 => ?_, fun c1083 => ?_⟩
                        · exact hq _ hI g0 f0 hT
                        · intro x1084 ex1084
                          have q_x1084 : x1084 = x1078 := ex1084.trans d_x1078.symm
                          have d_x1084 := ex1084
                          intro x1085 ex1085
                          have hI := iv_sI (j := 4) (v := x1085) hI o_v0 (by decide) (nu_free (by decide))
                          have f0 : FRI _ _ _ (sI S1008 v0 4 x1085) := fri_sI g0 f0 o_v0 (by decide)
                          have fL3 : FRI _ _ _ (sI S1008 v0 4 x1085) := fri_sI gL2 fL3 o_v0 (by decide)
                          have fL1010 : FRI _ _ _ (sI S1008 v0 4 x1085) := fri_sI gL1009 fL1010 o_v0 (by decide)
                          have d_x1079 : x1079 = fI (sI S1008 v0 4 x1085) v0 7 := d_x1079.trans (rd_j (by decide)).symm
                          have d_x1082 : x1082 = fI (sI S1008 v0 4 x1085) v0 6 := d_x1082.trans (rd_j (by decide)).symm
                          have d_x1085 : x1085 = fI (sI S1008 v0 4 x1085) v0 4 := (u2_self _ _ _ _).symm
                          exact hq _ hI g0 f0 hT
                    · have hI := iv_sI (j := 6) (v := (6 : Int32)) hI o_v0 (by decide) (nu_free (by decide))
                      have f0 : FRI _ _ _ (sI S1008 v0 6 (6 : Int32)) := fri_sI g0 f0 o_v0 (by decide)
                      have fL3 : FRI _ _ _ (sI S1008 v0 6 (6 : Int32)) := fri_sI gL2 fL3 o_v0 (by decide)
                      have fL1010 : FRI _ _ _ (sI S1008 v0 6 (6 : Int32)) := fri_sI gL1009 fL1010 o_v0 (by decide)
                      have d_x1079 : x1079 = fI (sI S1008 v0 6 (6 : Int32)) v0 7 := d_x1079.trans (rd_j (by decide)).symm
                      have d_x1078 : x1078 = fI (sI S1008 v0 6 (6 : Int32)) v0 4 := d_x1078.trans (rd_j (by decide)).symm
                      obtain ⟨y1086, hy1086⟩ : ∃ z : Int32, z = (6 : Int32) := ⟨_, rfl⟩
                      have d_y1086 : y1086 = fI (sI S1008 v0 6 (6 : Int32)) v0 6 := hy1086.trans (u2_self _ _ _ _).symm
                      refine u_X4_next_240 ?_
                      refine ⟨fun c1087 => ?_, fun c1087 => ?_⟩
                      · exact hq _ hI g0 f0 hT
                      · refine ⟨o_v0, ?_⟩
                        intro x1088 ex1088
                        have q_x1088 : x1088 = y1086 := ex1088.trans d_y1086.symm
                        have d_x1088 := ex1088
                        refine ⟨fun c1089 => ?_, fun c1089 => ?_⟩
                        · exact hq _ hI g0 f0 hT
                        · intro x1090 ex1090
                          have q_x1090 : x1090 = x1078 := ex1090.trans d_x1078.symm
                          have d_x1090 := ex1090
                          intro x1091 ex1091
                          have hI := iv_sI (j := 4) (v := x1091) hI o_v0 (by decide) (nu_free (by decide))
                          have f0 : FRI _ _ _ (sI (sI S1008 v0 6 (6 : Int32)) v0 4 x1091) := fri_sI g0 f0 o_v0 (by decide)
                          have fL3 : FRI _ _ _ (sI (sI S1008 v0 6 (6 : Int32)) v0 4 x1091) := fri_sI gL2 fL3 o_v0 (by decide)
                          have fL1010 : FRI _ _ _ (sI (sI S1008 v0 6 (6 : Int32)) v0 4 x1091) := fri_sI gL1009 fL1010 o_v0 (by decide)
                          have d_x1079 : x1079 = fI (sI (sI S1008 v0 6 (6 : Int32)) v0 4 x1091) v0 7 := d_x1079.trans (rd_j (by decide)).symm
                          have d_x1088 : x1088 = fI (sI (sI S1008 v0 6 (6 : Int32)) v0 4 x1091) v0 6 := d_x1088.trans (rd_j (by decide)).symm
                          have d_x1091 : x1091 = fI (sI (sI S1008 v0 6 (6 : Int32)) v0 4 x1091) v0 4 := (u2_self _ _ _ _).symm
                          exact hq _ hI g0 f0 hT
                · refine ⟨fun c1092 => ?_, fun c1092 => ?_⟩
                  · refine u_X4_next_201 ?_
                    refine ⟨o_v0, ?_⟩
                    intro x1093 ex1093
                    have q_x1093 : x1093 = x1065 := ex1093.trans d_x1065.symm
                    have d_x1093 := ex1093
                    intro x1094 ex1094
                    have hI := iv_sI (j := 4) (v := x1094) hI o_v0 (by decide) (nu_free (by decide))
                    have f0 : FRI _ _ _ (sI S1008 v0 4 x1094) := fri_sI g0 f0 o_v0 (by decide)
                    have fL3 : FRI _ _ _ (sI S1008 v0 4 x1094) := fri_sI gL2 fL3 o_v0 (by decide)
                    have fL1010 : FRI _ _ _ (sI S1008 v0 4 x1094) := fri_sI gL1009 fL1010 o_v0 (by decide)
                    have d_x10 : x10 = fI (sI S1008 v0 4 x1094) v0 7 := d_x10.trans (rd_j (by decide)).symm
                    have d_x1070 : x1070 = fI (sI S1008 v0 4 x1094) v0 6 := d_x1070.trans (rd_j (by decide)).symm
                    have d_x1094 : x1094 = fI (sI S1008 v0 4 x1094) v0 4 := (u2_self _ _ _ _).symm
                    intro x1095 ex1095
                    exact ih1021 _ _ _ _ _ _ ⟨hI, gL1009, fL1010, rfl, rfl, rfl, rfl, hT, (q402 i1 c9 q_x11 p_x12 q_x16 c17 q_x456 c457 q_x896 c897 q_x898 c899 i1 p_k1 c1044 q_x1065 p_x1066 q_x1070 c1071 c1092 q_x1093 ex1094 ex1095), (by rw [← d_x1070, ← d_x1094]; exact (q403 i1 c9 q_x11 p_x12 q_x16 c17 q_x456 c457 q_x896 c897 q_x898 c899 i1 p_k1 c1044 q_x1065 p_x1066 q_x1070 c1071 c1092 q_x1093 ex1094 ex1095))⟩ (mu_up (q404 i1 c9 q_x11 p_x12 q_x16 c17 q_x456 c457 q_x896 c897 q_x898 c899 i1 p_k1 c1044 q_x1065 p_x1066 q_x1070 c1071 c1092 q_x1093 ex1094 ex1095) (q405 i1 c9 q_x11 p_x12 q_x16 c17 q_x456 c457 q_x896 c897 q_x898 c899 i1 p_k1 c1044 q_x1065 p_x1066 q_x1070 c1071 c1092 q_x1093 ex1094 ex1095))
                  · intro x1096 ex1096
                    have q_x1096 : x1096 = x1065 := ex1096.trans d_x1065.symm
                    have d_x1096 := ex1096
                    obtain ⟨a1097, ea1097, o_a1097, l_a1097⟩ := hT
                    refine ⟨a1097, ea1097, ?_⟩
                    refine ⟨o_a1097, ?_⟩
                    have n_a1097 : nI (hN S1008 a1097) = 900 := by rw [show hN S1008 a1097 = 900 from l_a1097]; decide
                    refine ⟨fun c1098 => ?_, fun c1098 => ?_⟩
                    · rw [n_a1097] at c1098
                      refine u_X4_next_201 ?_
                      refine ⟨o_v0, ?_⟩
                      intro x1099 ex1099
                      have q_x1099 : x1099 = x1096 := ex1099.trans d_x1096.symm
                      have d_x1099 := ex1099
                      intro x1100 ex1100
                      have hI := iv_sI (j := 4) (v := x1100) hI o_v0 (by decide) (nu_free (by decide))
                      have f0 : FRI _ _ _ (sI S1008 v0 4 x1100) := fri_sI g0 f0 o_v0 (by decide)
                      have fL3 : FRI _ _ _ (sI S1008 v0 4 x1100) := fri_sI gL2 fL3 o_v0 (by decide)
                      have fL1010 : FRI _ _ _ (sI S1008 v0 4 x1100) := fri_sI gL1009 fL1010 o_v0 (by decide)
                      have d_x10 : x10 = fI (sI S1008 v0 4 x1100) v0 7 := d_x10.trans (rd_j (by decide)).symm
                      have d_x1070 : x1070 = fI (sI S1008 v0 4 x1100) v0 6 := d_x1070.trans (rd_j (by decide)).symm
                      have d_x1100 : x1100 = fI (sI S1008 v0 4 x1100) v0 4 := (u2_self _ _ _ _).symm
                      intro x1101 ex1101
                      exact ih1021 _ _ _ _ _ _ ⟨hI, gL1009, fL1010, rfl, rfl, rfl, rfl, hT, (q406 i1 c9 q_x11 p_x12 q_x16 c17 q_x456 c457 q_x896 c897 q_x898 c899 i1 p_k1 c1044 q_x1065 p_x1066 q_x1070 c1071 c1092 q_x1096 c1098 q_x1099 ex1100 ex1101), (by rw [← d_x1070, ← d_x1100]; exact (q407 i1 c9 q_x11 p_x12 q_x16 c17 q_x456 c457 q_x896 c897 q_x898 c899 i1 p_k1 c1044 q_x1065 p_x1066 q_x1070 c1071 c1092 q_x1096 c1098 q_x1099 ex1100 ex1101))⟩ (mu_up (q408 i1 c9 q_x11 p_x12 q_x16 c17 q_x456 c457 q_x896 c897 q_x898 c899 i1 p_k1 c1044 q_x1065 p_x1066 q_x1070 c1071 c1092 q_x1096 c1098 q_x1099 ex1100 ex1101) (q409 i1 c9 q_x11 p_x12 q_x16 c17 q_x456 c457 q_x896 c897 q_x898 c899 i1 p_k1 c1044 q_x1065 p_x1066 q_x1070 c1071 c1092 q_x1096 c1098 q_x1099 ex1100 ex1101))
                    · rw [n_a1097] at c1098
                      intro x1102 ex1102
                      have dj_x1102 := ex1102
                      refine ⟨a1097, ea1097, ?_⟩
                      intro x1104 ex1104
                      have q_x1104 : x1104 = x1096 := ex1104.trans d_x1096.symm
                      have d_x1104 := ex1104
                      refine ⟨o_a1097, ?_⟩
                      refine ⟨(vin l_a1097 (m := 900) (by decide) (q410 i1 c9 q_x11 p_x12 q_x16 c17 q_x456 c457 q_x896 c897 q_x898 c899 i1 p_k1 c1044 q_x1065 p_x1066 q_x1070 c1071 c1092 q_x1096 c1098 q_x1104)), ?_⟩
                      intro x1105 ex1105
                      intro x1106 ex1106
                      have q_x1106 : x1106 = x1070 := ex1106.trans d_x1070.symm
                      have d_x1106 := ex1106
                      refine ⟨fun c1107 => ?_, fun c1107 => ?_⟩
                      · refine u_X4_next_195 ?_
                        refine ⟨o_v0, ?_⟩
                        intro x1108 ex1108
                        have hI := iv_sJ (j := 8) (v := x1108) hI o_v0 (by decide)
                        refine u_X4_next_201 ?_
                        refine ⟨o_v0, ?_⟩
                        intro x1109 ex1109
                        have q_x1109 : x1109 = x1104 := ex1109.trans d_x1104.symm
                        have d_x1109 := ex1109
                        intro x1110 ex1110
                        have hI := iv_sI (j := 4) (v := x1110) hI o_v0 (by decide) (nu_free (by decide))
                        have f0 : FRI _ _ _ (sI (sJ S1008 v0 8 x1108) v0 4 x1110) := fri_sI g0 f0 o_v0 (by decide)
                        have fL3 : FRI _ _ _ (sI (sJ S1008 v0 8 x1108) v0 4 x1110) := fri_sI gL2 fL3 o_v0 (by decide)
                        have fL1010 : FRI _ _ _ (sI (sJ S1008 v0 8 x1108) v0 4 x1110) := fri_sI gL1009 fL1010 o_v0 (by decide)
                        have d_x10 : x10 = fI (sI (sJ S1008 v0 8 x1108) v0 4 x1110) v0 7 := d_x10.trans (rd_j (by decide)).symm
                        have d_x1106 : x1106 = fI (sI (sJ S1008 v0 8 x1108) v0 4 x1110) v0 6 := d_x1106.trans (rd_j (by decide)).symm
                        have d_x1110 : x1110 = fI (sI (sJ S1008 v0 8 x1108) v0 4 x1110) v0 4 := (u2_self _ _ _ _).symm
                        intro x1111 ex1111
                        exact ih1021 _ _ _ _ _ _ ⟨hI, gL1009, fL1010, rfl, rfl, rfl, rfl, hT, (q411 i1 c9 q_x11 p_x12 q_x16 c17 q_x456 c457 q_x896 c897 q_x898 c899 i1 p_k1 c1044 q_x1065 p_x1066 q_x1070 c1071 c1092 q_x1096 c1098 q_x1104 q_x1106 c1107 q_x1109 ex1110 ex1111), (by rw [← d_x1106, ← d_x1110]; exact (q412 i1 c9 q_x11 p_x12 q_x16 c17 q_x456 c457 q_x896 c897 q_x898 c899 i1 p_k1 c1044 q_x1065 p_x1066 q_x1070 c1071 c1092 q_x1096 c1098 q_x1104 q_x1106 c1107 q_x1109 ex1110 ex1111))⟩ (mu_up (q413 i1 c9 q_x11 p_x12 q_x16 c17 q_x456 c457 q_x896 c897 q_x898 c899 i1 p_k1 c1044 q_x1065 p_x1066 q_x1070 c1071 c1092 q_x1096 c1098 q_x1104 q_x1106 c1107 q_x1109 ex1110 ex1111) (q414 i1 c9 q_x11 p_x12 q_x16 c17 q_x456 c457 q_x896 c897 q_x898 c899 i1 p_k1 c1044 q_x1065 p_x1066 q_x1070 c1071 c1092 q_x1096 c1098 q_x1104 q_x1106 c1107 q_x1109 ex1110 ex1111))
                      · refine u_X4_next_195 ?_
                        refine ⟨o_v0, ?_⟩
                        intro x1112 ex1112
                        have hI := iv_sJ (j := 8) (v := x1112) hI o_v0 (by decide)
                        refine u_X4_next_201 ?_
                        refine ⟨o_v0, ?_⟩
                        intro x1113 ex1113
                        have q_x1113 : x1113 = x1104 := ex1113.trans d_x1104.symm
                        have d_x1113 := ex1113
                        intro x1114 ex1114
                        have hI := iv_sI (j := 4) (v := x1114) hI o_v0 (by decide) (nu_free (by decide))
                        have f0 : FRI _ _ _ (sI (sJ S1008 v0 8 x1112) v0 4 x1114) := fri_sI g0 f0 o_v0 (by decide)
                        have fL3 : FRI _ _ _ (sI (sJ S1008 v0 8 x1112) v0 4 x1114) := fri_sI gL2 fL3 o_v0 (by decide)
                        have fL1010 : FRI _ _ _ (sI (sJ S1008 v0 8 x1112) v0 4 x1114) := fri_sI gL1009 fL1010 o_v0 (by decide)
                        have d_x10 : x10 = fI (sI (sJ S1008 v0 8 x1112) v0 4 x1114) v0 7 := d_x10.trans (rd_j (by decide)).symm
                        have d_x1106 : x1106 = fI (sI (sJ S1008 v0 8 x1112) v0 4 x1114) v0 6 := d_x1106.trans (rd_j (by decide)).symm
                        have d_x1114 : x1114 = fI (sI (sJ S1008 v0 8 x1112) v0 4 x1114) v0 4 := (u2_self _ _ _ _).symm
                        intro x1115 ex1115
                        exact ih1021 _ _ _ _ _ _ ⟨hI, gL1009, fL1010, rfl, rfl, rfl, rfl, hT, (q415 i1 c9 q_x11 p_x12 q_x16 c17 q_x456 c457 q_x896 c897 q_x898 c899 i1 p_k1 c1044 q_x1065 p_x1066 q_x1070 c1071 c1092 q_x1096 c1098 q_x1104 q_x1106 c1107 q_x1113 ex1114 ex1115), (by rw [← d_x1106, ← d_x1114]; exact (q416 i1 c9 q_x11 p_x12 q_x16 c17 q_x456 c457 q_x896 c897 q_x898 c899 i1 p_k1 c1044 q_x1065 p_x1066 q_x1070 c1071 c1092 q_x1096 c1098 q_x1104 q_x1106 c1107 q_x1113 ex1114 ex1115))⟩ (mu_up (q417 i1 c9 q_x11 p_x12 q_x16 c17 q_x456 c457 q_x896 c897 q_x898 c899 i1 p_k1 c1044 q_x1065 p_x1066 q_x1070 c1071 c1092 q_x1096 c1098 q_x1104 q_x1106 c1107 q_x1113 ex1114 ex1115) (q418 i1 c9 q_x11 p_x12 q_x16 c17 q_x456 c457 q_x896 c897 q_x898 c899 i1 p_k1 c1044 q_x1065 p_x1066 q_x1070 c1071 c1092 q_x1096 c1098 q_x1104 q_x1106 c1107 q_x1113 ex1114 ex1115))
        · refine u_X4_next_98 ?_
          refine ⟨o_v0, ?_⟩
          intro x1116 ex1116
          have q_x1116 : x1116 = x896 := ex1116.trans d_x896.symm
          have d_x1116 := ex1116
          refine ⟨fun c1117 => ?_, fun c1117 => ?_⟩
          · refine u_X4_next_114 ?_
            refine i_X4_next_118 (fun (y0 : Nat) (y1 : Int32) (y2 : Int32) (y3 : Int32) (y4 : Int32) (Z : HS) => ((2147483647 : Int32).toInt - y4.toInt).toNat) (fun (y0 : Nat) (y1 : Int32) (y2 : Int32) (y3 : Int32) (y4 : Int32) (Z : HS) => (IV Z) ∧ (Gr (sJ (sI (sI S1 v0 7 x10) v0 6 x12) v0 8 (0 : Int64)) Z) ∧ (FRI [(4, 4)] [] (sJ (sI (sI S1 v0 7 x10) v0 6 x12) v0 8 (0 : Int64)) Z) ∧ (v0 = y0) ∧ ((1 : Int32) = y1) ∧ ((8 : Int32) = y2) ∧ ((10 : Int32) = y3) ∧ (TX Z v0) ∧ (0 ≤ y4) ∧ ((y1 = 0 ∨ fI Z v0 6 = 1 ∨ fI Z v0 6 = 2) ∧ (y1 = 0 → fI Z v0 6 = 0 ∨ (0 ≤ fI Z v0 4 ∧ fI Z v0 4 < 900)))) ?_ _ _ _ _ _ _ ⟨hI, (gr_rf _), (fri_rf _ _ _), rfl, rfl, rfl, rfl, hT, (q419 i1 c9 q_x11 p_x12 q_x16 c17 q_x456 c457 q_x896 c897 q_x1116 c1117), (by rw [← d_x1116, ← d_x11]; exact (q420 i1 c9 q_x11 p_x12 q_x16 c17 q_x456 c457 q_x896 c897 q_x1116 c1117))⟩
            intro w1121 w1123 w1125 w1127 w1129 S1118 X1130 ⟨hI, gL1119, fL1120, q1122, q1124, q1126, q1128, hT, i1, k1⟩ ih1131
            subst q1122
            subst q1124
            subst q1126
            subst q1128
            have d_x10 := d_x10.trans (fri_at fL1120 (by decide) (by decide) o_v0).symm
            have d_x1116 := d_x1116.trans (fri_at fL1120 (by decide) (by decide) o_v0).symm
            have f0 := fri_tr g0 f0 fL1120 (by decide) (by decide)
            have fL3 := fri_tr gL2 fL3 fL1120 (by decide) (by decide)
            have o_v0 := gr_ob gL1119 o_v0
            have g0 := gr_tr g0 gL1119
            have gL2 := gr_tr gL2 gL1119
            obtain ⟨y1132, d_y1132⟩ : ∃ z : Int32, z = fI S1118 v0 4 := ⟨_, rfl⟩
            have p_k1 : ((1 : Int32) = 0 ∨ x1116 = 1 ∨ x1116 = 2) ∧ ((1 : Int32) = 0 → x1116 = 0 ∨ (0 ≤ y1132 ∧ y1132 < 900)) := by rw [d_x1116, d_y1132]; exact k1
            refine u_X4_next_118 ?_
            refine ⟨fun c1133 => ?_, fun c1133 => ?_⟩
            · refine u_X4_next_217 ?_
              refine ⟨fun c1134 => ?_, fun c1134 => ?_⟩
              · refine u_X4_next_240 ?_
                refine ⟨fun c1135 => ?_, fun c1135 => ?_⟩
                · exact hq _ hI g0 f0 hT
                · refine ⟨o_v0, ?_⟩
                  intro x1136 ex1136
                  have q_x1136 : x1136 = x1116 := ex1136.trans d_x1116.symm
                  have d_x1136 := ex1136
                  refine ⟨fun c1137 => ?_, fun c1137 => ?_⟩
                  · exact hq _ hI g0 f0 hT
                  · intro x1138 ex1138
                    have q_x1138 : x1138 = y1132 := ex1138.trans d_y1132.symm
                    have d_x1138 := ex1138
                    intro x1139 ex1139
                    have hI := iv_sI (j := 4) (v := x1139) hI o_v0 (by decide) (nu_free (by decide))
                    have f0 : FRI _ _ _ (sI S1118 v0 4 x1139) := fri_sI g0 f0 o_v0 (by decide)
                    have fL3 : FRI _ _ _ (sI S1118 v0 4 x1139) := fri_sI gL2 fL3 o_v0 (by decide)
                    have fL1120 : FRI _ _ _ (sI S1118 v0 4 x1139) := fri_sI gL1119 fL1120 o_v0 (by decide)
                    have d_x10 : x10 = fI (sI S1118 v0 4 x1139) v0 7 := d_x10.trans (rd_j (by decide)).symm
                    have d_x1136 : x1136 = fI (sI S1118 v0 4 x1139) v0 6 := d_x1136.trans (rd_j (by decide)).symm
                    have d_x1139 : x1139 = fI (sI S1118 v0 4 x1139) v0 4 := (u2_self _ _ _ _).symm
                    exact hq _ hI g0 f0 hT
              · refine ⟨o_v0, ?_⟩
                intro x1140 ex1140
                have q_x1140 : x1140 = y1132 := ex1140.trans d_y1132.symm
                have d_x1140 := ex1140
                intro x1141 ex1141
                have q_x1141 : x1141 = x10 := ex1141.trans d_x10.symm
                have d_x1141 := ex1141
                refine ⟨fun c1142 => ?_, fun c1142 => ?_⟩
                · refine u_X4_next_240 ?_
                  refine ⟨fun c1143 => ?_, fun c1143 => ?_⟩
                  · exact hq _ hI g0 f0 hT
                  · refine ⟨o_v0, ?_⟩
                    intro x1144 ex1144
                    have q_x1144 : x1144 = x1116 := ex1144.trans d_x1116.symm
                    have d_x1144 := ex1144
                    refine ⟨fun c1145 => ?_, fun c1145 => ?_⟩
                    · exact hq _ hI g0 f0 hT
                    · intro x1146 ex1146
                      have q_x1146 : x1146 = x1140 := ex1146.trans d_x1140.symm
                      have d_x1146 := ex1146
                      intro x1147 ex1147
                      have hI := iv_sI (j := 4) (v := x1147) hI o_v0 (by decide) (nu_free (by decide))
                      have f0 : FRI _ _ _ (sI S1118 v0 4 x1147) := fri_sI g0 f0 o_v0 (by decide)
                      have fL3 : FRI _ _ _ (sI S1118 v0 4 x1147) := fri_sI gL2 fL3 o_v0 (by decide)
                      have fL1120 : FRI _ _ _ (sI S1118 v0 4 x1147) := fri_sI gL1119 fL1120 o_v0 (by decide)
                      have d_x1141 : x1141 = fI (sI S1118 v0 4 x1147) v0 7 := d_x1141.trans (rd_j (by decide)).symm
                      have d_x1144 : x1144 = fI (sI S1118 v0 4 x1147) v0 6 := d_x1144.trans (rd_j (by decide)).symm
                      have d_x1147 : x1147 = fI (sI S1118 v0 4 x1147) v0 4 := (u2_self _ _ _ _).symm
                      exact hq _ hI g0 f0 hT
                · have hI := iv_sI (j := 6) (v := (6 : Int32)) hI o_v0 (by decide) (nu_free (by decide))
                  have f0 : FRI _ _ _ (sI S1118 v0 6 (6 : Int32)) := fri_sI g0 f0 o_v0 (by decide)
                  have fL3 : FRI _ _ _ (sI S1118 v0 6 (6 : Int32)) := fri_sI gL2 fL3 o_v0 (by decide)
                  have fL1120 : FRI _ _ _ (sI S1118 v0 6 (6 : Int32)) := fri_sI gL1119 fL1120 o_v0 (by decide)
                  have d_x1141 : x1141 = fI (sI S1118 v0 6 (6 : Int32)) v0 7 := d_x1141.trans (rd_j (by decide)).symm
                  have d_x1140 : x1140 = fI (sI S1118 v0 6 (6 : Int32)) v0 4 := d_x1140.trans (rd_j (by decide)).symm
                  obtain ⟨y1148, hy1148⟩ : ∃ z : Int32, z = (6 : Int32) := ⟨_, rfl⟩
                  have d_y1148 : y1148 = fI (sI S1118 v0 6 (6 : Int32)) v0 6 := hy1148.trans (u2_self _ _ _ _).symm
                  refine u_X4_next_240 ?_
                  refine ⟨fun c1149 => ?_, fun c1149 => ?_⟩
                  · exact hq _ hI g0 f0 hT
                  · refine ⟨o_v0, ?_⟩
                    intro x1150 ex1150
                    have q_x1150 : x1150 = y1148 := ex1150.trans d_y1148.symm
                    have d_x1150 := ex1150
                    refine ⟨fun c1151 => ?_, fun c1151 => ?_⟩
                    · exact hq _ hI g0 f0 hT
                    · intro x1152 ex1152
                      have q_x1152 : x1152 = x1140 := ex1152.trans d_x1140.symm
                      have d_x1152 := ex1152
                      intro x1153 ex1153
                      have hI := iv_sI (j := 4) (v := x1153) hI o_v0 (by decide) (nu_free (by decide))
                      have f0 : FRI _ _ _ (sI (sI S1118 v0 6 (6 : Int32)) v0 4 x1153) := fri_sI g0 f0 o_v0 (by decide)
                      have fL3 : FRI _ _ _ (sI (sI S1118 v0 6 (6 : Int32)) v0 4 x1153) := fri_sI gL2 fL3 o_v0 (by decide)
                      have fL1120 : FRI _ _ _ (sI (sI S1118 v0 6 (6 : Int32)) v0 4 x1153) := fri_sI gL1119 fL1120 o_v0 (by decide)
                      have d_x1141 : x1141 = fI (sI (sI S1118 v0 6 (6 : Int32)) v0 4 x1153) v0 7 := d_x1141.trans (rd_j (by decide)).symm
                      have d_x1150 : x1150 = fI (sI (sI S1118 v0 6 (6 : Int32)) v0 4 x1153) v0 6 := d_x1150.trans (rd_j (by decide)).symm
                      have d_x1153 : x1153 = fI (sI (sI S1118 v0 6 (6 : Int32)) v0 4 x1153) v0 4 := (u2_self _ _ _ _).symm
                      exact hq _ hI g0 f0 hT
            · refine ⟨fun c1154 => ?_, fun c1154 => ?_⟩
              · refine u_X4_next_217 ?_
                refine ⟨fun c1155 => ?_, fun c1155 => ?_⟩
                · refine u_X4_next_240 ?_
                  refine ⟨fun c1156 => ?_, fun c1156 => ?_⟩
                  · exact hq _ hI g0 f0 hT
                  · refine ⟨o_v0, ?_⟩
                    intro x1157 ex1157
                    have q_x1157 : x1157 = x1116 := ex1157.trans d_x1116.symm
                    have d_x1157 := ex1157
                    refine ⟨fun c1158 => ?_, fun c1158 => ?_⟩
                    · exact hq _ hI g0 f0 hT
                    · intro x1159 ex1159
                      have q_x1159 : x1159 = y1132 := ex1159.trans d_y1132.symm
                      have d_x1159 := ex1159
                      intro x1160 ex1160
                      have hI := iv_sI (j := 4) (v := x1160) hI o_v0 (by decide) (nu_free (by decide))
                      have f0 : FRI _ _ _ (sI S1118 v0 4 x1160) := fri_sI g0 f0 o_v0 (by decide)
                      have fL3 : FRI _ _ _ (sI S1118 v0 4 x1160) := fri_sI gL2 fL3 o_v0 (by decide)
                      have fL1120 : FRI _ _ _ (sI S1118 v0 4 x1160) := fri_sI gL1119 fL1120 o_v0 (by decide)
                      have d_x10 : x10 = fI (sI S1118 v0 4 x1160) v0 7 := d_x10.trans (rd_j (by decide)).symm
                      have d_x1157 : x1157 = fI (sI S1118 v0 4 x1160) v0 6 := d_x1157.trans (rd_j (by decide)).symm
                      have d_x1160 : x1160 = fI (sI S1118 v0 4 x1160) v0 4 := (u2_self _ _ _ _).symm
                      exact hq _ hI g0 f0 hT
                · refine ⟨o_v0, ?_⟩
                  intro x1161 ex1161
                  have q_x1161 : x1161 = y1132 := ex1161.trans d_y1132.symm
                  have d_x1161 := ex1161
                  intro x1162 ex1162
                  have q_x1162 : x1162 = x10 := ex1162.trans d_x10.symm
                  have d_x1162 := ex1162
                  refine ⟨fun c1163 => ?_, fun c1163 => ?_⟩
                  · refine u_X4_next_240 ?_
                    refine ⟨fun c1164 => ?_, fun c1164 => ?_⟩
                    · exact hq _ hI g0 f0 hT
                    · refine ⟨o_v0, ?_⟩
                      intro x1165 ex1165
                      have q_x1165 : x1165 = x1116 := ex1165.trans d_x1116.symm
                      have d_x1165 := ex1165
                      refine ⟨fun c1166 => ?_, fun c1166 => ?_⟩
                      · exact hq _ hI g0 f0 hT
                      · intro x1167 ex1167
                        have q_x1167 : x1167 = x1161 := ex1167.trans d_x1161.symm
                        have d_x1167 := ex1167
                        intro x1168 ex1168
                        have hI := iv_sI (j := 4) (v := x1168) hI o_v0 (by decide) (nu_free (by decide))
                        have f0 : FRI _ _ _ (sI S1118 v0 4 x1168) := fri_sI g0 f0 o_v0 (by decide)
                        have fL3 : FRI _ _ _ (sI S1118 v0 4 x1168) := fri_sI gL2 fL3 o_v0 (by decide)
                        have fL1120 : FRI _ _ _ (sI S1118 v0 4 x1168) := fri_sI gL1119 fL1120 o_v0 (by decide)
                        have d_x1162 : x1162 = fI (sI S1118 v0 4 x1168) v0 7 := d_x1162.trans (rd_j (by decide)).symm
                        have d_x1165 : x1165 = fI (sI S1118 v0 4 x1168) v0 6 := d_x1165.trans (rd_j (by decide)).symm
                        have d_x1168 : x1168 = fI (sI S1118 v0 4 x1168) v0 4 := (u2_self _ _ _ _).symm
                        exact hq _ hI g0 f0 hT
                  · have hI := iv_sI (j := 6) (v := (6 : Int32)) hI o_v0 (by decide) (nu_free (by decide))
                    have f0 : FRI _ _ _ (sI S1118 v0 6 (6 : Int32)) := fri_sI g0 f0 o_v0 (by decide)
                    have fL3 : FRI _ _ _ (sI S1118 v0 6 (6 : Int32)) := fri_sI gL2 fL3 o_v0 (by decide)
                    have fL1120 : FRI _ _ _ (sI S1118 v0 6 (6 : Int32)) := fri_sI gL1119 fL1120 o_v0 (by decide)
                    have d_x1162 : x1162 = fI (sI S1118 v0 6 (6 : Int32)) v0 7 := d_x1162.trans (rd_j (by decide)).symm
                    have d_x1161 : x1161 = fI (sI S1118 v0 6 (6 : Int32)) v0 4 := d_x1161.trans (rd_j (by decide)).symm
                    obtain ⟨y1169, hy1169⟩ : ∃ z : Int32, z = (6 : Int32) := ⟨_, rfl⟩
                    have d_y1169 : y1169 = fI (sI S1118 v0 6 (6 : Int32)) v0 6 := hy1169.trans (u2_self _ _ _ _).symm
                    refine u_X4_next_240 ?_
                    refine ⟨fun c1170 => ?_, fun c1170 => ?_⟩
                    · exact hq _ hI g0 f0 hT
                    · refine ⟨o_v0, ?_⟩
                      intro x1171 ex1171
                      have q_x1171 : x1171 = y1169 := ex1171.trans d_y1169.symm
                      have d_x1171 := ex1171
                      refine ⟨fun c1172 => ?_, fun c1172 => ?_⟩
                      · exact hq _ hI g0 f0 hT
                      · intro x1173 ex1173
                        have q_x1173 : x1173 = x1161 := ex1173.trans d_x1161.symm
                        have d_x1173 := ex1173
                        intro x1174 ex1174
                        have hI := iv_sI (j := 4) (v := x1174) hI o_v0 (by decide) (nu_free (by decide))
                        have f0 : FRI _ _ _ (sI (sI S1118 v0 6 (6 : Int32)) v0 4 x1174) := fri_sI g0 f0 o_v0 (by decide)
                        have fL3 : FRI _ _ _ (sI (sI S1118 v0 6 (6 : Int32)) v0 4 x1174) := fri_sI gL2 fL3 o_v0 (by decide)
                        have fL1120 : FRI _ _ _ (sI (sI S1118 v0 6 (6 : Int32)) v0 4 x1174) := fri_sI gL1119 fL1120 o_v0 (by decide)
                        have d_x1162 : x1162 = fI (sI (sI S1118 v0 6 (6 : Int32)) v0 4 x1174) v0 7 := d_x1162.trans (rd_j (by decide)).symm
                        have d_x1171 : x1171 = fI (sI (sI S1118 v0 6 (6 : Int32)) v0 4 x1174) v0 6 := d_x1171.trans (rd_j (by decide)).symm
                        have d_x1174 : x1174 = fI (sI (sI S1118 v0 6 (6 : Int32)) v0 4 x1174) v0 4 := (u2_self _ _ _ _).symm
                        exact hq _ hI g0 f0 hT
              · refine ⟨o_v0, ?_⟩
                intro x1175 ex1175
                have q_x1175 : x1175 = y1132 := ex1175.trans d_y1132.symm
                have d_x1175 := ex1175
                refine m_X4_sortAt hI o_v0 hT (fun x1176 S1177 hI2 g1178 p_x1176 => ?_)
                obtain ⟨z_S1177, p_x1176⟩ := p_x1176
                subst z_S1177
                intro _
                intro x1180 ex1180
                have q_x1180 : x1180 = x1116 := ex1180.trans d_x1116.symm
                have d_x1180 := ex1180
                refine ⟨fun c1181 => ?_, fun c1181 => ?_⟩
                · refine u_X4_next_217 ?_
                  refine ⟨fun c1182 => ?_, fun c1182 => ?_⟩
                  · refine u_X4_next_240 ?_
                    refine ⟨fun c1183 => ?_, fun c1183 => ?_⟩
                    · exact hq _ hI g0 f0 hT
                    · refine ⟨o_v0, ?_⟩
                      intro x1184 ex1184
                      have q_x1184 : x1184 = x1180 := ex1184.trans d_x1180.symm
                      have d_x1184 := ex1184
                      refine ⟨fun c1185 => ?_, fun c1185 => ?_⟩
                      · exact hq _ hI g0 f0 hT
                      · intro x1186 ex1186
                        have q_x1186 : x1186 = x1175 := ex1186.trans d_x1175.symm
                        have d_x1186 := ex1186
                        intro x1187 ex1187
                        have hI := iv_sI (j := 4) (v := x1187) hI o_v0 (by decide) (nu_free (by decide))
                        have f0 : FRI _ _ _ (sI S1118 v0 4 x1187) := fri_sI g0 f0 o_v0 (by decide)
                        have fL3 : FRI _ _ _ (sI S1118 v0 4 x1187) := fri_sI gL2 fL3 o_v0 (by decide)
                        have fL1120 : FRI _ _ _ (sI S1118 v0 4 x1187) := fri_sI gL1119 fL1120 o_v0 (by decide)
                        have d_x10 : x10 = fI (sI S1118 v0 4 x1187) v0 7 := d_x10.trans (rd_j (by decide)).symm
                        have d_x1184 : x1184 = fI (sI S1118 v0 4 x1187) v0 6 := d_x1184.trans (rd_j (by decide)).symm
                        have d_x1187 : x1187 = fI (sI S1118 v0 4 x1187) v0 4 := (u2_self _ _ _ _).symm
                        exact hq _ hI g0 f0 hT
                  · refine ⟨o_v0, ?_⟩
                    intro x1188 ex1188
                    have q_x1188 : x1188 = x1175 := ex1188.trans d_x1175.symm
                    have d_x1188 := ex1188
                    intro x1189 ex1189
                    have q_x1189 : x1189 = x10 := ex1189.trans d_x10.symm
                    have d_x1189 := ex1189
                    refine ⟨fun c1190 => ?_, fun c1190 => ?_⟩
                    · refine u_X4_next_240 ?_
                      refine ⟨fun c1191 => ?_, fun c1191 => ?_⟩
                      · exact hq _ hI g0 f0 hT
                      · refine ⟨o_v0, ?_⟩
                        intro x1192 ex1192
                        have q_x1192 : x1192 = x1180 := ex1192.trans d_x1180.symm
                        have d_x1192 := ex1192
                        refine ⟨fun c1193 => ?_, fun c1193 => ?_⟩
                        · exact hq _ hI g0 f0 hT
                        · intro x1194 ex1194
                          have q_x1194 : x1194 = x1188 := ex1194.trans d_x1188.symm
                          have d_x1194 := ex1194
                          intro x1195 ex1195
                          have hI := iv_sI (j := 4) (v := x1195) hI o_v0 (by decide) (nu_free (by decide))
                          have f0 : FRI _ _ _ (sI S1118 v0 4 x1195) := fri_sI g0 f0 o_v0 (by decide)
                          have fL3 : FRI _ _ _ (sI S1118 v0 4 x1195) := fri_sI gL2 fL3 o_v0 (by decide)
                          have fL1120 : FRI _ _ _ (sI S1118 v0 4 x1195) := fri_sI gL1119 fL1120 o_v0 (by decide)
                          have d_x1189 : x1189 = fI (sI S1118 v0 4 x1195) v0 7 := d_x1189.trans (rd_j (by decide)).symm
                          have d_x1192 : x1192 = fI (sI S1118 v0 4 x1195) v0 6 := d_x1192.trans (rd_j (by decide)).symm
                          have d_x1195 : x1195 = fI (sI S1118 v0 4 x1195) v0 4 := (u2_self _ _ _ _).symm
                          exact hq _ hI g0 f0 hT
                    · have hI := iv_sI (j := 6) (v := (6 : Int32)) hI o_v0 (by decide) (nu_free (by decide))
                      have f0 : FRI _ _ _ (sI S1118 v0 6 (6 : Int32)) := fri_sI g0 f0 o_v0 (by decide)
                      have fL3 : FRI _ _ _ (sI S1118 v0 6 (6 : Int32)) := fri_sI gL2 fL3 o_v0 (by decide)
                      have fL1120 : FRI _ _ _ (sI S1118 v0 6 (6 : Int32)) := fri_sI gL1119 fL1120 o_v0 (by decide)
                      have d_x1189 : x1189 = fI (sI S1118 v0 6 (6 : Int32)) v0 7 := d_x1189.trans (rd_j (by decide)).symm
                      have d_x1188 : x1188 = fI (sI S1118 v0 6 (6 : Int32)) v0 4 := d_x1188.trans (rd_j (by decide)).symm
                      obtain ⟨y1196, hy1196⟩ : ∃ z : Int32, z = (6 : Int32) := ⟨_, rfl⟩
                      have d_y1196 : y1196 = fI (sI S1118 v0 6 (6 : Int32)) v0 6 := hy1196.trans (u2_self _ _ _ _).symm
                      refine u_X4_next_240 ?_
                      refine ⟨fun c1197 => ?_, fun c1197 => ?_⟩
                      · exact hq _ hI g0 f0 hT
                      · refine ⟨o_v0, ?_⟩
                        intro x1198 ex1198
                        have q_x1198 : x1198 = y1196 := ex1198.trans d_y1196.symm
                        have d_x1198 := ex1198
                        refine ⟨fun c1199 => ?_, fun c1199 => ?_⟩
                        · exact hq _ hI g0 f0 hT
                        · intro x1200 ex1200
                          have q_x1200 : x1200 = x1188 := ex1200.trans d_x1188.symm
                          have d_x1200 := ex1200
                          intro x1201 ex1201
                          have hI := iv_sI (j := 4) (v := x1201) hI o_v0 (by decide) (nu_free (by decide))
                          have f0 : FRI _ _ _ (sI (sI S1118 v0 6 (6 : Int32)) v0 4 x1201) := fri_sI g0 f0 o_v0 (by decide)
                          have fL3 : FRI _ _ _ (sI (sI S1118 v0 6 (6 : Int32)) v0 4 x1201) := fri_sI gL2 fL3 o_v0 (by decide)
                          have fL1120 : FRI _ _ _ (sI (sI S1118 v0 6 (6 : Int32)) v0 4 x1201) := fri_sI gL1119 fL1120 o_v0 (by decide)
                          have d_x1189 : x1189 = fI (sI (sI S1118 v0 6 (6 : Int32)) v0 4 x1201) v0 7 := d_x1189.trans (rd_j (by decide)).symm
                          have d_x1198 : x1198 = fI (sI (sI S1118 v0 6 (6 : Int32)) v0 4 x1201) v0 6 := d_x1198.trans (rd_j (by decide)).symm
                          have d_x1201 : x1201 = fI (sI (sI S1118 v0 6 (6 : Int32)) v0 4 x1201) v0 4 := (u2_self _ _ _ _).symm
                          exact hq _ hI g0 f0 hT
                · refine ⟨fun c1202 => ?_, fun c1202 => ?_⟩
                  · refine u_X4_next_201 ?_
                    refine ⟨o_v0, ?_⟩
                    intro x1203 ex1203
                    have q_x1203 : x1203 = x1175 := ex1203.trans d_x1175.symm
                    have d_x1203 := ex1203
                    intro x1204 ex1204
                    have hI := iv_sI (j := 4) (v := x1204) hI o_v0 (by decide) (nu_free (by decide))
                    have f0 : FRI _ _ _ (sI S1118 v0 4 x1204) := fri_sI g0 f0 o_v0 (by decide)
                    have fL3 : FRI _ _ _ (sI S1118 v0 4 x1204) := fri_sI gL2 fL3 o_v0 (by decide)
                    have fL1120 : FRI _ _ _ (sI S1118 v0 4 x1204) := fri_sI gL1119 fL1120 o_v0 (by decide)
                    have d_x10 : x10 = fI (sI S1118 v0 4 x1204) v0 7 := d_x10.trans (rd_j (by decide)).symm
                    have d_x1180 : x1180 = fI (sI S1118 v0 4 x1204) v0 6 := d_x1180.trans (rd_j (by decide)).symm
                    have d_x1204 : x1204 = fI (sI S1118 v0 4 x1204) v0 4 := (u2_self _ _ _ _).symm
                    intro x1205 ex1205
                    exact ih1131 _ _ _ _ _ _ ⟨hI, gL1119, fL1120, rfl, rfl, rfl, rfl, hT, (q421 i1 c9 q_x11 p_x12 q_x16 c17 q_x456 c457 q_x896 c897 q_x1116 c1117 i1 p_k1 c1154 q_x1175 p_x1176 q_x1180 c1181 c1202 q_x1203 ex1204 ex1205), (by rw [← d_x1180, ← d_x1204]; exact (q422 i1 c9 q_x11 p_x12 q_x16 c17 q_x456 c457 q_x896 c897 q_x1116 c1117 i1 p_k1 c1154 q_x1175 p_x1176 q_x1180 c1181 c1202 q_x1203 ex1204 ex1205))⟩ (mu_up (q423 i1 c9 q_x11 p_x12 q_x16 c17 q_x456 c457 q_x896 c897 q_x1116 c1117 i1 p_k1 c1154 q_x1175 p_x1176 q_x1180 c1181 c1202 q_x1203 ex1204 ex1205) (q424 i1 c9 q_x11 p_x12 q_x16 c17 q_x456 c457 q_x896 c897 q_x1116 c1117 i1 p_k1 c1154 q_x1175 p_x1176 q_x1180 c1181 c1202 q_x1203 ex1204 ex1205))
                  · intro x1206 ex1206
                    have q_x1206 : x1206 = x1175 := ex1206.trans d_x1175.symm
                    have d_x1206 := ex1206
                    obtain ⟨a1207, ea1207, o_a1207, l_a1207⟩ := hT
                    refine ⟨a1207, ea1207, ?_⟩
                    refine ⟨o_a1207, ?_⟩
                    have n_a1207 : nI (hN S1118 a1207) = 900 := by rw [show hN S1118 a1207 = 900 from l_a1207]; decide
                    refine ⟨fun c1208 => ?_, fun c1208 => ?_⟩
                    · rw [n_a1207] at c1208
                      refine u_X4_next_201 ?_
                      refine ⟨o_v0, ?_⟩
                      intro x1209 ex1209
                      have q_x1209 : x1209 = x1206 := ex1209.trans d_x1206.symm
                      have d_x1209 := ex1209
                      intro x1210 ex1210
                      have hI := iv_sI (j := 4) (v := x1210) hI o_v0 (by decide) (nu_free (by decide))
                      have f0 : FRI _ _ _ (sI S1118 v0 4 x1210) := fri_sI g0 f0 o_v0 (by decide)
                      have fL3 : FRI _ _ _ (sI S1118 v0 4 x1210) := fri_sI gL2 fL3 o_v0 (by decide)
                      have fL1120 : FRI _ _ _ (sI S1118 v0 4 x1210) := fri_sI gL1119 fL1120 o_v0 (by decide)
                      have d_x10 : x10 = fI (sI S1118 v0 4 x1210) v0 7 := d_x10.trans (rd_j (by decide)).symm
                      have d_x1180 : x1180 = fI (sI S1118 v0 4 x1210) v0 6 := d_x1180.trans (rd_j (by decide)).symm
                      have d_x1210 : x1210 = fI (sI S1118 v0 4 x1210) v0 4 := (u2_self _ _ _ _).symm
                      intro x1211 ex1211
                      exact ih1131 _ _ _ _ _ _ ⟨hI, gL1119, fL1120, rfl, rfl, rfl, rfl, hT, (q425 i1 c9 q_x11 p_x12 q_x16 c17 q_x456 c457 q_x896 c897 q_x1116 c1117 i1 p_k1 c1154 q_x1175 p_x1176 q_x1180 c1181 c1202 q_x1206 c1208 q_x1209 ex1210 ex1211), (by rw [← d_x1180, ← d_x1210]; exact (q426 i1 c9 q_x11 p_x12 q_x16 c17 q_x456 c457 q_x896 c897 q_x1116 c1117 i1 p_k1 c1154 q_x1175 p_x1176 q_x1180 c1181 c1202 q_x1206 c1208 q_x1209 ex1210 ex1211))⟩ (mu_up (q427 i1 c9 q_x11 p_x12 q_x16 c17 q_x456 c457 q_x896 c897 q_x1116 c1117 i1 p_k1 c1154 q_x1175 p_x1176 q_x1180 c1181 c1202 q_x1206 c1208 q_x1209 ex1210 ex1211) (q428 i1 c9 q_x11 p_x12 q_x16 c17 q_x456 c457 q_x896 c897 q_x1116 c1117 i1 p_k1 c1154 q_x1175 p_x1176 q_x1180 c1181 c1202 q_x1206 c1208 q_x1209 ex1210 ex1211))
                    · rw [n_a1207] at c1208
                      intro x1212 ex1212
                      have dj_x1212 := ex1212
                      refine ⟨a1207, ea1207, ?_⟩
                      intro x1214 ex1214
                      have q_x1214 : x1214 = x1206 := ex1214.trans d_x1206.symm
                      have d_x1214 := ex1214
                      refine ⟨o_a1207, ?_⟩
                      refine ⟨(vin l_a1207 (m := 900) (by decide) (q429 i1 c9 q_x11 p_x12 q_x16 c17 q_x456 c457 q_x896 c897 q_x1116 c1117 i1 p_k1 c1154 q_x1175 p_x1176 q_x1180 c1181 c1202 q_x1206 c1208 q_x1214)), ?_⟩
                      intro x1215 ex1215
                      intro x1216 ex1216
                      have q_x1216 : x1216 = x1180 := ex1216.trans d_x1180.symm
                      have d_x1216 := ex1216
                      refine ⟨fun c1217 => ?_, fun c1217 => ?_⟩
                      · refine u_X4_next_195 ?_
                        refine ⟨o_v0, ?_⟩
                        intro x1218 ex1218
                        have hI := iv_sJ (j := 8) (v := x1218) hI o_v0 (by decide)
                        refine u_X4_next_201 ?_
                        refine ⟨o_v0, ?_⟩
                        intro x1219 ex1219
                        have q_x1219 : x1219 = x1214 := ex1219.trans d_x1214.symm
                        have d_x1219 := ex1219
                        intro x1220 ex1220
                        have hI := iv_sI (j := 4) (v := x1220) hI o_v0 (by decide) (nu_free (by decide))
                        have f0 : FRI _ _ _ (sI (sJ S1118 v0 8 x1218) v0 4 x1220) := fri_sI g0 f0 o_v0 (by decide)
                        have fL3 : FRI _ _ _ (sI (sJ S1118 v0 8 x1218) v0 4 x1220) := fri_sI gL2 fL3 o_v0 (by decide)
                        have fL1120 : FRI _ _ _ (sI (sJ S1118 v0 8 x1218) v0 4 x1220) := fri_sI gL1119 fL1120 o_v0 (by decide)
                        have d_x10 : x10 = fI (sI (sJ S1118 v0 8 x1218) v0 4 x1220) v0 7 := d_x10.trans (rd_j (by decide)).symm
                        have d_x1216 : x1216 = fI (sI (sJ S1118 v0 8 x1218) v0 4 x1220) v0 6 := d_x1216.trans (rd_j (by decide)).symm
                        have d_x1220 : x1220 = fI (sI (sJ S1118 v0 8 x1218) v0 4 x1220) v0 4 := (u2_self _ _ _ _).symm
                        intro x1221 ex1221
                        exact ih1131 _ _ _ _ _ _ ⟨hI, gL1119, fL1120, rfl, rfl, rfl, rfl, hT, (q430 i1 c9 q_x11 p_x12 q_x16 c17 q_x456 c457 q_x896 c897 q_x1116 c1117 i1 p_k1 c1154 q_x1175 p_x1176 q_x1180 c1181 c1202 q_x1206 c1208 q_x1214 q_x1216 c1217 q_x1219 ex1220 ex1221), (by rw [← d_x1216, ← d_x1220]; exact (q431 i1 c9 q_x11 p_x12 q_x16 c17 q_x456 c457 q_x896 c897 q_x1116 c1117 i1 p_k1 c1154 q_x1175 p_x1176 q_x1180 c1181 c1202 q_x1206 c1208 q_x1214 q_x1216 c1217 q_x1219 ex1220 ex1221))⟩ (mu_up (q432 i1 c9 q_x11 p_x12 q_x16 c17 q_x456 c457 q_x896 c897 q_x1116 c1117 i1 p_k1 c1154 q_x1175 p_x1176 q_x1180 c1181 c1202 q_x1206 c1208 q_x1214 q_x1216 c1217 q_x1219 ex1220 ex1221) (q433 i1 c9 q_x11 p_x12 q_x16 c17 q_x456 c457 q_x896 c897 q_x1116 c1117 i1 p_k1 c1154 q_x1175 p_x1176 q_x1180 c1181 c1202 q_x1206 c1208 q_x1214 q_x1216 c1217 q_x1219 ex1220 ex1221))
                      · refine u_X4_next_195 ?_
                        refine ⟨o_v0, ?_⟩
                        intro x1222 ex1222
                        have hI := iv_sJ (j := 8) (v := x1222) hI o_v0 (by decide)
                        refine u_X4_next_201 ?_
                        refine ⟨o_v0, ?_⟩
                        intro x1223 ex1223
                        have q_x1223 : x1223 = x1214 := ex1223.trans d_x1214.symm
                        have d_x1223 := ex1223
                        intro x1224 ex1224
                        have hI := iv_sI (j := 4) (v := x1224) hI o_v0 (by decide) (nu_free (by decide))
                        have f0 : FRI _ _ _ (sI (sJ S1118 v0 8 x1222) v0 4 x1224) := fri_sI g0 f0 o_v0 (by decide)
                        have fL3 : FRI _ _ _ (sI (sJ S1118 v0 8 x1222) v0 4 x1224) := fri_sI gL2 fL3 o_v0 (by decide)
                        have fL1120 : FRI _ _ _ (sI (sJ S1118 v0 8 x1222) v0 4 x1224) := fri_sI gL1119 fL1120 o_v0 (by decide)
                        have d_x10 : x10 = fI (sI (sJ S1118 v0 8 x1222) v0 4 x1224) v0 7 := d_x10.trans (rd_j (by decide)).symm
                        have d_x1216 : x1216 = fI (sI (sJ S1118 v0 8 x1222) v0 4 x1224) v0 6 := d_x1216.trans (rd_j (by decide)).symm
                        have d_x1224 : x1224 = fI (sI (sJ S1118 v0 8 x1222) v0 4 x1224) v0 4 := (u2_self _ _ _ _).symm
                        intro x1225 ex1225
                        exact ih1131 _ _ _ _ _ _ ⟨hI, gL1119, fL1120, rfl, rfl, rfl, rfl, hT, (q434 i1 c9 q_x11 p_x12 q_x16 c17 q_x456 c457 q_x896 c897 q_x1116 c1117 i1 p_k1 c1154 q_x1175 p_x1176 q_x1180 c1181 c1202 q_x1206 c1208 q_x1214 q_x1216 c1217 q_x1223 ex1224 ex1225), (by rw [← d_x1216, ← d_x1224]; exact (q435 i1 c9 q_x11 p_x12 q_x16 c17 q_x456 c457 q_x896 c897 q_x1116 c1117 i1 p_k1 c1154 q_x1175 p_x1176 q_x1180 c1181 c1202 q_x1206 c1208 q_x1214 q_x1216 c1217 q_x1223 ex1224 ex1225))⟩ (mu_up (q436 i1 c9 q_x11 p_x12 q_x16 c17 q_x456 c457 q_x896 c897 q_x1116 c1117 i1 p_k1 c1154 q_x1175 p_x1176 q_x1180 c1181 c1202 q_x1206 c1208 q_x1214 q_x1216 c1217 q_x1223 ex1224 ex1225) (q437 i1 c9 q_x11 p_x12 q_x16 c17 q_x456 c457 q_x896 c897 q_x1116 c1117 i1 p_k1 c1154 q_x1175 p_x1176 q_x1180 c1181 c1202 q_x1206 c1208 q_x1214 q_x1216 c1217 q_x1223 ex1224 ex1225))
          · refine u_X4_next_114 ?_
            refine i_X4_next_118 (fun (y0 : Nat) (y1 : Int32) (y2 : Int32) (y3 : Int32) (y4 : Int32) (Z : HS) => ((2147483647 : Int32).toInt - y4.toInt).toNat) (fun (y0 : Nat) (y1 : Int32) (y2 : Int32) (y3 : Int32) (y4 : Int32) (Z : HS) => (IV Z) ∧ (Gr (sJ (sI (sI S1 v0 7 x10) v0 6 x12) v0 8 (0 : Int64)) Z) ∧ (FRI [(4, 4)] [] (sJ (sI (sI S1 v0 7 x10) v0 6 x12) v0 8 (0 : Int64)) Z) ∧ (v0 = y0) ∧ ((1 : Int32) = y1) ∧ ((8 : Int32) = y2) ∧ ((32 : Int32) = y3) ∧ (TX Z v0) ∧ (0 ≤ y4) ∧ ((y1 = 0 ∨ fI Z v0 6 = 1 ∨ fI Z v0 6 = 2) ∧ (y1 = 0 → fI Z v0 6 = 0 ∨ (0 ≤ fI Z v0 4 ∧ fI Z v0 4 < 900)))) ?_ _ _ _ _ _ _ ⟨hI, (gr_rf _), (fri_rf _ _ _), rfl, rfl, rfl, rfl, hT, (q438 i1 c9 q_x11 p_x12 q_x16 c17 q_x456 c457 q_x896 c897 q_x1116 c1117), (by rw [← d_x1116, ← d_x11]; exact (q439 i1 c9 q_x11 p_x12 q_x16 c17 q_x456 c457 q_x896 c897 q_x1116 c1117))⟩
            intro w1229 w1231 w1233 w1235 w1237 S1226 X1238 ⟨hI, gL1227, fL1228, q1230, q1232, q1234, q1236, hT, i1, k1⟩ ih1239
            subst q1230
            subst q1232
            subst q1234
            subst q1236
            have d_x10 := d_x10.trans (fri_at fL1228 (by decide) (by decide) o_v0).symm
            have d_x1116 := d_x1116.trans (fri_at fL1228 (by decide) (by decide) o_v0).symm
            have f0 := fri_tr g0 f0 fL1228 (by decide) (by decide)
            have fL3 := fri_tr gL2 fL3 fL1228 (by decide) (by decide)
            have o_v0 := gr_ob gL1227 o_v0
            have g0 := gr_tr g0 gL1227
            have gL2 := gr_tr gL2 gL1227
            obtain ⟨y1240, d_y1240⟩ : ∃ z : Int32, z = fI S1226 v0 4 := ⟨_, rfl⟩
            have p_k1 : ((1 : Int32) = 0 ∨ x1116 = 1 ∨ x1116 = 2) ∧ ((1 : Int32) = 0 → x1116 = 0 ∨ (0 ≤ y1240 ∧ y1240 < 900)) := by rw [d_x1116, d_y1240]; exact k1
            refine u_X4_next_118 ?_
            refine ⟨fun c1241 => ?_, fun c1241 => ?_⟩
            · refine u_X4_next_217 ?_
              refine ⟨fun c1242 => ?_, fun c1242 => ?_⟩
              · refine u_X4_next_240 ?_
                refine ⟨fun c1243 => ?_, fun c1243 => ?_⟩
                · exact hq _ hI g0 f0 hT
                · refine ⟨o_v0, ?_⟩
                  intro x1244 ex1244
                  have q_x1244 : x1244 = x1116 := ex1244.trans d_x1116.symm
                  have d_x1244 := ex1244
                  refine ⟨fun c1245 => ?_, fun c1245 => ?_⟩
                  · exact hq _ hI g0 f0 hT
                  · intro x1246 ex1246
                    have q_x1246 : x1246 = y1240 := ex1246.trans d_y1240.symm
                    have d_x1246 := ex1246
                    intro x1247 ex1247
                    have hI := iv_sI (j := 4) (v := x1247) hI o_v0 (by decide) (nu_free (by decide))
                    have f0 : FRI _ _ _ (sI S1226 v0 4 x1247) := fri_sI g0 f0 o_v0 (by decide)
                    have fL3 : FRI _ _ _ (sI S1226 v0 4 x1247) := fri_sI gL2 fL3 o_v0 (by decide)
                    have fL1228 : FRI _ _ _ (sI S1226 v0 4 x1247) := fri_sI gL1227 fL1228 o_v0 (by decide)
                    have d_x10 : x10 = fI (sI S1226 v0 4 x1247) v0 7 := d_x10.trans (rd_j (by decide)).symm
                    have d_x1244 : x1244 = fI (sI S1226 v0 4 x1247) v0 6 := d_x1244.trans (rd_j (by decide)).symm
                    have d_x1247 : x1247 = fI (sI S1226 v0 4 x1247) v0 4 := (u2_self _ _ _ _).symm
                    exact hq _ hI g0 f0 hT
              · refine ⟨o_v0, ?_⟩
                intro x1248 ex1248
                have q_x1248 : x1248 = y1240 := ex1248.trans d_y1240.symm
                have d_x1248 := ex1248
                intro x1249 ex1249
                have q_x1249 : x1249 = x10 := ex1249.trans d_x10.symm
                have d_x1249 := ex1249
                refine ⟨fun c1250 => ?_, fun c1250 => ?_⟩
                · refine u_X4_next_240 ?_
                  refine ⟨fun c1251 => ?_, fun c1251 => ?_⟩
                  · exact hq _ hI g0 f0 hT
                  · refine ⟨o_v0, ?_⟩
                    intro x1252 ex1252
                    have q_x1252 : x1252 = x1116 := ex1252.trans d_x1116.symm
                    have d_x1252 := ex1252
                    refine ⟨fun c1253 => ?_, fun c1253 => ?_⟩
                    · exact hq _ hI g0 f0 hT
                    · intro x1254 ex1254
                      have q_x1254 : x1254 = x1248 := ex1254.trans d_x1248.symm
                      have d_x1254 := ex1254
                      intro x1255 ex1255
                      have hI := iv_sI (j := 4) (v := x1255) hI o_v0 (by decide) (nu_free (by decide))
                      have f0 : FRI _ _ _ (sI S1226 v0 4 x1255) := fri_sI g0 f0 o_v0 (by decide)
                      have fL3 : FRI _ _ _ (sI S1226 v0 4 x1255) := fri_sI gL2 fL3 o_v0 (by decide)
                      have fL1228 : FRI _ _ _ (sI S1226 v0 4 x1255) := fri_sI gL1227 fL1228 o_v0 (by decide)
                      have d_x1249 : x1249 = fI (sI S1226 v0 4 x1255) v0 7 := d_x1249.trans (rd_j (by decide)).symm
                      have d_x1252 : x1252 = fI (sI S1226 v0 4 x1255) v0 6 := d_x1252.trans (rd_j (by decide)).symm
                      have d_x1255 : x1255 = fI (sI S1226 v0 4 x1255) v0 4 := (u2_self _ _ _ _).symm
                      exact hq _ hI g0 f0 hT
                · have hI := iv_sI (j := 6) (v := (6 : Int32)) hI o_v0 (by decide) (nu_free (by decide))
                  have f0 : FRI _ _ _ (sI S1226 v0 6 (6 : Int32)) := fri_sI g0 f0 o_v0 (by decide)
                  have fL3 : FRI _ _ _ (sI S1226 v0 6 (6 : Int32)) := fri_sI gL2 fL3 o_v0 (by decide)
                  have fL1228 : FRI _ _ _ (sI S1226 v0 6 (6 : Int32)) := fri_sI gL1227 fL1228 o_v0 (by decide)
                  have d_x1249 : x1249 = fI (sI S1226 v0 6 (6 : Int32)) v0 7 := d_x1249.trans (rd_j (by decide)).symm
                  have d_x1248 : x1248 = fI (sI S1226 v0 6 (6 : Int32)) v0 4 := d_x1248.trans (rd_j (by decide)).symm
                  obtain ⟨y1256, hy1256⟩ : ∃ z : Int32, z = (6 : Int32) := ⟨_, rfl⟩
                  have d_y1256 : y1256 = fI (sI S1226 v0 6 (6 : Int32)) v0 6 := hy1256.trans (u2_self _ _ _ _).symm
                  refine u_X4_next_240 ?_
                  refine ⟨fun c1257 => ?_, fun c1257 => ?_⟩
                  · exact hq _ hI g0 f0 hT
                  · refine ⟨o_v0, ?_⟩
                    intro x1258 ex1258
                    have q_x1258 : x1258 = y1256 := ex1258.trans d_y1256.symm
                    have d_x1258 := ex1258
                    refine ⟨fun c1259 => ?_, fun c1259 => ?_⟩
                    · exact hq _ hI g0 f0 hT
                    · intro x1260 ex1260
                      have q_x1260 : x1260 = x1248 := ex1260.trans d_x1248.symm
                      have d_x1260 := ex1260
                      intro x1261 ex1261
                      have hI := iv_sI (j := 4) (v := x1261) hI o_v0 (by decide) (nu_free (by decide))
                      have f0 : FRI _ _ _ (sI (sI S1226 v0 6 (6 : Int32)) v0 4 x1261) := fri_sI g0 f0 o_v0 (by decide)
                      have fL3 : FRI _ _ _ (sI (sI S1226 v0 6 (6 : Int32)) v0 4 x1261) := fri_sI gL2 fL3 o_v0 (by decide)
                      have fL1228 : FRI _ _ _ (sI (sI S1226 v0 6 (6 : Int32)) v0 4 x1261) := fri_sI gL1227 fL1228 o_v0 (by decide)
                      have d_x1249 : x1249 = fI (sI (sI S1226 v0 6 (6 : Int32)) v0 4 x1261) v0 7 := d_x1249.trans (rd_j (by decide)).symm
                      have d_x1258 : x1258 = fI (sI (sI S1226 v0 6 (6 : Int32)) v0 4 x1261) v0 6 := d_x1258.trans (rd_j (by decide)).symm
                      have d_x1261 : x1261 = fI (sI (sI S1226 v0 6 (6 : Int32)) v0 4 x1261) v0 4 := (u2_self _ _ _ _).symm
                      exact hq _ hI g0 f0 hT
            · refine ⟨fun c1262 => ?_, fun c1262 => ?_⟩
              · refine u_X4_next_217 ?_
                refine ⟨fun c1263 => ?_, fun c1263 => ?_⟩
                · refine u_X4_next_240 ?_
                  refine ⟨fun c1264 => ?_, fun c1264 => ?_⟩
                  · exact hq _ hI g0 f0 hT
                  · refine ⟨o_v0, ?_⟩
                    intro x1265 ex1265
                    have q_x1265 : x1265 = x1116 := ex1265.trans d_x1116.symm
                    have d_x1265 := ex1265
                    refine ⟨fun c1266 => ?_, fun c1266 => ?_⟩
                    · exact hq _ hI g0 f0 hT
                    · intro x1267 ex1267
                      have q_x1267 : x1267 = y1240 := ex1267.trans d_y1240.symm
                      have d_x1267 := ex1267
                      intro x1268 ex1268
                      have hI := iv_sI (j := 4) (v := x1268) hI o_v0 (by decide) (nu_free (by decide))
                      have f0 : FRI _ _ _ (sI S1226 v0 4 x1268) := fri_sI g0 f0 o_v0 (by decide)
                      have fL3 : FRI _ _ _ (sI S1226 v0 4 x1268) := fri_sI gL2 fL3 o_v0 (by decide)
                      have fL1228 : FRI _ _ _ (sI S1226 v0 4 x1268) := fri_sI gL1227 fL1228 o_v0 (by decide)
                      have d_x10 : x10 = fI (sI S1226 v0 4 x1268) v0 7 := d_x10.trans (rd_j (by decide)).symm
                      have d_x1265 : x1265 = fI (sI S1226 v0 4 x1268) v0 6 := d_x1265.trans (rd_j (by decide)).symm
                      have d_x1268 : x1268 = fI (sI S1226 v0 4 x1268) v0 4 := (u2_self _ _ _ _).symm
                      exact hq _ hI g0 f0 hT
                · refine ⟨o_v0, ?_⟩
                  intro x1269 ex1269
                  have q_x1269 : x1269 = y1240 := ex1269.trans d_y1240.symm
                  have d_x1269 := ex1269
                  intro x1270 ex1270
                  have q_x1270 : x1270 = x10 := ex1270.trans d_x10.symm
                  have d_x1270 := ex1270
                  refine ⟨fun c1271 => ?_, fun c1271 => ?_⟩
                  · refine u_X4_next_240 ?_
                    refine ⟨fun c1272 => ?_, fun c1272 => ?_⟩
                    · exact hq _ hI g0 f0 hT
                    · refine ⟨o_v0, ?_⟩
                      intro x1273 ex1273
                      have q_x1273 : x1273 = x1116 := ex1273.trans d_x1116.symm
                      have d_x1273 := ex1273
                      refine ⟨fun c1274 => ?_, fun c1274 => ?_⟩
                      · exact hq _ hI g0 f0 hT
                      · intro x1275 ex1275
                        have q_x1275 : x1275 = x1269 := ex1275.trans d_x1269.symm
                        have d_x1275 := ex1275
                        intro x1276 ex1276
                        have hI := iv_sI (j := 4) (v := x1276) hI o_v0 (by decide) (nu_free (by decide))
                        have f0 : FRI _ _ _ (sI S1226 v0 4 x1276) := fri_sI g0 f0 o_v0 (by decide)
                        have fL3 : FRI _ _ _ (sI S1226 v0 4 x1276) := fri_sI gL2 fL3 o_v0 (by decide)
                        have fL1228 : FRI _ _ _ (sI S1226 v0 4 x1276) := fri_sI gL1227 fL1228 o_v0 (by decide)
                        have d_x1270 : x1270 = fI (sI S1226 v0 4 x1276) v0 7 := d_x1270.trans (rd_j (by decide)).symm
                        have d_x1273 : x1273 = fI (sI S1226 v0 4 x1276) v0 6 := d_x1273.trans (rd_j (by decide)).symm
                        have d_x1276 : x1276 = fI (sI S1226 v0 4 x1276) v0 4 := (u2_self _ _ _ _).symm
                        exact hq _ hI g0 f0 hT
                  · have hI := iv_sI (j := 6) (v := (6 : Int32)) hI o_v0 (by decide) (nu_free (by decide))
                    have f0 : FRI _ _ _ (sI S1226 v0 6 (6 : Int32)) := fri_sI g0 f0 o_v0 (by decide)
                    have fL3 : FRI _ _ _ (sI S1226 v0 6 (6 : Int32)) := fri_sI gL2 fL3 o_v0 (by decide)
                    have fL1228 : FRI _ _ _ (sI S1226 v0 6 (6 : Int32)) := fri_sI gL1227 fL1228 o_v0 (by decide)
                    have d_x1270 : x1270 = fI (sI S1226 v0 6 (6 : Int32)) v0 7 := d_x1270.trans (rd_j (by decide)).symm
                    have d_x1269 : x1269 = fI (sI S1226 v0 6 (6 : Int32)) v0 4 := d_x1269.trans (rd_j (by decide)).symm
                    obtain ⟨y1277, hy1277⟩ : ∃ z : Int32, z = (6 : Int32) := ⟨_, rfl⟩
                    have d_y1277 : y1277 = fI (sI S1226 v0 6 (6 : Int32)) v0 6 := hy1277.trans (u2_self _ _ _ _).symm
                    refine u_X4_next_240 ?_
                    refine ⟨fun c1278 => ?_, fun c1278 => ?_⟩
                    · exact hq _ hI g0 f0 hT
                    · refine ⟨o_v0, ?_⟩
                      intro x1279 ex1279
                      have q_x1279 : x1279 = y1277 := ex1279.trans d_y1277.symm
                      have d_x1279 := ex1279
                      refine ⟨fun c1280 => ?_, fun c1280 => ?_⟩
                      · exact hq _ hI g0 f0 hT
                      · intro x1281 ex1281
                        have q_x1281 : x1281 = x1269 := ex1281.trans d_x1269.symm
                        have d_x1281 := ex1281
                        intro x1282 ex1282
                        have hI := iv_sI (j := 4) (v := x1282) hI o_v0 (by decide) (nu_free (by decide))
                        have f0 : FRI _ _ _ (sI (sI S1226 v0 6 (6 : Int32)) v0 4 x1282) := fri_sI g0 f0 o_v0 (by decide)
                        have fL3 : FRI _ _ _ (sI (sI S1226 v0 6 (6 : Int32)) v0 4 x1282) := fri_sI gL2 fL3 o_v0 (by decide)
                        have fL1228 : FRI _ _ _ (sI (sI S1226 v0 6 (6 : Int32)) v0 4 x1282) := fri_sI gL1227 fL1228 o_v0 (by decide)
                        have d_x1270 : x1270 = fI (sI (sI S1226 v0 6 (6 : Int32)) v0 4 x1282) v0 7 := d_x1270.trans (rd_j (by decide)).symm
                        have d_x1279 : x1279 = fI (sI (sI S1226 v0 6 (6 : Int32)) v0 4 x1282) v0 6 := d_x1279.trans (rd_j (by decide)).symm
                        have d_x1282 : x1282 = fI (sI (sI S1226 v0 6 (6 : Int32)) v0 4 x1282) v0 4 := (u2_self _ _ _ _).symm
                        exact hq _ hI g0 f0 hT
              · refine ⟨o_v0, ?_⟩
                intro x1283 ex1283
                have q_x1283 : x1283 = y1240 := ex1283.trans d_y1240.symm
                have d_x1283 := ex1283
                refine m_X4_sortAt hI o_v0 hT (fun x1284 S1285 hI2 g1286 p_x1284 => ?_)
                obtain ⟨z_S1285, p_x1284⟩ := p_x1284
                subst z_S1285
                intro _
                intro x1288 ex1288
                have q_x1288 : x1288 = x1116 := ex1288.trans d_x1116.symm
                have d_x1288 := ex1288
                refine ⟨fun c1289 => ?_, fun c1289 => ?_⟩
                · refine u_X4_next_217 ?_
                  refine ⟨fun c1290 => ?_, fun c1290 => ?_⟩
                  · refine u_X4_next_240 ?_
                    refine ⟨fun c1291 => ?_, fun c1291 => ?_⟩
                    · exact hq _ hI g0 f0 hT
                    · refine ⟨o_v0, ?_⟩
                      intro x1292 ex1292
                      have q_x1292 : x1292 = x1288 := ex1292.trans d_x1288.symm
                      have d_x1292 := ex1292
                      refine ⟨fun c1293 => ?_, fun c1293 => ?_⟩
                      · exact hq _ hI g0 f0 hT
                      · intro x1294 ex1294
                        have q_x1294 : x1294 = x1283 := ex1294.trans d_x1283.symm
                        have d_x1294 := ex1294
                        intro x1295 ex1295
                        have hI := iv_sI (j := 4) (v := x1295) hI o_v0 (by decide) (nu_free (by decide))
                        have f0 : FRI _ _ _ (sI S1226 v0 4 x1295) := fri_sI g0 f0 o_v0 (by decide)
                        have fL3 : FRI _ _ _ (sI S1226 v0 4 x1295) := fri_sI gL2 fL3 o_v0 (by decide)
                        have fL1228 : FRI _ _ _ (sI S1226 v0 4 x1295) := fri_sI gL1227 fL1228 o_v0 (by decide)
                        have d_x10 : x10 = fI (sI S1226 v0 4 x1295) v0 7 := d_x10.trans (rd_j (by decide)).symm
                        have d_x1292 : x1292 = fI (sI S1226 v0 4 x1295) v0 6 := d_x1292.trans (rd_j (by decide)).symm
                        have d_x1295 : x1295 = fI (sI S1226 v0 4 x1295) v0 4 := (u2_self _ _ _ _).symm
                        exact hq _ hI g0 f0 hT
                  · refine ⟨o_v0, ?_⟩
                    intro x1296 ex1296
                    have q_x1296 : x1296 = x1283 := ex1296.trans d_x1283.symm
                    have d_x1296 := ex1296
                    intro x1297 ex1297
                    have q_x1297 : x1297 = x10 := ex1297.trans d_x10.symm
                    have d_x1297 := ex1297
                    refine ⟨fun c1298 => ?_, fun c1298 => ?_⟩
                    · refine u_X4_next_240 ?_
                      refine ⟨fun c1299 => ?_, fun c1299 => ?_⟩
                      · exact hq _ hI g0 f0 hT
                      · refine ⟨o_v0, ?_⟩
                        intro x1300 ex1300
                        have q_x1300 : x1300 = x1288 := ex1300.trans d_x1288.symm
                        have d_x1300 := ex1300
                        refine ⟨fun c1301 => ?_, fun c1301 => ?_⟩
                        · exact hq _ hI g0 f0 hT
                        · intro x1302 ex1302
                          have q_x1302 : x1302 = x1296 := ex1302.trans d_x1296.symm
                          have d_x1302 := ex1302
                          intro x1303 ex1303
                          have hI := iv_sI (j := 4) (v := x1303) hI o_v0 (by decide) (nu_free (by decide))
                          have f0 : FRI _ _ _ (sI S1226 v0 4 x1303) := fri_sI g0 f0 o_v0 (by decide)
                          have fL3 : FRI _ _ _ (sI S1226 v0 4 x1303) := fri_sI gL2 fL3 o_v0 (by decide)
                          have fL1228 : FRI _ _ _ (sI S1226 v0 4 x1303) := fri_sI gL1227 fL1228 o_v0 (by decide)
                          have d_x1297 : x1297 = fI (sI S1226 v0 4 x1303) v0 7 := d_x1297.trans (rd_j (by decide)).symm
                          have d_x1300 : x1300 = fI (sI S1226 v0 4 x1303) v0 6 := d_x1300.trans (rd_j (by decide)).symm
                          have d_x1303 : x1303 = fI (sI S1226 v0 4 x1303) v0 4 := (u2_self _ _ _ _).symm
                          exact hq _ hI g0 f0 hT
                    · have hI := iv_sI (j := 6) (v := (6 : Int32)) hI o_v0 (by decide) (nu_free (by decide))
                      have f0 : FRI _ _ _ (sI S1226 v0 6 (6 : Int32)) := fri_sI g0 f0 o_v0 (by decide)
                      have fL3 : FRI _ _ _ (sI S1226 v0 6 (6 : Int32)) := fri_sI gL2 fL3 o_v0 (by decide)
                      have fL1228 : FRI _ _ _ (sI S1226 v0 6 (6 : Int32)) := fri_sI gL1227 fL1228 o_v0 (by decide)
                      have d_x1297 : x1297 = fI (sI S1226 v0 6 (6 : Int32)) v0 7 := d_x1297.trans (rd_j (by decide)).symm
                      have d_x1296 : x1296 = fI (sI S1226 v0 6 (6 : Int32)) v0 4 := d_x1296.trans (rd_j (by decide)).symm
                      obtain ⟨y1304, hy1304⟩ : ∃ z : Int32, z = (6 : Int32) := ⟨_, rfl⟩
                      have d_y1304 : y1304 = fI (sI S1226 v0 6 (6 : Int32)) v0 6 := hy1304.trans (u2_self _ _ _ _).symm
                      refine u_X4_next_240 ?_
                      refine ⟨fun c1305 => ?_, fun c1305 => ?_⟩
                      · exact hq _ hI g0 f0 hT
                      · refine ⟨o_v0, ?_⟩
                        intro x1306 ex1306
                        have q_x1306 : x1306 = y1304 := ex1306.trans d_y1304.symm
                        have d_x1306 := ex1306
                        refine ⟨fun c1307 => ?_, fun c1307 => ?_⟩
                        · exact hq _ hI g0 f0 hT
                        · intro x1308 ex1308
                          have q_x1308 : x1308 = x1296 := ex1308.trans d_x1296.symm
                          have d_x1308 := ex1308
                          intro x1309 ex1309
                          have hI := iv_sI (j := 4) (v := x1309) hI o_v0 (by decide) (nu_free (by decide))
                          have f0 : FRI _ _ _ (sI (sI S1226 v0 6 (6 : Int32)) v0 4 x1309) := fri_sI g0 f0 o_v0 (by decide)
                          have fL3 : FRI _ _ _ (sI (sI S1226 v0 6 (6 : Int32)) v0 4 x1309) := fri_sI gL2 fL3 o_v0 (by decide)
                          have fL1228 : FRI _ _ _ (sI (sI S1226 v0 6 (6 : Int32)) v0 4 x1309) := fri_sI gL1227 fL1228 o_v0 (by decide)
                          have d_x1297 : x1297 = fI (sI (sI S1226 v0 6 (6 : Int32)) v0 4 x1309) v0 7 := d_x1297.trans (rd_j (by decide)).symm
                          have d_x1306 : x1306 = fI (sI (sI S1226 v0 6 (6 : Int32)) v0 4 x1309) v0 6 := d_x1306.trans (rd_j (by decide)).symm
                          have d_x1309 : x1309 = fI (sI (sI S1226 v0 6 (6 : Int32)) v0 4 x1309) v0 4 := (u2_self _ _ _ _).symm
                          exact hq _ hI g0 f0 hT
                · refine ⟨fun c1310 => ?_, fun c1310 => ?_⟩
                  · refine u_X4_next_201 ?_
                    refine ⟨o_v0, ?_⟩
                    intro x1311 ex1311
                    have q_x1311 : x1311 = x1283 := ex1311.trans d_x1283.symm
                    have d_x1311 := ex1311
                    intro x1312 ex1312
                    have hI := iv_sI (j := 4) (v := x1312) hI o_v0 (by decide) (nu_free (by decide))
                    have f0 : FRI _ _ _ (sI S1226 v0 4 x1312) := fri_sI g0 f0 o_v0 (by decide)
                    have fL3 : FRI _ _ _ (sI S1226 v0 4 x1312) := fri_sI gL2 fL3 o_v0 (by decide)
                    have fL1228 : FRI _ _ _ (sI S1226 v0 4 x1312) := fri_sI gL1227 fL1228 o_v0 (by decide)
                    have d_x10 : x10 = fI (sI S1226 v0 4 x1312) v0 7 := d_x10.trans (rd_j (by decide)).symm
                    have d_x1288 : x1288 = fI (sI S1226 v0 4 x1312) v0 6 := d_x1288.trans (rd_j (by decide)).symm
                    have d_x1312 : x1312 = fI (sI S1226 v0 4 x1312) v0 4 := (u2_self _ _ _ _).symm
                    intro x1313 ex1313
                    exact ih1239 _ _ _ _ _ _ ⟨hI, gL1227, fL1228, rfl, rfl, rfl, rfl, hT, (q440 i1 c9 q_x11 p_x12 q_x16 c17 q_x456 c457 q_x896 c897 q_x1116 c1117 i1 p_k1 c1262 q_x1283 p_x1284 q_x1288 c1289 c1310 q_x1311 ex1312 ex1313), (by rw [← d_x1288, ← d_x1312]; exact (q441 i1 c9 q_x11 p_x12 q_x16 c17 q_x456 c457 q_x896 c897 q_x1116 c1117 i1 p_k1 c1262 q_x1283 p_x1284 q_x1288 c1289 c1310 q_x1311 ex1312 ex1313))⟩ (mu_up (q442 i1 c9 q_x11 p_x12 q_x16 c17 q_x456 c457 q_x896 c897 q_x1116 c1117 i1 p_k1 c1262 q_x1283 p_x1284 q_x1288 c1289 c1310 q_x1311 ex1312 ex1313) (q443 i1 c9 q_x11 p_x12 q_x16 c17 q_x456 c457 q_x896 c897 q_x1116 c1117 i1 p_k1 c1262 q_x1283 p_x1284 q_x1288 c1289 c1310 q_x1311 ex1312 ex1313))
                  · intro x1314 ex1314
                    have q_x1314 : x1314 = x1283 := ex1314.trans d_x1283.symm
                    have d_x1314 := ex1314
                    obtain ⟨a1315, ea1315, o_a1315, l_a1315⟩ := hT
                    refine ⟨a1315, ea1315, ?_⟩
                    refine ⟨o_a1315, ?_⟩
                    have n_a1315 : nI (hN S1226 a1315) = 900 := by rw [show hN S1226 a1315 = 900 from l_a1315]; decide
                    refine ⟨fun c1316 => ?_, fun c1316 => ?_⟩
                    · rw [n_a1315] at c1316
                      refine u_X4_next_201 ?_
                      refine ⟨o_v0, ?_⟩
                      intro x1317 ex1317
                      have q_x1317 : x1317 = x1314 := ex1317.trans d_x1314.symm
                      have d_x1317 := ex1317
                      intro x1318 ex1318
                      have hI := iv_sI (j := 4) (v := x1318) hI o_v0 (by decide) (nu_free (by decide))
                      have f0 : FRI _ _ _ (sI S1226 v0 4 x1318) := fri_sI g0 f0 o_v0 (by decide)
                      have fL3 : FRI _ _ _ (sI S1226 v0 4 x1318) := fri_sI gL2 fL3 o_v0 (by decide)
                      have fL1228 : FRI _ _ _ (sI S1226 v0 4 x1318) := fri_sI gL1227 fL1228 o_v0 (by decide)
                      have d_x10 : x10 = fI (sI S1226 v0 4 x1318) v0 7 := d_x10.trans (rd_j (by decide)).symm
                      have d_x1288 : x1288 = fI (sI S1226 v0 4 x1318) v0 6 := d_x1288.trans (rd_j (by decide)).symm
                      have d_x1318 : x1318 = fI (sI S1226 v0 4 x1318) v0 4 := (u2_self _ _ _ _).symm
                      intro x1319 ex1319
                      exact ih1239 _ _ _ _ _ _ ⟨hI, gL1227, fL1228, rfl, rfl, rfl, rfl, hT, (q444 i1 c9 q_x11 p_x12 q_x16 c17 q_x456 c457 q_x896 c897 q_x1116 c1117 i1 p_k1 c1262 q_x1283 p_x1284 q_x1288 c1289 c1310 q_x1314 c1316 q_x1317 ex1318 ex1319), (by rw [← d_x1288, ← d_x1318]; exact (q445 i1 c9 q_x11 p_x12 q_x16 c17 q_x456 c457 q_x896 c897 q_x1116 c1117 i1 p_k1 c1262 q_x1283 p_x1284 q_x1288 c1289 c1310 q_x1314 c1316 q_x1317 ex1318 ex1319))⟩ (mu_up (q446 i1 c9 q_x11 p_x12 q_x16 c17 q_x456 c457 q_x896 c897 q_x1116 c1117 i1 p_k1 c1262 q_x1283 p_x1284 q_x1288 c1289 c1310 q_x1314 c1316 q_x1317 ex1318 ex1319) (q447 i1 c9 q_x11 p_x12 q_x16 c17 q_x456 c457 q_x896 c897 q_x1116 c1117 i1 p_k1 c1262 q_x1283 p_x1284 q_x1288 c1289 c1310 q_x1314 c1316 q_x1317 ex1318 ex1319))
                    · rw [n_a1315] at c1316
                      intro x1320 ex1320
                      have dj_x1320 := ex1320
                      refine ⟨a1315, ea1315, ?_⟩
                      intro x1322 ex1322
                      have q_x1322 : x1322 = x1314 := ex1322.trans d_x1314.symm
                      have d_x1322 := ex1322
                      refine ⟨o_a1315, ?_⟩
                      refine ⟨(vin l_a1315 (m := 900) (by decide) (q448 i1 c9 q_x11 p_x12 q_x16 c17 q_x456 c457 q_x896 c897 q_x1116 c1117 i1 p_k1 c1262 q_x1283 p_x1284 q_x1288 c1289 c1310 q_x1314 c1316 q_x1322)), ?_⟩
                      intro x1323 ex1323
                      intro x1324 ex1324
                      have q_x1324 : x1324 = x1288 := ex1324.trans d_x1288.symm
                      have d_x1324 := ex1324
                      refine ⟨fun c1325 => ?_, fun c1325 => ?_⟩
                      · refine u_X4_next_195 ?_
                        refine ⟨o_v0, ?_⟩
                        intro x1326 ex1326
                        have hI := iv_sJ (j := 8) (v := x1326) hI o_v0 (by decide)
                        refine u_X4_next_201 ?_
                        refine ⟨o_v0, ?_⟩
                        intro x1327 ex1327
                        have q_x1327 : x1327 = x1322 := ex1327.trans d_x1322.symm
                        have d_x1327 := ex1327
                        intro x1328 ex1328
                        have hI := iv_sI (j := 4) (v := x1328) hI o_v0 (by decide) (nu_free (by decide))
                        have f0 : FRI _ _ _ (sI (sJ S1226 v0 8 x1326) v0 4 x1328) := fri_sI g0 f0 o_v0 (by decide)
                        have fL3 : FRI _ _ _ (sI (sJ S1226 v0 8 x1326) v0 4 x1328) := fri_sI gL2 fL3 o_v0 (by decide)
                        have fL1228 : FRI _ _ _ (sI (sJ S1226 v0 8 x1326) v0 4 x1328) := fri_sI gL1227 fL1228 o_v0 (by decide)
                        have d_x10 : x10 = fI (sI (sJ S1226 v0 8 x1326) v0 4 x1328) v0 7 := d_x10.trans (rd_j (by decide)).symm
                        have d_x1324 : x1324 = fI (sI (sJ S1226 v0 8 x1326) v0 4 x1328) v0 6 := d_x1324.trans (rd_j (by decide)).symm
                        have d_x1328 : x1328 = fI (sI (sJ S1226 v0 8 x1326) v0 4 x1328) v0 4 := (u2_self _ _ _ _).symm
                        intro x1329 ex1329
                        exact ih1239 _ _ _ _ _ _ ⟨hI, gL1227, fL1228, rfl, rfl, rfl, rfl, hT, (q449 i1 c9 q_x11 p_x12 q_x16 c17 q_x456 c457 q_x896 c897 q_x1116 c1117 i1 p_k1 c1262 q_x1283 p_x1284 q_x1288 c1289 c1310 q_x1314 c1316 q_x1322 q_x1324 c1325 q_x1327 ex1328 ex1329), (by rw [← d_x1324, ← d_x1328]; exact (q450 i1 c9 q_x11 p_x12 q_x16 c17 q_x456 c457 q_x896 c897 q_x1116 c1117 i1 p_k1 c1262 q_x1283 p_x1284 q_x1288 c1289 c1310 q_x1314 c1316 q_x1322 q_x1324 c1325 q_x1327 ex1328 ex1329))⟩ (mu_up (q451 i1 c9 q_x11 p_x12 q_x16 c17 q_x456 c457 q_x896 c897 q_x1116 c1117 i1 p_k1 c1262 q_x1283 p_x1284 q_x1288 c1289 c1310 q_x1314 c1316 q_x1322 q_x1324 c1325 q_x1327 ex1328 ex1329) (q452 i1 c9 q_x11 p_x12 q_x16 c17 q_x456 c457 q_x896 c897 q_x1116 c1117 i1 p_k1 c1262 q_x1283 p_x1284 q_x1288 c1289 c1310 q_x1314 c1316 q_x1322 q_x1324 c1325 q_x1327 ex1328 ex1329))
                      · refine u_X4_next_195 ?_
                        refine ⟨o_v0, ?_⟩
                        intro x1330 ex1330
                        have hI := iv_sJ (j := 8) (v := x1330) hI o_v0 (by decide)
                        refine u_X4_next_201 ?_
                        refine ⟨o_v0, ?_⟩
                        intro x1331 ex1331
                        have q_x1331 : x1331 = x1322 := ex1331.trans d_x1322.symm
                        have d_x1331 := ex1331
                        intro x1332 ex1332
                        have hI := iv_sI (j := 4) (v := x1332) hI o_v0 (by decide) (nu_free (by decide))
                        have f0 : FRI _ _ _ (sI (sJ S1226 v0 8 x1330) v0 4 x1332) := fri_sI g0 f0 o_v0 (by decide)
                        have fL3 : FRI _ _ _ (sI (sJ S1226 v0 8 x1330) v0 4 x1332) := fri_sI gL2 fL3 o_v0 (by decide)
                        have fL1228 : FRI _ _ _ (sI (sJ S1226 v0 8 x1330) v0 4 x1332) := fri_sI gL1227 fL1228 o_v0 (by decide)
                        have d_x10 : x10 = fI (sI (sJ S1226 v0 8 x1330) v0 4 x1332) v0 7 := d_x10.trans (rd_j (by decide)).symm
                        have d_x1324 : x1324 = fI (sI (sJ S1226 v0 8 x1330) v0 4 x1332) v0 6 := d_x1324.trans (rd_j (by decide)).symm
                        have d_x1332 : x1332 = fI (sI (sJ S1226 v0 8 x1330) v0 4 x1332) v0 4 := (u2_self _ _ _ _).symm
                        intro x1333 ex1333
                        exact ih1239 _ _ _ _ _ _ ⟨hI, gL1227, fL1228, rfl, rfl, rfl, rfl, hT, (q453 i1 c9 q_x11 p_x12 q_x16 c17 q_x456 c457 q_x896 c897 q_x1116 c1117 i1 p_k1 c1262 q_x1283 p_x1284 q_x1288 c1289 c1310 q_x1314 c1316 q_x1322 q_x1324 c1325 q_x1331 ex1332 ex1333), (by rw [← d_x1324, ← d_x1332]; exact (q454 i1 c9 q_x11 p_x12 q_x16 c17 q_x456 c457 q_x896 c897 q_x1116 c1117 i1 p_k1 c1262 q_x1283 p_x1284 q_x1288 c1289 c1310 q_x1314 c1316 q_x1322 q_x1324 c1325 q_x1331 ex1332 ex1333))⟩ (mu_up (q455 i1 c9 q_x11 p_x12 q_x16 c17 q_x456 c457 q_x896 c897 q_x1116 c1117 i1 p_k1 c1262 q_x1283 p_x1284 q_x1288 c1289 c1310 q_x1314 c1316 q_x1322 q_x1324 c1325 q_x1331 ex1332 ex1333) (q456 i1 c9 q_x11 p_x12 q_x16 c17 q_x456 c457 q_x896 c897 q_x1116 c1117 i1 p_k1 c1262 q_x1283 p_x1284 q_x1288 c1289 c1310 q_x1314 c1316 q_x1322 q_x1324 c1325 q_x1331 ex1332 ex1333))
  · refine ⟨o_v0, ?_⟩
    intro x1334 ex1334
    have d_x1334 := ex1334
    refine m_X4_sortAt hI o_v0 hT (fun x1335 S1336 hI2 g1337 p_x1335 => ?_)
    obtain ⟨z_S1336, p_x1335⟩ := p_x1335
    subst z_S1336
    intro _
    refine ⟨fun c1339 => ?_, fun c1339 => ?_⟩
    · refine u_X4_next_37 ?_
      refine ⟨o_v0, ?_⟩
      intro x1340 ex1340
      have q_x1340 : x1340 = x1334 := ex1340.trans d_x1334.symm
      have d_x1340 := ex1340
      have hI := iv_sI (j := 7) (v := x1340) hI o_v0 (by decide) (nu_free (by decide))
      have f0 : FRI _ _ _ (sI S1 v0 7 x1340) := fri_sI g0 f0 o_v0 (by decide)
      have fL3 : FRI _ _ _ (sI S1 v0 7 x1340) := fri_sI gL2 fL3 o_v0 (by decide)
      have d_x1340 : x1340 = fI (sI S1 v0 7 x1340) v0 4 := d_x1340.trans (rd_j (by decide)).symm
      have d_x1340 : x1340 = fI (sI S1 v0 7 x1340) v0 7 := (u2_self _ _ _ _).symm
      intro x1341 ex1341
      have q_x1341 : x1341 = x1340 := ex1341.trans d_x1340.symm
      have d_x1341 := ex1341
      refine m_X4_sortAt hI o_v0 hT (fun x1342 S1343 hI2 g1344 p_x1342 => ?_)
      obtain ⟨z_S1343, p_x1342⟩ := p_x1342
      subst z_S1343
      intro _
      have hI := iv_sI (j := 6) (v := x1342) hI o_v0 (by decide) (nu_free (by decide))
      have f0 : FRI _ _ _ (sI (sI S1 v0 7 x1340) v0 6 x1342) := fri_sI g0 f0 o_v0 (by decide)
      have fL3 : FRI _ _ _ (sI (sI S1 v0 7 x1340) v0 6 x1342) := fri_sI gL2 fL3 o_v0 (by decide)
      have d_x1341 : x1341 = fI (sI (sI S1 v0 7 x1340) v0 6 x1342) v0 4 := d_x1341.trans (rd_j (by decide)).symm
      have d_x1340 : x1340 = fI (sI (sI S1 v0 7 x1340) v0 6 x1342) v0 7 := d_x1340.trans (rd_j (by decide)).symm
      have d_x1342 : x1342 = fI (sI (sI S1 v0 7 x1340) v0 6 x1342) v0 6 := (u2_self _ _ _ _).symm
      have hI := iv_sJ (j := 8) (v := (0 : Int64)) hI o_v0 (by decide)
      intro x1346 ex1346
      have q_x1346 : x1346 = x1342 := ex1346.trans d_x1342.symm
      have d_x1346 := ex1346
      refine ⟨fun c1347 => ?_, fun c1347 => ?_⟩
      · refine u_X4_next_78 ?_
        refine u_X4_next_83 ?_
        refine ⟨o_v0, ?_⟩
        intro x1348 ex1348
        have q_x1348 : x1348 = x1346 := ex1348.trans d_x1346.symm
        have d_x1348 := ex1348
        refine ⟨fun c1349 => ?_, fun c1349 => ?_⟩
        · refine u_X4_next_98 ?_
          refine ⟨o_v0, ?_⟩
          intro x1350 ex1350
          have q_x1350 : x1350 = x1348 := ex1350.trans d_x1348.symm
          have d_x1350 := ex1350
          refine ⟨fun c1351 => ?_, fun c1351 => ?_⟩
          · refine u_X4_next_114 ?_
            refine i_X4_next_118 (fun (y0 : Nat) (y1 : Int32) (y2 : Int32) (y3 : Int32) (y4 : Int32) (Z : HS) => ((2147483647 : Int32).toInt - y4.toInt).toNat) (fun (y0 : Nat) (y1 : Int32) (y2 : Int32) (y3 : Int32) (y4 : Int32) (Z : HS) => (IV Z) ∧ (Gr (sJ (sI (sI S1 v0 7 x1340) v0 6 x1342) v0 8 (0 : Int64)) Z) ∧ (FRI [(4, 4)] [] (sJ (sI (sI S1 v0 7 x1340) v0 6 x1342) v0 8 (0 : Int64)) Z) ∧ (v0 = y0) ∧ ((1 : Int32) = y1) ∧ ((3 : Int32) = y2) ∧ ((10 : Int32) = y3) ∧ (TX Z v0) ∧ (0 ≤ y4) ∧ ((y1 = 0 ∨ fI Z v0 6 = 1 ∨ fI Z v0 6 = 2) ∧ (y1 = 0 → fI Z v0 6 = 0 ∨ (0 ≤ fI Z v0 4 ∧ fI Z v0 4 < 900)))) ?_ _ _ _ _ _ _ ⟨hI, (gr_rf _), (fri_rf _ _ _), rfl, rfl, rfl, rfl, hT, (q457 i1 c9 p_x1335 c1339 q_x1340 q_x1341 p_x1342 q_x1346 c1347 q_x1348 c1349 q_x1350 c1351), (by rw [← d_x1350, ← d_x1341]; exact (q458 i1 c9 p_x1335 c1339 q_x1340 q_x1341 p_x1342 q_x1346 c1347 q_x1348 c1349 q_x1350 c1351))⟩
            intro w1355 w1357 w1359 w1361 w1363 S1352 X1364 ⟨hI, gL1353, fL1354, q1356, q1358, q1360, q1362, hT, i1, k1⟩ ih1365
            subst q1356
            subst q1358
            subst q1360
            subst q1362
            have d_x1340 := d_x1340.trans (fri_at fL1354 (by decide) (by decide) o_v0).symm
            have d_x1350 := d_x1350.trans (fri_at fL1354 (by decide) (by decide) o_v0).symm
            have f0 := fri_tr g0 f0 fL1354 (by decide) (by decide)
            have fL3 := fri_tr gL2 fL3 fL1354 (by decide) (by decide)
            have o_v0 := gr_ob gL1353 o_v0
            have g0 := gr_tr g0 gL1353
            have gL2 := gr_tr gL2 gL1353
            obtain ⟨y1366, d_y1366⟩ : ∃ z : Int32, z = fI S1352 v0 4 := ⟨_, rfl⟩
            have p_k1 : ((1 : Int32) = 0 ∨ x1350 = 1 ∨ x1350 = 2) ∧ ((1 : Int32) = 0 → x1350 = 0 ∨ (0 ≤ y1366 ∧ y1366 < 900)) := by rw [d_x1350, d_y1366]; exact k1
            refine u_X4_next_118 ?_
            refine ⟨fun c1367 => ?_, fun c1367 => ?_⟩
            · refine u_X4_next_217 ?_
              refine ⟨fun c1368 => ?_, fun c1368 => ?_⟩
              · refine u_X4_next_240 ?_
                refine ⟨fun c1369 => ?_, fun c1369 => ?_⟩
                · exact hq _ hI g0 f0 hT
                · refine ⟨o_v0, ?_⟩
                  intro x1370 ex1370
                  have q_x1370 : x1370 = x1350 := ex1370.trans d_x1350.symm
                  have d_x1370 := ex1370
                  refine ⟨fun c1371 => ?_, fun c1371 => ?_⟩
                  · exact hq _ hI g0 f0 hT
                  · intro x1372 ex1372
                    have q_x1372 : x1372 = y1366 := ex1372.trans d_y1366.symm
                    have d_x1372 := ex1372
                    intro x1373 ex1373
                    have hI := iv_sI (j := 4) (v := x1373) hI o_v0 (by decide) (nu_free (by decide))
                    have f0 : FRI _ _ _ (sI S1352 v0 4 x1373) := fri_sI g0 f0 o_v0 (by decide)
                    have fL3 : FRI _ _ _ (sI S1352 v0 4 x1373) := fri_sI gL2 fL3 o_v0 (by decide)
                    have fL1354 : FRI _ _ _ (sI S1352 v0 4 x1373) := fri_sI gL1353 fL1354 o_v0 (by decide)
                    have d_x1340 : x1340 = fI (sI S1352 v0 4 x1373) v0 7 := d_x1340.trans (rd_j (by decide)).symm
                    have d_x1370 : x1370 = fI (sI S1352 v0 4 x1373) v0 6 := d_x1370.trans (rd_j (by decide)).symm
                    have d_x1373 : x1373 = fI (sI S1352 v0 4 x1373) v0 4 := (u2_self _ _ _ _).symm
                    exact hq _ hI g0 f0 hT
              · refine ⟨o_v0, ?_⟩
                intro x1374 ex1374
                have q_x1374 : x1374 = y1366 := ex1374.trans d_y1366.symm
                have d_x1374 := ex1374
                intro x1375 ex1375
                have q_x1375 : x1375 = x1340 := ex1375.trans d_x1340.symm
                have d_x1375 := ex1375
                refine ⟨fun c1376 => ?_, fun c1376 => ?_⟩
                · refine u_X4_next_240 ?_
                  refine ⟨fun c1377 => ?_, fun c1377 => ?_⟩
                  · exact hq _ hI g0 f0 hT
                  · refine ⟨o_v0, ?_⟩
                    intro x1378 ex1378
                    have q_x1378 : x1378 = x1350 := ex1378.trans d_x1350.symm
                    have d_x1378 := ex1378
                    refine ⟨fun c1379 => ?_, fun c1379 => ?_⟩
                    · exact hq _ hI g0 f0 hT
                    · intro x1380 ex1380
                      have q_x1380 : x1380 = x1374 := ex1380.trans d_x1374.symm
                      have d_x1380 := ex1380
                      intro x1381 ex1381
                      have hI := iv_sI (j := 4) (v := x1381) hI o_v0 (by decide) (nu_free (by decide))
                      have f0 : FRI _ _ _ (sI S1352 v0 4 x1381) := fri_sI g0 f0 o_v0 (by decide)
                      have fL3 : FRI _ _ _ (sI S1352 v0 4 x1381) := fri_sI gL2 fL3 o_v0 (by decide)
                      have fL1354 : FRI _ _ _ (sI S1352 v0 4 x1381) := fri_sI gL1353 fL1354 o_v0 (by decide)
                      have d_x1375 : x1375 = fI (sI S1352 v0 4 x1381) v0 7 := d_x1375.trans (rd_j (by decide)).symm
                      have d_x1378 : x1378 = fI (sI S1352 v0 4 x1381) v0 6 := d_x1378.trans (rd_j (by decide)).symm
                      have d_x1381 : x1381 = fI (sI S1352 v0 4 x1381) v0 4 := (u2_self _ _ _ _).symm
                      exact hq _ hI g0 f0 hT
                · have hI := iv_sI (j := 6) (v := (6 : Int32)) hI o_v0 (by decide) (nu_free (by decide))
                  have f0 : FRI _ _ _ (sI S1352 v0 6 (6 : Int32)) := fri_sI g0 f0 o_v0 (by decide)
                  have fL3 : FRI _ _ _ (sI S1352 v0 6 (6 : Int32)) := fri_sI gL2 fL3 o_v0 (by decide)
                  have fL1354 : FRI _ _ _ (sI S1352 v0 6 (6 : Int32)) := fri_sI gL1353 fL1354 o_v0 (by decide)
                  have d_x1375 : x1375 = fI (sI S1352 v0 6 (6 : Int32)) v0 7 := d_x1375.trans (rd_j (by decide)).symm
                  have d_x1374 : x1374 = fI (sI S1352 v0 6 (6 : Int32)) v0 4 := d_x1374.trans (rd_j (by decide)).symm
                  obtain ⟨y1382, hy1382⟩ : ∃ z : Int32, z = (6 : Int32) := ⟨_, rfl⟩
                  have d_y1382 : y1382 = fI (sI S1352 v0 6 (6 : Int32)) v0 6 := hy1382.trans (u2_self _ _ _ _).symm
                  refine u_X4_next_240 ?_
                  refine ⟨fun c1383 => ?_, fun c1383 => ?_⟩
                  · exact hq _ hI g0 f0 hT
                  · refine ⟨o_v0, ?_⟩
                    intro x1384 ex1384
                    have q_x1384 : x1384 = y1382 := ex1384.trans d_y1382.symm
                    have d_x1384 := ex1384
                    refine ⟨fun c1385 => ?_, fun c1385 => ?_⟩
                    · exact hq _ hI g0 f0 hT
                    · intro x1386 ex1386
                      have q_x1386 : x1386 = x1374 := ex1386.trans d_x1374.symm
                      have d_x1386 := ex1386
                      intro x1387 ex1387
                      have hI := iv_sI (j := 4) (v := x1387) hI o_v0 (by decide) (nu_free (by decide))
                      have f0 : FRI _ _ _ (sI (sI S1352 v0 6 (6 : Int32)) v0 4 x1387) := fri_sI g0 f0 o_v0 (by decide)
                      have fL3 : FRI _ _ _ (sI (sI S1352 v0 6 (6 : Int32)) v0 4 x1387) := fri_sI gL2 fL3 o_v0 (by decide)
                      have fL1354 : FRI _ _ _ (sI (sI S1352 v0 6 (6 : Int32)) v0 4 x1387) := fri_sI gL1353 fL1354 o_v0 (by decide)
                      have d_x1375 : x1375 = fI (sI (sI S1352 v0 6 (6 : Int32)) v0 4 x1387) v0 7 := d_x1375.trans (rd_j (by decide)).symm
                      have d_x1384 : x1384 = fI (sI (sI S1352 v0 6 (6 : Int32)) v0 4 x1387) v0 6 := d_x1384.trans (rd_j (by decide)).symm
                      have d_x1387 : x1387 = fI (sI (sI S1352 v0 6 (6 : Int32)) v0 4 x1387) v0 4 := (u2_self _ _ _ _).symm
                      exact hq _ hI g0 f0 hT
            · refine ⟨fun c1388 => ?_, fun c1388 => ?_⟩
              · refine u_X4_next_217 ?_
                refine ⟨fun c1389 => ?_, fun c1389 => ?_⟩
                · refine u_X4_next_240 ?_
                  refine ⟨fun c1390 => ?_, fun c1390 => ?_⟩
                  · exact hq _ hI g0 f0 hT
                  · refine ⟨o_v0, ?_⟩
                    intro x1391 ex1391
                    have q_x1391 : x1391 = x1350 := ex1391.trans d_x1350.symm
                    have d_x1391 := ex1391
                    refine ⟨fun c1392 => ?_, fun c1392 => ?_⟩
                    · exact hq _ hI g0 f0 hT
                    · intro x1393 ex1393
                      have q_x1393 : x1393 = y1366 := ex1393.trans d_y1366.symm
                      have d_x1393 := ex1393
                      intro x1394 ex1394
                      have hI := iv_sI (j := 4) (v := x1394) hI o_v0 (by decide) (nu_free (by decide))
                      have f0 : FRI _ _ _ (sI S1352 v0 4 x1394) := fri_sI g0 f0 o_v0 (by decide)
                      have fL3 : FRI _ _ _ (sI S1352 v0 4 x1394) := fri_sI gL2 fL3 o_v0 (by decide)
                      have fL1354 : FRI _ _ _ (sI S1352 v0 4 x1394) := fri_sI gL1353 fL1354 o_v0 (by decide)
                      have d_x1340 : x1340 = fI (sI S1352 v0 4 x1394) v0 7 := d_x1340.trans (rd_j (by decide)).symm
                      have d_x1391 : x1391 = fI (sI S1352 v0 4 x1394) v0 6 := d_x1391.trans (rd_j (by decide)).symm
                      have d_x1394 : x1394 = fI (sI S1352 v0 4 x1394) v0 4 := (u2_self _ _ _ _).symm
                      exact hq _ hI g0 f0 hT
                · refine ⟨o_v0, ?_⟩
                  intro x1395 ex1395
                  have q_x1395 : x1395 = y1366 := ex1395.trans d_y1366.symm
                  have d_x1395 := ex1395
                  intro x1396 ex1396
                  have q_x1396 : x1396 = x1340 := ex1396.trans d_x1340.symm
                  have d_x1396 := ex1396
                  refine ⟨fun c1397 => ?_, fun c1397 => ?_⟩
                  · refine u_X4_next_240 ?_
                    refine ⟨fun c1398 => ?_, fun c1398 => ?_⟩
                    · exact hq _ hI g0 f0 hT
                    · refine ⟨o_v0, ?_⟩
                      intro x1399 ex1399
                      have q_x1399 : x1399 = x1350 := ex1399.trans d_x1350.symm
                      have d_x1399 := ex1399
                      refine ⟨fun c1400 => ?_, fun c1400 => ?_⟩
                      · exact hq _ hI g0 f0 hT
                      · intro x1401 ex1401
                        have q_x1401 : x1401 = x1395 := ex1401.trans d_x1395.symm
                        have d_x1401 := ex1401
                        intro x1402 ex1402
                        have hI := iv_sI (j := 4) (v := x1402) hI o_v0 (by decide) (nu_free (by decide))
                        have f0 : FRI _ _ _ (sI S1352 v0 4 x1402) := fri_sI g0 f0 o_v0 (by decide)
                        have fL3 : FRI _ _ _ (sI S1352 v0 4 x1402) := fri_sI gL2 fL3 o_v0 (by decide)
                        have fL1354 : FRI _ _ _ (sI S1352 v0 4 x1402) := fri_sI gL1353 fL1354 o_v0 (by decide)
                        have d_x1396 : x1396 = fI (sI S1352 v0 4 x1402) v0 7 := d_x1396.trans (rd_j (by decide)).symm
                        have d_x1399 : x1399 = fI (sI S1352 v0 4 x1402) v0 6 := d_x1399.trans (rd_j (by decide)).symm
                        have d_x1402 : x1402 = fI (sI S1352 v0 4 x1402) v0 4 := (u2_self _ _ _ _).symm
                        exact hq _ hI g0 f0 hT
                  · have hI := iv_sI (j := 6) (v := (6 : Int32)) hI o_v0 (by decide) (nu_free (by decide))
                    have f0 : FRI _ _ _ (sI S1352 v0 6 (6 : Int32)) := fri_sI g0 f0 o_v0 (by decide)
                    have fL3 : FRI _ _ _ (sI S1352 v0 6 (6 : Int32)) := fri_sI gL2 fL3 o_v0 (by decide)
                    have fL1354 : FRI _ _ _ (sI S1352 v0 6 (6 : Int32)) := fri_sI gL1353 fL1354 o_v0 (by decide)
                    have d_x1396 : x1396 = fI (sI S1352 v0 6 (6 : Int32)) v0 7 := d_x1396.trans (rd_j (by decide)).symm
                    have d_x1395 : x1395 = fI (sI S1352 v0 6 (6 : Int32)) v0 4 := d_x1395.trans (rd_j (by decide)).symm
                    obtain ⟨y1403, hy1403⟩ : ∃ z : Int32, z = (6 : Int32) := ⟨_, rfl⟩
                    have d_y1403 : y1403 = fI (sI S1352 v0 6 (6 : Int32)) v0 6 := hy1403.trans (u2_self _ _ _ _).symm
                    refine u_X4_next_240 ?_
                    refine ⟨fun c1404 => ?_, fun c1404 => ?_⟩
                    · exact hq _ hI g0 f0 hT
                    · refine ⟨o_v0, ?_⟩
                      intro x1405 ex1405
                      have q_x1405 : x1405 = y1403 := ex1405.trans d_y1403.symm
                      have d_x1405 := ex1405
                      refine ⟨fun c1406 => ?_, fun c1406 => ?_⟩
                      · exact hq _ hI g0 f0 hT
                      · intro x1407 ex1407
                        have q_x1407 : x1407 = x1395 := ex1407.trans d_x1395.symm
                        have d_x1407 := ex1407
                        intro x1408 ex1408
                        have hI := iv_sI (j := 4) (v := x1408) hI o_v0 (by decide) (nu_free (by decide))
                        have f0 : FRI _ _ _ (sI (sI S1352 v0 6 (6 : Int32)) v0 4 x1408) := fri_sI g0 f0 o_v0 (by decide)
                        have fL3 : FRI _ _ _ (sI (sI S1352 v0 6 (6 : Int32)) v0 4 x1408) := fri_sI gL2 fL3 o_v0 (by decide)
                        have fL1354 : FRI _ _ _ (sI (sI S1352 v0 6 (6 : Int32)) v0 4 x1408) := fri_sI gL1353 fL1354 o_v0 (by decide)
                        have d_x1396 : x1396 = fI (sI (sI S1352 v0 6 (6 : Int32)) v0 4 x1408) v0 7 := d_x1396.trans (rd_j (by decide)).symm
                        have d_x1405 : x1405 = fI (sI (sI S1352 v0 6 (6 : Int32)) v0 4 x1408) v0 6 := d_x1405.trans (rd_j (by decide)).symm
                        have d_x1408 : x1408 = fI (sI (sI S1352 v0 6 (6 : Int32)) v0 4 x1408) v0 4 := (u2_self _ _ _ _).symm
                        exact hq _ hI g0 f0 hT
              · refine ⟨o_v0, ?_⟩
                intro x1409 ex1409
                have q_x1409 : x1409 = y1366 := ex1409.trans d_y1366.symm
                have d_x1409 := ex1409
                refine m_X4_sortAt hI o_v0 hT (fun x1410 S1411 hI2 g1412 p_x1410 => ?_)
                obtain ⟨z_S1411, p_x1410⟩ := p_x1410
                subst z_S1411
                intro _
                intro x1414 ex1414
                have q_x1414 : x1414 = x1350 := ex1414.trans d_x1350.symm
                have d_x1414 := ex1414
                refine ⟨fun c1415 => ?_, fun c1415 => ?_⟩
                · refine u_X4_next_217 ?_
                  refine ⟨fun c1416 => ?_, fun c1416 => ?_⟩
                  · refine u_X4_next_240 ?_
                    refine ⟨fun c1417 => ?_, fun c1417 => ?_⟩
                    · exact hq _ hI g0 f0 hT
                    · refine ⟨o_v0, ?_⟩
                      intro x1418 ex1418
                      have q_x1418 : x1418 = x1414 := ex1418.trans d_x1414.symm
                      have d_x1418 := ex1418
                      refine ⟨fun c1419 => ?_, fun c1419 => ?_⟩
                      · exact hq _ hI g0 f0 hT
                      · intro x1420 ex1420
                        have q_x1420 : x1420 = x1409 := ex1420.trans d_x1409.symm
                        have d_x1420 := ex1420
                        intro x1421 ex1421
                        have hI := iv_sI (j := 4) (v := x1421) hI o_v0 (by decide) (nu_free (by decide))
                        have f0 : FRI _ _ _ (sI S1352 v0 4 x1421) := fri_sI g0 f0 o_v0 (by decide)
                        have fL3 : FRI _ _ _ (sI S1352 v0 4 x1421) := fri_sI gL2 fL3 o_v0 (by decide)
                        have fL1354 : FRI _ _ _ (sI S1352 v0 4 x1421) := fri_sI gL1353 fL1354 o_v0 (by decide)
                        have d_x1340 : x1340 = fI (sI S1352 v0 4 x1421) v0 7 := d_x1340.trans (rd_j (by decide)).symm
                        have d_x1418 : x1418 = fI (sI S1352 v0 4 x1421) v0 6 := d_x1418.trans (rd_j (by decide)).symm
                        have d_x1421 : x1421 = fI (sI S1352 v0 4 x1421) v0 4 := (u2_self _ _ _ _).symm
                        exact hq _ hI g0 f0 hT
                  · refine ⟨o_v0, ?_⟩
                    intro x1422 ex1422
                    have q_x1422 : x1422 = x1409 := ex1422.trans d_x1409.symm
                    have d_x1422 := ex1422
                    intro x1423 ex1423
                    have q_x1423 : x1423 = x1340 := ex1423.trans d_x1340.symm
                    have d_x1423 := ex1423
                    refine ⟨fun c1424 => ?_, fun c1424 => ?_⟩
                    · refine u_X4_next_240 ?_
                      refine ⟨fun c1425 => ?_, fun c1425 => ?_⟩
                      · exact hq _ hI g0 f0 hT
                      · refine ⟨o_v0, ?_⟩
                        intro x1426 ex1426
                        have q_x1426 : x1426 = x1414 := ex1426.trans d_x1414.symm
                        have d_x1426 := ex1426
                        refine ⟨fun c1427 => ?_, fun c1427 => ?_⟩
                        · exact hq _ hI g0 f0 hT
                        · intro x1428 ex1428
                          have q_x1428 : x1428 = x1422 := ex1428.trans d_x1422.symm
                          have d_x1428 := ex1428
                          intro x1429 ex1429
                          have hI := iv_sI (j := 4) (v := x1429) hI o_v0 (by decide) (nu_free (by decide))
                          have f0 : FRI _ _ _ (sI S1352 v0 4 x1429) := fri_sI g0 f0 o_v0 (by decide)
                          have fL3 : FRI _ _ _ (sI S1352 v0 4 x1429) := fri_sI gL2 fL3 o_v0 (by decide)
                          have fL1354 : FRI _ _ _ (sI S1352 v0 4 x1429) := fri_sI gL1353 fL1354 o_v0 (by decide)
                          have d_x1423 : x1423 = fI (sI S1352 v0 4 x1429) v0 7 := d_x1423.trans (rd_j (by decide)).symm
                          have d_x1426 : x1426 = fI (sI S1352 v0 4 x1429) v0 6 := d_x1426.trans (rd_j (by decide)).symm
                          have d_x1429 : x1429 = fI (sI S1352 v0 4 x1429) v0 4 := (u2_self _ _ _ _).symm
                          exact hq _ hI g0 f0 hT
                    · have hI := iv_sI (j := 6) (v := (6 : Int32)) hI o_v0 (by decide) (nu_free (by decide))
                      have f0 : FRI _ _ _ (sI S1352 v0 6 (6 : Int32)) := fri_sI g0 f0 o_v0 (by decide)
                      have fL3 : FRI _ _ _ (sI S1352 v0 6 (6 : Int32)) := fri_sI gL2 fL3 o_v0 (by decide)
                      have fL1354 : FRI _ _ _ (sI S1352 v0 6 (6 : Int32)) := fri_sI gL1353 fL1354 o_v0 (by decide)
                      have d_x1423 : x1423 = fI (sI S1352 v0 6 (6 : Int32)) v0 7 := d_x1423.trans (rd_j (by decide)).symm
                      have d_x1422 : x1422 = fI (sI S1352 v0 6 (6 : Int32)) v0 4 := d_x1422.trans (rd_j (by decide)).symm
                      obtain ⟨y1430, hy1430⟩ : ∃ z : Int32, z = (6 : Int32) := ⟨_, rfl⟩
                      have d_y1430 : y1430 = fI (sI S1352 v0 6 (6 : Int32)) v0 6 := hy1430.trans (u2_self _ _ _ _).symm
                      refine u_X4_next_240 ?_
                      refine ⟨fun c1431 => ?_, fun c1431 => ?_⟩
                      · exact hq _ hI g0 f0 hT
                      · refine ⟨o_v0, ?_⟩
                        intro x1432 ex1432
                        have q_x1432 : x1432 = y1430 := ex1432.trans d_y1430.symm
                        have d_x1432 := ex1432
                        refine ⟨fun c1433 => ?_, fun c1433 => ?_⟩
                        · exact hq _ hI g0 f0 hT
                        · intro x1434 ex1434
                          have q_x1434 : x1434 = x1422 := ex1434.trans d_x1422.symm
                          have d_x1434 := ex1434
                          intro x1435 ex1435
                          have hI := iv_sI (j := 4) (v := x1435) hI o_v0 (by decide) (nu_free (by decide))
                          have f0 : FRI _ _ _ (sI (sI S1352 v0 6 (6 : Int32)) v0 4 x1435) := fri_sI g0 f0 o_v0 (by decide)
                          have fL3 : FRI _ _ _ (sI (sI S1352 v0 6 (6 : Int32)) v0 4 x1435) := fri_sI gL2 fL3 o_v0 (by decide)
                          have fL1354 : FRI _ _ _ (sI (sI S1352 v0 6 (6 : Int32)) v0 4 x1435) := fri_sI gL1353 fL1354 o_v0 (by decide)
                          have d_x1423 : x1423 = fI (sI (sI S1352 v0 6 (6 : Int32)) v0 4 x1435) v0 7 := d_x1423.trans (rd_j (by decide)).symm
                          have d_x1432 : x1432 = fI (sI (sI S1352 v0 6 (6 : Int32)) v0 4 x1435) v0 6 := d_x1432.trans (rd_j (by decide)).symm
                          have d_x1435 : x1435 = fI (sI (sI S1352 v0 6 (6 : Int32)) v0 4 x1435) v0 4 := (u2_self _ _ _ _).symm
                          exact hq _ hI g0 f0 hT
                · refine ⟨fun c1436 => ?_, fun c1436 => ?_⟩
                  · refine u_X4_next_201 ?_
                    refine ⟨o_v0, ?_⟩
                    intro x1437 ex1437
                    have q_x1437 : x1437 = x1409 := ex1437.trans d_x1409.symm
                    have d_x1437 := ex1437
                    intro x1438 ex1438
                    have hI := iv_sI (j := 4) (v := x1438) hI o_v0 (by decide) (nu_free (by decide))
                    have f0 : FRI _ _ _ (sI S1352 v0 4 x1438) := fri_sI g0 f0 o_v0 (by decide)
                    have fL3 : FRI _ _ _ (sI S1352 v0 4 x1438) := fri_sI gL2 fL3 o_v0 (by decide)
                    have fL1354 : FRI _ _ _ (sI S1352 v0 4 x1438) := fri_sI gL1353 fL1354 o_v0 (by decide)
                    have d_x1340 : x1340 = fI (sI S1352 v0 4 x1438) v0 7 := d_x1340.trans (rd_j (by decide)).symm
                    have d_x1414 : x1414 = fI (sI S1352 v0 4 x1438) v0 6 := d_x1414.trans (rd_j (by decide)).symm
                    have d_x1438 : x1438 = fI (sI S1352 v0 4 x1438) v0 4 := (u2_self _ _ _ _).symm
                    intro x1439 ex1439
                    exact ih1365 _ _ _ _ _ _ ⟨hI, gL1353, fL1354, rfl, rfl, rfl, rfl, hT, (q459 i1 c9 p_x1335 c1339 q_x1340 q_x1341 p_x1342 q_x1346 c1347 q_x1348 c1349 q_x1350 c1351 i1 p_k1 c1388 q_x1409 p_x1410 q_x1414 c1415 c1436 q_x1437 ex1438 ex1439), (by rw [← d_x1414, ← d_x1438]; exact (q460 i1 c9 p_x1335 c1339 q_x1340 q_x1341 p_x1342 q_x1346 c1347 q_x1348 c1349 q_x1350 c1351 i1 p_k1 c1388 q_x1409 p_x1410 q_x1414 c1415 c1436 q_x1437 ex1438 ex1439))⟩ (mu_up (q461 i1 c9 p_x1335 c1339 q_x1340 q_x1341 p_x1342 q_x1346 c1347 q_x1348 c1349 q_x1350 c1351 i1 p_k1 c1388 q_x1409 p_x1410 q_x1414 c1415 c1436 q_x1437 ex1438 ex1439) (q462 i1 c9 p_x1335 c1339 q_x1340 q_x1341 p_x1342 q_x1346 c1347 q_x1348 c1349 q_x1350 c1351 i1 p_k1 c1388 q_x1409 p_x1410 q_x1414 c1415 c1436 q_x1437 ex1438 ex1439))
                  · intro x1440 ex1440
                    have q_x1440 : x1440 = x1409 := ex1440.trans d_x1409.symm
                    have d_x1440 := ex1440
                    obtain ⟨a1441, ea1441, o_a1441, l_a1441⟩ := hT
                    refine ⟨a1441, ea1441, ?_⟩
                    refine ⟨o_a1441, ?_⟩
                    have n_a1441 : nI (hN S1352 a1441) = 900 := by rw [show hN S1352 a1441 = 900 from l_a1441]; decide
                    refine ⟨fun c1442 => ?_, fun c1442 => ?_⟩
                    · rw [n_a1441] at c1442
                      refine u_X4_next_201 ?_
                      refine ⟨o_v0, ?_⟩
                      intro x1443 ex1443
                      have q_x1443 : x1443 = x1440 := ex1443.trans d_x1440.symm
                      have d_x1443 := ex1443
                      intro x1444 ex1444
                      have hI := iv_sI (j := 4) (v := x1444) hI o_v0 (by decide) (nu_free (by decide))
                      have f0 : FRI _ _ _ (sI S1352 v0 4 x1444) := fri_sI g0 f0 o_v0 (by decide)
                      have fL3 : FRI _ _ _ (sI S1352 v0 4 x1444) := fri_sI gL2 fL3 o_v0 (by decide)
                      have fL1354 : FRI _ _ _ (sI S1352 v0 4 x1444) := fri_sI gL1353 fL1354 o_v0 (by decide)
                      have d_x1340 : x1340 = fI (sI S1352 v0 4 x1444) v0 7 := d_x1340.trans (rd_j (by decide)).symm
                      have d_x1414 : x1414 = fI (sI S1352 v0 4 x1444) v0 6 := d_x1414.trans (rd_j (by decide)).symm
                      have d_x1444 : x1444 = fI (sI S1352 v0 4 x1444) v0 4 := (u2_self _ _ _ _).symm
                      intro x1445 ex1445
                      exact ih1365 _ _ _ _ _ _ ⟨hI, gL1353, fL1354, rfl, rfl, rfl, rfl, hT, (q463 i1 c9 p_x1335 c1339 q_x1340 q_x1341 p_x1342 q_x1346 c1347 q_x1348 c1349 q_x1350 c1351 i1 p_k1 c1388 q_x1409 p_x1410 q_x1414 c1415 c1436 q_x1440 c1442 q_x1443 ex1444 ex1445), (by rw [← d_x1414, ← d_x1444]; exact (q464 i1 c9 p_x1335 c1339 q_x1340 q_x1341 p_x1342 q_x1346 c1347 q_x1348 c1349 q_x1350 c1351 i1 p_k1 c1388 q_x1409 p_x1410 q_x1414 c1415 c1436 q_x1440 c1442 q_x1443 ex1444 ex1445))⟩ (mu_up (q465 i1 c9 p_x1335 c1339 q_x1340 q_x1341 p_x1342 q_x1346 c1347 q_x1348 c1349 q_x1350 c1351 i1 p_k1 c1388 q_x1409 p_x1410 q_x1414 c1415 c1436 q_x1440 c1442 q_x1443 ex1444 ex1445) (q466 i1 c9 p_x1335 c1339 q_x1340 q_x1341 p_x1342 q_x1346 c1347 q_x1348 c1349 q_x1350 c1351 i1 p_k1 c1388 q_x1409 p_x1410 q_x1414 c1415 c1436 q_x1440 c1442 q_x1443 ex1444 ex1445))
                    · rw [n_a1441] at c1442
                      intro x1446 ex1446
                      have dj_x1446 := ex1446
                      refine ⟨a1441, ea1441, ?_⟩
                      intro x1448 ex1448
                      have q_x1448 : x1448 = x1440 := ex1448.trans d_x1440.symm
                      have d_x1448 := ex1448
                      refine ⟨o_a1441, ?_⟩
                      refine ⟨(vin l_a1441 (m := 900) (by decide) (q467 i1 c9 p_x1335 c1339 q_x1340 q_x1341 p_x1342 q_x1346 c1347 q_x1348 c1349 q_x1350 c1351 i1 p_k1 c1388 q_x1409 p_x1410 q_x1414 c1415 c1436 q_x1440 c1442 q_x1448)), ?_⟩
                      intro x1449 ex1449
                      intro x1450 ex1450
                      have q_x1450 : x1450 = x1414 := ex1450.trans d_x1414.symm
                      have d_x1450 := ex1450
                      refine ⟨fun c1451 => ?_, fun c1451 => ?_⟩
                      · refine u_X4_next_195 ?_
                        refine ⟨o_v0, ?_⟩
                        intro x1452 ex1452
                        have hI := iv_sJ (j := 8) (v := x1452) hI o_v0 (by decide)
                        refine u_X4_next_201 ?_
                        refine ⟨o_v0, ?_⟩
                        intro x1453 ex1453
                        have q_x1453 : x1453 = x1448 := ex1453.trans d_x1448.symm
                        have d_x1453 := ex1453
                        intro x1454 ex1454
                        have hI := iv_sI (j := 4) (v := x1454) hI o_v0 (by decide) (nu_free (by decide))
                        have f0 : FRI _ _ _ (sI (sJ S1352 v0 8 x1452) v0 4 x1454) := fri_sI g0 f0 o_v0 (by decide)
                        have fL3 : FRI _ _ _ (sI (sJ S1352 v0 8 x1452) v0 4 x1454) := fri_sI gL2 fL3 o_v0 (by decide)
                        have fL1354 : FRI _ _ _ (sI (sJ S1352 v0 8 x1452) v0 4 x1454) := fri_sI gL1353 fL1354 o_v0 (by decide)
                        have d_x1340 : x1340 = fI (sI (sJ S1352 v0 8 x1452) v0 4 x1454) v0 7 := d_x1340.trans (rd_j (by decide)).symm
                        have d_x1450 : x1450 = fI (sI (sJ S1352 v0 8 x1452) v0 4 x1454) v0 6 := d_x1450.trans (rd_j (by decide)).symm
                        have d_x1454 : x1454 = fI (sI (sJ S1352 v0 8 x1452) v0 4 x1454) v0 4 := (u2_self _ _ _ _).symm
                        intro x1455 ex1455
                        exact ih1365 _ _ _ _ _ _ ⟨hI, gL1353, fL1354, rfl, rfl, rfl, rfl, hT, (q468 i1 c9 p_x1335 c1339 q_x1340 q_x1341 p_x1342 q_x1346 c1347 q_x1348 c1349 q_x1350 c1351 i1 p_k1 c1388 q_x1409 p_x1410 q_x1414 c1415 c1436 q_x1440 c1442 q_x1448 q_x1450 c1451 q_x1453 ex1454 ex1455), (by rw [← d_x1450, ← d_x1454]; exact (q469 i1 c9 p_x1335 c1339 q_x1340 q_x1341 p_x1342 q_x1346 c1347 q_x1348 c1349 q_x1350 c1351 i1 p_k1 c1388 q_x1409 p_x1410 q_x1414 c1415 c1436 q_x1440 c1442 q_x1448 q_x1450 c1451 q_x1453 ex1454 ex1455))⟩ (mu_up (q470 i1 c9 p_x1335 c1339 q_x1340 q_x1341 p_x1342 q_x1346 c1347 q_x1348 c1349 q_x1350 c1351 i1 p_k1 c1388 q_x1409 p_x1410 q_x1414 c1415 c1436 q_x1440 c1442 q_x1448 q_x1450 c1451 q_x1453 ex1454 ex1455) (q471 i1 c9 p_x1335 c1339 q_x1340 q_x1341 p_x1342 q_x1346 c1347 q_x1348 c1349 q_x1350 c1351 i1 p_k1 c1388 q_x1409 p_x1410 q_x1414 c1415 c1436 q_x1440 c1442 q_x1448 q_x1450 c1451 q_x1453 ex1454 ex1455))
                      · refine u_X4_next_195 ?_
                        refine ⟨o_v0, ?_⟩
                        intro x1456 ex1456
                        have hI := iv_sJ (j := 8) (v := x1456) hI o_v0 (by decide)
                        refine u_X4_next_201 ?_
                        refine ⟨o_v0, ?_⟩
                        intro x1457 ex1457
                        have q_x1457 : x1457 = x1448 := ex1457.trans d_x1448.symm
                        have d_x1457 := ex1457
                        intro x1458 ex1458
                        have hI := iv_sI (j := 4) (v := x1458) hI o_v0 (by decide) (nu_free (by decide))
                        have f0 : FRI _ _ _ (sI (sJ S1352 v0 8 x1456) v0 4 x1458) := fri_sI g0 f0 o_v0 (by decide)
                        have fL3 : FRI _ _ _ (sI (sJ S1352 v0 8 x1456) v0 4 x1458) := fri_sI gL2 fL3 o_v0 (by decide)
                        have fL1354 : FRI _ _ _ (sI (sJ S1352 v0 8 x1456) v0 4 x1458) := fri_sI gL1353 fL1354 o_v0 (by decide)
                        have d_x1340 : x1340 = fI (sI (sJ S1352 v0 8 x1456) v0 4 x1458) v0 7 := d_x1340.trans (rd_j (by decide)).symm
                        have d_x1450 : x1450 = fI (sI (sJ S1352 v0 8 x1456) v0 4 x1458) v0 6 := d_x1450.trans (rd_j (by decide)).symm
                        have d_x1458 : x1458 = fI (sI (sJ S1352 v0 8 x1456) v0 4 x1458) v0 4 := (u2_self _ _ _ _).symm
                        intro x1459 ex1459
                        exact ih1365 _ _ _ _ _ _ ⟨hI, gL1353, fL1354, rfl, rfl, rfl, rfl, hT, (q472 i1 c9 p_x1335 c1339 q_x1340 q_x1341 p_x1342 q_x1346 c1347 q_x1348 c1349 q_x1350 c1351 i1 p_k1 c1388 q_x1409 p_x1410 q_x1414 c1415 c1436 q_x1440 c1442 q_x1448 q_x1450 c1451 q_x1457 ex1458 ex1459), (by rw [← d_x1450, ← d_x1458]; exact (q473 i1 c9 p_x1335 c1339 q_x1340 q_x1341 p_x1342 q_x1346 c1347 q_x1348 c1349 q_x1350 c1351 i1 p_k1 c1388 q_x1409 p_x1410 q_x1414 c1415 c1436 q_x1440 c1442 q_x1448 q_x1450 c1451 q_x1457 ex1458 ex1459))⟩ (mu_up (q474 i1 c9 p_x1335 c1339 q_x1340 q_x1341 p_x1342 q_x1346 c1347 q_x1348 c1349 q_x1350 c1351 i1 p_k1 c1388 q_x1409 p_x1410 q_x1414 c1415 c1436 q_x1440 c1442 q_x1448 q_x1450 c1451 q_x1457 ex1458 ex1459) (q475 i1 c9 p_x1335 c1339 q_x1340 q_x1341 p_x1342 q_x1346 c1347 q_x1348 c1349 q_x1350 c1351 i1 p_k1 c1388 q_x1409 p_x1410 q_x1414 c1415 c1436 q_x1440 c1442 q_x1448 q_x1450 c1451 q_x1457 ex1458 ex1459))
          · refine u_X4_next_114 ?_
            refine i_X4_next_118 (fun (y0 : Nat) (y1 : Int32) (y2 : Int32) (y3 : Int32) (y4 : Int32) (Z : HS) => ((2147483647 : Int32).toInt - y4.toInt).toNat) (fun (y0 : Nat) (y1 : Int32) (y2 : Int32) (y3 : Int32) (y4 : Int32) (Z : HS) => (IV Z) ∧ (Gr (sJ (sI (sI S1 v0 7 x1340) v0 6 x1342) v0 8 (0 : Int64)) Z) ∧ (FRI [(4, 4)] [] (sJ (sI (sI S1 v0 7 x1340) v0 6 x1342) v0 8 (0 : Int64)) Z) ∧ (v0 = y0) ∧ ((1 : Int32) = y1) ∧ ((3 : Int32) = y2) ∧ ((32 : Int32) = y3) ∧ (TX Z v0) ∧ (0 ≤ y4) ∧ ((y1 = 0 ∨ fI Z v0 6 = 1 ∨ fI Z v0 6 = 2) ∧ (y1 = 0 → fI Z v0 6 = 0 ∨ (0 ≤ fI Z v0 4 ∧ fI Z v0 4 < 900)))) ?_ _ _ _ _ _ _ ⟨hI, (gr_rf _), (fri_rf _ _ _), rfl, rfl, rfl, rfl, hT, (q476 i1 c9 p_x1335 c1339 q_x1340 q_x1341 p_x1342 q_x1346 c1347 q_x1348 c1349 q_x1350 c1351), (by rw [← d_x1350, ← d_x1341]; exact (q477 i1 c9 p_x1335 c1339 q_x1340 q_x1341 p_x1342 q_x1346 c1347 q_x1348 c1349 q_x1350 c1351))⟩
            intro w1463 w1465 w1467 w1469 w1471 S1460 X1472 ⟨hI, gL1461, fL1462, q1464, q1466, q1468, q1470, hT, i1, k1⟩ ih1473
            subst q1464
            subst q1466
            subst q1468
            subst q1470
            have d_x1340 := d_x1340.trans (fri_at fL1462 (by decide) (by decide) o_v0).symm
            have d_x1350 := d_x1350.trans (fri_at fL1462 (by decide) (by decide) o_v0).symm
            have f0 := fri_tr g0 f0 fL1462 (by decide) (by decide)
            have fL3 := fri_tr gL2 fL3 fL1462 (by decide) (by decide)
            have o_v0 := gr_ob gL1461 o_v0
            have g0 := gr_tr g0 gL1461
            have gL2 := gr_tr gL2 gL1461
            obtain ⟨y1474, d_y1474⟩ : ∃ z : Int32, z = fI S1460 v0 4 := ⟨_, rfl⟩
            have p_k1 : ((1 : Int32) = 0 ∨ x1350 = 1 ∨ x1350 = 2) ∧ ((1 : Int32) = 0 → x1350 = 0 ∨ (0 ≤ y1474 ∧ y1474 < 900)) := by rw [d_x1350, d_y1474]; exact k1
            refine u_X4_next_118 ?_
            refine ⟨fun c1475 => ?_, fun c1475 => ?_⟩
            · refine u_X4_next_217 ?_
              refine ⟨fun c1476 => ?_, fun c1476 => ?_⟩
              · refine u_X4_next_240 ?_
                refine ⟨fun c1477 => ?_, fun c1477 => ?_⟩
                · exact hq _ hI g0 f0 hT
                · refine ⟨o_v0, ?_⟩
                  intro x1478 ex1478
                  have q_x1478 : x1478 = x1350 := ex1478.trans d_x1350.symm
                  have d_x1478 := ex1478
                  refine ⟨fun c1479 => ?_, fun c1479 => ?_⟩
                  · exact hq _ hI g0 f0 hT
                  · intro x1480 ex1480
                    have q_x1480 : x1480 = y1474 := ex1480.trans d_y1474.symm
                    have d_x1480 := ex1480
                    intro x1481 ex1481
                    have hI := iv_sI (j := 4) (v := x1481) hI o_v0 (by decide) (nu_free (by decide))
                    have f0 : FRI _ _ _ (sI S1460 v0 4 x1481) := fri_sI g0 f0 o_v0 (by decide)
                    have fL3 : FRI _ _ _ (sI S1460 v0 4 x1481) := fri_sI gL2 fL3 o_v0 (by decide)
                    have fL1462 : FRI _ _ _ (sI S1460 v0 4 x1481) := fri_sI gL1461 fL1462 o_v0 (by decide)
                    have d_x1340 : x1340 = fI (sI S1460 v0 4 x1481) v0 7 := d_x1340.trans (rd_j (by decide)).symm
                    have d_x1478 : x1478 = fI (sI S1460 v0 4 x1481) v0 6 := d_x1478.trans (rd_j (by decide)).symm
                    have d_x1481 : x1481 = fI (sI S1460 v0 4 x1481) v0 4 := (u2_self _ _ _ _).symm
                    exact hq _ hI g0 f0 hT
              · refine ⟨o_v0, ?_⟩
                intro x1482 ex1482
                have q_x1482 : x1482 = y1474 := ex1482.trans d_y1474.symm
                have d_x1482 := ex1482
                intro x1483 ex1483
                have q_x1483 : x1483 = x1340 := ex1483.trans d_x1340.symm
                have d_x1483 := ex1483
                refine ⟨fun c1484 => ?_, fun c1484 => ?_⟩
                · refine u_X4_next_240 ?_
                  refine ⟨fun c1485 => ?_, fun c1485 => ?_⟩
                  · exact hq _ hI g0 f0 hT
                  · refine ⟨o_v0, ?_⟩
                    intro x1486 ex1486
                    have q_x1486 : x1486 = x1350 := ex1486.trans d_x1350.symm
                    have d_x1486 := ex1486
                    refine ⟨fun c1487 => ?_, fun c1487 => ?_⟩
                    · exact hq _ hI g0 f0 hT
                    · intro x1488 ex1488
                      have q_x1488 : x1488 = x1482 := ex1488.trans d_x1482.symm
                      have d_x1488 := ex1488
                      intro x1489 ex1489
                      have hI := iv_sI (j := 4) (v := x1489) hI o_v0 (by decide) (nu_free (by decide))
                      have f0 : FRI _ _ _ (sI S1460 v0 4 x1489) := fri_sI g0 f0 o_v0 (by decide)
                      have fL3 : FRI _ _ _ (sI S1460 v0 4 x1489) := fri_sI gL2 fL3 o_v0 (by decide)
                      have fL1462 : FRI _ _ _ (sI S1460 v0 4 x1489) := fri_sI gL1461 fL1462 o_v0 (by decide)
                      have d_x1483 : x1483 = fI (sI S1460 v0 4 x1489) v0 7 := d_x1483.trans (rd_j (by decide)).symm
                      have d_x1486 : x1486 = fI (sI S1460 v0 4 x1489) v0 6 := d_x1486.trans (rd_j (by decide)).symm
                      have d_x1489 : x1489 = fI (sI S1460 v0 4 x1489) v0 4 := (u2_self _ _ _ _).symm
                      exact hq _ hI g0 f0 hT
                · have hI := iv_sI (j := 6) (v := (6 : Int32)) hI o_v0 (by decide) (nu_free (by decide))
                  have f0 : FRI _ _ _ (sI S1460 v0 6 (6 : Int32)) := fri_sI g0 f0 o_v0 (by decide)
                  have fL3 : FRI _ _ _ (sI S1460 v0 6 (6 : Int32)) := fri_sI gL2 fL3 o_v0 (by decide)
                  have fL1462 : FRI _ _ _ (sI S1460 v0 6 (6 : Int32)) := fri_sI gL1461 fL1462 o_v0 (by decide)
                  have d_x1483 : x1483 = fI (sI S1460 v0 6 (6 : Int32)) v0 7 := d_x1483.trans (rd_j (by decide)).symm
                  have d_x1482 : x1482 = fI (sI S1460 v0 6 (6 : Int32)) v0 4 := d_x1482.trans (rd_j (by decide)).symm
                  obtain ⟨y1490, hy1490⟩ : ∃ z : Int32, z = (6 : Int32) := ⟨_, rfl⟩
                  have d_y1490 : y1490 = fI (sI S1460 v0 6 (6 : Int32)) v0 6 := hy1490.trans (u2_self _ _ _ _).symm
                  refine u_X4_next_240 ?_
                  refine ⟨fun c1491 => ?_, fun c1491 => ?_⟩
                  · exact hq _ hI g0 f0 hT
                  · refine ⟨o_v0, ?_⟩
                    intro x1492 ex1492
                    have q_x1492 : x1492 = y1490 := ex1492.trans d_y1490.symm
                    have d_x1492 := ex1492
                    refine ⟨fun c1493 => ?_, fun c1493 => ?_⟩
                    · exact hq _ hI g0 f0 hT
                    · intro x1494 ex1494
                      have q_x1494 : x1494 = x1482 := ex1494.trans d_x1482.symm
                      have d_x1494 := ex1494
                      intro x1495 ex1495
                      have hI := iv_sI (j := 4) (v := x1495) hI o_v0 (by decide) (nu_free (by decide))
                      have f0 : FRI _ _ _ (sI (sI S1460 v0 6 (6 : Int32)) v0 4 x1495) := fri_sI g0 f0 o_v0 (by decide)
                      have fL3 : FRI _ _ _ (sI (sI S1460 v0 6 (6 : Int32)) v0 4 x1495) := fri_sI gL2 fL3 o_v0 (by decide)
                      have fL1462 : FRI _ _ _ (sI (sI S1460 v0 6 (6 : Int32)) v0 4 x1495) := fri_sI gL1461 fL1462 o_v0 (by decide)
                      have d_x1483 : x1483 = fI (sI (sI S1460 v0 6 (6 : Int32)) v0 4 x1495) v0 7 := d_x1483.trans (rd_j (by decide)).symm
                      have d_x1492 : x1492 = fI (sI (sI S1460 v0 6 (6 : Int32)) v0 4 x1495) v0 6 := d_x1492.trans (rd_j (by decide)).symm
                      have d_x1495 : x1495 = fI (sI (sI S1460 v0 6 (6 : Int32)) v0 4 x1495) v0 4 := (u2_self _ _ _ _).symm
                      exact hq _ hI g0 f0 hT
            · refine ⟨fun c1496 => ?_, fun c1496 => ?_⟩
              · refine u_X4_next_217 ?_
                refine ⟨fun c1497 => ?_, fun c1497 => ?_⟩
                · refine u_X4_next_240 ?_
                  refine ⟨fun c1498 => ?_, fun c1498 => ?_⟩
                  · exact hq _ hI g0 f0 hT
                  · refine ⟨o_v0, ?_⟩
                    intro x1499 ex1499
                    have q_x1499 : x1499 = x1350 := ex1499.trans d_x1350.symm
                    have d_x1499 := ex1499
                    refine ⟨fun c1500 => ?_, fun c1500 => ?_⟩
                    · exact hq _ hI g0 f0 hT
                    · intro x1501 ex1501
                      have q_x1501 : x1501 = y1474 := ex1501.trans d_y1474.symm
                      have d_x1501 := ex1501
                      intro x1502 ex1502
                      have hI := iv_sI (j := 4) (v := x1502) hI o_v0 (by decide) (nu_free (by decide))
                      have f0 : FRI _ _ _ (sI S1460 v0 4 x1502) := fri_sI g0 f0 o_v0 (by decide)
                      have fL3 : FRI _ _ _ (sI S1460 v0 4 x1502) := fri_sI gL2 fL3 o_v0 (by decide)
                      have fL1462 : FRI _ _ _ (sI S1460 v0 4 x1502) := fri_sI gL1461 fL1462 o_v0 (by decide)
                      have d_x1340 : x1340 = fI (sI S1460 v0 4 x1502) v0 7 := d_x1340.trans (rd_j (by decide)).symm
                      have d_x1499 : x1499 = fI (sI S1460 v0 4 x1502) v0 6 := d_x1499.trans (rd_j (by decide)).symm
                      have d_x1502 : x1502 = fI (sI S1460 v0 4 x1502) v0 4 := (u2_self _ _ _ _).symm
                      exact hq _ hI g0 f0 hT
                · refine ⟨o_v0, ?_⟩
                  intro x1503 ex1503
                  have q_x1503 : x1503 = y1474 := ex1503.trans d_y1474.symm
                  have d_x1503 := ex1503
                  intro x1504 ex1504
                  have q_x1504 : x1504 = x1340 := ex1504.trans d_x1340.symm
                  have d_x1504 := ex1504
                  refine ⟨fun c1505 => ?_, fun c1505 => ?_⟩
                  · refine u_X4_next_240 ?_
                    refine ⟨fun c1506 => ?_, fun c1506 => ?_⟩
                    · exact hq _ hI g0 f0 hT
                    · refine ⟨o_v0, ?_⟩
                      intro x1507 ex1507
                      have q_x1507 : x1507 = x1350 := ex1507.trans d_x1350.symm
                      have d_x1507 := ex1507
                      refine ⟨fun c1508 => ?_, fun c1508 => ?_⟩
                      · exact hq _ hI g0 f0 hT
                      · intro x1509 ex1509
                        have q_x1509 : x1509 = x1503 := ex1509.trans d_x1503.symm
                        have d_x1509 := ex1509
                        intro x1510 ex1510
                        have hI := iv_sI (j := 4) (v := x1510) hI o_v0 (by decide) (nu_free (by decide))
                        have f0 : FRI _ _ _ (sI S1460 v0 4 x1510) := fri_sI g0 f0 o_v0 (by decide)
                        have fL3 : FRI _ _ _ (sI S1460 v0 4 x1510) := fri_sI gL2 fL3 o_v0 (by decide)
                        have fL1462 : FRI _ _ _ (sI S1460 v0 4 x1510) := fri_sI gL1461 fL1462 o_v0 (by decide)
                        have d_x1504 : x1504 = fI (sI S1460 v0 4 x1510) v0 7 := d_x1504.trans (rd_j (by decide)).symm
                        have d_x1507 : x1507 = fI (sI S1460 v0 4 x1510) v0 6 := d_x1507.trans (rd_j (by decide)).symm
                        have d_x1510 : x1510 = fI (sI S1460 v0 4 x1510) v0 4 := (u2_self _ _ _ _).symm
                        exact hq _ hI g0 f0 hT
                  · have hI := iv_sI (j := 6) (v := (6 : Int32)) hI o_v0 (by decide) (nu_free (by decide))
                    have f0 : FRI _ _ _ (sI S1460 v0 6 (6 : Int32)) := fri_sI g0 f0 o_v0 (by decide)
                    have fL3 : FRI _ _ _ (sI S1460 v0 6 (6 : Int32)) := fri_sI gL2 fL3 o_v0 (by decide)
                    have fL1462 : FRI _ _ _ (sI S1460 v0 6 (6 : Int32)) := fri_sI gL1461 fL1462 o_v0 (by decide)
                    have d_x1504 : x1504 = fI (sI S1460 v0 6 (6 : Int32)) v0 7 := d_x1504.trans (rd_j (by decide)).symm
                    have d_x1503 : x1503 = fI (sI S1460 v0 6 (6 : Int32)) v0 4 := d_x1503.trans (rd_j (by decide)).symm
                    obtain ⟨y1511, hy1511⟩ : ∃ z : Int32, z = (6 : Int32) := ⟨_, rfl⟩
                    have d_y1511 : y1511 = fI (sI S1460 v0 6 (6 : Int32)) v0 6 := hy1511.trans (u2_self _ _ _ _).symm
                    refine u_X4_next_240 ?_
                    refine ⟨fun c1512 => ?_, fun c1512 => ?_⟩
                    · exact hq _ hI g0 f0 hT
                    · refine ⟨o_v0, ?_⟩
                      intro x1513 ex1513
                      have q_x1513 : x1513 = y1511 := ex1513.trans d_y1511.symm
                      have d_x1513 := ex1513
                      refine ⟨fun c1514 => ?_, fun c1514 => ?_⟩
                      · exact hq _ hI g0 f0 hT
                      · intro x1515 ex1515
                        have q_x1515 : x1515 = x1503 := ex1515.trans d_x1503.symm
                        have d_x1515 := ex1515
                        intro x1516 ex1516
                        have hI := iv_sI (j := 4) (v := x1516) hI o_v0 (by decide) (nu_free (by decide))
                        have f0 : FRI _ _ _ (sI (sI S1460 v0 6 (6 : Int32)) v0 4 x1516) := fri_sI g0 f0 o_v0 (by decide)
                        have fL3 : FRI _ _ _ (sI (sI S1460 v0 6 (6 : Int32)) v0 4 x1516) := fri_sI gL2 fL3 o_v0 (by decide)
                        have fL1462 : FRI _ _ _ (sI (sI S1460 v0 6 (6 : Int32)) v0 4 x1516) := fri_sI gL1461 fL1462 o_v0 (by decide)
                        have d_x1504 : x1504 = fI (sI (sI S1460 v0 6 (6 : Int32)) v0 4 x1516) v0 7 := d_x1504.trans (rd_j (by decide)).symm
                        have d_x1513 : x1513 = fI (sI (sI S1460 v0 6 (6 : Int32)) v0 4 x1516) v0 6 := d_x1513.trans (rd_j (by decide)).symm
                        have d_x1516 : x1516 = fI (sI (sI S1460 v0 6 (6 : Int32)) v0 4 x1516) v0 4 := (u2_self _ _ _ _).symm
                        exact hq _ hI g0 f0 hT
              · refine ⟨o_v0, ?_⟩
                intro x1517 ex1517
                have q_x1517 : x1517 = y1474 := ex1517.trans d_y1474.symm
                have d_x1517 := ex1517
                refine m_X4_sortAt hI o_v0 hT (fun x1518 S1519 hI2 g1520 p_x1518 => ?_)
                obtain ⟨z_S1519, p_x1518⟩ := p_x1518
                subst z_S1519
                intro _
                intro x1522 ex1522
                have q_x1522 : x1522 = x1350 := ex1522.trans d_x1350.symm
                have d_x1522 := ex1522
                refine ⟨fun c1523 => ?_, fun c1523 => ?_⟩
                · refine u_X4_next_217 ?_
                  refine ⟨fun c1524 => ?_, fun c1524 => ?_⟩
                  · refine u_X4_next_240 ?_
                    refine ⟨fun c1525 => ?_, fun c1525 => ?_⟩
                    · exact hq _ hI g0 f0 hT
                    · refine ⟨o_v0, ?_⟩
                      intro x1526 ex1526
                      have q_x1526 : x1526 = x1522 := ex1526.trans d_x1522.symm
                      have d_x1526 := ex1526
                      refine ⟨fun c1527 => ?_, fun c1527 => ?_⟩
                      · exact hq _ hI g0 f0 hT
                      · intro x1528 ex1528
                        have q_x1528 : x1528 = x1517 := ex1528.trans d_x1517.symm
                        have d_x1528 := ex1528
                        intro x1529 ex1529
                        have hI := iv_sI (j := 4) (v := x1529) hI o_v0 (by decide) (nu_free (by decide))
                        have f0 : FRI _ _ _ (sI S1460 v0 4 x1529) := fri_sI g0 f0 o_v0 (by decide)
                        have fL3 : FRI _ _ _ (sI S1460 v0 4 x1529) := fri_sI gL2 fL3 o_v0 (by decide)
                        have fL1462 : FRI _ _ _ (sI S1460 v0 4 x1529) := fri_sI gL1461 fL1462 o_v0 (by decide)
                        have d_x1340 : x1340 = fI (sI S1460 v0 4 x1529) v0 7 := d_x1340.trans (rd_j (by decide)).symm
                        have d_x1526 : x1526 = fI (sI S1460 v0 4 x1529) v0 6 := d_x1526.trans (rd_j (by decide)).symm
                        have d_x1529 : x1529 = fI (sI S1460 v0 4 x1529) v0 4 := (u2_self _ _ _ _).symm
                        exact hq _ hI g0 f0 hT
                  · refine ⟨o_v0, ?_⟩
                    intro x1530 ex1530
                    have q_x1530 : x1530 = x1517 := ex1530.trans d_x1517.symm
                    have d_x1530 := ex1530
                    intro x1531 ex1531
                    have q_x1531 : x1531 = x1340 := ex1531.trans d_x1340.symm
                    have d_x1531 := ex1531
                    refine ⟨fun c1532 => ?_, fun c1532 => ?_⟩
                    · refine u_X4_next_240 ?_
                      refine ⟨fun c1533 => ?_, fun c1533 => ?_⟩
                      · exact hq _ hI g0 f0 hT
                      · refine ⟨o_v0, ?_⟩
                        intro x1534 ex1534
                        have q_x1534 : x1534 = x1522 := ex1534.trans d_x1522.symm
                        have d_x1534 := ex1534
                        refine ⟨fun c1535 => ?_, fun c1535 => ?_⟩
                        · exact hq _ hI g0 f0 hT
                        · intro x1536 ex1536
                          have q_x1536 : x1536 = x1530 := ex1536.trans d_x1530.symm
                          have d_x1536 := ex1536
                          intro x1537 ex1537
                          have hI := iv_sI (j := 4) (v := x1537) hI o_v0 (by decide) (nu_free (by decide))
                          have f0 : FRI _ _ _ (sI S1460 v0 4 x1537) := fri_sI g0 f0 o_v0 (by decide)
                          have fL3 : FRI _ _ _ (sI S1460 v0 4 x1537) := fri_sI gL2 fL3 o_v0 (by decide)
                          have fL1462 : FRI _ _ _ (sI S1460 v0 4 x1537) := fri_sI gL1461 fL1462 o_v0 (by decide)
                          have d_x1531 : x1531 = fI (sI S1460 v0 4 x1537) v0 7 := d_x1531.trans (rd_j (by decide)).symm
                          have d_x1534 : x1534 = fI (sI S1460 v0 4 x1537) v0 6 := d_x1534.trans (rd_j (by decide)).symm
                          have d_x1537 : x1537 = fI (sI S1460 v0 4 x1537) v0 4 := (u2_self _ _ _ _).symm
                          exact hq _ hI g0 f0 hT
                    · have hI := iv_sI (j := 6) (v := (6 : Int32)) hI o_v0 (by decide) (nu_free (by decide))
                      have f0 : FRI _ _ _ (sI S1460 v0 6 (6 : Int32)) := fri_sI g0 f0 o_v0 (by decide)
                      have fL3 : FRI _ _ _ (sI S1460 v0 6 (6 : Int32)) := fri_sI gL2 fL3 o_v0 (by decide)
                      have fL1462 : FRI _ _ _ (sI S1460 v0 6 (6 : Int32)) := fri_sI gL1461 fL1462 o_v0 (by decide)
                      have d_x1531 : x1531 = fI (sI S1460 v0 6 (6 : Int32)) v0 7 := d_x1531.trans (rd_j (by decide)).symm
                      have d_x1530 : x1530 = fI (sI S1460 v0 6 (6 : Int32)) v0 4 := d_x1530.trans (rd_j (by decide)).symm
                      obtain ⟨y1538, hy1538⟩ : ∃ z : Int32, z = (6 : Int32) := ⟨_, rfl⟩
                      have d_y1538 : y1538 = fI (sI S1460 v0 6 (6 : Int32)) v0 6 := hy1538.trans (u2_self _ _ _ _).symm
                      refine u_X4_next_240 ?_
                      refine ⟨fun c1539 => ?_, fun c1539 => ?_⟩
                      · exact hq _ hI g0 f0 hT
                      · refine ⟨o_v0, ?_⟩
                        intro x1540 ex1540
                        have q_x1540 : x1540 = y1538 := ex1540.trans d_y1538.symm
                        have d_x1540 := ex1540
                        refine ⟨fun c1541 => ?_, fun c1541 => ?_⟩
                        · exact hq _ hI g0 f0 hT
                        · intro x1542 ex1542
                          have q_x1542 : x1542 = x1530 := ex1542.trans d_x1530.symm
                          have d_x1542 := ex1542
                          intro x1543 ex1543
                          have hI := iv_sI (j := 4) (v := x1543) hI o_v0 (by decide) (nu_free (by decide))
                          have f0 : FRI _ _ _ (sI (sI S1460 v0 6 (6 : Int32)) v0 4 x1543) := fri_sI g0 f0 o_v0 (by decide)
                          have fL3 : FRI _ _ _ (sI (sI S1460 v0 6 (6 : Int32)) v0 4 x1543) := fri_sI gL2 fL3 o_v0 (by decide)
                          have fL1462 : FRI _ _ _ (sI (sI S1460 v0 6 (6 : Int32)) v0 4 x1543) := fri_sI gL1461 fL1462 o_v0 (by decide)
                          have d_x1531 : x1531 = fI (sI (sI S1460 v0 6 (6 : Int32)) v0 4 x1543) v0 7 := d_x1531.trans (rd_j (by decide)).symm
                          have d_x1540 : x1540 = fI (sI (sI S1460 v0 6 (6 : Int32)) v0 4 x1543) v0 6 := d_x1540.trans (rd_j (by decide)).symm
                          have d_x1543 : x1543 = fI (sI (sI S1460 v0 6 (6 : Int32)) v0 4 x1543) v0 4 := (u2_self _ _ _ _).symm
                          exact hq _ hI g0 f0 hT
                · refine ⟨fun c1544 => ?_, fun c1544 => ?_⟩
                  · refine u_X4_next_201 ?_
                    refine ⟨o_v0, ?_⟩
                    intro x1545 ex1545
                    have q_x1545 : x1545 = x1517 := ex1545.trans d_x1517.symm
                    have d_x1545 := ex1545
                    intro x1546 ex1546
                    have hI := iv_sI (j := 4) (v := x1546) hI o_v0 (by decide) (nu_free (by decide))
                    have f0 : FRI _ _ _ (sI S1460 v0 4 x1546) := fri_sI g0 f0 o_v0 (by decide)
                    have fL3 : FRI _ _ _ (sI S1460 v0 4 x1546) := fri_sI gL2 fL3 o_v0 (by decide)
                    have fL1462 : FRI _ _ _ (sI S1460 v0 4 x1546) := fri_sI gL1461 fL1462 o_v0 (by decide)
                    have d_x1340 : x1340 = fI (sI S1460 v0 4 x1546) v0 7 := d_x1340.trans (rd_j (by decide)).symm
                    have d_x1522 : x1522 = fI (sI S1460 v0 4 x1546) v0 6 := d_x1522.trans (rd_j (by decide)).symm
                    have d_x1546 : x1546 = fI (sI S1460 v0 4 x1546) v0 4 := (u2_self _ _ _ _).symm
                    intro x1547 ex1547
                    exact ih1473 _ _ _ _ _ _ ⟨hI, gL1461, fL1462, rfl, rfl, rfl, rfl, hT, (q478 i1 c9 p_x1335 c1339 q_x1340 q_x1341 p_x1342 q_x1346 c1347 q_x1348 c1349 q_x1350 c1351 i1 p_k1 c1496 q_x1517 p_x1518 q_x1522 c1523 c1544 q_x1545 ex1546 ex1547), (by rw [← d_x1522, ← d_x1546]; exact (q479 i1 c9 p_x1335 c1339 q_x1340 q_x1341 p_x1342 q_x1346 c1347 q_x1348 c1349 q_x1350 c1351 i1 p_k1 c1496 q_x1517 p_x1518 q_x1522 c1523 c1544 q_x1545 ex1546 ex1547))⟩ (mu_up (q480 i1 c9 p_x1335 c1339 q_x1340 q_x1341 p_x1342 q_x1346 c1347 q_x1348 c1349 q_x1350 c1351 i1 p_k1 c1496 q_x1517 p_x1518 q_x1522 c1523 c1544 q_x1545 ex1546 ex1547) (q481 i1 c9 p_x1335 c1339 q_x1340 q_x1341 p_x1342 q_x1346 c1347 q_x1348 c1349 q_x1350 c1351 i1 p_k1 c1496 q_x1517 p_x1518 q_x1522 c1523 c1544 q_x1545 ex1546 ex1547))
                  · intro x1548 ex1548
                    have q_x1548 : x1548 = x1517 := ex1548.trans d_x1517.symm
                    have d_x1548 := ex1548
                    obtain ⟨a1549, ea1549, o_a1549, l_a1549⟩ := hT
                    refine ⟨a1549, ea1549, ?_⟩
                    refine ⟨o_a1549, ?_⟩
                    have n_a1549 : nI (hN S1460 a1549) = 900 := by rw [show hN S1460 a1549 = 900 from l_a1549]; decide
                    refine ⟨fun c1550 => ?_, fun c1550 => ?_⟩
                    · rw [n_a1549] at c1550
                      refine u_X4_next_201 ?_
                      refine ⟨o_v0, ?_⟩
                      intro x1551 ex1551
                      have q_x1551 : x1551 = x1548 := ex1551.trans d_x1548.symm
                      have d_x1551 := ex1551
                      intro x1552 ex1552
                      have hI := iv_sI (j := 4) (v := x1552) hI o_v0 (by decide) (nu_free (by decide))
                      have f0 : FRI _ _ _ (sI S1460 v0 4 x1552) := fri_sI g0 f0 o_v0 (by decide)
                      have fL3 : FRI _ _ _ (sI S1460 v0 4 x1552) := fri_sI gL2 fL3 o_v0 (by decide)
                      have fL1462 : FRI _ _ _ (sI S1460 v0 4 x1552) := fri_sI gL1461 fL1462 o_v0 (by decide)
                      have d_x1340 : x1340 = fI (sI S1460 v0 4 x1552) v0 7 := d_x1340.trans (rd_j (by decide)).symm
                      have d_x1522 : x1522 = fI (sI S1460 v0 4 x1552) v0 6 := d_x1522.trans (rd_j (by decide)).symm
                      have d_x1552 : x1552 = fI (sI S1460 v0 4 x1552) v0 4 := (u2_self _ _ _ _).symm
                      intro x1553 ex1553
                      exact ih1473 _ _ _ _ _ _ ⟨hI, gL1461, fL1462, rfl, rfl, rfl, rfl, hT, (q482 i1 c9 p_x1335 c1339 q_x1340 q_x1341 p_x1342 q_x1346 c1347 q_x1348 c1349 q_x1350 c1351 i1 p_k1 c1496 q_x1517 p_x1518 q_x1522 c1523 c1544 q_x1548 c1550 q_x1551 ex1552 ex1553), (by rw [← d_x1522, ← d_x1552]; exact (q483 i1 c9 p_x1335 c1339 q_x1340 q_x1341 p_x1342 q_x1346 c1347 q_x1348 c1349 q_x1350 c1351 i1 p_k1 c1496 q_x1517 p_x1518 q_x1522 c1523 c1544 q_x1548 c1550 q_x1551 ex1552 ex1553))⟩ (mu_up (q484 i1 c9 p_x1335 c1339 q_x1340 q_x1341 p_x1342 q_x1346 c1347 q_x1348 c1349 q_x1350 c1351 i1 p_k1 c1496 q_x1517 p_x1518 q_x1522 c1523 c1544 q_x1548 c1550 q_x1551 ex1552 ex1553) (q485 i1 c9 p_x1335 c1339 q_x1340 q_x1341 p_x1342 q_x1346 c1347 q_x1348 c1349 q_x1350 c1351 i1 p_k1 c1496 q_x1517 p_x1518 q_x1522 c1523 c1544 q_x1548 c1550 q_x1551 ex1552 ex1553))
                    · rw [n_a1549] at c1550
                      intro x1554 ex1554
                      have dj_x1554 := ex1554
                      refine ⟨a1549, ea1549, ?_⟩
                      intro x1556 ex1556
                      have q_x1556 : x1556 = x1548 := ex1556.trans d_x1548.symm
                      have d_x1556 := ex1556
                      refine ⟨o_a1549, ?_⟩
                      refine ⟨(vin l_a1549 (m := 900) (by decide) (q486 i1 c9 p_x1335 c1339 q_x1340 q_x1341 p_x1342 q_x1346 c1347 q_x1348 c1349 q_x1350 c1351 i1 p_k1 c1496 q_x1517 p_x1518 q_x1522 c1523 c1544 q_x1548 c1550 q_x1556)), ?_⟩
                      intro x1557 ex1557
                      intro x1558 ex1558
                      have q_x1558 : x1558 = x1522 := ex1558.trans d_x1522.symm
                      have d_x1558 := ex1558
                      refine ⟨fun c1559 => ?_, fun c1559 => ?_⟩
                      · refine u_X4_next_195 ?_
                        refine ⟨o_v0, ?_⟩
                        intro x1560 ex1560
                        have hI := iv_sJ (j := 8) (v := x1560) hI o_v0 (by decide)
                        refine u_X4_next_201 ?_
                        refine ⟨o_v0, ?_⟩
                        intro x1561 ex1561
                        have q_x1561 : x1561 = x1556 := ex1561.trans d_x1556.symm
                        have d_x1561 := ex1561
                        intro x1562 ex1562
                        have hI := iv_sI (j := 4) (v := x1562) hI o_v0 (by decide) (nu_free (by decide))
                        have f0 : FRI _ _ _ (sI (sJ S1460 v0 8 x1560) v0 4 x1562) := fri_sI g0 f0 o_v0 (by decide)
                        have fL3 : FRI _ _ _ (sI (sJ S1460 v0 8 x1560) v0 4 x1562) := fri_sI gL2 fL3 o_v0 (by decide)
                        have fL1462 : FRI _ _ _ (sI (sJ S1460 v0 8 x1560) v0 4 x1562) := fri_sI gL1461 fL1462 o_v0 (by decide)
                        have d_x1340 : x1340 = fI (sI (sJ S1460 v0 8 x1560) v0 4 x1562) v0 7 := d_x1340.trans (rd_j (by decide)).symm
                        have d_x1558 : x1558 = fI (sI (sJ S1460 v0 8 x1560) v0 4 x1562) v0 6 := d_x1558.trans (rd_j (by decide)).symm
                        have d_x1562 : x1562 = fI (sI (sJ S1460 v0 8 x1560) v0 4 x1562) v0 4 := (u2_self _ _ _ _).symm
                        intro x1563 ex1563
                        exact ih1473 _ _ _ _ _ _ ⟨hI, gL1461, fL1462, rfl, rfl, rfl, rfl, hT, (q487 i1 c9 p_x1335 c1339 q_x1340 q_x1341 p_x1342 q_x1346 c1347 q_x1348 c1349 q_x1350 c1351 i1 p_k1 c1496 q_x1517 p_x1518 q_x1522 c1523 c1544 q_x1548 c1550 q_x1556 q_x1558 c1559 q_x1561 ex1562 ex1563), (by rw [← d_x1558, ← d_x1562]; exact (q488 i1 c9 p_x1335 c1339 q_x1340 q_x1341 p_x1342 q_x1346 c1347 q_x1348 c1349 q_x1350 c1351 i1 p_k1 c1496 q_x1517 p_x1518 q_x1522 c1523 c1544 q_x1548 c1550 q_x1556 q_x1558 c1559 q_x1561 ex1562 ex1563))⟩ (mu_up (q489 i1 c9 p_x1335 c1339 q_x1340 q_x1341 p_x1342 q_x1346 c1347 q_x1348 c1349 q_x1350 c1351 i1 p_k1 c1496 q_x1517 p_x1518 q_x1522 c1523 c1544 q_x1548 c1550 q_x1556 q_x1558 c1559 q_x1561 ex1562 ex1563) (q490 i1 c9 p_x1335 c1339 q_x1340 q_x1341 p_x1342 q_x1346 c1347 q_x1348 c1349 q_x1350 c1351 i1 p_k1 c1496 q_x1517 p_x1518 q_x1522 c1523 c1544 q_x1548 c1550 q_x1556 q_x1558 c1559 q_x1561 ex1562 ex1563))
                      · refine u_X4_next_195 ?_
                        refine ⟨o_v0, ?_⟩
                        intro x1564 ex1564
                        have hI := iv_sJ (j := 8) (v := x1564) hI o_v0 (by decide)
                        refine u_X4_next_201 ?_
                        refine ⟨o_v0, ?_⟩
                        intro x1565 ex1565
                        have q_x1565 : x1565 = x1556 := ex1565.trans d_x1556.symm
                        have d_x1565 := ex1565
                        intro x1566 ex1566
                        have hI := iv_sI (j := 4) (v := x1566) hI o_v0 (by decide) (nu_free (by decide))
                        have f0 : FRI _ _ _ (sI (sJ S1460 v0 8 x1564) v0 4 x1566) := fri_sI g0 f0 o_v0 (by decide)
                        have fL3 : FRI _ _ _ (sI (sJ S1460 v0 8 x1564) v0 4 x1566) := fri_sI gL2 fL3 o_v0 (by decide)
                        have fL1462 : FRI _ _ _ (sI (sJ S1460 v0 8 x1564) v0 4 x1566) := fri_sI gL1461 fL1462 o_v0 (by decide)
                        have d_x1340 : x1340 = fI (sI (sJ S1460 v0 8 x1564) v0 4 x1566) v0 7 := d_x1340.trans (rd_j (by decide)).symm
                        have d_x1558 : x1558 = fI (sI (sJ S1460 v0 8 x1564) v0 4 x1566) v0 6 := d_x1558.trans (rd_j (by decide)).symm
                        have d_x1566 : x1566 = fI (sI (sJ S1460 v0 8 x1564) v0 4 x1566) v0 4 := (u2_self _ _ _ _).symm
                        intro x1567 ex1567
                        exact ih1473 _ _ _ _ _ _ ⟨hI, gL1461, fL1462, rfl, rfl, rfl, rfl, hT, (q491 i1 c9 p_x1335 c1339 q_x1340 q_x1341 p_x1342 q_x1346 c1347 q_x1348 c1349 q_x1350 c1351 i1 p_k1 c1496 q_x1517 p_x1518 q_x1522 c1523 c1544 q_x1548 c1550 q_x1556 q_x1558 c1559 q_x1565 ex1566 ex1567), (by rw [← d_x1558, ← d_x1566]; exact (q492 i1 c9 p_x1335 c1339 q_x1340 q_x1341 p_x1342 q_x1346 c1347 q_x1348 c1349 q_x1350 c1351 i1 p_k1 c1496 q_x1517 p_x1518 q_x1522 c1523 c1544 q_x1548 c1550 q_x1556 q_x1558 c1559 q_x1565 ex1566 ex1567))⟩ (mu_up (q493 i1 c9 p_x1335 c1339 q_x1340 q_x1341 p_x1342 q_x1346 c1347 q_x1348 c1349 q_x1350 c1351 i1 p_k1 c1496 q_x1517 p_x1518 q_x1522 c1523 c1544 q_x1548 c1550 q_x1556 q_x1558 c1559 q_x1565 ex1566 ex1567) (q494 i1 c9 p_x1335 c1339 q_x1340 q_x1341 p_x1342 q_x1346 c1347 q_x1348 c1349 q_x1350 c1351 i1 p_k1 c1496 q_x1517 p_x1518 q_x1522 c1523 c1544 q_x1548 c1550 q_x1556 q_x1558 c1559 q_x1565 ex1566 ex1567))
        · refine u_X4_next_98 ?_
          refine ⟨o_v0, ?_⟩
          intro x1568 ex1568
          have q_x1568 : x1568 = x1348 := ex1568.trans d_x1348.symm
          have d_x1568 := ex1568
          refine ⟨fun c1569 => ?_, fun c1569 => ?_⟩
          · refine u_X4_next_114 ?_
            refine i_X4_next_118 (fun (y0 : Nat) (y1 : Int32) (y2 : Int32) (y3 : Int32) (y4 : Int32) (Z : HS) => ((2147483647 : Int32).toInt - y4.toInt).toNat) (fun (y0 : Nat) (y1 : Int32) (y2 : Int32) (y3 : Int32) (y4 : Int32) (Z : HS) => (IV Z) ∧ (Gr (sJ (sI (sI S1 v0 7 x1340) v0 6 x1342) v0 8 (0 : Int64)) Z) ∧ (FRI [(4, 4)] [] (sJ (sI (sI S1 v0 7 x1340) v0 6 x1342) v0 8 (0 : Int64)) Z) ∧ (v0 = y0) ∧ ((1 : Int32) = y1) ∧ ((8 : Int32) = y2) ∧ ((10 : Int32) = y3) ∧ (TX Z v0) ∧ (0 ≤ y4) ∧ ((y1 = 0 ∨ fI Z v0 6 = 1 ∨ fI Z v0 6 = 2) ∧ (y1 = 0 → fI Z v0 6 = 0 ∨ (0 ≤ fI Z v0 4 ∧ fI Z v0 4 < 900)))) ?_ _ _ _ _ _ _ ⟨hI, (gr_rf _), (fri_rf _ _ _), rfl, rfl, rfl, rfl, hT, (q495 i1 c9 p_x1335 c1339 q_x1340 q_x1341 p_x1342 q_x1346 c1347 q_x1348 c1349 q_x1568 c1569), (by rw [← d_x1568, ← d_x1341]; exact (q496 i1 c9 p_x1335 c1339 q_x1340 q_x1341 p_x1342 q_x1346 c1347 q_x1348 c1349 q_x1568 c1569))⟩
            intro w1573 w1575 w1577 w1579 w1581 S1570 X1582 ⟨hI, gL1571, fL1572, q1574, q1576, q1578, q1580, hT, i1, k1⟩ ih1583
            subst q1574
            subst q1576
            subst q1578
            subst q1580
            have d_x1340 := d_x1340.trans (fri_at fL1572 (by decide) (by decide) o_v0).symm
            have d_x1568 := d_x1568.trans (fri_at fL1572 (by decide) (by decide) o_v0).symm
            have f0 := fri_tr g0 f0 fL1572 (by decide) (by decide)
            have fL3 := fri_tr gL2 fL3 fL1572 (by decide) (by decide)
            have o_v0 := gr_ob gL1571 o_v0
            have g0 := gr_tr g0 gL1571
            have gL2 := gr_tr gL2 gL1571
            obtain ⟨y1584, d_y1584⟩ : ∃ z : Int32, z = fI S1570 v0 4 := ⟨_, rfl⟩
            have p_k1 : ((1 : Int32) = 0 ∨ x1568 = 1 ∨ x1568 = 2) ∧ ((1 : Int32) = 0 → x1568 = 0 ∨ (0 ≤ y1584 ∧ y1584 < 900)) := by rw [d_x1568, d_y1584]; exact k1
            refine u_X4_next_118 ?_
            refine ⟨fun c1585 => ?_, fun c1585 => ?_⟩
            · refine u_X4_next_217 ?_
              refine ⟨fun c1586 => ?_, fun c1586 => ?_⟩
              · refine u_X4_next_240 ?_
                refine ⟨fun c1587 => ?_, fun c1587 => ?_⟩
                · exact hq _ hI g0 f0 hT
                · refine ⟨o_v0, ?_⟩
                  intro x1588 ex1588
                  have q_x1588 : x1588 = x1568 := ex1588.trans d_x1568.symm
                  have d_x1588 := ex1588
                  refine ⟨fun c1589 => ?_, fun c1589 => ?_⟩
                  · exact hq _ hI g0 f0 hT
                  · intro x1590 ex1590
                    have q_x1590 : x1590 = y1584 := ex1590.trans d_y1584.symm
                    have d_x1590 := ex1590
                    intro x1591 ex1591
                    have hI := iv_sI (j := 4) (v := x1591) hI o_v0 (by decide) (nu_free (by decide))
                    have f0 : FRI _ _ _ (sI S1570 v0 4 x1591) := fri_sI g0 f0 o_v0 (by decide)
                    have fL3 : FRI _ _ _ (sI S1570 v0 4 x1591) := fri_sI gL2 fL3 o_v0 (by decide)
                    have fL1572 : FRI _ _ _ (sI S1570 v0 4 x1591) := fri_sI gL1571 fL1572 o_v0 (by decide)
                    have d_x1340 : x1340 = fI (sI S1570 v0 4 x1591) v0 7 := d_x1340.trans (rd_j (by decide)).symm
                    have d_x1588 : x1588 = fI (sI S1570 v0 4 x1591) v0 6 := d_x1588.trans (rd_j (by decide)).symm
                    have d_x1591 : x1591 = fI (sI S1570 v0 4 x1591) v0 4 := (u2_self _ _ _ _).symm
                    exact hq _ hI g0 f0 hT
              · refine ⟨o_v0, ?_⟩
                intro x1592 ex1592
                have q_x1592 : x1592 = y1584 := ex1592.trans d_y1584.symm
                have d_x1592 := ex1592
                intro x1593 ex1593
                have q_x1593 : x1593 = x1340 := ex1593.trans d_x1340.symm
                have d_x1593 := ex1593
                refine ⟨fun c1594 => ?_, fun c1594 => ?_⟩
                · refine u_X4_next_240 ?_
                  refine ⟨fun c1595 => ?_, fun c1595 => ?_⟩
                  · exact hq _ hI g0 f0 hT
                  · refine ⟨o_v0, ?_⟩
                    intro x1596 ex1596
                    have q_x1596 : x1596 = x1568 := ex1596.trans d_x1568.symm
                    have d_x1596 := ex1596
                    refine ⟨fun c1597 => ?_, fun c1597 => ?_⟩
                    · exact hq _ hI g0 f0 hT
                    · intro x1598 ex1598
                      have q_x1598 : x1598 = x1592 := ex1598.trans d_x1592.symm
                      have d_x1598 := ex1598
                      intro x1599 ex1599
                      have hI := iv_sI (j := 4) (v := x1599) hI o_v0 (by decide) (nu_free (by decide))
                      have f0 : FRI _ _ _ (sI S1570 v0 4 x1599) := fri_sI g0 f0 o_v0 (by decide)
                      have fL3 : FRI _ _ _ (sI S1570 v0 4 x1599) := fri_sI gL2 fL3 o_v0 (by decide)
                      have fL1572 : FRI _ _ _ (sI S1570 v0 4 x1599) := fri_sI gL1571 fL1572 o_v0 (by decide)
                      have d_x1593 : x1593 = fI (sI S1570 v0 4 x1599) v0 7 := d_x1593.trans (rd_j (by decide)).symm
                      have d_x1596 : x1596 = fI (sI S1570 v0 4 x1599) v0 6 := d_x1596.trans (rd_j (by decide)).symm
                      have d_x1599 : x1599 = fI (sI S1570 v0 4 x1599) v0 4 := (u2_self _ _ _ _).symm
                      exact hq _ hI g0 f0 hT
                · have hI := iv_sI (j := 6) (v := (6 : Int32)) hI o_v0 (by decide) (nu_free (by decide))
                  have f0 : FRI _ _ _ (sI S1570 v0 6 (6 : Int32)) := fri_sI g0 f0 o_v0 (by decide)
                  have fL3 : FRI _ _ _ (sI S1570 v0 6 (6 : Int32)) := fri_sI gL2 fL3 o_v0 (by decide)
                  have fL1572 : FRI _ _ _ (sI S1570 v0 6 (6 : Int32)) := fri_sI gL1571 fL1572 o_v0 (by decide)
                  have d_x1593 : x1593 = fI (sI S1570 v0 6 (6 : Int32)) v0 7 := d_x1593.trans (rd_j (by decide)).symm
                  have d_x1592 : x1592 = fI (sI S1570 v0 6 (6 : Int32)) v0 4 := d_x1592.trans (rd_j (by decide)).symm
                  obtain ⟨y1600, hy1600⟩ : ∃ z : Int32, z = (6 : Int32) := ⟨_, rfl⟩
                  have d_y1600 : y1600 = fI (sI S1570 v0 6 (6 : Int32)) v0 6 := hy1600.trans (u2_self _ _ _ _).symm
                  refine u_X4_next_240 ?_
                  refine ⟨fun c1601 => ?_, fun c1601 => ?_⟩
                  · exact hq _ hI g0 f0 hT
                  · refine ⟨o_v0, ?_⟩
                    intro x1602 ex1602
                    have q_x1602 : x1602 = y1600 := ex1602.trans d_y1600.symm
                    have d_x1602 := ex1602
                    refine ⟨fun c1603 => ?_, fun c1603 => ?_⟩
                    · exact hq _ hI g0 f0 hT
                    · intro x1604 ex1604
                      have q_x1604 : x1604 = x1592 := ex1604.trans d_x1592.symm
                      have d_x1604 := ex1604
                      intro x1605 ex1605
                      have hI := iv_sI (j := 4) (v := x1605) hI o_v0 (by decide) (nu_free (by decide))
                      have f0 : FRI _ _ _ (sI (sI S1570 v0 6 (6 : Int32)) v0 4 x1605) := fri_sI g0 f0 o_v0 (by decide)
                      have fL3 : FRI _ _ _ (sI (sI S1570 v0 6 (6 : Int32)) v0 4 x1605) := fri_sI gL2 fL3 o_v0 (by decide)
                      have fL1572 : FRI _ _ _ (sI (sI S1570 v0 6 (6 : Int32)) v0 4 x1605) := fri_sI gL1571 fL1572 o_v0 (by decide)
                      have d_x1593 : x1593 = fI (sI (sI S1570 v0 6 (6 : Int32)) v0 4 x1605) v0 7 := d_x1593.trans (rd_j (by decide)).symm
                      have d_x1602 : x1602 = fI (sI (sI S1570 v0 6 (6 : Int32)) v0 4 x1605) v0 6 := d_x1602.trans (rd_j (by decide)).symm
                      have d_x1605 : x1605 = fI (sI (sI S1570 v0 6 (6 : Int32)) v0 4 x1605) v0 4 := (u2_self _ _ _ _).symm
                      exact hq _ hI g0 f0 hT
            · refine ⟨fun c1606 => ?_, fun c1606 => ?_⟩
              · refine u_X4_next_217 ?_
                refine ⟨fun c1607 => ?_, fun c1607 => ?_⟩
                · refine u_X4_next_240 ?_
                  refine ⟨fun c1608 => ?_, fun c1608 => ?_⟩
                  · exact hq _ hI g0 f0 hT
                  · refine ⟨o_v0, ?_⟩
                    intro x1609 ex1609
                    have q_x1609 : x1609 = x1568 := ex1609.trans d_x1568.symm
                    have d_x1609 := ex1609
                    refine ⟨fun c1610 => ?_, fun c1610 => ?_⟩
                    · exact hq _ hI g0 f0 hT
                    · intro x1611 ex1611
                      have q_x1611 : x1611 = y1584 := ex1611.trans d_y1584.symm
                      have d_x1611 := ex1611
                      intro x1612 ex1612
                      have hI := iv_sI (j := 4) (v := x1612) hI o_v0 (by decide) (nu_free (by decide))
                      have f0 : FRI _ _ _ (sI S1570 v0 4 x1612) := fri_sI g0 f0 o_v0 (by decide)
                      have fL3 : FRI _ _ _ (sI S1570 v0 4 x1612) := fri_sI gL2 fL3 o_v0 (by decide)
                      have fL1572 : FRI _ _ _ (sI S1570 v0 4 x1612) := fri_sI gL1571 fL1572 o_v0 (by decide)
                      have d_x1340 : x1340 = fI (sI S1570 v0 4 x1612) v0 7 := d_x1340.trans (rd_j (by decide)).symm
                      have d_x1609 : x1609 = fI (sI S1570 v0 4 x1612) v0 6 := d_x1609.trans (rd_j (by decide)).symm
                      have d_x1612 : x1612 = fI (sI S1570 v0 4 x1612) v0 4 := (u2_self _ _ _ _).symm
                      exact hq _ hI g0 f0 hT
                · refine ⟨o_v0, ?_⟩
                  intro x1613 ex1613
                  have q_x1613 : x1613 = y1584 := ex1613.trans d_y1584.symm
                  have d_x1613 := ex1613
                  intro x1614 ex1614
                  have q_x1614 : x1614 = x1340 := ex1614.trans d_x1340.symm
                  have d_x1614 := ex1614
                  refine ⟨fun c1615 => ?_, fun c1615 => ?_⟩
                  · refine u_X4_next_240 ?_
                    refine ⟨fun c1616 => ?_, fun c1616 => ?_⟩
                    · exact hq _ hI g0 f0 hT
                    · refine ⟨o_v0, ?_⟩
                      intro x1617 ex1617
                      have q_x1617 : x1617 = x1568 := ex1617.trans d_x1568.symm
                      have d_x1617 := ex1617
                      refine ⟨fun c1618 => ?_, fun c1618 => ?_⟩
                      · exact hq _ hI g0 f0 hT
                      · intro x1619 ex1619
                        have q_x1619 : x1619 = x1613 := ex1619.trans d_x1613.symm
                        have d_x1619 := ex1619
                        intro x1620 ex1620
                        have hI := iv_sI (j := 4) (v := x1620) hI o_v0 (by decide) (nu_free (by decide))
                        have f0 : FRI _ _ _ (sI S1570 v0 4 x1620) := fri_sI g0 f0 o_v0 (by decide)
                        have fL3 : FRI _ _ _ (sI S1570 v0 4 x1620) := fri_sI gL2 fL3 o_v0 (by decide)
                        have fL1572 : FRI _ _ _ (sI S1570 v0 4 x1620) := fri_sI gL1571 fL1572 o_v0 (by decide)
                        have d_x1614 : x1614 = fI (sI S1570 v0 4 x1620) v0 7 := d_x1614.trans (rd_j (by decide)).symm
                        have d_x1617 : x1617 = fI (sI S1570 v0 4 x1620) v0 6 := d_x1617.trans (rd_j (by decide)).symm
                        have d_x1620 : x1620 = fI (sI S1570 v0 4 x1620) v0 4 := (u2_self _ _ _ _).symm
                        exact hq _ hI g0 f0 hT
                  · have hI := iv_sI (j := 6) (v := (6 : Int32)) hI o_v0 (by decide) (nu_free (by decide))
                    have f0 : FRI _ _ _ (sI S1570 v0 6 (6 : Int32)) := fri_sI g0 f0 o_v0 (by decide)
                    have fL3 : FRI _ _ _ (sI S1570 v0 6 (6 : Int32)) := fri_sI gL2 fL3 o_v0 (by decide)
                    have fL1572 : FRI _ _ _ (sI S1570 v0 6 (6 : Int32)) := fri_sI gL1571 fL1572 o_v0 (by decide)
                    have d_x1614 : x1614 = fI (sI S1570 v0 6 (6 : Int32)) v0 7 := d_x1614.trans (rd_j (by decide)).symm
                    have d_x1613 : x1613 = fI (sI S1570 v0 6 (6 : Int32)) v0 4 := d_x1613.trans (rd_j (by decide)).symm
                    obtain ⟨y1621, hy1621⟩ : ∃ z : Int32, z = (6 : Int32) := ⟨_, rfl⟩
                    have d_y1621 : y1621 = fI (sI S1570 v0 6 (6 : Int32)) v0 6 := hy1621.trans (u2_self _ _ _ _).symm
                    refine u_X4_next_240 ?_
                    refine ⟨fun c1622 => ?_, fun c1622 => ?_⟩
                    · exact hq _ hI g0 f0 hT
                    · refine ⟨o_v0, ?_⟩
                      intro x1623 ex1623
                      have q_x1623 : x1623 = y1621 := ex1623.trans d_y1621.symm
                      have d_x1623 := ex1623
                      refine ⟨fun c1624 => ?_, fun c1624 => ?_⟩
                      · exact hq _ hI g0 f0 hT
                      · intro x1625 ex1625
                        have q_x1625 : x1625 = x1613 := ex1625.trans d_x1613.symm
                        have d_x1625 := ex1625
                        intro x1626 ex1626
                        have hI := iv_sI (j := 4) (v := x1626) hI o_v0 (by decide) (nu_free (by decide))
                        have f0 : FRI _ _ _ (sI (sI S1570 v0 6 (6 : Int32)) v0 4 x1626) := fri_sI g0 f0 o_v0 (by decide)
                        have fL3 : FRI _ _ _ (sI (sI S1570 v0 6 (6 : Int32)) v0 4 x1626) := fri_sI gL2 fL3 o_v0 (by decide)
                        have fL1572 : FRI _ _ _ (sI (sI S1570 v0 6 (6 : Int32)) v0 4 x1626) := fri_sI gL1571 fL1572 o_v0 (by decide)
                        have d_x1614 : x1614 = fI (sI (sI S1570 v0 6 (6 : Int32)) v0 4 x1626) v0 7 := d_x1614.trans (rd_j (by decide)).symm
                        have d_x1623 : x1623 = fI (sI (sI S1570 v0 6 (6 : Int32)) v0 4 x1626) v0 6 := d_x1623.trans (rd_j (by decide)).symm
                        have d_x1626 : x1626 = fI (sI (sI S1570 v0 6 (6 : Int32)) v0 4 x1626) v0 4 := (u2_self _ _ _ _).symm
                        exact hq _ hI g0 f0 hT
              · refine ⟨o_v0, ?_⟩
                intro x1627 ex1627
                have q_x1627 : x1627 = y1584 := ex1627.trans d_y1584.symm
                have d_x1627 := ex1627
                refine m_X4_sortAt hI o_v0 hT (fun x1628 S1629 hI2 g1630 p_x1628 => ?_)
                obtain ⟨z_S1629, p_x1628⟩ := p_x1628
                subst z_S1629
                intro _
                intro x1632 ex1632
                have q_x1632 : x1632 = x1568 := ex1632.trans d_x1568.symm
                have d_x1632 := ex1632
                refine ⟨fun c1633 => ?_, fun c1633 => ?_⟩
                · refine u_X4_next_217 ?_
                  refine ⟨fun c1634 => ?_, fun c1634 => ?_⟩
                  · refine u_X4_next_240 ?_
                    refine ⟨fun c1635 => ?_, fun c1635 => ?_⟩
                    · exact hq _ hI g0 f0 hT
                    · refine ⟨o_v0, ?_⟩
                      intro x1636 ex1636
                      have q_x1636 : x1636 = x1632 := ex1636.trans d_x1632.symm
                      have d_x1636 := ex1636
                      refine ⟨fun c1637 => ?_, fun c1637 => ?_⟩
                      · exact hq _ hI g0 f0 hT
                      · intro x1638 ex1638
                        have q_x1638 : x1638 = x1627 := ex1638.trans d_x1627.symm
                        have d_x1638 := ex1638
                        intro x1639 ex1639
                        have hI := iv_sI (j := 4) (v := x1639) hI o_v0 (by decide) (nu_free (by decide))
                        have f0 : FRI _ _ _ (sI S1570 v0 4 x1639) := fri_sI g0 f0 o_v0 (by decide)
                        have fL3 : FRI _ _ _ (sI S1570 v0 4 x1639) := fri_sI gL2 fL3 o_v0 (by decide)
                        have fL1572 : FRI _ _ _ (sI S1570 v0 4 x1639) := fri_sI gL1571 fL1572 o_v0 (by decide)
                        have d_x1340 : x1340 = fI (sI S1570 v0 4 x1639) v0 7 := d_x1340.trans (rd_j (by decide)).symm
                        have d_x1636 : x1636 = fI (sI S1570 v0 4 x1639) v0 6 := d_x1636.trans (rd_j (by decide)).symm
                        have d_x1639 : x1639 = fI (sI S1570 v0 4 x1639) v0 4 := (u2_self _ _ _ _).symm
                        exact hq _ hI g0 f0 hT
                  · refine ⟨o_v0, ?_⟩
                    intro x1640 ex1640
                    have q_x1640 : x1640 = x1627 := ex1640.trans d_x1627.symm
                    have d_x1640 := ex1640
                    intro x1641 ex1641
                    have q_x1641 : x1641 = x1340 := ex1641.trans d_x1340.symm
                    have d_x1641 := ex1641
                    refine ⟨fun c1642 => ?_, fun c1642 => ?_⟩
                    · refine u_X4_next_240 ?_
                      refine ⟨fun c1643 => ?_, fun c1643 => ?_⟩
                      · exact hq _ hI g0 f0 hT
                      · refine ⟨o_v0, ?_⟩
                        intro x1644 ex1644
                        have q_x1644 : x1644 = x1632 := ex1644.trans d_x1632.symm
                        have d_x1644 := ex1644
                        refine ⟨fun c1645 => ?_, fun c1645 => ?_⟩
                        · exact hq _ hI g0 f0 hT
                        · intro x1646 ex1646
                          have q_x1646 : x1646 = x1640 := ex1646.trans d_x1640.symm
                          have d_x1646 := ex1646
                          intro x1647 ex1647
                          have hI := iv_sI (j := 4) (v := x1647) hI o_v0 (by decide) (nu_free (by decide))
                          have f0 : FRI _ _ _ (sI S1570 v0 4 x1647) := fri_sI g0 f0 o_v0 (by decide)
                          have fL3 : FRI _ _ _ (sI S1570 v0 4 x1647) := fri_sI gL2 fL3 o_v0 (by decide)
                          have fL1572 : FRI _ _ _ (sI S1570 v0 4 x1647) := fri_sI gL1571 fL1572 o_v0 (by decide)
                          have d_x1641 : x1641 = fI (sI S1570 v0 4 x1647) v0 7 := d_x1641.trans (rd_j (by decide)).symm
                          have d_x1644 : x1644 = fI (sI S1570 v0 4 x1647) v0 6 := d_x1644.trans (rd_j (by decide)).symm
                          have d_x1647 : x1647 = fI (sI S1570 v0 4 x1647) v0 4 := (u2_self _ _ _ _).symm
                          exact hq _ hI g0 f0 hT
                    · have hI := iv_sI (j := 6) (v := (6 : Int32)) hI o_v0 (by decide) (nu_free (by decide))
                      have f0 : FRI _ _ _ (sI S1570 v0 6 (6 : Int32)) := fri_sI g0 f0 o_v0 (by decide)
                      have fL3 : FRI _ _ _ (sI S1570 v0 6 (6 : Int32)) := fri_sI gL2 fL3 o_v0 (by decide)
                      have fL1572 : FRI _ _ _ (sI S1570 v0 6 (6 : Int32)) := fri_sI gL1571 fL1572 o_v0 (by decide)
                      have d_x1641 : x1641 = fI (sI S1570 v0 6 (6 : Int32)) v0 7 := d_x1641.trans (rd_j (by decide)).symm
                      have d_x1640 : x1640 = fI (sI S1570 v0 6 (6 : Int32)) v0 4 := d_x1640.trans (rd_j (by decide)).symm
                      obtain ⟨y1648, hy1648⟩ : ∃ z : Int32, z = (6 : Int32) := ⟨_, rfl⟩
                      have d_y1648 : y1648 = fI (sI S1570 v0 6 (6 : Int32)) v0 6 := hy1648.trans (u2_self _ _ _ _).symm
                      refine u_X4_next_240 ?_
                      refine ⟨fun c1649 => ?_, fun c1649 => ?_⟩
                      · exact hq _ hI g0 f0 hT
                      · refine ⟨o_v0, ?_⟩
                        intro x1650 ex1650
                        have q_x1650 : x1650 = y1648 := ex1650.trans d_y1648.symm
                        have d_x1650 := ex1650
                        refine ⟨fun c1651 => ?_, fun c1651 => ?_⟩
                        · exact hq _ hI g0 f0 hT
                        · intro x1652 ex1652
                          have q_x1652 : x1652 = x1640 := ex1652.trans d_x1640.symm
                          have d_x1652 := ex1652
                          intro x1653 ex1653
                          have hI := iv_sI (j := 4) (v := x1653) hI o_v0 (by decide) (nu_free (by decide))
                          have f0 : FRI _ _ _ (sI (sI S1570 v0 6 (6 : Int32)) v0 4 x1653) := fri_sI g0 f0 o_v0 (by decide)
                          have fL3 : FRI _ _ _ (sI (sI S1570 v0 6 (6 : Int32)) v0 4 x1653) := fri_sI gL2 fL3 o_v0 (by decide)
                          have fL1572 : FRI _ _ _ (sI (sI S1570 v0 6 (6 : Int32)) v0 4 x1653) := fri_sI gL1571 fL1572 o_v0 (by decide)
                          have d_x1641 : x1641 = fI (sI (sI S1570 v0 6 (6 : Int32)) v0 4 x1653) v0 7 := d_x1641.trans (rd_j (by decide)).symm
                          have d_x1650 : x1650 = fI (sI (sI S1570 v0 6 (6 : Int32)) v0 4 x1653) v0 6 := d_x1650.trans (rd_j (by decide)).symm
                          have d_x1653 : x1653 = fI (sI (sI S1570 v0 6 (6 : Int32)) v0 4 x1653) v0 4 := (u2_self _ _ _ _).symm
                          exact hq _ hI g0 f0 hT
                · refine ⟨fun c1654 => ?_, fun c1654 => ?_⟩
                  · refine u_X4_next_201 ?_
                    refine ⟨o_v0, ?_⟩
                    intro x1655 ex1655
                    have q_x1655 : x1655 = x1627 := ex1655.trans d_x1627.symm
                    have d_x1655 := ex1655
                    intro x1656 ex1656
                    have hI := iv_sI (j := 4) (v := x1656) hI o_v0 (by decide) (nu_free (by decide))
                    have f0 : FRI _ _ _ (sI S1570 v0 4 x1656) := fri_sI g0 f0 o_v0 (by decide)
                    have fL3 : FRI _ _ _ (sI S1570 v0 4 x1656) := fri_sI gL2 fL3 o_v0 (by decide)
                    have fL1572 : FRI _ _ _ (sI S1570 v0 4 x1656) := fri_sI gL1571 fL1572 o_v0 (by decide)
                    have d_x1340 : x1340 = fI (sI S1570 v0 4 x1656) v0 7 := d_x1340.trans (rd_j (by decide)).symm
                    have d_x1632 : x1632 = fI (sI S1570 v0 4 x1656) v0 6 := d_x1632.trans (rd_j (by decide)).symm
                    have d_x1656 : x1656 = fI (sI S1570 v0 4 x1656) v0 4 := (u2_self _ _ _ _).symm
                    intro x1657 ex1657
                    exact ih1583 _ _ _ _ _ _ ⟨hI, gL1571, fL1572, rfl, rfl, rfl, rfl, hT, (q497 i1 c9 p_x1335 c1339 q_x1340 q_x1341 p_x1342 q_x1346 c1347 q_x1348 c1349 q_x1568 c1569 i1 p_k1 c1606 q_x1627 p_x1628 q_x1632 c1633 c1654 q_x1655 ex1656 ex1657), (by rw [← d_x1632, ← d_x1656]; exact (q498 i1 c9 p_x1335 c1339 q_x1340 q_x1341 p_x1342 q_x1346 c1347 q_x1348 c1349 q_x1568 c1569 i1 p_k1 c1606 q_x1627 p_x1628 q_x1632 c1633 c1654 q_x1655 ex1656 ex1657))⟩ (mu_up (q499 i1 c9 p_x1335 c1339 q_x1340 q_x1341 p_x1342 q_x1346 c1347 q_x1348 c1349 q_x1568 c1569 i1 p_k1 c1606 q_x1627 p_x1628 q_x1632 c1633 c1654 q_x1655 ex1656 ex1657) (q500 i1 c9 p_x1335 c1339 q_x1340 q_x1341 p_x1342 q_x1346 c1347 q_x1348 c1349 q_x1568 c1569 i1 p_k1 c1606 q_x1627 p_x1628 q_x1632 c1633 c1654 q_x1655 ex1656 ex1657))
                  · intro x1658 ex1658
                    have q_x1658 : x1658 = x1627 := ex1658.trans d_x1627.symm
                    have d_x1658 := ex1658
                    obtain ⟨a1659, ea1659, o_a1659, l_a1659⟩ := hT
                    refine ⟨a1659, ea1659, ?_⟩
                    refine ⟨o_a1659, ?_⟩
                    have n_a1659 : nI (hN S1570 a1659) = 900 := by rw [show hN S1570 a1659 = 900 from l_a1659]; decide
                    refine ⟨fun c1660 => ?_, fun c1660 => ?_⟩
                    · rw [n_a1659] at c1660
                      refine u_X4_next_201 ?_
                      refine ⟨o_v0, ?_⟩
                      intro x1661 ex1661
                      have q_x1661 : x1661 = x1658 := ex1661.trans d_x1658.symm
                      have d_x1661 := ex1661
                      intro x1662 ex1662
                      have hI := iv_sI (j := 4) (v := x1662) hI o_v0 (by decide) (nu_free (by decide))
                      have f0 : FRI _ _ _ (sI S1570 v0 4 x1662) := fri_sI g0 f0 o_v0 (by decide)
                      have fL3 : FRI _ _ _ (sI S1570 v0 4 x1662) := fri_sI gL2 fL3 o_v0 (by decide)
                      have fL1572 : FRI _ _ _ (sI S1570 v0 4 x1662) := fri_sI gL1571 fL1572 o_v0 (by decide)
                      have d_x1340 : x1340 = fI (sI S1570 v0 4 x1662) v0 7 := d_x1340.trans (rd_j (by decide)).symm
                      have d_x1632 : x1632 = fI (sI S1570 v0 4 x1662) v0 6 := d_x1632.trans (rd_j (by decide)).symm
                      have d_x1662 : x1662 = fI (sI S1570 v0 4 x1662) v0 4 := (u2_self _ _ _ _).symm
                      intro x1663 ex1663
                      exact ih1583 _ _ _ _ _ _ ⟨hI, gL1571, fL1572, rfl, rfl, rfl, rfl, hT, (q501 i1 c9 p_x1335 c1339 q_x1340 q_x1341 p_x1342 q_x1346 c1347 q_x1348 c1349 q_x1568 c1569 i1 p_k1 c1606 q_x1627 p_x1628 q_x1632 c1633 c1654 q_x1658 c1660 q_x1661 ex1662 ex1663), (by rw [← d_x1632, ← d_x1662]; exact (q502 i1 c9 p_x1335 c1339 q_x1340 q_x1341 p_x1342 q_x1346 c1347 q_x1348 c1349 q_x1568 c1569 i1 p_k1 c1606 q_x1627 p_x1628 q_x1632 c1633 c1654 q_x1658 c1660 q_x1661 ex1662 ex1663))⟩ (mu_up (q503 i1 c9 p_x1335 c1339 q_x1340 q_x1341 p_x1342 q_x1346 c1347 q_x1348 c1349 q_x1568 c1569 i1 p_k1 c1606 q_x1627 p_x1628 q_x1632 c1633 c1654 q_x1658 c1660 q_x1661 ex1662 ex1663) (q504 i1 c9 p_x1335 c1339 q_x1340 q_x1341 p_x1342 q_x1346 c1347 q_x1348 c1349 q_x1568 c1569 i1 p_k1 c1606 q_x1627 p_x1628 q_x1632 c1633 c1654 q_x1658 c1660 q_x1661 ex1662 ex1663))
                    · rw [n_a1659] at c1660
                      intro x1664 ex1664
                      have dj_x1664 := ex1664
                      refine ⟨a1659, ea1659, ?_⟩
                      intro x1666 ex1666
                      have q_x1666 : x1666 = x1658 := ex1666.trans d_x1658.symm
                      have d_x1666 := ex1666
                      refine ⟨o_a1659, ?_⟩
                      refine ⟨(vin l_a1659 (m := 900) (by decide) (q505 i1 c9 p_x1335 c1339 q_x1340 q_x1341 p_x1342 q_x1346 c1347 q_x1348 c1349 q_x1568 c1569 i1 p_k1 c1606 q_x1627 p_x1628 q_x1632 c1633 c1654 q_x1658 c1660 q_x1666)), ?_⟩
                      intro x1667 ex1667
                      intro x1668 ex1668
                      have q_x1668 : x1668 = x1632 := ex1668.trans d_x1632.symm
                      have d_x1668 := ex1668
                      refine ⟨fun c1669 => ?_, fun c1669 => ?_⟩
                      · refine u_X4_next_195 ?_
                        refine ⟨o_v0, ?_⟩
                        intro x1670 ex1670
                        have hI := iv_sJ (j := 8) (v := x1670) hI o_v0 (by decide)
                        refine u_X4_next_201 ?_
                        refine ⟨o_v0, ?_⟩
                        intro x1671 ex1671
                        have q_x1671 : x1671 = x1666 := ex1671.trans d_x1666.symm
                        have d_x1671 := ex1671
                        intro x1672 ex1672
                        have hI := iv_sI (j := 4) (v := x1672) hI o_v0 (by decide) (nu_free (by decide))
                        have f0 : FRI _ _ _ (sI (sJ S1570 v0 8 x1670) v0 4 x1672) := fri_sI g0 f0 o_v0 (by decide)
                        have fL3 : FRI _ _ _ (sI (sJ S1570 v0 8 x1670) v0 4 x1672) := fri_sI gL2 fL3 o_v0 (by decide)
                        have fL1572 : FRI _ _ _ (sI (sJ S1570 v0 8 x1670) v0 4 x1672) := fri_sI gL1571 fL1572 o_v0 (by decide)
                        have d_x1340 : x1340 = fI (sI (sJ S1570 v0 8 x1670) v0 4 x1672) v0 7 := d_x1340.trans (rd_j (by decide)).symm
                        have d_x1668 : x1668 = fI (sI (sJ S1570 v0 8 x1670) v0 4 x1672) v0 6 := d_x1668.trans (rd_j (by decide)).symm
                        have d_x1672 : x1672 = fI (sI (sJ S1570 v0 8 x1670) v0 4 x1672) v0 4 := (u2_self _ _ _ _).symm
                        intro x1673 ex1673
                        exact ih1583 _ _ _ _ _ _ ⟨hI, gL1571, fL1572, rfl, rfl, rfl, rfl, hT, (q506 i1 c9 p_x1335 c1339 q_x1340 q_x1341 p_x1342 q_x1346 c1347 q_x1348 c1349 q_x1568 c1569 i1 p_k1 c1606 q_x1627 p_x1628 q_x1632 c1633 c1654 q_x1658 c1660 q_x1666 q_x1668 c1669 q_x1671 ex1672 ex1673), (by rw [← d_x1668, ← d_x1672]; exact (q507 i1 c9 p_x1335 c1339 q_x1340 q_x1341 p_x1342 q_x1346 c1347 q_x1348 c1349 q_x1568 c1569 i1 p_k1 c1606 q_x1627 p_x1628 q_x1632 c1633 c1654 q_x1658 c1660 q_x1666 q_x1668 c1669 q_x1671 ex1672 ex1673))⟩ (mu_up (q508 i1 c9 p_x1335 c1339 q_x1340 q_x1341 p_x1342 q_x1346 c1347 q_x1348 c1349 q_x1568 c1569 i1 p_k1 c1606 q_x1627 p_x1628 q_x1632 c1633 c1654 q_x1658 c1660 q_x1666 q_x1668 c1669 q_x1671 ex1672 ex1673) (q509 i1 c9 p_x1335 c1339 q_x1340 q_x1341 p_x1342 q_x1346 c1347 q_x1348 c1349 q_x1568 c1569 i1 p_k1 c1606 q_x1627 p_x1628 q_x1632 c1633 c1654 q_x1658 c1660 q_x1666 q_x1668 c1669 q_x1671 ex1672 ex1673))
                      · refine u_X4_next_195 ?_
                        refine ⟨o_v0, ?_⟩
                        intro x1674 ex1674
                        have hI := iv_sJ (j := 8) (v := x1674) hI o_v0 (by decide)
                        refine u_X4_next_201 ?_
                        refine ⟨o_v0, ?_⟩
                        intro x1675 ex1675
                        have q_x1675 : x1675 = x1666 := ex1675.trans d_x1666.symm
                        have d_x1675 := ex1675
                        intro x1676 ex1676
                        have hI := iv_sI (j := 4) (v := x1676) hI o_v0 (by decide) (nu_free (by decide))
                        have f0 : FRI _ _ _ (sI (sJ S1570 v0 8 x1674) v0 4 x1676) := fri_sI g0 f0 o_v0 (by decide)
                        have fL3 : FRI _ _ _ (sI (sJ S1570 v0 8 x1674) v0 4 x1676) := fri_sI gL2 fL3 o_v0 (by decide)
                        have fL1572 : FRI _ _ _ (sI (sJ S1570 v0 8 x1674) v0 4 x1676) := fri_sI gL1571 fL1572 o_v0 (by decide)
                        have d_x1340 : x1340 = fI (sI (sJ S1570 v0 8 x1674) v0 4 x1676) v0 7 := d_x1340.trans (rd_j (by decide)).symm
                        have d_x1668 : x1668 = fI (sI (sJ S1570 v0 8 x1674) v0 4 x1676) v0 6 := d_x1668.trans (rd_j (by decide)).symm
                        have d_x1676 : x1676 = fI (sI (sJ S1570 v0 8 x1674) v0 4 x1676) v0 4 := (u2_self _ _ _ _).symm
                        intro x1677 ex1677
                        exact ih1583 _ _ _ _ _ _ ⟨hI, gL1571, fL1572, rfl, rfl, rfl, rfl, hT, (q510 i1 c9 p_x1335 c1339 q_x1340 q_x1341 p_x1342 q_x1346 c1347 q_x1348 c1349 q_x1568 c1569 i1 p_k1 c1606 q_x1627 p_x1628 q_x1632 c1633 c1654 q_x1658 c1660 q_x1666 q_x1668 c1669 q_x1675 ex1676 ex1677), (by rw [← d_x1668, ← d_x1676]; exact (q511 i1 c9 p_x1335 c1339 q_x1340 q_x1341 p_x1342 q_x1346 c1347 q_x1348 c1349 q_x1568 c1569 i1 p_k1 c1606 q_x1627 p_x1628 q_x1632 c1633 c1654 q_x1658 c1660 q_x1666 q_x1668 c1669 q_x1675 ex1676 ex1677))⟩ (mu_up (q512 i1 c9 p_x1335 c1339 q_x1340 q_x1341 p_x1342 q_x1346 c1347 q_x1348 c1349 q_x1568 c1569 i1 p_k1 c1606 q_x1627 p_x1628 q_x1632 c1633 c1654 q_x1658 c1660 q_x1666 q_x1668 c1669 q_x1675 ex1676 ex1677) (q513 i1 c9 p_x1335 c1339 q_x1340 q_x1341 p_x1342 q_x1346 c1347 q_x1348 c1349 q_x1568 c1569 i1 p_k1 c1606 q_x1627 p_x1628 q_x1632 c1633 c1654 q_x1658 c1660 q_x1666 q_x1668 c1669 q_x1675 ex1676 ex1677))
          · refine u_X4_next_114 ?_
            refine i_X4_next_118 (fun (y0 : Nat) (y1 : Int32) (y2 : Int32) (y3 : Int32) (y4 : Int32) (Z : HS) => ((2147483647 : Int32).toInt - y4.toInt).toNat) (fun (y0 : Nat) (y1 : Int32) (y2 : Int32) (y3 : Int32) (y4 : Int32) (Z : HS) => (IV Z) ∧ (Gr (sJ (sI (sI S1 v0 7 x1340) v0 6 x1342) v0 8 (0 : Int64)) Z) ∧ (FRI [(4, 4)] [] (sJ (sI (sI S1 v0 7 x1340) v0 6 x1342) v0 8 (0 : Int64)) Z) ∧ (v0 = y0) ∧ ((1 : Int32) = y1) ∧ ((8 : Int32) = y2) ∧ ((32 : Int32) = y3) ∧ (TX Z v0) ∧ (0 ≤ y4) ∧ ((y1 = 0 ∨ fI Z v0 6 = 1 ∨ fI Z v0 6 = 2) ∧ (y1 = 0 → fI Z v0 6 = 0 ∨ (0 ≤ fI Z v0 4 ∧ fI Z v0 4 < 900)))) ?_ _ _ _ _ _ _ ⟨hI, (gr_rf _), (fri_rf _ _ _), rfl, rfl, rfl, rfl, hT, (q514 i1 c9 p_x1335 c1339 q_x1340 q_x1341 p_x1342 q_x1346 c1347 q_x1348 c1349 q_x1568 c1569), (by rw [← d_x1568, ← d_x1341]; exact (q515 i1 c9 p_x1335 c1339 q_x1340 q_x1341 p_x1342 q_x1346 c1347 q_x1348 c1349 q_x1568 c1569))⟩
            intro w1681 w1683 w1685 w1687 w1689 S1678 X1690 ⟨hI, gL1679, fL1680, q1682, q1684, q1686, q1688, hT, i1, k1⟩ ih1691
            subst q1682
            subst q1684
            subst q1686
            subst q1688
            have d_x1340 := d_x1340.trans (fri_at fL1680 (by decide) (by decide) o_v0).symm
            have d_x1568 := d_x1568.trans (fri_at fL1680 (by decide) (by decide) o_v0).symm
            have f0 := fri_tr g0 f0 fL1680 (by decide) (by decide)
            have fL3 := fri_tr gL2 fL3 fL1680 (by decide) (by decide)
            have o_v0 := gr_ob gL1679 o_v0
            have g0 := gr_tr g0 gL1679
            have gL2 := gr_tr gL2 gL1679
            obtain ⟨y1692, d_y1692⟩ : ∃ z : Int32, z = fI S1678 v0 4 := ⟨_, rfl⟩
            have p_k1 : ((1 : Int32) = 0 ∨ x1568 = 1 ∨ x1568 = 2) ∧ ((1 : Int32) = 0 → x1568 = 0 ∨ (0 ≤ y1692 ∧ y1692 < 900)) := by rw [d_x1568, d_y1692]; exact k1
            refine u_X4_next_118 ?_
            refine ⟨fun c1693 => ?_, fun c1693 => ?_⟩
            · refine u_X4_next_217 ?_
              refine ⟨fun c1694 => ?_, fun c1694 => ?_⟩
              · refine u_X4_next_240 ?_
                refine ⟨fun c1695 => ?_, fun c1695 => ?_⟩
                · exact hq _ hI g0 f0 hT
                · refine ⟨o_v0, ?_⟩
                  intro x1696 ex1696
                  have q_x1696 : x1696 = x1568 := ex1696.trans d_x1568.symm
                  have d_x1696 := ex1696
                  refine ⟨fun c1697 => ?_, fun c1697 => ?_⟩
                  · exact hq _ hI g0 f0 hT
                  · intro x1698 ex1698
                    have q_x1698 : x1698 = y1692 := ex1698.trans d_y1692.symm
                    have d_x1698 := ex1698
                    intro x1699 ex1699
                    have hI := iv_sI (j := 4) (v := x1699) hI o_v0 (by decide) (nu_free (by decide))
                    have f0 : FRI _ _ _ (sI S1678 v0 4 x1699) := fri_sI g0 f0 o_v0 (by decide)
                    have fL3 : FRI _ _ _ (sI S1678 v0 4 x1699) := fri_sI gL2 fL3 o_v0 (by decide)
                    have fL1680 : FRI _ _ _ (sI S1678 v0 4 x1699) := fri_sI gL1679 fL1680 o_v0 (by decide)
                    have d_x1340 : x1340 = fI (sI S1678 v0 4 x1699) v0 7 := d_x1340.trans (rd_j (by decide)).symm
                    have d_x1696 : x1696 = fI (sI S1678 v0 4 x1699) v0 6 := d_x1696.trans (rd_j (by decide)).symm
                    have d_x1699 : x1699 = fI (sI S1678 v0 4 x1699) v0 4 := (u2_self _ _ _ _).symm
                    exact hq _ hI g0 f0 hT
              · refine ⟨o_v0, ?_⟩
                intro x1700 ex1700
                have q_x1700 : x1700 = y1692 := ex1700.trans d_y1692.symm
                have d_x1700 := ex1700
                intro x1701 ex1701
                have q_x1701 : x1701 = x1340 := ex1701.trans d_x1340.symm
                have d_x1701 := ex1701
                refine ⟨fun c1702 => ?_, fun c1702 => ?_⟩
                · refine u_X4_next_240 ?_
                  refine ⟨fun c1703 => ?_, fun c1703 => ?_⟩
                  · exact hq _ hI g0 f0 hT
                  · refine ⟨o_v0, ?_⟩
                    intro x1704 ex1704
                    have q_x1704 : x1704 = x1568 := ex1704.trans d_x1568.symm
                    have d_x1704 := ex1704
                    refine ⟨fun c1705 => ?_, fun c1705 => ?_⟩
                    · exact hq _ hI g0 f0 hT
                    · intro x1706 ex1706
                      have q_x1706 : x1706 = x1700 := ex1706.trans d_x1700.symm
                      have d_x1706 := ex1706
                      intro x1707 ex1707
                      have hI := iv_sI (j := 4) (v := x1707) hI o_v0 (by decide) (nu_free (by decide))
                      have f0 : FRI _ _ _ (sI S1678 v0 4 x1707) := fri_sI g0 f0 o_v0 (by decide)
                      have fL3 : FRI _ _ _ (sI S1678 v0 4 x1707) := fri_sI gL2 fL3 o_v0 (by decide)
                      have fL1680 : FRI _ _ _ (sI S1678 v0 4 x1707) := fri_sI gL1679 fL1680 o_v0 (by decide)
                      have d_x1701 : x1701 = fI (sI S1678 v0 4 x1707) v0 7 := d_x1701.trans (rd_j (by decide)).symm
                      have d_x1704 : x1704 = fI (sI S1678 v0 4 x1707) v0 6 := d_x1704.trans (rd_j (by decide)).symm
                      have d_x1707 : x1707 = fI (sI S1678 v0 4 x1707) v0 4 := (u2_self _ _ _ _).symm
                      exact hq _ hI g0 f0 hT
                · have hI := iv_sI (j := 6) (v := (6 : Int32)) hI o_v0 (by decide) (nu_free (by decide))
                  have f0 : FRI _ _ _ (sI S1678 v0 6 (6 : Int32)) := fri_sI g0 f0 o_v0 (by decide)
                  have fL3 : FRI _ _ _ (sI S1678 v0 6 (6 : Int32)) := fri_sI gL2 fL3 o_v0 (by decide)
                  have fL1680 : FRI _ _ _ (sI S1678 v0 6 (6 : Int32)) := fri_sI gL1679 fL1680 o_v0 (by decide)
                  have d_x1701 : x1701 = fI (sI S1678 v0 6 (6 : Int32)) v0 7 := d_x1701.trans (rd_j (by decide)).symm
                  have d_x1700 : x1700 = fI (sI S1678 v0 6 (6 : Int32)) v0 4 := d_x1700.trans (rd_j (by decide)).symm
                  obtain ⟨y1708, hy1708⟩ : ∃ z : Int32, z = (6 : Int32) := ⟨_, rfl⟩
                  have d_y1708 : y1708 = fI (sI S1678 v0 6 (6 : Int32)) v0 6 := hy1708.trans (u2_self _ _ _ _).symm
                  refine u_X4_next_240 ?_
                  refine ⟨fun c1709 => ?_, fun c1709 => ?_⟩
                  · exact hq _ hI g0 f0 hT
                  · refine ⟨o_v0, ?_⟩
                    intro x1710 ex1710
                    have q_x1710 : x1710 = y1708 := ex1710.trans d_y1708.symm
                    have d_x1710 := ex1710
                    refine ⟨fun c1711 => ?_, fun c1711 => ?_⟩
                    · exact hq _ hI g0 f0 hT
                    · intro x1712 ex1712
                      have q_x1712 : x1712 = x1700 := ex1712.trans d_x1700.symm
                      have d_x1712 := ex1712
                      intro x1713 ex1713
                      have hI := iv_sI (j := 4) (v := x1713) hI o_v0 (by decide) (nu_free (by decide))
                      have f0 : FRI _ _ _ (sI (sI S1678 v0 6 (6 : Int32)) v0 4 x1713) := fri_sI g0 f0 o_v0 (by decide)
                      have fL3 : FRI _ _ _ (sI (sI S1678 v0 6 (6 : Int32)) v0 4 x1713) := fri_sI gL2 fL3 o_v0 (by decide)
                      have fL1680 : FRI _ _ _ (sI (sI S1678 v0 6 (6 : Int32)) v0 4 x1713) := fri_sI gL1679 fL1680 o_v0 (by decide)
                      have d_x1701 : x1701 = fI (sI (sI S1678 v0 6 (6 : Int32)) v0 4 x1713) v0 7 := d_x1701.trans (rd_j (by decide)).symm
                      have d_x1710 : x1710 = fI (sI (sI S1678 v0 6 (6 : Int32)) v0 4 x1713) v0 6 := d_x1710.trans (rd_j (by decide)).symm
                      have d_x1713 : x1713 = fI (sI (sI S1678 v0 6 (6 : Int32)) v0 4 x1713) v0 4 := (u2_self _ _ _ _).symm
                      exact hq _ hI g0 f0 hT
            · refine ⟨fun c1714 => ?_, fun c1714 => ?_⟩
              · refine u_X4_next_217 ?_
                refine ⟨fun c1715 => ?_, fun c1715 => ?_⟩
                · refine u_X4_next_240 ?_
                  refine ⟨fun c1716 => ?_, fun c1716 => ?_⟩
                  · exact hq _ hI g0 f0 hT
                  · refine ⟨o_v0, ?_⟩
                    intro x1717 ex1717
                    have q_x1717 : x1717 = x1568 := ex1717.trans d_x1568.symm
                    have d_x1717 := ex1717
                    refine ⟨fun c1718 => ?_, fun c1718 => ?_⟩
                    · exact hq _ hI g0 f0 hT
                    · intro x1719 ex1719
                      have q_x1719 : x1719 = y1692 := ex1719.trans d_y1692.symm
                      have d_x1719 := ex1719
                      intro x1720 ex1720
                      have hI := iv_sI (j := 4) (v := x1720) hI o_v0 (by decide) (nu_free (by decide))
                      have f0 : FRI _ _ _ (sI S1678 v0 4 x1720) := fri_sI g0 f0 o_v0 (by decide)
                      have fL3 : FRI _ _ _ (sI S1678 v0 4 x1720) := fri_sI gL2 fL3 o_v0 (by decide)
                      have fL1680 : FRI _ _ _ (sI S1678 v0 4 x1720) := fri_sI gL1679 fL1680 o_v0 (by decide)
                      have d_x1340 : x1340 = fI (sI S1678 v0 4 x1720) v0 7 := d_x1340.trans (rd_j (by decide)).symm
                      have d_x1717 : x1717 = fI (sI S1678 v0 4 x1720) v0 6 := d_x1717.trans (rd_j (by decide)).symm
                      have d_x1720 : x1720 = fI (sI S1678 v0 4 x1720) v0 4 := (u2_self _ _ _ _).symm
                      exact hq _ hI g0 f0 hT
                · refine ⟨o_v0, ?_⟩
                  intro x1721 ex1721
                  have q_x1721 : x1721 = y1692 := ex1721.trans d_y1692.symm
                  have d_x1721 := ex1721
                  intro x1722 ex1722
                  have q_x1722 : x1722 = x1340 := ex1722.trans d_x1340.symm
                  have d_x1722 := ex1722
                  refine ⟨fun c1723 => ?_, fun c1723 => ?_⟩
                  · refine u_X4_next_240 ?_
                    refine ⟨fun c1724 => ?_, fun c1724 => ?_⟩
                    · exact hq _ hI g0 f0 hT
                    · refine ⟨o_v0, ?_⟩
                      intro x1725 ex1725
                      have q_x1725 : x1725 = x1568 := ex1725.trans d_x1568.symm
                      have d_x1725 := ex1725
                      refine ⟨fun c1726 => ?_, fun c1726 => ?_⟩
                      · exact hq _ hI g0 f0 hT
                      · intro x1727 ex1727
                        have q_x1727 : x1727 = x1721 := ex1727.trans d_x1721.symm
                        have d_x1727 := ex1727
                        intro x1728 ex1728
                        have hI := iv_sI (j := 4) (v := x1728) hI o_v0 (by decide) (nu_free (by decide))
                        have f0 : FRI _ _ _ (sI S1678 v0 4 x1728) := fri_sI g0 f0 o_v0 (by decide)
                        have fL3 : FRI _ _ _ (sI S1678 v0 4 x1728) := fri_sI gL2 fL3 o_v0 (by decide)
                        have fL1680 : FRI _ _ _ (sI S1678 v0 4 x1728) := fri_sI gL1679 fL1680 o_v0 (by decide)
                        have d_x1722 : x1722 = fI (sI S1678 v0 4 x1728) v0 7 := d_x1722.trans (rd_j (by decide)).symm
                        have d_x1725 : x1725 = fI (sI S1678 v0 4 x1728) v0 6 := d_x1725.trans (rd_j (by decide)).symm
                        have d_x1728 : x1728 = fI (sI S1678 v0 4 x1728) v0 4 := (u2_self _ _ _ _).symm
                        exact hq _ hI g0 f0 hT
                  · have hI := iv_sI (j := 6) (v := (6 : Int32)) hI o_v0 (by decide) (nu_free (by decide))
                    have f0 : FRI _ _ _ (sI S1678 v0 6 (6 : Int32)) := fri_sI g0 f0 o_v0 (by decide)
                    have fL3 : FRI _ _ _ (sI S1678 v0 6 (6 : Int32)) := fri_sI gL2 fL3 o_v0 (by decide)
                    have fL1680 : FRI _ _ _ (sI S1678 v0 6 (6 : Int32)) := fri_sI gL1679 fL1680 o_v0 (by decide)
                    have d_x1722 : x1722 = fI (sI S1678 v0 6 (6 : Int32)) v0 7 := d_x1722.trans (rd_j (by decide)).symm
                    have d_x1721 : x1721 = fI (sI S1678 v0 6 (6 : Int32)) v0 4 := d_x1721.trans (rd_j (by decide)).symm
                    obtain ⟨y1729, hy1729⟩ : ∃ z : Int32, z = (6 : Int32) := ⟨_, rfl⟩
                    have d_y1729 : y1729 = fI (sI S1678 v0 6 (6 : Int32)) v0 6 := hy1729.trans (u2_self _ _ _ _).symm
                    refine u_X4_next_240 ?_
                    refine ⟨fun c1730 => ?_, fun c1730 => ?_⟩
                    · exact hq _ hI g0 f0 hT
                    · refine ⟨o_v0, ?_⟩
                      intro x1731 ex1731
                      have q_x1731 : x1731 = y1729 := ex1731.trans d_y1729.symm
                      have d_x1731 := ex1731
                      refine ⟨fun c1732 => ?_, fun c1732 => ?_⟩
                      · exact hq _ hI g0 f0 hT
                      · intro x1733 ex1733
                        have q_x1733 : x1733 = x1721 := ex1733.trans d_x1721.symm
                        have d_x1733 := ex1733
                        intro x1734 ex1734
                        have hI := iv_sI (j := 4) (v := x1734) hI o_v0 (by decide) (nu_free (by decide))
                        have f0 : FRI _ _ _ (sI (sI S1678 v0 6 (6 : Int32)) v0 4 x1734) := fri_sI g0 f0 o_v0 (by decide)
                        have fL3 : FRI _ _ _ (sI (sI S1678 v0 6 (6 : Int32)) v0 4 x1734) := fri_sI gL2 fL3 o_v0 (by decide)
                        have fL1680 : FRI _ _ _ (sI (sI S1678 v0 6 (6 : Int32)) v0 4 x1734) := fri_sI gL1679 fL1680 o_v0 (by decide)
                        have d_x1722 : x1722 = fI (sI (sI S1678 v0 6 (6 : Int32)) v0 4 x1734) v0 7 := d_x1722.trans (rd_j (by decide)).symm
                        have d_x1731 : x1731 = fI (sI (sI S1678 v0 6 (6 : Int32)) v0 4 x1734) v0 6 := d_x1731.trans (rd_j (by decide)).symm
                        have d_x1734 : x1734 = fI (sI (sI S1678 v0 6 (6 : Int32)) v0 4 x1734) v0 4 := (u2_self _ _ _ _).symm
                        exact hq _ hI g0 f0 hT
              · refine ⟨o_v0, ?_⟩
                intro x1735 ex1735
                have q_x1735 : x1735 = y1692 := ex1735.trans d_y1692.symm
                have d_x1735 := ex1735
                refine m_X4_sortAt hI o_v0 hT (fun x1736 S1737 hI2 g1738 p_x1736 => ?_)
                obtain ⟨z_S1737, p_x1736⟩ := p_x1736
                subst z_S1737
                intro _
                intro x1740 ex1740
                have q_x1740 : x1740 = x1568 := ex1740.trans d_x1568.symm
                have d_x1740 := ex1740
                refine ⟨fun c1741 => ?_, fun c1741 => ?_⟩
                · refine u_X4_next_217 ?_
                  refine ⟨fun c1742 => ?_, fun c1742 => ?_⟩
                  · refine u_X4_next_240 ?_
                    refine ⟨fun c1743 => ?_, fun c1743 => ?_⟩
                    · exact hq _ hI g0 f0 hT
                    · refine ⟨o_v0, ?_⟩
                      intro x1744 ex1744
                      have q_x1744 : x1744 = x1740 := ex1744.trans d_x1740.symm
                      have d_x1744 := ex1744
                      refine ⟨fun c1745 => ?_, fun c1745 => ?_⟩
                      · exact hq _ hI g0 f0 hT
                      · intro x1746 ex1746
                        have q_x1746 : x1746 = x1735 := ex1746.trans d_x1735.symm
                        have d_x1746 := ex1746
                        intro x1747 ex1747
                        have hI := iv_sI (j := 4) (v := x1747) hI o_v0 (by decide) (nu_free (by decide))
                        have f0 : FRI _ _ _ (sI S1678 v0 4 x1747) := fri_sI g0 f0 o_v0 (by decide)
                        have fL3 : FRI _ _ _ (sI S1678 v0 4 x1747) := fri_sI gL2 fL3 o_v0 (by decide)
                        have fL1680 : FRI _ _ _ (sI S1678 v0 4 x1747) := fri_sI gL1679 fL1680 o_v0 (by decide)
                        have d_x1340 : x1340 = fI (sI S1678 v0 4 x1747) v0 7 := d_x1340.trans (rd_j (by decide)).symm
                        have d_x1744 : x1744 = fI (sI S1678 v0 4 x1747) v0 6 := d_x1744.trans (rd_j (by decide)).symm
                        have d_x1747 : x1747 = fI (sI S1678 v0 4 x1747) v0 4 := (u2_self _ _ _ _).symm
                        exact hq _ hI g0 f0 hT
                  · refine ⟨o_v0, ?_⟩
                    intro x1748 ex1748
                    have q_x1748 : x1748 = x1735 := ex1748.trans d_x1735.symm
                    have d_x1748 := ex1748
                    intro x1749 ex1749
                    have q_x1749 : x1749 = x1340 := ex1749.trans d_x1340.symm
                    have d_x1749 := ex1749
                    refine ⟨fun c1750 => ?_, fun c1750 => ?_⟩
                    · refine u_X4_next_240 ?_
                      refine ⟨fun c1751 => ?_, fun c1751 => ?_⟩
                      · exact hq _ hI g0 f0 hT
                      · refine ⟨o_v0, ?_⟩
                        intro x1752 ex1752
                        have q_x1752 : x1752 = x1740 := ex1752.trans d_x1740.symm
                        have d_x1752 := ex1752
                        refine ⟨fun c1753 => ?_, fun c1753 => ?_⟩
                        · exact hq _ hI g0 f0 hT
                        · intro x1754 ex1754
                          have q_x1754 : x1754 = x1748 := ex1754.trans d_x1748.symm
                          have d_x1754 := ex1754
                          intro x1755 ex1755
                          have hI := iv_sI (j := 4) (v := x1755) hI o_v0 (by decide) (nu_free (by decide))
                          have f0 : FRI _ _ _ (sI S1678 v0 4 x1755) := fri_sI g0 f0 o_v0 (by decide)
                          have fL3 : FRI _ _ _ (sI S1678 v0 4 x1755) := fri_sI gL2 fL3 o_v0 (by decide)
                          have fL1680 : FRI _ _ _ (sI S1678 v0 4 x1755) := fri_sI gL1679 fL1680 o_v0 (by decide)
                          have d_x1749 : x1749 = fI (sI S1678 v0 4 x1755) v0 7 := d_x1749.trans (rd_j (by decide)).symm
                          have d_x1752 : x1752 = fI (sI S1678 v0 4 x1755) v0 6 := d_x1752.trans (rd_j (by decide)).symm
                          have d_x1755 : x1755 = fI (sI S1678 v0 4 x1755) v0 4 := (u2_self _ _ _ _).symm
                          exact hq _ hI g0 f0 hT
                    · have hI := iv_sI (j := 6) (v := (6 : Int32)) hI o_v0 (by decide) (nu_free (by decide))
                      have f0 : FRI _ _ _ (sI S1678 v0 6 (6 : Int32)) := fri_sI g0 f0 o_v0 (by decide)
                      have fL3 : FRI _ _ _ (sI S1678 v0 6 (6 : Int32)) := fri_sI gL2 fL3 o_v0 (by decide)
                      have fL1680 : FRI _ _ _ (sI S1678 v0 6 (6 : Int32)) := fri_sI gL1679 fL1680 o_v0 (by decide)
                      have d_x1749 : x1749 = fI (sI S1678 v0 6 (6 : Int32)) v0 7 := d_x1749.trans (rd_j (by decide)).symm
                      have d_x1748 : x1748 = fI (sI S1678 v0 6 (6 : Int32)) v0 4 := d_x1748.trans (rd_j (by decide)).symm
                      obtain ⟨y1756, hy1756⟩ : ∃ z : Int32, z = (6 : Int32) := ⟨_, rfl⟩
                      have d_y1756 : y1756 = fI (sI S1678 v0 6 (6 : Int32)) v0 6 := hy1756.trans (u2_self _ _ _ _).symm
                      refine u_X4_next_240 ?_
                      refine ⟨fun c1757 => ?_, fun c1757 => ?_⟩
                      · exact hq _ hI g0 f0 hT
                      · refine ⟨o_v0, ?_⟩
                        intro x1758 ex1758
                        have q_x1758 : x1758 = y1756 := ex1758.trans d_y1756.symm
                        have d_x1758 := ex1758
                        refine ⟨fun c1759 => ?_, fun c1759 => ?_⟩
                        · exact hq _ hI g0 f0 hT
                        · intro x1760 ex1760
                          have q_x1760 : x1760 = x1748 := ex1760.trans d_x1748.symm
                          have d_x1760 := ex1760
                          intro x1761 ex1761
                          have hI := iv_sI (j := 4) (v := x1761) hI o_v0 (by decide) (nu_free (by decide))
                          have f0 : FRI _ _ _ (sI (sI S1678 v0 6 (6 : Int32)) v0 4 x1761) := fri_sI g0 f0 o_v0 (by decide)
                          have fL3 : FRI _ _ _ (sI (sI S1678 v0 6 (6 : Int32)) v0 4 x1761) := fri_sI gL2 fL3 o_v0 (by decide)
                          have fL1680 : FRI _ _ _ (sI (sI S1678 v0 6 (6 : Int32)) v0 4 x1761) := fri_sI gL1679 fL1680 o_v0 (by decide)
                          have d_x1749 : x1749 = fI (sI (sI S1678 v0 6 (6 : Int32)) v0 4 x1761) v0 7 := d_x1749.trans (rd_j (by decide)).symm
                          have d_x1758 : x1758 = fI (sI (sI S1678 v0 6 (6 : Int32)) v0 4 x1761) v0 6 := d_x1758.trans (rd_j (by decide)).symm
                          have d_x1761 : x1761 = fI (sI (sI S1678 v0 6 (6 : Int32)) v0 4 x1761) v0 4 := (u2_self _ _ _ _).symm
                          exact hq _ hI g0 f0 hT
                · refine ⟨fun c1762 => ?_, fun c1762 => ?_⟩
                  · refine u_X4_next_201 ?_
                    refine ⟨o_v0, ?_⟩
                    intro x1763 ex1763
                    have q_x1763 : x1763 = x1735 := ex1763.trans d_x1735.symm
                    have d_x1763 := ex1763
                    intro x1764 ex1764
                    have hI := iv_sI (j := 4) (v := x1764) hI o_v0 (by decide) (nu_free (by decide))
                    have f0 : FRI _ _ _ (sI S1678 v0 4 x1764) := fri_sI g0 f0 o_v0 (by decide)
                    have fL3 : FRI _ _ _ (sI S1678 v0 4 x1764) := fri_sI gL2 fL3 o_v0 (by decide)
                    have fL1680 : FRI _ _ _ (sI S1678 v0 4 x1764) := fri_sI gL1679 fL1680 o_v0 (by decide)
                    have d_x1340 : x1340 = fI (sI S1678 v0 4 x1764) v0 7 := d_x1340.trans (rd_j (by decide)).symm
                    have d_x1740 : x1740 = fI (sI S1678 v0 4 x1764) v0 6 := d_x1740.trans (rd_j (by decide)).symm
                    have d_x1764 : x1764 = fI (sI S1678 v0 4 x1764) v0 4 := (u2_self _ _ _ _).symm
                    intro x1765 ex1765
                    exact ih1691 _ _ _ _ _ _ ⟨hI, gL1679, fL1680, rfl, rfl, rfl, rfl, hT, (q516 i1 c9 p_x1335 c1339 q_x1340 q_x1341 p_x1342 q_x1346 c1347 q_x1348 c1349 q_x1568 c1569 i1 p_k1 c1714 q_x1735 p_x1736 q_x1740 c1741 c1762 q_x1763 ex1764 ex1765), (by rw [← d_x1740, ← d_x1764]; exact (q517 i1 c9 p_x1335 c1339 q_x1340 q_x1341 p_x1342 q_x1346 c1347 q_x1348 c1349 q_x1568 c1569 i1 p_k1 c1714 q_x1735 p_x1736 q_x1740 c1741 c1762 q_x1763 ex1764 ex1765))⟩ (mu_up (q518 i1 c9 p_x1335 c1339 q_x1340 q_x1341 p_x1342 q_x1346 c1347 q_x1348 c1349 q_x1568 c1569 i1 p_k1 c1714 q_x1735 p_x1736 q_x1740 c1741 c1762 q_x1763 ex1764 ex1765) (q519 i1 c9 p_x1335 c1339 q_x1340 q_x1341 p_x1342 q_x1346 c1347 q_x1348 c1349 q_x1568 c1569 i1 p_k1 c1714 q_x1735 p_x1736 q_x1740 c1741 c1762 q_x1763 ex1764 ex1765))
                  · intro x1766 ex1766
                    have q_x1766 : x1766 = x1735 := ex1766.trans d_x1735.symm
                    have d_x1766 := ex1766
                    obtain ⟨a1767, ea1767, o_a1767, l_a1767⟩ := hT
                    refine ⟨a1767, ea1767, ?_⟩
                    refine ⟨o_a1767, ?_⟩
                    have n_a1767 : nI (hN S1678 a1767) = 900 := by rw [show hN S1678 a1767 = 900 from l_a1767]; decide
                    refine ⟨fun c1768 => ?_, fun c1768 => ?_⟩
                    · rw [n_a1767] at c1768
                      refine u_X4_next_201 ?_
                      refine ⟨o_v0, ?_⟩
                      intro x1769 ex1769
                      have q_x1769 : x1769 = x1766 := ex1769.trans d_x1766.symm
                      have d_x1769 := ex1769
                      intro x1770 ex1770
                      have hI := iv_sI (j := 4) (v := x1770) hI o_v0 (by decide) (nu_free (by decide))
                      have f0 : FRI _ _ _ (sI S1678 v0 4 x1770) := fri_sI g0 f0 o_v0 (by decide)
                      have fL3 : FRI _ _ _ (sI S1678 v0 4 x1770) := fri_sI gL2 fL3 o_v0 (by decide)
                      have fL1680 : FRI _ _ _ (sI S1678 v0 4 x1770) := fri_sI gL1679 fL1680 o_v0 (by decide)
                      have d_x1340 : x1340 = fI (sI S1678 v0 4 x1770) v0 7 := d_x1340.trans (rd_j (by decide)).symm
                      have d_x1740 : x1740 = fI (sI S1678 v0 4 x1770) v0 6 := d_x1740.trans (rd_j (by decide)).symm
                      have d_x1770 : x1770 = fI (sI S1678 v0 4 x1770) v0 4 := (u2_self _ _ _ _).symm
                      intro x1771 ex1771
                      exact ih1691 _ _ _ _ _ _ ⟨hI, gL1679, fL1680, rfl, rfl, rfl, rfl, hT, (q520 i1 c9 p_x1335 c1339 q_x1340 q_x1341 p_x1342 q_x1346 c1347 q_x1348 c1349 q_x1568 c1569 i1 p_k1 c1714 q_x1735 p_x1736 q_x1740 c1741 c1762 q_x1766 c1768 q_x1769 ex1770 ex1771), (by rw [← d_x1740, ← d_x1770]; exact (q521 i1 c9 p_x1335 c1339 q_x1340 q_x1341 p_x1342 q_x1346 c1347 q_x1348 c1349 q_x1568 c1569 i1 p_k1 c1714 q_x1735 p_x1736 q_x1740 c1741 c1762 q_x1766 c1768 q_x1769 ex1770 ex1771))⟩ (mu_up (q522 i1 c9 p_x1335 c1339 q_x1340 q_x1341 p_x1342 q_x1346 c1347 q_x1348 c1349 q_x1568 c1569 i1 p_k1 c1714 q_x1735 p_x1736 q_x1740 c1741 c1762 q_x1766 c1768 q_x1769 ex1770 ex1771) (q523 i1 c9 p_x1335 c1339 q_x1340 q_x1341 p_x1342 q_x1346 c1347 q_x1348 c1349 q_x1568 c1569 i1 p_k1 c1714 q_x1735 p_x1736 q_x1740 c1741 c1762 q_x1766 c1768 q_x1769 ex1770 ex1771))
                    · rw [n_a1767] at c1768
                      intro x1772 ex1772
                      have dj_x1772 := ex1772
                      refine ⟨a1767, ea1767, ?_⟩
                      intro x1774 ex1774
                      have q_x1774 : x1774 = x1766 := ex1774.trans d_x1766.symm
                      have d_x1774 := ex1774
                      refine ⟨o_a1767, ?_⟩
                      refine ⟨(vin l_a1767 (m := 900) (by decide) (q524 i1 c9 p_x1335 c1339 q_x1340 q_x1341 p_x1342 q_x1346 c1347 q_x1348 c1349 q_x1568 c1569 i1 p_k1 c1714 q_x1735 p_x1736 q_x1740 c1741 c1762 q_x1766 c1768 q_x1774)), ?_⟩
                      intro x1775 ex1775
                      intro x1776 ex1776
                      have q_x1776 : x1776 = x1740 := ex1776.trans d_x1740.symm
                      have d_x1776 := ex1776
                      refine ⟨fun c1777 => ?_, fun c1777 => ?_⟩
                      · refine u_X4_next_195 ?_
                        refine ⟨o_v0, ?_⟩
                        intro x1778 ex1778
                        have hI := iv_sJ (j := 8) (v := x1778) hI o_v0 (by decide)
                        refine u_X4_next_201 ?_
                        refine ⟨o_v0, ?_⟩
                        intro x1779 ex1779
                        have q_x1779 : x1779 = x1774 := ex1779.trans d_x1774.symm
                        have d_x1779 := ex1779
                        intro x1780 ex1780
                        have hI := iv_sI (j := 4) (v := x1780) hI o_v0 (by decide) (nu_free (by decide))
                        have f0 : FRI _ _ _ (sI (sJ S1678 v0 8 x1778) v0 4 x1780) := fri_sI g0 f0 o_v0 (by decide)
                        have fL3 : FRI _ _ _ (sI (sJ S1678 v0 8 x1778) v0 4 x1780) := fri_sI gL2 fL3 o_v0 (by decide)
                        have fL1680 : FRI _ _ _ (sI (sJ S1678 v0 8 x1778) v0 4 x1780) := fri_sI gL1679 fL1680 o_v0 (by decide)
                        have d_x1340 : x1340 = fI (sI (sJ S1678 v0 8 x1778) v0 4 x1780) v0 7 := d_x1340.trans (rd_j (by decide)).symm
                        have d_x1776 : x1776 = fI (sI (sJ S1678 v0 8 x1778) v0 4 x1780) v0 6 := d_x1776.trans (rd_j (by decide)).symm
                        have d_x1780 : x1780 = fI (sI (sJ S1678 v0 8 x1778) v0 4 x1780) v0 4 := (u2_self _ _ _ _).symm
                        intro x1781 ex1781
                        exact ih1691 _ _ _ _ _ _ ⟨hI, gL1679, fL1680, rfl, rfl, rfl, rfl, hT, (q525 i1 c9 p_x1335 c1339 q_x1340 q_x1341 p_x1342 q_x1346 c1347 q_x1348 c1349 q_x1568 c1569 i1 p_k1 c1714 q_x1735 p_x1736 q_x1740 c1741 c1762 q_x1766 c1768 q_x1774 q_x1776 c1777 q_x1779 ex1780 ex1781), (by rw [← d_x1776, ← d_x1780]; exact (q526 i1 c9 p_x1335 c1339 q_x1340 q_x1341 p_x1342 q_x1346 c1347 q_x1348 c1349 q_x1568 c1569 i1 p_k1 c1714 q_x1735 p_x1736 q_x1740 c1741 c1762 q_x1766 c1768 q_x1774 q_x1776 c1777 q_x1779 ex1780 ex1781))⟩ (mu_up (q527 i1 c9 p_x1335 c1339 q_x1340 q_x1341 p_x1342 q_x1346 c1347 q_x1348 c1349 q_x1568 c1569 i1 p_k1 c1714 q_x1735 p_x1736 q_x1740 c1741 c1762 q_x1766 c1768 q_x1774 q_x1776 c1777 q_x1779 ex1780 ex1781) (q528 i1 c9 p_x1335 c1339 q_x1340 q_x1341 p_x1342 q_x1346 c1347 q_x1348 c1349 q_x1568 c1569 i1 p_k1 c1714 q_x1735 p_x1736 q_x1740 c1741 c1762 q_x1766 c1768 q_x1774 q_x1776 c1777 q_x1779 ex1780 ex1781))
                      · refine u_X4_next_195 ?_
                        refine ⟨o_v0, ?_⟩
                        intro x1782 ex1782
                        have hI := iv_sJ (j := 8) (v := x1782) hI o_v0 (by decide)
                        refine u_X4_next_201 ?_
                        refine ⟨o_v0, ?_⟩
                        intro x1783 ex1783
                        have q_x1783 : x1783 = x1774 := ex1783.trans d_x1774.symm
                        have d_x1783 := ex1783
                        intro x1784 ex1784
                        have hI := iv_sI (j := 4) (v := x1784) hI o_v0 (by decide) (nu_free (by decide))
                        have f0 : FRI _ _ _ (sI (sJ S1678 v0 8 x1782) v0 4 x1784) := fri_sI g0 f0 o_v0 (by decide)
                        have fL3 : FRI _ _ _ (sI (sJ S1678 v0 8 x1782) v0 4 x1784) := fri_sI gL2 fL3 o_v0 (by decide)
                        have fL1680 : FRI _ _ _ (sI (sJ S1678 v0 8 x1782) v0 4 x1784) := fri_sI gL1679 fL1680 o_v0 (by decide)
                        have d_x1340 : x1340 = fI (sI (sJ S1678 v0 8 x1782) v0 4 x1784) v0 7 := d_x1340.trans (rd_j (by decide)).symm
                        have d_x1776 : x1776 = fI (sI (sJ S1678 v0 8 x1782) v0 4 x1784) v0 6 := d_x1776.trans (rd_j (by decide)).symm
                        have d_x1784 : x1784 = fI (sI (sJ S1678 v0 8 x1782) v0 4 x1784) v0 4 := (u2_self _ _ _ _).symm
                        intro x1785 ex1785
                        exact ih1691 _ _ _ _ _ _ ⟨hI, gL1679, fL1680, rfl, rfl, rfl, rfl, hT, (q529 i1 c9 p_x1335 c1339 q_x1340 q_x1341 p_x1342 q_x1346 c1347 q_x1348 c1349 q_x1568 c1569 i1 p_k1 c1714 q_x1735 p_x1736 q_x1740 c1741 c1762 q_x1766 c1768 q_x1774 q_x1776 c1777 q_x1783 ex1784 ex1785), (by rw [← d_x1776, ← d_x1784]; exact (q530 i1 c9 p_x1335 c1339 q_x1340 q_x1341 p_x1342 q_x1346 c1347 q_x1348 c1349 q_x1568 c1569 i1 p_k1 c1714 q_x1735 p_x1736 q_x1740 c1741 c1762 q_x1766 c1768 q_x1774 q_x1776 c1777 q_x1783 ex1784 ex1785))⟩ (mu_up (q531 i1 c9 p_x1335 c1339 q_x1340 q_x1341 p_x1342 q_x1346 c1347 q_x1348 c1349 q_x1568 c1569 i1 p_k1 c1714 q_x1735 p_x1736 q_x1740 c1741 c1762 q_x1766 c1768 q_x1774 q_x1776 c1777 q_x1783 ex1784 ex1785) (q532 i1 c9 p_x1335 c1339 q_x1340 q_x1341 p_x1342 q_x1346 c1347 q_x1348 c1349 q_x1568 c1569 i1 p_k1 c1714 q_x1735 p_x1736 q_x1740 c1741 c1762 q_x1766 c1768 q_x1774 q_x1776 c1777 q_x1783 ex1784 ex1785))
      · intro x1786 ex1786
        have q_x1786 : x1786 = x1346 := ex1786.trans d_x1346.symm
        have d_x1786 := ex1786
        refine ⟨fun c1787 => ?_, fun c1787 => ?_⟩
        · refine u_X4_next_83 ?_
          refine ⟨o_v0, ?_⟩
          intro x1788 ex1788
          have q_x1788 : x1788 = x1786 := ex1788.trans d_x1786.symm
          have d_x1788 := ex1788
          refine ⟨fun c1789 => ?_, fun c1789 => ?_⟩
          · refine u_X4_next_98 ?_
            refine ⟨o_v0, ?_⟩
            intro x1790 ex1790
            have q_x1790 : x1790 = x1788 := ex1790.trans d_x1788.symm
            have d_x1790 := ex1790
            refine ⟨fun c1791 => ?_, fun c1791 => ?_⟩
            · refine u_X4_next_114 ?_
              refine i_X4_next_118 (fun (y0 : Nat) (y1 : Int32) (y2 : Int32) (y3 : Int32) (y4 : Int32) (Z : HS) => ((2147483647 : Int32).toInt - y4.toInt).toNat) (fun (y0 : Nat) (y1 : Int32) (y2 : Int32) (y3 : Int32) (y4 : Int32) (Z : HS) => (IV Z) ∧ (Gr (sJ (sI (sI S1 v0 7 x1340) v0 6 x1342) v0 8 (0 : Int64)) Z) ∧ (FRI [(4, 4)] [] (sJ (sI (sI S1 v0 7 x1340) v0 6 x1342) v0 8 (0 : Int64)) Z) ∧ (v0 = y0) ∧ ((0 : Int32) = y1) ∧ ((3 : Int32) = y2) ∧ ((10 : Int32) = y3) ∧ (TX Z v0) ∧ (0 ≤ y4) ∧ ((y1 = 0 ∨ fI Z v0 6 = 1 ∨ fI Z v0 6 = 2) ∧ (y1 = 0 → fI Z v0 6 = 0 ∨ (0 ≤ fI Z v0 4 ∧ fI Z v0 4 < 900)))) ?_ _ _ _ _ _ _ ⟨hI, (gr_rf _), (fri_rf _ _ _), rfl, rfl, rfl, rfl, hT, (q533 i1 c9 p_x1335 c1339 q_x1340 q_x1341 p_x1342 q_x1346 c1347 q_x1786 c1787 q_x1788 c1789 q_x1790 c1791), (by rw [← d_x1790, ← d_x1341]; exact (q534 i1 c9 p_x1335 c1339 q_x1340 q_x1341 p_x1342 q_x1346 c1347 q_x1786 c1787 q_x1788 c1789 q_x1790 c1791))⟩
              intro w1795 w1797 w1799 w1801 w1803 S1792 X1804 ⟨hI, gL1793, fL1794, q1796, q1798, q1800, q1802, hT, i1, k1⟩ ih1805
              subst q1796
              subst q1798
              subst q1800
              subst q1802
              have d_x1340 := d_x1340.trans (fri_at fL1794 (by decide) (by decide) o_v0).symm
              have d_x1790 := d_x1790.trans (fri_at fL1794 (by decide) (by decide) o_v0).symm
              have f0 := fri_tr g0 f0 fL1794 (by decide) (by decide)
              have fL3 := fri_tr gL2 fL3 fL1794 (by decide) (by decide)
              have o_v0 := gr_ob gL1793 o_v0
              have g0 := gr_tr g0 gL1793
              have gL2 := gr_tr gL2 gL1793
              obtain ⟨y1806, d_y1806⟩ : ∃ z : Int32, z = fI S1792 v0 4 := ⟨_, rfl⟩
              have p_k1 : ((0 : Int32) = 0 ∨ x1790 = 1 ∨ x1790 = 2) ∧ ((0 : Int32) = 0 → x1790 = 0 ∨ (0 ≤ y1806 ∧ y1806 < 900)) := by rw [d_x1790, d_y1806]; exact k1
              refine u_X4_next_118 ?_
              refine ⟨fun c1807 => ?_, fun c1807 => ?_⟩
              · refine u_X4_next_217 ?_
                refine ⟨fun c1808 => ?_, fun c1808 => ?_⟩
                · refine u_X4_next_240 ?_
                  refine ⟨fun c1809 => ?_, fun c1809 => ?_⟩
                  · exact hq _ hI g0 f0 hT
                  · refine ⟨o_v0, ?_⟩
                    intro x1810 ex1810
                    have q_x1810 : x1810 = x1790 := ex1810.trans d_x1790.symm
                    have d_x1810 := ex1810
                    refine ⟨fun c1811 => ?_, fun c1811 => ?_⟩
                    · exact hq _ hI g0 f0 hT
                    · intro x1812 ex1812
                      have q_x1812 : x1812 = y1806 := ex1812.trans d_y1806.symm
                      have d_x1812 := ex1812
                      intro x1813 ex1813
                      have hI := iv_sI (j := 4) (v := x1813) hI o_v0 (by decide) (nu_free (by decide))
                      have f0 : FRI _ _ _ (sI S1792 v0 4 x1813) := fri_sI g0 f0 o_v0 (by decide)
                      have fL3 : FRI _ _ _ (sI S1792 v0 4 x1813) := fri_sI gL2 fL3 o_v0 (by decide)
                      have fL1794 : FRI _ _ _ (sI S1792 v0 4 x1813) := fri_sI gL1793 fL1794 o_v0 (by decide)
                      have d_x1340 : x1340 = fI (sI S1792 v0 4 x1813) v0 7 := d_x1340.trans (rd_j (by decide)).symm
                      have d_x1810 : x1810 = fI (sI S1792 v0 4 x1813) v0 6 := d_x1810.trans (rd_j (by decide)).symm
                      have d_x1813 : x1813 = fI (sI S1792 v0 4 x1813) v0 4 := (u2_self _ _ _ _).symm
                      exact hq _ hI g0 f0 hT
                · refine ⟨o_v0, ?_⟩
                  intro x1814 ex1814
                  have q_x1814 : x1814 = y1806 := ex1814.trans d_y1806.symm
                  have d_x1814 := ex1814
                  intro x1815 ex1815
                  have q_x1815 : x1815 = x1340 := ex1815.trans d_x1340.symm
                  have d_x1815 := ex1815
                  refine ⟨fun c1816 => ?_, fun c1816 => ?_⟩
                  · refine u_X4_next_240 ?_
                    refine ⟨fun c1817 => ?_, fun c1817 => ?_⟩
                    · exact hq _ hI g0 f0 hT
                    · refine ⟨o_v0, ?_⟩
                      intro x1818 ex1818
                      have q_x1818 : x1818 = x1790 := ex1818.trans d_x1790.symm
                      have d_x1818 := ex1818
                      refine ⟨fun c1819 => ?_, fun c1819 => ?_⟩
                      · exact hq _ hI g0 f0 hT
                      · intro x1820 ex1820
                        have q_x1820 : x1820 = x1814 := ex1820.trans d_x1814.symm
                        have d_x1820 := ex1820
                        intro x1821 ex1821
                        have hI := iv_sI (j := 4) (v := x1821) hI o_v0 (by decide) (nu_free (by decide))
                        have f0 : FRI _ _ _ (sI S1792 v0 4 x1821) := fri_sI g0 f0 o_v0 (by decide)
                        have fL3 : FRI _ _ _ (sI S1792 v0 4 x1821) := fri_sI gL2 fL3 o_v0 (by decide)
                        have fL1794 : FRI _ _ _ (sI S1792 v0 4 x1821) := fri_sI gL1793 fL1794 o_v0 (by decide)
                        have d_x1815 : x1815 = fI (sI S1792 v0 4 x1821) v0 7 := d_x1815.trans (rd_j (by decide)).symm
                        have d_x1818 : x1818 = fI (sI S1792 v0 4 x1821) v0 6 := d_x1818.trans (rd_j (by decide)).symm
                        have d_x1821 : x1821 = fI (sI S1792 v0 4 x1821) v0 4 := (u2_self _ _ _ _).symm
                        exact hq _ hI g0 f0 hT
                  · have hI := iv_sI (j := 6) (v := (6 : Int32)) hI o_v0 (by decide) (nu_free (by decide))
                    have f0 : FRI _ _ _ (sI S1792 v0 6 (6 : Int32)) := fri_sI g0 f0 o_v0 (by decide)
                    have fL3 : FRI _ _ _ (sI S1792 v0 6 (6 : Int32)) := fri_sI gL2 fL3 o_v0 (by decide)
                    have fL1794 : FRI _ _ _ (sI S1792 v0 6 (6 : Int32)) := fri_sI gL1793 fL1794 o_v0 (by decide)
                    have d_x1815 : x1815 = fI (sI S1792 v0 6 (6 : Int32)) v0 7 := d_x1815.trans (rd_j (by decide)).symm
                    have d_x1814 : x1814 = fI (sI S1792 v0 6 (6 : Int32)) v0 4 := d_x1814.trans (rd_j (by decide)).symm
                    obtain ⟨y1822, hy1822⟩ : ∃ z : Int32, z = (6 : Int32) := ⟨_, rfl⟩
                    have d_y1822 : y1822 = fI (sI S1792 v0 6 (6 : Int32)) v0 6 := hy1822.trans (u2_self _ _ _ _).symm
                    refine u_X4_next_240 ?_
                    refine ⟨fun c1823 => ?_, fun c1823 => ?_⟩
                    · exact hq _ hI g0 f0 hT
                    · refine ⟨o_v0, ?_⟩
                      intro x1824 ex1824
                      have q_x1824 : x1824 = y1822 := ex1824.trans d_y1822.symm
                      have d_x1824 := ex1824
                      refine ⟨fun c1825 => ?_, fun c1825 => ?_⟩
                      · exact hq _ hI g0 f0 hT
                      · intro x1826 ex1826
                        have q_x1826 : x1826 = x1814 := ex1826.trans d_x1814.symm
                        have d_x1826 := ex1826
                        intro x1827 ex1827
                        have hI := iv_sI (j := 4) (v := x1827) hI o_v0 (by decide) (nu_free (by decide))
                        have f0 : FRI _ _ _ (sI (sI S1792 v0 6 (6 : Int32)) v0 4 x1827) := fri_sI g0 f0 o_v0 (by decide)
                        have fL3 : FRI _ _ _ (sI (sI S1792 v0 6 (6 : Int32)) v0 4 x1827) := fri_sI gL2 fL3 o_v0 (by decide)
                        have fL1794 : FRI _ _ _ (sI (sI S1792 v0 6 (6 : Int32)) v0 4 x1827) := fri_sI gL1793 fL1794 o_v0 (by decide)
                        have d_x1815 : x1815 = fI (sI (sI S1792 v0 6 (6 : Int32)) v0 4 x1827) v0 7 := d_x1815.trans (rd_j (by decide)).symm
                        have d_x1824 : x1824 = fI (sI (sI S1792 v0 6 (6 : Int32)) v0 4 x1827) v0 6 := d_x1824.trans (rd_j (by decide)).symm
                        have d_x1827 : x1827 = fI (sI (sI S1792 v0 6 (6 : Int32)) v0 4 x1827) v0 4 := (u2_self _ _ _ _).symm
                        exact hq _ hI g0 f0 hT
              · refine ⟨fun c1828 => ?_, fun c1828 => ?_⟩
                · refine u_X4_next_217 ?_
                  refine ⟨fun c1829 => ?_, fun c1829 => ?_⟩
                  · refine u_X4_next_240 ?_
                    refine ⟨fun c1830 => ?_, fun c1830 => ?_⟩
                    · exact hq _ hI g0 f0 hT
                    · refine ⟨o_v0, ?_⟩
                      intro x1831 ex1831
                      have q_x1831 : x1831 = x1790 := ex1831.trans d_x1790.symm
                      have d_x1831 := ex1831
                      refine ⟨fun c1832 => ?_, fun c1832 => ?_⟩
                      · exact hq _ hI g0 f0 hT
                      · intro x1833 ex1833
                        have q_x1833 : x1833 = y1806 := ex1833.trans d_y1806.symm
                        have d_x1833 := ex1833
                        intro x1834 ex1834
                        have hI := iv_sI (j := 4) (v := x1834) hI o_v0 (by decide) (nu_free (by decide))
                        have f0 : FRI _ _ _ (sI S1792 v0 4 x1834) := fri_sI g0 f0 o_v0 (by decide)
                        have fL3 : FRI _ _ _ (sI S1792 v0 4 x1834) := fri_sI gL2 fL3 o_v0 (by decide)
                        have fL1794 : FRI _ _ _ (sI S1792 v0 4 x1834) := fri_sI gL1793 fL1794 o_v0 (by decide)
                        have d_x1340 : x1340 = fI (sI S1792 v0 4 x1834) v0 7 := d_x1340.trans (rd_j (by decide)).symm
                        have d_x1831 : x1831 = fI (sI S1792 v0 4 x1834) v0 6 := d_x1831.trans (rd_j (by decide)).symm
                        have d_x1834 : x1834 = fI (sI S1792 v0 4 x1834) v0 4 := (u2_self _ _ _ _).symm
                        exact hq _ hI g0 f0 hT
                  · refine ⟨o_v0, ?_⟩
                    intro x1835 ex1835
                    have q_x1835 : x1835 = y1806 := ex1835.trans d_y1806.symm
                    have d_x1835 := ex1835
                    intro x1836 ex1836
                    have q_x1836 : x1836 = x1340 := ex1836.trans d_x1340.symm
                    have d_x1836 := ex1836
                    refine ⟨fun c1837 => ?_, fun c1837 => ?_⟩
                    · refine u_X4_next_240 ?_
                      refine ⟨fun c1838 => ?_, fun c1838 => ?_⟩
                      · exact hq _ hI g0 f0 hT
                      · refine ⟨o_v0, ?_⟩
                        intro x1839 ex1839
                        have q_x1839 : x1839 = x1790 := ex1839.trans d_x1790.symm
                        have d_x1839 := ex1839
                        refine ⟨fun c1840 => ?_, fun c1840 => ?_⟩
                        · exact hq _ hI g0 f0 hT
                        · intro x1841 ex1841
                          have q_x1841 : x1841 = x1835 := ex1841.trans d_x1835.symm
                          have d_x1841 := ex1841
                          intro x1842 ex1842
                          have hI := iv_sI (j := 4) (v := x1842) hI o_v0 (by decide) (nu_free (by decide))
                          have f0 : FRI _ _ _ (sI S1792 v0 4 x1842) := fri_sI g0 f0 o_v0 (by decide)
                          have fL3 : FRI _ _ _ (sI S1792 v0 4 x1842) := fri_sI gL2 fL3 o_v0 (by decide)
                          have fL1794 : FRI _ _ _ (sI S1792 v0 4 x1842) := fri_sI gL1793 fL1794 o_v0 (by decide)
                          have d_x1836 : x1836 = fI (sI S1792 v0 4 x1842) v0 7 := d_x1836.trans (rd_j (by decide)).symm
                          have d_x1839 : x1839 = fI (sI S1792 v0 4 x1842) v0 6 := d_x1839.trans (rd_j (by decide)).symm
                          have d_x1842 : x1842 = fI (sI S1792 v0 4 x1842) v0 4 := (u2_self _ _ _ _).symm
                          exact hq _ hI g0 f0 hT
                    · have hI := iv_sI (j := 6) (v := (6 : Int32)) hI o_v0 (by decide) (nu_free (by decide))
                      have f0 : FRI _ _ _ (sI S1792 v0 6 (6 : Int32)) := fri_sI g0 f0 o_v0 (by decide)
                      have fL3 : FRI _ _ _ (sI S1792 v0 6 (6 : Int32)) := fri_sI gL2 fL3 o_v0 (by decide)
                      have fL1794 : FRI _ _ _ (sI S1792 v0 6 (6 : Int32)) := fri_sI gL1793 fL1794 o_v0 (by decide)
                      have d_x1836 : x1836 = fI (sI S1792 v0 6 (6 : Int32)) v0 7 := d_x1836.trans (rd_j (by decide)).symm
                      have d_x1835 : x1835 = fI (sI S1792 v0 6 (6 : Int32)) v0 4 := d_x1835.trans (rd_j (by decide)).symm
                      obtain ⟨y1843, hy1843⟩ : ∃ z : Int32, z = (6 : Int32) := ⟨_, rfl⟩
                      have d_y1843 : y1843 = fI (sI S1792 v0 6 (6 : Int32)) v0 6 := hy1843.trans (u2_self _ _ _ _).symm
                      refine u_X4_next_240 ?_
                      refine ⟨fun c1844 => ?_, fun c1844 => ?_⟩
                      · exact hq _ hI g0 f0 hT
                      · refine ⟨o_v0, ?_⟩
                        intro x1845 ex1845
                        have q_x1845 : x1845 = y1843 := ex1845.trans d_y1843.symm
                        have d_x1845 := ex1845
                        refine ⟨fun c1846 => ?_, fun c1846 => ?_⟩
                        · exact hq _ hI g0 f0 hT
                        · intro x1847 ex1847
                          have q_x1847 : x1847 = x1835 := ex1847.trans d_x1835.symm
                          have d_x1847 := ex1847
                          intro x1848 ex1848
                          have hI := iv_sI (j := 4) (v := x1848) hI o_v0 (by decide) (nu_free (by decide))
                          have f0 : FRI _ _ _ (sI (sI S1792 v0 6 (6 : Int32)) v0 4 x1848) := fri_sI g0 f0 o_v0 (by decide)
                          have fL3 : FRI _ _ _ (sI (sI S1792 v0 6 (6 : Int32)) v0 4 x1848) := fri_sI gL2 fL3 o_v0 (by decide)
                          have fL1794 : FRI _ _ _ (sI (sI S1792 v0 6 (6 : Int32)) v0 4 x1848) := fri_sI gL1793 fL1794 o_v0 (by decide)
                          have d_x1836 : x1836 = fI (sI (sI S1792 v0 6 (6 : Int32)) v0 4 x1848) v0 7 := d_x1836.trans (rd_j (by decide)).symm
                          have d_x1845 : x1845 = fI (sI (sI S1792 v0 6 (6 : Int32)) v0 4 x1848) v0 6 := d_x1845.trans (rd_j (by decide)).symm
                          have d_x1848 : x1848 = fI (sI (sI S1792 v0 6 (6 : Int32)) v0 4 x1848) v0 4 := (u2_self _ _ _ _).symm
                          exact hq _ hI g0 f0 hT
                · refine ⟨o_v0, ?_⟩
                  intro x1849 ex1849
                  have q_x1849 : x1849 = y1806 := ex1849.trans d_y1806.symm
                  have d_x1849 := ex1849
                  refine m_X4_sortAt hI o_v0 hT (fun x1850 S1851 hI2 g1852 p_x1850 => ?_)
                  obtain ⟨z_S1851, p_x1850⟩ := p_x1850
                  subst z_S1851
                  intro _
                  intro x1854 ex1854
                  have q_x1854 : x1854 = x1790 := ex1854.trans d_x1790.symm
                  have d_x1854 := ex1854
                  refine ⟨fun c1855 => ?_, fun c1855 => ?_⟩
                  · refine u_X4_next_217 ?_
                    refine ⟨fun c1856 => ?_, fun c1856 => ?_⟩
                    · refine u_X4_next_240 ?_
                      refine ⟨fun c1857 => ?_, fun c1857 => ?_⟩
                      · exact hq _ hI g0 f0 hT
                      · refine ⟨o_v0, ?_⟩
                        intro x1858 ex1858
                        have q_x1858 : x1858 = x1854 := ex1858.trans d_x1854.symm
                        have d_x1858 := ex1858
                        refine ⟨fun c1859 => ?_, fun c1859 => ?_⟩
                        · exact hq _ hI g0 f0 hT
                        · intro x1860 ex1860
                          have q_x1860 : x1860 = x1849 := ex1860.trans d_x1849.symm
                          have d_x1860 := ex1860
                          intro x1861 ex1861
                          have hI := iv_sI (j := 4) (v := x1861) hI o_v0 (by decide) (nu_free (by decide))
                          have f0 : FRI _ _ _ (sI S1792 v0 4 x1861) := fri_sI g0 f0 o_v0 (by decide)
                          have fL3 : FRI _ _ _ (sI S1792 v0 4 x1861) := fri_sI gL2 fL3 o_v0 (by decide)
                          have fL1794 : FRI _ _ _ (sI S1792 v0 4 x1861) := fri_sI gL1793 fL1794 o_v0 (by decide)
                          have d_x1340 : x1340 = fI (sI S1792 v0 4 x1861) v0 7 := d_x1340.trans (rd_j (by decide)).symm
                          have d_x1858 : x1858 = fI (sI S1792 v0 4 x1861) v0 6 := d_x1858.trans (rd_j (by decide)).symm
                          have d_x1861 : x1861 = fI (sI S1792 v0 4 x1861) v0 4 := (u2_self _ _ _ _).symm
                          exact hq _ hI g0 f0 hT
                    · refine ⟨o_v0, ?_⟩
                      intro x1862 ex1862
                      have q_x1862 : x1862 = x1849 := ex1862.trans d_x1849.symm
                      have d_x1862 := ex1862
                      intro x1863 ex1863
                      have q_x1863 : x1863 = x1340 := ex1863.trans d_x1340.symm
                      have d_x1863 := ex1863
                      refine ⟨fun c1864 => ?_, fun c1864 => ?_⟩
                      · refine u_X4_next_240 ?_
                        refine ⟨fun c1865 => ?_, fun c1865 => ?_⟩
                        · exact hq _ hI g0 f0 hT
                        · refine ⟨o_v0, ?_⟩
                          intro x1866 ex1866
                          have q_x1866 : x1866 = x1854 := ex1866.trans d_x1854.symm
                          have d_x1866 := ex1866
                          refine ⟨fun c1867 => ?_, fun c1867 => ?_⟩
                          · exact hq _ hI g0 f0 hT
                          · intro x1868 ex1868
                            have q_x1868 : x1868 = x1862 := ex1868.trans d_x1862.symm
                            have d_x1868 := ex1868
                            intro x1869 ex1869
                            have hI := iv_sI (j := 4) (v := x1869) hI o_v0 (by decide) (nu_free (by decide))
                            have f0 : FRI _ _ _ (sI S1792 v0 4 x1869) := fri_sI g0 f0 o_v0 (by decide)
                            have fL3 : FRI _ _ _ (sI S1792 v0 4 x1869) := fri_sI gL2 fL3 o_v0 (by decide)
                            have fL1794 : FRI _ _ _ (sI S1792 v0 4 x1869) := fri_sI gL1793 fL1794 o_v0 (by decide)
                            have d_x1863 : x1863 = fI (sI S1792 v0 4 x1869) v0 7 := d_x1863.trans (rd_j (by decide)).symm
                            have d_x1866 : x1866 = fI (sI S1792 v0 4 x1869) v0 6 := d_x1866.trans (rd_j (by decide)).symm
                            have d_x1869 : x1869 = fI (sI S1792 v0 4 x1869) v0 4 := (u2_self _ _ _ _).symm
                            exact hq _ hI g0 f0 hT
                      · have hI := iv_sI (j := 6) (v := (6 : Int32)) hI o_v0 (by decide) (nu_free (by decide))
                        have f0 : FRI _ _ _ (sI S1792 v0 6 (6 : Int32)) := fri_sI g0 f0 o_v0 (by decide)
                        have fL3 : FRI _ _ _ (sI S1792 v0 6 (6 : Int32)) := fri_sI gL2 fL3 o_v0 (by decide)
                        have fL1794 : FRI _ _ _ (sI S1792 v0 6 (6 : Int32)) := fri_sI gL1793 fL1794 o_v0 (by decide)
                        have d_x1863 : x1863 = fI (sI S1792 v0 6 (6 : Int32)) v0 7 := d_x1863.trans (rd_j (by decide)).symm
                        have d_x1862 : x1862 = fI (sI S1792 v0 6 (6 : Int32)) v0 4 := d_x1862.trans (rd_j (by decide)).symm
                        obtain ⟨y1870, hy1870⟩ : ∃ z : Int32, z = (6 : Int32) := ⟨_, rfl⟩
                        have d_y1870 : y1870 = fI (sI S1792 v0 6 (6 : Int32)) v0 6 := hy1870.trans (u2_self _ _ _ _).symm
                        refine u_X4_next_240 ?_
                        refine ⟨fun c1871 => ?_, fun c1871 => ?_⟩
                        · exact hq _ hI g0 f0 hT
                        · refine ⟨o_v0, ?_⟩
                          intro x1872 ex1872
                          have q_x1872 : x1872 = y1870 := ex1872.trans d_y1870.symm
                          have d_x1872 := ex1872
                          refine ⟨fun c1873 => ?_, fun c1873 => ?_⟩
                          · exact hq _ hI g0 f0 hT
                          · intro x1874 ex1874
                            have q_x1874 : x1874 = x1862 := ex1874.trans d_x1862.symm
                            have d_x1874 := ex1874
                            intro x1875 ex1875
                            have hI := iv_sI (j := 4) (v := x1875) hI o_v0 (by decide) (nu_free (by decide))
                            have f0 : FRI _ _ _ (sI (sI S1792 v0 6 (6 : Int32)) v0 4 x1875) := fri_sI g0 f0 o_v0 (by decide)
                            have fL3 : FRI _ _ _ (sI (sI S1792 v0 6 (6 : Int32)) v0 4 x1875) := fri_sI gL2 fL3 o_v0 (by decide)
                            have fL1794 : FRI _ _ _ (sI (sI S1792 v0 6 (6 : Int32)) v0 4 x1875) := fri_sI gL1793 fL1794 o_v0 (by decide)
                            have d_x1863 : x1863 = fI (sI (sI S1792 v0 6 (6 : Int32)) v0 4 x1875) v0 7 := d_x1863.trans (rd_j (by decide)).symm
                            have d_x1872 : x1872 = fI (sI (sI S1792 v0 6 (6 : Int32)) v0 4 x1875) v0 6 := d_x1872.trans (rd_j (by decide)).symm
                            have d_x1875 : x1875 = fI (sI (sI S1792 v0 6 (6 : Int32)) v0 4 x1875) v0 4 := (u2_self _ _ _ _).symm
                            exact hq _ hI g0 f0 hT
                  · refine ⟨fun c1876 => ?_, fun c1876 => ?_⟩
                    · refine u_X4_next_201 ?_
                      refine ⟨o_v0, ?_⟩
                      intro x1877 ex1877
                      have q_x1877 : x1877 = x1849 := ex1877.trans d_x1849.symm
                      have d_x1877 := ex1877
                      intro x1878 ex1878
                      have hI := iv_sI (j := 4) (v := x1878) hI o_v0 (by decide) (nu_free (by decide))
                      have f0 : FRI _ _ _ (sI S1792 v0 4 x1878) := fri_sI g0 f0 o_v0 (by decide)
                      have fL3 : FRI _ _ _ (sI S1792 v0 4 x1878) := fri_sI gL2 fL3 o_v0 (by decide)
                      have fL1794 : FRI _ _ _ (sI S1792 v0 4 x1878) := fri_sI gL1793 fL1794 o_v0 (by decide)
                      have d_x1340 : x1340 = fI (sI S1792 v0 4 x1878) v0 7 := d_x1340.trans (rd_j (by decide)).symm
                      have d_x1854 : x1854 = fI (sI S1792 v0 4 x1878) v0 6 := d_x1854.trans (rd_j (by decide)).symm
                      have d_x1878 : x1878 = fI (sI S1792 v0 4 x1878) v0 4 := (u2_self _ _ _ _).symm
                      intro x1879 ex1879
                      exact ih1805 _ _ _ _ _ _ ⟨hI, gL1793, fL1794, rfl, rfl, rfl, rfl, hT, (q535 i1 c9 p_x1335 c1339 q_x1340 q_x1341 p_x1342 q_x1346 c1347 q_x1786 c1787 q_x1788 c1789 q_x1790 c1791 i1 p_k1 c1807 c1828 q_x1849 p_x1850 q_x1854 c1855 c1876 q_x1877 ex1878 ex1879), (by rw [← d_x1854, ← d_x1878]; exact (q536 i1 c9 p_x1335 c1339 q_x1340 q_x1341 p_x1342 q_x1346 c1347 q_x1786 c1787 q_x1788 c1789 q_x1790 c1791 i1 p_k1 c1807 c1828 q_x1849 p_x1850 q_x1854 c1855 c1876 q_x1877 ex1878 ex1879))⟩ (mu_up (q537 i1 c9 p_x1335 c1339 q_x1340 q_x1341 p_x1342 q_x1346 c1347 q_x1786 c1787 q_x1788 c1789 q_x1790 c1791 i1 p_k1 c1807 c1828 q_x1849 p_x1850 q_x1854 c1855 c1876 q_x1877 ex1878 ex1879) (q538 i1 c9 p_x1335 c1339 q_x1340 q_x1341 p_x1342 q_x1346 c1347 q_x1786 c1787 q_x1788 c1789 q_x1790 c1791 i1 p_k1 c1807 c1828 q_x1849 p_x1850 q_x1854 c1855 c1876 q_x1877 ex1878 ex1879))
                    · intro x1880 ex1880
                      have q_x1880 : x1880 = x1849 := ex1880.trans d_x1849.symm
                      have d_x1880 := ex1880
                      obtain ⟨a1881, ea1881, o_a1881, l_a1881⟩ := hT
                      refine ⟨a1881, ea1881, ?_⟩
                      refine ⟨o_a1881, ?_⟩
                      have n_a1881 : nI (hN S1792 a1881) = 900 := by rw [show hN S1792 a1881 = 900 from l_a1881]; decide
                      refine ⟨fun c1882 => ?_, fun c1882 => ?_⟩
                      · rw [n_a1881] at c1882
                        refine u_X4_next_201 ?_
                        refine ⟨o_v0, ?_⟩
                        intro x1883 ex1883
                        have q_x1883 : x1883 = x1880 := ex1883.trans d_x1880.symm
                        have d_x1883 := ex1883
                        intro x1884 ex1884
                        have hI := iv_sI (j := 4) (v := x1884) hI o_v0 (by decide) (nu_free (by decide))
                        have f0 : FRI _ _ _ (sI S1792 v0 4 x1884) := fri_sI g0 f0 o_v0 (by decide)
                        have fL3 : FRI _ _ _ (sI S1792 v0 4 x1884) := fri_sI gL2 fL3 o_v0 (by decide)
                        have fL1794 : FRI _ _ _ (sI S1792 v0 4 x1884) := fri_sI gL1793 fL1794 o_v0 (by decide)
                        have d_x1340 : x1340 = fI (sI S1792 v0 4 x1884) v0 7 := d_x1340.trans (rd_j (by decide)).symm
                        have d_x1854 : x1854 = fI (sI S1792 v0 4 x1884) v0 6 := d_x1854.trans (rd_j (by decide)).symm
                        have d_x1884 : x1884 = fI (sI S1792 v0 4 x1884) v0 4 := (u2_self _ _ _ _).symm
                        intro x1885 ex1885
                        exact ih1805 _ _ _ _ _ _ ⟨hI, gL1793, fL1794, rfl, rfl, rfl, rfl, hT, (q539 i1 c9 p_x1335 c1339 q_x1340 q_x1341 p_x1342 q_x1346 c1347 q_x1786 c1787 q_x1788 c1789 q_x1790 c1791 i1 p_k1 c1807 c1828 q_x1849 p_x1850 q_x1854 c1855 c1876 q_x1880 c1882 q_x1883 ex1884 ex1885), (by rw [← d_x1854, ← d_x1884]; exact (q540 i1 c9 p_x1335 c1339 q_x1340 q_x1341 p_x1342 q_x1346 c1347 q_x1786 c1787 q_x1788 c1789 q_x1790 c1791 i1 p_k1 c1807 c1828 q_x1849 p_x1850 q_x1854 c1855 c1876 q_x1880 c1882 q_x1883 ex1884 ex1885))⟩ (mu_up (q541 i1 c9 p_x1335 c1339 q_x1340 q_x1341 p_x1342 q_x1346 c1347 q_x1786 c1787 q_x1788 c1789 q_x1790 c1791 i1 p_k1 c1807 c1828 q_x1849 p_x1850 q_x1854 c1855 c1876 q_x1880 c1882 q_x1883 ex1884 ex1885) (q542 i1 c9 p_x1335 c1339 q_x1340 q_x1341 p_x1342 q_x1346 c1347 q_x1786 c1787 q_x1788 c1789 q_x1790 c1791 i1 p_k1 c1807 c1828 q_x1849 p_x1850 q_x1854 c1855 c1876 q_x1880 c1882 q_x1883 ex1884 ex1885))
                      · rw [n_a1881] at c1882
                        intro x1886 ex1886
                        have dj_x1886 := ex1886
                        refine ⟨a1881, ea1881, ?_⟩
                        intro x1888 ex1888
                        have q_x1888 : x1888 = x1880 := ex1888.trans d_x1880.symm
                        have d_x1888 := ex1888
                        refine ⟨o_a1881, ?_⟩
                        refine ⟨(vin l_a1881 (m := 900) (by decide) (q543 i1 c9 p_x1335 c1339 q_x1340 q_x1341 p_x1342 q_x1346 c1347 q_x1786 c1787 q_x1788 c1789 q_x1790 c1791 i1 p_k1 c1807 c1828 q_x1849 p_x1850 q_x1854 c1855 c1876 q_x1880 c1882 q_x1888)), ?_⟩
                        intro x1889 ex1889
                        intro x1890 ex1890
                        have q_x1890 : x1890 = x1854 := ex1890.trans d_x1854.symm
                        have d_x1890 := ex1890
                        refine ⟨fun c1891 => ?_, fun c1891 => ?_⟩
                        · refine u_X4_next_195 ?_
                          refine ⟨o_v0, ?_⟩
                          intro x1892 ex1892
                          have hI := iv_sJ (j := 8) (v := x1892) hI o_v0 (by decide)
                          refine u_X4_next_201 ?_
                          refine ⟨o_v0, ?_⟩
                          intro x1893 ex1893
                          have q_x1893 : x1893 = x1888 := ex1893.trans d_x1888.symm
                          have d_x1893 := ex1893
                          intro x1894 ex1894
                          have hI := iv_sI (j := 4) (v := x1894) hI o_v0 (by decide) (nu_free (by decide))
                          have f0 : FRI _ _ _ (sI (sJ S1792 v0 8 x1892) v0 4 x1894) := fri_sI g0 f0 o_v0 (by decide)
                          have fL3 : FRI _ _ _ (sI (sJ S1792 v0 8 x1892) v0 4 x1894) := fri_sI gL2 fL3 o_v0 (by decide)
                          have fL1794 : FRI _ _ _ (sI (sJ S1792 v0 8 x1892) v0 4 x1894) := fri_sI gL1793 fL1794 o_v0 (by decide)
                          have d_x1340 : x1340 = fI (sI (sJ S1792 v0 8 x1892) v0 4 x1894) v0 7 := d_x1340.trans (rd_j (by decide)).symm
                          have d_x1890 : x1890 = fI (sI (sJ S1792 v0 8 x1892) v0 4 x1894) v0 6 := d_x1890.trans (rd_j (by decide)).symm
                          have d_x1894 : x1894 = fI (sI (sJ S1792 v0 8 x1892) v0 4 x1894) v0 4 := (u2_self _ _ _ _).symm
                          intro x1895 ex1895
                          exact ih1805 _ _ _ _ _ _ ⟨hI, gL1793, fL1794, rfl, rfl, rfl, rfl, hT, (q544 i1 c9 p_x1335 c1339 q_x1340 q_x1341 p_x1342 q_x1346 c1347 q_x1786 c1787 q_x1788 c1789 q_x1790 c1791 i1 p_k1 c1807 c1828 q_x1849 p_x1850 q_x1854 c1855 c1876 q_x1880 c1882 q_x1888 q_x1890 c1891 q_x1893 ex1894 ex1895), (by rw [← d_x1890, ← d_x1894]; exact (q545 i1 c9 p_x1335 c1339 q_x1340 q_x1341 p_x1342 q_x1346 c1347 q_x1786 c1787 q_x1788 c1789 q_x1790 c1791 i1 p_k1 c1807 c1828 q_x1849 p_x1850 q_x1854 c1855 c1876 q_x1880 c1882 q_x1888 q_x1890 c1891 q_x1893 ex1894 ex1895))⟩ (mu_up (q546 i1 c9 p_x1335 c1339 q_x1340 q_x1341 p_x1342 q_x1346 c1347 q_x1786 c1787 q_x1788 c1789 q_x1790 c1791 i1 p_k1 c1807 c1828 q_x1849 p_x1850 q_x1854 c1855 c1876 q_x1880 c1882 q_x1888 q_x1890 c1891 q_x1893 ex1894 ex1895) (q547 i1 c9 p_x1335 c1339 q_x1340 q_x1341 p_x1342 q_x1346 c1347 q_x1786 c1787 q_x1788 c1789 q_x1790 c1791 i1 p_k1 c1807 c1828 q_x1849 p_x1850 q_x1854 c1855 c1876 q_x1880 c1882 q_x1888 q_x1890 c1891 q_x1893 ex1894 ex1895))
                        · refine u_X4_next_195 ?_
                          refine ⟨o_v0, ?_⟩
                          intro x1896 ex1896
                          have hI := iv_sJ (j := 8) (v := x1896) hI o_v0 (by decide)
                          refine u_X4_next_201 ?_
                          refine ⟨o_v0, ?_⟩
                          intro x1897 ex1897
                          have q_x1897 : x1897 = x1888 := ex1897.trans d_x1888.symm
                          have d_x1897 := ex1897
                          intro x1898 ex1898
                          have hI := iv_sI (j := 4) (v := x1898) hI o_v0 (by decide) (nu_free (by decide))
                          have f0 : FRI _ _ _ (sI (sJ S1792 v0 8 x1896) v0 4 x1898) := fri_sI g0 f0 o_v0 (by decide)
                          have fL3 : FRI _ _ _ (sI (sJ S1792 v0 8 x1896) v0 4 x1898) := fri_sI gL2 fL3 o_v0 (by decide)
                          have fL1794 : FRI _ _ _ (sI (sJ S1792 v0 8 x1896) v0 4 x1898) := fri_sI gL1793 fL1794 o_v0 (by decide)
                          have d_x1340 : x1340 = fI (sI (sJ S1792 v0 8 x1896) v0 4 x1898) v0 7 := d_x1340.trans (rd_j (by decide)).symm
                          have d_x1890 : x1890 = fI (sI (sJ S1792 v0 8 x1896) v0 4 x1898) v0 6 := d_x1890.trans (rd_j (by decide)).symm
                          have d_x1898 : x1898 = fI (sI (sJ S1792 v0 8 x1896) v0 4 x1898) v0 4 := (u2_self _ _ _ _).symm
                          intro x1899 ex1899
                          exact ih1805 _ _ _ _ _ _ ⟨hI, gL1793, fL1794, rfl, rfl, rfl, rfl, hT, (q548 i1 c9 p_x1335 c1339 q_x1340 q_x1341 p_x1342 q_x1346 c1347 q_x1786 c1787 q_x1788 c1789 q_x1790 c1791 i1 p_k1 c1807 c1828 q_x1849 p_x1850 q_x1854 c1855 c1876 q_x1880 c1882 q_x1888 q_x1890 c1891 q_x1897 ex1898 ex1899), (by rw [← d_x1890, ← d_x1898]; exact (q549 i1 c9 p_x1335 c1339 q_x1340 q_x1341 p_x1342 q_x1346 c1347 q_x1786 c1787 q_x1788 c1789 q_x1790 c1791 i1 p_k1 c1807 c1828 q_x1849 p_x1850 q_x1854 c1855 c1876 q_x1880 c1882 q_x1888 q_x1890 c1891 q_x1897 ex1898 ex1899))⟩ (mu_up (q550 i1 c9 p_x1335 c1339 q_x1340 q_x1341 p_x1342 q_x1346 c1347 q_x1786 c1787 q_x1788 c1789 q_x1790 c1791 i1 p_k1 c1807 c1828 q_x1849 p_x1850 q_x1854 c1855 c1876 q_x1880 c1882 q_x1888 q_x1890 c1891 q_x1897 ex1898 ex1899) (q551 i1 c9 p_x1335 c1339 q_x1340 q_x1341 p_x1342 q_x1346 c1347 q_x1786 c1787 q_x1788 c1789 q_x1790 c1791 i1 p_k1 c1807 c1828 q_x1849 p_x1850 q_x1854 c1855 c1876 q_x1880 c1882 q_x1888 q_x1890 c1891 q_x1897 ex1898 ex1899))
            · refine u_X4_next_114 ?_
              refine i_X4_next_118 (fun (y0 : Nat) (y1 : Int32) (y2 : Int32) (y3 : Int32) (y4 : Int32) (Z : HS) => ((2147483647 : Int32).toInt - y4.toInt).toNat) (fun (y0 : Nat) (y1 : Int32) (y2 : Int32) (y3 : Int32) (y4 : Int32) (Z : HS) => (IV Z) ∧ (Gr (sJ (sI (sI S1 v0 7 x1340) v0 6 x1342) v0 8 (0 : Int64)) Z) ∧ (FRI [(4, 4)] [] (sJ (sI (sI S1 v0 7 x1340) v0 6 x1342) v0 8 (0 : Int64)) Z) ∧ (v0 = y0) ∧ ((0 : Int32) = y1) ∧ ((3 : Int32) = y2) ∧ ((32 : Int32) = y3) ∧ (TX Z v0) ∧ (0 ≤ y4) ∧ ((y1 = 0 ∨ fI Z v0 6 = 1 ∨ fI Z v0 6 = 2) ∧ (y1 = 0 → fI Z v0 6 = 0 ∨ (0 ≤ fI Z v0 4 ∧ fI Z v0 4 < 900)))) ?_ _ _ _ _ _ _ ⟨hI, (gr_rf _), (fri_rf _ _ _), rfl, rfl, rfl, rfl, hT, (q552 i1 c9 p_x1335 c1339 q_x1340 q_x1341 p_x1342 q_x1346 c1347 q_x1786 c1787 q_x1788 c1789 q_x1790 c1791), (by rw [← d_x1790, ← d_x1341]; exact (q553 i1 c9 p_x1335 c1339 q_x1340 q_x1341 p_x1342 q_x1346 c1347 q_x1786 c1787 q_x1788 c1789 q_x1790 c1791))⟩
              intro w1903 w1905 w1907 w1909 w1911 S1900 X1912 ⟨hI, gL1901, fL1902, q1904, q1906, q1908, q1910, hT, i1, k1⟩ ih1913
              subst q1904
              subst q1906
              subst q1908
              subst q1910
              have d_x1340 := d_x1340.trans (fri_at fL1902 (by decide) (by decide) o_v0).symm
              have d_x1790 := d_x1790.trans (fri_at fL1902 (by decide) (by decide) o_v0).symm
              have f0 := fri_tr g0 f0 fL1902 (by decide) (by decide)
              have fL3 := fri_tr gL2 fL3 fL1902 (by decide) (by decide)
              have o_v0 := gr_ob gL1901 o_v0
              have g0 := gr_tr g0 gL1901
              have gL2 := gr_tr gL2 gL1901
              obtain ⟨y1914, d_y1914⟩ : ∃ z : Int32, z = fI S1900 v0 4 := ⟨_, rfl⟩
              have p_k1 : ((0 : Int32) = 0 ∨ x1790 = 1 ∨ x1790 = 2) ∧ ((0 : Int32) = 0 → x1790 = 0 ∨ (0 ≤ y1914 ∧ y1914 < 900)) := by rw [d_x1790, d_y1914]; exact k1
              refine u_X4_next_118 ?_
              refine ⟨fun c1915 => ?_, fun c1915 => ?_⟩
              · refine u_X4_next_217 ?_
                refine ⟨fun c1916 => ?_, fun c1916 => ?_⟩
                · refine u_X4_next_240 ?_
                  refine ⟨fun c1917 => ?_, fun c1917 => ?_⟩
                  · exact hq _ hI g0 f0 hT
                  · refine ⟨o_v0, ?_⟩
                    intro x1918 ex1918
                    have q_x1918 : x1918 = x1790 := ex1918.trans d_x1790.symm
                    have d_x1918 := ex1918
                    refine ⟨fun c1919 => ?_, fun c1919 => ?_⟩
                    · exact hq _ hI g0 f0 hT
                    · intro x1920 ex1920
                      have q_x1920 : x1920 = y1914 := ex1920.trans d_y1914.symm
                      have d_x1920 := ex1920
                      intro x1921 ex1921
                      have hI := iv_sI (j := 4) (v := x1921) hI o_v0 (by decide) (nu_free (by decide))
                      have f0 : FRI _ _ _ (sI S1900 v0 4 x1921) := fri_sI g0 f0 o_v0 (by decide)
                      have fL3 : FRI _ _ _ (sI S1900 v0 4 x1921) := fri_sI gL2 fL3 o_v0 (by decide)
                      have fL1902 : FRI _ _ _ (sI S1900 v0 4 x1921) := fri_sI gL1901 fL1902 o_v0 (by decide)
                      have d_x1340 : x1340 = fI (sI S1900 v0 4 x1921) v0 7 := d_x1340.trans (rd_j (by decide)).symm
                      have d_x1918 : x1918 = fI (sI S1900 v0 4 x1921) v0 6 := d_x1918.trans (rd_j (by decide)).symm
                      have d_x1921 : x1921 = fI (sI S1900 v0 4 x1921) v0 4 := (u2_self _ _ _ _).symm
                      exact hq _ hI g0 f0 hT
                · refine ⟨o_v0, ?_⟩
                  intro x1922 ex1922
                  have q_x1922 : x1922 = y1914 := ex1922.trans d_y1914.symm
                  have d_x1922 := ex1922
                  intro x1923 ex1923
                  have q_x1923 : x1923 = x1340 := ex1923.trans d_x1340.symm
                  have d_x1923 := ex1923
                  refine ⟨fun c1924 => ?_, fun c1924 => ?_⟩
                  · refine u_X4_next_240 ?_
                    refine ⟨fun c1925 => ?_, fun c1925 => ?_⟩
                    · exact hq _ hI g0 f0 hT
                    · refine ⟨o_v0, ?_⟩
                      intro x1926 ex1926
                      have q_x1926 : x1926 = x1790 := ex1926.trans d_x1790.symm
                      have d_x1926 := ex1926
                      refine ⟨fun c1927 => ?_, fun c1927 => ?_⟩
                      · exact hq _ hI g0 f0 hT
                      · intro x1928 ex1928
                        have q_x1928 : x1928 = x1922 := ex1928.trans d_x1922.symm
                        have d_x1928 := ex1928
                        intro x1929 ex1929
                        have hI := iv_sI (j := 4) (v := x1929) hI o_v0 (by decide) (nu_free (by decide))
                        have f0 : FRI _ _ _ (sI S1900 v0 4 x1929) := fri_sI g0 f0 o_v0 (by decide)
                        have fL3 : FRI _ _ _ (sI S1900 v0 4 x1929) := fri_sI gL2 fL3 o_v0 (by decide)
                        have fL1902 : FRI _ _ _ (sI S1900 v0 4 x1929) := fri_sI gL1901 fL1902 o_v0 (by decide)
                        have d_x1923 : x1923 = fI (sI S1900 v0 4 x1929) v0 7 := d_x1923.trans (rd_j (by decide)).symm
                        have d_x1926 : x1926 = fI (sI S1900 v0 4 x1929) v0 6 := d_x1926.trans (rd_j (by decide)).symm
                        have d_x1929 : x1929 = fI (sI S1900 v0 4 x1929) v0 4 := (u2_self _ _ _ _).symm
                        exact hq _ hI g0 f0 hT
                  · have hI := iv_sI (j := 6) (v := (6 : Int32)) hI o_v0 (by decide) (nu_free (by decide))
                    have f0 : FRI _ _ _ (sI S1900 v0 6 (6 : Int32)) := fri_sI g0 f0 o_v0 (by decide)
                    have fL3 : FRI _ _ _ (sI S1900 v0 6 (6 : Int32)) := fri_sI gL2 fL3 o_v0 (by decide)
                    have fL1902 : FRI _ _ _ (sI S1900 v0 6 (6 : Int32)) := fri_sI gL1901 fL1902 o_v0 (by decide)
                    have d_x1923 : x1923 = fI (sI S1900 v0 6 (6 : Int32)) v0 7 := d_x1923.trans (rd_j (by decide)).symm
                    have d_x1922 : x1922 = fI (sI S1900 v0 6 (6 : Int32)) v0 4 := d_x1922.trans (rd_j (by decide)).symm
                    obtain ⟨y1930, hy1930⟩ : ∃ z : Int32, z = (6 : Int32) := ⟨_, rfl⟩
                    have d_y1930 : y1930 = fI (sI S1900 v0 6 (6 : Int32)) v0 6 := hy1930.trans (u2_self _ _ _ _).symm
                    refine u_X4_next_240 ?_
                    refine ⟨fun c1931 => ?_, fun c1931 => ?_⟩
                    · exact hq _ hI g0 f0 hT
                    · refine ⟨o_v0, ?_⟩
                      intro x1932 ex1932
                      have q_x1932 : x1932 = y1930 := ex1932.trans d_y1930.symm
                      have d_x1932 := ex1932
                      refine ⟨fun c1933 => ?_, fun c1933 => ?_⟩
                      · exact hq _ hI g0 f0 hT
                      · intro x1934 ex1934
                        have q_x1934 : x1934 = x1922 := ex1934.trans d_x1922.symm
                        have d_x1934 := ex1934
                        intro x1935 ex1935
                        have hI := iv_sI (j := 4) (v := x1935) hI o_v0 (by decide) (nu_free (by decide))
                        have f0 : FRI _ _ _ (sI (sI S1900 v0 6 (6 : Int32)) v0 4 x1935) := fri_sI g0 f0 o_v0 (by decide)
                        have fL3 : FRI _ _ _ (sI (sI S1900 v0 6 (6 : Int32)) v0 4 x1935) := fri_sI gL2 fL3 o_v0 (by decide)
                        have fL1902 : FRI _ _ _ (sI (sI S1900 v0 6 (6 : Int32)) v0 4 x1935) := fri_sI gL1901 fL1902 o_v0 (by decide)
                        have d_x1923 : x1923 = fI (sI (sI S1900 v0 6 (6 : Int32)) v0 4 x1935) v0 7 := d_x1923.trans (rd_j (by decide)).symm
                        have d_x1932 : x1932 = fI (sI (sI S1900 v0 6 (6 : Int32)) v0 4 x1935) v0 6 := d_x1932.trans (rd_j (by decide)).symm
                        have d_x1935 : x1935 = fI (sI (sI S1900 v0 6 (6 : Int32)) v0 4 x1935) v0 4 := (u2_self _ _ _ _).symm
                        exact hq _ hI g0 f0 hT
              · refine ⟨fun c1936 => ?_, fun c1936 => ?_⟩
                · refine u_X4_next_217 ?_
                  refine ⟨fun c1937 => ?_, fun c1937 => ?_⟩
                  · refine u_X4_next_240 ?_
                    refine ⟨fun c1938 => ?_, fun c1938 => ?_⟩
                    · exact hq _ hI g0 f0 hT
                    · refine ⟨o_v0, ?_⟩
                      intro x1939 ex1939
                      have q_x1939 : x1939 = x1790 := ex1939.trans d_x1790.symm
                      have d_x1939 := ex1939
                      refine ⟨fun c1940 => ?_, fun c1940 => ?_⟩
                      · exact hq _ hI g0 f0 hT
                      · intro x1941 ex1941
                        have q_x1941 : x1941 = y1914 := ex1941.trans d_y1914.symm
                        have d_x1941 := ex1941
                        intro x1942 ex1942
                        have hI := iv_sI (j := 4) (v := x1942) hI o_v0 (by decide) (nu_free (by decide))
                        have f0 : FRI _ _ _ (sI S1900 v0 4 x1942) := fri_sI g0 f0 o_v0 (by decide)
                        have fL3 : FRI _ _ _ (sI S1900 v0 4 x1942) := fri_sI gL2 fL3 o_v0 (by decide)
                        have fL1902 : FRI _ _ _ (sI S1900 v0 4 x1942) := fri_sI gL1901 fL1902 o_v0 (by decide)
                        have d_x1340 : x1340 = fI (sI S1900 v0 4 x1942) v0 7 := d_x1340.trans (rd_j (by decide)).symm
                        have d_x1939 : x1939 = fI (sI S1900 v0 4 x1942) v0 6 := d_x1939.trans (rd_j (by decide)).symm
                        have d_x1942 : x1942 = fI (sI S1900 v0 4 x1942) v0 4 := (u2_self _ _ _ _).symm
                        exact hq _ hI g0 f0 hT
                  · refine ⟨o_v0, ?_⟩
                    intro x1943 ex1943
                    have q_x1943 : x1943 = y1914 := ex1943.trans d_y1914.symm
                    have d_x1943 := ex1943
                    intro x1944 ex1944
                    have q_x1944 : x1944 = x1340 := ex1944.trans d_x1340.symm
                    have d_x1944 := ex1944
                    refine ⟨fun c1945 => ?_, fun c1945 => ?_⟩
                    · refine u_X4_next_240 ?_
                      refine ⟨fun c1946 => ?_, fun c1946 => ?_⟩
                      · exact hq _ hI g0 f0 hT
                      · refine ⟨o_v0, ?_⟩
                        intro x1947 ex1947
                        have q_x1947 : x1947 = x1790 := ex1947.trans d_x1790.symm
                        have d_x1947 := ex1947
                        refine ⟨fun c1948 => ?_, fun c1948 => ?_⟩
                        · exact hq _ hI g0 f0 hT
                        · intro x1949 ex1949
                          have q_x1949 : x1949 = x1943 := ex1949.trans d_x1943.symm
                          have d_x1949 := ex1949
                          intro x1950 ex1950
                          have hI := iv_sI (j := 4) (v := x1950) hI o_v0 (by decide) (nu_free (by decide))
                          have f0 : FRI _ _ _ (sI S1900 v0 4 x1950) := fri_sI g0 f0 o_v0 (by decide)
                          have fL3 : FRI _ _ _ (sI S1900 v0 4 x1950) := fri_sI gL2 fL3 o_v0 (by decide)
                          have fL1902 : FRI _ _ _ (sI S1900 v0 4 x1950) := fri_sI gL1901 fL1902 o_v0 (by decide)
                          have d_x1944 : x1944 = fI (sI S1900 v0 4 x1950) v0 7 := d_x1944.trans (rd_j (by decide)).symm
                          have d_x1947 : x1947 = fI (sI S1900 v0 4 x1950) v0 6 := d_x1947.trans (rd_j (by decide)).symm
                          have d_x1950 : x1950 = fI (sI S1900 v0 4 x1950) v0 4 := (u2_self _ _ _ _).symm
                          exact hq _ hI g0 f0 hT
                    · have hI := iv_sI (j := 6) (v := (6 : Int32)) hI o_v0 (by decide) (nu_free (by decide))
                      have f0 : FRI _ _ _ (sI S1900 v0 6 (6 : Int32)) := fri_sI g0 f0 o_v0 (by decide)
                      have fL3 : FRI _ _ _ (sI S1900 v0 6 (6 : Int32)) := fri_sI gL2 fL3 o_v0 (by decide)
                      have fL1902 : FRI _ _ _ (sI S1900 v0 6 (6 : Int32)) := fri_sI gL1901 fL1902 o_v0 (by decide)
                      have d_x1944 : x1944 = fI (sI S1900 v0 6 (6 : Int32)) v0 7 := d_x1944.trans (rd_j (by decide)).symm
                      have d_x1943 : x1943 = fI (sI S1900 v0 6 (6 : Int32)) v0 4 := d_x1943.trans (rd_j (by decide)).symm
                      obtain ⟨y1951, hy1951⟩ : ∃ z : Int32, z = (6 : Int32) := ⟨_, rfl⟩
                      have d_y1951 : y1951 = fI (sI S1900 v0 6 (6 : Int32)) v0 6 := hy1951.trans (u2_self _ _ _ _).symm
                      refine u_X4_next_240 ?_
                      refine ⟨fun c1952 => ?_, fun c1952 => ?_⟩
                      · exact hq _ hI g0 f0 hT
                      · refine ⟨o_v0, ?_⟩
                        intro x1953 ex1953
                        have q_x1953 : x1953 = y1951 := ex1953.trans d_y1951.symm
                        have d_x1953 := ex1953
                        refine ⟨fun c1954 => ?_, fun c1954 => ?_⟩
                        · exact hq _ hI g0 f0 hT
                        · intro x1955 ex1955
                          have q_x1955 : x1955 = x1943 := ex1955.trans d_x1943.symm
                          have d_x1955 := ex1955
                          intro x1956 ex1956
                          have hI := iv_sI (j := 4) (v := x1956) hI o_v0 (by decide) (nu_free (by decide))
                          have f0 : FRI _ _ _ (sI (sI S1900 v0 6 (6 : Int32)) v0 4 x1956) := fri_sI g0 f0 o_v0 (by decide)
                          have fL3 : FRI _ _ _ (sI (sI S1900 v0 6 (6 : Int32)) v0 4 x1956) := fri_sI gL2 fL3 o_v0 (by decide)
                          have fL1902 : FRI _ _ _ (sI (sI S1900 v0 6 (6 : Int32)) v0 4 x1956) := fri_sI gL1901 fL1902 o_v0 (by decide)
                          have d_x1944 : x1944 = fI (sI (sI S1900 v0 6 (6 : Int32)) v0 4 x1956) v0 7 := d_x1944.trans (rd_j (by decide)).symm
                          have d_x1953 : x1953 = fI (sI (sI S1900 v0 6 (6 : Int32)) v0 4 x1956) v0 6 := d_x1953.trans (rd_j (by decide)).symm
                          have d_x1956 : x1956 = fI (sI (sI S1900 v0 6 (6 : Int32)) v0 4 x1956) v0 4 := (u2_self _ _ _ _).symm
                          exact hq _ hI g0 f0 hT
                · refine ⟨o_v0, ?_⟩
                  intro x1957 ex1957
                  have q_x1957 : x1957 = y1914 := ex1957.trans d_y1914.symm
                  have d_x1957 := ex1957
                  refine m_X4_sortAt hI o_v0 hT (fun x1958 S1959 hI2 g1960 p_x1958 => ?_)
                  obtain ⟨z_S1959, p_x1958⟩ := p_x1958
                  subst z_S1959
                  intro _
                  intro x1962 ex1962
                  have q_x1962 : x1962 = x1790 := ex1962.trans d_x1790.symm
                  have d_x1962 := ex1962
                  refine ⟨fun c1963 => ?_, fun c1963 => ?_⟩
                  · refine u_X4_next_217 ?_
                    refine ⟨fun c1964 => ?_, fun c1964 => ?_⟩
                    · refine u_X4_next_240 ?_
                      refine ⟨fun c1965 => ?_, fun c1965 => ?_⟩
                      · exact hq _ hI g0 f0 hT
                      · refine ⟨o_v0, ?_⟩
                        intro x1966 ex1966
                        have q_x1966 : x1966 = x1962 := ex1966.trans d_x1962.symm
                        have d_x1966 := ex1966
                        refine ⟨fun c1967 => ?_, fun c1967 => ?_⟩
                        · exact hq _ hI g0 f0 hT
                        · intro x1968 ex1968
                          have q_x1968 : x1968 = x1957 := ex1968.trans d_x1957.symm
                          have d_x1968 := ex1968
                          intro x1969 ex1969
                          have hI := iv_sI (j := 4) (v := x1969) hI o_v0 (by decide) (nu_free (by decide))
                          have f0 : FRI _ _ _ (sI S1900 v0 4 x1969) := fri_sI g0 f0 o_v0 (by decide)
                          have fL3 : FRI _ _ _ (sI S1900 v0 4 x1969) := fri_sI gL2 fL3 o_v0 (by decide)
                          have fL1902 : FRI _ _ _ (sI S1900 v0 4 x1969) := fri_sI gL1901 fL1902 o_v0 (by decide)
                          have d_x1340 : x1340 = fI (sI S1900 v0 4 x1969) v0 7 := d_x1340.trans (rd_j (by decide)).symm
                          have d_x1966 : x1966 = fI (sI S1900 v0 4 x1969) v0 6 := d_x1966.trans (rd_j (by decide)).symm
                          have d_x1969 : x1969 = fI (sI S1900 v0 4 x1969) v0 4 := (u2_self _ _ _ _).symm
                          exact hq _ hI g0 f0 hT
                    · refine ⟨o_v0, ?_⟩
                      intro x1970 ex1970
                      have q_x1970 : x1970 = x1957 := ex1970.trans d_x1957.symm
                      have d_x1970 := ex1970
                      intro x1971 ex1971
                      have q_x1971 : x1971 = x1340 := ex1971.trans d_x1340.symm
                      have d_x1971 := ex1971
                      refine ⟨fun c1972 => ?_, fun c1972 => ?_⟩
                      · refine u_X4_next_240 ?_
                        refine ⟨fun c1973 => ?_, fun c1973 => ?_⟩
                        · exact hq _ hI g0 f0 hT
                        · refine ⟨o_v0, ?_⟩
                          intro x1974 ex1974
                          have q_x1974 : x1974 = x1962 := ex1974.trans d_x1962.symm
                          have d_x1974 := ex1974
                          refine ⟨fun c1975 => ?_, fun c1975 => ?_⟩
                          · exact hq _ hI g0 f0 hT
                          · intro x1976 ex1976
                            have q_x1976 : x1976 = x1970 := ex1976.trans d_x1970.symm
                            have d_x1976 := ex1976
                            intro x1977 ex1977
                            have hI := iv_sI (j := 4) (v := x1977) hI o_v0 (by decide) (nu_free (by decide))
                            have f0 : FRI _ _ _ (sI S1900 v0 4 x1977) := fri_sI g0 f0 o_v0 (by decide)
                            have fL3 : FRI _ _ _ (sI S1900 v0 4 x1977) := fri_sI gL2 fL3 o_v0 (by decide)
                            have fL1902 : FRI _ _ _ (sI S1900 v0 4 x1977) := fri_sI gL1901 fL1902 o_v0 (by decide)
                            have d_x1971 : x1971 = fI (sI S1900 v0 4 x1977) v0 7 := d_x1971.trans (rd_j (by decide)).symm
                            have d_x1974 : x1974 = fI (sI S1900 v0 4 x1977) v0 6 := d_x1974.trans (rd_j (by decide)).symm
                            have d_x1977 : x1977 = fI (sI S1900 v0 4 x1977) v0 4 := (u2_self _ _ _ _).symm
                            exact hq _ hI g0 f0 hT
                      · have hI := iv_sI (j := 6) (v := (6 : Int32)) hI o_v0 (by decide) (nu_free (by decide))
                        have f0 : FRI _ _ _ (sI S1900 v0 6 (6 : Int32)) := fri_sI g0 f0 o_v0 (by decide)
                        have fL3 : FRI _ _ _ (sI S1900 v0 6 (6 : Int32)) := fri_sI gL2 fL3 o_v0 (by decide)
                        have fL1902 : FRI _ _ _ (sI S1900 v0 6 (6 : Int32)) := fri_sI gL1901 fL1902 o_v0 (by decide)
                        have d_x1971 : x1971 = fI (sI S1900 v0 6 (6 : Int32)) v0 7 := d_x1971.trans (rd_j (by decide)).symm
                        have d_x1970 : x1970 = fI (sI S1900 v0 6 (6 : Int32)) v0 4 := d_x1970.trans (rd_j (by decide)).symm
                        obtain ⟨y1978, hy1978⟩ : ∃ z : Int32, z = (6 : Int32) := ⟨_, rfl⟩
                        have d_y1978 : y1978 = fI (sI S1900 v0 6 (6 : Int32)) v0 6 := hy1978.trans (u2_self _ _ _ _).symm
                        refine u_X4_next_240 ?_
                        refine ⟨fun c1979 => ?_, fun c1979 => ?_⟩
                        · exact hq _ hI g0 f0 hT
                        · refine ⟨o_v0, ?_⟩
                          intro x1980 ex1980
                          have q_x1980 : x1980 = y1978 := ex1980.trans d_y1978.symm
                          have d_x1980 := ex1980
                          refine ⟨fun c1981 => ?_, fun c1981 => ?_⟩
                          · exact hq _ hI g0 f0 hT
                          · intro x1982 ex1982
                            have q_x1982 : x1982 = x1970 := ex1982.trans d_x1970.symm
                            have d_x1982 := ex1982
                            intro x1983 ex1983
                            have hI := iv_sI (j := 4) (v := x1983) hI o_v0 (by decide) (nu_free (by decide))
                            have f0 : FRI _ _ _ (sI (sI S1900 v0 6 (6 : Int32)) v0 4 x1983) := fri_sI g0 f0 o_v0 (by decide)
                            have fL3 : FRI _ _ _ (sI (sI S1900 v0 6 (6 : Int32)) v0 4 x1983) := fri_sI gL2 fL3 o_v0 (by decide)
                            have fL1902 : FRI _ _ _ (sI (sI S1900 v0 6 (6 : Int32)) v0 4 x1983) := fri_sI gL1901 fL1902 o_v0 (by decide)
                            have d_x1971 : x1971 = fI (sI (sI S1900 v0 6 (6 : Int32)) v0 4 x1983) v0 7 := d_x1971.trans (rd_j (by decide)).symm
                            have d_x1980 : x1980 = fI (sI (sI S1900 v0 6 (6 : Int32)) v0 4 x1983) v0 6 := d_x1980.trans (rd_j (by decide)).symm
                            have d_x1983 : x1983 = fI (sI (sI S1900 v0 6 (6 : Int32)) v0 4 x1983) v0 4 := (u2_self _ _ _ _).symm
                            exact hq _ hI g0 f0 hT
                  · refine ⟨fun c1984 => ?_, fun c1984 => ?_⟩
                    · refine u_X4_next_201 ?_
                      refine ⟨o_v0, ?_⟩
                      intro x1985 ex1985
                      have q_x1985 : x1985 = x1957 := ex1985.trans d_x1957.symm
                      have d_x1985 := ex1985
                      intro x1986 ex1986
                      have hI := iv_sI (j := 4) (v := x1986) hI o_v0 (by decide) (nu_free (by decide))
                      have f0 : FRI _ _ _ (sI S1900 v0 4 x1986) := fri_sI g0 f0 o_v0 (by decide)
                      have fL3 : FRI _ _ _ (sI S1900 v0 4 x1986) := fri_sI gL2 fL3 o_v0 (by decide)
                      have fL1902 : FRI _ _ _ (sI S1900 v0 4 x1986) := fri_sI gL1901 fL1902 o_v0 (by decide)
                      have d_x1340 : x1340 = fI (sI S1900 v0 4 x1986) v0 7 := d_x1340.trans (rd_j (by decide)).symm
                      have d_x1962 : x1962 = fI (sI S1900 v0 4 x1986) v0 6 := d_x1962.trans (rd_j (by decide)).symm
                      have d_x1986 : x1986 = fI (sI S1900 v0 4 x1986) v0 4 := (u2_self _ _ _ _).symm
                      intro x1987 ex1987
                      exact ih1913 _ _ _ _ _ _ ⟨hI, gL1901, fL1902, rfl, rfl, rfl, rfl, hT, (q554 i1 c9 p_x1335 c1339 q_x1340 q_x1341 p_x1342 q_x1346 c1347 q_x1786 c1787 q_x1788 c1789 q_x1790 c1791 i1 p_k1 c1915 c1936 q_x1957 p_x1958 q_x1962 c1963 c1984 q_x1985 ex1986 ex1987), (by rw [← d_x1962, ← d_x1986]; exact (q555 i1 c9 p_x1335 c1339 q_x1340 q_x1341 p_x1342 q_x1346 c1347 q_x1786 c1787 q_x1788 c1789 q_x1790 c1791 i1 p_k1 c1915 c1936 q_x1957 p_x1958 q_x1962 c1963 c1984 q_x1985 ex1986 ex1987))⟩ (mu_up (q556 i1 c9 p_x1335 c1339 q_x1340 q_x1341 p_x1342 q_x1346 c1347 q_x1786 c1787 q_x1788 c1789 q_x1790 c1791 i1 p_k1 c1915 c1936 q_x1957 p_x1958 q_x1962 c1963 c1984 q_x1985 ex1986 ex1987) (q557 i1 c9 p_x1335 c1339 q_x1340 q_x1341 p_x1342 q_x1346 c1347 q_x1786 c1787 q_x1788 c1789 q_x1790 c1791 i1 p_k1 c1915 c1936 q_x1957 p_x1958 q_x1962 c1963 c1984 q_x1985 ex1986 ex1987))
                    · intro x1988 ex1988
                      have q_x1988 : x1988 = x1957 := ex1988.trans d_x1957.symm
                      have d_x1988 := ex1988
                      obtain ⟨a1989, ea1989, o_a1989, l_a1989⟩ := hT
                      refine ⟨a1989, ea1989, ?_⟩
                      refine ⟨o_a1989, ?_⟩
                      have n_a1989 : nI (hN S1900 a1989) = 900 := by rw [show hN S1900 a1989 = 900 from l_a1989]; decide
                      refine ⟨fun c1990 => ?_, fun c1990 => ?_⟩
                      · rw [n_a1989] at c1990
                        refine u_X4_next_201 ?_
                        refine ⟨o_v0, ?_⟩
                        intro x1991 ex1991
                        have q_x1991 : x1991 = x1988 := ex1991.trans d_x1988.symm
                        have d_x1991 := ex1991
                        intro x1992 ex1992
                        have hI := iv_sI (j := 4) (v := x1992) hI o_v0 (by decide) (nu_free (by decide))
                        have f0 : FRI _ _ _ (sI S1900 v0 4 x1992) := fri_sI g0 f0 o_v0 (by decide)
                        have fL3 : FRI _ _ _ (sI S1900 v0 4 x1992) := fri_sI gL2 fL3 o_v0 (by decide)
                        have fL1902 : FRI _ _ _ (sI S1900 v0 4 x1992) := fri_sI gL1901 fL1902 o_v0 (by decide)
                        have d_x1340 : x1340 = fI (sI S1900 v0 4 x1992) v0 7 := d_x1340.trans (rd_j (by decide)).symm
                        have d_x1962 : x1962 = fI (sI S1900 v0 4 x1992) v0 6 := d_x1962.trans (rd_j (by decide)).symm
                        have d_x1992 : x1992 = fI (sI S1900 v0 4 x1992) v0 4 := (u2_self _ _ _ _).symm
                        intro x1993 ex1993
                        exact ih1913 _ _ _ _ _ _ ⟨hI, gL1901, fL1902, rfl, rfl, rfl, rfl, hT, (q558 i1 c9 p_x1335 c1339 q_x1340 q_x1341 p_x1342 q_x1346 c1347 q_x1786 c1787 q_x1788 c1789 q_x1790 c1791 i1 p_k1 c1915 c1936 q_x1957 p_x1958 q_x1962 c1963 c1984 q_x1988 c1990 q_x1991 ex1992 ex1993), (by rw [← d_x1962, ← d_x1992]; exact (q559 i1 c9 p_x1335 c1339 q_x1340 q_x1341 p_x1342 q_x1346 c1347 q_x1786 c1787 q_x1788 c1789 q_x1790 c1791 i1 p_k1 c1915 c1936 q_x1957 p_x1958 q_x1962 c1963 c1984 q_x1988 c1990 q_x1991 ex1992 ex1993))⟩ (mu_up (q560 i1 c9 p_x1335 c1339 q_x1340 q_x1341 p_x1342 q_x1346 c1347 q_x1786 c1787 q_x1788 c1789 q_x1790 c1791 i1 p_k1 c1915 c1936 q_x1957 p_x1958 q_x1962 c1963 c1984 q_x1988 c1990 q_x1991 ex1992 ex1993) (q561 i1 c9 p_x1335 c1339 q_x1340 q_x1341 p_x1342 q_x1346 c1347 q_x1786 c1787 q_x1788 c1789 q_x1790 c1791 i1 p_k1 c1915 c1936 q_x1957 p_x1958 q_x1962 c1963 c1984 q_x1988 c1990 q_x1991 ex1992 ex1993))
                      · rw [n_a1989] at c1990
                        intro x1994 ex1994
                        have dj_x1994 := ex1994
                        refine ⟨a1989, ea1989, ?_⟩
                        intro x1996 ex1996
                        have q_x1996 : x1996 = x1988 := ex1996.trans d_x1988.symm
                        have d_x1996 := ex1996
                        refine ⟨o_a1989, ?_⟩
                        refine ⟨(vin l_a1989 (m := 900) (by decide) (q562 i1 c9 p_x1335 c1339 q_x1340 q_x1341 p_x1342 q_x1346 c1347 q_x1786 c1787 q_x1788 c1789 q_x1790 c1791 i1 p_k1 c1915 c1936 q_x1957 p_x1958 q_x1962 c1963 c1984 q_x1988 c1990 q_x1996)), ?_⟩
                        intro x1997 ex1997
                        intro x1998 ex1998
                        have q_x1998 : x1998 = x1962 := ex1998.trans d_x1962.symm
                        have d_x1998 := ex1998
                        refine ⟨fun c1999 => ?_, fun c1999 => ?_⟩
                        · refine u_X4_next_195 ?_
                          refine ⟨o_v0, ?_⟩
                          intro x2000 ex2000
                          have hI := iv_sJ (j := 8) (v := x2000) hI o_v0 (by decide)
                          refine u_X4_next_201 ?_
                          refine ⟨o_v0, ?_⟩
                          intro x2001 ex2001
                          have q_x2001 : x2001 = x1996 := ex2001.trans d_x1996.symm
                          have d_x2001 := ex2001
                          intro x2002 ex2002
                          have hI := iv_sI (j := 4) (v := x2002) hI o_v0 (by decide) (nu_free (by decide))
                          have f0 : FRI _ _ _ (sI (sJ S1900 v0 8 x2000) v0 4 x2002) := fri_sI g0 f0 o_v0 (by decide)
                          have fL3 : FRI _ _ _ (sI (sJ S1900 v0 8 x2000) v0 4 x2002) := fri_sI gL2 fL3 o_v0 (by decide)
                          have fL1902 : FRI _ _ _ (sI (sJ S1900 v0 8 x2000) v0 4 x2002) := fri_sI gL1901 fL1902 o_v0 (by decide)
                          have d_x1340 : x1340 = fI (sI (sJ S1900 v0 8 x2000) v0 4 x2002) v0 7 := d_x1340.trans (rd_j (by decide)).symm
                          have d_x1998 : x1998 = fI (sI (sJ S1900 v0 8 x2000) v0 4 x2002) v0 6 := d_x1998.trans (rd_j (by decide)).symm
                          have d_x2002 : x2002 = fI (sI (sJ S1900 v0 8 x2000) v0 4 x2002) v0 4 := (u2_self _ _ _ _).symm
                          intro x2003 ex2003
                          exact ih1913 _ _ _ _ _ _ ⟨hI, gL1901, fL1902, rfl, rfl, rfl, rfl, hT, (q563 i1 c9 p_x1335 c1339 q_x1340 q_x1341 p_x1342 q_x1346 c1347 q_x1786 c1787 q_x1788 c1789 q_x1790 c1791 i1 p_k1 c1915 c1936 q_x1957 p_x1958 q_x1962 c1963 c1984 q_x1988 c1990 q_x1996 q_x1998 c1999 q_x2001 ex2002 ex2003), (by rw [← d_x1998, ← d_x2002]; exact (q564 i1 c9 p_x1335 c1339 q_x1340 q_x1341 p_x1342 q_x1346 c1347 q_x1786 c1787 q_x1788 c1789 q_x1790 c1791 i1 p_k1 c1915 c1936 q_x1957 p_x1958 q_x1962 c1963 c1984 q_x1988 c1990 q_x1996 q_x1998 c1999 q_x2001 ex2002 ex2003))⟩ (mu_up (q565 i1 c9 p_x1335 c1339 q_x1340 q_x1341 p_x1342 q_x1346 c1347 q_x1786 c1787 q_x1788 c1789 q_x1790 c1791 i1 p_k1 c1915 c1936 q_x1957 p_x1958 q_x1962 c1963 c1984 q_x1988 c1990 q_x1996 q_x1998 c1999 q_x2001 ex2002 ex2003) (q566 i1 c9 p_x1335 c1339 q_x1340 q_x1341 p_x1342 q_x1346 c1347 q_x1786 c1787 q_x1788 c1789 q_x1790 c1791 i1 p_k1 c1915 c1936 q_x1957 p_x1958 q_x1962 c1963 c1984 q_x1988 c1990 q_x1996 q_x1998 c1999 q_x2001 ex2002 ex2003))
                        · refine u_X4_next_195 ?_
                          refine ⟨o_v0, ?_⟩
                          intro x2004 ex2004
                          have hI := iv_sJ (j := 8) (v := x2004) hI o_v0 (by decide)
                          refine u_X4_next_201 ?_
                          refine ⟨o_v0, ?_⟩
                          intro x2005 ex2005
                          have q_x2005 : x2005 = x1996 := ex2005.trans d_x1996.symm
                          have d_x2005 := ex2005
                          intro x2006 ex2006
                          have hI := iv_sI (j := 4) (v := x2006) hI o_v0 (by decide) (nu_free (by decide))
                          have f0 : FRI _ _ _ (sI (sJ S1900 v0 8 x2004) v0 4 x2006) := fri_sI g0 f0 o_v0 (by decide)
                          have fL3 : FRI _ _ _ (sI (sJ S1900 v0 8 x2004) v0 4 x2006) := fri_sI gL2 fL3 o_v0 (by decide)
                          have fL1902 : FRI _ _ _ (sI (sJ S1900 v0 8 x2004) v0 4 x2006) := fri_sI gL1901 fL1902 o_v0 (by decide)
                          have d_x1340 : x1340 = fI (sI (sJ S1900 v0 8 x2004) v0 4 x2006) v0 7 := d_x1340.trans (rd_j (by decide)).symm
                          have d_x1998 : x1998 = fI (sI (sJ S1900 v0 8 x2004) v0 4 x2006) v0 6 := d_x1998.trans (rd_j (by decide)).symm
                          have d_x2006 : x2006 = fI (sI (sJ S1900 v0 8 x2004) v0 4 x2006) v0 4 := (u2_self _ _ _ _).symm
                          intro x2007 ex2007
                          exact ih1913 _ _ _ _ _ _ ⟨hI, gL1901, fL1902, rfl, rfl, rfl, rfl, hT, (q567 i1 c9 p_x1335 c1339 q_x1340 q_x1341 p_x1342 q_x1346 c1347 q_x1786 c1787 q_x1788 c1789 q_x1790 c1791 i1 p_k1 c1915 c1936 q_x1957 p_x1958 q_x1962 c1963 c1984 q_x1988 c1990 q_x1996 q_x1998 c1999 q_x2005 ex2006 ex2007), (by rw [← d_x1998, ← d_x2006]; exact (q568 i1 c9 p_x1335 c1339 q_x1340 q_x1341 p_x1342 q_x1346 c1347 q_x1786 c1787 q_x1788 c1789 q_x1790 c1791 i1 p_k1 c1915 c1936 q_x1957 p_x1958 q_x1962 c1963 c1984 q_x1988 c1990 q_x1996 q_x1998 c1999 q_x2005 ex2006 ex2007))⟩ (mu_up (q569 i1 c9 p_x1335 c1339 q_x1340 q_x1341 p_x1342 q_x1346 c1347 q_x1786 c1787 q_x1788 c1789 q_x1790 c1791 i1 p_k1 c1915 c1936 q_x1957 p_x1958 q_x1962 c1963 c1984 q_x1988 c1990 q_x1996 q_x1998 c1999 q_x2005 ex2006 ex2007) (q570 i1 c9 p_x1335 c1339 q_x1340 q_x1341 p_x1342 q_x1346 c1347 q_x1786 c1787 q_x1788 c1789 q_x1790 c1791 i1 p_k1 c1915 c1936 q_x1957 p_x1958 q_x1962 c1963 c1984 q_x1988 c1990 q_x1996 q_x1998 c1999 q_x2005 ex2006 ex2007))
          · refine u_X4_next_98 ?_
            refine ⟨o_v0, ?_⟩
            intro x2008 ex2008
            have q_x2008 : x2008 = x1788 := ex2008.trans d_x1788.symm
            have d_x2008 := ex2008
            refine ⟨fun c2009 => ?_, fun c2009 => ?_⟩
            · refine u_X4_next_114 ?_
              refine i_X4_next_118 (fun (y0 : Nat) (y1 : Int32) (y2 : Int32) (y3 : Int32) (y4 : Int32) (Z : HS) => ((2147483647 : Int32).toInt - y4.toInt).toNat) (fun (y0 : Nat) (y1 : Int32) (y2 : Int32) (y3 : Int32) (y4 : Int32) (Z : HS) => (IV Z) ∧ (Gr (sJ (sI (sI S1 v0 7 x1340) v0 6 x1342) v0 8 (0 : Int64)) Z) ∧ (FRI [(4, 4)] [] (sJ (sI (sI S1 v0 7 x1340) v0 6 x1342) v0 8 (0 : Int64)) Z) ∧ (v0 = y0) ∧ ((0 : Int32) = y1) ∧ ((8 : Int32) = y2) ∧ ((10 : Int32) = y3) ∧ (TX Z v0) ∧ (0 ≤ y4) ∧ ((y1 = 0 ∨ fI Z v0 6 = 1 ∨ fI Z v0 6 = 2) ∧ (y1 = 0 → fI Z v0 6 = 0 ∨ (0 ≤ fI Z v0 4 ∧ fI Z v0 4 < 900)))) ?_ _ _ _ _ _ _ ⟨hI, (gr_rf _), (fri_rf _ _ _), rfl, rfl, rfl, rfl, hT, (q571 i1 c9 p_x1335 c1339 q_x1340 q_x1341 p_x1342 q_x1346 c1347 q_x1786 c1787 q_x1788 c1789 q_x2008 c2009), (by rw [← d_x2008, ← d_x1341]; exact (q572 i1 c9 p_x1335 c1339 q_x1340 q_x1341 p_x1342 q_x1346 c1347 q_x1786 c1787 q_x1788 c1789 q_x2008 c2009))⟩
              intro w2013 w2015 w2017 w2019 w2021 S2010 X2022 ⟨hI, gL2011, fL2012, q2014, q2016, q2018, q2020, hT, i1, k1⟩ ih2023
              subst q2014
              subst q2016
              subst q2018
              subst q2020
              have d_x1340 := d_x1340.trans (fri_at fL2012 (by decide) (by decide) o_v0).symm
              have d_x2008 := d_x2008.trans (fri_at fL2012 (by decide) (by decide) o_v0).symm
              have f0 := fri_tr g0 f0 fL2012 (by decide) (by decide)
              have fL3 := fri_tr gL2 fL3 fL2012 (by decide) (by decide)
              have o_v0 := gr_ob gL2011 o_v0
              have g0 := gr_tr g0 gL2011
              have gL2 := gr_tr gL2 gL2011
              obtain ⟨y2024, d_y2024⟩ : ∃ z : Int32, z = fI S2010 v0 4 := ⟨_, rfl⟩
              have p_k1 : ((0 : Int32) = 0 ∨ x2008 = 1 ∨ x2008 = 2) ∧ ((0 : Int32) = 0 → x2008 = 0 ∨ (0 ≤ y2024 ∧ y2024 < 900)) := by rw [d_x2008, d_y2024]; exact k1
              refine u_X4_next_118 ?_
              refine ⟨fun c2025 => ?_, fun c2025 => ?_⟩
              · refine u_X4_next_217 ?_
                refine ⟨fun c2026 => ?_, fun c2026 => ?_⟩
                · refine u_X4_next_240 ?_
                  refine ⟨fun c2027 => ?_, fun c2027 => ?_⟩
                  · exact hq _ hI g0 f0 hT
                  · refine ⟨o_v0, ?_⟩
                    intro x2028 ex2028
                    have q_x2028 : x2028 = x2008 := ex2028.trans d_x2008.symm
                    have d_x2028 := ex2028
                    refine ⟨fun c2029 => ?_, fun c2029 => ?_⟩
                    · exact hq _ hI g0 f0 hT
                    · intro x2030 ex2030
                      have q_x2030 : x2030 = y2024 := ex2030.trans d_y2024.symm
                      have d_x2030 := ex2030
                      intro x2031 ex2031
                      have hI := iv_sI (j := 4) (v := x2031) hI o_v0 (by decide) (nu_free (by decide))
                      have f0 : FRI _ _ _ (sI S2010 v0 4 x2031) := fri_sI g0 f0 o_v0 (by decide)
                      have fL3 : FRI _ _ _ (sI S2010 v0 4 x2031) := fri_sI gL2 fL3 o_v0 (by decide)
                      have fL2012 : FRI _ _ _ (sI S2010 v0 4 x2031) := fri_sI gL2011 fL2012 o_v0 (by decide)
                      have d_x1340 : x1340 = fI (sI S2010 v0 4 x2031) v0 7 := d_x1340.trans (rd_j (by decide)).symm
                      have d_x2028 : x2028 = fI (sI S2010 v0 4 x2031) v0 6 := d_x2028.trans (rd_j (by decide)).symm
                      have d_x2031 : x2031 = fI (sI S2010 v0 4 x2031) v0 4 := (u2_self _ _ _ _).symm
                      exact hq _ hI g0 f0 hT
                · refine ⟨o_v0, ?_⟩
                  intro x2032 ex2032
                  have q_x2032 : x2032 = y2024 := ex2032.trans d_y2024.symm
                  have d_x2032 := ex2032
                  intro x2033 ex2033
                  have q_x2033 : x2033 = x1340 := ex2033.trans d_x1340.symm
                  have d_x2033 := ex2033
                  refine ⟨fun c2034 => ?_, fun c2034 => ?_⟩
                  · refine u_X4_next_240 ?_
                    refine ⟨fun c2035 => ?_, fun c2035 => ?_⟩
                    · exact hq _ hI g0 f0 hT
                    · refine ⟨o_v0, ?_⟩
                      intro x2036 ex2036
                      have q_x2036 : x2036 = x2008 := ex2036.trans d_x2008.symm
                      have d_x2036 := ex2036
                      refine ⟨fun c2037 => ?_, fun c2037 => ?_⟩
                      · exact hq _ hI g0 f0 hT
                      · intro x2038 ex2038
                        have q_x2038 : x2038 = x2032 := ex2038.trans d_x2032.symm
                        have d_x2038 := ex2038
                        intro x2039 ex2039
                        have hI := iv_sI (j := 4) (v := x2039) hI o_v0 (by decide) (nu_free (by decide))
                        have f0 : FRI _ _ _ (sI S2010 v0 4 x2039) := fri_sI g0 f0 o_v0 (by decide)
                        have fL3 : FRI _ _ _ (sI S2010 v0 4 x2039) := fri_sI gL2 fL3 o_v0 (by decide)
                        have fL2012 : FRI _ _ _ (sI S2010 v0 4 x2039) := fri_sI gL2011 fL2012 o_v0 (by decide)
                        have d_x2033 : x2033 = fI (sI S2010 v0 4 x2039) v0 7 := d_x2033.trans (rd_j (by decide)).symm
                        have d_x2036 : x2036 = fI (sI S2010 v0 4 x2039) v0 6 := d_x2036.trans (rd_j (by decide)).symm
                        have d_x2039 : x2039 = fI (sI S2010 v0 4 x2039) v0 4 := (u2_self _ _ _ _).symm
                        exact hq _ hI g0 f0 hT
                  · have hI := iv_sI (j := 6) (v := (6 : Int32)) hI o_v0 (by decide) (nu_free (by decide))
                    have f0 : FRI _ _ _ (sI S2010 v0 6 (6 : Int32)) := fri_sI g0 f0 o_v0 (by decide)
                    have fL3 : FRI _ _ _ (sI S2010 v0 6 (6 : Int32)) := fri_sI gL2 fL3 o_v0 (by decide)
                    have fL2012 : FRI _ _ _ (sI S2010 v0 6 (6 : Int32)) := fri_sI gL2011 fL2012 o_v0 (by decide)
                    have d_x2033 : x2033 = fI (sI S2010 v0 6 (6 : Int32)) v0 7 := d_x2033.trans (rd_j (by decide)).symm
                    have d_x2032 : x2032 = fI (sI S2010 v0 6 (6 : Int32)) v0 4 := d_x2032.trans (rd_j (by decide)).symm
                    obtain ⟨y2040, hy2040⟩ : ∃ z : Int32, z = (6 : Int32) := ⟨_, rfl⟩
                    have d_y2040 : y2040 = fI (sI S2010 v0 6 (6 : Int32)) v0 6 := hy2040.trans (u2_self _ _ _ _).symm
                    refine u_X4_next_240 ?_
                    refine ⟨fun c2041 => ?_, fun c2041 => ?_⟩
                    · exact hq _ hI g0 f0 hT
                    · refine ⟨o_v0, ?_⟩
                      intro x2042 ex2042
                      have q_x2042 : x2042 = y2040 := ex2042.trans d_y2040.symm
                      have d_x2042 := ex2042
                      refine ⟨fun c2043 => ?_, fun c2043 => ?_⟩
                      · exact hq _ hI g0 f0 hT
                      · intro x2044 ex2044
                        have q_x2044 : x2044 = x2032 := ex2044.trans d_x2032.symm
                        have d_x2044 := ex2044
                        intro x2045 ex2045
                        have hI := iv_sI (j := 4) (v := x2045) hI o_v0 (by decide) (nu_free (by decide))
                        have f0 : FRI _ _ _ (sI (sI S2010 v0 6 (6 : Int32)) v0 4 x2045) := fri_sI g0 f0 o_v0 (by decide)
                        have fL3 : FRI _ _ _ (sI (sI S2010 v0 6 (6 : Int32)) v0 4 x2045) := fri_sI gL2 fL3 o_v0 (by decide)
                        have fL2012 : FRI _ _ _ (sI (sI S2010 v0 6 (6 : Int32)) v0 4 x2045) := fri_sI gL2011 fL2012 o_v0 (by decide)
                        have d_x2033 : x2033 = fI (sI (sI S2010 v0 6 (6 : Int32)) v0 4 x2045) v0 7 := d_x2033.trans (rd_j (by decide)).symm
                        have d_x2042 : x2042 = fI (sI (sI S2010 v0 6 (6 : Int32)) v0 4 x2045) v0 6 := d_x2042.trans (rd_j (by decide)).symm
                        have d_x2045 : x2045 = fI (sI (sI S2010 v0 6 (6 : Int32)) v0 4 x2045) v0 4 := (u2_self _ _ _ _).symm
                        exact hq _ hI g0 f0 hT
              · refine ⟨fun c2046 => ?_, fun c2046 => ?_⟩
                · refine u_X4_next_217 ?_
                  refine ⟨fun c2047 => ?_, fun c2047 => ?_⟩
                  · refine u_X4_next_240 ?_
                    refine ⟨fun c2048 => ?_, fun c2048 => ?_⟩
                    · exact hq _ hI g0 f0 hT
                    · refine ⟨o_v0, ?_⟩
                      intro x2049 ex2049
                      have q_x2049 : x2049 = x2008 := ex2049.trans d_x2008.symm
                      have d_x2049 := ex2049
                      refine ⟨fun c2050 => ?_, fun c2050 => ?_⟩
                      · exact hq _ hI g0 f0 hT
                      · intro x2051 ex2051
                        have q_x2051 : x2051 = y2024 := ex2051.trans d_y2024.symm
                        have d_x2051 := ex2051
                        intro x2052 ex2052
                        have hI := iv_sI (j := 4) (v := x2052) hI o_v0 (by decide) (nu_free (by decide))
                        have f0 : FRI _ _ _ (sI S2010 v0 4 x2052) := fri_sI g0 f0 o_v0 (by decide)
                        have fL3 : FRI _ _ _ (sI S2010 v0 4 x2052) := fri_sI gL2 fL3 o_v0 (by decide)
                        have fL2012 : FRI _ _ _ (sI S2010 v0 4 x2052) := fri_sI gL2011 fL2012 o_v0 (by decide)
                        have d_x1340 : x1340 = fI (sI S2010 v0 4 x2052) v0 7 := d_x1340.trans (rd_j (by decide)).symm
                        have d_x2049 : x2049 = fI (sI S2010 v0 4 x2052) v0 6 := d_x2049.trans (rd_j (by decide)).symm
                        have d_x2052 : x2052 = fI (sI S2010 v0 4 x2052) v0 4 := (u2_self _ _ _ _).symm
                        exact hq _ hI g0 f0 hT
                  · refine ⟨o_v0, ?_⟩
                    intro x2053 ex2053
                    have q_x2053 : x2053 = y2024 := ex2053.trans d_y2024.symm
                    have d_x2053 := ex2053
                    intro x2054 ex2054
                    have q_x2054 : x2054 = x1340 := ex2054.trans d_x1340.symm
                    have d_x2054 := ex2054
                    refine ⟨fun c2055 => ?_, fun c2055 => ?_⟩
                    · refine u_X4_next_240 ?_
                      refine ⟨fun c2056 => ?_, fun c2056 => ?_⟩
                      · exact hq _ hI g0 f0 hT
                      · refine ⟨o_v0, ?_⟩
                        intro x2057 ex2057
                        have q_x2057 : x2057 = x2008 := ex2057.trans d_x2008.symm
                        have d_x2057 := ex2057
                        refine ⟨fun c2058 => ?_, fun c2058 => ?_⟩
                        · exact hq _ hI g0 f0 hT
                        · intro x2059 ex2059
                          have q_x2059 : x2059 = x2053 := ex2059.trans d_x2053.symm
                          have d_x2059 := ex2059
                          intro x2060 ex2060
                          have hI := iv_sI (j := 4) (v := x2060) hI o_v0 (by decide) (nu_free (by decide))
                          have f0 : FRI _ _ _ (sI S2010 v0 4 x2060) := fri_sI g0 f0 o_v0 (by decide)
                          have fL3 : FRI _ _ _ (sI S2010 v0 4 x2060) := fri_sI gL2 fL3 o_v0 (by decide)
                          have fL2012 : FRI _ _ _ (sI S2010 v0 4 x2060) := fri_sI gL2011 fL2012 o_v0 (by decide)
                          have d_x2054 : x2054 = fI (sI S2010 v0 4 x2060) v0 7 := d_x2054.trans (rd_j (by decide)).symm
                          have d_x2057 : x2057 = fI (sI S2010 v0 4 x2060) v0 6 := d_x2057.trans (rd_j (by decide)).symm
                          have d_x2060 : x2060 = fI (sI S2010 v0 4 x2060) v0 4 := (u2_self _ _ _ _).symm
                          exact hq _ hI g0 f0 hT
                    · have hI := iv_sI (j := 6) (v := (6 : Int32)) hI o_v0 (by decide) (nu_free (by decide))
                      have f0 : FRI _ _ _ (sI S2010 v0 6 (6 : Int32)) := fri_sI g0 f0 o_v0 (by decide)
                      have fL3 : FRI _ _ _ (sI S2010 v0 6 (6 : Int32)) := fri_sI gL2 fL3 o_v0 (by decide)
                      have fL2012 : FRI _ _ _ (sI S2010 v0 6 (6 : Int32)) := fri_sI gL2011 fL2012 o_v0 (by decide)
                      have d_x2054 : x2054 = fI (sI S2010 v0 6 (6 : Int32)) v0 7 := d_x2054.trans (rd_j (by decide)).symm
                      have d_x2053 : x2053 = fI (sI S2010 v0 6 (6 : Int32)) v0 4 := d_x2053.trans (rd_j (by decide)).symm
                      obtain ⟨y2061, hy2061⟩ : ∃ z : Int32, z = (6 : Int32) := ⟨_, rfl⟩
                      have d_y2061 : y2061 = fI (sI S2010 v0 6 (6 : Int32)) v0 6 := hy2061.trans (u2_self _ _ _ _).symm
                      refine u_X4_next_240 ?_
                      refine ⟨fun c2062 => ?_, fun c2062 => ?_⟩
                      · exact hq _ hI g0 f0 hT
                      · refine ⟨o_v0, ?_⟩
                        intro x2063 ex2063
                        have q_x2063 : x2063 = y2061 := ex2063.trans d_y2061.symm
                        have d_x2063 := ex2063
                        refine ⟨fun c2064 => ?_, fun c2064 => ?_⟩
                        · exact hq _ hI g0 f0 hT
                        · intro x2065 ex2065
                          have q_x2065 : x2065 = x2053 := ex2065.trans d_x2053.symm
                          have d_x2065 := ex2065
                          intro x2066 ex2066
                          have hI := iv_sI (j := 4) (v := x2066) hI o_v0 (by decide) (nu_free (by decide))
                          have f0 : FRI _ _ _ (sI (sI S2010 v0 6 (6 : Int32)) v0 4 x2066) := fri_sI g0 f0 o_v0 (by decide)
                          have fL3 : FRI _ _ _ (sI (sI S2010 v0 6 (6 : Int32)) v0 4 x2066) := fri_sI gL2 fL3 o_v0 (by decide)
                          have fL2012 : FRI _ _ _ (sI (sI S2010 v0 6 (6 : Int32)) v0 4 x2066) := fri_sI gL2011 fL2012 o_v0 (by decide)
                          have d_x2054 : x2054 = fI (sI (sI S2010 v0 6 (6 : Int32)) v0 4 x2066) v0 7 := d_x2054.trans (rd_j (by decide)).symm
                          have d_x2063 : x2063 = fI (sI (sI S2010 v0 6 (6 : Int32)) v0 4 x2066) v0 6 := d_x2063.trans (rd_j (by decide)).symm
                          have d_x2066 : x2066 = fI (sI (sI S2010 v0 6 (6 : Int32)) v0 4 x2066) v0 4 := (u2_self _ _ _ _).symm
                          exact hq _ hI g0 f0 hT
                · refine ⟨o_v0, ?_⟩
                  intro x2067 ex2067
                  have q_x2067 : x2067 = y2024 := ex2067.trans d_y2024.symm
                  have d_x2067 := ex2067
                  refine m_X4_sortAt hI o_v0 hT (fun x2068 S2069 hI2 g2070 p_x2068 => ?_)
                  obtain ⟨z_S2069, p_x2068⟩ := p_x2068
                  subst z_S2069
                  intro _
                  intro x2072 ex2072
                  have q_x2072 : x2072 = x2008 := ex2072.trans d_x2008.symm
                  have d_x2072 := ex2072
                  refine ⟨fun c2073 => ?_, fun c2073 => ?_⟩
                  · refine u_X4_next_217 ?_
                    refine ⟨fun c2074 => ?_, fun c2074 => ?_⟩
                    · refine u_X4_next_240 ?_
                      refine ⟨fun c2075 => ?_, fun c2075 => ?_⟩
                      · exact hq _ hI g0 f0 hT
                      · refine ⟨o_v0, ?_⟩
                        intro x2076 ex2076
                        have q_x2076 : x2076 = x2072 := ex2076.trans d_x2072.symm
                        have d_x2076 := ex2076
                        refine ⟨fun c2077 => ?_, fun c2077 => ?_⟩
                        · exact hq _ hI g0 f0 hT
                        · intro x2078 ex2078
                          have q_x2078 : x2078 = x2067 := ex2078.trans d_x2067.symm
                          have d_x2078 := ex2078
                          intro x2079 ex2079
                          have hI := iv_sI (j := 4) (v := x2079) hI o_v0 (by decide) (nu_free (by decide))
                          have f0 : FRI _ _ _ (sI S2010 v0 4 x2079) := fri_sI g0 f0 o_v0 (by decide)
                          have fL3 : FRI _ _ _ (sI S2010 v0 4 x2079) := fri_sI gL2 fL3 o_v0 (by decide)
                          have fL2012 : FRI _ _ _ (sI S2010 v0 4 x2079) := fri_sI gL2011 fL2012 o_v0 (by decide)
                          have d_x1340 : x1340 = fI (sI S2010 v0 4 x2079) v0 7 := d_x1340.trans (rd_j (by decide)).symm
                          have d_x2076 : x2076 = fI (sI S2010 v0 4 x2079) v0 6 := d_x2076.trans (rd_j (by decide)).symm
                          have d_x2079 : x2079 = fI (sI S2010 v0 4 x2079) v0 4 := (u2_self _ _ _ _).symm
                          exact hq _ hI g0 f0 hT
                    · refine ⟨o_v0, ?_⟩
                      intro x2080 ex2080
                      have q_x2080 : x2080 = x2067 := ex2080.trans d_x2067.symm
                      have d_x2080 := ex2080
                      intro x2081 ex2081
                      have q_x2081 : x2081 = x1340 := ex2081.trans d_x1340.symm
                      have d_x2081 := ex2081
                      refine ⟨fun c2082 => ?_, fun c2082 => ?_⟩
                      · refine u_X4_next_240 ?_
                        refine ⟨fun c2083 => ?_, fun c2083 => ?_⟩
                        · exact hq _ hI g0 f0 hT
                        · refine ⟨o_v0, ?_⟩
                          intro x2084 ex2084
                          have q_x2084 : x2084 = x2072 := ex2084.trans d_x2072.symm
                          have d_x2084 := ex2084
                          refine ⟨fun c2085 => ?_, fun c2085 => ?_⟩
                          · exact hq _ hI g0 f0 hT
                          · intro x2086 ex2086
                            have q_x2086 : x2086 = x2080 := ex2086.trans d_x2080.symm
                            have d_x2086 := ex2086
                            intro x2087 ex2087
                            have hI := iv_sI (j := 4) (v := x2087) hI o_v0 (by decide) (nu_free (by decide))
                            have f0 : FRI _ _ _ (sI S2010 v0 4 x2087) := fri_sI g0 f0 o_v0 (by decide)
                            have fL3 : FRI _ _ _ (sI S2010 v0 4 x2087) := fri_sI gL2 fL3 o_v0 (by decide)
                            have fL2012 : FRI _ _ _ (sI S2010 v0 4 x2087) := fri_sI gL2011 fL2012 o_v0 (by decide)
                            have d_x2081 : x2081 = fI (sI S2010 v0 4 x2087) v0 7 := d_x2081.trans (rd_j (by decide)).symm
                            have d_x2084 : x2084 = fI (sI S2010 v0 4 x2087) v0 6 := d_x2084.trans (rd_j (by decide)).symm
                            have d_x2087 : x2087 = fI (sI S2010 v0 4 x2087) v0 4 := (u2_self _ _ _ _).symm
                            exact hq _ hI g0 f0 hT
                      · have hI := iv_sI (j := 6) (v := (6 : Int32)) hI o_v0 (by decide) (nu_free (by decide))
                        have f0 : FRI _ _ _ (sI S2010 v0 6 (6 : Int32)) := fri_sI g0 f0 o_v0 (by decide)
                        have fL3 : FRI _ _ _ (sI S2010 v0 6 (6 : Int32)) := fri_sI gL2 fL3 o_v0 (by decide)
                        have fL2012 : FRI _ _ _ (sI S2010 v0 6 (6 : Int32)) := fri_sI gL2011 fL2012 o_v0 (by decide)
                        have d_x2081 : x2081 = fI (sI S2010 v0 6 (6 : Int32)) v0 7 := d_x2081.trans (rd_j (by decide)).symm
                        have d_x2080 : x2080 = fI (sI S2010 v0 6 (6 : Int32)) v0 4 := d_x2080.trans (rd_j (by decide)).symm
                        obtain ⟨y2088, hy2088⟩ : ∃ z : Int32, z = (6 : Int32) := ⟨_, rfl⟩
                        have d_y2088 : y2088 = fI (sI S2010 v0 6 (6 : Int32)) v0 6 := hy2088.trans (u2_self _ _ _ _).symm
                        refine u_X4_next_240 ?_
                        refine ⟨fun c2089 => ?_, fun c2089 => ?_⟩
                        · exact hq _ hI g0 f0 hT
                        · refine ⟨o_v0, ?_⟩
                          intro x2090 ex2090
                          have q_x2090 : x2090 = y2088 := ex2090.trans d_y2088.symm
                          have d_x2090 := ex2090
                          refine ⟨fun c2091 => ?_, fun c2091 => ?_⟩
                          · exact hq _ hI g0 f0 hT
                          · intro x2092 ex2092
                            have q_x2092 : x2092 = x2080 := ex2092.trans d_x2080.symm
                            have d_x2092 := ex2092
                            intro x2093 ex2093
                            have hI := iv_sI (j := 4) (v := x2093) hI o_v0 (by decide) (nu_free (by decide))
                            have f0 : FRI _ _ _ (sI (sI S2010 v0 6 (6 : Int32)) v0 4 x2093) := fri_sI g0 f0 o_v0 (by decide)
                            have fL3 : FRI _ _ _ (sI (sI S2010 v0 6 (6 : Int32)) v0 4 x2093) := fri_sI gL2 fL3 o_v0 (by decide)
                            have fL2012 : FRI _ _ _ (sI (sI S2010 v0 6 (6 : Int32)) v0 4 x2093) := fri_sI gL2011 fL2012 o_v0 (by decide)
                            have d_x2081 : x2081 = fI (sI (sI S2010 v0 6 (6 : Int32)) v0 4 x2093) v0 7 := d_x2081.trans (rd_j (by decide)).symm
                            have d_x2090 : x2090 = fI (sI (sI S2010 v0 6 (6 : Int32)) v0 4 x2093) v0 6 := d_x2090.trans (rd_j (by decide)).symm
                            have d_x2093 : x2093 = fI (sI (sI S2010 v0 6 (6 : Int32)) v0 4 x2093) v0 4 := (u2_self _ _ _ _).symm
                            exact hq _ hI g0 f0 hT
                  · refine ⟨fun c2094 => ?_, fun c2094 => ?_⟩
                    · refine u_X4_next_201 ?_
                      refine ⟨o_v0, ?_⟩
                      intro x2095 ex2095
                      have q_x2095 : x2095 = x2067 := ex2095.trans d_x2067.symm
                      have d_x2095 := ex2095
                      intro x2096 ex2096
                      have hI := iv_sI (j := 4) (v := x2096) hI o_v0 (by decide) (nu_free (by decide))
                      have f0 : FRI _ _ _ (sI S2010 v0 4 x2096) := fri_sI g0 f0 o_v0 (by decide)
                      have fL3 : FRI _ _ _ (sI S2010 v0 4 x2096) := fri_sI gL2 fL3 o_v0 (by decide)
                      have fL2012 : FRI _ _ _ (sI S2010 v0 4 x2096) := fri_sI gL2011 fL2012 o_v0 (by decide)
                      have d_x1340 : x1340 = fI (sI S2010 v0 4 x2096) v0 7 := d_x1340.trans (rd_j (by decide)).symm
                      have d_x2072 : x2072 = fI (sI S2010 v0 4 x2096) v0 6 := d_x2072.trans (rd_j (by decide)).symm
                      have d_x2096 : x2096 = fI (sI S2010 v0 4 x2096) v0 4 := (u2_self _ _ _ _).symm
                      intro x2097 ex2097
                      exact ih2023 _ _ _ _ _ _ ⟨hI, gL2011, fL2012, rfl, rfl, rfl, rfl, hT, (q573 i1 c9 p_x1335 c1339 q_x1340 q_x1341 p_x1342 q_x1346 c1347 q_x1786 c1787 q_x1788 c1789 q_x2008 c2009 i1 p_k1 c2025 c2046 q_x2067 p_x2068 q_x2072 c2073 c2094 q_x2095 ex2096 ex2097), (by rw [← d_x2072, ← d_x2096]; exact (q574 i1 c9 p_x1335 c1339 q_x1340 q_x1341 p_x1342 q_x1346 c1347 q_x1786 c1787 q_x1788 c1789 q_x2008 c2009 i1 p_k1 c2025 c2046 q_x2067 p_x2068 q_x2072 c2073 c2094 q_x2095 ex2096 ex2097))⟩ (mu_up (q575 i1 c9 p_x1335 c1339 q_x1340 q_x1341 p_x1342 q_x1346 c1347 q_x1786 c1787 q_x1788 c1789 q_x2008 c2009 i1 p_k1 c2025 c2046 q_x2067 p_x2068 q_x2072 c2073 c2094 q_x2095 ex2096 ex2097) (q576 i1 c9 p_x1335 c1339 q_x1340 q_x1341 p_x1342 q_x1346 c1347 q_x1786 c1787 q_x1788 c1789 q_x2008 c2009 i1 p_k1 c2025 c2046 q_x2067 p_x2068 q_x2072 c2073 c2094 q_x2095 ex2096 ex2097))
                    · intro x2098 ex2098
                      have q_x2098 : x2098 = x2067 := ex2098.trans d_x2067.symm
                      have d_x2098 := ex2098
                      obtain ⟨a2099, ea2099, o_a2099, l_a2099⟩ := hT
                      refine ⟨a2099, ea2099, ?_⟩
                      refine ⟨o_a2099, ?_⟩
                      have n_a2099 : nI (hN S2010 a2099) = 900 := by rw [show hN S2010 a2099 = 900 from l_a2099]; decide
                      refine ⟨fun c2100 => ?_, fun c2100 => ?_⟩
                      · rw [n_a2099] at c2100
                        refine u_X4_next_201 ?_
                        refine ⟨o_v0, ?_⟩
                        intro x2101 ex2101
                        have q_x2101 : x2101 = x2098 := ex2101.trans d_x2098.symm
                        have d_x2101 := ex2101
                        intro x2102 ex2102
                        have hI := iv_sI (j := 4) (v := x2102) hI o_v0 (by decide) (nu_free (by decide))
                        have f0 : FRI _ _ _ (sI S2010 v0 4 x2102) := fri_sI g0 f0 o_v0 (by decide)
                        have fL3 : FRI _ _ _ (sI S2010 v0 4 x2102) := fri_sI gL2 fL3 o_v0 (by decide)
                        have fL2012 : FRI _ _ _ (sI S2010 v0 4 x2102) := fri_sI gL2011 fL2012 o_v0 (by decide)
                        have d_x1340 : x1340 = fI (sI S2010 v0 4 x2102) v0 7 := d_x1340.trans (rd_j (by decide)).symm
                        have d_x2072 : x2072 = fI (sI S2010 v0 4 x2102) v0 6 := d_x2072.trans (rd_j (by decide)).symm
                        have d_x2102 : x2102 = fI (sI S2010 v0 4 x2102) v0 4 := (u2_self _ _ _ _).symm
                        intro x2103 ex2103
                        exact ih2023 _ _ _ _ _ _ ⟨hI, gL2011, fL2012, rfl, rfl, rfl, rfl, hT, (q577 i1 c9 p_x1335 c1339 q_x1340 q_x1341 p_x1342 q_x1346 c1347 q_x1786 c1787 q_x1788 c1789 q_x2008 c2009 i1 p_k1 c2025 c2046 q_x2067 p_x2068 q_x2072 c2073 c2094 q_x2098 c2100 q_x2101 ex2102 ex2103), (by rw [← d_x2072, ← d_x2102]; exact (q578 i1 c9 p_x1335 c1339 q_x1340 q_x1341 p_x1342 q_x1346 c1347 q_x1786 c1787 q_x1788 c1789 q_x2008 c2009 i1 p_k1 c2025 c2046 q_x2067 p_x2068 q_x2072 c2073 c2094 q_x2098 c2100 q_x2101 ex2102 ex2103))⟩ (mu_up (q579 i1 c9 p_x1335 c1339 q_x1340 q_x1341 p_x1342 q_x1346 c1347 q_x1786 c1787 q_x1788 c1789 q_x2008 c2009 i1 p_k1 c2025 c2046 q_x2067 p_x2068 q_x2072 c2073 c2094 q_x2098 c2100 q_x2101 ex2102 ex2103) (q580 i1 c9 p_x1335 c1339 q_x1340 q_x1341 p_x1342 q_x1346 c1347 q_x1786 c1787 q_x1788 c1789 q_x2008 c2009 i1 p_k1 c2025 c2046 q_x2067 p_x2068 q_x2072 c2073 c2094 q_x2098 c2100 q_x2101 ex2102 ex2103))
                      · rw [n_a2099] at c2100
                        intro x2104 ex2104
                        have dj_x2104 := ex2104
                        refine ⟨a2099, ea2099, ?_⟩
                        intro x2106 ex2106
                        have q_x2106 : x2106 = x2098 := ex2106.trans d_x2098.symm
                        have d_x2106 := ex2106
                        refine ⟨o_a2099, ?_⟩
                        refine ⟨(vin l_a2099 (m := 900) (by decide) (q581 i1 c9 p_x1335 c1339 q_x1340 q_x1341 p_x1342 q_x1346 c1347 q_x1786 c1787 q_x1788 c1789 q_x2008 c2009 i1 p_k1 c2025 c2046 q_x2067 p_x2068 q_x2072 c2073 c2094 q_x2098 c2100 q_x2106)), ?_⟩
                        intro x2107 ex2107
                        intro x2108 ex2108
                        have q_x2108 : x2108 = x2072 := ex2108.trans d_x2072.symm
                        have d_x2108 := ex2108
                        refine ⟨fun c2109 => ?_, fun c2109 => ?_⟩
                        · refine u_X4_next_195 ?_
                          refine ⟨o_v0, ?_⟩
                          intro x2110 ex2110
                          have hI := iv_sJ (j := 8) (v := x2110) hI o_v0 (by decide)
                          refine u_X4_next_201 ?_
                          refine ⟨o_v0, ?_⟩
                          intro x2111 ex2111
                          have q_x2111 : x2111 = x2106 := ex2111.trans d_x2106.symm
                          have d_x2111 := ex2111
                          intro x2112 ex2112
                          have hI := iv_sI (j := 4) (v := x2112) hI o_v0 (by decide) (nu_free (by decide))
                          have f0 : FRI _ _ _ (sI (sJ S2010 v0 8 x2110) v0 4 x2112) := fri_sI g0 f0 o_v0 (by decide)
                          have fL3 : FRI _ _ _ (sI (sJ S2010 v0 8 x2110) v0 4 x2112) := fri_sI gL2 fL3 o_v0 (by decide)
                          have fL2012 : FRI _ _ _ (sI (sJ S2010 v0 8 x2110) v0 4 x2112) := fri_sI gL2011 fL2012 o_v0 (by decide)
                          have d_x1340 : x1340 = fI (sI (sJ S2010 v0 8 x2110) v0 4 x2112) v0 7 := d_x1340.trans (rd_j (by decide)).symm
                          have d_x2108 : x2108 = fI (sI (sJ S2010 v0 8 x2110) v0 4 x2112) v0 6 := d_x2108.trans (rd_j (by decide)).symm
                          have d_x2112 : x2112 = fI (sI (sJ S2010 v0 8 x2110) v0 4 x2112) v0 4 := (u2_self _ _ _ _).symm
                          intro x2113 ex2113
                          exact ih2023 _ _ _ _ _ _ ⟨hI, gL2011, fL2012, rfl, rfl, rfl, rfl, hT, (q582 i1 c9 p_x1335 c1339 q_x1340 q_x1341 p_x1342 q_x1346 c1347 q_x1786 c1787 q_x1788 c1789 q_x2008 c2009 i1 p_k1 c2025 c2046 q_x2067 p_x2068 q_x2072 c2073 c2094 q_x2098 c2100 q_x2106 q_x2108 c2109 q_x2111 ex2112 ex2113), (by rw [← d_x2108, ← d_x2112]; exact (q583 i1 c9 p_x1335 c1339 q_x1340 q_x1341 p_x1342 q_x1346 c1347 q_x1786 c1787 q_x1788 c1789 q_x2008 c2009 i1 p_k1 c2025 c2046 q_x2067 p_x2068 q_x2072 c2073 c2094 q_x2098 c2100 q_x2106 q_x2108 c2109 q_x2111 ex2112 ex2113))⟩ (mu_up (q584 i1 c9 p_x1335 c1339 q_x1340 q_x1341 p_x1342 q_x1346 c1347 q_x1786 c1787 q_x1788 c1789 q_x2008 c2009 i1 p_k1 c2025 c2046 q_x2067 p_x2068 q_x2072 c2073 c2094 q_x2098 c2100 q_x2106 q_x2108 c2109 q_x2111 ex2112 ex2113) (q585 i1 c9 p_x1335 c1339 q_x1340 q_x1341 p_x1342 q_x1346 c1347 q_x1786 c1787 q_x1788 c1789 q_x2008 c2009 i1 p_k1 c2025 c2046 q_x2067 p_x2068 q_x2072 c2073 c2094 q_x2098 c2100 q_x2106 q_x2108 c2109 q_x2111 ex2112 ex2113))
                        · refine u_X4_next_195 ?_
                          refine ⟨o_v0, ?_⟩
                          intro x2114 ex2114
                          have hI := iv_sJ (j := 8) (v := x2114) hI o_v0 (by decide)
                          refine u_X4_next_201 ?_
                          refine ⟨o_v0, ?_⟩
                          intro x2115 ex2115
                          have q_x2115 : x2115 = x2106 := ex2115.trans d_x2106.symm
                          have d_x2115 := ex2115
                          intro x2116 ex2116
                          have hI := iv_sI (j := 4) (v := x2116) hI o_v0 (by decide) (nu_free (by decide))
                          have f0 : FRI _ _ _ (sI (sJ S2010 v0 8 x2114) v0 4 x2116) := fri_sI g0 f0 o_v0 (by decide)
                          have fL3 : FRI _ _ _ (sI (sJ S2010 v0 8 x2114) v0 4 x2116) := fri_sI gL2 fL3 o_v0 (by decide)
                          have fL2012 : FRI _ _ _ (sI (sJ S2010 v0 8 x2114) v0 4 x2116) := fri_sI gL2011 fL2012 o_v0 (by decide)
                          have d_x1340 : x1340 = fI (sI (sJ S2010 v0 8 x2114) v0 4 x2116) v0 7 := d_x1340.trans (rd_j (by decide)).symm
                          have d_x2108 : x2108 = fI (sI (sJ S2010 v0 8 x2114) v0 4 x2116) v0 6 := d_x2108.trans (rd_j (by decide)).symm
                          have d_x2116 : x2116 = fI (sI (sJ S2010 v0 8 x2114) v0 4 x2116) v0 4 := (u2_self _ _ _ _).symm
                          intro x2117 ex2117
                          exact ih2023 _ _ _ _ _ _ ⟨hI, gL2011, fL2012, rfl, rfl, rfl, rfl, hT, (q586 i1 c9 p_x1335 c1339 q_x1340 q_x1341 p_x1342 q_x1346 c1347 q_x1786 c1787 q_x1788 c1789 q_x2008 c2009 i1 p_k1 c2025 c2046 q_x2067 p_x2068 q_x2072 c2073 c2094 q_x2098 c2100 q_x2106 q_x2108 c2109 q_x2115 ex2116 ex2117), (by rw [← d_x2108, ← d_x2116]; exact (q587 i1 c9 p_x1335 c1339 q_x1340 q_x1341 p_x1342 q_x1346 c1347 q_x1786 c1787 q_x1788 c1789 q_x2008 c2009 i1 p_k1 c2025 c2046 q_x2067 p_x2068 q_x2072 c2073 c2094 q_x2098 c2100 q_x2106 q_x2108 c2109 q_x2115 ex2116 ex2117))⟩ (mu_up (q588 i1 c9 p_x1335 c1339 q_x1340 q_x1341 p_x1342 q_x1346 c1347 q_x1786 c1787 q_x1788 c1789 q_x2008 c2009 i1 p_k1 c2025 c2046 q_x2067 p_x2068 q_x2072 c2073 c2094 q_x2098 c2100 q_x2106 q_x2108 c2109 q_x2115 ex2116 ex2117) (q589 i1 c9 p_x1335 c1339 q_x1340 q_x1341 p_x1342 q_x1346 c1347 q_x1786 c1787 q_x1788 c1789 q_x2008 c2009 i1 p_k1 c2025 c2046 q_x2067 p_x2068 q_x2072 c2073 c2094 q_x2098 c2100 q_x2106 q_x2108 c2109 q_x2115 ex2116 ex2117))
            · refine u_X4_next_114 ?_
              refine i_X4_next_118 (fun (y0 : Nat) (y1 : Int32) (y2 : Int32) (y3 : Int32) (y4 : Int32) (Z : HS) => ((2147483647 : Int32).toInt - y4.toInt).toNat) (fun (y0 : Nat) (y1 : Int32) (y2 : Int32) (y3 : Int32) (y4 : Int32) (Z : HS) => (IV Z) ∧ (Gr (sJ (sI (sI S1 v0 7 x1340) v0 6 x1342) v0 8 (0 : Int64)) Z) ∧ (FRI [(4, 4)] [] (sJ (sI (sI S1 v0 7 x1340) v0 6 x1342) v0 8 (0 : Int64)) Z) ∧ (v0 = y0) ∧ ((0 : Int32) = y1) ∧ ((8 : Int32) = y2) ∧ ((32 : Int32) = y3) ∧ (TX Z v0) ∧ (0 ≤ y4) ∧ ((y1 = 0 ∨ fI Z v0 6 = 1 ∨ fI Z v0 6 = 2) ∧ (y1 = 0 → fI Z v0 6 = 0 ∨ (0 ≤ fI Z v0 4 ∧ fI Z v0 4 < 900)))) ?_ _ _ _ _ _ _ ⟨hI, (gr_rf _), (fri_rf _ _ _), rfl, rfl, rfl, rfl, hT, (q590 i1 c9 p_x1335 c1339 q_x1340 q_x1341 p_x1342 q_x1346 c1347 q_x1786 c1787 q_x1788 c1789 q_x2008 c2009), (by rw [← d_x2008, ← d_x1341]; exact (q591 i1 c9 p_x1335 c1339 q_x1340 q_x1341 p_x1342 q_x1346 c1347 q_x1786 c1787 q_x1788 c1789 q_x2008 c2009))⟩
              intro w2121 w2123 w2125 w2127 w2129 S2118 X2130 ⟨hI, gL2119, fL2120, q2122, q2124, q2126, q2128, hT, i1, k1⟩ ih2131
              subst q2122
              subst q2124
              subst q2126
              subst q2128
              have d_x1340 := d_x1340.trans (fri_at fL2120 (by decide) (by decide) o_v0).symm
              have d_x2008 := d_x2008.trans (fri_at fL2120 (by decide) (by decide) o_v0).symm
              have f0 := fri_tr g0 f0 fL2120 (by decide) (by decide)
              have fL3 := fri_tr gL2 fL3 fL2120 (by decide) (by decide)
              have o_v0 := gr_ob gL2119 o_v0
              have g0 := gr_tr g0 gL2119
              have gL2 := gr_tr gL2 gL2119
              obtain ⟨y2132, d_y2132⟩ : ∃ z : Int32, z = fI S2118 v0 4 := ⟨_, rfl⟩
              have p_k1 : ((0 : Int32) = 0 ∨ x2008 = 1 ∨ x2008 = 2) ∧ ((0 : Int32) = 0 → x2008 = 0 ∨ (0 ≤ y2132 ∧ y2132 < 900)) := by rw [d_x2008, d_y2132]; exact k1
              refine u_X4_next_118 ?_
              refine ⟨fun c2133 => ?_, fun c2133 => ?_⟩
              · refine u_X4_next_217 ?_
                refine ⟨fun c2134 => ?_, fun c2134 => ?_⟩
                · refine u_X4_next_240 ?_
                  refine ⟨fun c2135 => ?_, fun c2135 => ?_⟩
                  · exact hq _ hI g0 f0 hT
                  · refine ⟨o_v0, ?_⟩
                    intro x2136 ex2136
                    have q_x2136 : x2136 = x2008 := ex2136.trans d_x2008.symm
                    have d_x2136 := ex2136
                    refine ⟨fun c2137 => ?_, fun c2137 => ?_⟩
                    · exact hq _ hI g0 f0 hT
                    · intro x2138 ex2138
                      have q_x2138 : x2138 = y2132 := ex2138.trans d_y2132.symm
                      have d_x2138 := ex2138
                      intro x2139 ex2139
                      have hI := iv_sI (j := 4) (v := x2139) hI o_v0 (by decide) (nu_free (by decide))
                      have f0 : FRI _ _ _ (sI S2118 v0 4 x2139) := fri_sI g0 f0 o_v0 (by decide)
                      have fL3 : FRI _ _ _ (sI S2118 v0 4 x2139) := fri_sI gL2 fL3 o_v0 (by decide)
                      have fL2120 : FRI _ _ _ (sI S2118 v0 4 x2139) := fri_sI gL2119 fL2120 o_v0 (by decide)
                      have d_x1340 : x1340 = fI (sI S2118 v0 4 x2139) v0 7 := d_x1340.trans (rd_j (by decide)).symm
                      have d_x2136 : x2136 = fI (sI S2118 v0 4 x2139) v0 6 := d_x2136.trans (rd_j (by decide)).symm
                      have d_x2139 : x2139 = fI (sI S2118 v0 4 x2139) v0 4 := (u2_self _ _ _ _).symm
                      exact hq _ hI g0 f0 hT
                · refine ⟨o_v0, ?_⟩
                  intro x2140 ex2140
                  have q_x2140 : x2140 = y2132 := ex2140.trans d_y2132.symm
                  have d_x2140 := ex2140
                  intro x2141 ex2141
                  have q_x2141 : x2141 = x1340 := ex2141.trans d_x1340.symm
                  have d_x2141 := ex2141
                  refine ⟨fun c2142 => ?_, fun c2142 => ?_⟩
                  · refine u_X4_next_240 ?_
                    refine ⟨fun c2143 => ?_, fun c2143 => ?_⟩
                    · exact hq _ hI g0 f0 hT
                    · refine ⟨o_v0, ?_⟩
                      intro x2144 ex2144
                      have q_x2144 : x2144 = x2008 := ex2144.trans d_x2008.symm
                      have d_x2144 := ex2144
                      refine ⟨fun c2145 => ?_, fun c2145 => ?_⟩
                      · exact hq _ hI g0 f0 hT
                      · intro x2146 ex2146
                        have q_x2146 : x2146 = x2140 := ex2146.trans d_x2140.symm
                        have d_x2146 := ex2146
                        intro x2147 ex2147
                        have hI := iv_sI (j := 4) (v := x2147) hI o_v0 (by decide) (nu_free (by decide))
                        have f0 : FRI _ _ _ (sI S2118 v0 4 x2147) := fri_sI g0 f0 o_v0 (by decide)
                        have fL3 : FRI _ _ _ (sI S2118 v0 4 x2147) := fri_sI gL2 fL3 o_v0 (by decide)
                        have fL2120 : FRI _ _ _ (sI S2118 v0 4 x2147) := fri_sI gL2119 fL2120 o_v0 (by decide)
                        have d_x2141 : x2141 = fI (sI S2118 v0 4 x2147) v0 7 := d_x2141.trans (rd_j (by decide)).symm
                        have d_x2144 : x2144 = fI (sI S2118 v0 4 x2147) v0 6 := d_x2144.trans (rd_j (by decide)).symm
                        have d_x2147 : x2147 = fI (sI S2118 v0 4 x2147) v0 4 := (u2_self _ _ _ _).symm
                        exact hq _ hI g0 f0 hT
                  · have hI := iv_sI (j := 6) (v := (6 : Int32)) hI o_v0 (by decide) (nu_free (by decide))
                    have f0 : FRI _ _ _ (sI S2118 v0 6 (6 : Int32)) := fri_sI g0 f0 o_v0 (by decide)
                    have fL3 : FRI _ _ _ (sI S2118 v0 6 (6 : Int32)) := fri_sI gL2 fL3 o_v0 (by decide)
                    have fL2120 : FRI _ _ _ (sI S2118 v0 6 (6 : Int32)) := fri_sI gL2119 fL2120 o_v0 (by decide)
                    have d_x2141 : x2141 = fI (sI S2118 v0 6 (6 : Int32)) v0 7 := d_x2141.trans (rd_j (by decide)).symm
                    have d_x2140 : x2140 = fI (sI S2118 v0 6 (6 : Int32)) v0 4 := d_x2140.trans (rd_j (by decide)).symm
                    obtain ⟨y2148, hy2148⟩ : ∃ z : Int32, z = (6 : Int32) := ⟨_, rfl⟩
                    have d_y2148 : y2148 = fI (sI S2118 v0 6 (6 : Int32)) v0 6 := hy2148.trans (u2_self _ _ _ _).symm
                    refine u_X4_next_240 ?_
                    refine ⟨fun c2149 => ?_, fun c2149 => ?_⟩
                    · exact hq _ hI g0 f0 hT
                    · refine ⟨o_v0, ?_⟩
                      intro x2150 ex2150
                      have q_x2150 : x2150 = y2148 := ex2150.trans d_y2148.symm
                      have d_x2150 := ex2150
                      refine ⟨fun c2151 => ?_, fun c2151 => ?_⟩
                      · exact hq _ hI g0 f0 hT
                      · intro x2152 ex2152
                        have q_x2152 : x2152 = x2140 := ex2152.trans d_x2140.symm
                        have d_x2152 := ex2152
                        intro x2153 ex2153
                        have hI := iv_sI (j := 4) (v := x2153) hI o_v0 (by decide) (nu_free (by decide))
                        have f0 : FRI _ _ _ (sI (sI S2118 v0 6 (6 : Int32)) v0 4 x2153) := fri_sI g0 f0 o_v0 (by decide)
                        have fL3 : FRI _ _ _ (sI (sI S2118 v0 6 (6 : Int32)) v0 4 x2153) := fri_sI gL2 fL3 o_v0 (by decide)
                        have fL2120 : FRI _ _ _ (sI (sI S2118 v0 6 (6 : Int32)) v0 4 x2153) := fri_sI gL2119 fL2120 o_v0 (by decide)
                        have d_x2141 : x2141 = fI (sI (sI S2118 v0 6 (6 : Int32)) v0 4 x2153) v0 7 := d_x2141.trans (rd_j (by decide)).symm
                        have d_x2150 : x2150 = fI (sI (sI S2118 v0 6 (6 : Int32)) v0 4 x2153) v0 6 := d_x2150.trans (rd_j (by decide)).symm
                        have d_x2153 : x2153 = fI (sI (sI S2118 v0 6 (6 : Int32)) v0 4 x2153) v0 4 := (u2_self _ _ _ _).symm
                        exact hq _ hI g0 f0 hT
              · refine ⟨fun c2154 => ?_, fun c2154 => ?_⟩
                · refine u_X4_next_217 ?_
                  refine ⟨fun c2155 => ?_, fun c2155 => ?_⟩
                  · refine u_X4_next_240 ?_
                    refine ⟨fun c2156 => ?_, fun c2156 => ?_⟩
                    · exact hq _ hI g0 f0 hT
                    · refine ⟨o_v0, ?_⟩
                      intro x2157 ex2157
                      have q_x2157 : x2157 = x2008 := ex2157.trans d_x2008.symm
                      have d_x2157 := ex2157
                      refine ⟨fun c2158 => ?_, fun c2158 => ?_⟩
                      · exact hq _ hI g0 f0 hT
                      · intro x2159 ex2159
                        have q_x2159 : x2159 = y2132 := ex2159.trans d_y2132.symm
                        have d_x2159 := ex2159
                        intro x2160 ex2160
                        have hI := iv_sI (j := 4) (v := x2160) hI o_v0 (by decide) (nu_free (by decide))
                        have f0 : FRI _ _ _ (sI S2118 v0 4 x2160) := fri_sI g0 f0 o_v0 (by decide)
                        have fL3 : FRI _ _ _ (sI S2118 v0 4 x2160) := fri_sI gL2 fL3 o_v0 (by decide)
                        have fL2120 : FRI _ _ _ (sI S2118 v0 4 x2160) := fri_sI gL2119 fL2120 o_v0 (by decide)
                        have d_x1340 : x1340 = fI (sI S2118 v0 4 x2160) v0 7 := d_x1340.trans (rd_j (by decide)).symm
                        have d_x2157 : x2157 = fI (sI S2118 v0 4 x2160) v0 6 := d_x2157.trans (rd_j (by decide)).symm
                        have d_x2160 : x2160 = fI (sI S2118 v0 4 x2160) v0 4 := (u2_self _ _ _ _).symm
                        exact hq _ hI g0 f0 hT
                  · refine ⟨o_v0, ?_⟩
                    intro x2161 ex2161
                    have q_x2161 : x2161 = y2132 := ex2161.trans d_y2132.symm
                    have d_x2161 := ex2161
                    intro x2162 ex2162
                    have q_x2162 : x2162 = x1340 := ex2162.trans d_x1340.symm
                    have d_x2162 := ex2162
                    refine ⟨fun c2163 => ?_, fun c2163 => ?_⟩
                    · refine u_X4_next_240 ?_
                      refine ⟨fun c2164 => ?_, fun c2164 => ?_⟩
                      · exact hq _ hI g0 f0 hT
                      · refine ⟨o_v0, ?_⟩
                        intro x2165 ex2165
                        have q_x2165 : x2165 = x2008 := ex2165.trans d_x2008.symm
                        have d_x2165 := ex2165
                        refine ⟨fun c2166 => ?_, fun c2166 => ?_⟩
                        · exact hq _ hI g0 f0 hT
                        · intro x2167 ex2167
                          have q_x2167 : x2167 = x2161 := ex2167.trans d_x2161.symm
                          have d_x2167 := ex2167
                          intro x2168 ex2168
                          have hI := iv_sI (j := 4) (v := x2168) hI o_v0 (by decide) (nu_free (by decide))
                          have f0 : FRI _ _ _ (sI S2118 v0 4 x2168) := fri_sI g0 f0 o_v0 (by decide)
                          have fL3 : FRI _ _ _ (sI S2118 v0 4 x2168) := fri_sI gL2 fL3 o_v0 (by decide)
                          have fL2120 : FRI _ _ _ (sI S2118 v0 4 x2168) := fri_sI gL2119 fL2120 o_v0 (by decide)
                          have d_x2162 : x2162 = fI (sI S2118 v0 4 x2168) v0 7 := d_x2162.trans (rd_j (by decide)).symm
                          have d_x2165 : x2165 = fI (sI S2118 v0 4 x2168) v0 6 := d_x2165.trans (rd_j (by decide)).symm
                          have d_x2168 : x2168 = fI (sI S2118 v0 4 x2168) v0 4 := (u2_self _ _ _ _).symm
                          exact hq _ hI g0 f0 hT
                    · have hI := iv_sI (j := 6) (v := (6 : Int32)) hI o_v0 (by decide) (nu_free (by decide))
                      have f0 : FRI _ _ _ (sI S2118 v0 6 (6 : Int32)) := fri_sI g0 f0 o_v0 (by decide)
                      have fL3 : FRI _ _ _ (sI S2118 v0 6 (6 : Int32)) := fri_sI gL2 fL3 o_v0 (by decide)
                      have fL2120 : FRI _ _ _ (sI S2118 v0 6 (6 : Int32)) := fri_sI gL2119 fL2120 o_v0 (by decide)
                      have d_x2162 : x2162 = fI (sI S2118 v0 6 (6 : Int32)) v0 7 := d_x2162.trans (rd_j (by decide)).symm
                      have d_x2161 : x2161 = fI (sI S2118 v0 6 (6 : Int32)) v0 4 := d_x2161.trans (rd_j (by decide)).symm
                      obtain ⟨y2169, hy2169⟩ : ∃ z : Int32, z = (6 : Int32) := ⟨_, rfl⟩
                      have d_y2169 : y2169 = fI (sI S2118 v0 6 (6 : Int32)) v0 6 := hy2169.trans (u2_self _ _ _ _).symm
                      refine u_X4_next_240 ?_
                      refine ⟨fun c2170 => ?_, fun c2170 => ?_⟩
                      · exact hq _ hI g0 f0 hT
                      · refine ⟨o_v0, ?_⟩
                        intro x2171 ex2171
                        have q_x2171 : x2171 = y2169 := ex2171.trans d_y2169.symm
                        have d_x2171 := ex2171
                        refine ⟨fun c2172 => ?_, fun c2172 => ?_⟩
                        · exact hq _ hI g0 f0 hT
                        · intro x2173 ex2173
                          have q_x2173 : x2173 = x2161 := ex2173.trans d_x2161.symm
                          have d_x2173 := ex2173
                          intro x2174 ex2174
                          have hI := iv_sI (j := 4) (v := x2174) hI o_v0 (by decide) (nu_free (by decide))
                          have f0 : FRI _ _ _ (sI (sI S2118 v0 6 (6 : Int32)) v0 4 x2174) := fri_sI g0 f0 o_v0 (by decide)
                          have fL3 : FRI _ _ _ (sI (sI S2118 v0 6 (6 : Int32)) v0 4 x2174) := fri_sI gL2 fL3 o_v0 (by decide)
                          have fL2120 : FRI _ _ _ (sI (sI S2118 v0 6 (6 : Int32)) v0 4 x2174) := fri_sI gL2119 fL2120 o_v0 (by decide)
                          have d_x2162 : x2162 = fI (sI (sI S2118 v0 6 (6 : Int32)) v0 4 x2174) v0 7 := d_x2162.trans (rd_j (by decide)).symm
                          have d_x2171 : x2171 = fI (sI (sI S2118 v0 6 (6 : Int32)) v0 4 x2174) v0 6 := d_x2171.trans (rd_j (by decide)).symm
                          have d_x2174 : x2174 = fI (sI (sI S2118 v0 6 (6 : Int32)) v0 4 x2174) v0 4 := (u2_self _ _ _ _).symm
                          exact hq _ hI g0 f0 hT
                · refine ⟨o_v0, ?_⟩
                  intro x2175 ex2175
                  have q_x2175 : x2175 = y2132 := ex2175.trans d_y2132.symm
                  have d_x2175 := ex2175
                  refine m_X4_sortAt hI o_v0 hT (fun x2176 S2177 hI2 g2178 p_x2176 => ?_)
                  obtain ⟨z_S2177, p_x2176⟩ := p_x2176
                  subst z_S2177
                  intro _
                  intro x2180 ex2180
                  have q_x2180 : x2180 = x2008 := ex2180.trans d_x2008.symm
                  have d_x2180 := ex2180
                  refine ⟨fun c2181 => ?_, fun c2181 => ?_⟩
                  · refine u_X4_next_217 ?_
                    refine ⟨fun c2182 => ?_, fun c2182 => ?_⟩
                    · refine u_X4_next_240 ?_
                      refine ⟨fun c2183 => ?_, fun c2183 => ?_⟩
                      · exact hq _ hI g0 f0 hT
                      · refine ⟨o_v0, ?_⟩
                        intro x2184 ex2184
                        have q_x2184 : x2184 = x2180 := ex2184.trans d_x2180.symm
                        have d_x2184 := ex2184
                        refine ⟨fun c2185 => ?_, fun c2185 => ?_⟩
                        · exact hq _ hI g0 f0 hT
                        · intro x2186 ex2186
                          have q_x2186 : x2186 = x2175 := ex2186.trans d_x2175.symm
                          have d_x2186 := ex2186
                          intro x2187 ex2187
                          have hI := iv_sI (j := 4) (v := x2187) hI o_v0 (by decide) (nu_free (by decide))
                          have f0 : FRI _ _ _ (sI S2118 v0 4 x2187) := fri_sI g0 f0 o_v0 (by decide)
                          have fL3 : FRI _ _ _ (sI S2118 v0 4 x2187) := fri_sI gL2 fL3 o_v0 (by decide)
                          have fL2120 : FRI _ _ _ (sI S2118 v0 4 x2187) := fri_sI gL2119 fL2120 o_v0 (by decide)
                          have d_x1340 : x1340 = fI (sI S2118 v0 4 x2187) v0 7 := d_x1340.trans (rd_j (by decide)).symm
                          have d_x2184 : x2184 = fI (sI S2118 v0 4 x2187) v0 6 := d_x2184.trans (rd_j (by decide)).symm
                          have d_x2187 : x2187 = fI (sI S2118 v0 4 x2187) v0 4 := (u2_self _ _ _ _).symm
                          exact hq _ hI g0 f0 hT
                    · refine ⟨o_v0, ?_⟩
                      intro x2188 ex2188
                      have q_x2188 : x2188 = x2175 := ex2188.trans d_x2175.symm
                      have d_x2188 := ex2188
                      intro x2189 ex2189
                      have q_x2189 : x2189 = x1340 := ex2189.trans d_x1340.symm
                      have d_x2189 := ex2189
                      refine ⟨fun c2190 => ?_, fun c2190 => ?_⟩
                      · refine u_X4_next_240 ?_
                        refine ⟨fun c2191 => ?_, fun c2191 => ?_⟩
                        · exact hq _ hI g0 f0 hT
                        · refine ⟨o_v0, ?_⟩
                          intro x2192 ex2192
                          have q_x2192 : x2192 = x2180 := ex2192.trans d_x2180.symm
                          have d_x2192 := ex2192
                          refine ⟨fun c2193 => ?_, fun c2193 => ?_⟩
                          · exact hq _ hI g0 f0 hT
                          · intro x2194 ex2194
                            have q_x2194 : x2194 = x2188 := ex2194.trans d_x2188.symm
                            have d_x2194 := ex2194
                            intro x2195 ex2195
                            have hI := iv_sI (j := 4) (v := x2195) hI o_v0 (by decide) (nu_free (by decide))
                            have f0 : FRI _ _ _ (sI S2118 v0 4 x2195) := fri_sI g0 f0 o_v0 (by decide)
                            have fL3 : FRI _ _ _ (sI S2118 v0 4 x2195) := fri_sI gL2 fL3 o_v0 (by decide)
                            have fL2120 : FRI _ _ _ (sI S2118 v0 4 x2195) := fri_sI gL2119 fL2120 o_v0 (by decide)
                            have d_x2189 : x2189 = fI (sI S2118 v0 4 x2195) v0 7 := d_x2189.trans (rd_j (by decide)).symm
                            have d_x2192 : x2192 = fI (sI S2118 v0 4 x2195) v0 6 := d_x2192.trans (rd_j (by decide)).symm
                            have d_x2195 : x2195 = fI (sI S2118 v0 4 x2195) v0 4 := (u2_self _ _ _ _).symm
                            exact hq _ hI g0 f0 hT
                      · have hI := iv_sI (j := 6) (v := (6 : Int32)) hI o_v0 (by decide) (nu_free (by decide))
                        have f0 : FRI _ _ _ (sI S2118 v0 6 (6 : Int32)) := fri_sI g0 f0 o_v0 (by decide)
                        have fL3 : FRI _ _ _ (sI S2118 v0 6 (6 : Int32)) := fri_sI gL2 fL3 o_v0 (by decide)
                        have fL2120 : FRI _ _ _ (sI S2118 v0 6 (6 : Int32)) := fri_sI gL2119 fL2120 o_v0 (by decide)
                        have d_x2189 : x2189 = fI (sI S2118 v0 6 (6 : Int32)) v0 7 := d_x2189.trans (rd_j (by decide)).symm
                        have d_x2188 : x2188 = fI (sI S2118 v0 6 (6 : Int32)) v0 4 := d_x2188.trans (rd_j (by decide)).symm
                        obtain ⟨y2196, hy2196⟩ : ∃ z : Int32, z = (6 : Int32) := ⟨_, rfl⟩
                        have d_y2196 : y2196 = fI (sI S2118 v0 6 (6 : Int32)) v0 6 := hy2196.trans (u2_self _ _ _ _).symm
                        refine u_X4_next_240 ?_
                        refine ⟨fun c2197 => ?_, fun c2197 => ?_⟩
                        · exact hq _ hI g0 f0 hT
                        · refine ⟨o_v0, ?_⟩
                          intro x2198 ex2198
                          have q_x2198 : x2198 = y2196 := ex2198.trans d_y2196.symm
                          have d_x2198 := ex2198
                          refine ⟨fun c2199 => ?_, fun c2199 => ?_⟩
                          · exact hq _ hI g0 f0 hT
                          · intro x2200 ex2200
                            have q_x2200 : x2200 = x2188 := ex2200.trans d_x2188.symm
                            have d_x2200 := ex2200
                            intro x2201 ex2201
                            have hI := iv_sI (j := 4) (v := x2201) hI o_v0 (by decide) (nu_free (by decide))
                            have f0 : FRI _ _ _ (sI (sI S2118 v0 6 (6 : Int32)) v0 4 x2201) := fri_sI g0 f0 o_v0 (by decide)
                            have fL3 : FRI _ _ _ (sI (sI S2118 v0 6 (6 : Int32)) v0 4 x2201) := fri_sI gL2 fL3 o_v0 (by decide)
                            have fL2120 : FRI _ _ _ (sI (sI S2118 v0 6 (6 : Int32)) v0 4 x2201) := fri_sI gL2119 fL2120 o_v0 (by decide)
                            have d_x2189 : x2189 = fI (sI (sI S2118 v0 6 (6 : Int32)) v0 4 x2201) v0 7 := d_x2189.trans (rd_j (by decide)).symm
                            have d_x2198 : x2198 = fI (sI (sI S2118 v0 6 (6 : Int32)) v0 4 x2201) v0 6 := d_x2198.trans (rd_j (by decide)).symm
                            have d_x2201 : x2201 = fI (sI (sI S2118 v0 6 (6 : Int32)) v0 4 x2201) v0 4 := (u2_self _ _ _ _).symm
                            exact hq _ hI g0 f0 hT
                  · refine ⟨fun c2202 => ?_, fun c2202 => ?_⟩
                    · refine u_X4_next_201 ?_
                      refine ⟨o_v0, ?_⟩
                      intro x2203 ex2203
                      have q_x2203 : x2203 = x2175 := ex2203.trans d_x2175.symm
                      have d_x2203 := ex2203
                      intro x2204 ex2204
                      have hI := iv_sI (j := 4) (v := x2204) hI o_v0 (by decide) (nu_free (by decide))
                      have f0 : FRI _ _ _ (sI S2118 v0 4 x2204) := fri_sI g0 f0 o_v0 (by decide)
                      have fL3 : FRI _ _ _ (sI S2118 v0 4 x2204) := fri_sI gL2 fL3 o_v0 (by decide)
                      have fL2120 : FRI _ _ _ (sI S2118 v0 4 x2204) := fri_sI gL2119 fL2120 o_v0 (by decide)
                      have d_x1340 : x1340 = fI (sI S2118 v0 4 x2204) v0 7 := d_x1340.trans (rd_j (by decide)).symm
                      have d_x2180 : x2180 = fI (sI S2118 v0 4 x2204) v0 6 := d_x2180.trans (rd_j (by decide)).symm
                      have d_x2204 : x2204 = fI (sI S2118 v0 4 x2204) v0 4 := (u2_self _ _ _ _).symm
                      intro x2205 ex2205
                      exact ih2131 _ _ _ _ _ _ ⟨hI, gL2119, fL2120, rfl, rfl, rfl, rfl, hT, (q592 i1 c9 p_x1335 c1339 q_x1340 q_x1341 p_x1342 q_x1346 c1347 q_x1786 c1787 q_x1788 c1789 q_x2008 c2009 i1 p_k1 c2133 c2154 q_x2175 p_x2176 q_x2180 c2181 c2202 q_x2203 ex2204 ex2205), (by rw [← d_x2180, ← d_x2204]; exact (q593 i1 c9 p_x1335 c1339 q_x1340 q_x1341 p_x1342 q_x1346 c1347 q_x1786 c1787 q_x1788 c1789 q_x2008 c2009 i1 p_k1 c2133 c2154 q_x2175 p_x2176 q_x2180 c2181 c2202 q_x2203 ex2204 ex2205))⟩ (mu_up (q594 i1 c9 p_x1335 c1339 q_x1340 q_x1341 p_x1342 q_x1346 c1347 q_x1786 c1787 q_x1788 c1789 q_x2008 c2009 i1 p_k1 c2133 c2154 q_x2175 p_x2176 q_x2180 c2181 c2202 q_x2203 ex2204 ex2205) (q595 i1 c9 p_x1335 c1339 q_x1340 q_x1341 p_x1342 q_x1346 c1347 q_x1786 c1787 q_x1788 c1789 q_x2008 c2009 i1 p_k1 c2133 c2154 q_x2175 p_x2176 q_x2180 c2181 c2202 q_x2203 ex2204 ex2205))
                    · intro x2206 ex2206
                      have q_x2206 : x2206 = x2175 := ex2206.trans d_x2175.symm
                      have d_x2206 := ex2206
                      obtain ⟨a2207, ea2207, o_a2207, l_a2207⟩ := hT
                      refine ⟨a2207, ea2207, ?_⟩
                      refine ⟨o_a2207, ?_⟩
                      have n_a2207 : nI (hN S2118 a2207) = 900 := by rw [show hN S2118 a2207 = 900 from l_a2207]; decide
                      refine ⟨fun c2208 => ?_, fun c2208 => ?_⟩
                      · rw [n_a2207] at c2208
                        refine u_X4_next_201 ?_
                        refine ⟨o_v0, ?_⟩
                        intro x2209 ex2209
                        have q_x2209 : x2209 = x2206 := ex2209.trans d_x2206.symm
                        have d_x2209 := ex2209
                        intro x2210 ex2210
                        have hI := iv_sI (j := 4) (v := x2210) hI o_v0 (by decide) (nu_free (by decide))
                        have f0 : FRI _ _ _ (sI S2118 v0 4 x2210) := fri_sI g0 f0 o_v0 (by decide)
                        have fL3 : FRI _ _ _ (sI S2118 v0 4 x2210) := fri_sI gL2 fL3 o_v0 (by decide)
                        have fL2120 : FRI _ _ _ (sI S2118 v0 4 x2210) := fri_sI gL2119 fL2120 o_v0 (by decide)
                        have d_x1340 : x1340 = fI (sI S2118 v0 4 x2210) v0 7 := d_x1340.trans (rd_j (by decide)).symm
                        have d_x2180 : x2180 = fI (sI S2118 v0 4 x2210) v0 6 := d_x2180.trans (rd_j (by decide)).symm
                        have d_x2210 : x2210 = fI (sI S2118 v0 4 x2210) v0 4 := (u2_self _ _ _ _).symm
                        intro x2211 ex2211
                        exact ih2131 _ _ _ _ _ _ ⟨hI, gL2119, fL2120, rfl, rfl, rfl, rfl, hT, (q596 i1 c9 p_x1335 c1339 q_x1340 q_x1341 p_x1342 q_x1346 c1347 q_x1786 c1787 q_x1788 c1789 q_x2008 c2009 i1 p_k1 c2133 c2154 q_x2175 p_x2176 q_x2180 c2181 c2202 q_x2206 c2208 q_x2209 ex2210 ex2211), (by rw [← d_x2180, ← d_x2210]; exact (q597 i1 c9 p_x1335 c1339 q_x1340 q_x1341 p_x1342 q_x1346 c1347 q_x1786 c1787 q_x1788 c1789 q_x2008 c2009 i1 p_k1 c2133 c2154 q_x2175 p_x2176 q_x2180 c2181 c2202 q_x2206 c2208 q_x2209 ex2210 ex2211))⟩ (mu_up (q598 i1 c9 p_x1335 c1339 q_x1340 q_x1341 p_x1342 q_x1346 c1347 q_x1786 c1787 q_x1788 c1789 q_x2008 c2009 i1 p_k1 c2133 c2154 q_x2175 p_x2176 q_x2180 c2181 c2202 q_x2206 c2208 q_x2209 ex2210 ex2211) (q599 i1 c9 p_x1335 c1339 q_x1340 q_x1341 p_x1342 q_x1346 c1347 q_x1786 c1787 q_x1788 c1789 q_x2008 c2009 i1 p_k1 c2133 c2154 q_x2175 p_x2176 q_x2180 c2181 c2202 q_x2206 c2208 q_x2209 ex2210 ex2211))
                      · rw [n_a2207] at c2208
                        intro x2212 ex2212
                        have dj_x2212 := ex2212
                        refine ⟨a2207, ea2207, ?_⟩
                        intro x2214 ex2214
                        have q_x2214 : x2214 = x2206 := ex2214.trans d_x2206.symm
                        have d_x2214 := ex2214
                        refine ⟨o_a2207, ?_⟩
                        refine ⟨(vin l_a2207 (m := 900) (by decide) (q600 i1 c9 p_x1335 c1339 q_x1340 q_x1341 p_x1342 q_x1346 c1347 q_x1786 c1787 q_x1788 c1789 q_x2008 c2009 i1 p_k1 c2133 c2154 q_x2175 p_x2176 q_x2180 c2181 c2202 q_x2206 c2208 q_x2214)), ?_⟩
                        intro x2215 ex2215
                        intro x2216 ex2216
                        have q_x2216 : x2216 = x2180 := ex2216.trans d_x2180.symm
                        have d_x2216 := ex2216
                        refine ⟨fun c2217 => ?_, fun c2217 => ?_⟩
                        · refine u_X4_next_195 ?_
                          refine ⟨o_v0, ?_⟩
                          intro x2218 ex2218
                          have hI := iv_sJ (j := 8) (v := x2218) hI o_v0 (by decide)
                          refine u_X4_next_201 ?_
                          refine ⟨o_v0, ?_⟩
                          intro x2219 ex2219
                          have q_x2219 : x2219 = x2214 := ex2219.trans d_x2214.symm
                          have d_x2219 := ex2219
                          intro x2220 ex2220
                          have hI := iv_sI (j := 4) (v := x2220) hI o_v0 (by decide) (nu_free (by decide))
                          have f0 : FRI _ _ _ (sI (sJ S2118 v0 8 x2218) v0 4 x2220) := fri_sI g0 f0 o_v0 (by decide)
                          have fL3 : FRI _ _ _ (sI (sJ S2118 v0 8 x2218) v0 4 x2220) := fri_sI gL2 fL3 o_v0 (by decide)
                          have fL2120 : FRI _ _ _ (sI (sJ S2118 v0 8 x2218) v0 4 x2220) := fri_sI gL2119 fL2120 o_v0 (by decide)
                          have d_x1340 : x1340 = fI (sI (sJ S2118 v0 8 x2218) v0 4 x2220) v0 7 := d_x1340.trans (rd_j (by decide)).symm
                          have d_x2216 : x2216 = fI (sI (sJ S2118 v0 8 x2218) v0 4 x2220) v0 6 := d_x2216.trans (rd_j (by decide)).symm
                          have d_x2220 : x2220 = fI (sI (sJ S2118 v0 8 x2218) v0 4 x2220) v0 4 := (u2_self _ _ _ _).symm
                          intro x2221 ex2221
                          exact ih2131 _ _ _ _ _ _ ⟨hI, gL2119, fL2120, rfl, rfl, rfl, rfl, hT, (q601 i1 c9 p_x1335 c1339 q_x1340 q_x1341 p_x1342 q_x1346 c1347 q_x1786 c1787 q_x1788 c1789 q_x2008 c2009 i1 p_k1 c2133 c2154 q_x2175 p_x2176 q_x2180 c2181 c2202 q_x2206 c2208 q_x2214 q_x2216 c2217 q_x2219 ex2220 ex2221), (by rw [← d_x2216, ← d_x2220]; exact (q602 i1 c9 p_x1335 c1339 q_x1340 q_x1341 p_x1342 q_x1346 c1347 q_x1786 c1787 q_x1788 c1789 q_x2008 c2009 i1 p_k1 c2133 c2154 q_x2175 p_x2176 q_x2180 c2181 c2202 q_x2206 c2208 q_x2214 q_x2216 c2217 q_x2219 ex2220 ex2221))⟩ (mu_up (q603 i1 c9 p_x1335 c1339 q_x1340 q_x1341 p_x1342 q_x1346 c1347 q_x1786 c1787 q_x1788 c1789 q_x2008 c2009 i1 p_k1 c2133 c2154 q_x2175 p_x2176 q_x2180 c2181 c2202 q_x2206 c2208 q_x2214 q_x2216 c2217 q_x2219 ex2220 ex2221) (q604 i1 c9 p_x1335 c1339 q_x1340 q_x1341 p_x1342 q_x1346 c1347 q_x1786 c1787 q_x1788 c1789 q_x2008 c2009 i1 p_k1 c2133 c2154 q_x2175 p_x2176 q_x2180 c2181 c2202 q_x2206 c2208 q_x2214 q_x2216 c2217 q_x2219 ex2220 ex2221))
                        · refine u_X4_next_195 ?_
                          refine ⟨o_v0, ?_⟩
                          intro x2222 ex2222
                          have hI := iv_sJ (j := 8) (v := x2222) hI o_v0 (by decide)
                          refine u_X4_next_201 ?_
                          refine ⟨o_v0, ?_⟩
                          intro x2223 ex2223
                          have q_x2223 : x2223 = x2214 := ex2223.trans d_x2214.symm
                          have d_x2223 := ex2223
                          intro x2224 ex2224
                          have hI := iv_sI (j := 4) (v := x2224) hI o_v0 (by decide) (nu_free (by decide))
                          have f0 : FRI _ _ _ (sI (sJ S2118 v0 8 x2222) v0 4 x2224) := fri_sI g0 f0 o_v0 (by decide)
                          have fL3 : FRI _ _ _ (sI (sJ S2118 v0 8 x2222) v0 4 x2224) := fri_sI gL2 fL3 o_v0 (by decide)
                          have fL2120 : FRI _ _ _ (sI (sJ S2118 v0 8 x2222) v0 4 x2224) := fri_sI gL2119 fL2120 o_v0 (by decide)
                          have d_x1340 : x1340 = fI (sI (sJ S2118 v0 8 x2222) v0 4 x2224) v0 7 := d_x1340.trans (rd_j (by decide)).symm
                          have d_x2216 : x2216 = fI (sI (sJ S2118 v0 8 x2222) v0 4 x2224) v0 6 := d_x2216.trans (rd_j (by decide)).symm
                          have d_x2224 : x2224 = fI (sI (sJ S2118 v0 8 x2222) v0 4 x2224) v0 4 := (u2_self _ _ _ _).symm
                          intro x2225 ex2225
                          exact ih2131 _ _ _ _ _ _ ⟨hI, gL2119, fL2120, rfl, rfl, rfl, rfl, hT, (q605 i1 c9 p_x1335 c1339 q_x1340 q_x1341 p_x1342 q_x1346 c1347 q_x1786 c1787 q_x1788 c1789 q_x2008 c2009 i1 p_k1 c2133 c2154 q_x2175 p_x2176 q_x2180 c2181 c2202 q_x2206 c2208 q_x2214 q_x2216 c2217 q_x2223 ex2224 ex2225), (by rw [← d_x2216, ← d_x2224]; exact (q606 i1 c9 p_x1335 c1339 q_x1340 q_x1341 p_x1342 q_x1346 c1347 q_x1786 c1787 q_x1788 c1789 q_x2008 c2009 i1 p_k1 c2133 c2154 q_x2175 p_x2176 q_x2180 c2181 c2202 q_x2206 c2208 q_x2214 q_x2216 c2217 q_x2223 ex2224 ex2225))⟩ (mu_up (q607 i1 c9 p_x1335 c1339 q_x1340 q_x1341 p_x1342 q_x1346 c1347 q_x1786 c1787 q_x1788 c1789 q_x2008 c2009 i1 p_k1 c2133 c2154 q_x2175 p_x2176 q_x2180 c2181 c2202 q_x2206 c2208 q_x2214 q_x2216 c2217 q_x2223 ex2224 ex2225) (q608 i1 c9 p_x1335 c1339 q_x1340 q_x1341 p_x1342 q_x1346 c1347 q_x1786 c1787 q_x1788 c1789 q_x2008 c2009 i1 p_k1 c2133 c2154 q_x2175 p_x2176 q_x2180 c2181 c2202 q_x2206 c2208 q_x2214 q_x2216 c2217 q_x2223 ex2224 ex2225))
        · refine u_X4_next_78 ?_
          refine u_X4_next_83 ?_
          refine ⟨o_v0, ?_⟩
          intro x2226 ex2226
          have q_x2226 : x2226 = x1786 := ex2226.trans d_x1786.symm
          have d_x2226 := ex2226
          refine ⟨fun c2227 => ?_, fun c2227 => ?_⟩
          · refine u_X4_next_98 ?_
            refine ⟨o_v0, ?_⟩
            intro x2228 ex2228
            have q_x2228 : x2228 = x2226 := ex2228.trans d_x2226.symm
            have d_x2228 := ex2228
            refine ⟨fun c2229 => ?_, fun c2229 => ?_⟩
            · refine u_X4_next_114 ?_
              refine i_X4_next_118 (fun (y0 : Nat) (y1 : Int32) (y2 : Int32) (y3 : Int32) (y4 : Int32) (Z : HS) => ((2147483647 : Int32).toInt - y4.toInt).toNat) (fun (y0 : Nat) (y1 : Int32) (y2 : Int32) (y3 : Int32) (y4 : Int32) (Z : HS) => (IV Z) ∧ (Gr (sJ (sI (sI S1 v0 7 x1340) v0 6 x1342) v0 8 (0 : Int64)) Z) ∧ (FRI [(4, 4)] [] (sJ (sI (sI S1 v0 7 x1340) v0 6 x1342) v0 8 (0 : Int64)) Z) ∧ (v0 = y0) ∧ ((1 : Int32) = y1) ∧ ((3 : Int32) = y2) ∧ ((10 : Int32) = y3) ∧ (TX Z v0) ∧ (0 ≤ y4) ∧ ((y1 = 0 ∨ fI Z v0 6 = 1 ∨ fI Z v0 6 = 2) ∧ (y1 = 0 → fI Z v0 6 = 0 ∨ (0 ≤ fI Z v0 4 ∧ fI Z v0 4 < 900)))) ?_ _ _ _ _ _ _ ⟨hI, (gr_rf _), (fri_rf _ _ _), rfl, rfl, rfl, rfl, hT, (q609 i1 c9 p_x1335 c1339 q_x1340 q_x1341 p_x1342 q_x1346 c1347 q_x1786 c1787 q_x2226 c2227 q_x2228 c2229), (by rw [← d_x2228, ← d_x1341]; exact (q610 i1 c9 p_x1335 c1339 q_x1340 q_x1341 p_x1342 q_x1346 c1347 q_x1786 c1787 q_x2226 c2227 q_x2228 c2229))⟩
              intro w2233 w2235 w2237 w2239 w2241 S2230 X2242 ⟨hI, gL2231, fL2232, q2234, q2236, q2238, q2240, hT, i1, k1⟩ ih2243
              subst q2234
              subst q2236
              subst q2238
              subst q2240
              have d_x1340 := d_x1340.trans (fri_at fL2232 (by decide) (by decide) o_v0).symm
              have d_x2228 := d_x2228.trans (fri_at fL2232 (by decide) (by decide) o_v0).symm
              have f0 := fri_tr g0 f0 fL2232 (by decide) (by decide)
              have fL3 := fri_tr gL2 fL3 fL2232 (by decide) (by decide)
              have o_v0 := gr_ob gL2231 o_v0
              have g0 := gr_tr g0 gL2231
              have gL2 := gr_tr gL2 gL2231
              obtain ⟨y2244, d_y2244⟩ : ∃ z : Int32, z = fI S2230 v0 4 := ⟨_, rfl⟩
              have p_k1 : ((1 : Int32) = 0 ∨ x2228 = 1 ∨ x2228 = 2) ∧ ((1 : Int32) = 0 → x2228 = 0 ∨ (0 ≤ y2244 ∧ y2244 < 900)) := by rw [d_x2228, d_y2244]; exact k1
              refine u_X4_next_118 ?_
              refine ⟨fun c2245 => ?_, fun c2245 => ?_⟩
              · refine u_X4_next_217 ?_
                refine ⟨fun c2246 => ?_, fun c2246 => ?_⟩
                · refine u_X4_next_240 ?_
                  refine ⟨fun c2247 => ?_, fun c2247 => ?_⟩
                  · exact hq _ hI g0 f0 hT
                  · refine ⟨o_v0, ?_⟩
                    intro x2248 ex2248
                    have q_x2248 : x2248 = x2228 := ex2248.trans d_x2228.symm
                    have d_x2248 := ex2248
                    refine ⟨fun c2249 => ?_, fun c2249 => ?_⟩
                    · exact hq _ hI g0 f0 hT
                    · intro x2250 ex2250
                      have q_x2250 : x2250 = y2244 := ex2250.trans d_y2244.symm
                      have d_x2250 := ex2250
                      intro x2251 ex2251
                      have hI := iv_sI (j := 4) (v := x2251) hI o_v0 (by decide) (nu_free (by decide))
                      have f0 : FRI _ _ _ (sI S2230 v0 4 x2251) := fri_sI g0 f0 o_v0 (by decide)
                      have fL3 : FRI _ _ _ (sI S2230 v0 4 x2251) := fri_sI gL2 fL3 o_v0 (by decide)
                      have fL2232 : FRI _ _ _ (sI S2230 v0 4 x2251) := fri_sI gL2231 fL2232 o_v0 (by decide)
                      have d_x1340 : x1340 = fI (sI S2230 v0 4 x2251) v0 7 := d_x1340.trans (rd_j (by decide)).symm
                      have d_x2248 : x2248 = fI (sI S2230 v0 4 x2251) v0 6 := d_x2248.trans (rd_j (by decide)).symm
                      have d_x2251 : x2251 = fI (sI S2230 v0 4 x2251) v0 4 := (u2_self _ _ _ _).symm
                      exact hq _ hI g0 f0 hT
                · refine ⟨o_v0, ?_⟩
                  intro x2252 ex2252
                  have q_x2252 : x2252 = y2244 := ex2252.trans d_y2244.symm
                  have d_x2252 := ex2252
                  intro x2253 ex2253
                  have q_x2253 : x2253 = x1340 := ex2253.trans d_x1340.symm
                  have d_x2253 := ex2253
                  refine ⟨fun c2254 => ?_, fun c2254 => ?_⟩
                  · refine u_X4_next_240 ?_
                    refine ⟨fun c2255 => ?_, fun c2255 => ?_⟩
                    · exact hq _ hI g0 f0 hT
                    · refine ⟨o_v0, ?_⟩
                      intro x2256 ex2256
                      have q_x2256 : x2256 = x2228 := ex2256.trans d_x2228.symm
                      have d_x2256 := ex2256
                      refine ⟨fun c2257 => ?_, fun c2257 => ?_⟩
                      · exact hq _ hI g0 f0 hT
                      · intro x2258 ex2258
                        have q_x2258 : x2258 = x2252 := ex2258.trans d_x2252.symm
                        have d_x2258 := ex2258
                        intro x2259 ex2259
                        have hI := iv_sI (j := 4) (v := x2259) hI o_v0 (by decide) (nu_free (by decide))
                        have f0 : FRI _ _ _ (sI S2230 v0 4 x2259) := fri_sI g0 f0 o_v0 (by decide)
                        have fL3 : FRI _ _ _ (sI S2230 v0 4 x2259) := fri_sI gL2 fL3 o_v0 (by decide)
                        have fL2232 : FRI _ _ _ (sI S2230 v0 4 x2259) := fri_sI gL2231 fL2232 o_v0 (by decide)
                        have d_x2253 : x2253 = fI (sI S2230 v0 4 x2259) v0 7 := d_x2253.trans (rd_j (by decide)).symm
                        have d_x2256 : x2256 = fI (sI S2230 v0 4 x2259) v0 6 := d_x2256.trans (rd_j (by decide)).symm
                        have d_x2259 : x2259 = fI (sI S2230 v0 4 x2259) v0 4 := (u2_self _ _ _ _).symm
                        exact hq _ hI g0 f0 hT
                  · have hI := iv_sI (j := 6) (v := (6 : Int32)) hI o_v0 (by decide) (nu_free (by decide))
                    have f0 : FRI _ _ _ (sI S2230 v0 6 (6 : Int32)) := fri_sI g0 f0 o_v0 (by decide)
                    have fL3 : FRI _ _ _ (sI S2230 v0 6 (6 : Int32)) := fri_sI gL2 fL3 o_v0 (by decide)
                    have fL2232 : FRI _ _ _ (sI S2230 v0 6 (6 : Int32)) := fri_sI gL2231 fL2232 o_v0 (by decide)
                    have d_x2253 : x2253 = fI (sI S2230 v0 6 (6 : Int32)) v0 7 := d_x2253.trans (rd_j (by decide)).symm
                    have d_x2252 : x2252 = fI (sI S2230 v0 6 (6 : Int32)) v0 4 := d_x2252.trans (rd_j (by decide)).symm
                    obtain ⟨y2260, hy2260⟩ : ∃ z : Int32, z = (6 : Int32) := ⟨_, rfl⟩
                    have d_y2260 : y2260 = fI (sI S2230 v0 6 (6 : Int32)) v0 6 := hy2260.trans (u2_self _ _ _ _).symm
                    refine u_X4_next_240 ?_
                    refine ⟨fun c2261 => ?_, fun c2261 => ?_⟩
                    · exact hq _ hI g0 f0 hT
                    · refine ⟨o_v0, ?_⟩
                      intro x2262 ex2262
                      have q_x2262 : x2262 = y2260 := ex2262.trans d_y2260.symm
                      have d_x2262 := ex2262
                      refine ⟨fun c2263 => ?_, fun c2263 => ?_⟩
                      · exact hq _ hI g0 f0 hT
                      · intro x2264 ex2264
                        have q_x2264 : x2264 = x2252 := ex2264.trans d_x2252.symm
                        have d_x2264 := ex2264
                        intro x2265 ex2265
                        have hI := iv_sI (j := 4) (v := x2265) hI o_v0 (by decide) (nu_free (by decide))
                        have f0 : FRI _ _ _ (sI (sI S2230 v0 6 (6 : Int32)) v0 4 x2265) := fri_sI g0 f0 o_v0 (by decide)
                        have fL3 : FRI _ _ _ (sI (sI S2230 v0 6 (6 : Int32)) v0 4 x2265) := fri_sI gL2 fL3 o_v0 (by decide)
                        have fL2232 : FRI _ _ _ (sI (sI S2230 v0 6 (6 : Int32)) v0 4 x2265) := fri_sI gL2231 fL2232 o_v0 (by decide)
                        have d_x2253 : x2253 = fI (sI (sI S2230 v0 6 (6 : Int32)) v0 4 x2265) v0 7 := d_x2253.trans (rd_j (by decide)).symm
                        have d_x2262 : x2262 = fI (sI (sI S2230 v0 6 (6 : Int32)) v0 4 x2265) v0 6 := d_x2262.trans (rd_j (by decide)).symm
                        have d_x2265 : x2265 = fI (sI (sI S2230 v0 6 (6 : Int32)) v0 4 x2265) v0 4 := (u2_self _ _ _ _).symm
                        exact hq _ hI g0 f0 hT
              · refine ⟨fun c2266 => ?_, fun c2266 => ?_⟩
                · refine u_X4_next_217 ?_
                  refine ⟨fun c2267 => ?_, fun c2267 => ?_⟩
                  · refine u_X4_next_240 ?_
                    refine ⟨fun c2268 => ?_, fun c2268 => ?_⟩
                    · exact hq _ hI g0 f0 hT
                    · refine ⟨o_v0, ?_⟩
                      intro x2269 ex2269
                      have q_x2269 : x2269 = x2228 := ex2269.trans d_x2228.symm
                      have d_x2269 := ex2269
                      refine ⟨fun c2270 => ?_, fun c2270 => ?_⟩
                      · exact hq _ hI g0 f0 hT
                      · intro x2271 ex2271
                        have q_x2271 : x2271 = y2244 := ex2271.trans d_y2244.symm
                        have d_x2271 := ex2271
                        intro x2272 ex2272
                        have hI := iv_sI (j := 4) (v := x2272) hI o_v0 (by decide) (nu_free (by decide))
                        have f0 : FRI _ _ _ (sI S2230 v0 4 x2272) := fri_sI g0 f0 o_v0 (by decide)
                        have fL3 : FRI _ _ _ (sI S2230 v0 4 x2272) := fri_sI gL2 fL3 o_v0 (by decide)
                        have fL2232 : FRI _ _ _ (sI S2230 v0 4 x2272) := fri_sI gL2231 fL2232 o_v0 (by decide)
                        have d_x1340 : x1340 = fI (sI S2230 v0 4 x2272) v0 7 := d_x1340.trans (rd_j (by decide)).symm
                        have d_x2269 : x2269 = fI (sI S2230 v0 4 x2272) v0 6 := d_x2269.trans (rd_j (by decide)).symm
                        have d_x2272 : x2272 = fI (sI S2230 v0 4 x2272) v0 4 := (u2_self _ _ _ _).symm
                        exact hq _ hI g0 f0 hT
                  · refine ⟨o_v0, ?_⟩
                    intro x2273 ex2273
                    have q_x2273 : x2273 = y2244 := ex2273.trans d_y2244.symm
                    have d_x2273 := ex2273
                    intro x2274 ex2274
                    have q_x2274 : x2274 = x1340 := ex2274.trans d_x1340.symm
                    have d_x2274 := ex2274
                    refine ⟨fun c2275 => ?_, fun c2275 => ?_⟩
                    · refine u_X4_next_240 ?_
                      refine ⟨fun c2276 => ?_, fun c2276 => ?_⟩
                      · exact hq _ hI g0 f0 hT
                      · refine ⟨o_v0, ?_⟩
                        intro x2277 ex2277
                        have q_x2277 : x2277 = x2228 := ex2277.trans d_x2228.symm
                        have d_x2277 := ex2277
                        refine ⟨fun c2278 => ?_, fun c2278 => ?_⟩
                        · exact hq _ hI g0 f0 hT
                        · intro x2279 ex2279
                          have q_x2279 : x2279 = x2273 := ex2279.trans d_x2273.symm
                          have d_x2279 := ex2279
                          intro x2280 ex2280
                          have hI := iv_sI (j := 4) (v := x2280) hI o_v0 (by decide) (nu_free (by decide))
                          have f0 : FRI _ _ _ (sI S2230 v0 4 x2280) := fri_sI g0 f0 o_v0 (by decide)
                          have fL3 : FRI _ _ _ (sI S2230 v0 4 x2280) := fri_sI gL2 fL3 o_v0 (by decide)
                          have fL2232 : FRI _ _ _ (sI S2230 v0 4 x2280) := fri_sI gL2231 fL2232 o_v0 (by decide)
                          have d_x2274 : x2274 = fI (sI S2230 v0 4 x2280) v0 7 := d_x2274.trans (rd_j (by decide)).symm
                          have d_x2277 : x2277 = fI (sI S2230 v0 4 x2280) v0 6 := d_x2277.trans (rd_j (by decide)).symm
                          have d_x2280 : x2280 = fI (sI S2230 v0 4 x2280) v0 4 := (u2_self _ _ _ _).symm
                          exact hq _ hI g0 f0 hT
                    · have hI := iv_sI (j := 6) (v := (6 : Int32)) hI o_v0 (by decide) (nu_free (by decide))
                      have f0 : FRI _ _ _ (sI S2230 v0 6 (6 : Int32)) := fri_sI g0 f0 o_v0 (by decide)
                      have fL3 : FRI _ _ _ (sI S2230 v0 6 (6 : Int32)) := fri_sI gL2 fL3 o_v0 (by decide)
                      have fL2232 : FRI _ _ _ (sI S2230 v0 6 (6 : Int32)) := fri_sI gL2231 fL2232 o_v0 (by decide)
                      have d_x2274 : x2274 = fI (sI S2230 v0 6 (6 : Int32)) v0 7 := d_x2274.trans (rd_j (by decide)).symm
                      have d_x2273 : x2273 = fI (sI S2230 v0 6 (6 : Int32)) v0 4 := d_x2273.trans (rd_j (by decide)).symm
                      obtain ⟨y2281, hy2281⟩ : ∃ z : Int32, z = (6 : Int32) := ⟨_, rfl⟩
                      have d_y2281 : y2281 = fI (sI S2230 v0 6 (6 : Int32)) v0 6 := hy2281.trans (u2_self _ _ _ _).symm
                      refine u_X4_next_240 ?_
                      refine ⟨fun c2282 => ?_, fun c2282 => ?_⟩
                      · exact hq _ hI g0 f0 hT
                      · refine ⟨o_v0, ?_⟩
                        intro x2283 ex2283
                        have q_x2283 : x2283 = y2281 := ex2283.trans d_y2281.symm
                        have d_x2283 := ex2283
                        refine ⟨fun c2284 => ?_, fun c2284 => ?_⟩
                        · exact hq _ hI g0 f0 hT
                        · intro x2285 ex2285
                          have q_x2285 : x2285 = x2273 := ex2285.trans d_x2273.symm
                          have d_x2285 := ex2285
                          intro x2286 ex2286
                          have hI := iv_sI (j := 4) (v := x2286) hI o_v0 (by decide) (nu_free (by decide))
                          have f0 : FRI _ _ _ (sI (sI S2230 v0 6 (6 : Int32)) v0 4 x2286) := fri_sI g0 f0 o_v0 (by decide)
                          have fL3 : FRI _ _ _ (sI (sI S2230 v0 6 (6 : Int32)) v0 4 x2286) := fri_sI gL2 fL3 o_v0 (by decide)
                          have fL2232 : FRI _ _ _ (sI (sI S2230 v0 6 (6 : Int32)) v0 4 x2286) := fri_sI gL2231 fL2232 o_v0 (by decide)
                          have d_x2274 : x2274 = fI (sI (sI S2230 v0 6 (6 : Int32)) v0 4 x2286) v0 7 := d_x2274.trans (rd_j (by decide)).symm
                          have d_x2283 : x2283 = fI (sI (sI S2230 v0 6 (6 : Int32)) v0 4 x2286) v0 6 := d_x2283.trans (rd_j (by decide)).symm
                          have d_x2286 : x2286 = fI (sI (sI S2230 v0 6 (6 : Int32)) v0 4 x2286) v0 4 := (u2_self _ _ _ _).symm
                          exact hq _ hI g0 f0 hT
                · refine ⟨o_v0, ?_⟩
                  intro x2287 ex2287
                  have q_x2287 : x2287 = y2244 := ex2287.trans d_y2244.symm
                  have d_x2287 := ex2287
                  refine m_X4_sortAt hI o_v0 hT (fun x2288 S2289 hI2 g2290 p_x2288 => ?_)
                  obtain ⟨z_S2289, p_x2288⟩ := p_x2288
                  subst z_S2289
                  intro _
                  intro x2292 ex2292
                  have q_x2292 : x2292 = x2228 := ex2292.trans d_x2228.symm
                  have d_x2292 := ex2292
                  refine ⟨fun c2293 => ?_, fun c2293 => ?_⟩
                  · refine u_X4_next_217 ?_
                    refine ⟨fun c2294 => ?_, fun c2294 => ?_⟩
                    · refine u_X4_next_240 ?_
                      refine ⟨fun c2295 => ?_, fun c2295 => ?_⟩
                      · exact hq _ hI g0 f0 hT
                      · refine ⟨o_v0, ?_⟩
                        intro x2296 ex2296
                        have q_x2296 : x2296 = x2292 := ex2296.trans d_x2292.symm
                        have d_x2296 := ex2296
                        refine ⟨fun c2297 => ?_, fun c2297 => ?_⟩
                        · exact hq _ hI g0 f0 hT
                        · intro x2298 ex2298
                          have q_x2298 : x2298 = x2287 := ex2298.trans d_x2287.symm
                          have d_x2298 := ex2298
                          intro x2299 ex2299
                          have hI := iv_sI (j := 4) (v := x2299) hI o_v0 (by decide) (nu_free (by decide))
                          have f0 : FRI _ _ _ (sI S2230 v0 4 x2299) := fri_sI g0 f0 o_v0 (by decide)
                          have fL3 : FRI _ _ _ (sI S2230 v0 4 x2299) := fri_sI gL2 fL3 o_v0 (by decide)
                          have fL2232 : FRI _ _ _ (sI S2230 v0 4 x2299) := fri_sI gL2231 fL2232 o_v0 (by decide)
                          have d_x1340 : x1340 = fI (sI S2230 v0 4 x2299) v0 7 := d_x1340.trans (rd_j (by decide)).symm
                          have d_x2296 : x2296 = fI (sI S2230 v0 4 x2299) v0 6 := d_x2296.trans (rd_j (by decide)).symm
                          have d_x2299 : x2299 = fI (sI S2230 v0 4 x2299) v0 4 := (u2_self _ _ _ _).symm
                          exact hq _ hI g0 f0 hT
                    · refine ⟨o_v0, ?_⟩
                      intro x2300 ex2300
                      have q_x2300 : x2300 = x2287 := ex2300.trans d_x2287.symm
                      have d_x2300 := ex2300
                      intro x2301 ex2301
                      have q_x2301 : x2301 = x1340 := ex2301.trans d_x1340.symm
                      have d_x2301 := ex2301
                      refine ⟨fun c2302 => ?_, fun c2302 => ?_⟩
                      · refine u_X4_next_240 ?_
                        refine ⟨fun c2303 => ?_, fun c2303 => ?_⟩
                        · exact hq _ hI g0 f0 hT
                        · refine ⟨o_v0, ?_⟩
                          intro x2304 ex2304
                          have q_x2304 : x2304 = x2292 := ex2304.trans d_x2292.symm
                          have d_x2304 := ex2304
                          refine ⟨fun c2305 => ?_, fun c2305 => ?_⟩
                          · exact hq _ hI g0 f0 hT
                          · intro x2306 ex2306
                            have q_x2306 : x2306 = x2300 := ex2306.trans d_x2300.symm
                            have d_x2306 := ex2306
                            intro x2307 ex2307
                            have hI := iv_sI (j := 4) (v := x2307) hI o_v0 (by decide) (nu_free (by decide))
                            have f0 : FRI _ _ _ (sI S2230 v0 4 x2307) := fri_sI g0 f0 o_v0 (by decide)
                            have fL3 : FRI _ _ _ (sI S2230 v0 4 x2307) := fri_sI gL2 fL3 o_v0 (by decide)
                            have fL2232 : FRI _ _ _ (sI S2230 v0 4 x2307) := fri_sI gL2231 fL2232 o_v0 (by decide)
                            have d_x2301 : x2301 = fI (sI S2230 v0 4 x2307) v0 7 := d_x2301.trans (rd_j (by decide)).symm
                            have d_x2304 : x2304 = fI (sI S2230 v0 4 x2307) v0 6 := d_x2304.trans (rd_j (by decide)).symm
                            have d_x2307 : x2307 = fI (sI S2230 v0 4 x2307) v0 4 := (u2_self _ _ _ _).symm
                            exact hq _ hI g0 f0 hT
                      · have hI := iv_sI (j := 6) (v := (6 : Int32)) hI o_v0 (by decide) (nu_free (by decide))
                        have f0 : FRI _ _ _ (sI S2230 v0 6 (6 : Int32)) := fri_sI g0 f0 o_v0 (by decide)
                        have fL3 : FRI _ _ _ (sI S2230 v0 6 (6 : Int32)) := fri_sI gL2 fL3 o_v0 (by decide)
                        have fL2232 : FRI _ _ _ (sI S2230 v0 6 (6 : Int32)) := fri_sI gL2231 fL2232 o_v0 (by decide)
                        have d_x2301 : x2301 = fI (sI S2230 v0 6 (6 : Int32)) v0 7 := d_x2301.trans (rd_j (by decide)).symm
                        have d_x2300 : x2300 = fI (sI S2230 v0 6 (6 : Int32)) v0 4 := d_x2300.trans (rd_j (by decide)).symm
                        obtain ⟨y2308, hy2308⟩ : ∃ z : Int32, z = (6 : Int32) := ⟨_, rfl⟩
                        have d_y2308 : y2308 = fI (sI S2230 v0 6 (6 : Int32)) v0 6 := hy2308.trans (u2_self _ _ _ _).symm
                        refine u_X4_next_240 ?_
                        refine ⟨fun c2309 => ?_, fun c2309 => ?_⟩
                        · exact hq _ hI g0 f0 hT
                        · refine ⟨o_v0, ?_⟩
                          intro x2310 ex2310
                          have q_x2310 : x2310 = y2308 := ex2310.trans d_y2308.symm
                          have d_x2310 := ex2310
                          refine ⟨fun c2311 => ?_, fun c2311 => ?_⟩
                          · exact hq _ hI g0 f0 hT
                          · intro x2312 ex2312
                            have q_x2312 : x2312 = x2300 := ex2312.trans d_x2300.symm
                            have d_x2312 := ex2312
                            intro x2313 ex2313
                            have hI := iv_sI (j := 4) (v := x2313) hI o_v0 (by decide) (nu_free (by decide))
                            have f0 : FRI _ _ _ (sI (sI S2230 v0 6 (6 : Int32)) v0 4 x2313) := fri_sI g0 f0 o_v0 (by decide)
                            have fL3 : FRI _ _ _ (sI (sI S2230 v0 6 (6 : Int32)) v0 4 x2313) := fri_sI gL2 fL3 o_v0 (by decide)
                            have fL2232 : FRI _ _ _ (sI (sI S2230 v0 6 (6 : Int32)) v0 4 x2313) := fri_sI gL2231 fL2232 o_v0 (by decide)
                            have d_x2301 : x2301 = fI (sI (sI S2230 v0 6 (6 : Int32)) v0 4 x2313) v0 7 := d_x2301.trans (rd_j (by decide)).symm
                            have d_x2310 : x2310 = fI (sI (sI S2230 v0 6 (6 : Int32)) v0 4 x2313) v0 6 := d_x2310.trans (rd_j (by decide)).symm
                            have d_x2313 : x2313 = fI (sI (sI S2230 v0 6 (6 : Int32)) v0 4 x2313) v0 4 := (u2_self _ _ _ _).symm
                            exact hq _ hI g0 f0 hT
                  · refine ⟨fun c2314 => ?_, fun c2314 => ?_⟩
                    · refine u_X4_next_201 ?_
                      refine ⟨o_v0, ?_⟩
                      intro x2315 ex2315
                      have q_x2315 : x2315 = x2287 := ex2315.trans d_x2287.symm
                      have d_x2315 := ex2315
                      intro x2316 ex2316
                      have hI := iv_sI (j := 4) (v := x2316) hI o_v0 (by decide) (nu_free (by decide))
                      have f0 : FRI _ _ _ (sI S2230 v0 4 x2316) := fri_sI g0 f0 o_v0 (by decide)
                      have fL3 : FRI _ _ _ (sI S2230 v0 4 x2316) := fri_sI gL2 fL3 o_v0 (by decide)
                      have fL2232 : FRI _ _ _ (sI S2230 v0 4 x2316) := fri_sI gL2231 fL2232 o_v0 (by decide)
                      have d_x1340 : x1340 = fI (sI S2230 v0 4 x2316) v0 7 := d_x1340.trans (rd_j (by decide)).symm
                      have d_x2292 : x2292 = fI (sI S2230 v0 4 x2316) v0 6 := d_x2292.trans (rd_j (by decide)).symm
                      have d_x2316 : x2316 = fI (sI S2230 v0 4 x2316) v0 4 := (u2_self _ _ _ _).symm
                      intro x2317 ex2317
                      exact ih2243 _ _ _ _ _ _ ⟨hI, gL2231, fL2232, rfl, rfl, rfl, rfl, hT, (q611 i1 c9 p_x1335 c1339 q_x1340 q_x1341 p_x1342 q_x1346 c1347 q_x1786 c1787 q_x2226 c2227 q_x2228 c2229 i1 p_k1 c2266 q_x2287 p_x2288 q_x2292 c2293 c2314 q_x2315 ex2316 ex2317), (by rw [← d_x2292, ← d_x2316]; exact (q612 i1 c9 p_x1335 c1339 q_x1340 q_x1341 p_x1342 q_x1346 c1347 q_x1786 c1787 q_x2226 c2227 q_x2228 c2229 i1 p_k1 c2266 q_x2287 p_x2288 q_x2292 c2293 c2314 q_x2315 ex2316 ex2317))⟩ (mu_up (q613 i1 c9 p_x1335 c1339 q_x1340 q_x1341 p_x1342 q_x1346 c1347 q_x1786 c1787 q_x2226 c2227 q_x2228 c2229 i1 p_k1 c2266 q_x2287 p_x2288 q_x2292 c2293 c2314 q_x2315 ex2316 ex2317) (q614 i1 c9 p_x1335 c1339 q_x1340 q_x1341 p_x1342 q_x1346 c1347 q_x1786 c1787 q_x2226 c2227 q_x2228 c2229 i1 p_k1 c2266 q_x2287 p_x2288 q_x2292 c2293 c2314 q_x2315 ex2316 ex2317))
                    · intro x2318 ex2318
                      have q_x2318 : x2318 = x2287 := ex2318.trans d_x2287.symm
                      have d_x2318 := ex2318
                      obtain ⟨a2319, ea2319, o_a2319, l_a2319⟩ := hT
                      refine ⟨a2319, ea2319, ?_⟩
                      refine ⟨o_a2319, ?_⟩
                      have n_a2319 : nI (hN S2230 a2319) = 900 := by rw [show hN S2230 a2319 = 900 from l_a2319]; decide
                      refine ⟨fun c2320 => ?_, fun c2320 => ?_⟩
                      · rw [n_a2319] at c2320
                        refine u_X4_next_201 ?_
                        refine ⟨o_v0, ?_⟩
                        intro x2321 ex2321
                        have q_x2321 : x2321 = x2318 := ex2321.trans d_x2318.symm
                        have d_x2321 := ex2321
                        intro x2322 ex2322
                        have hI := iv_sI (j := 4) (v := x2322) hI o_v0 (by decide) (nu_free (by decide))
                        have f0 : FRI _ _ _ (sI S2230 v0 4 x2322) := fri_sI g0 f0 o_v0 (by decide)
                        have fL3 : FRI _ _ _ (sI S2230 v0 4 x2322) := fri_sI gL2 fL3 o_v0 (by decide)
                        have fL2232 : FRI _ _ _ (sI S2230 v0 4 x2322) := fri_sI gL2231 fL2232 o_v0 (by decide)
                        have d_x1340 : x1340 = fI (sI S2230 v0 4 x2322) v0 7 := d_x1340.trans (rd_j (by decide)).symm
                        have d_x2292 : x2292 = fI (sI S2230 v0 4 x2322) v0 6 := d_x2292.trans (rd_j (by decide)).symm
                        have d_x2322 : x2322 = fI (sI S2230 v0 4 x2322) v0 4 := (u2_self _ _ _ _).symm
                        intro x2323 ex2323
                        exact ih2243 _ _ _ _ _ _ ⟨hI, gL2231, fL2232, rfl, rfl, rfl, rfl, hT, (q615 i1 c9 p_x1335 c1339 q_x1340 q_x1341 p_x1342 q_x1346 c1347 q_x1786 c1787 q_x2226 c2227 q_x2228 c2229 i1 p_k1 c2266 q_x2287 p_x2288 q_x2292 c2293 c2314 q_x2318 c2320 q_x2321 ex2322 ex2323), (by rw [← d_x2292, ← d_x2322]; exact (q616 i1 c9 p_x1335 c1339 q_x1340 q_x1341 p_x1342 q_x1346 c1347 q_x1786 c1787 q_x2226 c2227 q_x2228 c2229 i1 p_k1 c2266 q_x2287 p_x2288 q_x2292 c2293 c2314 q_x2318 c2320 q_x2321 ex2322 ex2323))⟩ (mu_up (q617 i1 c9 p_x1335 c1339 q_x1340 q_x1341 p_x1342 q_x1346 c1347 q_x1786 c1787 q_x2226 c2227 q_x2228 c2229 i1 p_k1 c2266 q_x2287 p_x2288 q_x2292 c2293 c2314 q_x2318 c2320 q_x2321 ex2322 ex2323) (q618 i1 c9 p_x1335 c1339 q_x1340 q_x1341 p_x1342 q_x1346 c1347 q_x1786 c1787 q_x2226 c2227 q_x2228 c2229 i1 p_k1 c2266 q_x2287 p_x2288 q_x2292 c2293 c2314 q_x2318 c2320 q_x2321 ex2322 ex2323))
                      · rw [n_a2319] at c2320
                        intro x2324 ex2324
                        have dj_x2324 := ex2324
                        refine ⟨a2319, ea2319, ?_⟩
                        intro x2326 ex2326
                        have q_x2326 : x2326 = x2318 := ex2326.trans d_x2318.symm
                        have d_x2326 := ex2326
                        refine ⟨o_a2319, ?_⟩
                        refine ⟨(vin l_a2319 (m := 900) (by decide) (q619 i1 c9 p_x1335 c1339 q_x1340 q_x1341 p_x1342 q_x1346 c1347 q_x1786 c1787 q_x2226 c2227 q_x2228 c2229 i1 p_k1 c2266 q_x2287 p_x2288 q_x2292 c2293 c2314 q_x2318 c2320 q_x2326)), ?_⟩
                        intro x2327 ex2327
                        intro x2328 ex2328
                        have q_x2328 : x2328 = x2292 := ex2328.trans d_x2292.symm
                        have d_x2328 := ex2328
                        refine ⟨fun c2329 => ?_, fun c2329 => ?_⟩
                        · refine u_X4_next_195 ?_
                          refine ⟨o_v0, ?_⟩
                          intro x2330 ex2330
                          have hI := iv_sJ (j := 8) (v := x2330) hI o_v0 (by decide)
                          refine u_X4_next_201 ?_
                          refine ⟨o_v0, ?_⟩
                          intro x2331 ex2331
                          have q_x2331 : x2331 = x2326 := ex2331.trans d_x2326.symm
                          have d_x2331 := ex2331
                          intro x2332 ex2332
                          have hI := iv_sI (j := 4) (v := x2332) hI o_v0 (by decide) (nu_free (by decide))
                          have f0 : FRI _ _ _ (sI (sJ S2230 v0 8 x2330) v0 4 x2332) := fri_sI g0 f0 o_v0 (by decide)
                          have fL3 : FRI _ _ _ (sI (sJ S2230 v0 8 x2330) v0 4 x2332) := fri_sI gL2 fL3 o_v0 (by decide)
                          have fL2232 : FRI _ _ _ (sI (sJ S2230 v0 8 x2330) v0 4 x2332) := fri_sI gL2231 fL2232 o_v0 (by decide)
                          have d_x1340 : x1340 = fI (sI (sJ S2230 v0 8 x2330) v0 4 x2332) v0 7 := d_x1340.trans (rd_j (by decide)).symm
                          have d_x2328 : x2328 = fI (sI (sJ S2230 v0 8 x2330) v0 4 x2332) v0 6 := d_x2328.trans (rd_j (by decide)).symm
                          have d_x2332 : x2332 = fI (sI (sJ S2230 v0 8 x2330) v0 4 x2332) v0 4 := (u2_self _ _ _ _).symm
                          intro x2333 ex2333
                          exact ih2243 _ _ _ _ _ _ ⟨hI, gL2231, fL2232, rfl, rfl, rfl, rfl, hT, (q620 i1 c9 p_x1335 c1339 q_x1340 q_x1341 p_x1342 q_x1346 c1347 q_x1786 c1787 q_x2226 c2227 q_x2228 c2229 i1 p_k1 c2266 q_x2287 p_x2288 q_x2292 c2293 c2314 q_x2318 c2320 q_x2326 q_x2328 c2329 q_x2331 ex2332 ex2333), (by rw [← d_x2328, ← d_x2332]; exact (q621 i1 c9 p_x1335 c1339 q_x1340 q_x1341 p_x1342 q_x1346 c1347 q_x1786 c1787 q_x2226 c2227 q_x2228 c2229 i1 p_k1 c2266 q_x2287 p_x2288 q_x2292 c2293 c2314 q_x2318 c2320 q_x2326 q_x2328 c2329 q_x2331 ex2332 ex2333))⟩ (mu_up (q622 i1 c9 p_x1335 c1339 q_x1340 q_x1341 p_x1342 q_x1346 c1347 q_x1786 c1787 q_x2226 c2227 q_x2228 c2229 i1 p_k1 c2266 q_x2287 p_x2288 q_x2292 c2293 c2314 q_x2318 c2320 q_x2326 q_x2328 c2329 q_x2331 ex2332 ex2333) (q623 i1 c9 p_x1335 c1339 q_x1340 q_x1341 p_x1342 q_x1346 c1347 q_x1786 c1787 q_x2226 c2227 q_x2228 c2229 i1 p_k1 c2266 q_x2287 p_x2288 q_x2292 c2293 c2314 q_x2318 c2320 q_x2326 q_x2328 c2329 q_x2331 ex2332 ex2333))
                        · refine u_X4_next_195 ?_
                          refine ⟨o_v0, ?_⟩
                          intro x2334 ex2334
                          have hI := iv_sJ (j := 8) (v := x2334) hI o_v0 (by decide)
                          refine u_X4_next_201 ?_
                          refine ⟨o_v0, ?_⟩
                          intro x2335 ex2335
                          have q_x2335 : x2335 = x2326 := ex2335.trans d_x2326.symm
                          have d_x2335 := ex2335
                          intro x2336 ex2336
                          have hI := iv_sI (j := 4) (v := x2336) hI o_v0 (by decide) (nu_free (by decide))
                          have f0 : FRI _ _ _ (sI (sJ S2230 v0 8 x2334) v0 4 x2336) := fri_sI g0 f0 o_v0 (by decide)
                          have fL3 : FRI _ _ _ (sI (sJ S2230 v0 8 x2334) v0 4 x2336) := fri_sI gL2 fL3 o_v0 (by decide)
                          have fL2232 : FRI _ _ _ (sI (sJ S2230 v0 8 x2334) v0 4 x2336) := fri_sI gL2231 fL2232 o_v0 (by decide)
                          have d_x1340 : x1340 = fI (sI (sJ S2230 v0 8 x2334) v0 4 x2336) v0 7 := d_x1340.trans (rd_j (by decide)).symm
                          have d_x2328 : x2328 = fI (sI (sJ S2230 v0 8 x2334) v0 4 x2336) v0 6 := d_x2328.trans (rd_j (by decide)).symm
                          have d_x2336 : x2336 = fI (sI (sJ S2230 v0 8 x2334) v0 4 x2336) v0 4 := (u2_self _ _ _ _).symm
                          intro x2337 ex2337
                          exact ih2243 _ _ _ _ _ _ ⟨hI, gL2231, fL2232, rfl, rfl, rfl, rfl, hT, (q624 i1 c9 p_x1335 c1339 q_x1340 q_x1341 p_x1342 q_x1346 c1347 q_x1786 c1787 q_x2226 c2227 q_x2228 c2229 i1 p_k1 c2266 q_x2287 p_x2288 q_x2292 c2293 c2314 q_x2318 c2320 q_x2326 q_x2328 c2329 q_x2335 ex2336 ex2337), (by rw [← d_x2328, ← d_x2336]; exact (q625 i1 c9 p_x1335 c1339 q_x1340 q_x1341 p_x1342 q_x1346 c1347 q_x1786 c1787 q_x2226 c2227 q_x2228 c2229 i1 p_k1 c2266 q_x2287 p_x2288 q_x2292 c2293 c2314 q_x2318 c2320 q_x2326 q_x2328 c2329 q_x2335 ex2336 ex2337))⟩ (mu_up (q626 i1 c9 p_x1335 c1339 q_x1340 q_x1341 p_x1342 q_x1346 c1347 q_x1786 c1787 q_x2226 c2227 q_x2228 c2229 i1 p_k1 c2266 q_x2287 p_x2288 q_x2292 c2293 c2314 q_x2318 c2320 q_x2326 q_x2328 c2329 q_x2335 ex2336 ex2337) (q627 i1 c9 p_x1335 c1339 q_x1340 q_x1341 p_x1342 q_x1346 c1347 q_x1786 c1787 q_x2226 c2227 q_x2228 c2229 i1 p_k1 c2266 q_x2287 p_x2288 q_x2292 c2293 c2314 q_x2318 c2320 q_x2326 q_x2328 c2329 q_x2335 ex2336 ex2337))
            · refine u_X4_next_114 ?_
              refine i_X4_next_118 (fun (y0 : Nat) (y1 : Int32) (y2 : Int32) (y3 : Int32) (y4 : Int32) (Z : HS) => ((2147483647 : Int32).toInt - y4.toInt).toNat) (fun (y0 : Nat) (y1 : Int32) (y2 : Int32) (y3 : Int32) (y4 : Int32) (Z : HS) => (IV Z) ∧ (Gr (sJ (sI (sI S1 v0 7 x1340) v0 6 x1342) v0 8 (0 : Int64)) Z) ∧ (FRI [(4, 4)] [] (sJ (sI (sI S1 v0 7 x1340) v0 6 x1342) v0 8 (0 : Int64)) Z) ∧ (v0 = y0) ∧ ((1 : Int32) = y1) ∧ ((3 : Int32) = y2) ∧ ((32 : Int32) = y3) ∧ (TX Z v0) ∧ (0 ≤ y4) ∧ ((y1 = 0 ∨ fI Z v0 6 = 1 ∨ fI Z v0 6 = 2) ∧ (y1 = 0 → fI Z v0 6 = 0 ∨ (0 ≤ fI Z v0 4 ∧ fI Z v0 4 < 900)))) ?_ _ _ _ _ _ _ ⟨hI, (gr_rf _), (fri_rf _ _ _), rfl, rfl, rfl, rfl, hT, (q628 i1 c9 p_x1335 c1339 q_x1340 q_x1341 p_x1342 q_x1346 c1347 q_x1786 c1787 q_x2226 c2227 q_x2228 c2229), (by rw [← d_x2228, ← d_x1341]; exact (q629 i1 c9 p_x1335 c1339 q_x1340 q_x1341 p_x1342 q_x1346 c1347 q_x1786 c1787 q_x2226 c2227 q_x2228 c2229))⟩
              intro w2341 w2343 w2345 w2347 w2349 S2338 X2350 ⟨hI, gL2339, fL2340, q2342, q2344, q2346, q2348, hT, i1, k1⟩ ih2351
              subst q2342
              subst q2344
              subst q2346
              subst q2348
              have d_x1340 := d_x1340.trans (fri_at fL2340 (by decide) (by decide) o_v0).symm
              have d_x2228 := d_x2228.trans (fri_at fL2340 (by decide) (by decide) o_v0).symm
              have f0 := fri_tr g0 f0 fL2340 (by decide) (by decide)
              have fL3 := fri_tr gL2 fL3 fL2340 (by decide) (by decide)
              have o_v0 := gr_ob gL2339 o_v0
              have g0 := gr_tr g0 gL2339
              have gL2 := gr_tr gL2 gL2339
              obtain ⟨y2352, d_y2352⟩ : ∃ z : Int32, z = fI S2338 v0 4 := ⟨_, rfl⟩
              have p_k1 : ((1 : Int32) = 0 ∨ x2228 = 1 ∨ x2228 = 2) ∧ ((1 : Int32) = 0 → x2228 = 0 ∨ (0 ≤ y2352 ∧ y2352 < 900)) := by rw [d_x2228, d_y2352]; exact k1
              refine u_X4_next_118 ?_
              refine ⟨fun c2353 => ?_, fun c2353 => ?_⟩
              · refine u_X4_next_217 ?_
                refine ⟨fun c2354 => ?_, fun c2354 => ?_⟩
                · refine u_X4_next_240 ?_
                  refine ⟨fun c2355 => ?_, fun c2355 => ?_⟩
                  · exact hq _ hI g0 f0 hT
                  · refine ⟨o_v0, ?_⟩
                    intro x2356 ex2356
                    have q_x2356 : x2356 = x2228 := ex2356.trans d_x2228.symm
                    have d_x2356 := ex2356
                    refine ⟨fun c2357 => ?_, fun c2357 => ?_⟩
                    · exact hq _ hI g0 f0 hT
                    · intro x2358 ex2358
                      have q_x2358 : x2358 = y2352 := ex2358.trans d_y2352.symm
                      have d_x2358 := ex2358
                      intro x2359 ex2359
                      have hI := iv_sI (j := 4) (v := x2359) hI o_v0 (by decide) (nu_free (by decide))
                      have f0 : FRI _ _ _ (sI S2338 v0 4 x2359) := fri_sI g0 f0 o_v0 (by decide)
                      have fL3 : FRI _ _ _ (sI S2338 v0 4 x2359) := fri_sI gL2 fL3 o_v0 (by decide)
                      have fL2340 : FRI _ _ _ (sI S2338 v0 4 x2359) := fri_sI gL2339 fL2340 o_v0 (by decide)
                      have d_x1340 : x1340 = fI (sI S2338 v0 4 x2359) v0 7 := d_x1340.trans (rd_j (by decide)).symm
                      have d_x2356 : x2356 = fI (sI S2338 v0 4 x2359) v0 6 := d_x2356.trans (rd_j (by decide)).symm
                      have d_x2359 : x2359 = fI (sI S2338 v0 4 x2359) v0 4 := (u2_self _ _ _ _).symm
                      exact hq _ hI g0 f0 hT
                · refine ⟨o_v0, ?_⟩
                  intro x2360 ex2360
                  have q_x2360 : x2360 = y2352 := ex2360.trans d_y2352.symm
                  have d_x2360 := ex2360
                  intro x2361 ex2361
                  have q_x2361 : x2361 = x1340 := ex2361.trans d_x1340.symm
                  have d_x2361 := ex2361
                  refine ⟨fun c2362 => ?_, fun c2362 => ?_⟩
                  · refine u_X4_next_240 ?_
                    refine ⟨fun c2363 => ?_, fun c2363 => ?_⟩
                    · exact hq _ hI g0 f0 hT
                    · refine ⟨o_v0, ?_⟩
                      intro x2364 ex2364
                      have q_x2364 : x2364 = x2228 := ex2364.trans d_x2228.symm
                      have d_x2364 := ex2364
                      refine ⟨fun c2365 => ?_, fun c2365 => ?_⟩
                      · exact hq _ hI g0 f0 hT
                      · intro x2366 ex2366
                        have q_x2366 : x2366 = x2360 := ex2366.trans d_x2360.symm
                        have d_x2366 := ex2366
                        intro x2367 ex2367
                        have hI := iv_sI (j := 4) (v := x2367) hI o_v0 (by decide) (nu_free (by decide))
                        have f0 : FRI _ _ _ (sI S2338 v0 4 x2367) := fri_sI g0 f0 o_v0 (by decide)
                        have fL3 : FRI _ _ _ (sI S2338 v0 4 x2367) := fri_sI gL2 fL3 o_v0 (by decide)
                        have fL2340 : FRI _ _ _ (sI S2338 v0 4 x2367) := fri_sI gL2339 fL2340 o_v0 (by decide)
                        have d_x2361 : x2361 = fI (sI S2338 v0 4 x2367) v0 7 := d_x2361.trans (rd_j (by decide)).symm
                        have d_x2364 : x2364 = fI (sI S2338 v0 4 x2367) v0 6 := d_x2364.trans (rd_j (by decide)).symm
                        have d_x2367 : x2367 = fI (sI S2338 v0 4 x2367) v0 4 := (u2_self _ _ _ _).symm
                        exact hq _ hI g0 f0 hT
                  · have hI := iv_sI (j := 6) (v := (6 : Int32)) hI o_v0 (by decide) (nu_free (by decide))
                    have f0 : FRI _ _ _ (sI S2338 v0 6 (6 : Int32)) := fri_sI g0 f0 o_v0 (by decide)
                    have fL3 : FRI _ _ _ (sI S2338 v0 6 (6 : Int32)) := fri_sI gL2 fL3 o_v0 (by decide)
                    have fL2340 : FRI _ _ _ (sI S2338 v0 6 (6 : Int32)) := fri_sI gL2339 fL2340 o_v0 (by decide)
                    have d_x2361 : x2361 = fI (sI S2338 v0 6 (6 : Int32)) v0 7 := d_x2361.trans (rd_j (by decide)).symm
                    have d_x2360 : x2360 = fI (sI S2338 v0 6 (6 : Int32)) v0 4 := d_x2360.trans (rd_j (by decide)).symm
                    obtain ⟨y2368, hy2368⟩ : ∃ z : Int32, z = (6 : Int32) := ⟨_, rfl⟩
                    have d_y2368 : y2368 = fI (sI S2338 v0 6 (6 : Int32)) v0 6 := hy2368.trans (u2_self _ _ _ _).symm
                    refine u_X4_next_240 ?_
                    refine ⟨fun c2369 => ?_, fun c2369 => ?_⟩
                    · exact hq _ hI g0 f0 hT
                    · refine ⟨o_v0, ?_⟩
                      intro x2370 ex2370
                      have q_x2370 : x2370 = y2368 := ex2370.trans d_y2368.symm
                      have d_x2370 := ex2370
                      refine ⟨fun c2371 => ?_, fun c2371 => ?_⟩
                      · exact hq _ hI g0 f0 hT
                      · intro x2372 ex2372
                        have q_x2372 : x2372 = x2360 := ex2372.trans d_x2360.symm
                        have d_x2372 := ex2372
                        intro x2373 ex2373
                        have hI := iv_sI (j := 4) (v := x2373) hI o_v0 (by decide) (nu_free (by decide))
                        have f0 : FRI _ _ _ (sI (sI S2338 v0 6 (6 : Int32)) v0 4 x2373) := fri_sI g0 f0 o_v0 (by decide)
                        have fL3 : FRI _ _ _ (sI (sI S2338 v0 6 (6 : Int32)) v0 4 x2373) := fri_sI gL2 fL3 o_v0 (by decide)
                        have fL2340 : FRI _ _ _ (sI (sI S2338 v0 6 (6 : Int32)) v0 4 x2373) := fri_sI gL2339 fL2340 o_v0 (by decide)
                        have d_x2361 : x2361 = fI (sI (sI S2338 v0 6 (6 : Int32)) v0 4 x2373) v0 7 := d_x2361.trans (rd_j (by decide)).symm
                        have d_x2370 : x2370 = fI (sI (sI S2338 v0 6 (6 : Int32)) v0 4 x2373) v0 6 := d_x2370.trans (rd_j (by decide)).symm
                        have d_x2373 : x2373 = fI (sI (sI S2338 v0 6 (6 : Int32)) v0 4 x2373) v0 4 := (u2_self _ _ _ _).symm
                        exact hq _ hI g0 f0 hT
              · refine ⟨fun c2374 => ?_, fun c2374 => ?_⟩
                · refine u_X4_next_217 ?_
                  refine ⟨fun c2375 => ?_, fun c2375 => ?_⟩
                  · refine u_X4_next_240 ?_
                    refine ⟨fun c2376 => ?_, fun c2376 => ?_⟩
                    · exact hq _ hI g0 f0 hT
                    · refine ⟨o_v0, ?_⟩
                      intro x2377 ex2377
                      have q_x2377 : x2377 = x2228 := ex2377.trans d_x2228.symm
                      have d_x2377 := ex2377
                      refine ⟨fun c2378 => ?_, fun c2378 => ?_⟩
                      · exact hq _ hI g0 f0 hT
                      · intro x2379 ex2379
                        have q_x2379 : x2379 = y2352 := ex2379.trans d_y2352.symm
                        have d_x2379 := ex2379
                        intro x2380 ex2380
                        have hI := iv_sI (j := 4) (v := x2380) hI o_v0 (by decide) (nu_free (by decide))
                        have f0 : FRI _ _ _ (sI S2338 v0 4 x2380) := fri_sI g0 f0 o_v0 (by decide)
                        have fL3 : FRI _ _ _ (sI S2338 v0 4 x2380) := fri_sI gL2 fL3 o_v0 (by decide)
                        have fL2340 : FRI _ _ _ (sI S2338 v0 4 x2380) := fri_sI gL2339 fL2340 o_v0 (by decide)
                        have d_x1340 : x1340 = fI (sI S2338 v0 4 x2380) v0 7 := d_x1340.trans (rd_j (by decide)).symm
                        have d_x2377 : x2377 = fI (sI S2338 v0 4 x2380) v0 6 := d_x2377.trans (rd_j (by decide)).symm
                        have d_x2380 : x2380 = fI (sI S2338 v0 4 x2380) v0 4 := (u2_self _ _ _ _).symm
                        exact hq _ hI g0 f0 hT
                  · refine ⟨o_v0, ?_⟩
                    intro x2381 ex2381
                    have q_x2381 : x2381 = y2352 := ex2381.trans d_y2352.symm
                    have d_x2381 := ex2381
                    intro x2382 ex2382
                    have q_x2382 : x2382 = x1340 := ex2382.trans d_x1340.symm
                    have d_x2382 := ex2382
                    refine ⟨fun c2383 => ?_, fun c2383 => ?_⟩
                    · refine u_X4_next_240 ?_
                      refine ⟨fun c2384 => ?_, fun c2384 => ?_⟩
                      · exact hq _ hI g0 f0 hT
                      · refine ⟨o_v0, ?_⟩
                        intro x2385 ex2385
                        have q_x2385 : x2385 = x2228 := ex2385.trans d_x2228.symm
                        have d_x2385 := ex2385
                        refine ⟨fun c2386 => ?_, fun c2386 => ?_⟩
                        · exact hq _ hI g0 f0 hT
                        · intro x2387 ex2387
                          have q_x2387 : x2387 = x2381 := ex2387.trans d_x2381.symm
                          have d_x2387 := ex2387
                          intro x2388 ex2388
                          have hI := iv_sI (j := 4) (v := x2388) hI o_v0 (by decide) (nu_free (by decide))
                          have f0 : FRI _ _ _ (sI S2338 v0 4 x2388) := fri_sI g0 f0 o_v0 (by decide)
                          have fL3 : FRI _ _ _ (sI S2338 v0 4 x2388) := fri_sI gL2 fL3 o_v0 (by decide)
                          have fL2340 : FRI _ _ _ (sI S2338 v0 4 x2388) := fri_sI gL2339 fL2340 o_v0 (by decide)
                          have d_x2382 : x2382 = fI (sI S2338 v0 4 x2388) v0 7 := d_x2382.trans (rd_j (by decide)).symm
                          have d_x2385 : x2385 = fI (sI S2338 v0 4 x2388) v0 6 := d_x2385.trans (rd_j (by decide)).symm
                          have d_x2388 : x2388 = fI (sI S2338 v0 4 x2388) v0 4 := (u2_self _ _ _ _).symm
                          exact hq _ hI g0 f0 hT
                    · have hI := iv_sI (j := 6) (v := (6 : Int32)) hI o_v0 (by decide) (nu_free (by decide))
                      have f0 : FRI _ _ _ (sI S2338 v0 6 (6 : Int32)) := fri_sI g0 f0 o_v0 (by decide)
                      have fL3 : FRI _ _ _ (sI S2338 v0 6 (6 : Int32)) := fri_sI gL2 fL3 o_v0 (by decide)
                      have fL2340 : FRI _ _ _ (sI S2338 v0 6 (6 : Int32)) := fri_sI gL2339 fL2340 o_v0 (by decide)
                      have d_x2382 : x2382 = fI (sI S2338 v0 6 (6 : Int32)) v0 7 := d_x2382.trans (rd_j (by decide)).symm
                      have d_x2381 : x2381 = fI (sI S2338 v0 6 (6 : Int32)) v0 4 := d_x2381.trans (rd_j (by decide)).symm
                      obtain ⟨y2389, hy2389⟩ : ∃ z : Int32, z = (6 : Int32) := ⟨_, rfl⟩
                      have d_y2389 : y2389 = fI (sI S2338 v0 6 (6 : Int32)) v0 6 := hy2389.trans (u2_self _ _ _ _).symm
                      refine u_X4_next_240 ?_
                      refine ⟨fun c2390 => ?_, fun c2390 => ?_⟩
                      · exact hq _ hI g0 f0 hT
                      · refine ⟨o_v0, ?_⟩
                        intro x2391 ex2391
                        have q_x2391 : x2391 = y2389 := ex2391.trans d_y2389.symm
                        have d_x2391 := ex2391
                        refine ⟨fun c2392 => ?_, fun c2392 => ?_⟩
                        · exact hq _ hI g0 f0 hT
                        · intro x2393 ex2393
                          have q_x2393 : x2393 = x2381 := ex2393.trans d_x2381.symm
                          have d_x2393 := ex2393
                          intro x2394 ex2394
                          have hI := iv_sI (j := 4) (v := x2394) hI o_v0 (by decide) (nu_free (by decide))
                          have f0 : FRI _ _ _ (sI (sI S2338 v0 6 (6 : Int32)) v0 4 x2394) := fri_sI g0 f0 o_v0 (by decide)
                          have fL3 : FRI _ _ _ (sI (sI S2338 v0 6 (6 : Int32)) v0 4 x2394) := fri_sI gL2 fL3 o_v0 (by decide)
                          have fL2340 : FRI _ _ _ (sI (sI S2338 v0 6 (6 : Int32)) v0 4 x2394) := fri_sI gL2339 fL2340 o_v0 (by decide)
                          have d_x2382 : x2382 = fI (sI (sI S2338 v0 6 (6 : Int32)) v0 4 x2394) v0 7 := d_x2382.trans (rd_j (by decide)).symm
                          have d_x2391 : x2391 = fI (sI (sI S2338 v0 6 (6 : Int32)) v0 4 x2394) v0 6 := d_x2391.trans (rd_j (by decide)).symm
                          have d_x2394 : x2394 = fI (sI (sI S2338 v0 6 (6 : Int32)) v0 4 x2394) v0 4 := (u2_self _ _ _ _).symm
                          exact hq _ hI g0 f0 hT
                · refine ⟨o_v0, ?_⟩
                  intro x2395 ex2395
                  have q_x2395 : x2395 = y2352 := ex2395.trans d_y2352.symm
                  have d_x2395 := ex2395
                  refine m_X4_sortAt hI o_v0 hT (fun x2396 S2397 hI2 g2398 p_x2396 => ?_)
                  obtain ⟨z_S2397, p_x2396⟩ := p_x2396
                  subst z_S2397
                  intro _
                  intro x2400 ex2400
                  have q_x2400 : x2400 = x2228 := ex2400.trans d_x2228.symm
                  have d_x2400 := ex2400
                  refine ⟨fun c2401 => ?_, fun c2401 => ?_⟩
                  · refine u_X4_next_217 ?_
                    refine ⟨fun c2402 => ?_, fun c2402 => ?_⟩
                    · refine u_X4_next_240 ?_
                      refine ⟨fun c2403 => ?_, fun c2403 => ?_⟩
                      · exact hq _ hI g0 f0 hT
                      · refine ⟨o_v0, ?_⟩
                        intro x2404 ex2404
                        have q_x2404 : x2404 = x2400 := ex2404.trans d_x2400.symm
                        have d_x2404 := ex2404
                        refine ⟨fun c2405 => ?_, fun c2405 => ?_⟩
                        · exact hq _ hI g0 f0 hT
                        · intro x2406 ex2406
                          have q_x2406 : x2406 = x2395 := ex2406.trans d_x2395.symm
                          have d_x2406 := ex2406
                          intro x2407 ex2407
                          have hI := iv_sI (j := 4) (v := x2407) hI o_v0 (by decide) (nu_free (by decide))
                          have f0 : FRI _ _ _ (sI S2338 v0 4 x2407) := fri_sI g0 f0 o_v0 (by decide)
                          have fL3 : FRI _ _ _ (sI S2338 v0 4 x2407) := fri_sI gL2 fL3 o_v0 (by decide)
                          have fL2340 : FRI _ _ _ (sI S2338 v0 4 x2407) := fri_sI gL2339 fL2340 o_v0 (by decide)
                          have d_x1340 : x1340 = fI (sI S2338 v0 4 x2407) v0 7 := d_x1340.trans (rd_j (by decide)).symm
                          have d_x2404 : x2404 = fI (sI S2338 v0 4 x2407) v0 6 := d_x2404.trans (rd_j (by decide)).symm
                          have d_x2407 : x2407 = fI (sI S2338 v0 4 x2407) v0 4 := (u2_self _ _ _ _).symm
                          exact hq _ hI g0 f0 hT
                    · refine ⟨o_v0, ?_⟩
                      intro x2408 ex2408
                      have q_x2408 : x2408 = x2395 := ex2408.trans d_x2395.symm
                      have d_x2408 := ex2408
                      intro x2409 ex2409
                      have q_x2409 : x2409 = x1340 := ex2409.trans d_x1340.symm
                      have d_x2409 := ex2409
                      refine ⟨fun c2410 => ?_, fun c2410 => ?_⟩
                      · refine u_X4_next_240 ?_
                        refine ⟨fun c2411 => ?_, fun c2411 => ?_⟩
                        · exact hq _ hI g0 f0 hT
                        · refine ⟨o_v0, ?_⟩
                          intro x2412 ex2412
                          have q_x2412 : x2412 = x2400 := ex2412.trans d_x2400.symm
                          have d_x2412 := ex2412
                          refine ⟨fun c2413 => ?_, fun c2413 => ?_⟩
                          · exact hq _ hI g0 f0 hT
                          · intro x2414 ex2414
                            have q_x2414 : x2414 = x2408 := ex2414.trans d_x2408.symm
                            have d_x2414 := ex2414
                            intro x2415 ex2415
                            have hI := iv_sI (j := 4) (v := x2415) hI o_v0 (by decide) (nu_free (by decide))
                            have f0 : FRI _ _ _ (sI S2338 v0 4 x2415) := fri_sI g0 f0 o_v0 (by decide)
                            have fL3 : FRI _ _ _ (sI S2338 v0 4 x2415) := fri_sI gL2 fL3 o_v0 (by decide)
                            have fL2340 : FRI _ _ _ (sI S2338 v0 4 x2415) := fri_sI gL2339 fL2340 o_v0 (by decide)
                            have d_x2409 : x2409 = fI (sI S2338 v0 4 x2415) v0 7 := d_x2409.trans (rd_j (by decide)).symm
                            have d_x2412 : x2412 = fI (sI S2338 v0 4 x2415) v0 6 := d_x2412.trans (rd_j (by decide)).symm
                            have d_x2415 : x2415 = fI (sI S2338 v0 4 x2415) v0 4 := (u2_self _ _ _ _).symm
                            exact hq _ hI g0 f0 hT
                      · have hI := iv_sI (j := 6) (v := (6 : Int32)) hI o_v0 (by decide) (nu_free (by decide))
                        have f0 : FRI _ _ _ (sI S2338 v0 6 (6 : Int32)) := fri_sI g0 f0 o_v0 (by decide)
                        have fL3 : FRI _ _ _ (sI S2338 v0 6 (6 : Int32)) := fri_sI gL2 fL3 o_v0 (by decide)
                        have fL2340 : FRI _ _ _ (sI S2338 v0 6 (6 : Int32)) := fri_sI gL2339 fL2340 o_v0 (by decide)
                        have d_x2409 : x2409 = fI (sI S2338 v0 6 (6 : Int32)) v0 7 := d_x2409.trans (rd_j (by decide)).symm
                        have d_x2408 : x2408 = fI (sI S2338 v0 6 (6 : Int32)) v0 4 := d_x2408.trans (rd_j (by decide)).symm
                        obtain ⟨y2416, hy2416⟩ : ∃ z : Int32, z = (6 : Int32) := ⟨_, rfl⟩
                        have d_y2416 : y2416 = fI (sI S2338 v0 6 (6 : Int32)) v0 6 := hy2416.trans (u2_self _ _ _ _).symm
                        refine u_X4_next_240 ?_
                        refine ⟨fun c2417 => ?_, fun c2417 => ?_⟩
                        · exact hq _ hI g0 f0 hT
                        · refine ⟨o_v0, ?_⟩
                          intro x2418 ex2418
                          have q_x2418 : x2418 = y2416 := ex2418.trans d_y2416.symm
                          have d_x2418 := ex2418
                          refine ⟨fun c2419 => ?_, fun c2419 => ?_⟩
                          · exact hq _ hI g0 f0 hT
                          · intro x2420 ex2420
                            have q_x2420 : x2420 = x2408 := ex2420.trans d_x2408.symm
                            have d_x2420 := ex2420
                            intro x2421 ex2421
                            have hI := iv_sI (j := 4) (v := x2421) hI o_v0 (by decide) (nu_free (by decide))
                            have f0 : FRI _ _ _ (sI (sI S2338 v0 6 (6 : Int32)) v0 4 x2421) := fri_sI g0 f0 o_v0 (by decide)
                            have fL3 : FRI _ _ _ (sI (sI S2338 v0 6 (6 : Int32)) v0 4 x2421) := fri_sI gL2 fL3 o_v0 (by decide)
                            have fL2340 : FRI _ _ _ (sI (sI S2338 v0 6 (6 : Int32)) v0 4 x2421) := fri_sI gL2339 fL2340 o_v0 (by decide)
                            have d_x2409 : x2409 = fI (sI (sI S2338 v0 6 (6 : Int32)) v0 4 x2421) v0 7 := d_x2409.trans (rd_j (by decide)).symm
                            have d_x2418 : x2418 = fI (sI (sI S2338 v0 6 (6 : Int32)) v0 4 x2421) v0 6 := d_x2418.trans (rd_j (by decide)).symm
                            have d_x2421 : x2421 = fI (sI (sI S2338 v0 6 (6 : Int32)) v0 4 x2421) v0 4 := (u2_self _ _ _ _).symm
                            exact hq _ hI g0 f0 hT
                  · refine ⟨fun c2422 => ?_, fun c2422 => ?_⟩
                    · refine u_X4_next_201 ?_
                      refine ⟨o_v0, ?_⟩
                      intro x2423 ex2423
                      have q_x2423 : x2423 = x2395 := ex2423.trans d_x2395.symm
                      have d_x2423 := ex2423
                      intro x2424 ex2424
                      have hI := iv_sI (j := 4) (v := x2424) hI o_v0 (by decide) (nu_free (by decide))
                      have f0 : FRI _ _ _ (sI S2338 v0 4 x2424) := fri_sI g0 f0 o_v0 (by decide)
                      have fL3 : FRI _ _ _ (sI S2338 v0 4 x2424) := fri_sI gL2 fL3 o_v0 (by decide)
                      have fL2340 : FRI _ _ _ (sI S2338 v0 4 x2424) := fri_sI gL2339 fL2340 o_v0 (by decide)
                      have d_x1340 : x1340 = fI (sI S2338 v0 4 x2424) v0 7 := d_x1340.trans (rd_j (by decide)).symm
                      have d_x2400 : x2400 = fI (sI S2338 v0 4 x2424) v0 6 := d_x2400.trans (rd_j (by decide)).symm
                      have d_x2424 : x2424 = fI (sI S2338 v0 4 x2424) v0 4 := (u2_self _ _ _ _).symm
                      intro x2425 ex2425
                      exact ih2351 _ _ _ _ _ _ ⟨hI, gL2339, fL2340, rfl, rfl, rfl, rfl, hT, (q630 i1 c9 p_x1335 c1339 q_x1340 q_x1341 p_x1342 q_x1346 c1347 q_x1786 c1787 q_x2226 c2227 q_x2228 c2229 i1 p_k1 c2374 q_x2395 p_x2396 q_x2400 c2401 c2422 q_x2423 ex2424 ex2425), (by rw [← d_x2400, ← d_x2424]; exact (q631 i1 c9 p_x1335 c1339 q_x1340 q_x1341 p_x1342 q_x1346 c1347 q_x1786 c1787 q_x2226 c2227 q_x2228 c2229 i1 p_k1 c2374 q_x2395 p_x2396 q_x2400 c2401 c2422 q_x2423 ex2424 ex2425))⟩ (mu_up (q632 i1 c9 p_x1335 c1339 q_x1340 q_x1341 p_x1342 q_x1346 c1347 q_x1786 c1787 q_x2226 c2227 q_x2228 c2229 i1 p_k1 c2374 q_x2395 p_x2396 q_x2400 c2401 c2422 q_x2423 ex2424 ex2425) (q633 i1 c9 p_x1335 c1339 q_x1340 q_x1341 p_x1342 q_x1346 c1347 q_x1786 c1787 q_x2226 c2227 q_x2228 c2229 i1 p_k1 c2374 q_x2395 p_x2396 q_x2400 c2401 c2422 q_x2423 ex2424 ex2425))
                    · intro x2426 ex2426
                      have q_x2426 : x2426 = x2395 := ex2426.trans d_x2395.symm
                      have d_x2426 := ex2426
                      obtain ⟨a2427, ea2427, o_a2427, l_a2427⟩ := hT
                      refine ⟨a2427, ea2427, ?_⟩
                      refine ⟨o_a2427, ?_⟩
                      have n_a2427 : nI (hN S2338 a2427) = 900 := by rw [show hN S2338 a2427 = 900 from l_a2427]; decide
                      refine ⟨fun c2428 => ?_, fun c2428 => ?_⟩
                      · rw [n_a2427] at c2428
                        refine u_X4_next_201 ?_
                        refine ⟨o_v0, ?_⟩
                        intro x2429 ex2429
                        have q_x2429 : x2429 = x2426 := ex2429.trans d_x2426.symm
                        have d_x2429 := ex2429
                        intro x2430 ex2430
                        have hI := iv_sI (j := 4) (v := x2430) hI o_v0 (by decide) (nu_free (by decide))
                        have f0 : FRI _ _ _ (sI S2338 v0 4 x2430) := fri_sI g0 f0 o_v0 (by decide)
                        have fL3 : FRI _ _ _ (sI S2338 v0 4 x2430) := fri_sI gL2 fL3 o_v0 (by decide)
                        have fL2340 : FRI _ _ _ (sI S2338 v0 4 x2430) := fri_sI gL2339 fL2340 o_v0 (by decide)
                        have d_x1340 : x1340 = fI (sI S2338 v0 4 x2430) v0 7 := d_x1340.trans (rd_j (by decide)).symm
                        have d_x2400 : x2400 = fI (sI S2338 v0 4 x2430) v0 6 := d_x2400.trans (rd_j (by decide)).symm
                        have d_x2430 : x2430 = fI (sI S2338 v0 4 x2430) v0 4 := (u2_self _ _ _ _).symm
                        intro x2431 ex2431
                        exact ih2351 _ _ _ _ _ _ ⟨hI, gL2339, fL2340, rfl, rfl, rfl, rfl, hT, (q634 i1 c9 p_x1335 c1339 q_x1340 q_x1341 p_x1342 q_x1346 c1347 q_x1786 c1787 q_x2226 c2227 q_x2228 c2229 i1 p_k1 c2374 q_x2395 p_x2396 q_x2400 c2401 c2422 q_x2426 c2428 q_x2429 ex2430 ex2431), (by rw [← d_x2400, ← d_x2430]; exact (q635 i1 c9 p_x1335 c1339 q_x1340 q_x1341 p_x1342 q_x1346 c1347 q_x1786 c1787 q_x2226 c2227 q_x2228 c2229 i1 p_k1 c2374 q_x2395 p_x2396 q_x2400 c2401 c2422 q_x2426 c2428 q_x2429 ex2430 ex2431))⟩ (mu_up (q636 i1 c9 p_x1335 c1339 q_x1340 q_x1341 p_x1342 q_x1346 c1347 q_x1786 c1787 q_x2226 c2227 q_x2228 c2229 i1 p_k1 c2374 q_x2395 p_x2396 q_x2400 c2401 c2422 q_x2426 c2428 q_x2429 ex2430 ex2431) (q637 i1 c9 p_x1335 c1339 q_x1340 q_x1341 p_x1342 q_x1346 c1347 q_x1786 c1787 q_x2226 c2227 q_x2228 c2229 i1 p_k1 c2374 q_x2395 p_x2396 q_x2400 c2401 c2422 q_x2426 c2428 q_x2429 ex2430 ex2431))
                      · rw [n_a2427] at c2428
                        intro x2432 ex2432
                        have dj_x2432 := ex2432
                        refine ⟨a2427, ea2427, ?_⟩
                        intro x2434 ex2434
                        have q_x2434 : x2434 = x2426 := ex2434.trans d_x2426.symm
                        have d_x2434 := ex2434
                        refine ⟨o_a2427, ?_⟩
                        refine ⟨(vin l_a2427 (m := 900) (by decide) (q638 i1 c9 p_x1335 c1339 q_x1340 q_x1341 p_x1342 q_x1346 c1347 q_x1786 c1787 q_x2226 c2227 q_x2228 c2229 i1 p_k1 c2374 q_x2395 p_x2396 q_x2400 c2401 c2422 q_x2426 c2428 q_x2434)), ?_⟩
                        intro x2435 ex2435
                        intro x2436 ex2436
                        have q_x2436 : x2436 = x2400 := ex2436.trans d_x2400.symm
                        have d_x2436 := ex2436
                        refine ⟨fun c2437 => ?_, fun c2437 => ?_⟩
                        · refine u_X4_next_195 ?_
                          refine ⟨o_v0, ?_⟩
                          intro x2438 ex2438
                          have hI := iv_sJ (j := 8) (v := x2438) hI o_v0 (by decide)
                          refine u_X4_next_201 ?_
                          refine ⟨o_v0, ?_⟩
                          intro x2439 ex2439
                          have q_x2439 : x2439 = x2434 := ex2439.trans d_x2434.symm
                          have d_x2439 := ex2439
                          intro x2440 ex2440
                          have hI := iv_sI (j := 4) (v := x2440) hI o_v0 (by decide) (nu_free (by decide))
                          have f0 : FRI _ _ _ (sI (sJ S2338 v0 8 x2438) v0 4 x2440) := fri_sI g0 f0 o_v0 (by decide)
                          have fL3 : FRI _ _ _ (sI (sJ S2338 v0 8 x2438) v0 4 x2440) := fri_sI gL2 fL3 o_v0 (by decide)
                          have fL2340 : FRI _ _ _ (sI (sJ S2338 v0 8 x2438) v0 4 x2440) := fri_sI gL2339 fL2340 o_v0 (by decide)
                          have d_x1340 : x1340 = fI (sI (sJ S2338 v0 8 x2438) v0 4 x2440) v0 7 := d_x1340.trans (rd_j (by decide)).symm
                          have d_x2436 : x2436 = fI (sI (sJ S2338 v0 8 x2438) v0 4 x2440) v0 6 := d_x2436.trans (rd_j (by decide)).symm
                          have d_x2440 : x2440 = fI (sI (sJ S2338 v0 8 x2438) v0 4 x2440) v0 4 := (u2_self _ _ _ _).symm
                          intro x2441 ex2441
                          exact ih2351 _ _ _ _ _ _ ⟨hI, gL2339, fL2340, rfl, rfl, rfl, rfl, hT, (q639 i1 c9 p_x1335 c1339 q_x1340 q_x1341 p_x1342 q_x1346 c1347 q_x1786 c1787 q_x2226 c2227 q_x2228 c2229 i1 p_k1 c2374 q_x2395 p_x2396 q_x2400 c2401 c2422 q_x2426 c2428 q_x2434 q_x2436 c2437 q_x2439 ex2440 ex2441), (by rw [← d_x2436, ← d_x2440]; exact (q640 i1 c9 p_x1335 c1339 q_x1340 q_x1341 p_x1342 q_x1346 c1347 q_x1786 c1787 q_x2226 c2227 q_x2228 c2229 i1 p_k1 c2374 q_x2395 p_x2396 q_x2400 c2401 c2422 q_x2426 c2428 q_x2434 q_x2436 c2437 q_x2439 ex2440 ex2441))⟩ (mu_up (q641 i1 c9 p_x1335 c1339 q_x1340 q_x1341 p_x1342 q_x1346 c1347 q_x1786 c1787 q_x2226 c2227 q_x2228 c2229 i1 p_k1 c2374 q_x2395 p_x2396 q_x2400 c2401 c2422 q_x2426 c2428 q_x2434 q_x2436 c2437 q_x2439 ex2440 ex2441) (q642 i1 c9 p_x1335 c1339 q_x1340 q_x1341 p_x1342 q_x1346 c1347 q_x1786 c1787 q_x2226 c2227 q_x2228 c2229 i1 p_k1 c2374 q_x2395 p_x2396 q_x2400 c2401 c2422 q_x2426 c2428 q_x2434 q_x2436 c2437 q_x2439 ex2440 ex2441))
                        · refine u_X4_next_195 ?_
                          refine ⟨o_v0, ?_⟩
                          intro x2442 ex2442
                          have hI := iv_sJ (j := 8) (v := x2442) hI o_v0 (by decide)
                          refine u_X4_next_201 ?_
                          refine ⟨o_v0, ?_⟩
                          intro x2443 ex2443
                          have q_x2443 : x2443 = x2434 := ex2443.trans d_x2434.symm
                          have d_x2443 := ex2443
                          intro x2444 ex2444
                          have hI := iv_sI (j := 4) (v := x2444) hI o_v0 (by decide) (nu_free (by decide))
                          have f0 : FRI _ _ _ (sI (sJ S2338 v0 8 x2442) v0 4 x2444) := fri_sI g0 f0 o_v0 (by decide)
                          have fL3 : FRI _ _ _ (sI (sJ S2338 v0 8 x2442) v0 4 x2444) := fri_sI gL2 fL3 o_v0 (by decide)
                          have fL2340 : FRI _ _ _ (sI (sJ S2338 v0 8 x2442) v0 4 x2444) := fri_sI gL2339 fL2340 o_v0 (by decide)
                          have d_x1340 : x1340 = fI (sI (sJ S2338 v0 8 x2442) v0 4 x2444) v0 7 := d_x1340.trans (rd_j (by decide)).symm
                          have d_x2436 : x2436 = fI (sI (sJ S2338 v0 8 x2442) v0 4 x2444) v0 6 := d_x2436.trans (rd_j (by decide)).symm
                          have d_x2444 : x2444 = fI (sI (sJ S2338 v0 8 x2442) v0 4 x2444) v0 4 := (u2_self _ _ _ _).symm
                          intro x2445 ex2445
                          exact ih2351 _ _ _ _ _ _ ⟨hI, gL2339, fL2340, rfl, rfl, rfl, rfl, hT, (q643 i1 c9 p_x1335 c1339 q_x1340 q_x1341 p_x1342 q_x1346 c1347 q_x1786 c1787 q_x2226 c2227 q_x2228 c2229 i1 p_k1 c2374 q_x2395 p_x2396 q_x2400 c2401 c2422 q_x2426 c2428 q_x2434 q_x2436 c2437 q_x2443 ex2444 ex2445), (by rw [← d_x2436, ← d_x2444]; exact (q644 i1 c9 p_x1335 c1339 q_x1340 q_x1341 p_x1342 q_x1346 c1347 q_x1786 c1787 q_x2226 c2227 q_x2228 c2229 i1 p_k1 c2374 q_x2395 p_x2396 q_x2400 c2401 c2422 q_x2426 c2428 q_x2434 q_x2436 c2437 q_x2443 ex2444 ex2445))⟩ (mu_up (q645 i1 c9 p_x1335 c1339 q_x1340 q_x1341 p_x1342 q_x1346 c1347 q_x1786 c1787 q_x2226 c2227 q_x2228 c2229 i1 p_k1 c2374 q_x2395 p_x2396 q_x2400 c2401 c2422 q_x2426 c2428 q_x2434 q_x2436 c2437 q_x2443 ex2444 ex2445) (q646 i1 c9 p_x1335 c1339 q_x1340 q_x1341 p_x1342 q_x1346 c1347 q_x1786 c1787 q_x2226 c2227 q_x2228 c2229 i1 p_k1 c2374 q_x2395 p_x2396 q_x2400 c2401 c2422 q_x2426 c2428 q_x2434 q_x2436 c2437 q_x2443 ex2444 ex2445))
          · refine u_X4_next_98 ?_
            refine ⟨o_v0, ?_⟩
            intro x2446 ex2446
            have q_x2446 : x2446 = x2226 := ex2446.trans d_x2226.symm
            have d_x2446 := ex2446
            refine ⟨fun c2447 => ?_, fun c2447 => ?_⟩
            · refine u_X4_next_114 ?_
              refine i_X4_next_118 (fun (y0 : Nat) (y1 : Int32) (y2 : Int32) (y3 : Int32) (y4 : Int32) (Z : HS) => ((2147483647 : Int32).toInt - y4.toInt).toNat) (fun (y0 : Nat) (y1 : Int32) (y2 : Int32) (y3 : Int32) (y4 : Int32) (Z : HS) => (IV Z) ∧ (Gr (sJ (sI (sI S1 v0 7 x1340) v0 6 x1342) v0 8 (0 : Int64)) Z) ∧ (FRI [(4, 4)] [] (sJ (sI (sI S1 v0 7 x1340) v0 6 x1342) v0 8 (0 : Int64)) Z) ∧ (v0 = y0) ∧ ((1 : Int32) = y1) ∧ ((8 : Int32) = y2) ∧ ((10 : Int32) = y3) ∧ (TX Z v0) ∧ (0 ≤ y4) ∧ ((y1 = 0 ∨ fI Z v0 6 = 1 ∨ fI Z v0 6 = 2) ∧ (y1 = 0 → fI Z v0 6 = 0 ∨ (0 ≤ fI Z v0 4 ∧ fI Z v0 4 < 900)))) ?_ _ _ _ _ _ _ ⟨hI, (gr_rf _), (fri_rf _ _ _), rfl, rfl, rfl, rfl, hT, (q647 i1 c9 p_x1335 c1339 q_x1340 q_x1341 p_x1342 q_x1346 c1347 q_x1786 c1787 q_x2226 c2227 q_x2446 c2447), (by rw [← d_x2446, ← d_x1341]; exact (q648 i1 c9 p_x1335 c1339 q_x1340 q_x1341 p_x1342 q_x1346 c1347 q_x1786 c1787 q_x2226 c2227 q_x2446 c2447))⟩
              intro w2451 w2453 w2455 w2457 w2459 S2448 X2460 ⟨hI, gL2449, fL2450, q2452, q2454, q2456, q2458, hT, i1, k1⟩ ih2461
              subst q2452
              subst q2454
              subst q2456
              subst q2458
              have d_x1340 := d_x1340.trans (fri_at fL2450 (by decide) (by decide) o_v0).symm
              have d_x2446 := d_x2446.trans (fri_at fL2450 (by decide) (by decide) o_v0).symm
              have f0 := fri_tr g0 f0 fL2450 (by decide) (by decide)
              have fL3 := fri_tr gL2 fL3 fL2450 (by decide) (by decide)
              have o_v0 := gr_ob gL2449 o_v0
              have g0 := gr_tr g0 gL2449
              have gL2 := gr_tr gL2 gL2449
              obtain ⟨y2462, d_y2462⟩ : ∃ z : Int32, z = fI S2448 v0 4 := ⟨_, rfl⟩
              have p_k1 : ((1 : Int32) = 0 ∨ x2446 = 1 ∨ x2446 = 2) ∧ ((1 : Int32) = 0 → x2446 = 0 ∨ (0 ≤ y2462 ∧ y2462 < 900)) := by rw [d_x2446, d_y2462]; exact k1
              refine u_X4_next_118 ?_
              refine ⟨fun c2463 => ?_, fun c2463 => ?_⟩
              · refine u_X4_next_217 ?_
                refine ⟨fun c2464 => ?_, fun c2464 => ?_⟩
                · refine u_X4_next_240 ?_
                  refine ⟨fun c2465 => ?_, fun c2465 => ?_⟩
                  · exact hq _ hI g0 f0 hT
                  · refine ⟨o_v0, ?_⟩
                    intro x2466 ex2466
                    have q_x2466 : x2466 = x2446 := ex2466.trans d_x2446.symm
                    have d_x2466 := ex2466
                    refine ⟨fun c2467 => ?_, fun c2467 => ?_⟩
                    · exact hq _ hI g0 f0 hT
                    · intro x2468 ex2468
                      have q_x2468 : x2468 = y2462 := ex2468.trans d_y2462.symm
                      have d_x2468 := ex2468
                      intro x2469 ex2469
                      have hI := iv_sI (j := 4) (v := x2469) hI o_v0 (by decide) (nu_free (by decide))
                      have f0 : FRI _ _ _ (sI S2448 v0 4 x2469) := fri_sI g0 f0 o_v0 (by decide)
                      have fL3 : FRI _ _ _ (sI S2448 v0 4 x2469) := fri_sI gL2 fL3 o_v0 (by decide)
                      have fL2450 : FRI _ _ _ (sI S2448 v0 4 x2469) := fri_sI gL2449 fL2450 o_v0 (by decide)
                      have d_x1340 : x1340 = fI (sI S2448 v0 4 x2469) v0 7 := d_x1340.trans (rd_j (by decide)).symm
                      have d_x2466 : x2466 = fI (sI S2448 v0 4 x2469) v0 6 := d_x2466.trans (rd_j (by decide)).symm
                      have d_x2469 : x2469 = fI (sI S2448 v0 4 x2469) v0 4 := (u2_self _ _ _ _).symm
                      exact hq _ hI g0 f0 hT
                · refine ⟨o_v0, ?_⟩
                  intro x2470 ex2470
                  have q_x2470 : x2470 = y2462 := ex2470.trans d_y2462.symm
                  have d_x2470 := ex2470
                  intro x2471 ex2471
                  have q_x2471 : x2471 = x1340 := ex2471.trans d_x1340.symm
                  have d_x2471 := ex2471
                  refine ⟨fun c2472 => ?_, fun c2472 => ?_⟩
                  · refine u_X4_next_240 ?_
                    refine ⟨fun c2473 => ?_, fun c2473 => ?_⟩
                    · exact hq _ hI g0 f0 hT
                    · refine ⟨o_v0, ?_⟩
                      intro x2474 ex2474
                      have q_x2474 : x2474 = x2446 := ex2474.trans d_x2446.symm
                      have d_x2474 := ex2474
                      refine ⟨fun c2475 => ?_, fun c2475 => ?_⟩
                      · exact hq _ hI g0 f0 hT
                      · intro x2476 ex2476
                        have q_x2476 : x2476 = x2470 := ex2476.trans d_x2470.symm
                        have d_x2476 := ex2476
                        intro x2477 ex2477
                        have hI := iv_sI (j := 4) (v := x2477) hI o_v0 (by decide) (nu_free (by decide))
                        have f0 : FRI _ _ _ (sI S2448 v0 4 x2477) := fri_sI g0 f0 o_v0 (by decide)
                        have fL3 : FRI _ _ _ (sI S2448 v0 4 x2477) := fri_sI gL2 fL3 o_v0 (by decide)
                        have fL2450 : FRI _ _ _ (sI S2448 v0 4 x2477) := fri_sI gL2449 fL2450 o_v0 (by decide)
                        have d_x2471 : x2471 = fI (sI S2448 v0 4 x2477) v0 7 := d_x2471.trans (rd_j (by decide)).symm
                        have d_x2474 : x2474 = fI (sI S2448 v0 4 x2477) v0 6 := d_x2474.trans (rd_j (by decide)).symm
                        have d_x2477 : x2477 = fI (sI S2448 v0 4 x2477) v0 4 := (u2_self _ _ _ _).symm
                        exact hq _ hI g0 f0 hT
                  · have hI := iv_sI (j := 6) (v := (6 : Int32)) hI o_v0 (by decide) (nu_free (by decide))
                    have f0 : FRI _ _ _ (sI S2448 v0 6 (6 : Int32)) := fri_sI g0 f0 o_v0 (by decide)
                    have fL3 : FRI _ _ _ (sI S2448 v0 6 (6 : Int32)) := fri_sI gL2 fL3 o_v0 (by decide)
                    have fL2450 : FRI _ _ _ (sI S2448 v0 6 (6 : Int32)) := fri_sI gL2449 fL2450 o_v0 (by decide)
                    have d_x2471 : x2471 = fI (sI S2448 v0 6 (6 : Int32)) v0 7 := d_x2471.trans (rd_j (by decide)).symm
                    have d_x2470 : x2470 = fI (sI S2448 v0 6 (6 : Int32)) v0 4 := d_x2470.trans (rd_j (by decide)).symm
                    obtain ⟨y2478, hy2478⟩ : ∃ z : Int32, z = (6 : Int32) := ⟨_, rfl⟩
                    have d_y2478 : y2478 = fI (sI S2448 v0 6 (6 : Int32)) v0 6 := hy2478.trans (u2_self _ _ _ _).symm
                    refine u_X4_next_240 ?_
                    refine ⟨fun c2479 => ?_, fun c2479 => ?_⟩
                    · exact hq _ hI g0 f0 hT
                    · refine ⟨o_v0, ?_⟩
                      intro x2480 ex2480
                      have q_x2480 : x2480 = y2478 := ex2480.trans d_y2478.symm
                      have d_x2480 := ex2480
                      refine ⟨fun c2481 => ?_, fun c2481 => ?_⟩
                      · exact hq _ hI g0 f0 hT
                      · intro x2482 ex2482
                        have q_x2482 : x2482 = x2470 := ex2482.trans d_x2470.symm
                        have d_x2482 := ex2482
                        intro x2483 ex2483
                        have hI := iv_sI (j := 4) (v := x2483) hI o_v0 (by decide) (nu_free (by decide))
                        have f0 : FRI _ _ _ (sI (sI S2448 v0 6 (6 : Int32)) v0 4 x2483) := fri_sI g0 f0 o_v0 (by decide)
                        have fL3 : FRI _ _ _ (sI (sI S2448 v0 6 (6 : Int32)) v0 4 x2483) := fri_sI gL2 fL3 o_v0 (by decide)
                        have fL2450 : FRI _ _ _ (sI (sI S2448 v0 6 (6 : Int32)) v0 4 x2483) := fri_sI gL2449 fL2450 o_v0 (by decide)
                        have d_x2471 : x2471 = fI (sI (sI S2448 v0 6 (6 : Int32)) v0 4 x2483) v0 7 := d_x2471.trans (rd_j (by decide)).symm
                        have d_x2480 : x2480 = fI (sI (sI S2448 v0 6 (6 : Int32)) v0 4 x2483) v0 6 := d_x2480.trans (rd_j (by decide)).symm
                        have d_x2483 : x2483 = fI (sI (sI S2448 v0 6 (6 : Int32)) v0 4 x2483) v0 4 := (u2_self _ _ _ _).symm
                        exact hq _ hI g0 f0 hT
              · refine ⟨fun c2484 => ?_, fun c2484 => ?_⟩
                · refine u_X4_next_217 ?_
                  refine ⟨fun c2485 => ?_, fun c2485 => ?_⟩
                  · refine u_X4_next_240 ?_
                    refine ⟨fun c2486 => ?_, fun c2486 => ?_⟩
                    · exact hq _ hI g0 f0 hT
                    · refine ⟨o_v0, ?_⟩
                      intro x2487 ex2487
                      have q_x2487 : x2487 = x2446 := ex2487.trans d_x2446.symm
                      have d_x2487 := ex2487
                      refine ⟨fun c2488 => ?_, fun c2488 => ?_⟩
                      · exact hq _ hI g0 f0 hT
                      · intro x2489 ex2489
                        have q_x2489 : x2489 = y2462 := ex2489.trans d_y2462.symm
                        have d_x2489 := ex2489
                        intro x2490 ex2490
                        have hI := iv_sI (j := 4) (v := x2490) hI o_v0 (by decide) (nu_free (by decide))
                        have f0 : FRI _ _ _ (sI S2448 v0 4 x2490) := fri_sI g0 f0 o_v0 (by decide)
                        have fL3 : FRI _ _ _ (sI S2448 v0 4 x2490) := fri_sI gL2 fL3 o_v0 (by decide)
                        have fL2450 : FRI _ _ _ (sI S2448 v0 4 x2490) := fri_sI gL2449 fL2450 o_v0 (by decide)
                        have d_x1340 : x1340 = fI (sI S2448 v0 4 x2490) v0 7 := d_x1340.trans (rd_j (by decide)).symm
                        have d_x2487 : x2487 = fI (sI S2448 v0 4 x2490) v0 6 := d_x2487.trans (rd_j (by decide)).symm
                        have d_x2490 : x2490 = fI (sI S2448 v0 4 x2490) v0 4 := (u2_self _ _ _ _).symm
                        exact hq _ hI g0 f0 hT
                  · refine ⟨o_v0, ?_⟩
                    intro x2491 ex2491
                    have q_x2491 : x2491 = y2462 := ex2491.trans d_y2462.symm
                    have d_x2491 := ex2491
                    intro x2492 ex2492
                    have q_x2492 : x2492 = x1340 := ex2492.trans d_x1340.symm
                    have d_x2492 := ex2492
                    refine ⟨fun c2493 => ?_, fun c2493 => ?_⟩
                    · refine u_X4_next_240 ?_
                      refine ⟨fun c2494 => ?_, fun c2494 => ?_⟩
                      · exact hq _ hI g0 f0 hT
                      · refine ⟨o_v0, ?_⟩
                        intro x2495 ex2495
                        have q_x2495 : x2495 = x2446 := ex2495.trans d_x2446.symm
                        have d_x2495 := ex2495
                        refine ⟨fun c2496 => ?_, fun c2496 => ?_⟩
                        · exact hq _ hI g0 f0 hT
                        · intro x2497 ex2497
                          have q_x2497 : x2497 = x2491 := ex2497.trans d_x2491.symm
                          have d_x2497 := ex2497
                          intro x2498 ex2498
                          have hI := iv_sI (j := 4) (v := x2498) hI o_v0 (by decide) (nu_free (by decide))
                          have f0 : FRI _ _ _ (sI S2448 v0 4 x2498) := fri_sI g0 f0 o_v0 (by decide)
                          have fL3 : FRI _ _ _ (sI S2448 v0 4 x2498) := fri_sI gL2 fL3 o_v0 (by decide)
                          have fL2450 : FRI _ _ _ (sI S2448 v0 4 x2498) := fri_sI gL2449 fL2450 o_v0 (by decide)
                          have d_x2492 : x2492 = fI (sI S2448 v0 4 x2498) v0 7 := d_x2492.trans (rd_j (by decide)).symm
                          have d_x2495 : x2495 = fI (sI S2448 v0 4 x2498) v0 6 := d_x2495.trans (rd_j (by decide)).symm
                          have d_x2498 : x2498 = fI (sI S2448 v0 4 x2498) v0 4 := (u2_self _ _ _ _).symm
                          exact hq _ hI g0 f0 hT
                    · have hI := iv_sI (j := 6) (v := (6 : Int32)) hI o_v0 (by decide) (nu_free (by decide))
                      have f0 : FRI _ _ _ (sI S2448 v0 6 (6 : Int32)) := fri_sI g0 f0 o_v0 (by decide)
                      have fL3 : FRI _ _ _ (sI S2448 v0 6 (6 : Int32)) := fri_sI gL2 fL3 o_v0 (by decide)
                      have fL2450 : FRI _ _ _ (sI S2448 v0 6 (6 : Int32)) := fri_sI gL2449 fL2450 o_v0 (by decide)
                      have d_x2492 : x2492 = fI (sI S2448 v0 6 (6 : Int32)) v0 7 := d_x2492.trans (rd_j (by decide)).symm
                      have d_x2491 : x2491 = fI (sI S2448 v0 6 (6 : Int32)) v0 4 := d_x2491.trans (rd_j (by decide)).symm
                      obtain ⟨y2499, hy2499⟩ : ∃ z : Int32, z = (6 : Int32) := ⟨_, rfl⟩
                      have d_y2499 : y2499 = fI (sI S2448 v0 6 (6 : Int32)) v0 6 := hy2499.trans (u2_self _ _ _ _).symm
                      refine u_X4_next_240 ?_
                      refine ⟨fun c2500 => ?_, fun c2500 => ?_⟩
                      · exact hq _ hI g0 f0 hT
                      · refine ⟨o_v0, ?_⟩
                        intro x2501 ex2501
                        have q_x2501 : x2501 = y2499 := ex2501.trans d_y2499.symm
                        have d_x2501 := ex2501
                        refine ⟨fun c2502 => ?_, fun c2502 => ?_⟩
                        · exact hq _ hI g0 f0 hT
                        · intro x2503 ex2503
                          have q_x2503 : x2503 = x2491 := ex2503.trans d_x2491.symm
                          have d_x2503 := ex2503
                          intro x2504 ex2504
                          have hI := iv_sI (j := 4) (v := x2504) hI o_v0 (by decide) (nu_free (by decide))
                          have f0 : FRI _ _ _ (sI (sI S2448 v0 6 (6 : Int32)) v0 4 x2504) := fri_sI g0 f0 o_v0 (by decide)
                          have fL3 : FRI _ _ _ (sI (sI S2448 v0 6 (6 : Int32)) v0 4 x2504) := fri_sI gL2 fL3 o_v0 (by decide)
                          have fL2450 : FRI _ _ _ (sI (sI S2448 v0 6 (6 : Int32)) v0 4 x2504) := fri_sI gL2449 fL2450 o_v0 (by decide)
                          have d_x2492 : x2492 = fI (sI (sI S2448 v0 6 (6 : Int32)) v0 4 x2504) v0 7 := d_x2492.trans (rd_j (by decide)).symm
                          have d_x2501 : x2501 = fI (sI (sI S2448 v0 6 (6 : Int32)) v0 4 x2504) v0 6 := d_x2501.trans (rd_j (by decide)).symm
                          have d_x2504 : x2504 = fI (sI (sI S2448 v0 6 (6 : Int32)) v0 4 x2504) v0 4 := (u2_self _ _ _ _).symm
                          exact hq _ hI g0 f0 hT
                · refine ⟨o_v0, ?_⟩
                  intro x2505 ex2505
                  have q_x2505 : x2505 = y2462 := ex2505.trans d_y2462.symm
                  have d_x2505 := ex2505
                  refine m_X4_sortAt hI o_v0 hT (fun x2506 S2507 hI2 g2508 p_x2506 => ?_)
                  obtain ⟨z_S2507, p_x2506⟩ := p_x2506
                  subst z_S2507
                  intro _
                  intro x2510 ex2510
                  have q_x2510 : x2510 = x2446 := ex2510.trans d_x2446.symm
                  have d_x2510 := ex2510
                  refine ⟨fun c2511 => ?_, fun c2511 => ?_⟩
                  · refine u_X4_next_217 ?_
                    refine ⟨fun c2512 => ?_, fun c2512 => ?_⟩
                    · refine u_X4_next_240 ?_
                      refine ⟨fun c2513 => ?_, fun c2513 => ?_⟩
                      · exact hq _ hI g0 f0 hT
                      · refine ⟨o_v0, ?_⟩
                        intro x2514 ex2514
                        have q_x2514 : x2514 = x2510 := ex2514.trans d_x2510.symm
                        have d_x2514 := ex2514
                        refine ⟨fun c2515 => ?_, fun c2515 => ?_⟩
                        · exact hq _ hI g0 f0 hT
                        · intro x2516 ex2516
                          have q_x2516 : x2516 = x2505 := ex2516.trans d_x2505.symm
                          have d_x2516 := ex2516
                          intro x2517 ex2517
                          have hI := iv_sI (j := 4) (v := x2517) hI o_v0 (by decide) (nu_free (by decide))
                          have f0 : FRI _ _ _ (sI S2448 v0 4 x2517) := fri_sI g0 f0 o_v0 (by decide)
                          have fL3 : FRI _ _ _ (sI S2448 v0 4 x2517) := fri_sI gL2 fL3 o_v0 (by decide)
                          have fL2450 : FRI _ _ _ (sI S2448 v0 4 x2517) := fri_sI gL2449 fL2450 o_v0 (by decide)
                          have d_x1340 : x1340 = fI (sI S2448 v0 4 x2517) v0 7 := d_x1340.trans (rd_j (by decide)).symm
                          have d_x2514 : x2514 = fI (sI S2448 v0 4 x2517) v0 6 := d_x2514.trans (rd_j (by decide)).symm
                          have d_x2517 : x2517 = fI (sI S2448 v0 4 x2517) v0 4 := (u2_self _ _ _ _).symm
                          exact hq _ hI g0 f0 hT
                    · refine ⟨o_v0, ?_⟩
                      intro x2518 ex2518
                      have q_x2518 : x2518 = x2505 := ex2518.trans d_x2505.symm
                      have d_x2518 := ex2518
                      intro x2519 ex2519
                      have q_x2519 : x2519 = x1340 := ex2519.trans d_x1340.symm
                      have d_x2519 := ex2519
                      refine ⟨fun c2520 => ?_, fun c2520 => ?_⟩
                      · refine u_X4_next_240 ?_
                        refine ⟨fun c2521 => ?_, fun c2521 => ?_⟩
                        · exact hq _ hI g0 f0 hT
                        · refine ⟨o_v0, ?_⟩
                          intro x2522 ex2522
                          have q_x2522 : x2522 = x2510 := ex2522.trans d_x2510.symm
                          have d_x2522 := ex2522
                          refine ⟨fun c2523 => ?_, fun c2523 => ?_⟩
                          · exact hq _ hI g0 f0 hT
                          · intro x2524 ex2524
                            have q_x2524 : x2524 = x2518 := ex2524.trans d_x2518.symm
                            have d_x2524 := ex2524
                            intro x2525 ex2525
                            have hI := iv_sI (j := 4) (v := x2525) hI o_v0 (by decide) (nu_free (by decide))
                            have f0 : FRI _ _ _ (sI S2448 v0 4 x2525) := fri_sI g0 f0 o_v0 (by decide)
                            have fL3 : FRI _ _ _ (sI S2448 v0 4 x2525) := fri_sI gL2 fL3 o_v0 (by decide)
                            have fL2450 : FRI _ _ _ (sI S2448 v0 4 x2525) := fri_sI gL2449 fL2450 o_v0 (by decide)
                            have d_x2519 : x2519 = fI (sI S2448 v0 4 x2525) v0 7 := d_x2519.trans (rd_j (by decide)).symm
                            have d_x2522 : x2522 = fI (sI S2448 v0 4 x2525) v0 6 := d_x2522.trans (rd_j (by decide)).symm
                            have d_x2525 : x2525 = fI (sI S2448 v0 4 x2525) v0 4 := (u2_self _ _ _ _).symm
                            exact hq _ hI g0 f0 hT
                      · have hI := iv_sI (j := 6) (v := (6 : Int32)) hI o_v0 (by decide) (nu_free (by decide))
                        have f0 : FRI _ _ _ (sI S2448 v0 6 (6 : Int32)) := fri_sI g0 f0 o_v0 (by decide)
                        have fL3 : FRI _ _ _ (sI S2448 v0 6 (6 : Int32)) := fri_sI gL2 fL3 o_v0 (by decide)
                        have fL2450 : FRI _ _ _ (sI S2448 v0 6 (6 : Int32)) := fri_sI gL2449 fL2450 o_v0 (by decide)
                        have d_x2519 : x2519 = fI (sI S2448 v0 6 (6 : Int32)) v0 7 := d_x2519.trans (rd_j (by decide)).symm
                        have d_x2518 : x2518 = fI (sI S2448 v0 6 (6 : Int32)) v0 4 := d_x2518.trans (rd_j (by decide)).symm
                        obtain ⟨y2526, hy2526⟩ : ∃ z : Int32, z = (6 : Int32) := ⟨_, rfl⟩
                        have d_y2526 : y2526 = fI (sI S2448 v0 6 (6 : Int32)) v0 6 := hy2526.trans (u2_self _ _ _ _).symm
                        refine u_X4_next_240 ?_
                        refine ⟨fun c2527 => ?_, fun c2527 => ?_⟩
                        · exact hq _ hI g0 f0 hT
                        · refine ⟨o_v0, ?_⟩
                          intro x2528 ex2528
                          have q_x2528 : x2528 = y2526 := ex2528.trans d_y2526.symm
                          have d_x2528 := ex2528
                          refine ⟨fun c2529 => ?_, fun c2529 => ?_⟩
                          · exact hq _ hI g0 f0 hT
                          · intro x2530 ex2530
                            have q_x2530 : x2530 = x2518 := ex2530.trans d_x2518.symm
                            have d_x2530 := ex2530
                            intro x2531 ex2531
                            have hI := iv_sI (j := 4) (v := x2531) hI o_v0 (by decide) (nu_free (by decide))
                            have f0 : FRI _ _ _ (sI (sI S2448 v0 6 (6 : Int32)) v0 4 x2531) := fri_sI g0 f0 o_v0 (by decide)
                            have fL3 : FRI _ _ _ (sI (sI S2448 v0 6 (6 : Int32)) v0 4 x2531) := fri_sI gL2 fL3 o_v0 (by decide)
                            have fL2450 : FRI _ _ _ (sI (sI S2448 v0 6 (6 : Int32)) v0 4 x2531) := fri_sI gL2449 fL2450 o_v0 (by decide)
                            have d_x2519 : x2519 = fI (sI (sI S2448 v0 6 (6 : Int32)) v0 4 x2531) v0 7 := d_x2519.trans (rd_j (by decide)).symm
                            have d_x2528 : x2528 = fI (sI (sI S2448 v0 6 (6 : Int32)) v0 4 x2531) v0 6 := d_x2528.trans (rd_j (by decide)).symm
                            have d_x2531 : x2531 = fI (sI (sI S2448 v0 6 (6 : Int32)) v0 4 x2531) v0 4 := (u2_self _ _ _ _).symm
                            exact hq _ hI g0 f0 hT
                  · refine ⟨fun c2532 => ?_, fun c2532 => ?_⟩
                    · refine u_X4_next_201 ?_
                      refine ⟨o_v0, ?_⟩
                      intro x2533 ex2533
                      have q_x2533 : x2533 = x2505 := ex2533.trans d_x2505.symm
                      have d_x2533 := ex2533
                      intro x2534 ex2534
                      have hI := iv_sI (j := 4) (v := x2534) hI o_v0 (by decide) (nu_free (by decide))
                      have f0 : FRI _ _ _ (sI S2448 v0 4 x2534) := fri_sI g0 f0 o_v0 (by decide)
                      have fL3 : FRI _ _ _ (sI S2448 v0 4 x2534) := fri_sI gL2 fL3 o_v0 (by decide)
                      have fL2450 : FRI _ _ _ (sI S2448 v0 4 x2534) := fri_sI gL2449 fL2450 o_v0 (by decide)
                      have d_x1340 : x1340 = fI (sI S2448 v0 4 x2534) v0 7 := d_x1340.trans (rd_j (by decide)).symm
                      have d_x2510 : x2510 = fI (sI S2448 v0 4 x2534) v0 6 := d_x2510.trans (rd_j (by decide)).symm
                      have d_x2534 : x2534 = fI (sI S2448 v0 4 x2534) v0 4 := (u2_self _ _ _ _).symm
                      intro x2535 ex2535
                      exact ih2461 _ _ _ _ _ _ ⟨hI, gL2449, fL2450, rfl, rfl, rfl, rfl, hT, (q649 i1 c9 p_x1335 c1339 q_x1340 q_x1341 p_x1342 q_x1346 c1347 q_x1786 c1787 q_x2226 c2227 q_x2446 c2447 i1 p_k1 c2484 q_x2505 p_x2506 q_x2510 c2511 c2532 q_x2533 ex2534 ex2535), (by rw [← d_x2510, ← d_x2534]; exact (q650 i1 c9 p_x1335 c1339 q_x1340 q_x1341 p_x1342 q_x1346 c1347 q_x1786 c1787 q_x2226 c2227 q_x2446 c2447 i1 p_k1 c2484 q_x2505 p_x2506 q_x2510 c2511 c2532 q_x2533 ex2534 ex2535))⟩ (mu_up (q651 i1 c9 p_x1335 c1339 q_x1340 q_x1341 p_x1342 q_x1346 c1347 q_x1786 c1787 q_x2226 c2227 q_x2446 c2447 i1 p_k1 c2484 q_x2505 p_x2506 q_x2510 c2511 c2532 q_x2533 ex2534 ex2535) (q652 i1 c9 p_x1335 c1339 q_x1340 q_x1341 p_x1342 q_x1346 c1347 q_x1786 c1787 q_x2226 c2227 q_x2446 c2447 i1 p_k1 c2484 q_x2505 p_x2506 q_x2510 c2511 c2532 q_x2533 ex2534 ex2535))
                    · intro x2536 ex2536
                      have q_x2536 : x2536 = x2505 := ex2536.trans d_x2505.symm
                      have d_x2536 := ex2536
                      obtain ⟨a2537, ea2537, o_a2537, l_a2537⟩ := hT
                      refine ⟨a2537, ea2537, ?_⟩
                      refine ⟨o_a2537, ?_⟩
                      have n_a2537 : nI (hN S2448 a2537) = 900 := by rw [show hN S2448 a2537 = 900 from l_a2537]; decide
                      refine ⟨fun c2538 => ?_, fun c2538 => ?_⟩
                      · rw [n_a2537] at c2538
                        refine u_X4_next_201 ?_
                        refine ⟨o_v0, ?_⟩
                        intro x2539 ex2539
                        have q_x2539 : x2539 = x2536 := ex2539.trans d_x2536.symm
                        have d_x2539 := ex2539
                        intro x2540 ex2540
                        have hI := iv_sI (j := 4) (v := x2540) hI o_v0 (by decide) (nu_free (by decide))
                        have f0 : FRI _ _ _ (sI S2448 v0 4 x2540) := fri_sI g0 f0 o_v0 (by decide)
                        have fL3 : FRI _ _ _ (sI S2448 v0 4 x2540) := fri_sI gL2 fL3 o_v0 (by decide)
                        have fL2450 : FRI _ _ _ (sI S2448 v0 4 x2540) := fri_sI gL2449 fL2450 o_v0 (by decide)
                        have d_x1340 : x1340 = fI (sI S2448 v0 4 x2540) v0 7 := d_x1340.trans (rd_j (by decide)).symm
                        have d_x2510 : x2510 = fI (sI S2448 v0 4 x2540) v0 6 := d_x2510.trans (rd_j (by decide)).symm
                        have d_x2540 : x2540 = fI (sI S2448 v0 4 x2540) v0 4 := (u2_self _ _ _ _).symm
                        intro x2541 ex2541
                        exact ih2461 _ _ _ _ _ _ ⟨hI, gL2449, fL2450, rfl, rfl, rfl, rfl, hT, (q653 i1 c9 p_x1335 c1339 q_x1340 q_x1341 p_x1342 q_x1346 c1347 q_x1786 c1787 q_x2226 c2227 q_x2446 c2447 i1 p_k1 c2484 q_x2505 p_x2506 q_x2510 c2511 c2532 q_x2536 c2538 q_x2539 ex2540 ex2541), (by rw [← d_x2510, ← d_x2540]; exact (q654 i1 c9 p_x1335 c1339 q_x1340 q_x1341 p_x1342 q_x1346 c1347 q_x1786 c1787 q_x2226 c2227 q_x2446 c2447 i1 p_k1 c2484 q_x2505 p_x2506 q_x2510 c2511 c2532 q_x2536 c2538 q_x2539 ex2540 ex2541))⟩ (mu_up (q655 i1 c9 p_x1335 c1339 q_x1340 q_x1341 p_x1342 q_x1346 c1347 q_x1786 c1787 q_x2226 c2227 q_x2446 c2447 i1 p_k1 c2484 q_x2505 p_x2506 q_x2510 c2511 c2532 q_x2536 c2538 q_x2539 ex2540 ex2541) (q656 i1 c9 p_x1335 c1339 q_x1340 q_x1341 p_x1342 q_x1346 c1347 q_x1786 c1787 q_x2226 c2227 q_x2446 c2447 i1 p_k1 c2484 q_x2505 p_x2506 q_x2510 c2511 c2532 q_x2536 c2538 q_x2539 ex2540 ex2541))
                      · rw [n_a2537] at c2538
                        intro x2542 ex2542
                        have dj_x2542 := ex2542
                        refine ⟨a2537, ea2537, ?_⟩
                        intro x2544 ex2544
                        have q_x2544 : x2544 = x2536 := ex2544.trans d_x2536.symm
                        have d_x2544 := ex2544
                        refine ⟨o_a2537, ?_⟩
                        refine ⟨(vin l_a2537 (m := 900) (by decide) (q657 i1 c9 p_x1335 c1339 q_x1340 q_x1341 p_x1342 q_x1346 c1347 q_x1786 c1787 q_x2226 c2227 q_x2446 c2447 i1 p_k1 c2484 q_x2505 p_x2506 q_x2510 c2511 c2532 q_x2536 c2538 q_x2544)), ?_⟩
                        intro x2545 ex2545
                        intro x2546 ex2546
                        have q_x2546 : x2546 = x2510 := ex2546.trans d_x2510.symm
                        have d_x2546 := ex2546
                        refine ⟨fun c2547 => ?_, fun c2547 => ?_⟩
                        · refine u_X4_next_195 ?_
                          refine ⟨o_v0, ?_⟩
                          intro x2548 ex2548
                          have hI := iv_sJ (j := 8) (v := x2548) hI o_v0 (by decide)
                          refine u_X4_next_201 ?_
                          refine ⟨o_v0, ?_⟩
                          intro x2549 ex2549
                          have q_x2549 : x2549 = x2544 := ex2549.trans d_x2544.symm
                          have d_x2549 := ex2549
                          intro x2550 ex2550
                          have hI := iv_sI (j := 4) (v := x2550) hI o_v0 (by decide) (nu_free (by decide))
                          have f0 : FRI _ _ _ (sI (sJ S2448 v0 8 x2548) v0 4 x2550) := fri_sI g0 f0 o_v0 (by decide)
                          have fL3 : FRI _ _ _ (sI (sJ S2448 v0 8 x2548) v0 4 x2550) := fri_sI gL2 fL3 o_v0 (by decide)
                          have fL2450 : FRI _ _ _ (sI (sJ S2448 v0 8 x2548) v0 4 x2550) := fri_sI gL2449 fL2450 o_v0 (by decide)
                          have d_x1340 : x1340 = fI (sI (sJ S2448 v0 8 x2548) v0 4 x2550) v0 7 := d_x1340.trans (rd_j (by decide)).symm
                          have d_x2546 : x2546 = fI (sI (sJ S2448 v0 8 x2548) v0 4 x2550) v0 6 := d_x2546.trans (rd_j (by decide)).symm
                          have d_x2550 : x2550 = fI (sI (sJ S2448 v0 8 x2548) v0 4 x2550) v0 4 := (u2_self _ _ _ _).symm
                          intro x2551 ex2551
                          exact ih2461 _ _ _ _ _ _ ⟨hI, gL2449, fL2450, rfl, rfl, rfl, rfl, hT, (q658 i1 c9 p_x1335 c1339 q_x1340 q_x1341 p_x1342 q_x1346 c1347 q_x1786 c1787 q_x2226 c2227 q_x2446 c2447 i1 p_k1 c2484 q_x2505 p_x2506 q_x2510 c2511 c2532 q_x2536 c2538 q_x2544 q_x2546 c2547 q_x2549 ex2550 ex2551), (by rw [← d_x2546, ← d_x2550]; exact (q659 i1 c9 p_x1335 c1339 q_x1340 q_x1341 p_x1342 q_x1346 c1347 q_x1786 c1787 q_x2226 c2227 q_x2446 c2447 i1 p_k1 c2484 q_x2505 p_x2506 q_x2510 c2511 c2532 q_x2536 c2538 q_x2544 q_x2546 c2547 q_x2549 ex2550 ex2551))⟩ (mu_up (q660 i1 c9 p_x1335 c1339 q_x1340 q_x1341 p_x1342 q_x1346 c1347 q_x1786 c1787 q_x2226 c2227 q_x2446 c2447 i1 p_k1 c2484 q_x2505 p_x2506 q_x2510 c2511 c2532 q_x2536 c2538 q_x2544 q_x2546 c2547 q_x2549 ex2550 ex2551) (q661 i1 c9 p_x1335 c1339 q_x1340 q_x1341 p_x1342 q_x1346 c1347 q_x1786 c1787 q_x2226 c2227 q_x2446 c2447 i1 p_k1 c2484 q_x2505 p_x2506 q_x2510 c2511 c2532 q_x2536 c2538 q_x2544 q_x2546 c2547 q_x2549 ex2550 ex2551))
                        · refine u_X4_next_195 ?_
                          refine ⟨o_v0, ?_⟩
                          intro x2552 ex2552
                          have hI := iv_sJ (j := 8) (v := x2552) hI o_v0 (by decide)
                          refine u_X4_next_201 ?_
                          refine ⟨o_v0, ?_⟩
                          intro x2553 ex2553
                          have q_x2553 : x2553 = x2544 := ex2553.trans d_x2544.symm
                          have d_x2553 := ex2553
                          intro x2554 ex2554
                          have hI := iv_sI (j := 4) (v := x2554) hI o_v0 (by decide) (nu_free (by decide))
                          have f0 : FRI _ _ _ (sI (sJ S2448 v0 8 x2552) v0 4 x2554) := fri_sI g0 f0 o_v0 (by decide)
                          have fL3 : FRI _ _ _ (sI (sJ S2448 v0 8 x2552) v0 4 x2554) := fri_sI gL2 fL3 o_v0 (by decide)
                          have fL2450 : FRI _ _ _ (sI (sJ S2448 v0 8 x2552) v0 4 x2554) := fri_sI gL2449 fL2450 o_v0 (by decide)
                          have d_x1340 : x1340 = fI (sI (sJ S2448 v0 8 x2552) v0 4 x2554) v0 7 := d_x1340.trans (rd_j (by decide)).symm
                          have d_x2546 : x2546 = fI (sI (sJ S2448 v0 8 x2552) v0 4 x2554) v0 6 := d_x2546.trans (rd_j (by decide)).symm
                          have d_x2554 : x2554 = fI (sI (sJ S2448 v0 8 x2552) v0 4 x2554) v0 4 := (u2_self _ _ _ _).symm
                          intro x2555 ex2555
                          exact ih2461 _ _ _ _ _ _ ⟨hI, gL2449, fL2450, rfl, rfl, rfl, rfl, hT, (q662 i1 c9 p_x1335 c1339 q_x1340 q_x1341 p_x1342 q_x1346 c1347 q_x1786 c1787 q_x2226 c2227 q_x2446 c2447 i1 p_k1 c2484 q_x2505 p_x2506 q_x2510 c2511 c2532 q_x2536 c2538 q_x2544 q_x2546 c2547 q_x2553 ex2554 ex2555), (by rw [← d_x2546, ← d_x2554]; exact (q663 i1 c9 p_x1335 c1339 q_x1340 q_x1341 p_x1342 q_x1346 c1347 q_x1786 c1787 q_x2226 c2227 q_x2446 c2447 i1 p_k1 c2484 q_x2505 p_x2506 q_x2510 c2511 c2532 q_x2536 c2538 q_x2544 q_x2546 c2547 q_x2553 ex2554 ex2555))⟩ (mu_up (q664 i1 c9 p_x1335 c1339 q_x1340 q_x1341 p_x1342 q_x1346 c1347 q_x1786 c1787 q_x2226 c2227 q_x2446 c2447 i1 p_k1 c2484 q_x2505 p_x2506 q_x2510 c2511 c2532 q_x2536 c2538 q_x2544 q_x2546 c2547 q_x2553 ex2554 ex2555) (q665 i1 c9 p_x1335 c1339 q_x1340 q_x1341 p_x1342 q_x1346 c1347 q_x1786 c1787 q_x2226 c2227 q_x2446 c2447 i1 p_k1 c2484 q_x2505 p_x2506 q_x2510 c2511 c2532 q_x2536 c2538 q_x2544 q_x2546 c2547 q_x2553 ex2554 ex2555))
            · refine u_X4_next_114 ?_
              refine i_X4_next_118 (fun (y0 : Nat) (y1 : Int32) (y2 : Int32) (y3 : Int32) (y4 : Int32) (Z : HS) => ((2147483647 : Int32).toInt - y4.toInt).toNat) (fun (y0 : Nat) (y1 : Int32) (y2 : Int32) (y3 : Int32) (y4 : Int32) (Z : HS) => (IV Z) ∧ (Gr (sJ (sI (sI S1 v0 7 x1340) v0 6 x1342) v0 8 (0 : Int64)) Z) ∧ (FRI [(4, 4)] [] (sJ (sI (sI S1 v0 7 x1340) v0 6 x1342) v0 8 (0 : Int64)) Z) ∧ (v0 = y0) ∧ ((1 : Int32) = y1) ∧ ((8 : Int32) = y2) ∧ ((32 : Int32) = y3) ∧ (TX Z v0) ∧ (0 ≤ y4) ∧ ((y1 = 0 ∨ fI Z v0 6 = 1 ∨ fI Z v0 6 = 2) ∧ (y1 = 0 → fI Z v0 6 = 0 ∨ (0 ≤ fI Z v0 4 ∧ fI Z v0 4 < 900)))) ?_ _ _ _ _ _ _ ⟨hI, (gr_rf _), (fri_rf _ _ _), rfl, rfl, rfl, rfl, hT, (q666 i1 c9 p_x1335 c1339 q_x1340 q_x1341 p_x1342 q_x1346 c1347 q_x1786 c1787 q_x2226 c2227 q_x2446 c2447), (by rw [← d_x2446, ← d_x1341]; exact (q667 i1 c9 p_x1335 c1339 q_x1340 q_x1341 p_x1342 q_x1346 c1347 q_x1786 c1787 q_x2226 c2227 q_x2446 c2447))⟩
              intro w2559 w2561 w2563 w2565 w2567 S2556 X2568 ⟨hI, gL2557, fL2558, q2560, q2562, q2564, q2566, hT, i1, k1⟩ ih2569
              subst q2560
              subst q2562
              subst q2564
              subst q2566
              have d_x1340 := d_x1340.trans (fri_at fL2558 (by decide) (by decide) o_v0).symm
              have d_x2446 := d_x2446.trans (fri_at fL2558 (by decide) (by decide) o_v0).symm
              have f0 := fri_tr g0 f0 fL2558 (by decide) (by decide)
              have fL3 := fri_tr gL2 fL3 fL2558 (by decide) (by decide)
              have o_v0 := gr_ob gL2557 o_v0
              have g0 := gr_tr g0 gL2557
              have gL2 := gr_tr gL2 gL2557
              obtain ⟨y2570, d_y2570⟩ : ∃ z : Int32, z = fI S2556 v0 4 := ⟨_, rfl⟩
              have p_k1 : ((1 : Int32) = 0 ∨ x2446 = 1 ∨ x2446 = 2) ∧ ((1 : Int32) = 0 → x2446 = 0 ∨ (0 ≤ y2570 ∧ y2570 < 900)) := by rw [d_x2446, d_y2570]; exact k1
              refine u_X4_next_118 ?_
              refine ⟨fun c2571 => ?_, fun c2571 => ?_⟩
              · refine u_X4_next_217 ?_
                refine ⟨fun c2572 => ?_, fun c2572 => ?_⟩
                · refine u_X4_next_240 ?_
                  refine ⟨fun c2573 => ?_, fun c2573 => ?_⟩
                  · exact hq _ hI g0 f0 hT
                  · refine ⟨o_v0, ?_⟩
                    intro x2574 ex2574
                    have q_x2574 : x2574 = x2446 := ex2574.trans d_x2446.symm
                    have d_x2574 := ex2574
                    refine ⟨fun c2575 => ?_, fun c2575 => ?_⟩
                    · exact hq _ hI g0 f0 hT
                    · intro x2576 ex2576
                      have q_x2576 : x2576 = y2570 := ex2576.trans d_y2570.symm
                      have d_x2576 := ex2576
                      intro x2577 ex2577
                      have hI := iv_sI (j := 4) (v := x2577) hI o_v0 (by decide) (nu_free (by decide))
                      have f0 : FRI _ _ _ (sI S2556 v0 4 x2577) := fri_sI g0 f0 o_v0 (by decide)
                      have fL3 : FRI _ _ _ (sI S2556 v0 4 x2577) := fri_sI gL2 fL3 o_v0 (by decide)
                      have fL2558 : FRI _ _ _ (sI S2556 v0 4 x2577) := fri_sI gL2557 fL2558 o_v0 (by decide)
                      have d_x1340 : x1340 = fI (sI S2556 v0 4 x2577) v0 7 := d_x1340.trans (rd_j (by decide)).symm
                      have d_x2574 : x2574 = fI (sI S2556 v0 4 x2577) v0 6 := d_x2574.trans (rd_j (by decide)).symm
                      have d_x2577 : x2577 = fI (sI S2556 v0 4 x2577) v0 4 := (u2_self _ _ _ _).symm
                      exact hq _ hI g0 f0 hT
                · refine ⟨o_v0, ?_⟩
                  intro x2578 ex2578
                  have q_x2578 : x2578 = y2570 := ex2578.trans d_y2570.symm
                  have d_x2578 := ex2578
                  intro x2579 ex2579
                  have q_x2579 : x2579 = x1340 := ex2579.trans d_x1340.symm
                  have d_x2579 := ex2579
                  refine ⟨fun c2580 => ?_, fun c2580 => ?_⟩
                  · refine u_X4_next_240 ?_
                    refine ⟨fun c2581 => ?_, fun c2581 => ?_⟩
                    · exact hq _ hI g0 f0 hT
                    · refine ⟨o_v0, ?_⟩
                      intro x2582 ex2582
                      have q_x2582 : x2582 = x2446 := ex2582.trans d_x2446.symm
                      have d_x2582 := ex2582
                      refine ⟨fun c2583 => ?_, fun c2583 => ?_⟩
                      · exact hq _ hI g0 f0 hT
                      · intro x2584 ex2584
                        have q_x2584 : x2584 = x2578 := ex2584.trans d_x2578.symm
                        have d_x2584 := ex2584
                        intro x2585 ex2585
                        have hI := iv_sI (j := 4) (v := x2585) hI o_v0 (by decide) (nu_free (by decide))
                        have f0 : FRI _ _ _ (sI S2556 v0 4 x2585) := fri_sI g0 f0 o_v0 (by decide)
                        have fL3 : FRI _ _ _ (sI S2556 v0 4 x2585) := fri_sI gL2 fL3 o_v0 (by decide)
                        have fL2558 : FRI _ _ _ (sI S2556 v0 4 x2585) := fri_sI gL2557 fL2558 o_v0 (by decide)
                        have d_x2579 : x2579 = fI (sI S2556 v0 4 x2585) v0 7 := d_x2579.trans (rd_j (by decide)).symm
                        have d_x2582 : x2582 = fI (sI S2556 v0 4 x2585) v0 6 := d_x2582.trans (rd_j (by decide)).symm
                        have d_x2585 : x2585 = fI (sI S2556 v0 4 x2585) v0 4 := (u2_self _ _ _ _).symm
                        exact hq _ hI g0 f0 hT
                  · have hI := iv_sI (j := 6) (v := (6 : Int32)) hI o_v0 (by decide) (nu_free (by decide))
                    have f0 : FRI _ _ _ (sI S2556 v0 6 (6 : Int32)) := fri_sI g0 f0 o_v0 (by decide)
                    have fL3 : FRI _ _ _ (sI S2556 v0 6 (6 : Int32)) := fri_sI gL2 fL3 o_v0 (by decide)
                    have fL2558 : FRI _ _ _ (sI S2556 v0 6 (6 : Int32)) := fri_sI gL2557 fL2558 o_v0 (by decide)
                    have d_x2579 : x2579 = fI (sI S2556 v0 6 (6 : Int32)) v0 7 := d_x2579.trans (rd_j (by decide)).symm
                    have d_x2578 : x2578 = fI (sI S2556 v0 6 (6 : Int32)) v0 4 := d_x2578.trans (rd_j (by decide)).symm
                    obtain ⟨y2586, hy2586⟩ : ∃ z : Int32, z = (6 : Int32) := ⟨_, rfl⟩
                    have d_y2586 : y2586 = fI (sI S2556 v0 6 (6 : Int32)) v0 6 := hy2586.trans (u2_self _ _ _ _).symm
                    refine u_X4_next_240 ?_
                    refine ⟨fun c2587 => ?_, fun c2587 => ?_⟩
                    · exact hq _ hI g0 f0 hT
                    · refine ⟨o_v0, ?_⟩
                      intro x2588 ex2588
                      have q_x2588 : x2588 = y2586 := ex2588.trans d_y2586.symm
                      have d_x2588 := ex2588
                      refine ⟨fun c2589 => ?_, fun c2589 => ?_⟩
                      · exact hq _ hI g0 f0 hT
                      · intro x2590 ex2590
                        have q_x2590 : x2590 = x2578 := ex2590.trans d_x2578.symm
                        have d_x2590 := ex2590
                        intro x2591 ex2591
                        have hI := iv_sI (j := 4) (v := x2591) hI o_v0 (by decide) (nu_free (by decide))
                        have f0 : FRI _ _ _ (sI (sI S2556 v0 6 (6 : Int32)) v0 4 x2591) := fri_sI g0 f0 o_v0 (by decide)
                        have fL3 : FRI _ _ _ (sI (sI S2556 v0 6 (6 : Int32)) v0 4 x2591) := fri_sI gL2 fL3 o_v0 (by decide)
                        have fL2558 : FRI _ _ _ (sI (sI S2556 v0 6 (6 : Int32)) v0 4 x2591) := fri_sI gL2557 fL2558 o_v0 (by decide)
                        have d_x2579 : x2579 = fI (sI (sI S2556 v0 6 (6 : Int32)) v0 4 x2591) v0 7 := d_x2579.trans (rd_j (by decide)).symm
                        have d_x2588 : x2588 = fI (sI (sI S2556 v0 6 (6 : Int32)) v0 4 x2591) v0 6 := d_x2588.trans (rd_j (by decide)).symm
                        have d_x2591 : x2591 = fI (sI (sI S2556 v0 6 (6 : Int32)) v0 4 x2591) v0 4 := (u2_self _ _ _ _).symm
                        exact hq _ hI g0 f0 hT
              · refine ⟨fun c2592 => ?_, fun c2592 => ?_⟩
                · refine u_X4_next_217 ?_
                  refine ⟨fun c2593 => ?_, fun c2593 => ?_⟩
                  · refine u_X4_next_240 ?_
                    refine ⟨fun c2594 => ?_, fun c2594 => ?_⟩
                    · exact hq _ hI g0 f0 hT
                    · refine ⟨o_v0, ?_⟩
                      intro x2595 ex2595
                      have q_x2595 : x2595 = x2446 := ex2595.trans d_x2446.symm
                      have d_x2595 := ex2595
                      refine ⟨fun c2596 => ?_, fun c2596 => ?_⟩
                      · exact hq _ hI g0 f0 hT
                      · intro x2597 ex2597
                        have q_x2597 : x2597 = y2570 := ex2597.trans d_y2570.symm
                        have d_x2597 := ex2597
                        intro x2598 ex2598
                        have hI := iv_sI (j := 4) (v := x2598) hI o_v0 (by decide) (nu_free (by decide))
                        have f0 : FRI _ _ _ (sI S2556 v0 4 x2598) := fri_sI g0 f0 o_v0 (by decide)
                        have fL3 : FRI _ _ _ (sI S2556 v0 4 x2598) := fri_sI gL2 fL3 o_v0 (by decide)
                        have fL2558 : FRI _ _ _ (sI S2556 v0 4 x2598) := fri_sI gL2557 fL2558 o_v0 (by decide)
                        have d_x1340 : x1340 = fI (sI S2556 v0 4 x2598) v0 7 := d_x1340.trans (rd_j (by decide)).symm
                        have d_x2595 : x2595 = fI (sI S2556 v0 4 x2598) v0 6 := d_x2595.trans (rd_j (by decide)).symm
                        have d_x2598 : x2598 = fI (sI S2556 v0 4 x2598) v0 4 := (u2_self _ _ _ _).symm
                        exact hq _ hI g0 f0 hT
                  · refine ⟨o_v0, ?_⟩
                    intro x2599 ex2599
                    have q_x2599 : x2599 = y2570 := ex2599.trans d_y2570.symm
                    have d_x2599 := ex2599
                    intro x2600 ex2600
                    have q_x2600 : x2600 = x1340 := ex2600.trans d_x1340.symm
                    have d_x2600 := ex2600
                    refine ⟨fun c2601 => ?_, fun c2601 => ?_⟩
                    · refine u_X4_next_240 ?_
                      refine ⟨fun c2602 => ?_, fun c2602 => ?_⟩
                      · exact hq _ hI g0 f0 hT
                      · refine ⟨o_v0, ?_⟩
                        intro x2603 ex2603
                        have q_x2603 : x2603 = x2446 := ex2603.trans d_x2446.symm
                        have d_x2603 := ex2603
                        refine ⟨fun c2604 => ?_, fun c2604 => ?_⟩
                        · exact hq _ hI g0 f0 hT
                        · intro x2605 ex2605
                          have q_x2605 : x2605 = x2599 := ex2605.trans d_x2599.symm
                          have d_x2605 := ex2605
                          intro x2606 ex2606
                          have hI := iv_sI (j := 4) (v := x2606) hI o_v0 (by decide) (nu_free (by decide))
                          have f0 : FRI _ _ _ (sI S2556 v0 4 x2606) := fri_sI g0 f0 o_v0 (by decide)
                          have fL3 : FRI _ _ _ (sI S2556 v0 4 x2606) := fri_sI gL2 fL3 o_v0 (by decide)
                          have fL2558 : FRI _ _ _ (sI S2556 v0 4 x2606) := fri_sI gL2557 fL2558 o_v0 (by decide)
                          have d_x2600 : x2600 = fI (sI S2556 v0 4 x2606) v0 7 := d_x2600.trans (rd_j (by decide)).symm
                          have d_x2603 : x2603 = fI (sI S2556 v0 4 x2606) v0 6 := d_x2603.trans (rd_j (by decide)).symm
                          have d_x2606 : x2606 = fI (sI S2556 v0 4 x2606) v0 4 := (u2_self _ _ _ _).symm
                          exact hq _ hI g0 f0 hT
                    · have hI := iv_sI (j := 6) (v := (6 : Int32)) hI o_v0 (by decide) (nu_free (by decide))
                      have f0 : FRI _ _ _ (sI S2556 v0 6 (6 : Int32)) := fri_sI g0 f0 o_v0 (by decide)
                      have fL3 : FRI _ _ _ (sI S2556 v0 6 (6 : Int32)) := fri_sI gL2 fL3 o_v0 (by decide)
                      have fL2558 : FRI _ _ _ (sI S2556 v0 6 (6 : Int32)) := fri_sI gL2557 fL2558 o_v0 (by decide)
                      have d_x2600 : x2600 = fI (sI S2556 v0 6 (6 : Int32)) v0 7 := d_x2600.trans (rd_j (by decide)).symm
                      have d_x2599 : x2599 = fI (sI S2556 v0 6 (6 : Int32)) v0 4 := d_x2599.trans (rd_j (by decide)).symm
                      obtain ⟨y2607, hy2607⟩ : ∃ z : Int32, z = (6 : Int32) := ⟨_, rfl⟩
                      have d_y2607 : y2607 = fI (sI S2556 v0 6 (6 : Int32)) v0 6 := hy2607.trans (u2_self _ _ _ _).symm
                      refine u_X4_next_240 ?_
                      refine ⟨fun c2608 => ?_, fun c2608 => ?_⟩
                      · exact hq _ hI g0 f0 hT
                      · refine ⟨o_v0, ?_⟩
                        intro x2609 ex2609
                        have q_x2609 : x2609 = y2607 := ex2609.trans d_y2607.symm
                        have d_x2609 := ex2609
                        refine ⟨fun c2610 => ?_, fun c2610 => ?_⟩
                        · exact hq _ hI g0 f0 hT
                        · intro x2611 ex2611
                          have q_x2611 : x2611 = x2599 := ex2611.trans d_x2599.symm
                          have d_x2611 := ex2611
                          intro x2612 ex2612
                          have hI := iv_sI (j := 4) (v := x2612) hI o_v0 (by decide) (nu_free (by decide))
                          have f0 : FRI _ _ _ (sI (sI S2556 v0 6 (6 : Int32)) v0 4 x2612) := fri_sI g0 f0 o_v0 (by decide)
                          have fL3 : FRI _ _ _ (sI (sI S2556 v0 6 (6 : Int32)) v0 4 x2612) := fri_sI gL2 fL3 o_v0 (by decide)
                          have fL2558 : FRI _ _ _ (sI (sI S2556 v0 6 (6 : Int32)) v0 4 x2612) := fri_sI gL2557 fL2558 o_v0 (by decide)
                          have d_x2600 : x2600 = fI (sI (sI S2556 v0 6 (6 : Int32)) v0 4 x2612) v0 7 := d_x2600.trans (rd_j (by decide)).symm
                          have d_x2609 : x2609 = fI (sI (sI S2556 v0 6 (6 : Int32)) v0 4 x2612) v0 6 := d_x2609.trans (rd_j (by decide)).symm
                          have d_x2612 : x2612 = fI (sI (sI S2556 v0 6 (6 : Int32)) v0 4 x2612) v0 4 := (u2_self _ _ _ _).symm
                          exact hq _ hI g0 f0 hT
                · refine ⟨o_v0, ?_⟩
                  intro x2613 ex2613
                  have q_x2613 : x2613 = y2570 := ex2613.trans d_y2570.symm
                  have d_x2613 := ex2613
                  refine m_X4_sortAt hI o_v0 hT (fun x2614 S2615 hI2 g2616 p_x2614 => ?_)
                  obtain ⟨z_S2615, p_x2614⟩ := p_x2614
                  subst z_S2615
                  intro _
                  intro x2618 ex2618
                  have q_x2618 : x2618 = x2446 := ex2618.trans d_x2446.symm
                  have d_x2618 := ex2618
                  refine ⟨fun c2619 => ?_, fun c2619 => ?_⟩
                  · refine u_X4_next_217 ?_
                    refine ⟨fun c2620 => ?_, fun c2620 => ?_⟩
                    · refine u_X4_next_240 ?_
                      refine ⟨fun c2621 => ?_, fun c2621 => ?_⟩
                      · exact hq _ hI g0 f0 hT
                      · refine ⟨o_v0, ?_⟩
                        intro x2622 ex2622
                        have q_x2622 : x2622 = x2618 := ex2622.trans d_x2618.symm
                        have d_x2622 := ex2622
                        refine ⟨fun c2623 => ?_, fun c2623 => ?_⟩
                        · exact hq _ hI g0 f0 hT
                        · intro x2624 ex2624
                          have q_x2624 : x2624 = x2613 := ex2624.trans d_x2613.symm
                          have d_x2624 := ex2624
                          intro x2625 ex2625
                          have hI := iv_sI (j := 4) (v := x2625) hI o_v0 (by decide) (nu_free (by decide))
                          have f0 : FRI _ _ _ (sI S2556 v0 4 x2625) := fri_sI g0 f0 o_v0 (by decide)
                          have fL3 : FRI _ _ _ (sI S2556 v0 4 x2625) := fri_sI gL2 fL3 o_v0 (by decide)
                          have fL2558 : FRI _ _ _ (sI S2556 v0 4 x2625) := fri_sI gL2557 fL2558 o_v0 (by decide)
                          have d_x1340 : x1340 = fI (sI S2556 v0 4 x2625) v0 7 := d_x1340.trans (rd_j (by decide)).symm
                          have d_x2622 : x2622 = fI (sI S2556 v0 4 x2625) v0 6 := d_x2622.trans (rd_j (by decide)).symm
                          have d_x2625 : x2625 = fI (sI S2556 v0 4 x2625) v0 4 := (u2_self _ _ _ _).symm
                          exact hq _ hI g0 f0 hT
                    · refine ⟨o_v0, ?_⟩
                      intro x2626 ex2626
                      have q_x2626 : x2626 = x2613 := ex2626.trans d_x2613.symm
                      have d_x2626 := ex2626
                      intro x2627 ex2627
                      have q_x2627 : x2627 = x1340 := ex2627.trans d_x1340.symm
                      have d_x2627 := ex2627
                      refine ⟨fun c2628 => ?_, fun c2628 => ?_⟩
                      · refine u_X4_next_240 ?_
                        refine ⟨fun c2629 => ?_, fun c2629 => ?_⟩
                        · exact hq _ hI g0 f0 hT
                        · refine ⟨o_v0, ?_⟩
                          intro x2630 ex2630
                          have q_x2630 : x2630 = x2618 := ex2630.trans d_x2618.symm
                          have d_x2630 := ex2630
                          refine ⟨fun c2631 => ?_, fun c2631 => ?_⟩
                          · exact hq _ hI g0 f0 hT
                          · intro x2632 ex2632
                            have q_x2632 : x2632 = x2626 := ex2632.trans d_x2626.symm
                            have d_x2632 := ex2632
                            intro x2633 ex2633
                            have hI := iv_sI (j := 4) (v := x2633) hI o_v0 (by decide) (nu_free (by decide))
                            have f0 : FRI _ _ _ (sI S2556 v0 4 x2633) := fri_sI g0 f0 o_v0 (by decide)
                            have fL3 : FRI _ _ _ (sI S2556 v0 4 x2633) := fri_sI gL2 fL3 o_v0 (by decide)
                            have fL2558 : FRI _ _ _ (sI S2556 v0 4 x2633) := fri_sI gL2557 fL2558 o_v0 (by decide)
                            have d_x2627 : x2627 = fI (sI S2556 v0 4 x2633) v0 7 := d_x2627.trans (rd_j (by decide)).symm
                            have d_x2630 : x2630 = fI (sI S2556 v0 4 x2633) v0 6 := d_x2630.trans (rd_j (by decide)).symm
                            have d_x2633 : x2633 = fI (sI S2556 v0 4 x2633) v0 4 := (u2_self _ _ _ _).symm
                            exact hq _ hI g0 f0 hT
                      · have hI := iv_sI (j := 6) (v := (6 : Int32)) hI o_v0 (by decide) (nu_free (by decide))
                        have f0 : FRI _ _ _ (sI S2556 v0 6 (6 : Int32)) := fri_sI g0 f0 o_v0 (by decide)
                        have fL3 : FRI _ _ _ (sI S2556 v0 6 (6 : Int32)) := fri_sI gL2 fL3 o_v0 (by decide)
                        have fL2558 : FRI _ _ _ (sI S2556 v0 6 (6 : Int32)) := fri_sI gL2557 fL2558 o_v0 (by decide)
                        have d_x2627 : x2627 = fI (sI S2556 v0 6 (6 : Int32)) v0 7 := d_x2627.trans (rd_j (by decide)).symm
                        have d_x2626 : x2626 = fI (sI S2556 v0 6 (6 : Int32)) v0 4 := d_x2626.trans (rd_j (by decide)).symm
                        obtain ⟨y2634, hy2634⟩ : ∃ z : Int32, z = (6 : Int32) := ⟨_, rfl⟩
                        have d_y2634 : y2634 = fI (sI S2556 v0 6 (6 : Int32)) v0 6 := hy2634.trans (u2_self _ _ _ _).symm
                        refine u_X4_next_240 ?_
                        refine ⟨fun c2635 => ?_, fun c2635 => ?_⟩
                        · exact hq _ hI g0 f0 hT
                        · refine ⟨o_v0, ?_⟩
                          intro x2636 ex2636
                          have q_x2636 : x2636 = y2634 := ex2636.trans d_y2634.symm
                          have d_x2636 := ex2636
                          refine ⟨fun c2637 => ?_, fun c2637 => ?_⟩
                          · exact hq _ hI g0 f0 hT
                          · intro x2638 ex2638
                            have q_x2638 : x2638 = x2626 := ex2638.trans d_x2626.symm
                            have d_x2638 := ex2638
                            intro x2639 ex2639
                            have hI := iv_sI (j := 4) (v := x2639) hI o_v0 (by decide) (nu_free (by decide))
                            have f0 : FRI _ _ _ (sI (sI S2556 v0 6 (6 : Int32)) v0 4 x2639) := fri_sI g0 f0 o_v0 (by decide)
                            have fL3 : FRI _ _ _ (sI (sI S2556 v0 6 (6 : Int32)) v0 4 x2639) := fri_sI gL2 fL3 o_v0 (by decide)
                            have fL2558 : FRI _ _ _ (sI (sI S2556 v0 6 (6 : Int32)) v0 4 x2639) := fri_sI gL2557 fL2558 o_v0 (by decide)
                            have d_x2627 : x2627 = fI (sI (sI S2556 v0 6 (6 : Int32)) v0 4 x2639) v0 7 := d_x2627.trans (rd_j (by decide)).symm
                            have d_x2636 : x2636 = fI (sI (sI S2556 v0 6 (6 : Int32)) v0 4 x2639) v0 6 := d_x2636.trans (rd_j (by decide)).symm
                            have d_x2639 : x2639 = fI (sI (sI S2556 v0 6 (6 : Int32)) v0 4 x2639) v0 4 := (u2_self _ _ _ _).symm
                            exact hq _ hI g0 f0 hT
                  · refine ⟨fun c2640 => ?_, fun c2640 => ?_⟩
                    · refine u_X4_next_201 ?_
                      refine ⟨o_v0, ?_⟩
                      intro x2641 ex2641
                      have q_x2641 : x2641 = x2613 := ex2641.trans d_x2613.symm
                      have d_x2641 := ex2641
                      intro x2642 ex2642
                      have hI := iv_sI (j := 4) (v := x2642) hI o_v0 (by decide) (nu_free (by decide))
                      have f0 : FRI _ _ _ (sI S2556 v0 4 x2642) := fri_sI g0 f0 o_v0 (by decide)
                      have fL3 : FRI _ _ _ (sI S2556 v0 4 x2642) := fri_sI gL2 fL3 o_v0 (by decide)
                      have fL2558 : FRI _ _ _ (sI S2556 v0 4 x2642) := fri_sI gL2557 fL2558 o_v0 (by decide)
                      have d_x1340 : x1340 = fI (sI S2556 v0 4 x2642) v0 7 := d_x1340.trans (rd_j (by decide)).symm
                      have d_x2618 : x2618 = fI (sI S2556 v0 4 x2642) v0 6 := d_x2618.trans (rd_j (by decide)).symm
                      have d_x2642 : x2642 = fI (sI S2556 v0 4 x2642) v0 4 := (u2_self _ _ _ _).symm
                      intro x2643 ex2643
                      exact ih2569 _ _ _ _ _ _ ⟨hI, gL2557, fL2558, rfl, rfl, rfl, rfl, hT, (q668 i1 c9 p_x1335 c1339 q_x1340 q_x1341 p_x1342 q_x1346 c1347 q_x1786 c1787 q_x2226 c2227 q_x2446 c2447 i1 p_k1 c2592 q_x2613 p_x2614 q_x2618 c2619 c2640 q_x2641 ex2642 ex2643), (by rw [← d_x2618, ← d_x2642]; exact (q669 i1 c9 p_x1335 c1339 q_x1340 q_x1341 p_x1342 q_x1346 c1347 q_x1786 c1787 q_x2226 c2227 q_x2446 c2447 i1 p_k1 c2592 q_x2613 p_x2614 q_x2618 c2619 c2640 q_x2641 ex2642 ex2643))⟩ (mu_up (q670 i1 c9 p_x1335 c1339 q_x1340 q_x1341 p_x1342 q_x1346 c1347 q_x1786 c1787 q_x2226 c2227 q_x2446 c2447 i1 p_k1 c2592 q_x2613 p_x2614 q_x2618 c2619 c2640 q_x2641 ex2642 ex2643) (q671 i1 c9 p_x1335 c1339 q_x1340 q_x1341 p_x1342 q_x1346 c1347 q_x1786 c1787 q_x2226 c2227 q_x2446 c2447 i1 p_k1 c2592 q_x2613 p_x2614 q_x2618 c2619 c2640 q_x2641 ex2642 ex2643))
                    · intro x2644 ex2644
                      have q_x2644 : x2644 = x2613 := ex2644.trans d_x2613.symm
                      have d_x2644 := ex2644
                      obtain ⟨a2645, ea2645, o_a2645, l_a2645⟩ := hT
                      refine ⟨a2645, ea2645, ?_⟩
                      refine ⟨o_a2645, ?_⟩
                      have n_a2645 : nI (hN S2556 a2645) = 900 := by rw [show hN S2556 a2645 = 900 from l_a2645]; decide
                      refine ⟨fun c2646 => ?_, fun c2646 => ?_⟩
                      · rw [n_a2645] at c2646
                        refine u_X4_next_201 ?_
                        refine ⟨o_v0, ?_⟩
                        intro x2647 ex2647
                        have q_x2647 : x2647 = x2644 := ex2647.trans d_x2644.symm
                        have d_x2647 := ex2647
                        intro x2648 ex2648
                        have hI := iv_sI (j := 4) (v := x2648) hI o_v0 (by decide) (nu_free (by decide))
                        have f0 : FRI _ _ _ (sI S2556 v0 4 x2648) := fri_sI g0 f0 o_v0 (by decide)
                        have fL3 : FRI _ _ _ (sI S2556 v0 4 x2648) := fri_sI gL2 fL3 o_v0 (by decide)
                        have fL2558 : FRI _ _ _ (sI S2556 v0 4 x2648) := fri_sI gL2557 fL2558 o_v0 (by decide)
                        have d_x1340 : x1340 = fI (sI S2556 v0 4 x2648) v0 7 := d_x1340.trans (rd_j (by decide)).symm
                        have d_x2618 : x2618 = fI (sI S2556 v0 4 x2648) v0 6 := d_x2618.trans (rd_j (by decide)).symm
                        have d_x2648 : x2648 = fI (sI S2556 v0 4 x2648) v0 4 := (u2_self _ _ _ _).symm
                        intro x2649 ex2649
                        exact ih2569 _ _ _ _ _ _ ⟨hI, gL2557, fL2558, rfl, rfl, rfl, rfl, hT, (q672 i1 c9 p_x1335 c1339 q_x1340 q_x1341 p_x1342 q_x1346 c1347 q_x1786 c1787 q_x2226 c2227 q_x2446 c2447 i1 p_k1 c2592 q_x2613 p_x2614 q_x2618 c2619 c2640 q_x2644 c2646 q_x2647 ex2648 ex2649), (by rw [← d_x2618, ← d_x2648]; exact (q673 i1 c9 p_x1335 c1339 q_x1340 q_x1341 p_x1342 q_x1346 c1347 q_x1786 c1787 q_x2226 c2227 q_x2446 c2447 i1 p_k1 c2592 q_x2613 p_x2614 q_x2618 c2619 c2640 q_x2644 c2646 q_x2647 ex2648 ex2649))⟩ (mu_up (q674 i1 c9 p_x1335 c1339 q_x1340 q_x1341 p_x1342 q_x1346 c1347 q_x1786 c1787 q_x2226 c2227 q_x2446 c2447 i1 p_k1 c2592 q_x2613 p_x2614 q_x2618 c2619 c2640 q_x2644 c2646 q_x2647 ex2648 ex2649) (q675 i1 c9 p_x1335 c1339 q_x1340 q_x1341 p_x1342 q_x1346 c1347 q_x1786 c1787 q_x2226 c2227 q_x2446 c2447 i1 p_k1 c2592 q_x2613 p_x2614 q_x2618 c2619 c2640 q_x2644 c2646 q_x2647 ex2648 ex2649))
                      · rw [n_a2645] at c2646
                        intro x2650 ex2650
                        have dj_x2650 := ex2650
                        refine ⟨a2645, ea2645, ?_⟩
                        intro x2652 ex2652
                        have q_x2652 : x2652 = x2644 := ex2652.trans d_x2644.symm
                        have d_x2652 := ex2652
                        refine ⟨o_a2645, ?_⟩
                        refine ⟨(vin l_a2645 (m := 900) (by decide) (q676 i1 c9 p_x1335 c1339 q_x1340 q_x1341 p_x1342 q_x1346 c1347 q_x1786 c1787 q_x2226 c2227 q_x2446 c2447 i1 p_k1 c2592 q_x2613 p_x2614 q_x2618 c2619 c2640 q_x2644 c2646 q_x2652)), ?_⟩
                        intro x2653 ex2653
                        intro x2654 ex2654
                        have q_x2654 : x2654 = x2618 := ex2654.trans d_x2618.symm
                        have d_x2654 := ex2654
                        refine ⟨fun c2655 => ?_, fun c2655 => ?_⟩
                        · refine u_X4_next_195 ?_
                          refine ⟨o_v0, ?_⟩
                          intro x2656 ex2656
                          have hI := iv_sJ (j := 8) (v := x2656) hI o_v0 (by decide)
                          refine u_X4_next_201 ?_
                          refine ⟨o_v0, ?_⟩
                          intro x2657 ex2657
                          have q_x2657 : x2657 = x2652 := ex2657.trans d_x2652.symm
                          have d_x2657 := ex2657
                          intro x2658 ex2658
                          have hI := iv_sI (j := 4) (v := x2658) hI o_v0 (by decide) (nu_free (by decide))
                          have f0 : FRI _ _ _ (sI (sJ S2556 v0 8 x2656) v0 4 x2658) := fri_sI g0 f0 o_v0 (by decide)
                          have fL3 : FRI _ _ _ (sI (sJ S2556 v0 8 x2656) v0 4 x2658) := fri_sI gL2 fL3 o_v0 (by decide)
                          have fL2558 : FRI _ _ _ (sI (sJ S2556 v0 8 x2656) v0 4 x2658) := fri_sI gL2557 fL2558 o_v0 (by decide)
                          have d_x1340 : x1340 = fI (sI (sJ S2556 v0 8 x2656) v0 4 x2658) v0 7 := d_x1340.trans (rd_j (by decide)).symm
                          have d_x2654 : x2654 = fI (sI (sJ S2556 v0 8 x2656) v0 4 x2658) v0 6 := d_x2654.trans (rd_j (by decide)).symm
                          have d_x2658 : x2658 = fI (sI (sJ S2556 v0 8 x2656) v0 4 x2658) v0 4 := (u2_self _ _ _ _).symm
                          intro x2659 ex2659
                          exact ih2569 _ _ _ _ _ _ ⟨hI, gL2557, fL2558, rfl, rfl, rfl, rfl, hT, (q677 i1 c9 p_x1335 c1339 q_x1340 q_x1341 p_x1342 q_x1346 c1347 q_x1786 c1787 q_x2226 c2227 q_x2446 c2447 i1 p_k1 c2592 q_x2613 p_x2614 q_x2618 c2619 c2640 q_x2644 c2646 q_x2652 q_x2654 c2655 q_x2657 ex2658 ex2659), (by rw [← d_x2654, ← d_x2658]; exact (q678 i1 c9 p_x1335 c1339 q_x1340 q_x1341 p_x1342 q_x1346 c1347 q_x1786 c1787 q_x2226 c2227 q_x2446 c2447 i1 p_k1 c2592 q_x2613 p_x2614 q_x2618 c2619 c2640 q_x2644 c2646 q_x2652 q_x2654 c2655 q_x2657 ex2658 ex2659))⟩ (mu_up (q679 i1 c9 p_x1335 c1339 q_x1340 q_x1341 p_x1342 q_x1346 c1347 q_x1786 c1787 q_x2226 c2227 q_x2446 c2447 i1 p_k1 c2592 q_x2613 p_x2614 q_x2618 c2619 c2640 q_x2644 c2646 q_x2652 q_x2654 c2655 q_x2657 ex2658 ex2659) (q680 i1 c9 p_x1335 c1339 q_x1340 q_x1341 p_x1342 q_x1346 c1347 q_x1786 c1787 q_x2226 c2227 q_x2446 c2447 i1 p_k1 c2592 q_x2613 p_x2614 q_x2618 c2619 c2640 q_x2644 c2646 q_x2652 q_x2654 c2655 q_x2657 ex2658 ex2659))
                        · refine u_X4_next_195 ?_
                          refine ⟨o_v0, ?_⟩
                          intro x2660 ex2660
                          have hI := iv_sJ (j := 8) (v := x2660) hI o_v0 (by decide)
                          refine u_X4_next_201 ?_
                          refine ⟨o_v0, ?_⟩
                          intro x2661 ex2661
                          have q_x2661 : x2661 = x2652 := ex2661.trans d_x2652.symm
                          have d_x2661 := ex2661
                          intro x2662 ex2662
                          have hI := iv_sI (j := 4) (v := x2662) hI o_v0 (by decide) (nu_free (by decide))
                          have f0 : FRI _ _ _ (sI (sJ S2556 v0 8 x2660) v0 4 x2662) := fri_sI g0 f0 o_v0 (by decide)
                          have fL3 : FRI _ _ _ (sI (sJ S2556 v0 8 x2660) v0 4 x2662) := fri_sI gL2 fL3 o_v0 (by decide)
                          have fL2558 : FRI _ _ _ (sI (sJ S2556 v0 8 x2660) v0 4 x2662) := fri_sI gL2557 fL2558 o_v0 (by decide)
                          have d_x1340 : x1340 = fI (sI (sJ S2556 v0 8 x2660) v0 4 x2662) v0 7 := d_x1340.trans (rd_j (by decide)).symm
                          have d_x2654 : x2654 = fI (sI (sJ S2556 v0 8 x2660) v0 4 x2662) v0 6 := d_x2654.trans (rd_j (by decide)).symm
                          have d_x2662 : x2662 = fI (sI (sJ S2556 v0 8 x2660) v0 4 x2662) v0 4 := (u2_self _ _ _ _).symm
                          intro x2663 ex2663
                          exact ih2569 _ _ _ _ _ _ ⟨hI, gL2557, fL2558, rfl, rfl, rfl, rfl, hT, (q681 i1 c9 p_x1335 c1339 q_x1340 q_x1341 p_x1342 q_x1346 c1347 q_x1786 c1787 q_x2226 c2227 q_x2446 c2447 i1 p_k1 c2592 q_x2613 p_x2614 q_x2618 c2619 c2640 q_x2644 c2646 q_x2652 q_x2654 c2655 q_x2661 ex2662 ex2663), (by rw [← d_x2654, ← d_x2662]; exact (q682 i1 c9 p_x1335 c1339 q_x1340 q_x1341 p_x1342 q_x1346 c1347 q_x1786 c1787 q_x2226 c2227 q_x2446 c2447 i1 p_k1 c2592 q_x2613 p_x2614 q_x2618 c2619 c2640 q_x2644 c2646 q_x2652 q_x2654 c2655 q_x2661 ex2662 ex2663))⟩ (mu_up (q683 i1 c9 p_x1335 c1339 q_x1340 q_x1341 p_x1342 q_x1346 c1347 q_x1786 c1787 q_x2226 c2227 q_x2446 c2447 i1 p_k1 c2592 q_x2613 p_x2614 q_x2618 c2619 c2640 q_x2644 c2646 q_x2652 q_x2654 c2655 q_x2661 ex2662 ex2663) (q684 i1 c9 p_x1335 c1339 q_x1340 q_x1341 p_x1342 q_x1346 c1347 q_x1786 c1787 q_x2226 c2227 q_x2446 c2447 i1 p_k1 c2592 q_x2613 p_x2614 q_x2618 c2619 c2640 q_x2644 c2646 q_x2652 q_x2654 c2655 q_x2661 ex2662 ex2663))
    · intro x2664 ex2664
      have q_x2664 : x2664 = x1334 := ex2664.trans d_x1334.symm
      have d_x2664 := ex2664
      intro x2665 ex2665
      have hI := iv_sI (j := 4) (v := x2665) hI o_v0 (by decide) (nu_free (by decide))
      have f0 : FRI _ _ _ (sI S1 v0 4 x2665) := fri_sI g0 f0 o_v0 (by decide)
      have fL3 : FRI _ _ _ (sI S1 v0 4 x2665) := fri_sI gL2 fL3 o_v0 (by decide)
      have d_x2665 : x2665 = fI (sI S1 v0 4 x2665) v0 4 := (u2_self _ _ _ _).symm
      intro x2666 ex2666
      exact ih8 _ _ _ ⟨hI, gL2, fL3, rfl, hT, (q685 i1 c9 p_x1335 c1339 q_x2664 ex2665 ex2666)⟩ (mu_up (q686 i1 c9 p_x1335 c1339 q_x2664 ex2665 ex2666) (q687 i1 c9 p_x1335 c1339 q_x2664 ex2665 ex2666))
