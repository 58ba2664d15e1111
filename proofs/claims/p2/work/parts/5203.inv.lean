set_option maxHeartbeats 4000000 in
set_option maxRecDepth 20000 in
theorem m_X4_walkerLine {v0 : Nat} {Q : Int32 → HS → Prop} {S : HS} (hI : IV S) (o_v0 : ob S v0 4)    (hT : TX S v0) (hq : ∀ (r : Int32) (T : HS), IV T → Gr S T → bl r → (TX T v0) → Q r T) : P_X4_walkerLine v0 Q S := by
  have g0 := gr_rf S
  refine u_X4_walkerLine ?_
  refine u_X4_walkerLine_0 ?_
  refine ⟨o_v0, ?_⟩
  obtain ⟨a1, ea1, o_a1, -⟩ := sh 12 rfl hI o_v0
  refine ⟨a1, ea1, ?_⟩
  refine ⟨o_a1, ?_⟩
  obtain ⟨a2, ea2, o_a2, l_a2⟩ := shl 18 rfl hI o_a1
  refine ⟨a2, ea2, ?_⟩
  obtain ⟨a3, ea3, o_a3, -⟩ := sh 12 rfl hI o_v0
  refine ⟨a3, ea3, ?_⟩
  refine ⟨o_a3, ?_⟩
  intro x4 ex4
  have r_x4 : (0 : Int32) ≤ x4 ∧ x4 ≤ (4 : Int32) := by rw [ex4]; exact nu 14 rfl hI o_a3
  refine ⟨o_a2, ?_⟩
  have i6 : vp_in x4 (hN _ a2) := (vin l_a2 (m := 4) (by decide) (q60 r_x4))
  obtain ⟨a5, ea5, o_a5⟩ := ae hI o_a2 (by decide) (by decide) i6
  replace o_a5 : ob _ a5 6 := o_a5
  refine ⟨i6, a5, ea5, ?_⟩
  obtain ⟨a7, ea7, o_a7, -⟩ := sh 12 rfl hI o_v0
  refine ⟨a7, ea7, ?_⟩
  refine ⟨o_a7, ?_⟩
  intro x8 ex8
  have r_x8 : (0 : Int32) ≤ x8 ∧ x8 ≤ (4 : Int32) := by rw [ex8]; exact nu 14 rfl hI o_a7
  refine m_X4_newName hI o_v0 hT (fun x9 S10 hI g11 b_x9 p_x9 => ?_)
  obtain hT := p_x9
  have l_a2 := (gr_len g11 o_a2).trans l_a2
  have o_a1 := gr_ob g11 o_a1
  have o_a2 := gr_ob g11 o_a2
  have o_a3 := gr_ob g11 o_a3
  have o_a5 := gr_ob g11 o_a5
  have o_a7 := gr_ob g11 o_a7
  have o_v0 := gr_ob g11 o_v0
  have g0 := gr_tr g0 g11
  intro _ _
  have bb_x9 : x9 = 0 ∨ x9 = 1 := b_x9
  refine ⟨fun c12 => ?_, fun c12 => ?_⟩
  · exact hq _ _ hI g0 (Or.inl rfl) hT
  · refine m_X4_kindOf hI o_v0 o_a5 hT (fun x13 S14 hI g15 b_x13 p_x13 => ?_)
    obtain hT := p_x13
    have l_a2 := (gr_len g15 o_a2).trans l_a2
    have o_a1 := gr_ob g15 o_a1
    have o_a2 := gr_ob g15 o_a2
    have o_a3 := gr_ob g15 o_a3
    have o_a5 := gr_ob g15 o_a5
    have o_a7 := gr_ob g15 o_a7
    have o_v0 := gr_ob g15 o_v0
    have g0 := gr_tr g0 g15
    intro _ _
    have bb_x13 : x13 = 0 ∨ x13 = 1 := b_x13
    refine ⟨fun c16 => ?_, fun c16 => ?_⟩
    · exact hq _ _ hI g0 (Or.inl rfl) hT
    · refine m_X4_bodyOf hI o_v0 o_a5 hT (fun x17 S18 hI g19 b_x17 p_x17 => ?_)
      obtain hT := p_x17
      have l_a2 := (gr_len g19 o_a2).trans l_a2
      have o_a1 := gr_ob g19 o_a1
      have o_a2 := gr_ob g19 o_a2
      have o_a3 := gr_ob g19 o_a3
      have o_a5 := gr_ob g19 o_a5
      have o_a7 := gr_ob g19 o_a7
      have o_v0 := gr_ob g19 o_v0
      have g0 := gr_tr g0 g19
      intro _ _
      have bb_x17 : x17 = 0 ∨ x17 = 1 := b_x17
      refine ⟨fun c20 => ?_, fun c20 => ?_⟩
      · refine m_X4_wordAndWhole hI o_v0 (by decide) hT (fun x21 S22 hI g23 b_x21 p_x21 => ?_)
        obtain hT := p_x21
        have l_a2 := (gr_len g23 o_a2).trans l_a2
        have o_a1 := gr_ob g23 o_a1
        have o_a2 := gr_ob g23 o_a2
        have o_a3 := gr_ob g23 o_a3
        have o_a5 := gr_ob g23 o_a5
        have o_a7 := gr_ob g23 o_a7
        have o_v0 := gr_ob g23 o_v0
        have g0 := gr_tr g0 g23
        intro _ _
        have bb_x21 : x21 = 0 ∨ x21 = 1 := b_x21
        refine ⟨fun c24 => ?_, fun c24 => ?_⟩
        · intro x25 ex25
          refine ⟨o_a5, ?_⟩
          have hI := iv_sI (j := 5) (v := x25) hI o_a5 (by decide) (nu_one (lo := (0 : Int32)) (hi := (9 : Int32)) (by decide) (q61))
          intro x26 ex26
          have r_x26 : (0 : Int32) ≤ x26 ∧ x26 ≤ (9 : Int32) := by rw [ex26]; exact nu 4 rfl hI o_a5
          refine m_X4_wordAndWhole hI o_v0 (by decide) hT (fun x27 S28 hI g29 b_x27 p_x27 => ?_)
          obtain hT := p_x27
          have l_a2 := (gr_len g29 o_a2).trans l_a2
          have o_a1 := gr_ob g29 o_a1
          have o_a2 := gr_ob g29 o_a2
          have o_a3 := gr_ob g29 o_a3
          have o_a5 := gr_ob g29 o_a5
          have o_a7 := gr_ob g29 o_a7
          have o_v0 := gr_ob g29 o_v0
          have g0 := gr_tr g0 g29
          intro _ _
          have bb_x27 : x27 = 0 ∨ x27 = 1 := b_x27
          refine ⟨fun c30 => ?_, fun c30 => ?_⟩
          · intro x31 ex31
            have hI := iv_sI (j := 6) (v := x31) hI o_a5 (by decide) (nu_one (lo := (0 : Int32)) (hi := (9 : Int32)) (by decide) (q61))
            obtain ⟨a32, ea32, o_a32, -⟩ := sh 12 rfl hI o_v0
            refine ⟨a32, ea32, ?_⟩
            refine ⟨o_a32, ?_⟩
            intro x33 ex33
            have r_x33 : (0 : Int32) ≤ x33 ∧ x33 ≤ (4 : Int32) := by rw [ex33]; exact nu 14 rfl hI o_a32
            intro x34 ex34
            have hI := iv_sI (j := 4) (v := x34) hI o_a32 (by decide) (nu_one (lo := (0 : Int32)) (hi := (4 : Int32)) (by decide) (q62 r_x33 ex34))
            exact hq _ _ hI g0 (Or.inr rfl) hT
          · exact hq _ _ hI g0 (Or.inl rfl) hT
        · exact hq _ _ hI g0 (Or.inl rfl) hT
      · exact hq _ _ hI g0 (Or.inl rfl) hT
set_option maxHeartbeats 4000000 in
set_option maxRecDepth 20000 in
theorem m_X4_worldLine {v0 : Nat} {Q : Int32 → HS → Prop} {S : HS} (hI : IV S) (o_v0 : ob S v0 4)    (hT : TX S v0) (hq : ∀ (r : Int32) (T : HS), IV T → Gr S T → bl r → (TX T v0) → Q r T) : P_X4_worldLine v0 Q S := by
  have g0 := gr_rf S
  refine u_X4_worldLine ?_
  refine u_X4_worldLine_0 ?_
  refine ⟨o_v0, ?_⟩
  obtain ⟨a1, ea1, o_a1, -⟩ := sh 12 rfl hI o_v0
  refine ⟨a1, ea1, ?_⟩
  refine ⟨o_a1, ?_⟩
  refine m_X8_isTold hI o_a1 (fun x2 S3 hI2 g4 b_x2 p_x2 => ?_)
  subst p_x2
  intro _ _
  have bb_x2 : x2 = 0 ∨ x2 = 1 := b_x2
  refine ⟨fun c5 => ?_, fun c5 => ?_⟩
  · refine m_X4_next hI o_v0 hT (fun S7 hI g8 p_S7 => ?_)
    obtain hT := p_S7
    have o_a1 := gr_ob g8 o_a1
    have o_v0 := gr_ob g8 o_v0
    have g0 := gr_tr g0 g8
    intro _
    refine m_X4_wordAndWhole hI o_v0 (by decide) hT (fun x9 S10 hI g11 b_x9 p_x9 => ?_)
    obtain hT := p_x9
    have o_a1 := gr_ob g11 o_a1
    have o_v0 := gr_ob g11 o_v0
    have g0 := gr_tr g0 g11
    intro _ _
    have bb_x9 : x9 = 0 ∨ x9 = 1 := b_x9
    refine ⟨fun c12 => ?_, fun c12 => ?_⟩
    · obtain ⟨a13, ea13, o_a13, -⟩ := sh 12 rfl hI o_v0
      refine ⟨a13, ea13, ?_⟩
      intro x14 ex14
      refine ⟨o_a13, ?_⟩
      have hI := iv_sI (j := 0) (v := x14) hI o_a13 (by decide) (nu_one (lo := (0 : Int32)) (hi := (60 : Int32)) (by decide) (q59))
      exact hq _ _ hI g0 (Or.inr rfl) hT
    · exact hq _ _ hI g0 (Or.inl rfl) hT
  · refine u_X4_fail ?_
    refine u_X4_fail_0 ?_
    refine ⟨o_v0, ?_⟩
    have hI := iv_sI (j := 0) (v := (3 : Int32)) hI o_v0 (by decide) (nu_free (by decide))
    intro x15 ex15
    have hI := iv_sI (j := 1) (v := x15) hI o_v0 (by decide) (nu_free (by decide))
    intro _ _
    exact hq _ _ hI g0 (Or.inl rfl) hT
set_option maxHeartbeats 4000000 in
set_option maxRecDepth 20000 in
theorem m_X4_read {v0 : Nat} {v1 : Nat} {v2 : Int32} {Q : Int32 → HS → Prop} {S : HS} (hI : IV S) (o_v0 : ob S v0 4) (o_v1 : ob S v1 12)     (hq : ∀ (r : Int32) (T : HS), IV T → Gr S T → bl r → Q r T) : P_X4_read v0 v1 v2 Q S := by
  have g0 := gr_rf S
  refine u_X4_read ?_
  refine u_X4_read_0 ?_
  refine ⟨o_v0, ?_⟩
  refine m_X4_open hI o_v0 o_v1 (fun S2 hI g3 => ?_)
  have o_v0 := gr_ob g3 o_v0
  have o_v1 := gr_ob g3 o_v1
  have g0 := gr_tr g0 g3
  intro _
  refine i_X4_read_8 (fun (y0 : Nat) (y3 : Int32) (Z : HS) => ((2147483647 : Int32).toInt - y3.toInt).toNat) (fun (y0 : Nat) (y3 : Int32) (Z : HS) => (IV Z) ∧ (Gr S2 Z) ∧ (v0 = y0) ∧ (0 ≤ y3)) ?_ _ _ _ ⟨hI, (gr_rf _), rfl, (q43)⟩
  intro w6 w8 S4 X9 ⟨hI, gL5, q7, i1⟩ ih10
  subst q7
  have o_v0 := gr_ob gL5 o_v0
  have o_v1 := gr_ob gL5 o_v1
  have g0 := gr_tr g0 gL5
  refine u_X4_read_8 ?_
  refine ⟨fun c11 => ?_, fun c11 => ?_⟩
  · refine ⟨o_v0, ?_⟩
    refine u_X4_fail ?_
    refine u_X4_fail_0 ?_
    refine ⟨o_v0, ?_⟩
    have hI := iv_sI (j := 0) (v := (1 : Int32)) hI o_v0 (by decide) (nu_free (by decide))
    intro x12 ex12
    have hI := iv_sI (j := 1) (v := x12) hI o_v0 (by decide) (nu_free (by decide))
    intro _ _
    exact hq _ _ hI g0 (Or.inl rfl)
  · refine ⟨o_v0, ?_⟩
    refine m_X4_is hI o_v0 (by decide) hT (fun x13 S14 hI2 g15 b_x13 p_x13 => ?_)
    subst p_x13
    intro _ _
    have bb_x13 : x13 = 0 ∨ x13 = 1 := b_x13
    refine ⟨fun c16 => ?_, fun c16 => ?_⟩
    · refine m_X4_is hI o_v0 (by decide) hT (fun x17 S18 hI2 g19 b_x17 p_x17 => ?_)
      subst p_x17
      intro _ _
      have bb_x17 : x17 = 0 ∨ x17 = 1 := b_x17
      refine ⟨fun c20 => ?_, fun c20 => ?_⟩
      · refine m_X4_is hI o_v0 (by decide) hT (fun x21 S22 hI2 g23 b_x21 p_x21 => ?_)
        subst p_x21
        intro _ _
        have bb_x21 : x21 = 0 ∨ x21 = 1 := b_x21
        refine ⟨fun c24 => ?_, fun c24 => ?_⟩
        · refine m_X4_is hI o_v0 (by decide) hT (fun x25 S26 hI2 g27 b_x25 p_x25 => ?_)
          subst p_x25
          intro _ _
          have bb_x25 : x25 = 0 ∨ x25 = 1 := b_x25
          refine ⟨fun c28 => ?_, fun c28 => ?_⟩
          · refine m_X4_is hI o_v0 (by decide) hT (fun x29 S30 hI2 g31 b_x29 p_x29 => ?_)
            subst p_x29
            intro _ _
            have bb_x29 : x29 = 0 ∨ x29 = 1 := b_x29
            refine ⟨fun c32 => ?_, fun c32 => ?_⟩
            · refine m_X4_is hI o_v0 (by decide) hT (fun x33 S34 hI2 g35 b_x33 p_x33 => ?_)
              subst p_x33
              intro _ _
              have bb_x33 : x33 = 0 ∨ x33 = 1 := b_x33
              refine ⟨fun c36 => ?_, fun c36 => ?_⟩
              · refine u_X4_fail ?_
                refine u_X4_fail_0 ?_
                refine ⟨o_v0, ?_⟩
                have hI := iv_sI (j := 0) (v := (1 : Int32)) hI o_v0 (by decide) (nu_free (by decide))
                intro x37 ex37
                have hI := iv_sI (j := 1) (v := x37) hI o_v0 (by decide) (nu_free (by decide))
                intro _ _
                refine u_X4_read_248 ?_
                refine ⟨fun c38 => ?_, fun c38 => ?_⟩
                · refine u_X4_read_295 ?_
                  refine ⟨fun c39 => ?_, fun c39 => ?_⟩
                  · exact hq _ _ hI g0 (Or.inl rfl)
                  · refine ⟨o_v0, ?_⟩
                    refine m_X4_sign hI o_v0 hT (fun x40 S41 hI g42 b_x40 p_x40 => ?_)
                    obtain hT := p_x40
                    have o_v0 := gr_ob g42 o_v0
                    have o_v1 := gr_ob g42 o_v1
                    have g0 := gr_tr g0 g42
                    have gL5 := gr_tr gL5 g42
                    intro _ _
                    have bb_x40 : x40 = 0 ∨ x40 = 1 := b_x40
                    refine ⟨fun c43 => ?_, fun c43 => ?_⟩
                    · intro x44 ex44
                      exact ih10 _ _ _ ⟨hI, gL5, rfl, (q44 i1 c11 c38 c39 ex44)⟩ (mu_up (q45 i1 c11 c38 c39 ex44) (q46 i1 c11 c38 c39 ex44))
                    · exact hq _ _ hI g0 (Or.inl rfl)
                · refine ⟨o_v0, ?_⟩
                  intro x45 ex45
                  refine ⟨fun c46 => ?_, fun c46 => ?_⟩
                  · refine u_X4_read_295 ?_
                    refine ⟨fun c47 => ?_, fun c47 => ?_⟩
                    · exact hq _ _ hI g0 (Or.inl rfl)
                    · refine ⟨o_v0, ?_⟩
                      refine m_X4_sign hI o_v0 hT (fun x48 S49 hI g50 b_x48 p_x48 => ?_)
                      obtain hT := p_x48
                      have o_v0 := gr_ob g50 o_v0
                      have o_v1 := gr_ob g50 o_v1
                      have g0 := gr_tr g0 g50
                      have gL5 := gr_tr gL5 g50
                      intro _ _
                      have bb_x48 : x48 = 0 ∨ x48 = 1 := b_x48
                      refine ⟨fun c51 => ?_, fun c51 => ?_⟩
                      · intro x52 ex52
                        exact ih10 _ _ _ ⟨hI, gL5, rfl, (q47 i1 c11 c38 c47 ex52)⟩ (mu_up (q48 i1 c11 c38 c47 ex52) (q49 i1 c11 c38 c47 ex52))
                      · exact hq _ _ hI g0 (Or.inl rfl)
                  · obtain ⟨a53, ea53, o_a53, -⟩ := sh 12 rfl hI o_v0
                    refine ⟨a53, ea53, ?_⟩
                    refine ⟨o_a53, ?_⟩
                    intro x54 ex54
                    have r_x54 : (0 : Int32) ≤ x54 ∧ x54 ≤ (8 : Int32) := by rw [ex54]; exact nu 12 rfl hI o_a53
                    refine ⟨fun c55 => ?_, fun c55 => ?_⟩
                    · refine u_X4_read_280 ?_
                      refine ⟨o_v0, ?_⟩
                      refine u_X4_fail ?_
                      refine u_X4_fail_0 ?_
                      refine ⟨o_v0, ?_⟩
                      have hI := iv_sI (j := 0) (v := (6 : Int32)) hI o_v0 (by decide) (nu_free (by decide))
                      intro x56 ex56
                      have hI := iv_sI (j := 1) (v := x56) hI o_v0 (by decide) (nu_free (by decide))
                      intro _ _
                      refine ⟨fun c57 => ?_, fun c57 => ?_⟩
                      · exact hq _ _ hI g0 (Or.inl rfl)
                      · exact hq _ _ hI g0 (Or.inr rfl)
                    · obtain ⟨a58, ea58, o_a58, -⟩ := sh 12 rfl hI o_v0
                      refine ⟨a58, ea58, ?_⟩
                      refine ⟨o_a58, ?_⟩
                      intro x59 ex59
                      have r_x59 : (0 : Int32) ≤ x59 ∧ x59 ≤ (4 : Int32) := by rw [ex59]; exact nu 14 rfl hI o_a58
                      refine ⟨fun c60 => ?_, fun c60 => ?_⟩
                      · exact hq _ _ hI g0 (Or.inr rfl)
                      · refine u_X4_read_280 ?_
                        refine ⟨o_v0, ?_⟩
                        refine u_X4_fail ?_
                        refine u_X4_fail_0 ?_
                        refine ⟨o_v0, ?_⟩
                        have hI := iv_sI (j := 0) (v := (6 : Int32)) hI o_v0 (by decide) (nu_free (by decide))
                        intro x61 ex61
                        have hI := iv_sI (j := 1) (v := x61) hI o_v0 (by decide) (nu_free (by decide))
                        intro _ _
                        refine ⟨fun c62 => ?_, fun c62 => ?_⟩
                        · exact hq _ _ hI g0 (Or.inl rfl)
                        · exact hq _ _ hI g0 (Or.inr rfl)
              · obtain ⟨a63, ea63, o_a63, -⟩ := sh 12 rfl hI o_v0
                refine ⟨a63, ea63, ?_⟩
                refine ⟨o_a63, ?_⟩
                intro x64 ex64
                have r_x64 : (0 : Int32) ≤ x64 ∧ x64 ≤ (4 : Int32) := by rw [ex64]; exact nu 15 rfl hI o_a63
                refine m_X4_hasRoom hI o_v0 hT (fun x65 S66 hI g67 b_x65 p_x65 => ?_)
                obtain hT := p_x65
                have o_a63 := gr_ob g67 o_a63
                have o_v0 := gr_ob g67 o_v0
                have o_v1 := gr_ob g67 o_v1
                have g0 := gr_tr g0 g67
                have gL5 := gr_tr gL5 g67
                intro _ _
                have bb_x65 : x65 = 0 ∨ x65 = 1 := b_x65
                refine ⟨fun c68 => ?_, fun c68 => ?_⟩
                · refine u_X4_read_235 ?_
                  refine u_X4_read_236 ?_
                  refine u_X4_read_248 ?_
                  refine ⟨fun c69 => ?_, fun c69 => ?_⟩
                  · refine u_X4_read_295 ?_
                    refine ⟨fun c70 => ?_, fun c70 => ?_⟩
                    · exact hq _ _ hI g0 (Or.inl rfl)
                    · refine ⟨o_v0, ?_⟩
                      refine m_X4_sign hI o_v0 hT (fun x71 S72 hI g73 b_x71 p_x71 => ?_)
                      obtain hT := p_x71
                      have o_a63 := gr_ob g73 o_a63
                      have o_v0 := gr_ob g73 o_v0
                      have o_v1 := gr_ob g73 o_v1
                      have g0 := gr_tr g0 g73
                      have gL5 := gr_tr gL5 g73
                      intro _ _
                      have bb_x71 : x71 = 0 ∨ x71 = 1 := b_x71
                      refine ⟨fun c74 => ?_, fun c74 => ?_⟩
                      · intro x75 ex75
                        exact ih10 _ _ _ ⟨hI, gL5, rfl, (q44 i1 c11 c69 c70 ex75)⟩ (mu_up (q45 i1 c11 c69 c70 ex75) (q46 i1 c11 c69 c70 ex75))
                      · exact hq _ _ hI g0 (Or.inl rfl)
                  · refine ⟨o_v0, ?_⟩
                    intro x76 ex76
                    refine ⟨fun c77 => ?_, fun c77 => ?_⟩
                    · refine u_X4_read_295 ?_
                      refine ⟨fun c78 => ?_, fun c78 => ?_⟩
                      · exact hq _ _ hI g0 (Or.inl rfl)
                      · refine ⟨o_v0, ?_⟩
                        refine m_X4_sign hI o_v0 hT (fun x79 S80 hI g81 b_x79 p_x79 => ?_)
                        obtain hT := p_x79
                        have o_a63 := gr_ob g81 o_a63
                        have o_v0 := gr_ob g81 o_v0
                        have o_v1 := gr_ob g81 o_v1
                        have g0 := gr_tr g0 g81
                        have gL5 := gr_tr gL5 g81
                        intro _ _
                        have bb_x79 : x79 = 0 ∨ x79 = 1 := b_x79
                        refine ⟨fun c82 => ?_, fun c82 => ?_⟩
                        · intro x83 ex83
                          exact ih10 _ _ _ ⟨hI, gL5, rfl, (q47 i1 c11 c69 c78 ex83)⟩ (mu_up (q48 i1 c11 c69 c78 ex83) (q49 i1 c11 c69 c78 ex83))
                        · exact hq _ _ hI g0 (Or.inl rfl)
                    · obtain ⟨a84, ea84, o_a84, -⟩ := sh 12 rfl hI o_v0
                      refine ⟨a84, ea84, ?_⟩
                      refine ⟨o_a84, ?_⟩
                      intro x85 ex85
                      have r_x85 : (0 : Int32) ≤ x85 ∧ x85 ≤ (8 : Int32) := by rw [ex85]; exact nu 12 rfl hI o_a84
                      refine ⟨fun c86 => ?_, fun c86 => ?_⟩
                      · refine u_X4_read_280 ?_
                        refine ⟨o_v0, ?_⟩
                        refine u_X4_fail ?_
                        refine u_X4_fail_0 ?_
                        refine ⟨o_v0, ?_⟩
                        have hI := iv_sI (j := 0) (v := (6 : Int32)) hI o_v0 (by decide) (nu_free (by decide))
                        intro x87 ex87
                        have hI := iv_sI (j := 1) (v := x87) hI o_v0 (by decide) (nu_free (by decide))
                        intro _ _
                        refine ⟨fun c88 => ?_, fun c88 => ?_⟩
                        · exact hq _ _ hI g0 (Or.inl rfl)
                        · exact hq _ _ hI g0 (Or.inr rfl)
                      · obtain ⟨a89, ea89, o_a89, -⟩ := sh 12 rfl hI o_v0
                        refine ⟨a89, ea89, ?_⟩
                        refine ⟨o_a89, ?_⟩
                        intro x90 ex90
                        have r_x90 : (0 : Int32) ≤ x90 ∧ x90 ≤ (4 : Int32) := by rw [ex90]; exact nu 14 rfl hI o_a89
                        refine ⟨fun c91 => ?_, fun c91 => ?_⟩
                        · exact hq _ _ hI g0 (Or.inr rfl)
                        · refine u_X4_read_280 ?_
                          refine ⟨o_v0, ?_⟩
                          refine u_X4_fail ?_
                          refine u_X4_fail_0 ?_
                          refine ⟨o_v0, ?_⟩
                          have hI := iv_sI (j := 0) (v := (6 : Int32)) hI o_v0 (by decide) (nu_free (by decide))
                          intro x92 ex92
                          have hI := iv_sI (j := 1) (v := x92) hI o_v0 (by decide) (nu_free (by decide))
                          intro _ _
                          refine ⟨fun c93 => ?_, fun c93 => ?_⟩
                          · exact hq _ _ hI g0 (Or.inl rfl)
                          · exact hq _ _ hI g0 (Or.inr rfl)
                · refine m_X4_seenLine hI o_v0 hT (fun x94 S95 hI g96 b_x94 p_x94 => ?_)
                  obtain hT := p_x94
                  have o_a63 := gr_ob g96 o_a63
                  have o_v0 := gr_ob g96 o_v0
                  have o_v1 := gr_ob g96 o_v1
                  have g0 := gr_tr g0 g96
                  have gL5 := gr_tr gL5 g96
                  intro _ _
                  have bb_x94 : x94 = 0 ∨ x94 = 1 := b_x94
                  refine ⟨fun c97 => ?_, fun c97 => ?_⟩
                  · refine u_X4_read_235 ?_
                    refine u_X4_read_236 ?_
                    refine u_X4_read_248 ?_
                    refine ⟨fun c98 => ?_, fun c98 => ?_⟩
                    · refine u_X4_read_295 ?_
                      refine ⟨fun c99 => ?_, fun c99 => ?_⟩
                      · exact hq _ _ hI g0 (Or.inl rfl)
                      · refine ⟨o_v0, ?_⟩
                        refine m_X4_sign hI o_v0 hT (fun x100 S101 hI g102 b_x100 p_x100 => ?_)
                        obtain hT := p_x100
                        have o_a63 := gr_ob g102 o_a63
                        have o_v0 := gr_ob g102 o_v0
                        have o_v1 := gr_ob g102 o_v1
                        have g0 := gr_tr g0 g102
                        have gL5 := gr_tr gL5 g102
                        intro _ _
                        have bb_x100 : x100 = 0 ∨ x100 = 1 := b_x100
                        refine ⟨fun c103 => ?_, fun c103 => ?_⟩
                        · intro x104 ex104
                          exact ih10 _ _ _ ⟨hI, gL5, rfl, (q44 i1 c11 c98 c99 ex104)⟩ (mu_up (q45 i1 c11 c98 c99 ex104) (q46 i1 c11 c98 c99 ex104))
                        · exact hq _ _ hI g0 (Or.inl rfl)
                    · refine ⟨o_v0, ?_⟩
                      intro x105 ex105
                      refine ⟨fun c106 => ?_, fun c106 => ?_⟩
                      · refine u_X4_read_295 ?_
                        refine ⟨fun c107 => ?_, fun c107 => ?_⟩
                        · exact hq _ _ hI g0 (Or.inl rfl)
                        · refine ⟨o_v0, ?_⟩
                          refine m_X4_sign hI o_v0 hT (fun x108 S109 hI g110 b_x108 p_x108 => ?_)
                          obtain hT := p_x108
                          have o_a63 := gr_ob g110 o_a63
                          have o_v0 := gr_ob g110 o_v0
                          have o_v1 := gr_ob g110 o_v1
                          have g0 := gr_tr g0 g110
                          have gL5 := gr_tr gL5 g110
                          intro _ _
                          have bb_x108 : x108 = 0 ∨ x108 = 1 := b_x108
                          refine ⟨fun c111 => ?_, fun c111 => ?_⟩
                          · intro x112 ex112
                            exact ih10 _ _ _ ⟨hI, gL5, rfl, (q47 i1 c11 c98 c107 ex112)⟩ (mu_up (q48 i1 c11 c98 c107 ex112) (q49 i1 c11 c98 c107 ex112))
                          · exact hq _ _ hI g0 (Or.inl rfl)
                      · obtain ⟨a113, ea113, o_a113, -⟩ := sh 12 rfl hI o_v0
                        refine ⟨a113, ea113, ?_⟩
                        refine ⟨o_a113, ?_⟩
                        intro x114 ex114
                        have r_x114 : (0 : Int32) ≤ x114 ∧ x114 ≤ (8 : Int32) := by rw [ex114]; exact nu 12 rfl hI o_a113
                        refine ⟨fun c115 => ?_, fun c115 => ?_⟩
                        · refine u_X4_read_280 ?_
                          refine ⟨o_v0, ?_⟩
                          refine u_X4_fail ?_
                          refine u_X4_fail_0 ?_
                          refine ⟨o_v0, ?_⟩
                          have hI := iv_sI (j := 0) (v := (6 : Int32)) hI o_v0 (by decide) (nu_free (by decide))
                          intro x116 ex116
                          have hI := iv_sI (j := 1) (v := x116) hI o_v0 (by decide) (nu_free (by decide))
                          intro _ _
                          refine ⟨fun c117 => ?_, fun c117 => ?_⟩
                          · exact hq _ _ hI g0 (Or.inl rfl)
                          · exact hq _ _ hI g0 (Or.inr rfl)
                        · obtain ⟨a118, ea118, o_a118, -⟩ := sh 12 rfl hI o_v0
                          refine ⟨a118, ea118, ?_⟩
                          refine ⟨o_a118, ?_⟩
                          intro x119 ex119
                          have r_x119 : (0 : Int32) ≤ x119 ∧ x119 ≤ (4 : Int32) := by rw [ex119]; exact nu 14 rfl hI o_a118
                          refine ⟨fun c120 => ?_, fun c120 => ?_⟩
                          · exact hq _ _ hI g0 (Or.inr rfl)
                          · refine u_X4_read_280 ?_
                            refine ⟨o_v0, ?_⟩
                            refine u_X4_fail ?_
                            refine u_X4_fail_0 ?_
                            refine ⟨o_v0, ?_⟩
                            have hI := iv_sI (j := 0) (v := (6 : Int32)) hI o_v0 (by decide) (nu_free (by decide))
                            intro x121 ex121
                            have hI := iv_sI (j := 1) (v := x121) hI o_v0 (by decide) (nu_free (by decide))
                            intro _ _
                            refine ⟨fun c122 => ?_, fun c122 => ?_⟩
                            · exact hq _ _ hI g0 (Or.inl rfl)
                            · exact hq _ _ hI g0 (Or.inr rfl)
                  · refine u_X4_read_236 ?_
                    refine u_X4_read_248 ?_
                    refine ⟨fun c123 => ?_, fun c123 => ?_⟩
                    · refine u_X4_read_295 ?_
                      refine ⟨fun c124 => ?_, fun c124 => ?_⟩
                      · exact hq _ _ hI g0 (Or.inl rfl)
                      · refine ⟨o_v0, ?_⟩
                        refine m_X4_sign hI o_v0 hT (fun x125 S126 hI g127 b_x125 p_x125 => ?_)
                        obtain hT := p_x125
                        have o_a63 := gr_ob g127 o_a63
                        have o_v0 := gr_ob g127 o_v0
                        have o_v1 := gr_ob g127 o_v1
                        have g0 := gr_tr g0 g127
                        have gL5 := gr_tr gL5 g127
                        intro _ _
                        have bb_x125 : x125 = 0 ∨ x125 = 1 := b_x125
                        refine ⟨fun c128 => ?_, fun c128 => ?_⟩
                        · intro x129 ex129
                          exact ih10 _ _ _ ⟨hI, gL5, rfl, (q50 i1 c11 c123 c124 ex129)⟩ (mu_up (q51 i1 c11 c123 c124 ex129) (q52 i1 c11 c123 c124 ex129))
                        · exact hq _ _ hI g0 (Or.inl rfl)
                    · refine ⟨o_v0, ?_⟩
                      intro x130 ex130
                      refine ⟨fun c131 => ?_, fun c131 => ?_⟩
                      · refine u_X4_read_295 ?_
                        refine ⟨fun c132 => ?_, fun c132 => ?_⟩
                        · exact hq _ _ hI g0 (Or.inl rfl)
                        · refine ⟨o_v0, ?_⟩
                          refine m_X4_sign hI o_v0 hT (fun x133 S134 hI g135 b_x133 p_x133 => ?_)
                          obtain hT := p_x133
                          have o_a63 := gr_ob g135 o_a63
                          have o_v0 := gr_ob g135 o_v0
                          have o_v1 := gr_ob g135 o_v1
                          have g0 := gr_tr g0 g135
                          have gL5 := gr_tr gL5 g135
                          intro _ _
                          have bb_x133 : x133 = 0 ∨ x133 = 1 := b_x133
                          refine ⟨fun c136 => ?_, fun c136 => ?_⟩
                          · intro x137 ex137
                            exact ih10 _ _ _ ⟨hI, gL5, rfl, (q53 i1 c11 c123 c132 ex137)⟩ (mu_up (q54 i1 c11 c123 c132 ex137) (q55 i1 c11 c123 c132 ex137))
                          · exact hq _ _ hI g0 (Or.inl rfl)
                      · obtain ⟨a138, ea138, o_a138, -⟩ := sh 12 rfl hI o_v0
                        refine ⟨a138, ea138, ?_⟩
                        refine ⟨o_a138, ?_⟩
                        intro x139 ex139
                        have r_x139 : (0 : Int32) ≤ x139 ∧ x139 ≤ (8 : Int32) := by rw [ex139]; exact nu 12 rfl hI o_a138
                        refine ⟨fun c140 => ?_, fun c140 => ?_⟩
                        · refine u_X4_read_280 ?_
                          refine ⟨o_v0, ?_⟩
                          refine u_X4_fail ?_
                          refine u_X4_fail_0 ?_
                          refine ⟨o_v0, ?_⟩
                          have hI := iv_sI (j := 0) (v := (6 : Int32)) hI o_v0 (by decide) (nu_free (by decide))
                          intro x141 ex141
                          have hI := iv_sI (j := 1) (v := x141) hI o_v0 (by decide) (nu_free (by decide))
                          intro _ _
                          refine ⟨fun c142 => ?_, fun c142 => ?_⟩
                          · exact hq _ _ hI g0 (Or.inl rfl)
                          · exact hq _ _ hI g0 (Or.inr rfl)
                        · obtain ⟨a143, ea143, o_a143, -⟩ := sh 12 rfl hI o_v0
                          refine ⟨a143, ea143, ?_⟩
                          refine ⟨o_a143, ?_⟩
                          intro x144 ex144
                          have r_x144 : (0 : Int32) ≤ x144 ∧ x144 ≤ (4 : Int32) := by rw [ex144]; exact nu 14 rfl hI o_a143
                          refine ⟨fun c145 => ?_, fun c145 => ?_⟩
                          · exact hq _ _ hI g0 (Or.inr rfl)
                          · refine u_X4_read_280 ?_
                            refine ⟨o_v0, ?_⟩
                            refine u_X4_fail ?_
                            refine u_X4_fail_0 ?_
                            refine ⟨o_v0, ?_⟩
                            have hI := iv_sI (j := 0) (v := (6 : Int32)) hI o_v0 (by decide) (nu_free (by decide))
                            intro x146 ex146
                            have hI := iv_sI (j := 1) (v := x146) hI o_v0 (by decide) (nu_free (by decide))
                            intro _ _
                            refine ⟨fun c147 => ?_, fun c147 => ?_⟩
                            · exact hq _ _ hI g0 (Or.inl rfl)
                            · exact hq _ _ hI g0 (Or.inr rfl)
            · obtain ⟨a148, ea148, o_a148, -⟩ := sh 12 rfl hI o_v0
              refine ⟨a148, ea148, ?_⟩
              refine ⟨o_a148, ?_⟩
              intro x149 ex149
              have r_x149 : (0 : Int32) ≤ x149 ∧ x149 ≤ (4 : Int32) := by rw [ex149]; exact nu 14 rfl hI o_a148
              refine m_X4_hasRoom hI o_v0 hT (fun x150 S151 hI g152 b_x150 p_x150 => ?_)
              obtain hT := p_x150
              have o_a148 := gr_ob g152 o_a148
              have o_v0 := gr_ob g152 o_v0
              have o_v1 := gr_ob g152 o_v1
              have g0 := gr_tr g0 g152
              have gL5 := gr_tr gL5 g152
              intro _ _
              have bb_x150 : x150 = 0 ∨ x150 = 1 := b_x150
              refine ⟨fun c153 => ?_, fun c153 => ?_⟩
              · refine u_X4_read_194 ?_
                refine u_X4_read_195 ?_
                refine u_X4_read_248 ?_
                refine ⟨fun c154 => ?_, fun c154 => ?_⟩
                · refine u_X4_read_295 ?_
                  refine ⟨fun c155 => ?_, fun c155 => ?_⟩
                  · exact hq _ _ hI g0 (Or.inl rfl)
                  · refine ⟨o_v0, ?_⟩
                    refine m_X4_sign hI o_v0 hT (fun x156 S157 hI g158 b_x156 p_x156 => ?_)
                    obtain hT := p_x156
                    have o_a148 := gr_ob g158 o_a148
                    have o_v0 := gr_ob g158 o_v0
                    have o_v1 := gr_ob g158 o_v1
                    have g0 := gr_tr g0 g158
                    have gL5 := gr_tr gL5 g158
                    intro _ _
                    have bb_x156 : x156 = 0 ∨ x156 = 1 := b_x156
                    refine ⟨fun c159 => ?_, fun c159 => ?_⟩
                    · intro x160 ex160
                      exact ih10 _ _ _ ⟨hI, gL5, rfl, (q44 i1 c11 c154 c155 ex160)⟩ (mu_up (q45 i1 c11 c154 c155 ex160) (q46 i1 c11 c154 c155 ex160))
                    · exact hq _ _ hI g0 (Or.inl rfl)
                · refine ⟨o_v0, ?_⟩
                  intro x161 ex161
                  refine ⟨fun c162 => ?_, fun c162 => ?_⟩
                  · refine u_X4_read_295 ?_
                    refine ⟨fun c163 => ?_, fun c163 => ?_⟩
                    · exact hq _ _ hI g0 (Or.inl rfl)
                    · refine ⟨o_v0, ?_⟩
                      refine m_X4_sign hI o_v0 hT (fun x164 S165 hI g166 b_x164 p_x164 => ?_)
                      obtain hT := p_x164
                      have o_a148 := gr_ob g166 o_a148
                      have o_v0 := gr_ob g166 o_v0
                      have o_v1 := gr_ob g166 o_v1
                      have g0 := gr_tr g0 g166
                      have gL5 := gr_tr gL5 g166
                      intro _ _
                      have bb_x164 : x164 = 0 ∨ x164 = 1 := b_x164
                      refine ⟨fun c167 => ?_, fun c167 => ?_⟩
                      · intro x168 ex168
                        exact ih10 _ _ _ ⟨hI, gL5, rfl, (q47 i1 c11 c154 c163 ex168)⟩ (mu_up (q48 i1 c11 c154 c163 ex168) (q49 i1 c11 c154 c163 ex168))
                      · exact hq _ _ hI g0 (Or.inl rfl)
                  · obtain ⟨a169, ea169, o_a169, -⟩ := sh 12 rfl hI o_v0
                    refine ⟨a169, ea169, ?_⟩
                    refine ⟨o_a169, ?_⟩
                    intro x170 ex170
                    have r_x170 : (0 : Int32) ≤ x170 ∧ x170 ≤ (8 : Int32) := by rw [ex170]; exact nu 12 rfl hI o_a169
                    refine ⟨fun c171 => ?_, fun c171 => ?_⟩
                    · refine u_X4_read_280 ?_
                      refine ⟨o_v0, ?_⟩
                      refine u_X4_fail ?_
                      refine u_X4_fail_0 ?_
                      refine ⟨o_v0, ?_⟩
                      have hI := iv_sI (j := 0) (v := (6 : Int32)) hI o_v0 (by decide) (nu_free (by decide))
                      intro x172 ex172
                      have hI := iv_sI (j := 1) (v := x172) hI o_v0 (by decide) (nu_free (by decide))
                      intro _ _
                      refine ⟨fun c173 => ?_, fun c173 => ?_⟩
                      · exact hq _ _ hI g0 (Or.inl rfl)
                      · exact hq _ _ hI g0 (Or.inr rfl)
                    · obtain ⟨a174, ea174, o_a174, -⟩ := sh 12 rfl hI o_v0
                      refine ⟨a174, ea174, ?_⟩
                      refine ⟨o_a174, ?_⟩
                      intro x175 ex175
                      have r_x175 : (0 : Int32) ≤ x175 ∧ x175 ≤ (4 : Int32) := by rw [ex175]; exact nu 14 rfl hI o_a174
                      refine ⟨fun c176 => ?_, fun c176 => ?_⟩
                      · exact hq _ _ hI g0 (Or.inr rfl)
                      · refine u_X4_read_280 ?_
                        refine ⟨o_v0, ?_⟩
                        refine u_X4_fail ?_
                        refine u_X4_fail_0 ?_
                        refine ⟨o_v0, ?_⟩
                        have hI := iv_sI (j := 0) (v := (6 : Int32)) hI o_v0 (by decide) (nu_free (by decide))
                        intro x177 ex177
                        have hI := iv_sI (j := 1) (v := x177) hI o_v0 (by decide) (nu_free (by decide))
                        intro _ _
                        refine ⟨fun c178 => ?_, fun c178 => ?_⟩
                        · exact hq _ _ hI g0 (Or.inl rfl)
                        · exact hq _ _ hI g0 (Or.inr rfl)
              · refine m_X4_walkerLine hI o_v0 hT (fun x179 S180 hI g181 b_x179 p_x179 => ?_)
                obtain hT := p_x179
                have o_a148 := gr_ob g181 o_a148
                have o_v0 := gr_ob g181 o_v0
                have o_v1 := gr_ob g181 o_v1
                have g0 := gr_tr g0 g181
                have gL5 := gr_tr gL5 g181
                intro _ _
                have bb_x179 : x179 = 0 ∨ x179 = 1 := b_x179
                refine ⟨fun c182 => ?_, fun c182 => ?_⟩
                · refine u_X4_read_194 ?_
                  refine u_X4_read_195 ?_
                  refine u_X4_read_248 ?_
                  refine ⟨fun c183 => ?_, fun c183 => ?_⟩
                  · refine u_X4_read_295 ?_
                    refine ⟨fun c184 => ?_, fun c184 => ?_⟩
                    · exact hq _ _ hI g0 (Or.inl rfl)
                    · refine ⟨o_v0, ?_⟩
                      refine m_X4_sign hI o_v0 hT (fun x185 S186 hI g187 b_x185 p_x185 => ?_)
                      obtain hT := p_x185
                      have o_a148 := gr_ob g187 o_a148
                      have o_v0 := gr_ob g187 o_v0
                      have o_v1 := gr_ob g187 o_v1
                      have g0 := gr_tr g0 g187
                      have gL5 := gr_tr gL5 g187
                      intro _ _
                      have bb_x185 : x185 = 0 ∨ x185 = 1 := b_x185
                      refine ⟨fun c188 => ?_, fun c188 => ?_⟩
                      · intro x189 ex189
                        exact ih10 _ _ _ ⟨hI, gL5, rfl, (q44 i1 c11 c183 c184 ex189)⟩ (mu_up (q45 i1 c11 c183 c184 ex189) (q46 i1 c11 c183 c184 ex189))
                      · exact hq _ _ hI g0 (Or.inl rfl)
                  · refine ⟨o_v0, ?_⟩
                    intro x190 ex190
                    refine ⟨fun c191 => ?_, fun c191 => ?_⟩
                    · refine u_X4_read_295 ?_
                      refine ⟨fun c192 => ?_, fun c192 => ?_⟩
                      · exact hq _ _ hI g0 (Or.inl rfl)
                      · refine ⟨o_v0, ?_⟩
                        refine m_X4_sign hI o_v0 hT (fun x193 S194 hI g195 b_x193 p_x193 => ?_)
                        obtain hT := p_x193
                        have o_a148 := gr_ob g195 o_a148
                        have o_v0 := gr_ob g195 o_v0
                        have o_v1 := gr_ob g195 o_v1
                        have g0 := gr_tr g0 g195
                        have gL5 := gr_tr gL5 g195
                        intro _ _
                        have bb_x193 : x193 = 0 ∨ x193 = 1 := b_x193
                        refine ⟨fun c196 => ?_, fun c196 => ?_⟩
                        · intro x197 ex197
                          exact ih10 _ _ _ ⟨hI, gL5, rfl, (q47 i1 c11 c183 c192 ex197)⟩ (mu_up (q48 i1 c11 c183 c192 ex197) (q49 i1 c11 c183 c192 ex197))
                        · exact hq _ _ hI g0 (Or.inl rfl)
                    · obtain ⟨a198, ea198, o_a198, -⟩ := sh 12 rfl hI o_v0
                      refine ⟨a198, ea198, ?_⟩
                      refine ⟨o_a198, ?_⟩
                      intro x199 ex199
                      have r_x199 : (0 : Int32) ≤ x199 ∧ x199 ≤ (8 : Int32) := by rw [ex199]; exact nu 12 rfl hI o_a198
                      refine ⟨fun c200 => ?_, fun c200 => ?_⟩
                      · refine u_X4_read_280 ?_
                        refine ⟨o_v0, ?_⟩
                        refine u_X4_fail ?_
                        refine u_X4_fail_0 ?_
                        refine ⟨o_v0, ?_⟩
                        have hI := iv_sI (j := 0) (v := (6 : Int32)) hI o_v0 (by decide) (nu_free (by decide))
                        intro x201 ex201
                        have hI := iv_sI (j := 1) (v := x201) hI o_v0 (by decide) (nu_free (by decide))
                        intro _ _
                        refine ⟨fun c202 => ?_, fun c202 => ?_⟩
                        · exact hq _ _ hI g0 (Or.inl rfl)
                        · exact hq _ _ hI g0 (Or.inr rfl)
                      · obtain ⟨a203, ea203, o_a203, -⟩ := sh 12 rfl hI o_v0
                        refine ⟨a203, ea203, ?_⟩
                        refine ⟨o_a203, ?_⟩
                        intro x204 ex204
                        have r_x204 : (0 : Int32) ≤ x204 ∧ x204 ≤ (4 : Int32) := by rw [ex204]; exact nu 14 rfl hI o_a203
                        refine ⟨fun c205 => ?_, fun c205 => ?_⟩
                        · exact hq _ _ hI g0 (Or.inr rfl)
                        · refine u_X4_read_280 ?_
                          refine ⟨o_v0, ?_⟩
                          refine u_X4_fail ?_
                          refine u_X4_fail_0 ?_
                          refine ⟨o_v0, ?_⟩
                          have hI := iv_sI (j := 0) (v := (6 : Int32)) hI o_v0 (by decide) (nu_free (by decide))
                          intro x206 ex206
                          have hI := iv_sI (j := 1) (v := x206) hI o_v0 (by decide) (nu_free (by decide))
                          intro _ _
                          refine ⟨fun c207 => ?_, fun c207 => ?_⟩
                          · exact hq _ _ hI g0 (Or.inl rfl)
                          · exact hq _ _ hI g0 (Or.inr rfl)
                · refine u_X4_read_195 ?_
                  refine u_X4_read_248 ?_
                  refine ⟨fun c208 => ?_, fun c208 => ?_⟩
                  · refine u_X4_read_295 ?_
                    refine ⟨fun c209 => ?_, fun c209 => ?_⟩
                    · exact hq _ _ hI g0 (Or.inl rfl)
                    · refine ⟨o_v0, ?_⟩
                      refine m_X4_sign hI o_v0 hT (fun x210 S211 hI g212 b_x210 p_x210 => ?_)
                      obtain hT := p_x210
                      have o_a148 := gr_ob g212 o_a148
                      have o_v0 := gr_ob g212 o_v0
                      have o_v1 := gr_ob g212 o_v1
                      have g0 := gr_tr g0 g212
                      have gL5 := gr_tr gL5 g212
                      intro _ _
                      have bb_x210 : x210 = 0 ∨ x210 = 1 := b_x210
                      refine ⟨fun c213 => ?_, fun c213 => ?_⟩
                      · intro x214 ex214
                        exact ih10 _ _ _ ⟨hI, gL5, rfl, (q50 i1 c11 c208 c209 ex214)⟩ (mu_up (q51 i1 c11 c208 c209 ex214) (q52 i1 c11 c208 c209 ex214))
                      · exact hq _ _ hI g0 (Or.inl rfl)
                  · refine ⟨o_v0, ?_⟩
                    intro x215 ex215
                    refine ⟨fun c216 => ?_, fun c216 => ?_⟩
                    · refine u_X4_read_295 ?_
                      refine ⟨fun c217 => ?_, fun c217 => ?_⟩
                      · exact hq _ _ hI g0 (Or.inl rfl)
                      · refine ⟨o_v0, ?_⟩
                        refine m_X4_sign hI o_v0 hT (fun x218 S219 hI g220 b_x218 p_x218 => ?_)
                        obtain hT := p_x218
                        have o_a148 := gr_ob g220 o_a148
                        have o_v0 := gr_ob g220 o_v0
                        have o_v1 := gr_ob g220 o_v1
                        have g0 := gr_tr g0 g220
                        have gL5 := gr_tr gL5 g220
                        intro _ _
                        have bb_x218 : x218 = 0 ∨ x218 = 1 := b_x218
                        refine ⟨fun c221 => ?_, fun c221 => ?_⟩
                        · intro x222 ex222
                          exact ih10 _ _ _ ⟨hI, gL5, rfl, (q53 i1 c11 c208 c217 ex222)⟩ (mu_up (q54 i1 c11 c208 c217 ex222) (q55 i1 c11 c208 c217 ex222))
                        · exact hq _ _ hI g0 (Or.inl rfl)
                    · obtain ⟨a223, ea223, o_a223, -⟩ := sh 12 rfl hI o_v0
                      refine ⟨a223, ea223, ?_⟩
                      refine ⟨o_a223, ?_⟩
                      intro x224 ex224
                      have r_x224 : (0 : Int32) ≤ x224 ∧ x224 ≤ (8 : Int32) := by rw [ex224]; exact nu 12 rfl hI o_a223
                      refine ⟨fun c225 => ?_, fun c225 => ?_⟩
                      · refine u_X4_read_280 ?_
                        refine ⟨o_v0, ?_⟩
                        refine u_X4_fail ?_
                        refine u_X4_fail_0 ?_
                        refine ⟨o_v0, ?_⟩
                        have hI := iv_sI (j := 0) (v := (6 : Int32)) hI o_v0 (by decide) (nu_free (by decide))
                        intro x226 ex226
                        have hI := iv_sI (j := 1) (v := x226) hI o_v0 (by decide) (nu_free (by decide))
                        intro _ _
                        refine ⟨fun c227 => ?_, fun c227 => ?_⟩
                        · exact hq _ _ hI g0 (Or.inl rfl)
                        · exact hq _ _ hI g0 (Or.inr rfl)
                      · obtain ⟨a228, ea228, o_a228, -⟩ := sh 12 rfl hI o_v0
                        refine ⟨a228, ea228, ?_⟩
                        refine ⟨o_a228, ?_⟩
                        intro x229 ex229
                        have r_x229 : (0 : Int32) ≤ x229 ∧ x229 ≤ (4 : Int32) := by rw [ex229]; exact nu 14 rfl hI o_a228
                        refine ⟨fun c230 => ?_, fun c230 => ?_⟩
                        · exact hq _ _ hI g0 (Or.inr rfl)
                        · refine u_X4_read_280 ?_
                          refine ⟨o_v0, ?_⟩
                          refine u_X4_fail ?_
                          refine u_X4_fail_0 ?_
                          refine ⟨o_v0, ?_⟩
                          have hI := iv_sI (j := 0) (v := (6 : Int32)) hI o_v0 (by decide) (nu_free (by decide))
                          intro x231 ex231
                          have hI := iv_sI (j := 1) (v := x231) hI o_v0 (by decide) (nu_free (by decide))
                          intro _ _
                          refine ⟨fun c232 => ?_, fun c232 => ?_⟩
                          · exact hq _ _ hI g0 (Or.inl rfl)
                          · exact hq _ _ hI g0 (Or.inr rfl)
          · obtain ⟨a233, ea233, o_a233, -⟩ := sh 12 rfl hI o_v0
            refine ⟨a233, ea233, ?_⟩
            refine ⟨o_a233, ?_⟩
            intro x234 ex234
            have r_x234 : (0 : Int32) ≤ x234 ∧ x234 ≤ (12 : Int32) := by rw [ex234]; exact nu 13 rfl hI o_a233
            refine m_X4_hasRoom hI o_v0 hT (fun x235 S236 hI g237 b_x235 p_x235 => ?_)
            obtain hT := p_x235
            have o_a233 := gr_ob g237 o_a233
            have o_v0 := gr_ob g237 o_v0
            have o_v1 := gr_ob g237 o_v1
            have g0 := gr_tr g0 g237
            have gL5 := gr_tr gL5 g237
            intro _ _
            have bb_x235 : x235 = 0 ∨ x235 = 1 := b_x235
            refine ⟨fun c238 => ?_, fun c238 => ?_⟩
            · refine u_X4_read_153 ?_
              refine u_X4_read_154 ?_
              refine u_X4_read_248 ?_
              refine ⟨fun c239 => ?_, fun c239 => ?_⟩
              · refine u_X4_read_295 ?_
                refine ⟨fun c240 => ?_, fun c240 => ?_⟩
                · exact hq _ _ hI g0 (Or.inl rfl)
                · refine ⟨o_v0, ?_⟩
                  refine m_X4_sign hI o_v0 hT (fun x241 S242 hI g243 b_x241 p_x241 => ?_)
                  obtain hT := p_x241
                  have o_a233 := gr_ob g243 o_a233
                  have o_v0 := gr_ob g243 o_v0
                  have o_v1 := gr_ob g243 o_v1
                  have g0 := gr_tr g0 g243
                  have gL5 := gr_tr gL5 g243
                  intro _ _
                  have bb_x241 : x241 = 0 ∨ x241 = 1 := b_x241
                  refine ⟨fun c244 => ?_, fun c244 => ?_⟩
                  · intro x245 ex245
                    exact ih10 _ _ _ ⟨hI, gL5, rfl, (q44 i1 c11 c239 c240 ex245)⟩ (mu_up (q45 i1 c11 c239 c240 ex245) (q46 i1 c11 c239 c240 ex245))
                  · exact hq _ _ hI g0 (Or.inl rfl)
              · refine ⟨o_v0, ?_⟩
                intro x246 ex246
                refine ⟨fun c247 => ?_, fun c247 => ?_⟩
                · refine u_X4_read_295 ?_
                  refine ⟨fun c248 => ?_, fun c248 => ?_⟩
                  · exact hq _ _ hI g0 (Or.inl rfl)
                  · refine ⟨o_v0, ?_⟩
                    refine m_X4_sign hI o_v0 hT (fun x249 S250 hI g251 b_x249 p_x249 => ?_)
                    obtain hT := p_x249
                    have o_a233 := gr_ob g251 o_a233
                    have o_v0 := gr_ob g251 o_v0
                    have o_v1 := gr_ob g251 o_v1
                    have g0 := gr_tr g0 g251
                    have gL5 := gr_tr gL5 g251
                    intro _ _
                    have bb_x249 : x249 = 0 ∨ x249 = 1 := b_x249
                    refine ⟨fun c252 => ?_, fun c252 => ?_⟩
                    · intro x253 ex253
                      exact ih10 _ _ _ ⟨hI, gL5, rfl, (q47 i1 c11 c239 c248 ex253)⟩ (mu_up (q48 i1 c11 c239 c248 ex253) (q49 i1 c11 c239 c248 ex253))
                    · exact hq _ _ hI g0 (Or.inl rfl)
                · obtain ⟨a254, ea254, o_a254, -⟩ := sh 12 rfl hI o_v0
                  refine ⟨a254, ea254, ?_⟩
                  refine ⟨o_a254, ?_⟩
                  intro x255 ex255
                  have r_x255 : (0 : Int32) ≤ x255 ∧ x255 ≤ (8 : Int32) := by rw [ex255]; exact nu 12 rfl hI o_a254
                  refine ⟨fun c256 => ?_, fun c256 => ?_⟩
                  · refine u_X4_read_280 ?_
                    refine ⟨o_v0, ?_⟩
                    refine u_X4_fail ?_
                    refine u_X4_fail_0 ?_
                    refine ⟨o_v0, ?_⟩
                    have hI := iv_sI (j := 0) (v := (6 : Int32)) hI o_v0 (by decide) (nu_free (by decide))
                    intro x257 ex257
                    have hI := iv_sI (j := 1) (v := x257) hI o_v0 (by decide) (nu_free (by decide))
                    intro _ _
                    refine ⟨fun c258 => ?_, fun c258 => ?_⟩
                    · exact hq _ _ hI g0 (Or.inl rfl)
                    · exact hq _ _ hI g0 (Or.inr rfl)
                  · obtain ⟨a259, ea259, o_a259, -⟩ := sh 12 rfl hI o_v0
                    refine ⟨a259, ea259, ?_⟩
                    refine ⟨o_a259, ?_⟩
                    intro x260 ex260
                    have r_x260 : (0 : Int32) ≤ x260 ∧ x260 ≤ (4 : Int32) := by rw [ex260]; exact nu 14 rfl hI o_a259
                    refine ⟨fun c261 => ?_, fun c261 => ?_⟩
                    · exact hq _ _ hI g0 (Or.inr rfl)
                    · refine u_X4_read_280 ?_
                      refine ⟨o_v0, ?_⟩
                      refine u_X4_fail ?_
                      refine u_X4_fail_0 ?_
                      refine ⟨o_v0, ?_⟩
                      have hI := iv_sI (j := 0) (v := (6 : Int32)) hI o_v0 (by decide) (nu_free (by decide))
                      intro x262 ex262
                      have hI := iv_sI (j := 1) (v := x262) hI o_v0 (by decide) (nu_free (by decide))
                      intro _ _
                      refine ⟨fun c263 => ?_, fun c263 => ?_⟩
                      · exact hq _ _ hI g0 (Or.inl rfl)
                      · exact hq _ _ hI g0 (Or.inr rfl)
            · refine m_X4_roadLine hI o_v0 hT (fun x264 S265 hI g266 b_x264 p_x264 => ?_)
              obtain hT := p_x264
              have o_a233 := gr_ob g266 o_a233
              have o_v0 := gr_ob g266 o_v0
              have o_v1 := gr_ob g266 o_v1
              have g0 := gr_tr g0 g266
              have gL5 := gr_tr gL5 g266
              intro _ _
              have bb_x264 : x264 = 0 ∨ x264 = 1 := b_x264
              refine ⟨fun c267 => ?_, fun c267 => ?_⟩
              · refine u_X4_read_153 ?_
                refine u_X4_read_154 ?_
                refine u_X4_read_248 ?_
                refine ⟨fun c268 => ?_, fun c268 => ?_⟩
                · refine u_X4_read_295 ?_
                  refine ⟨fun c269 => ?_, fun c269 => ?_⟩
                  · exact hq _ _ hI g0 (Or.inl rfl)
                  · refine ⟨o_v0, ?_⟩
                    refine m_X4_sign hI o_v0 hT (fun x270 S271 hI g272 b_x270 p_x270 => ?_)
                    obtain hT := p_x270
                    have o_a233 := gr_ob g272 o_a233
                    have o_v0 := gr_ob g272 o_v0
                    have o_v1 := gr_ob g272 o_v1
                    have g0 := gr_tr g0 g272
                    have gL5 := gr_tr gL5 g272
                    intro _ _
                    have bb_x270 : x270 = 0 ∨ x270 = 1 := b_x270
                    refine ⟨fun c273 => ?_, fun c273 => ?_⟩
                    · intro x274 ex274
                      exact ih10 _ _ _ ⟨hI, gL5, rfl, (q44 i1 c11 c268 c269 ex274)⟩ (mu_up (q45 i1 c11 c268 c269 ex274) (q46 i1 c11 c268 c269 ex274))
                    · exact hq _ _ hI g0 (Or.inl rfl)
                · refine ⟨o_v0, ?_⟩
                  intro x275 ex275
                  refine ⟨fun c276 => ?_, fun c276 => ?_⟩
                  · refine u_X4_read_295 ?_
                    refine ⟨fun c277 => ?_, fun c277 => ?_⟩
                    · exact hq _ _ hI g0 (Or.inl rfl)
                    · refine ⟨o_v0, ?_⟩
                      refine m_X4_sign hI o_v0 hT (fun x278 S279 hI g280 b_x278 p_x278 => ?_)
                      obtain hT := p_x278
                      have o_a233 := gr_ob g280 o_a233
                      have o_v0 := gr_ob g280 o_v0
                      have o_v1 := gr_ob g280 o_v1
                      have g0 := gr_tr g0 g280
                      have gL5 := gr_tr gL5 g280
                      intro _ _
                      have bb_x278 : x278 = 0 ∨ x278 = 1 := b_x278
                      refine ⟨fun c281 => ?_, fun c281 => ?_⟩
                      · intro x282 ex282
                        exact ih10 _ _ _ ⟨hI, gL5, rfl, (q47 i1 c11 c268 c277 ex282)⟩ (mu_up (q48 i1 c11 c268 c277 ex282) (q49 i1 c11 c268 c277 ex282))
                      · exact hq _ _ hI g0 (Or.inl rfl)
                  · obtain ⟨a283, ea283, o_a283, -⟩ := sh 12 rfl hI o_v0
                    refine ⟨a283, ea283, ?_⟩
                    refine ⟨o_a283, ?_⟩
                    intro x284 ex284
                    have r_x284 : (0 : Int32) ≤ x284 ∧ x284 ≤ (8 : Int32) := by rw [ex284]; exact nu 12 rfl hI o_a283
                    refine ⟨fun c285 => ?_, fun c285 => ?_⟩
                    · refine u_X4_read_280 ?_
                      refine ⟨o_v0, ?_⟩
                      refine u_X4_fail ?_
                      refine u_X4_fail_0 ?_
                      refine ⟨o_v0, ?_⟩
                      have hI := iv_sI (j := 0) (v := (6 : Int32)) hI o_v0 (by decide) (nu_free (by decide))
                      intro x286 ex286
                      have hI := iv_sI (j := 1) (v := x286) hI o_v0 (by decide) (nu_free (by decide))
                      intro _ _
                      refine ⟨fun c287 => ?_, fun c287 => ?_⟩
                      · exact hq _ _ hI g0 (Or.inl rfl)
                      · exact hq _ _ hI g0 (Or.inr rfl)
                    · obtain ⟨a288, ea288, o_a288, -⟩ := sh 12 rfl hI o_v0
                      refine ⟨a288, ea288, ?_⟩
                      refine ⟨o_a288, ?_⟩
                      intro x289 ex289
                      have r_x289 : (0 : Int32) ≤ x289 ∧ x289 ≤ (4 : Int32) := by rw [ex289]; exact nu 14 rfl hI o_a288
                      refine ⟨fun c290 => ?_, fun c290 => ?_⟩
                      · exact hq _ _ hI g0 (Or.inr rfl)
                      · refine u_X4_read_280 ?_
                        refine ⟨o_v0, ?_⟩
                        refine u_X4_fail ?_
                        refine u_X4_fail_0 ?_
                        refine ⟨o_v0, ?_⟩
                        have hI := iv_sI (j := 0) (v := (6 : Int32)) hI o_v0 (by decide) (nu_free (by decide))
                        intro x291 ex291
                        have hI := iv_sI (j := 1) (v := x291) hI o_v0 (by decide) (nu_free (by decide))
                        intro _ _
                        refine ⟨fun c292 => ?_, fun c292 => ?_⟩
                        · exact hq _ _ hI g0 (Or.inl rfl)
                        · exact hq _ _ hI g0 (Or.inr rfl)
              · refine u_X4_read_154 ?_
                refine u_X4_read_248 ?_
                refine ⟨fun c293 => ?_, fun c293 => ?_⟩
                · refine u_X4_read_295 ?_
                  refine ⟨fun c294 => ?_, fun c294 => ?_⟩
                  · exact hq _ _ hI g0 (Or.inl rfl)
                  · refine ⟨o_v0, ?_⟩
                    refine m_X4_sign hI o_v0 hT (fun x295 S296 hI g297 b_x295 p_x295 => ?_)
                    obtain hT := p_x295
                    have o_a233 := gr_ob g297 o_a233
                    have o_v0 := gr_ob g297 o_v0
                    have o_v1 := gr_ob g297 o_v1
                    have g0 := gr_tr g0 g297
                    have gL5 := gr_tr gL5 g297
                    intro _ _
                    have bb_x295 : x295 = 0 ∨ x295 = 1 := b_x295
                    refine ⟨fun c298 => ?_, fun c298 => ?_⟩
                    · intro x299 ex299
                      exact ih10 _ _ _ ⟨hI, gL5, rfl, (q50 i1 c11 c293 c294 ex299)⟩ (mu_up (q51 i1 c11 c293 c294 ex299) (q52 i1 c11 c293 c294 ex299))
                    · exact hq _ _ hI g0 (Or.inl rfl)
                · refine ⟨o_v0, ?_⟩
                  intro x300 ex300
                  refine ⟨fun c301 => ?_, fun c301 => ?_⟩
                  · refine u_X4_read_295 ?_
                    refine ⟨fun c302 => ?_, fun c302 => ?_⟩
                    · exact hq _ _ hI g0 (Or.inl rfl)
                    · refine ⟨o_v0, ?_⟩
                      refine m_X4_sign hI o_v0 hT (fun x303 S304 hI g305 b_x303 p_x303 => ?_)
                      obtain hT := p_x303
                      have o_a233 := gr_ob g305 o_a233
                      have o_v0 := gr_ob g305 o_v0
                      have o_v1 := gr_ob g305 o_v1
                      have g0 := gr_tr g0 g305
                      have gL5 := gr_tr gL5 g305
                      intro _ _
                      have bb_x303 : x303 = 0 ∨ x303 = 1 := b_x303
                      refine ⟨fun c306 => ?_, fun c306 => ?_⟩
                      · intro x307 ex307
                        exact ih10 _ _ _ ⟨hI, gL5, rfl, (q53 i1 c11 c293 c302 ex307)⟩ (mu_up (q54 i1 c11 c293 c302 ex307) (q55 i1 c11 c293 c302 ex307))
                      · exact hq _ _ hI g0 (Or.inl rfl)
                  · obtain ⟨a308, ea308, o_a308, -⟩ := sh 12 rfl hI o_v0
                    refine ⟨a308, ea308, ?_⟩
                    refine ⟨o_a308, ?_⟩
                    intro x309 ex309
                    have r_x309 : (0 : Int32) ≤ x309 ∧ x309 ≤ (8 : Int32) := by rw [ex309]; exact nu 12 rfl hI o_a308
                    refine ⟨fun c310 => ?_, fun c310 => ?_⟩
                    · refine u_X4_read_280 ?_
                      refine ⟨o_v0, ?_⟩
                      refine u_X4_fail ?_
                      refine u_X4_fail_0 ?_
                      refine ⟨o_v0, ?_⟩
                      have hI := iv_sI (j := 0) (v := (6 : Int32)) hI o_v0 (by decide) (nu_free (by decide))
                      intro x311 ex311
                      have hI := iv_sI (j := 1) (v := x311) hI o_v0 (by decide) (nu_free (by decide))
                      intro _ _
                      refine ⟨fun c312 => ?_, fun c312 => ?_⟩
                      · exact hq _ _ hI g0 (Or.inl rfl)
                      · exact hq _ _ hI g0 (Or.inr rfl)
                    · obtain ⟨a313, ea313, o_a313, -⟩ := sh 12 rfl hI o_v0
                      refine ⟨a313, ea313, ?_⟩
                      refine ⟨o_a313, ?_⟩
                      intro x314 ex314
                      have r_x314 : (0 : Int32) ≤ x314 ∧ x314 ≤ (4 : Int32) := by rw [ex314]; exact nu 14 rfl hI o_a313
                      refine ⟨fun c315 => ?_, fun c315 => ?_⟩
                      · exact hq _ _ hI g0 (Or.inr rfl)
                      · refine u_X4_read_280 ?_
                        refine ⟨o_v0, ?_⟩
                        refine u_X4_fail ?_
                        refine u_X4_fail_0 ?_
                        refine ⟨o_v0, ?_⟩
                        have hI := iv_sI (j := 0) (v := (6 : Int32)) hI o_v0 (by decide) (nu_free (by decide))
                        intro x316 ex316
                        have hI := iv_sI (j := 1) (v := x316) hI o_v0 (by decide) (nu_free (by decide))
                        intro _ _
                        refine ⟨fun c317 => ?_, fun c317 => ?_⟩
                        · exact hq _ _ hI g0 (Or.inl rfl)
                        · exact hq _ _ hI g0 (Or.inr rfl)
        · obtain ⟨a318, ea318, o_a318, -⟩ := sh 12 rfl hI o_v0
          refine ⟨a318, ea318, ?_⟩
          refine ⟨o_a318, ?_⟩
          intro x319 ex319
          have r_x319 : (0 : Int32) ≤ x319 ∧ x319 ≤ (8 : Int32) := by rw [ex319]; exact nu 12 rfl hI o_a318
          refine m_X4_hasRoom hI o_v0 hT (fun x320 S321 hI g322 b_x320 p_x320 => ?_)
          obtain hT := p_x320
          have o_a318 := gr_ob g322 o_a318
          have o_v0 := gr_ob g322 o_v0
          have o_v1 := gr_ob g322 o_v1
          have g0 := gr_tr g0 g322
          have gL5 := gr_tr gL5 g322
          intro _ _
          have bb_x320 : x320 = 0 ∨ x320 = 1 := b_x320
          refine ⟨fun c323 => ?_, fun c323 => ?_⟩
          · refine u_X4_read_111 ?_
            refine u_X4_read_112 ?_
            refine u_X4_read_248 ?_
            refine ⟨fun c324 => ?_, fun c324 => ?_⟩
            · refine u_X4_read_295 ?_
              refine ⟨fun c325 => ?_, fun c325 => ?_⟩
              · exact hq _ _ hI g0 (Or.inl rfl)
              · refine ⟨o_v0, ?_⟩
                refine m_X4_sign hI o_v0 hT (fun x326 S327 hI g328 b_x326 p_x326 => ?_)
                obtain hT := p_x326
                have o_a318 := gr_ob g328 o_a318
                have o_v0 := gr_ob g328 o_v0
                have o_v1 := gr_ob g328 o_v1
                have g0 := gr_tr g0 g328
                have gL5 := gr_tr gL5 g328
                intro _ _
                have bb_x326 : x326 = 0 ∨ x326 = 1 := b_x326
                refine ⟨fun c329 => ?_, fun c329 => ?_⟩
                · intro x330 ex330
                  exact ih10 _ _ _ ⟨hI, gL5, rfl, (q44 i1 c11 c324 c325 ex330)⟩ (mu_up (q45 i1 c11 c324 c325 ex330) (q46 i1 c11 c324 c325 ex330))
                · exact hq _ _ hI g0 (Or.inl rfl)
            · refine ⟨o_v0, ?_⟩
              intro x331 ex331
              refine ⟨fun c332 => ?_, fun c332 => ?_⟩
              · refine u_X4_read_295 ?_
                refine ⟨fun c333 => ?_, fun c333 => ?_⟩
                · exact hq _ _ hI g0 (Or.inl rfl)
                · refine ⟨o_v0, ?_⟩
                  refine m_X4_sign hI o_v0 hT (fun x334 S335 hI g336 b_x334 p_x334 => ?_)
                  obtain hT := p_x334
                  have o_a318 := gr_ob g336 o_a318
                  have o_v0 := gr_ob g336 o_v0
                  have o_v1 := gr_ob g336 o_v1
                  have g0 := gr_tr g0 g336
                  have gL5 := gr_tr gL5 g336
                  intro _ _
                  have bb_x334 : x334 = 0 ∨ x334 = 1 := b_x334
                  refine ⟨fun c337 => ?_, fun c337 => ?_⟩
                  · intro x338 ex338
                    exact ih10 _ _ _ ⟨hI, gL5, rfl, (q47 i1 c11 c324 c333 ex338)⟩ (mu_up (q48 i1 c11 c324 c333 ex338) (q49 i1 c11 c324 c333 ex338))
                  · exact hq _ _ hI g0 (Or.inl rfl)
              · obtain ⟨a339, ea339, o_a339, -⟩ := sh 12 rfl hI o_v0
                refine ⟨a339, ea339, ?_⟩
                refine ⟨o_a339, ?_⟩
                intro x340 ex340
                have r_x340 : (0 : Int32) ≤ x340 ∧ x340 ≤ (8 : Int32) := by rw [ex340]; exact nu 12 rfl hI o_a339
                refine ⟨fun c341 => ?_, fun c341 => ?_⟩
                · refine u_X4_read_280 ?_
                  refine ⟨o_v0, ?_⟩
                  refine u_X4_fail ?_
                  refine u_X4_fail_0 ?_
                  refine ⟨o_v0, ?_⟩
                  have hI := iv_sI (j := 0) (v := (6 : Int32)) hI o_v0 (by decide) (nu_free (by decide))
                  intro x342 ex342
                  have hI := iv_sI (j := 1) (v := x342) hI o_v0 (by decide) (nu_free (by decide))
                  intro _ _
                  refine ⟨fun c343 => ?_, fun c343 => ?_⟩
                  · exact hq _ _ hI g0 (Or.inl rfl)
                  · exact hq _ _ hI g0 (Or.inr rfl)
                · obtain ⟨a344, ea344, o_a344, -⟩ := sh 12 rfl hI o_v0
                  refine ⟨a344, ea344, ?_⟩
                  refine ⟨o_a344, ?_⟩
                  intro x345 ex345
                  have r_x345 : (0 : Int32) ≤ x345 ∧ x345 ≤ (4 : Int32) := by rw [ex345]; exact nu 14 rfl hI o_a344
                  refine ⟨fun c346 => ?_, fun c346 => ?_⟩
                  · exact hq _ _ hI g0 (Or.inr rfl)
                  · refine u_X4_read_280 ?_
                    refine ⟨o_v0, ?_⟩
                    refine u_X4_fail ?_
                    refine u_X4_fail_0 ?_
                    refine ⟨o_v0, ?_⟩
                    have hI := iv_sI (j := 0) (v := (6 : Int32)) hI o_v0 (by decide) (nu_free (by decide))
                    intro x347 ex347
                    have hI := iv_sI (j := 1) (v := x347) hI o_v0 (by decide) (nu_free (by decide))
                    intro _ _
                    refine ⟨fun c348 => ?_, fun c348 => ?_⟩
                    · exact hq _ _ hI g0 (Or.inl rfl)
                    · exact hq _ _ hI g0 (Or.inr rfl)
          · refine m_X4_placeLine hI o_v0 hT (fun x349 S350 hI g351 b_x349 p_x349 => ?_)
            obtain hT := p_x349
            have o_a318 := gr_ob g351 o_a318
            have o_v0 := gr_ob g351 o_v0
            have o_v1 := gr_ob g351 o_v1
            have g0 := gr_tr g0 g351
            have gL5 := gr_tr gL5 g351
            intro _ _
            have bb_x349 : x349 = 0 ∨ x349 = 1 := b_x349
            refine ⟨fun c352 => ?_, fun c352 => ?_⟩
            · refine u_X4_read_111 ?_
              refine u_X4_read_112 ?_
              refine u_X4_read_248 ?_
              refine ⟨fun c353 => ?_, fun c353 => ?_⟩
              · refine u_X4_read_295 ?_
                refine ⟨fun c354 => ?_, fun c354 => ?_⟩
                · exact hq _ _ hI g0 (Or.inl rfl)
                · refine ⟨o_v0, ?_⟩
                  refine m_X4_sign hI o_v0 hT (fun x355 S356 hI g357 b_x355 p_x355 => ?_)
                  obtain hT := p_x355
                  have o_a318 := gr_ob g357 o_a318
                  have o_v0 := gr_ob g357 o_v0
                  have o_v1 := gr_ob g357 o_v1
                  have g0 := gr_tr g0 g357
                  have gL5 := gr_tr gL5 g357
                  intro _ _
                  have bb_x355 : x355 = 0 ∨ x355 = 1 := b_x355
                  refine ⟨fun c358 => ?_, fun c358 => ?_⟩
                  · intro x359 ex359
                    exact ih10 _ _ _ ⟨hI, gL5, rfl, (q44 i1 c11 c353 c354 ex359)⟩ (mu_up (q45 i1 c11 c353 c354 ex359) (q46 i1 c11 c353 c354 ex359))
                  · exact hq _ _ hI g0 (Or.inl rfl)
              · refine ⟨o_v0, ?_⟩
                intro x360 ex360
                refine ⟨fun c361 => ?_, fun c361 => ?_⟩
                · refine u_X4_read_295 ?_
                  refine ⟨fun c362 => ?_, fun c362 => ?_⟩
                  · exact hq _ _ hI g0 (Or.inl rfl)
                  · refine ⟨o_v0, ?_⟩
                    refine m_X4_sign hI o_v0 hT (fun x363 S364 hI g365 b_x363 p_x363 => ?_)
                    obtain hT := p_x363
                    have o_a318 := gr_ob g365 o_a318
                    have o_v0 := gr_ob g365 o_v0
                    have o_v1 := gr_ob g365 o_v1
                    have g0 := gr_tr g0 g365
                    have gL5 := gr_tr gL5 g365
                    intro _ _
                    have bb_x363 : x363 = 0 ∨ x363 = 1 := b_x363
                    refine ⟨fun c366 => ?_, fun c366 => ?_⟩
                    · intro x367 ex367
                      exact ih10 _ _ _ ⟨hI, gL5, rfl, (q47 i1 c11 c353 c362 ex367)⟩ (mu_up (q48 i1 c11 c353 c362 ex367) (q49 i1 c11 c353 c362 ex367))
                    · exact hq _ _ hI g0 (Or.inl rfl)
                · obtain ⟨a368, ea368, o_a368, -⟩ := sh 12 rfl hI o_v0
                  refine ⟨a368, ea368, ?_⟩
                  refine ⟨o_a368, ?_⟩
                  intro x369 ex369
                  have r_x369 : (0 : Int32) ≤ x369 ∧ x369 ≤ (8 : Int32) := by rw [ex369]; exact nu 12 rfl hI o_a368
                  refine ⟨fun c370 => ?_, fun c370 => ?_⟩
                  · refine u_X4_read_280 ?_
                    refine ⟨o_v0, ?_⟩
                    refine u_X4_fail ?_
                    refine u_X4_fail_0 ?_
                    refine ⟨o_v0, ?_⟩
                    have hI := iv_sI (j := 0) (v := (6 : Int32)) hI o_v0 (by decide) (nu_free (by decide))
                    intro x371 ex371
                    have hI := iv_sI (j := 1) (v := x371) hI o_v0 (by decide) (nu_free (by decide))
                    intro _ _
                    refine ⟨fun c372 => ?_, fun c372 => ?_⟩
                    · exact hq _ _ hI g0 (Or.inl rfl)
                    · exact hq _ _ hI g0 (Or.inr rfl)
                  · obtain ⟨a373, ea373, o_a373, -⟩ := sh 12 rfl hI o_v0
                    refine ⟨a373, ea373, ?_⟩
                    refine ⟨o_a373, ?_⟩
                    intro x374 ex374
                    have r_x374 : (0 : Int32) ≤ x374 ∧ x374 ≤ (4 : Int32) := by rw [ex374]; exact nu 14 rfl hI o_a373
                    refine ⟨fun c375 => ?_, fun c375 => ?_⟩
                    · exact hq _ _ hI g0 (Or.inr rfl)
                    · refine u_X4_read_280 ?_
                      refine ⟨o_v0, ?_⟩
                      refine u_X4_fail ?_
                      refine u_X4_fail_0 ?_
                      refine ⟨o_v0, ?_⟩
                      have hI := iv_sI (j := 0) (v := (6 : Int32)) hI o_v0 (by decide) (nu_free (by decide))
                      intro x376 ex376
                      have hI := iv_sI (j := 1) (v := x376) hI o_v0 (by decide) (nu_free (by decide))
                      intro _ _
                      refine ⟨fun c377 => ?_, fun c377 => ?_⟩
                      · exact hq _ _ hI g0 (Or.inl rfl)
                      · exact hq _ _ hI g0 (Or.inr rfl)
            · refine u_X4_read_112 ?_
              refine u_X4_read_248 ?_
              refine ⟨fun c378 => ?_, fun c378 => ?_⟩
              · refine u_X4_read_295 ?_
                refine ⟨fun c379 => ?_, fun c379 => ?_⟩
                · exact hq _ _ hI g0 (Or.inl rfl)
                · refine ⟨o_v0, ?_⟩
                  refine m_X4_sign hI o_v0 hT (fun x380 S381 hI g382 b_x380 p_x380 => ?_)
                  obtain hT := p_x380
                  have o_a318 := gr_ob g382 o_a318
                  have o_v0 := gr_ob g382 o_v0
                  have o_v1 := gr_ob g382 o_v1
                  have g0 := gr_tr g0 g382
                  have gL5 := gr_tr gL5 g382
                  intro _ _
                  have bb_x380 : x380 = 0 ∨ x380 = 1 := b_x380
                  refine ⟨fun c383 => ?_, fun c383 => ?_⟩
                  · intro x384 ex384
                    exact ih10 _ _ _ ⟨hI, gL5, rfl, (q50 i1 c11 c378 c379 ex384)⟩ (mu_up (q51 i1 c11 c378 c379 ex384) (q52 i1 c11 c378 c379 ex384))
                  · exact hq _ _ hI g0 (Or.inl rfl)
              · refine ⟨o_v0, ?_⟩
                intro x385 ex385
                refine ⟨fun c386 => ?_, fun c386 => ?_⟩
                · refine u_X4_read_295 ?_
                  refine ⟨fun c387 => ?_, fun c387 => ?_⟩
                  · exact hq _ _ hI g0 (Or.inl rfl)
                  · refine ⟨o_v0, ?_⟩
                    refine m_X4_sign hI o_v0 hT (fun x388 S389 hI g390 b_x388 p_x388 => ?_)
                    obtain hT := p_x388
                    have o_a318 := gr_ob g390 o_a318
                    have o_v0 := gr_ob g390 o_v0
                    have o_v1 := gr_ob g390 o_v1
                    have g0 := gr_tr g0 g390
                    have gL5 := gr_tr gL5 g390
                    intro _ _
                    have bb_x388 : x388 = 0 ∨ x388 = 1 := b_x388
                    refine ⟨fun c391 => ?_, fun c391 => ?_⟩
                    · intro x392 ex392
                      exact ih10 _ _ _ ⟨hI, gL5, rfl, (q53 i1 c11 c378 c387 ex392)⟩ (mu_up (q54 i1 c11 c378 c387 ex392) (q55 i1 c11 c378 c387 ex392))
                    · exact hq _ _ hI g0 (Or.inl rfl)
                · obtain ⟨a393, ea393, o_a393, -⟩ := sh 12 rfl hI o_v0
                  refine ⟨a393, ea393, ?_⟩
                  refine ⟨o_a393, ?_⟩
                  intro x394 ex394
                  have r_x394 : (0 : Int32) ≤ x394 ∧ x394 ≤ (8 : Int32) := by rw [ex394]; exact nu 12 rfl hI o_a393
                  refine ⟨fun c395 => ?_, fun c395 => ?_⟩
                  · refine u_X4_read_280 ?_
                    refine ⟨o_v0, ?_⟩
                    refine u_X4_fail ?_
                    refine u_X4_fail_0 ?_
                    refine ⟨o_v0, ?_⟩
                    have hI := iv_sI (j := 0) (v := (6 : Int32)) hI o_v0 (by decide) (nu_free (by decide))
                    intro x396 ex396
                    have hI := iv_sI (j := 1) (v := x396) hI o_v0 (by decide) (nu_free (by decide))
                    intro _ _
                    refine ⟨fun c397 => ?_, fun c397 => ?_⟩
                    · exact hq _ _ hI g0 (Or.inl rfl)
                    · exact hq _ _ hI g0 (Or.inr rfl)
                  · obtain ⟨a398, ea398, o_a398, -⟩ := sh 12 rfl hI o_v0
                    refine ⟨a398, ea398, ?_⟩
                    refine ⟨o_a398, ?_⟩
                    intro x399 ex399
                    have r_x399 : (0 : Int32) ≤ x399 ∧ x399 ≤ (4 : Int32) := by rw [ex399]; exact nu 14 rfl hI o_a398
                    refine ⟨fun c400 => ?_, fun c400 => ?_⟩
                    · exact hq _ _ hI g0 (Or.inr rfl)
                    · refine u_X4_read_280 ?_
                      refine ⟨o_v0, ?_⟩
                      refine u_X4_fail ?_
                      refine u_X4_fail_0 ?_
                      refine ⟨o_v0, ?_⟩
                      have hI := iv_sI (j := 0) (v := (6 : Int32)) hI o_v0 (by decide) (nu_free (by decide))
                      intro x401 ex401
                      have hI := iv_sI (j := 1) (v := x401) hI o_v0 (by decide) (nu_free (by decide))
                      intro _ _
                      refine ⟨fun c402 => ?_, fun c402 => ?_⟩
                      · exact hq _ _ hI g0 (Or.inl rfl)
                      · exact hq _ _ hI g0 (Or.inr rfl)
      · obtain ⟨a403, ea403, o_a403, -⟩ := sh 12 rfl hI o_v0
        refine ⟨a403, ea403, ?_⟩
        refine ⟨o_a403, ?_⟩
        intro x404 ex404
        have r_x404 : (0 : Int32) ≤ x404 ∧ x404 ≤ (6 : Int32) := by rw [ex404]; exact nu 11 rfl hI o_a403
        refine m_X4_hasRoom hI o_v0 hT (fun x405 S406 hI g407 b_x405 p_x405 => ?_)
        obtain hT := p_x405
        have o_a403 := gr_ob g407 o_a403
        have o_v0 := gr_ob g407 o_v0
        have o_v1 := gr_ob g407 o_v1
        have g0 := gr_tr g0 g407
        have gL5 := gr_tr gL5 g407
        intro _ _
        have bb_x405 : x405 = 0 ∨ x405 = 1 := b_x405
        refine ⟨fun c408 => ?_, fun c408 => ?_⟩
        · refine u_X4_read_69 ?_
          refine u_X4_read_70 ?_
          refine u_X4_read_248 ?_
          refine ⟨fun c409 => ?_, fun c409 => ?_⟩
          · refine u_X4_read_295 ?_
            refine ⟨fun c410 => ?_, fun c410 => ?_⟩
            · exact hq _ _ hI g0 (Or.inl rfl)
            · refine ⟨o_v0, ?_⟩
              refine m_X4_sign hI o_v0 hT (fun x411 S412 hI g413 b_x411 p_x411 => ?_)
              obtain hT := p_x411
              have o_a403 := gr_ob g413 o_a403
              have o_v0 := gr_ob g413 o_v0
              have o_v1 := gr_ob g413 o_v1
              have g0 := gr_tr g0 g413
              have gL5 := gr_tr gL5 g413
              intro _ _
              have bb_x411 : x411 = 0 ∨ x411 = 1 := b_x411
              refine ⟨fun c414 => ?_, fun c414 => ?_⟩
              · intro x415 ex415
                exact ih10 _ _ _ ⟨hI, gL5, rfl, (q44 i1 c11 c409 c410 ex415)⟩ (mu_up (q45 i1 c11 c409 c410 ex415) (q46 i1 c11 c409 c410 ex415))
              · exact hq _ _ hI g0 (Or.inl rfl)
          · refine ⟨o_v0, ?_⟩
            intro x416 ex416
            refine ⟨fun c417 => ?_, fun c417 => ?_⟩
            · refine u_X4_read_295 ?_
              refine ⟨fun c418 => ?_, fun c418 => ?_⟩
              · exact hq _ _ hI g0 (Or.inl rfl)
              · refine ⟨o_v0, ?_⟩
                refine m_X4_sign hI o_v0 hT (fun x419 S420 hI g421 b_x419 p_x419 => ?_)
                obtain hT := p_x419
                have o_a403 := gr_ob g421 o_a403
                have o_v0 := gr_ob g421 o_v0
                have o_v1 := gr_ob g421 o_v1
                have g0 := gr_tr g0 g421
                have gL5 := gr_tr gL5 g421
                intro _ _
                have bb_x419 : x419 = 0 ∨ x419 = 1 := b_x419
                refine ⟨fun c422 => ?_, fun c422 => ?_⟩
                · intro x423 ex423
                  exact ih10 _ _ _ ⟨hI, gL5, rfl, (q47 i1 c11 c409 c418 ex423)⟩ (mu_up (q48 i1 c11 c409 c418 ex423) (q49 i1 c11 c409 c418 ex423))
                · exact hq _ _ hI g0 (Or.inl rfl)
            · obtain ⟨a424, ea424, o_a424, -⟩ := sh 12 rfl hI o_v0
              refine ⟨a424, ea424, ?_⟩
              refine ⟨o_a424, ?_⟩
              intro x425 ex425
              have r_x425 : (0 : Int32) ≤ x425 ∧ x425 ≤ (8 : Int32) := by rw [ex425]; exact nu 12 rfl hI o_a424
              refine ⟨fun c426 => ?_, fun c426 => ?_⟩
              · refine u_X4_read_280 ?_
                refine ⟨o_v0, ?_⟩
                refine u_X4_fail ?_
                refine u_X4_fail_0 ?_
                refine ⟨o_v0, ?_⟩
                have hI := iv_sI (j := 0) (v := (6 : Int32)) hI o_v0 (by decide) (nu_free (by decide))
                intro x427 ex427
                have hI := iv_sI (j := 1) (v := x427) hI o_v0 (by decide) (nu_free (by decide))
                intro _ _
                refine ⟨fun c428 => ?_, fun c428 => ?_⟩
                · exact hq _ _ hI g0 (Or.inl rfl)
                · exact hq _ _ hI g0 (Or.inr rfl)
              · obtain ⟨a429, ea429, o_a429, -⟩ := sh 12 rfl hI o_v0
                refine ⟨a429, ea429, ?_⟩
                refine ⟨o_a429, ?_⟩
                intro x430 ex430
                have r_x430 : (0 : Int32) ≤ x430 ∧ x430 ≤ (4 : Int32) := by rw [ex430]; exact nu 14 rfl hI o_a429
                refine ⟨fun c431 => ?_, fun c431 => ?_⟩
                · exact hq _ _ hI g0 (Or.inr rfl)
                · refine u_X4_read_280 ?_
                  refine ⟨o_v0, ?_⟩
                  refine u_X4_fail ?_
                  refine u_X4_fail_0 ?_
                  refine ⟨o_v0, ?_⟩
                  have hI := iv_sI (j := 0) (v := (6 : Int32)) hI o_v0 (by decide) (nu_free (by decide))
                  intro x432 ex432
                  have hI := iv_sI (j := 1) (v := x432) hI o_v0 (by decide) (nu_free (by decide))
                  intro _ _
                  refine ⟨fun c433 => ?_, fun c433 => ?_⟩
                  · exact hq _ _ hI g0 (Or.inl rfl)
                  · exact hq _ _ hI g0 (Or.inr rfl)
        · refine m_X4_rainLine hI o_v0 hT (fun x434 S435 hI g436 b_x434 p_x434 => ?_)
          obtain hT := p_x434
          have o_a403 := gr_ob g436 o_a403
          have o_v0 := gr_ob g436 o_v0
          have o_v1 := gr_ob g436 o_v1
          have g0 := gr_tr g0 g436
          have gL5 := gr_tr gL5 g436
          intro _ _
          have bb_x434 : x434 = 0 ∨ x434 = 1 := b_x434
          refine ⟨fun c437 => ?_, fun c437 => ?_⟩
          · refine u_X4_read_69 ?_
            refine u_X4_read_70 ?_
            refine u_X4_read_248 ?_
            refine ⟨fun c438 => ?_, fun c438 => ?_⟩
            · refine u_X4_read_295 ?_
              refine ⟨fun c439 => ?_, fun c439 => ?_⟩
              · exact hq _ _ hI g0 (Or.inl rfl)
              · refine ⟨o_v0, ?_⟩
                refine m_X4_sign hI o_v0 hT (fun x440 S441 hI g442 b_x440 p_x440 => ?_)
                obtain hT := p_x440
                have o_a403 := gr_ob g442 o_a403
                have o_v0 := gr_ob g442 o_v0
                have o_v1 := gr_ob g442 o_v1
                have g0 := gr_tr g0 g442
                have gL5 := gr_tr gL5 g442
                intro _ _
                have bb_x440 : x440 = 0 ∨ x440 = 1 := b_x440
                refine ⟨fun c443 => ?_, fun c443 => ?_⟩
                · intro x444 ex444
                  exact ih10 _ _ _ ⟨hI, gL5, rfl, (q44 i1 c11 c438 c439 ex444)⟩ (mu_up (q45 i1 c11 c438 c439 ex444) (q46 i1 c11 c438 c439 ex444))
                · exact hq _ _ hI g0 (Or.inl rfl)
            · refine ⟨o_v0, ?_⟩
              intro x445 ex445
              refine ⟨fun c446 => ?_, fun c446 => ?_⟩
              · refine u_X4_read_295 ?_
                refine ⟨fun c447 => ?_, fun c447 => ?_⟩
                · exact hq _ _ hI g0 (Or.inl rfl)
                · refine ⟨o_v0, ?_⟩
                  refine m_X4_sign hI o_v0 hT (fun x448 S449 hI g450 b_x448 p_x448 => ?_)
                  obtain hT := p_x448
                  have o_a403 := gr_ob g450 o_a403
                  have o_v0 := gr_ob g450 o_v0
                  have o_v1 := gr_ob g450 o_v1
                  have g0 := gr_tr g0 g450
                  have gL5 := gr_tr gL5 g450
                  intro _ _
                  have bb_x448 : x448 = 0 ∨ x448 = 1 := b_x448
                  refine ⟨fun c451 => ?_, fun c451 => ?_⟩
                  · intro x452 ex452
                    exact ih10 _ _ _ ⟨hI, gL5, rfl, (q47 i1 c11 c438 c447 ex452)⟩ (mu_up (q48 i1 c11 c438 c447 ex452) (q49 i1 c11 c438 c447 ex452))
                  · exact hq _ _ hI g0 (Or.inl rfl)
              · obtain ⟨a453, ea453, o_a453, -⟩ := sh 12 rfl hI o_v0
                refine ⟨a453, ea453, ?_⟩
                refine ⟨o_a453, ?_⟩
                intro x454 ex454
                have r_x454 : (0 : Int32) ≤ x454 ∧ x454 ≤ (8 : Int32) := by rw [ex454]; exact nu 12 rfl hI o_a453
                refine ⟨fun c455 => ?_, fun c455 => ?_⟩
                · refine u_X4_read_280 ?_
                  refine ⟨o_v0, ?_⟩
                  refine u_X4_fail ?_
                  refine u_X4_fail_0 ?_
                  refine ⟨o_v0, ?_⟩
                  have hI := iv_sI (j := 0) (v := (6 : Int32)) hI o_v0 (by decide) (nu_free (by decide))
                  intro x456 ex456
                  have hI := iv_sI (j := 1) (v := x456) hI o_v0 (by decide) (nu_free (by decide))
                  intro _ _
                  refine ⟨fun c457 => ?_, fun c457 => ?_⟩
                  · exact hq _ _ hI g0 (Or.inl rfl)
                  · exact hq _ _ hI g0 (Or.inr rfl)
                · obtain ⟨a458, ea458, o_a458, -⟩ := sh 12 rfl hI o_v0
                  refine ⟨a458, ea458, ?_⟩
                  refine ⟨o_a458, ?_⟩
                  intro x459 ex459
                  have r_x459 : (0 : Int32) ≤ x459 ∧ x459 ≤ (4 : Int32) := by rw [ex459]; exact nu 14 rfl hI o_a458
                  refine ⟨fun c460 => ?_, fun c460 => ?_⟩
                  · exact hq _ _ hI g0 (Or.inr rfl)
                  · refine u_X4_read_280 ?_
                    refine ⟨o_v0, ?_⟩
                    refine u_X4_fail ?_
                    refine u_X4_fail_0 ?_
                    refine ⟨o_v0, ?_⟩
                    have hI := iv_sI (j := 0) (v := (6 : Int32)) hI o_v0 (by decide) (nu_free (by decide))
                    intro x461 ex461
                    have hI := iv_sI (j := 1) (v := x461) hI o_v0 (by decide) (nu_free (by decide))
                    intro _ _
                    refine ⟨fun c462 => ?_, fun c462 => ?_⟩
                    · exact hq _ _ hI g0 (Or.inl rfl)
                    · exact hq _ _ hI g0 (Or.inr rfl)
          · refine u_X4_read_70 ?_
            refine u_X4_read_248 ?_
            refine ⟨fun c463 => ?_, fun c463 => ?_⟩
            · refine u_X4_read_295 ?_
              refine ⟨fun c464 => ?_, fun c464 => ?_⟩
              · exact hq _ _ hI g0 (Or.inl rfl)
              · refine ⟨o_v0, ?_⟩
                refine m_X4_sign hI o_v0 hT (fun x465 S466 hI g467 b_x465 p_x465 => ?_)
                obtain hT := p_x465
                have o_a403 := gr_ob g467 o_a403
                have o_v0 := gr_ob g467 o_v0
                have o_v1 := gr_ob g467 o_v1
                have g0 := gr_tr g0 g467
                have gL5 := gr_tr gL5 g467
                intro _ _
                have bb_x465 : x465 = 0 ∨ x465 = 1 := b_x465
                refine ⟨fun c468 => ?_, fun c468 => ?_⟩
                · intro x469 ex469
                  exact ih10 _ _ _ ⟨hI, gL5, rfl, (q50 i1 c11 c463 c464 ex469)⟩ (mu_up (q51 i1 c11 c463 c464 ex469) (q52 i1 c11 c463 c464 ex469))
                · exact hq _ _ hI g0 (Or.inl rfl)
            · refine ⟨o_v0, ?_⟩
              intro x470 ex470
              refine ⟨fun c471 => ?_, fun c471 => ?_⟩
              · refine u_X4_read_295 ?_
                refine ⟨fun c472 => ?_, fun c472 => ?_⟩
                · exact hq _ _ hI g0 (Or.inl rfl)
                · refine ⟨o_v0, ?_⟩
                  refine m_X4_sign hI o_v0 hT (fun x473 S474 hI g475 b_x473 p_x473 => ?_)
                  obtain hT := p_x473
                  have o_a403 := gr_ob g475 o_a403
                  have o_v0 := gr_ob g475 o_v0
                  have o_v1 := gr_ob g475 o_v1
                  have g0 := gr_tr g0 g475
                  have gL5 := gr_tr gL5 g475
                  intro _ _
                  have bb_x473 : x473 = 0 ∨ x473 = 1 := b_x473
                  refine ⟨fun c476 => ?_, fun c476 => ?_⟩
                  · intro x477 ex477
                    exact ih10 _ _ _ ⟨hI, gL5, rfl, (q53 i1 c11 c463 c472 ex477)⟩ (mu_up (q54 i1 c11 c463 c472 ex477) (q55 i1 c11 c463 c472 ex477))
                  · exact hq _ _ hI g0 (Or.inl rfl)
              · obtain ⟨a478, ea478, o_a478, -⟩ := sh 12 rfl hI o_v0
                refine ⟨a478, ea478, ?_⟩
                refine ⟨o_a478, ?_⟩
                intro x479 ex479
                have r_x479 : (0 : Int32) ≤ x479 ∧ x479 ≤ (8 : Int32) := by rw [ex479]; exact nu 12 rfl hI o_a478
                refine ⟨fun c480 => ?_, fun c480 => ?_⟩
                · refine u_X4_read_280 ?_
                  refine ⟨o_v0, ?_⟩
                  refine u_X4_fail ?_
                  refine u_X4_fail_0 ?_
                  refine ⟨o_v0, ?_⟩
                  have hI := iv_sI (j := 0) (v := (6 : Int32)) hI o_v0 (by decide) (nu_free (by decide))
                  intro x481 ex481
                  have hI := iv_sI (j := 1) (v := x481) hI o_v0 (by decide) (nu_free (by decide))
                  intro _ _
                  refine ⟨fun c482 => ?_, fun c482 => ?_⟩
                  · exact hq _ _ hI g0 (Or.inl rfl)
                  · exact hq _ _ hI g0 (Or.inr rfl)
                · obtain ⟨a483, ea483, o_a483, -⟩ := sh 12 rfl hI o_v0
                  refine ⟨a483, ea483, ?_⟩
                  refine ⟨o_a483, ?_⟩
                  intro x484 ex484
                  have r_x484 : (0 : Int32) ≤ x484 ∧ x484 ≤ (4 : Int32) := by rw [ex484]; exact nu 14 rfl hI o_a483
                  refine ⟨fun c485 => ?_, fun c485 => ?_⟩
                  · exact hq _ _ hI g0 (Or.inr rfl)
                  · refine u_X4_read_280 ?_
                    refine ⟨o_v0, ?_⟩
                    refine u_X4_fail ?_
                    refine u_X4_fail_0 ?_
                    refine ⟨o_v0, ?_⟩
                    have hI := iv_sI (j := 0) (v := (6 : Int32)) hI o_v0 (by decide) (nu_free (by decide))
                    intro x486 ex486
                    have hI := iv_sI (j := 1) (v := x486) hI o_v0 (by decide) (nu_free (by decide))
                    intro _ _
                    refine ⟨fun c487 => ?_, fun c487 => ?_⟩
                    · exact hq _ _ hI g0 (Or.inl rfl)
                    · exact hq _ _ hI g0 (Or.inr rfl)
    · refine m_X4_worldLine hI o_v0 hT (fun x488 S489 hI g490 b_x488 p_x488 => ?_)
      obtain hT := p_x488
      have o_v0 := gr_ob g490 o_v0
      have o_v1 := gr_ob g490 o_v1
      have g0 := gr_tr g0 g490
      have gL5 := gr_tr gL5 g490
      intro _ _
      have bb_x488 : x488 = 0 ∨ x488 = 1 := b_x488
      refine u_X4_read_248 ?_
      refine ⟨fun c491 => ?_, fun c491 => ?_⟩
      · refine u_X4_read_295 ?_
        refine ⟨fun c492 => ?_, fun c492 => ?_⟩
        · exact hq _ _ hI g0 (Or.inl rfl)
        · refine ⟨o_v0, ?_⟩
          refine m_X4_sign hI o_v0 hT (fun x493 S494 hI g495 b_x493 p_x493 => ?_)
          obtain hT := p_x493
          have o_v0 := gr_ob g495 o_v0
          have o_v1 := gr_ob g495 o_v1
          have g0 := gr_tr g0 g495
          have gL5 := gr_tr gL5 g495
          intro _ _
          have bb_x493 : x493 = 0 ∨ x493 = 1 := b_x493
          refine ⟨fun c496 => ?_, fun c496 => ?_⟩
          · intro x497 ex497
            exact ih10 _ _ _ ⟨hI, gL5, rfl, (q56 i1 c11 ex497)⟩ (mu_up (q57 i1 c11 ex497) (q58 i1 c11 ex497))
          · exact hq _ _ hI g0 (Or.inl rfl)
      · refine ⟨o_v0, ?_⟩
        intro x498 ex498
        refine ⟨fun c499 => ?_, fun c499 => ?_⟩
        · refine u_X4_read_295 ?_
          refine ⟨fun c500 => ?_, fun c500 => ?_⟩
          · exact hq _ _ hI g0 (Or.inl rfl)
          · refine ⟨o_v0, ?_⟩
            refine m_X4_sign hI o_v0 hT (fun x501 S502 hI g503 b_x501 p_x501 => ?_)
            obtain hT := p_x501
            have o_v0 := gr_ob g503 o_v0
            have o_v1 := gr_ob g503 o_v1
            have g0 := gr_tr g0 g503
            have gL5 := gr_tr gL5 g503
            intro _ _
            have bb_x501 : x501 = 0 ∨ x501 = 1 := b_x501
            refine ⟨fun c504 => ?_, fun c504 => ?_⟩
            · intro x505 ex505
              exact ih10 _ _ _ ⟨hI, gL5, rfl, (q56 i1 c11 ex505)⟩ (mu_up (q57 i1 c11 ex505) (q58 i1 c11 ex505))
            · exact hq _ _ hI g0 (Or.inl rfl)
        · obtain ⟨a506, ea506, o_a506, -⟩ := sh 12 rfl hI o_v0
          refine ⟨a506, ea506, ?_⟩
          refine ⟨o_a506, ?_⟩
          intro x507 ex507
          have r_x507 : (0 : Int32) ≤ x507 ∧ x507 ≤ (8 : Int32) := by rw [ex507]; exact nu 12 rfl hI o_a506
          refine ⟨fun c508 => ?_, fun c508 => ?_⟩
          · refine u_X4_read_280 ?_
            refine ⟨o_v0, ?_⟩
            refine u_X4_fail ?_
            refine u_X4_fail_0 ?_
            refine ⟨o_v0, ?_⟩
            have hI := iv_sI (j := 0) (v := (6 : Int32)) hI o_v0 (by decide) (nu_free (by decide))
            intro x509 ex509
            have hI := iv_sI (j := 1) (v := x509) hI o_v0 (by decide) (nu_free (by decide))
            intro _ _
            refine ⟨fun c510 => ?_, fun c510 => ?_⟩
            · exact hq _ _ hI g0 (Or.inl rfl)
            · exact hq _ _ hI g0 (Or.inr rfl)
          · obtain ⟨a511, ea511, o_a511, -⟩ := sh 12 rfl hI o_v0
            refine ⟨a511, ea511, ?_⟩
            refine ⟨o_a511, ?_⟩
            intro x512 ex512
            have r_x512 : (0 : Int32) ≤ x512 ∧ x512 ≤ (4 : Int32) := by rw [ex512]; exact nu 14 rfl hI o_a511
            refine ⟨fun c513 => ?_, fun c513 => ?_⟩
            · exact hq _ _ hI g0 (Or.inr rfl)
            · refine u_X4_read_280 ?_
              refine ⟨o_v0, ?_⟩
              refine u_X4_fail ?_
              refine u_X4_fail_0 ?_
              refine ⟨o_v0, ?_⟩
              have hI := iv_sI (j := 0) (v := (6 : Int32)) hI o_v0 (by decide) (nu_free (by decide))
              intro x514 ex514
              have hI := iv_sI (j := 1) (v := x514) hI o_v0 (by decide) (nu_free (by decide))
              intro _ _
              refine ⟨fun c515 => ?_, fun c515 => ?_⟩
              · exact hq _ _ hI g0 (Or.inl rfl)
              · exact hq _ _ hI g0 (Or.inr rfl)
