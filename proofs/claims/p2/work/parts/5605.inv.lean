set_option maxHeartbeats 4000000 in
set_option maxRecDepth 20000 in
theorem m_X11_fitOf {v0 : Nat} {v1 : Int32} {v2 : Int32} {Q : Int32 → HS → Prop} {S : HS} (hI : IV S) (o_v0 : ob S v0 11)     (hwi1 : WI S v0 5 v1) (hq : ∀ (r : Int32) (T : HS), IV T → Gr S T → (S = T) → Q r T) : P_X11_fitOf v0 v1 v2 Q S := by
  have g0 := gr_rf S
  obtain ⟨a1, ea1, hx1⟩ := hwi1
  have o_a1 := ml_ob hI o_v0 ea1
  obtain ⟨y2, d_y2⟩ : ∃ z : Int32, z = fI S a1 5 := ⟨_, rfl⟩
  have r_y2 : (0 : Int32) ≤ y2 ∧ y2 ≤ (4 : Int32) := by rw [d_y2]; exact nu 21 rfl hI o_a1
  have hwi1 : 0 ≤ v1 ∧ v1 < y2 := by rw [d_y2]; exact hx1
  refine u_X11_fitOf ?_
  refine u_X11_fitOf_0 ?_
  refine ⟨o_v0, ?_⟩
  refine ⟨a1, ea1, ?_⟩
  refine ⟨o_a1, ?_⟩
  obtain ⟨a4, ea4, o_a4, l_a4⟩ := shl 48 rfl hI o_a1
  refine ⟨a4, ea4, ?_⟩
  refine ⟨o_a4, ?_⟩
  refine ⟨(vin l_a4 (m := 4) (by decide) (qm424 r_y2 hwi1)), ?_⟩
  intro x5 ex5
  have gy_x5 : 0 ≤ v1 ∧ v1 < fI S a1 5 := by rw [← d_y2]; exact (qm425 r_y2 hwi1)
  have g_x5 : (0 : Int32) ≤ x5 ∧ x5 ≤ (3 : Int32) := by rw [ex5]; exact wg_at (ml_wg hI o_v0 ea1) 5 rfl gy_x5 ea4
  obtain ⟨y6, d_y6⟩ : ∃ z : Int32, z = fI S a1 4 := ⟨_, rfl⟩
  have r_y6 : (0 : Int32) ≤ y6 ∧ y6 ≤ (4 : Int32) := by rw [d_y6]; exact nu 20 rfl hI o_a1
  have gl_x5 : x5 < y6 := by rw [ex5, d_y6]; exact wg_lt (ml_wg hI o_v0 ea1) 5 rfl (by decide) gy_x5 ea4
  refine i_X11_fitOf_16 (fun (y0 : Nat) (y1 : Int32) (y2 : Int32) (y3 : Int32) (y4 : Int32) (y5 : Int32) (Z : HS) => ((2147483647 : Int32).toInt - y5.toInt).toNat) (fun (y0 : Nat) (y1 : Int32) (y2 : Int32) (y3 : Int32) (y4 : Int32) (y5 : Int32) (Z : HS) => (S = Z) ∧ (v0 = y0) ∧ (v1 = y1) ∧ (v2 = y2) ∧ (x5 = y3) ∧ (0 ≤ y5)) ?_ _ _ _ _ _ _ _ ⟨rfl, rfl, rfl, rfl, rfl, (qm331)⟩
  intro w11 w13 w15 w17 w19 w20 S8 X21 ⟨eS8, q12, q14, q16, q18, i1u7⟩ ih22
  subst q12
  subst q14
  subst q16
  subst q18
  subst eS8
  refine u_X11_fitOf_16 ?_
  refine ⟨o_v0, ?_⟩
  refine ⟨a1, ea1, ?_⟩
  refine ⟨o_a1, ?_⟩
  intro x24 ex24
  have r_x24 : (0 : Int32) ≤ x24 ∧ x24 ≤ (12 : Int32) := by rw [ex24]; exact nu 19 rfl hI o_a1
  have d_x24 := ex24
  refine ⟨fun c25 => ?_, fun c25 => ?_⟩
  · refine ⟨fun c26 => ?_, fun c26 => ?_⟩
    · exact hq _ _ hI g0 rfl
    · exact hq _ _ hI g0 rfl
  · refine i_X11_fitOf_31 (fun (y0 : Nat) (y1 : Int32) (y2 : Int32) (y3 : Int32) (y4 : Int32) (y5 : Int32) (y6 : Int32) (Z : HS) => ((2147483647 : Int32).toInt - y6.toInt).toNat) (fun (y0 : Nat) (y1 : Int32) (y2 : Int32) (y3 : Int32) (y4 : Int32) (y5 : Int32) (y6 : Int32) (Z : HS) => (S = Z) ∧ (v0 = y0) ∧ (v1 = y1) ∧ (v2 = y2) ∧ (x5 = y3) ∧ (w20 = y5) ∧ (0 ≤ y6)) ?_ _ _ _ _ _ _ _ _ ⟨rfl, rfl, rfl, rfl, rfl, rfl, (qm426 i1u7 r_x24 c25)⟩
    intro w31 w33 w35 w37 w39 w40 w42 S28 X43 ⟨eS28, q32, q34, q36, q38, q41, i1u27⟩ ih44
    subst q32
    subst q34
    subst q36
    subst q38
    subst q41
    subst eS28
    refine u_X11_fitOf_31 ?_
    refine ⟨fun c45 => ?_, fun c45 => ?_⟩
    · intro x46 ex46
      exact ih22 _ _ _ _ _ _ _ ⟨rfl, rfl, rfl, rfl, rfl, (qm427 i1u7 r_x24 c25 i1u27 c45 ex46)⟩ (mu_up (qm428 i1u7 r_x24 c25 i1u27 c45 ex46) (qm429 i1u7 r_x24 c25 i1u27 c45 ex46))
    · refine i_X11_fitOf_40 (fun (y0 : Nat) (y1 : Int32) (y2 : Int32) (y3 : Int32) (y4 : Int32) (y5 : Int32) (y6 : Int32) (y7 : Int32) (Z : HS) => ((2147483647 : Int32).toInt - y7.toInt).toNat) (fun (y0 : Nat) (y1 : Int32) (y2 : Int32) (y3 : Int32) (y4 : Int32) (y5 : Int32) (y6 : Int32) (y7 : Int32) (Z : HS) => (S = Z) ∧ (v0 = y0) ∧ (v1 = y1) ∧ (v2 = y2) ∧ (x5 = y3) ∧ (w20 = y5) ∧ (w42 = y6) ∧ (0 ≤ y7)) ?_ _ _ _ _ _ _ _ _ _ ⟨rfl, rfl, rfl, rfl, rfl, rfl, rfl, (qm430 i1u7 r_x24 c25 i1u27 c45)⟩
      intro w51 w53 w55 w57 w59 w60 w62 w64 S48 X65 ⟨eS48, q52, q54, q56, q58, q61, q63, i1u47⟩ ih66
      subst q52
      subst q54
      subst q56
      subst q58
      subst q61
      subst q63
      subst eS48
      refine u_X11_fitOf_40 ?_
      refine ⟨o_v0, ?_⟩
      refine ⟨a1, ea1, ?_⟩
      refine ⟨o_a1, ?_⟩
      intro x68 ex68
      have r_x68 : (0 : Int32) ≤ x68 ∧ x68 ≤ (6 : Int32) := by rw [ex68]; exact nu 17 rfl hI o_a1
      have d_x68 := ex68
      refine ⟨fun c69 => ?_, fun c69 => ?_⟩
      · intro x70 ex70
        exact ih44 _ _ _ _ _ _ _ _ ⟨rfl, rfl, rfl, rfl, rfl, rfl, (qm431 i1u7 r_x24 c25 i1u27 c45 i1u47 r_x68 c69 ex70)⟩ (mu_up (qm432 i1u7 r_x24 c25 i1u27 c45 i1u47 r_x68 c69 ex70) (qm433 i1u7 r_x24 c25 i1u27 c45 i1u47 r_x68 c69 ex70))
      · refine ⟨a1, ea1, ?_⟩
        refine ⟨o_a1, ?_⟩
        obtain ⟨a72, ea72, o_a72, l_a72⟩ := shl 46 rfl hI o_a1
        refine ⟨a72, ea72, ?_⟩
        refine ⟨o_a72, ?_⟩
        refine ⟨(vin l_a72 (m := 4) (by decide) (qm434 g_x5 r_y6 gl_x5 i1u7 r_x24 c25 i1u27 c45 i1u47 r_x68 c69)), ?_⟩
        intro x73 ex73
        have gy_x73 : 0 ≤ x5 ∧ x5 < fI S a1 4 := by rw [← d_y6]; exact (qm435 g_x5 r_y6 gl_x5 i1u7 r_x24 c25 i1u27 c45 i1u47 r_x68 c69)
        have g_x73 : (1 : Int32) ≤ x73 ∧ x73 ≤ (9 : Int32) := by rw [ex73]; exact wg_at (ml_wg hI o_v0 ea1) 3 rfl gy_x73 ea72
        refine i_X11_fitOf_63 (fun (y0 : Nat) (y1 : Int32) (y2 : Int32) (y3 : Int32) (y4 : Int32) (y5 : Int32) (y6 : Int32) (y7 : Int32) (y8 : Int32) (Z : HS) => ((2147483647 : Int32).toInt - y8.toInt).toNat) (fun (y0 : Nat) (y1 : Int32) (y2 : Int32) (y3 : Int32) (y4 : Int32) (y5 : Int32) (y6 : Int32) (y7 : Int32) (y8 : Int32) (Z : HS) => (S = Z) ∧ (v0 = y0) ∧ (v1 = y1) ∧ (v2 = y2) ∧ (x5 = y3) ∧ (w20 = y5) ∧ (w42 = y6) ∧ (w64 = y7) ∧ (1 ≤ y8)) ?_ _ _ _ _ _ _ _ _ _ _ ⟨rfl, rfl, rfl, rfl, rfl, rfl, rfl, rfl, (qm436 i1u7 r_x24 c25 i1u27 c45 i1u47 r_x68 c69 g_x73)⟩
        intro w78 w80 w82 w84 w86 w87 w89 w91 w93 S75 X94 ⟨eS75, q79, q81, q83, q85, q88, q90, q92, i1u74⟩ ih95
        subst q79
        subst q81
        subst q83
        subst q85
        subst q88
        subst q90
        subst q92
        subst eS75
        refine u_X11_fitOf_63 ?_
        refine ⟨o_v0, ?_⟩
        refine ⟨a1, ea1, ?_⟩
        refine ⟨o_a1, ?_⟩
        obtain ⟨a97, ea97, o_a97, l_a97⟩ := shl 47 rfl hI o_a1
        refine ⟨a97, ea97, ?_⟩
        refine ⟨o_a97, ?_⟩
        refine ⟨(vin l_a97 (m := 4) (by decide) (qm434 g_x5 r_y6 gl_x5 i1u7 r_x24 c25 i1u27 c45 i1u47 r_x68 c69)), ?_⟩
        intro x98 ex98
        have gy_x98 : 0 ≤ x5 ∧ x5 < fI S a1 4 := by rw [← d_y6]; exact (qm435 g_x5 r_y6 gl_x5 i1u7 r_x24 c25 i1u27 c45 i1u47 r_x68 c69)
        have g_x98 : (0 : Int32) ≤ x98 ∧ x98 ≤ (9 : Int32) := by rw [ex98]; exact wg_at (ml_wg hI o_v0 ea1) 4 rfl gy_x98 ea97
        refine ⟨fun c99 => ?_, fun c99 => ?_⟩
        · intro x100 ex100
          exact ih66 _ _ _ _ _ _ _ _ _ ⟨rfl, rfl, rfl, rfl, rfl, rfl, rfl, (qm437 i1u7 r_x24 c25 i1u27 c45 i1u47 r_x68 c69 i1u74 g_x98 c99 ex100)⟩ (mu_up (qm438 i1u7 r_x24 c25 i1u27 c45 i1u47 r_x68 c69 i1u74 g_x98 c99 ex100) (qm439 i1u7 r_x24 c25 i1u27 c45 i1u47 r_x68 c69 i1u74 g_x98 c99 ex100))
        · refine i_X11_fitOf_83 (fun (y0 : Nat) (y1 : Int32) (y2 : Int32) (y3 : Int32) (y4 : Int32) (y5 : Int32) (y6 : Int32) (y7 : Int32) (y8 : Int32) (y9 : Int32) (y10 : Int32) (Z : HS) => ((2147483647 : Int32).toInt - y10.toInt).toNat) (fun (y0 : Nat) (y1 : Int32) (y2 : Int32) (y3 : Int32) (y4 : Int32) (y5 : Int32) (y6 : Int32) (y7 : Int32) (y8 : Int32) (y9 : Int32) (y10 : Int32) (Z : HS) => (S = Z) ∧ (v0 = y0) ∧ (v1 = y1) ∧ (v2 = y2) ∧ (x5 = y3) ∧ (w86 = y4) ∧ (w20 = y5) ∧ (w42 = y6) ∧ (w64 = y7) ∧ (w93 = y8) ∧ (0 ≤ y10)) ?_ _ _ _ _ _ _ _ _ _ _ _ _ ⟨rfl, rfl, rfl, rfl, rfl, rfl, rfl, rfl, rfl, rfl, (qm440 i1u7 r_x24 c25 i1u27 c45 i1u47 r_x68 c69 i1u74 g_x98 c99)⟩
          intro w105 w107 w109 w111 w113 w115 w117 w119 w121 w123 w124 S102 X125 ⟨eS102, q106, q108, q110, q112, q114, q116, q118, q120, q122, i1u101⟩ ih126
          subst q106
          subst q108
          subst q110
          subst q112
          subst q114
          subst q116
          subst q118
          subst q120
          subst q122
          subst eS102
          refine u_X11_fitOf_83 ?_
          refine ⟨fun c127 => ?_, fun c127 => ?_⟩
          · refine ⟨fun c128 => ?_, fun c128 => ?_⟩
            · refine ⟨fun c129 => ?_, fun c129 => ?_⟩
              · intro x130 ex130
                refine u_X11_fitOf_184 ?_
                intro x131 ex131
                exact ih95 _ _ _ _ _ _ _ _ _ _ ⟨rfl, rfl, rfl, rfl, rfl, rfl, rfl, rfl, (qm441 i1u7 r_x24 c25 i1u27 c45 i1u47 r_x68 c69 i1u74 g_x98 c99 i1u101 c127 c128 c129 ex130 ex131)⟩ (mu_up (qm442 i1u7 r_x24 c25 i1u27 c45 i1u47 r_x68 c69 i1u74 g_x98 c99 i1u101 c127 c128 c129 ex130 ex131) (qm443 i1u7 r_x24 c25 i1u27 c45 i1u47 r_x68 c69 i1u74 g_x98 c99 i1u101 c127 c128 c129 ex130 ex131))
              · exact hq _ _ hI g0 rfl
            · refine u_X11_fitOf_184 ?_
              intro x132 ex132
              exact ih95 _ _ _ _ _ _ _ _ _ _ ⟨rfl, rfl, rfl, rfl, rfl, rfl, rfl, rfl, (qm444 i1u7 r_x24 c25 i1u27 c45 i1u47 r_x68 c69 i1u74 g_x98 c99 i1u101 c127 c128 ex132)⟩ (mu_up (qm445 i1u7 r_x24 c25 i1u27 c45 i1u47 r_x68 c69 i1u74 g_x98 c99 i1u101 c127 c128 ex132) (qm446 i1u7 r_x24 c25 i1u27 c45 i1u47 r_x68 c69 i1u74 g_x98 c99 i1u101 c127 c128 ex132))
          · refine ⟨fun c133 => ?_, fun c133 => ?_⟩
            · refine u_X11_fitOf_136 ?_
              refine u_X11_fitOf_137 ?_
              intro x134 ex134
              exact ih126 _ _ _ _ _ _ _ _ _ _ _ _ ⟨rfl, rfl, rfl, rfl, rfl, rfl, rfl, rfl, rfl, rfl, (qm447 i1u7 r_x24 c25 i1u27 c45 i1u47 r_x68 c69 i1u74 g_x98 c99 i1u101 c127 c133 ex134)⟩ (mu_up (qm448 i1u7 r_x24 c25 i1u27 c45 i1u47 r_x68 c69 i1u74 g_x98 c99 i1u101 c127 c133 ex134) (qm449 i1u7 r_x24 c25 i1u27 c45 i1u47 r_x68 c69 i1u74 g_x98 c99 i1u101 c127 c133 ex134))
            · refine ⟨o_v0, ?_⟩
              refine m_X11_partsOf hI o_v0 (qm450 g_x5 r_y6 gl_x5 i1u7 r_x24 c25 i1u27 c45 i1u47 r_x68 c69 i1u74 g_x98 c99 i1u101 c127 c133) (qm451 i1u7 r_x24 c25 i1u27 c45 i1u47 r_x68 c69 i1u74 g_x98 c99 i1u101 c127 c133) (qm452 i1u7 r_x24 c25 i1u27 c45 i1u47 r_x68 c69 i1u74 g_x98 c99 i1u101 c127 c133) (qm453 i1u7 r_x24 c25 i1u27 c45 i1u47 r_x68 c69 i1u74 g_x98 c99 i1u101 c127 c133) ⟨_, ea1⟩ (fun x135 S136 hI2 g137 p_x135 => ?_)
              subst p_x135
              intro _
              refine ⟨a1, ea1, ?_⟩
              refine ⟨o_a1, ?_⟩
              obtain ⟨a140, ea140, o_a140, l_a140⟩ := shl 49 rfl hI o_a1
              refine ⟨a140, ea140, ?_⟩
              refine ⟨o_a140, ?_⟩
              intro x141 ex141
              refine ⟨(vin l_a140 (m := 20) (by decide) (qm454 r_y2 hwi1 i1u7 r_x24 c25 i1u27 c45 i1u47 r_x68 c69 i1u74 g_x98 c99 i1u101 c127 c133 ex141)), ?_⟩
              intro x142 ex142
              refine ⟨fun c143 => ?_, fun c143 => ?_⟩
              · refine u_X11_fitOf_136 ?_
                refine u_X11_fitOf_137 ?_
                intro x144 ex144
                exact ih126 _ _ _ _ _ _ _ _ _ _ _ _ ⟨rfl, rfl, rfl, rfl, rfl, rfl, rfl, rfl, rfl, rfl, (qm455 r_y2 hwi1 i1u7 r_x24 c25 i1u27 c45 i1u47 r_x68 c69 i1u74 g_x98 c99 i1u101 c127 c133 ex141 c143 ex144)⟩ (mu_up (qm456 r_y2 hwi1 i1u7 r_x24 c25 i1u27 c45 i1u47 r_x68 c69 i1u74 g_x98 c99 i1u101 c127 c133 ex141 c143 ex144) (qm457 r_y2 hwi1 i1u7 r_x24 c25 i1u27 c45 i1u47 r_x68 c69 i1u74 g_x98 c99 i1u101 c127 c133 ex141 c143 ex144))
              · refine u_X11_fitOf_137 ?_
                intro x145 ex145
                exact ih126 _ _ _ _ _ _ _ _ _ _ _ _ ⟨rfl, rfl, rfl, rfl, rfl, rfl, rfl, rfl, rfl, rfl, (qm458 r_y2 hwi1 i1u7 r_x24 c25 i1u27 c45 i1u47 r_x68 c69 i1u74 g_x98 c99 i1u101 c127 c133 ex141 c143 ex145)⟩ (mu_up (qm459 r_y2 hwi1 i1u7 r_x24 c25 i1u27 c45 i1u47 r_x68 c69 i1u74 g_x98 c99 i1u101 c127 c133 ex141 c143 ex145) (qm460 r_y2 hwi1 i1u7 r_x24 c25 i1u27 c45 i1u47 r_x68 c69 i1u74 g_x98 c99 i1u101 c127 c133 ex141 c143 ex145))
set_option maxHeartbeats 4000000 in
set_option maxRecDepth 20000 in
theorem m_X11_fit {v0 : Nat} {v1 : Int32} {v2 : Int32} {Q : Int32 → HS → Prop} {S : HS} (hI : IV S) (o_v0 : ob S v0 11)     (hq : ∀ (r : Int32) (T : HS), IV T → Gr S T → FRI [(11, 0), (11, 1), (11, 2)] [] S T → Q r T) : P_X11_fit v0 v1 v2 Q S := by
  have g0 := gr_rf S
  have f0 := fri_rf [(11, 0), (11, 1), (11, 2)] [] S
  refine u_X11_fit ?_
  refine u_X11_fit_0 ?_
  refine ⟨o_v0, ?_⟩
  intro S1 eS1
  have hI : IV S1 := by rw [eS1]; exact iv11_sI hI o_v0 (by decide) (nu_free (by decide))
  have f0 := fr_I eS1 g0 f0 o_v0 (by decide)
  obtain ⟨y2, hy2⟩ : ∃ z : Int32, z = (0 : Int32) := ⟨_, rfl⟩
  have d_y2 := rd_Is eS1 hy2
  have g0 := gr_I eS1 g0
  have o_v0 := ob_I eS1 o_v0
  refine u_X11_isSeen ?_
  refine u_X11_isSeen_0 ?_
  refine ⟨o_v0, ?_⟩
  refine ⟨fun e4 => ?_, fun a3 ea3 => ?_⟩
  · intro _ _
    refine ⟨fun c6 => ?_, fun c6 => absurd (show ¬ (0 : Int32) = 0 from c6) (by decide)⟩
    refine u_X11_fit_26 ?_
    refine u_X11_fit_27 ?_
    refine ⟨fun c7 => absurd (show ¬ (-1 : Int32) = (-1 : Int32) from c7) (by decide), fun c7 => ?_⟩
    refine ⟨o_v0, ?_⟩
    refine u_X11_refused ?_
    refine u_X11_refused_0 ?_
    refine ⟨o_v0, ?_⟩
    intro S8 eS8
    have hI : IV S8 := by rw [eS8]; exact iv11_sI hI o_v0 (by decide) (nu_free (by decide))
    have f0 := fr_I eS8 g0 f0 o_v0 (by decide)
    have d_y2 := rd_Ij eS8 (by decide) d_y2
    obtain ⟨y9, hy9⟩ : ∃ z : Int32, z = (1 : Int32) := ⟨_, rfl⟩
    have d_y9 := rd_Is eS8 hy9
    have g0 := gr_I eS8 g0
    have o_v0 := ob_I eS8 o_v0
    intro S10 eS10
    have hI : IV S10 := by rw [eS10]; exact iv11_sI hI o_v0 (by decide) (nu_free (by decide))
    have f0 := fr_I eS10 g0 f0 o_v0 (by decide)
    have d_y2 := rd_Ij eS10 (by decide) d_y2
    have d_y9 := rd_Ij eS10 (by decide) d_y9
    obtain ⟨y11, hy11⟩ : ∃ z : Int32, z = (-1 : Int32) := ⟨_, rfl⟩
    have d_y11 := rd_Is eS10 hy11
    have g0 := gr_I eS10 g0
    have o_v0 := ob_I eS10 o_v0
    intro _
    exact hq _ _ hI g0 f0
  · have o_a3 := ml_ob hI o_v0 ea3
    refine ⟨fun c13 => ?_, fun c13 => ?_⟩
    · intro _ _
      refine ⟨fun c15 => ?_, fun c15 => absurd (show ¬ (0 : Int32) = 0 from c15) (by decide)⟩
      refine u_X11_fit_26 ?_
      refine u_X11_fit_27 ?_
      refine ⟨fun c16 => absurd (show ¬ (-1 : Int32) = (-1 : Int32) from c16) (by decide), fun c16 => ?_⟩
      refine ⟨o_v0, ?_⟩
      refine u_X11_refused ?_
      refine u_X11_refused_0 ?_
      refine ⟨o_v0, ?_⟩
      intro S17 eS17
      have hI : IV S17 := by rw [eS17]; exact iv11_sI hI o_v0 (by decide) (nu_free (by decide))
      have f0 := fr_I eS17 g0 f0 o_v0 (by decide)
      have d_y2 := rd_Ij eS17 (by decide) d_y2
      obtain ⟨y18, hy18⟩ : ∃ z : Int32, z = (1 : Int32) := ⟨_, rfl⟩
      have d_y18 := rd_Is eS17 hy18
      have ea3 := rf_I eS17 ea3
      have g0 := gr_I eS17 g0
      have o_a3 := ob_I eS17 o_a3
      have o_v0 := ob_I eS17 o_v0
      intro S19 eS19
      have hI : IV S19 := by rw [eS19]; exact iv11_sI hI o_v0 (by decide) (nu_free (by decide))
      have f0 := fr_I eS19 g0 f0 o_v0 (by decide)
      have d_y2 := rd_Ij eS19 (by decide) d_y2
      have d_y18 := rd_Ij eS19 (by decide) d_y18
      obtain ⟨y20, hy20⟩ : ∃ z : Int32, z = (-1 : Int32) := ⟨_, rfl⟩
      have d_y20 := rd_Is eS19 hy20
      have ea3 := rf_I eS19 ea3
      have g0 := gr_I eS19 g0
      have o_a3 := ob_I eS19 o_a3
      have o_v0 := ob_I eS19 o_v0
      intro _
      exact hq _ _ hI g0 f0
    · refine ⟨a3, ea3, ?_⟩
      refine ⟨o_a3, ?_⟩
      intro x23 ex23
      have r_x23 : (0 : Int32) ≤ x23 ∧ x23 ≤ (4 : Int32) := by rw [ex23]; exact nu 21 rfl hI o_a3
      have d_x23 := ex23
      refine ⟨fun c24 => ?_, fun c24 => ?_⟩
      · intro _ _
        refine ⟨fun c26 => ?_, fun c26 => absurd (show ¬ (0 : Int32) = 0 from c26) (by decide)⟩
        refine u_X11_fit_26 ?_
        refine u_X11_fit_27 ?_
        refine ⟨fun c27 => absurd (show ¬ (-1 : Int32) = (-1 : Int32) from c27) (by decide), fun c27 => ?_⟩
        refine ⟨o_v0, ?_⟩
        refine u_X11_refused ?_
        refine u_X11_refused_0 ?_
        refine ⟨o_v0, ?_⟩
        intro S28 eS28
        have hI : IV S28 := by rw [eS28]; exact iv11_sI hI o_v0 (by decide) (nu_free (by decide))
        have f0 := fr_I eS28 g0 f0 o_v0 (by decide)
        have d_y2 := rd_Ij eS28 (by decide) d_y2
        have d_x23 := rd_Ik eS28 o_v0 o_a3 (by decide) d_x23
        obtain ⟨y29, hy29⟩ : ∃ z : Int32, z = (1 : Int32) := ⟨_, rfl⟩
        have d_y29 := rd_Is eS28 hy29
        have ea3 := rf_I eS28 ea3
        have g0 := gr_I eS28 g0
        have o_a3 := ob_I eS28 o_a3
        have o_v0 := ob_I eS28 o_v0
        intro S30 eS30
        have hI : IV S30 := by rw [eS30]; exact iv11_sI hI o_v0 (by decide) (nu_free (by decide))
        have f0 := fr_I eS30 g0 f0 o_v0 (by decide)
        have d_y2 := rd_Ij eS30 (by decide) d_y2
        have d_x23 := rd_Ik eS30 o_v0 o_a3 (by decide) d_x23
        have d_y29 := rd_Ij eS30 (by decide) d_y29
        obtain ⟨y31, hy31⟩ : ∃ z : Int32, z = (-1 : Int32) := ⟨_, rfl⟩
        have d_y31 := rd_Is eS30 hy31
        have ea3 := rf_I eS30 ea3
        have g0 := gr_I eS30 g0
        have o_a3 := ob_I eS30 o_a3
        have o_v0 := ob_I eS30 o_v0
        intro _
        exact hq _ _ hI g0 f0
      · intro _ _
        refine ⟨fun c34 => absurd (show (1 : Int32) = 0 from c34) (by decide), fun c34 => ?_⟩
        refine ⟨fun c35 => ?_, fun c35 => ?_⟩
        · refine u_X11_fit_26 ?_
          refine u_X11_fit_27 ?_
          refine ⟨fun c36 => absurd (show ¬ (-1 : Int32) = (-1 : Int32) from c36) (by decide), fun c36 => ?_⟩
          refine ⟨o_v0, ?_⟩
          refine u_X11_refused ?_
          refine u_X11_refused_0 ?_
          refine ⟨o_v0, ?_⟩
          intro S37 eS37
          have hI : IV S37 := by rw [eS37]; exact iv11_sI hI o_v0 (by decide) (nu_free (by decide))
          have f0 := fr_I eS37 g0 f0 o_v0 (by decide)
          have d_y2 := rd_Ij eS37 (by decide) d_y2
          have d_x23 := rd_Ik eS37 o_v0 o_a3 (by decide) d_x23
          obtain ⟨y38, hy38⟩ : ∃ z : Int32, z = (1 : Int32) := ⟨_, rfl⟩
          have d_y38 := rd_Is eS37 hy38
          have ea3 := rf_I eS37 ea3
          have g0 := gr_I eS37 g0
          have o_a3 := ob_I eS37 o_a3
          have o_v0 := ob_I eS37 o_v0
          intro S39 eS39
          have hI : IV S39 := by rw [eS39]; exact iv11_sI hI o_v0 (by decide) (nu_free (by decide))
          have f0 := fr_I eS39 g0 f0 o_v0 (by decide)
          have d_y2 := rd_Ij eS39 (by decide) d_y2
          have d_x23 := rd_Ik eS39 o_v0 o_a3 (by decide) d_x23
          have d_y38 := rd_Ij eS39 (by decide) d_y38
          obtain ⟨y40, hy40⟩ : ∃ z : Int32, z = (-1 : Int32) := ⟨_, rfl⟩
          have d_y40 := rd_Is eS39 hy40
          have ea3 := rf_I eS39 ea3
          have g0 := gr_I eS39 g0
          have o_a3 := ob_I eS39 o_a3
          have o_v0 := ob_I eS39 o_v0
          intro _
          exact hq _ _ hI g0 f0
        · refine m_X11_fitOf hI o_v0 ⟨_, ea3, (qm461 c13 r_x23 c24 c35), (by rw [← d_x23]; exact (qm462 c13 r_x23 c24 c35))⟩ (fun x42 S43 hI2 g44 p_x42 => ?_)
          subst p_x42
          intro _
          refine u_X11_fit_27 ?_
          refine ⟨fun c46 => ?_, fun c46 => ?_⟩
          · refine ⟨o_v0, ?_⟩
            refine u_X11_good ?_
            refine u_X11_good_0 ?_
            refine ⟨o_v0, ?_⟩
            intro S47 eS47
            have hI : IV S47 := by rw [eS47]; exact iv11_sI hI o_v0 (by decide) (nu_free (by decide))
            have f0 := fr_I eS47 g0 f0 o_v0 (by decide)
            have d_y2 := rd_Ij eS47 (by decide) d_y2
            have d_x23 := rd_Ik eS47 o_v0 o_a3 (by decide) d_x23
            obtain ⟨y48, hy48⟩ : ∃ z : Int32, z = (0 : Int32) := ⟨_, rfl⟩
            have d_y48 := rd_Is eS47 hy48
            have ea3 := rf_I eS47 ea3
            have g0 := gr_I eS47 g0
            have o_a3 := ob_I eS47 o_a3
            have o_v0 := ob_I eS47 o_v0
            intro S49 eS49
            have hI : IV S49 := by rw [eS49]; exact iv11_sI hI o_v0 (by decide) (nu_free (by decide))
            have f0 := fr_I eS49 g0 f0 o_v0 (by decide)
            have d_y2 := rd_Ij eS49 (by decide) d_y2
            have d_x23 := rd_Ik eS49 o_v0 o_a3 (by decide) d_x23
            have d_y48 := rd_Ij eS49 (by decide) d_y48
            obtain ⟨y50, hy50⟩ : ∃ z : Int32, z = (-1 : Int32) := ⟨_, rfl⟩
            have d_y50 := rd_Is eS49 hy50
            have ea3 := rf_I eS49 ea3
            have g0 := gr_I eS49 g0
            have o_a3 := ob_I eS49 o_a3
            have o_v0 := ob_I eS49 o_v0
            intro _
            exact hq _ _ hI g0 f0
          · refine ⟨o_v0, ?_⟩
            refine u_X11_refused ?_
            refine u_X11_refused_0 ?_
            refine ⟨o_v0, ?_⟩
            intro S52 eS52
            have hI : IV S52 := by rw [eS52]; exact iv11_sI hI o_v0 (by decide) (nu_free (by decide))
            have f0 := fr_I eS52 g0 f0 o_v0 (by decide)
            have d_y2 := rd_Ij eS52 (by decide) d_y2
            have d_x23 := rd_Ik eS52 o_v0 o_a3 (by decide) d_x23
            obtain ⟨y53, hy53⟩ : ∃ z : Int32, z = (1 : Int32) := ⟨_, rfl⟩
            have d_y53 := rd_Is eS52 hy53
            have ea3 := rf_I eS52 ea3
            have g0 := gr_I eS52 g0
            have o_a3 := ob_I eS52 o_a3
            have o_v0 := ob_I eS52 o_v0
            intro S54 eS54
            have hI : IV S54 := by rw [eS54]; exact iv11_sI hI o_v0 (by decide) (nu_free (by decide))
            have f0 := fr_I eS54 g0 f0 o_v0 (by decide)
            have d_y2 := rd_Ij eS54 (by decide) d_y2
            have d_x23 := rd_Ik eS54 o_v0 o_a3 (by decide) d_x23
            have d_y53 := rd_Ij eS54 (by decide) d_y53
            obtain ⟨y55, hy55⟩ : ∃ z : Int32, z = (-1 : Int32) := ⟨_, rfl⟩
            have d_y55 := rd_Is eS54 hy55
            have ea3 := rf_I eS54 ea3
            have g0 := gr_I eS54 g0
            have o_a3 := ob_I eS54 o_a3
            have o_v0 := ob_I eS54 o_v0
            intro _
            exact hq _ _ hI g0 f0
set_option maxHeartbeats 4000000 in
set_option maxRecDepth 20000 in
theorem m_X11_fits {v0 : Nat} {v1 : Int32} {Q : Int32 → HS → Prop} {S : HS} (hI : IV S) (o_v0 : ob S v0 11)     (hq : ∀ (r : Int32) (T : HS), IV T → Gr S T → FRI [(11, 0), (11, 1), (11, 2)] [] S T → Q r T) : P_X11_fits v0 v1 Q S := by
  have g0 := gr_rf S
  have f0 := fri_rf [(11, 0), (11, 1), (11, 2)] [] S
  refine u_X11_fits ?_
  refine u_X11_fits_0 ?_
  refine ⟨o_v0, ?_⟩
  intro S1 eS1
  have hI : IV S1 := by rw [eS1]; exact iv11_sI hI o_v0 (by decide) (nu_free (by decide))
  have f0 := fr_I eS1 g0 f0 o_v0 (by decide)
  obtain ⟨y2, hy2⟩ : ∃ z : Int32, z = (0 : Int32) := ⟨_, rfl⟩
  have d_y2 := rd_Is eS1 hy2
  have g0 := gr_I eS1 g0
  have o_v0 := ob_I eS1 o_v0
  refine u_X11_isSeen ?_
  refine u_X11_isSeen_0 ?_
  refine ⟨o_v0, ?_⟩
  refine ⟨fun e4 => ?_, fun a3 ea3 => ?_⟩
  · intro _ _
    refine ⟨fun c6 => ?_, fun c6 => absurd (show ¬ (0 : Int32) = 0 from c6) (by decide)⟩
    refine u_X11_refused ?_
    refine u_X11_refused_0 ?_
    refine ⟨o_v0, ?_⟩
    intro S7 eS7
    have hI : IV S7 := by rw [eS7]; exact iv11_sI hI o_v0 (by decide) (nu_free (by decide))
    have f0 := fr_I eS7 g0 f0 o_v0 (by decide)
    have d_y2 := rd_Ij eS7 (by decide) d_y2
    obtain ⟨y8, hy8⟩ : ∃ z : Int32, z = (1 : Int32) := ⟨_, rfl⟩
    have d_y8 := rd_Is eS7 hy8
    have g0 := gr_I eS7 g0
    have o_v0 := ob_I eS7 o_v0
    intro S9 eS9
    have hI : IV S9 := by rw [eS9]; exact iv11_sI hI o_v0 (by decide) (nu_free (by decide))
    have f0 := fr_I eS9 g0 f0 o_v0 (by decide)
    have d_y2 := rd_Ij eS9 (by decide) d_y2
    have d_y8 := rd_Ij eS9 (by decide) d_y8
    obtain ⟨y10, hy10⟩ : ∃ z : Int32, z = (-1 : Int32) := ⟨_, rfl⟩
    have d_y10 := rd_Is eS9 hy10
    have g0 := gr_I eS9 g0
    have o_v0 := ob_I eS9 o_v0
    intro _
    exact hq _ _ hI g0 f0
  · have o_a3 := ml_ob hI o_v0 ea3
    refine ⟨fun c12 => ?_, fun c12 => ?_⟩
    · intro _ _
      refine ⟨fun c14 => ?_, fun c14 => absurd (show ¬ (0 : Int32) = 0 from c14) (by decide)⟩
      refine u_X11_refused ?_
      refine u_X11_refused_0 ?_
      refine ⟨o_v0, ?_⟩
      intro S15 eS15
      have hI : IV S15 := by rw [eS15]; exact iv11_sI hI o_v0 (by decide) (nu_free (by decide))
      have f0 := fr_I eS15 g0 f0 o_v0 (by decide)
      have d_y2 := rd_Ij eS15 (by decide) d_y2
      obtain ⟨y16, hy16⟩ : ∃ z : Int32, z = (1 : Int32) := ⟨_, rfl⟩
      have d_y16 := rd_Is eS15 hy16
      have ea3 := rf_I eS15 ea3
      have g0 := gr_I eS15 g0
      have o_a3 := ob_I eS15 o_a3
      have o_v0 := ob_I eS15 o_v0
      intro S17 eS17
      have hI : IV S17 := by rw [eS17]; exact iv11_sI hI o_v0 (by decide) (nu_free (by decide))
      have f0 := fr_I eS17 g0 f0 o_v0 (by decide)
      have d_y2 := rd_Ij eS17 (by decide) d_y2
      have d_y16 := rd_Ij eS17 (by decide) d_y16
      obtain ⟨y18, hy18⟩ : ∃ z : Int32, z = (-1 : Int32) := ⟨_, rfl⟩
      have d_y18 := rd_Is eS17 hy18
      have ea3 := rf_I eS17 ea3
      have g0 := gr_I eS17 g0
      have o_a3 := ob_I eS17 o_a3
      have o_v0 := ob_I eS17 o_v0
      intro _
      exact hq _ _ hI g0 f0
    · refine ⟨a3, ea3, ?_⟩
      refine ⟨o_a3, ?_⟩
      intro x21 ex21
      have r_x21 : (0 : Int32) ≤ x21 ∧ x21 ≤ (4 : Int32) := by rw [ex21]; exact nu 21 rfl hI o_a3
      have d_x21 := ex21
      refine ⟨fun c22 => ?_, fun c22 => ?_⟩
      · intro _ _
        refine ⟨fun c24 => ?_, fun c24 => absurd (show ¬ (0 : Int32) = 0 from c24) (by decide)⟩
        refine u_X11_refused ?_
        refine u_X11_refused_0 ?_
        refine ⟨o_v0, ?_⟩
        intro S25 eS25
        have hI : IV S25 := by rw [eS25]; exact iv11_sI hI o_v0 (by decide) (nu_free (by decide))
        have f0 := fr_I eS25 g0 f0 o_v0 (by decide)
        have d_y2 := rd_Ij eS25 (by decide) d_y2
        have d_x21 := rd_Ik eS25 o_v0 o_a3 (by decide) d_x21
        obtain ⟨y26, hy26⟩ : ∃ z : Int32, z = (1 : Int32) := ⟨_, rfl⟩
        have d_y26 := rd_Is eS25 hy26
        have ea3 := rf_I eS25 ea3
        have g0 := gr_I eS25 g0
        have o_a3 := ob_I eS25 o_a3
        have o_v0 := ob_I eS25 o_v0
        intro S27 eS27
        have hI : IV S27 := by rw [eS27]; exact iv11_sI hI o_v0 (by decide) (nu_free (by decide))
        have f0 := fr_I eS27 g0 f0 o_v0 (by decide)
        have d_y2 := rd_Ij eS27 (by decide) d_y2
        have d_x21 := rd_Ik eS27 o_v0 o_a3 (by decide) d_x21
        have d_y26 := rd_Ij eS27 (by decide) d_y26
        obtain ⟨y28, hy28⟩ : ∃ z : Int32, z = (-1 : Int32) := ⟨_, rfl⟩
        have d_y28 := rd_Is eS27 hy28
        have ea3 := rf_I eS27 ea3
        have g0 := gr_I eS27 g0
        have o_a3 := ob_I eS27 o_a3
        have o_v0 := ob_I eS27 o_v0
        intro _
        exact hq _ _ hI g0 f0
      · intro _ _
        refine ⟨fun c31 => absurd (show (1 : Int32) = 0 from c31) (by decide), fun c31 => ?_⟩
        refine m_X11_fitOf hI o_v0 ⟨_, ea3, (qm463 c12 r_x21 c22), (by rw [← d_x21]; exact (qm464 c12 r_x21 c22))⟩ (fun x32 S33 hI2 g34 p_x32 => ?_)
        subst p_x32
        intro _
        refine u_X11_good ?_
        refine u_X11_good_0 ?_
        refine ⟨o_v0, ?_⟩
        intro S36 eS36
        have hI : IV S36 := by rw [eS36]; exact iv11_sI hI o_v0 (by decide) (nu_free (by decide))
        have f0 := fr_I eS36 g0 f0 o_v0 (by decide)
        have d_y2 := rd_Ij eS36 (by decide) d_y2
        have d_x21 := rd_Ik eS36 o_v0 o_a3 (by decide) d_x21
        obtain ⟨y37, hy37⟩ : ∃ z : Int32, z = (0 : Int32) := ⟨_, rfl⟩
        have d_y37 := rd_Is eS36 hy37
        have ea3 := rf_I eS36 ea3
        have g0 := gr_I eS36 g0
        have o_a3 := ob_I eS36 o_a3
        have o_v0 := ob_I eS36 o_v0
        intro S38 eS38
        have hI : IV S38 := by rw [eS38]; exact iv11_sI hI o_v0 (by decide) (nu_free (by decide))
        have f0 := fr_I eS38 g0 f0 o_v0 (by decide)
        have d_y2 := rd_Ij eS38 (by decide) d_y2
        have d_x21 := rd_Ik eS38 o_v0 o_a3 (by decide) d_x21
        have d_y37 := rd_Ij eS38 (by decide) d_y37
        obtain ⟨y39, hy39⟩ : ∃ z : Int32, z = (-1 : Int32) := ⟨_, rfl⟩
        have d_y39 := rd_Is eS38 hy39
        have ea3 := rf_I eS38 ea3
        have g0 := gr_I eS38 g0
        have o_a3 := ob_I eS38 o_a3
        have o_v0 := ob_I eS38 o_v0
        intro _
        exact hq _ _ hI g0 f0
set_option maxHeartbeats 4000000 in
set_option maxRecDepth 20000 in
theorem m_X11_keeps {v0 : Nat} {Q : HS → Prop} {S : HS} (hI : IV S) (o_v0 : ob S v0 11)     (hq : ∀ (T : HS), IV T → Gr S T → FRI [(11, 24)] [] S T → Q T) : P_X11_keeps v0 Q S := by
  have g0 := gr_rf S
  have f0 := fri_rf [(11, 24)] [] S
  refine u_X11_keeps ?_
  refine u_X11_keeps_0 ?_
  refine ⟨o_v0, ?_⟩
  intro x1 ex1
  have r_x1 : (0 : Int32) ≤ x1 ∧ x1 ≤ (16 : Int32) := by rw [ex1]; exact nu 27 rfl hI o_v0
  have d_x1 := ex1
  refine ⟨fun c2 => ?_, fun c2 => ?_⟩
  · refine u_X11_keeps_48 ?_
    refine i_X11_keeps_50 (fun (y0 : Nat) (y1 : Int32) (Z : HS) => ((7 : Int32).toInt - y1.toInt).toNat) (fun (y0 : Nat) (y1 : Int32) (Z : HS) => (IV Z) ∧ (Gr S Z) ∧ (FRI [] [] S Z) ∧ (v0 = y0) ∧ (0 ≤ y1 ∧ y1 ≤ 7)) ?_ _ _ _ ⟨hI, (gr_rf _), (fri_rf _ _ _), rfl, (qm219 r_x1 c2)⟩
    intro w7 w9 S4 X10 ⟨hI, gL5, fL6, q8, i1u3⟩ ih11
    subst q8
    have d_x1 := d_x1.trans (fri_at fL6 (by decide) (by decide) o_v0).symm
    have f0 := fri_tr (S := S) g0 f0 fL6 (by decide) (by decide)
    have o_v0 := gr_ob gL5 o_v0
    have g0 := gr_tr (T := S) g0 gL5
    refine u_X11_keeps_50 ?_
    refine ⟨fun c12 => ?_, fun c12 => ?_⟩
    · refine ⟨o_v0, ?_⟩
      intro x13 ex13
      have r_x13 : (0 : Int32) ≤ x13 ∧ x13 ≤ (16 : Int32) := by rw [ex13]; exact nu 27 rfl hI o_v0
      have q_x13 : x13 = x1 := ex13.trans d_x1.symm
      have d_x13 := ex13
      intro x14 ex14
      intro S15 eS15
      have hI : IV S15 := by rw [eS15]; exact iv11_sI hI o_v0 (by decide) (nu_one (lo := (0 : Int32)) (hi := (16 : Int32)) (by decide) (qm220 r_x1 c2 i1u3 c12 r_x13 q_x13 ex14))
      have f0 := fr_I eS15 g0 f0 o_v0 (by decide)
      have d_x14 := rd_Is eS15 (rfl : x14 = x14)
      have g0 := gr_I eS15 g0
      have o_v0 := ob_I eS15 o_v0
      exact hq _ hI g0 f0
    · refine ⟨o_v0, ?_⟩
      obtain ⟨a16, ea16, o_a16, l_a16⟩ := shl 58 rfl hI o_v0
      refine ⟨a16, ea16, ?_⟩
      intro x17 ex17
      have r_x17 : (0 : Int32) ≤ x17 ∧ x17 ≤ (16 : Int32) := by rw [ex17]; exact nu 27 rfl hI o_v0
      have q_x17 : x17 = x1 := ex17.trans d_x1.symm
      have d_x17 := ex17
      obtain ⟨a18, ea18, o_a18, l_a18⟩ := shl 57 rfl hI o_v0
      refine ⟨a18, ea18, ?_⟩
      refine ⟨o_a18, ?_⟩
      refine ⟨(vin l_a18 (m := 7) (by decide) (qm221 r_x1 c2 i1u3 c12 r_x17 q_x17)), ?_⟩
      intro x19 ex19
      have de_x19 := ml_de hI o_v0 (j := 21) (by decide) ea18 w9.toNatClampNeg
      rw [← ex19] at de_x19
      refine ⟨o_a16, ?_⟩
      have i20 : vp_in (((7 : Int32) * x17) + w9) (hN _ a16) := (vin l_a16 (m := 112) (by decide) (qm222 r_x1 c2 i1u3 c12 r_x17 q_x17))
      refine ⟨i20, ?_⟩
      intro S21 eS21
      have hI : IV S21 := by rw [eS21]; exact iv11_aD hI (de_tr de_x19 (md_mul (a := x17) (k := w9) rfl (qm223 r_x1 c2 i1u3 c12 r_x17 q_x17) (qm224 r_x1 c2 i1u3 c12 r_x17 q_x17)))
      have f0 := fr_J eS21 f0
      have fL6 := fr_J eS21 fL6
      have d_x17 := rd_J eS21 d_x17
      have ea16 := rf_J eS21 ea16
      have ea18 := rf_J eS21 ea18
      have l_a16 := ln_J eS21 l_a16
      have l_a18 := ln_J eS21 l_a18
      have g0 := gr_J eS21 g0
      have gL5 := gr_J eS21 gL5
      have o_a16 := ob_J eS21 o_a16
      have o_a18 := ob_J eS21 o_a18
      have o_v0 := ob_J eS21 o_v0
      intro x22 ex22
      exact ih11 _ _ _ ⟨hI, gL5, fL6, rfl, (qm225 r_x1 c2 i1u3 c12 r_x17 q_x17 ex22)⟩ (mu_up (qm226 r_x1 c2 i1u3 c12 r_x17 q_x17 ex22) (qm227 r_x1 c2 i1u3 c12 r_x17 q_x17 ex22))
  · refine i_X11_keeps_11 (fun (y0 : Nat) (y1 : Int32) (Z : HS) => ((105 : Int32).toInt - y1.toInt).toNat) (fun (y0 : Nat) (y1 : Int32) (Z : HS) => (IV Z) ∧ (Gr S Z) ∧ (FRI [] [] S Z) ∧ (v0 = y0) ∧ (0 ≤ y1 ∧ y1 ≤ 105)) ?_ _ _ _ ⟨hI, (gr_rf _), (fri_rf _ _ _), rfl, (qm228 r_x1 c2)⟩
    intro w27 w29 S24 X30 ⟨hI, gL25, fL26, q28, i1u23⟩ ih31
    subst q28
    have d_x1 := d_x1.trans (fri_at fL26 (by decide) (by decide) o_v0).symm
    have f0 := fri_tr (S := S) g0 f0 fL26 (by decide) (by decide)
    have o_v0 := gr_ob gL25 o_v0
    have g0 := gr_tr (T := S) g0 gL25
    refine u_X11_keeps_11 ?_
    refine ⟨fun c32 => ?_, fun c32 => ?_⟩
    · refine ⟨o_v0, ?_⟩
      intro x33 ex33
      have r_x33 : (0 : Int32) ≤ x33 ∧ x33 ≤ (16 : Int32) := by rw [ex33]; exact nu 27 rfl hI o_v0
      have q_x33 : x33 = x1 := ex33.trans d_x1.symm
      have d_x33 := ex33
      intro x34 ex34
      intro S35 eS35
      have hI : IV S35 := by rw [eS35]; exact iv11_sI hI o_v0 (by decide) (nu_one (lo := (0 : Int32)) (hi := (16 : Int32)) (by decide) (qm229 r_x1 c2 i1u23 c32 r_x33 q_x33 ex34))
      have f0 := fr_I eS35 g0 f0 o_v0 (by decide)
      have d_x34 := rd_Is eS35 (rfl : x34 = x34)
      have g0 := gr_I eS35 g0
      have o_v0 := ob_I eS35 o_v0
      refine u_X11_keeps_48 ?_
      refine i_X11_keeps_50 (fun (y0 : Nat) (y1 : Int32) (Z : HS) => ((7 : Int32).toInt - y1.toInt).toNat) (fun (y0 : Nat) (y1 : Int32) (Z : HS) => (IV Z) ∧ (Gr S35 Z) ∧ (FRI [] [] S35 Z) ∧ (v0 = y0) ∧ (0 ≤ y1 ∧ y1 ≤ 7)) ?_ _ _ _ ⟨hI, (gr_rf _), (fri_rf _ _ _), rfl, (qm230 r_x1 c2 i1u23 c32 r_x33 q_x33 ex34)⟩
      intro w40 w42 S37 X43 ⟨hI, gL38, fL39, q41, i1u36⟩ ih44
      subst q41
      have d_x34 := d_x34.trans (fri_at fL39 (by decide) (by decide) o_v0).symm
      have f0 := fri_tr (S := S35) g0 f0 fL39 (by decide) (by decide)
      have o_v0 := gr_ob gL38 o_v0
      have g0 := gr_tr (T := S35) g0 gL38
      refine u_X11_keeps_50 ?_
      refine ⟨fun c45 => ?_, fun c45 => ?_⟩
      · refine ⟨o_v0, ?_⟩
        intro x46 ex46
        have r_x46 : (0 : Int32) ≤ x46 ∧ x46 ≤ (16 : Int32) := by rw [ex46]; exact nu 27 rfl hI o_v0
        have q_x46 : x46 = x34 := ex46.trans d_x34.symm
        have d_x46 := ex46
        intro x47 ex47
        intro S48 eS48
        have hI : IV S48 := by rw [eS48]; exact iv11_sI hI o_v0 (by decide) (nu_one (lo := (0 : Int32)) (hi := (16 : Int32)) (by decide) (qm231 r_x1 c2 i1u23 c32 r_x33 q_x33 ex34 i1u36 c45 r_x46 q_x46 ex47))
        have f0 := fr_I eS48 g0 f0 o_v0 (by decide)
        have d_x47 := rd_Is eS48 (rfl : x47 = x47)
        have g0 := gr_I eS48 g0
        have o_v0 := ob_I eS48 o_v0
        exact hq _ hI g0 f0
      · refine ⟨o_v0, ?_⟩
        obtain ⟨a49, ea49, o_a49, l_a49⟩ := shl 58 rfl hI o_v0
        refine ⟨a49, ea49, ?_⟩
        intro x50 ex50
        have r_x50 : (0 : Int32) ≤ x50 ∧ x50 ≤ (16 : Int32) := by rw [ex50]; exact nu 27 rfl hI o_v0
        have q_x50 : x50 = x34 := ex50.trans d_x34.symm
        have d_x50 := ex50
        obtain ⟨a51, ea51, o_a51, l_a51⟩ := shl 57 rfl hI o_v0
        refine ⟨a51, ea51, ?_⟩
        refine ⟨o_a51, ?_⟩
        refine ⟨(vin l_a51 (m := 7) (by decide) (qm232 r_x1 c2 i1u23 c32 r_x33 q_x33 ex34 i1u36 c45 r_x50 q_x50)), ?_⟩
        intro x52 ex52
        have de_x52 := ml_de hI o_v0 (j := 21) (by decide) ea51 w42.toNatClampNeg
        rw [← ex52] at de_x52
        refine ⟨o_a49, ?_⟩
        have i53 : vp_in (((7 : Int32) * x50) + w42) (hN _ a49) := (vin l_a49 (m := 112) (by decide) (qm233 r_x1 c2 i1u23 c32 r_x33 q_x33 ex34 i1u36 c45 r_x50 q_x50))
        refine ⟨i53, ?_⟩
        intro S54 eS54
        have hI : IV S54 := by rw [eS54]; exact iv11_aD hI (de_tr de_x52 (md_mul (a := x50) (k := w42) rfl (qm234 r_x1 c2 i1u23 c32 r_x33 q_x33 ex34 i1u36 c45 r_x50 q_x50) (qm235 r_x1 c2 i1u23 c32 r_x33 q_x33 ex34 i1u36 c45 r_x50 q_x50)))
        have f0 := fr_J eS54 f0
        have fL39 := fr_J eS54 fL39
        have d_x50 := rd_J eS54 d_x50
        have ea49 := rf_J eS54 ea49
        have ea51 := rf_J eS54 ea51
        have l_a49 := ln_J eS54 l_a49
        have l_a51 := ln_J eS54 l_a51
        have g0 := gr_J eS54 g0
        have gL38 := gr_J eS54 gL38
        have o_a49 := ob_J eS54 o_a49
        have o_a51 := ob_J eS54 o_a51
        have o_v0 := ob_J eS54 o_v0
        intro x55 ex55
        exact ih44 _ _ _ ⟨hI, gL38, fL39, rfl, (qm236 r_x1 c2 i1u23 c32 r_x33 q_x33 ex34 i1u36 c45 r_x50 q_x50 ex55)⟩ (mu_up (qm237 r_x1 c2 i1u23 c32 r_x33 q_x33 ex34 i1u36 c45 r_x50 q_x50 ex55) (qm238 r_x1 c2 i1u23 c32 r_x33 q_x33 ex34 i1u36 c45 r_x50 q_x50 ex55))
    · refine ⟨o_v0, ?_⟩
      obtain ⟨a56, ea56, o_a56, l_a56⟩ := shl 58 rfl hI o_v0
      refine ⟨a56, ea56, ?_⟩
      refine ⟨a56, ea56, ?_⟩
      refine ⟨o_a56, ?_⟩
      intro x58 ex58
      refine ⟨(vin l_a56 (m := 112) (by decide) (qm239 r_x1 c2 i1u23 c32 ex58)), ?_⟩
      intro x59 ex59
      have de_x59 := ml_de hI o_v0 (j := 22) (by decide) ea56 x58.toNatClampNeg
      rw [← ex59] at de_x59
      refine ⟨o_a56, ?_⟩
      have i60 : vp_in w29 (hN _ a56) := (vin l_a56 (m := 112) (by decide) (qm240 r_x1 c2 i1u23 c32 ex58))
      refine ⟨i60, ?_⟩
      intro S61 eS61
      have hI : IV S61 := by rw [eS61]; exact iv11_aD hI (de_tr de_x59 (md_add ex58 (qm241 r_x1 c2 i1u23 c32 ex58)))
      have f0 := fr_J eS61 f0
      have fL26 := fr_J eS61 fL26
      have d_x1 := rd_J eS61 d_x1
      have ea56 := rf_J eS61 ea56
      have l_a56 := ln_J eS61 l_a56
      have g0 := gr_J eS61 g0
      have gL25 := gr_J eS61 gL25
      have o_a56 := ob_J eS61 o_a56
      have o_v0 := ob_J eS61 o_v0
      intro x62 ex62
      exact ih31 _ _ _ ⟨hI, gL25, fL26, rfl, (qm242 r_x1 c2 i1u23 c32 ex58 ex62)⟩ (mu_up (qm243 r_x1 c2 i1u23 c32 ex58 ex62) (qm244 r_x1 c2 i1u23 c32 ex58 ex62))
set_option maxHeartbeats 4000000 in
set_option maxRecDepth 20000 in
theorem m_X11_go {v0 : Nat} {v1 : Int32} {v2 : Int32} {v3 : Int32} {Q : Int32 → HS → Prop} {S : HS} (hI : IV S) (o_v0 : ob S v0 11)     (hq : ∀ (r : Int32) (T : HS), IV T → Gr S T → FRI [(11, 0), (11, 1), (11, 2), (11, 24)] [] S T → Q r T) : P_X11_go v0 v1 v2 v3 Q S := by
  have g0 := gr_rf S
  have f0 := fri_rf [(11, 0), (11, 1), (11, 2), (11, 24)] [] S
  refine u_X11_go ?_
  refine u_X11_go_0 ?_
  refine ⟨o_v0, ?_⟩
  intro S1 eS1
  have hI : IV S1 := by rw [eS1]; exact iv11_sI hI o_v0 (by decide) (nu_free (by decide))
  have f0 := fr_I eS1 g0 f0 o_v0 (by decide)
  obtain ⟨y2, hy2⟩ : ∃ z : Int32, z = (0 : Int32) := ⟨_, rfl⟩
  have d_y2 := rd_Is eS1 hy2
  have g0 := gr_I eS1 g0
  have o_v0 := ob_I eS1 o_v0
  refine u_X11_isDay ?_
  refine u_X11_isDay_0 ?_
  refine ⟨o_v0, ?_⟩
  refine ⟨fun e4 => ?_, fun a3 ea3 => ?_⟩
  · intro _ _
    refine ⟨fun c6 => ?_, fun c6 => absurd (show ¬ (0 : Int32) = 0 from c6) (by decide)⟩
    refine u_X11_go_29 ?_
    refine ⟨o_v0, ?_⟩
    refine u_X11_refused ?_
    refine u_X11_refused_0 ?_
    refine ⟨o_v0, ?_⟩
    intro S7 eS7
    have hI : IV S7 := by rw [eS7]; exact iv11_sI hI o_v0 (by decide) (nu_free (by decide))
    have f0 := fr_I eS7 g0 f0 o_v0 (by decide)
    have d_y2 := rd_Ij eS7 (by decide) d_y2
    obtain ⟨y8, hy8⟩ : ∃ z : Int32, z = (1 : Int32) := ⟨_, rfl⟩
    have d_y8 := rd_Is eS7 hy8
    have g0 := gr_I eS7 g0
    have o_v0 := ob_I eS7 o_v0
    intro S9 eS9
    have hI : IV S9 := by rw [eS9]; exact iv11_sI hI o_v0 (by decide) (nu_free (by decide))
    have f0 := fr_I eS9 g0 f0 o_v0 (by decide)
    have d_y2 := rd_Ij eS9 (by decide) d_y2
    have d_y8 := rd_Ij eS9 (by decide) d_y8
    obtain ⟨y10, hy10⟩ : ∃ z : Int32, z = (-1 : Int32) := ⟨_, rfl⟩
    have d_y10 := rd_Is eS9 hy10
    have g0 := gr_I eS9 g0
    have o_v0 := ob_I eS9 o_v0
    intro _
    exact hq _ _ hI g0 f0
  · have o_a3 := ml_ob hI o_v0 ea3
    intro x12 ex12
    have r_x12 : (-2 : Int32) ≤ x12 ∧ x12 ≤ (3 : Int32) := by rw [ex12]; exact nu 26 rfl hI o_v0
    have d_x12 := ex12
    obtain ⟨y13, d_y13⟩ : ∃ z : Int32, z = fI S1 a3 4 := ⟨_, rfl⟩
    have r_y13 : (0 : Int32) ≤ y13 ∧ y13 ≤ (4 : Int32) := by rw [d_y13]; exact nu 20 rfl hI o_a3
    have wh_x12 : x12 = -2 ∨ (0 ≤ x12 ∧ x12 < y13) := by rw [ex12, d_y13]; exact ml_who hI o_v0 ea3
    refine ⟨fun c14 => ?_, fun c14 => ?_⟩
    · intro _ _
      refine ⟨fun c16 => ?_, fun c16 => absurd (show ¬ (0 : Int32) = 0 from c16) (by decide)⟩
      refine u_X11_go_29 ?_
      refine ⟨o_v0, ?_⟩
      refine u_X11_refused ?_
      refine u_X11_refused_0 ?_
      refine ⟨o_v0, ?_⟩
      intro S17 eS17
      have hI : IV S17 := by rw [eS17]; exact iv11_sI hI o_v0 (by decide) (nu_free (by decide))
      have f0 := fr_I eS17 g0 f0 o_v0 (by decide)
      have d_y2 := rd_Ij eS17 (by decide) d_y2
      have d_x12 := rd_Ij eS17 (by decide) d_x12
      have d_y13 := rd_Ik eS17 o_v0 o_a3 (by decide) d_y13
      obtain ⟨y18, hy18⟩ : ∃ z : Int32, z = (1 : Int32) := ⟨_, rfl⟩
      have d_y18 := rd_Is eS17 hy18
      have ea3 := rf_I eS17 ea3
      have g0 := gr_I eS17 g0
      have o_a3 := ob_I eS17 o_a3
      have o_v0 := ob_I eS17 o_v0
      intro S19 eS19
      have hI : IV S19 := by rw [eS19]; exact iv11_sI hI o_v0 (by decide) (nu_free (by decide))
      have f0 := fr_I eS19 g0 f0 o_v0 (by decide)
      have d_y2 := rd_Ij eS19 (by decide) d_y2
      have d_x12 := rd_Ij eS19 (by decide) d_x12
      have d_y13 := rd_Ik eS19 o_v0 o_a3 (by decide) d_y13
      have d_y18 := rd_Ij eS19 (by decide) d_y18
      obtain ⟨y20, hy20⟩ : ∃ z : Int32, z = (-1 : Int32) := ⟨_, rfl⟩
      have d_y20 := rd_Is eS19 hy20
      have ea3 := rf_I eS19 ea3
      have g0 := gr_I eS19 g0
      have o_a3 := ob_I eS19 o_a3
      have o_v0 := ob_I eS19 o_v0
      intro _
      exact hq _ _ hI g0 f0
    · intro _ _
      refine ⟨fun c23 => absurd (show (1 : Int32) = 0 from c23) (by decide), fun c23 => ?_⟩
      refine u_X11_isRoad ?_
      refine u_X11_isRoad_0 ?_
      refine ⟨o_v0, ?_⟩
      refine ⟨fun e25 => (nomatch (e25.symm.trans ea3)), fun a24 ea24 => ?_⟩
      obtain rfl : a3 = a24 := Option.some.inj (ea3.symm.trans ea24)
      refine ⟨fun c26 => ?_, fun c26 => ?_⟩
      · intro _ _
        refine ⟨fun c28 => ?_, fun c28 => absurd (show ¬ (0 : Int32) = 0 from c28) (by decide)⟩
        refine u_X11_go_29 ?_
        refine ⟨o_v0, ?_⟩
        refine u_X11_refused ?_
        refine u_X11_refused_0 ?_
        refine ⟨o_v0, ?_⟩
        intro S29 eS29
        have hI : IV S29 := by rw [eS29]; exact iv11_sI hI o_v0 (by decide) (nu_free (by decide))
        have f0 := fr_I eS29 g0 f0 o_v0 (by decide)
        have d_y2 := rd_Ij eS29 (by decide) d_y2
        have d_x12 := rd_Ij eS29 (by decide) d_x12
        have d_y13 := rd_Ik eS29 o_v0 o_a3 (by decide) d_y13
        obtain ⟨y30, hy30⟩ : ∃ z : Int32, z = (1 : Int32) := ⟨_, rfl⟩
        have d_y30 := rd_Is eS29 hy30
        have ea3 := rf_I eS29 ea3
        have g0 := gr_I eS29 g0
        have o_a3 := ob_I eS29 o_a3
        have o_v0 := ob_I eS29 o_v0
        intro S31 eS31
        have hI : IV S31 := by rw [eS31]; exact iv11_sI hI o_v0 (by decide) (nu_free (by decide))
        have f0 := fr_I eS31 g0 f0 o_v0 (by decide)
        have d_y2 := rd_Ij eS31 (by decide) d_y2
        have d_x12 := rd_Ij eS31 (by decide) d_x12
        have d_y13 := rd_Ik eS31 o_v0 o_a3 (by decide) d_y13
        have d_y30 := rd_Ij eS31 (by decide) d_y30
        obtain ⟨y32, hy32⟩ : ∃ z : Int32, z = (-1 : Int32) := ⟨_, rfl⟩
        have d_y32 := rd_Is eS31 hy32
        have ea3 := rf_I eS31 ea3
        have g0 := gr_I eS31 g0
        have o_a3 := ob_I eS31 o_a3
        have o_v0 := ob_I eS31 o_v0
        intro _
        exact hq _ _ hI g0 f0
      · refine ⟨a3, ea3, ?_⟩
        refine ⟨o_a3, ?_⟩
        intro x35 ex35
        have r_x35 : (0 : Int32) ≤ x35 ∧ x35 ≤ (12 : Int32) := by rw [ex35]; exact nu 19 rfl hI o_a3
        have d_x35 := ex35
        refine ⟨fun c36 => ?_, fun c36 => ?_⟩
        · intro _ _
          refine ⟨fun c38 => ?_, fun c38 => absurd (show ¬ (0 : Int32) = 0 from c38) (by decide)⟩
          refine u_X11_go_29 ?_
          refine ⟨o_v0, ?_⟩
          refine u_X11_refused ?_
          refine u_X11_refused_0 ?_
          refine ⟨o_v0, ?_⟩
          intro S39 eS39
          have hI : IV S39 := by rw [eS39]; exact iv11_sI hI o_v0 (by decide) (nu_free (by decide))
          have f0 := fr_I eS39 g0 f0 o_v0 (by decide)
          have d_y2 := rd_Ij eS39 (by decide) d_y2
          have d_x12 := rd_Ij eS39 (by decide) d_x12
          have d_y13 := rd_Ik eS39 o_v0 o_a3 (by decide) d_y13
          have d_x35 := rd_Ik eS39 o_v0 o_a3 (by decide) d_x35
          obtain ⟨y40, hy40⟩ : ∃ z : Int32, z = (1 : Int32) := ⟨_, rfl⟩
          have d_y40 := rd_Is eS39 hy40
          have ea3 := rf_I eS39 ea3
          have g0 := gr_I eS39 g0
          have o_a3 := ob_I eS39 o_a3
          have o_v0 := ob_I eS39 o_v0
          intro S41 eS41
          have hI : IV S41 := by rw [eS41]; exact iv11_sI hI o_v0 (by decide) (nu_free (by decide))
          have f0 := fr_I eS41 g0 f0 o_v0 (by decide)
          have d_y2 := rd_Ij eS41 (by decide) d_y2
          have d_x12 := rd_Ij eS41 (by decide) d_x12
          have d_y13 := rd_Ik eS41 o_v0 o_a3 (by decide) d_y13
          have d_x35 := rd_Ik eS41 o_v0 o_a3 (by decide) d_x35
          have d_y40 := rd_Ij eS41 (by decide) d_y40
          obtain ⟨y42, hy42⟩ : ∃ z : Int32, z = (-1 : Int32) := ⟨_, rfl⟩
          have d_y42 := rd_Is eS41 hy42
          have ea3 := rf_I eS41 ea3
          have g0 := gr_I eS41 g0
          have o_a3 := ob_I eS41 o_a3
          have o_v0 := ob_I eS41 o_v0
          intro _
          exact hq _ _ hI g0 f0
        · intro _ _
          refine ⟨fun c45 => absurd (show (1 : Int32) = 0 from c45) (by decide), fun c45 => ?_⟩
          refine u_X11_in ?_
          refine u_X11_in_0 ?_
          refine ⟨fun c46 => ?_, fun c46 => ?_⟩
          · intro _ _
            refine ⟨fun c48 => absurd (show ¬ (0 : Int32) = 0 from c48) (by decide), fun c48 => ?_⟩
            refine u_X11_go_29 ?_
            refine ⟨o_v0, ?_⟩
            refine u_X11_refused ?_
            refine u_X11_refused_0 ?_
            refine ⟨o_v0, ?_⟩
            intro S49 eS49
            have hI : IV S49 := by rw [eS49]; exact iv11_sI hI o_v0 (by decide) (nu_free (by decide))
            have f0 := fr_I eS49 g0 f0 o_v0 (by decide)
            have d_y2 := rd_Ij eS49 (by decide) d_y2
            have d_x12 := rd_Ij eS49 (by decide) d_x12
            have d_y13 := rd_Ik eS49 o_v0 o_a3 (by decide) d_y13
            have d_x35 := rd_Ik eS49 o_v0 o_a3 (by decide) d_x35
            obtain ⟨y50, hy50⟩ : ∃ z : Int32, z = (1 : Int32) := ⟨_, rfl⟩
            have d_y50 := rd_Is eS49 hy50
            have ea3 := rf_I eS49 ea3
            have g0 := gr_I eS49 g0
            have o_a3 := ob_I eS49 o_a3
            have o_v0 := ob_I eS49 o_v0
            intro S51 eS51
            have hI : IV S51 := by rw [eS51]; exact iv11_sI hI o_v0 (by decide) (nu_free (by decide))
            have f0 := fr_I eS51 g0 f0 o_v0 (by decide)
            have d_y2 := rd_Ij eS51 (by decide) d_y2
            have d_x12 := rd_Ij eS51 (by decide) d_x12
            have d_y13 := rd_Ik eS51 o_v0 o_a3 (by decide) d_y13
            have d_x35 := rd_Ik eS51 o_v0 o_a3 (by decide) d_x35
            have d_y50 := rd_Ij eS51 (by decide) d_y50
            obtain ⟨y52, hy52⟩ : ∃ z : Int32, z = (-1 : Int32) := ⟨_, rfl⟩
            have d_y52 := rd_Is eS51 hy52
            have ea3 := rf_I eS51 ea3
            have g0 := gr_I eS51 g0
            have o_a3 := ob_I eS51 o_a3
            have o_v0 := ob_I eS51 o_v0
            intro _
            exact hq _ _ hI g0 f0
          · refine ⟨fun c54 => ?_, fun c54 => ?_⟩
            · intro _ _
              refine ⟨fun c56 => absurd (show ¬ (0 : Int32) = 0 from c56) (by decide), fun c56 => ?_⟩
              refine u_X11_go_29 ?_
              refine ⟨o_v0, ?_⟩
              refine u_X11_refused ?_
              refine u_X11_refused_0 ?_
              refine ⟨o_v0, ?_⟩
              intro S57 eS57
              have hI : IV S57 := by rw [eS57]; exact iv11_sI hI o_v0 (by decide) (nu_free (by decide))
              have f0 := fr_I eS57 g0 f0 o_v0 (by decide)
              have d_y2 := rd_Ij eS57 (by decide) d_y2
              have d_x12 := rd_Ij eS57 (by decide) d_x12
              have d_y13 := rd_Ik eS57 o_v0 o_a3 (by decide) d_y13
              have d_x35 := rd_Ik eS57 o_v0 o_a3 (by decide) d_x35
              obtain ⟨y58, hy58⟩ : ∃ z : Int32, z = (1 : Int32) := ⟨_, rfl⟩
              have d_y58 := rd_Is eS57 hy58
              have ea3 := rf_I eS57 ea3
              have g0 := gr_I eS57 g0
              have o_a3 := ob_I eS57 o_a3
              have o_v0 := ob_I eS57 o_v0
              intro S59 eS59
              have hI : IV S59 := by rw [eS59]; exact iv11_sI hI o_v0 (by decide) (nu_free (by decide))
              have f0 := fr_I eS59 g0 f0 o_v0 (by decide)
              have d_y2 := rd_Ij eS59 (by decide) d_y2
              have d_x12 := rd_Ij eS59 (by decide) d_x12
              have d_y13 := rd_Ik eS59 o_v0 o_a3 (by decide) d_y13
              have d_x35 := rd_Ik eS59 o_v0 o_a3 (by decide) d_x35
              have d_y58 := rd_Ij eS59 (by decide) d_y58
              obtain ⟨y60, hy60⟩ : ∃ z : Int32, z = (-1 : Int32) := ⟨_, rfl⟩
              have d_y60 := rd_Is eS59 hy60
              have ea3 := rf_I eS59 ea3
              have g0 := gr_I eS59 g0
              have o_a3 := ob_I eS59 o_a3
              have o_v0 := ob_I eS59 o_v0
              intro _
              exact hq _ _ hI g0 f0
            · intro _ _
              refine ⟨fun c63 => ?_, fun c63 => absurd (show (1 : Int32) = 0 from c63) (by decide)⟩
              intro x64 ex64
              have r_x64 : (-2 : Int32) ≤ x64 ∧ x64 ≤ (3 : Int32) := by rw [ex64]; exact nu 26 rfl hI o_v0
              have q_x64 : x64 = x12 := ex64.trans d_x12.symm
              have d_x64 := ex64
              have wh_x64 : x64 = -2 ∨ (0 ≤ x64 ∧ x64 < y13) := by rw [ex64, d_y13]; exact ml_who hI o_v0 ea3
              refine u_X11_isSpeed ?_
              refine u_X11_isSpeed_0 ?_
              refine ⟨o_v0, ?_⟩
              refine ⟨a3, ea3, ?_⟩
              refine ⟨o_a3, ?_⟩
              obtain ⟨a66, ea66, o_a66, l_a66⟩ := shl 46 rfl hI o_a3
              refine ⟨a66, ea66, ?_⟩
              refine ⟨o_a66, ?_⟩
              refine ⟨(vin l_a66 (m := 4) (by decide) (qm0 r_x12 r_y13 wh_x12 c14 c26 r_x35 c36 c46 c54 r_x64 q_x64 wh_x64)), ?_⟩
              intro x67 ex67
              have gy_x67 : 0 ≤ x64 ∧ x64 < fI S1 a3 4 := by rw [← d_y13]; exact (qm1 r_x12 r_y13 wh_x12 c14 c26 r_x35 c36 c46 c54 r_x64 q_x64 wh_x64)
              have g_x67 : (1 : Int32) ≤ x67 ∧ x67 ≤ (9 : Int32) := by rw [ex67]; exact wg_at (ml_wg hI o_v0 ea3) 3 rfl gy_x67 ea66
              refine ⟨a3, ea3, ?_⟩
              refine ⟨o_a3, ?_⟩
              obtain ⟨a69, ea69, o_a69, l_a69⟩ := shl 47 rfl hI o_a3
              refine ⟨a69, ea69, ?_⟩
              refine ⟨o_a69, ?_⟩
              refine ⟨(vin l_a69 (m := 4) (by decide) (qm0 r_x12 r_y13 wh_x12 c14 c26 r_x35 c36 c46 c54 r_x64 q_x64 wh_x64)), ?_⟩
              intro x70 ex70
              have gy_x70 : 0 ≤ x64 ∧ x64 < fI S1 a3 4 := by rw [← d_y13]; exact (qm1 r_x12 r_y13 wh_x12 c14 c26 r_x35 c36 c46 c54 r_x64 q_x64 wh_x64)
              have g_x70 : (0 : Int32) ≤ x70 ∧ x70 ≤ (9 : Int32) := by rw [ex70]; exact wg_at (ml_wg hI o_v0 ea3) 4 rfl gy_x70 ea69
              refine u_X11_in ?_
              refine u_X11_in_0 ?_
              refine ⟨fun c71 => ?_, fun c71 => ?_⟩
              · intro _ _
                refine ⟨(Or.inl rfl), ?_⟩
                intro _ _
                refine ⟨fun c74 => absurd (show ¬ (0 : Int32) = 0 from c74) (by decide), fun c74 => ?_⟩
                refine u_X11_refused ?_
                refine u_X11_refused_0 ?_
                refine ⟨o_v0, ?_⟩
                intro S75 eS75
                have hI : IV S75 := by rw [eS75]; exact iv11_sI hI o_v0 (by decide) (nu_free (by decide))
                have f0 := fr_I eS75 g0 f0 o_v0 (by decide)
                have d_y2 := rd_Ij eS75 (by decide) d_y2
                have d_x64 := rd_Ij eS75 (by decide) d_x64
                have d_y13 := rd_Ik eS75 o_v0 o_a3 (by decide) d_y13
                have d_x35 := rd_Ik eS75 o_v0 o_a3 (by decide) d_x35
                obtain ⟨y76, hy76⟩ : ∃ z : Int32, z = (2 : Int32) := ⟨_, rfl⟩
                have d_y76 := rd_Is eS75 hy76
                have ea3 := rf_I eS75 ea3
                have ea66 := rf_I eS75 ea66
                have ea69 := rf_I eS75 ea69
                have l_a66 := ln_I eS75 l_a66
                have l_a69 := ln_I eS75 l_a69
                have g0 := gr_I eS75 g0
                have o_a3 := ob_I eS75 o_a3
                have o_a66 := ob_I eS75 o_a66
                have o_a69 := ob_I eS75 o_a69
                have o_v0 := ob_I eS75 o_v0
                intro S77 eS77
                have hI : IV S77 := by rw [eS77]; exact iv11_sI hI o_v0 (by decide) (nu_free (by decide))
                have f0 := fr_I eS77 g0 f0 o_v0 (by decide)
                have d_y2 := rd_Ij eS77 (by decide) d_y2
                have d_x64 := rd_Ij eS77 (by decide) d_x64
                have d_y13 := rd_Ik eS77 o_v0 o_a3 (by decide) d_y13
                have d_x35 := rd_Ik eS77 o_v0 o_a3 (by decide) d_x35
                have d_y76 := rd_Ij eS77 (by decide) d_y76
                obtain ⟨y78, hy78⟩ : ∃ z : Int32, z = (-1 : Int32) := ⟨_, rfl⟩
                have d_y78 := rd_Is eS77 hy78
                have ea3 := rf_I eS77 ea3
                have ea66 := rf_I eS77 ea66
                have ea69 := rf_I eS77 ea69
                have l_a66 := ln_I eS77 l_a66
                have l_a69 := ln_I eS77 l_a69
                have g0 := gr_I eS77 g0
                have o_a3 := ob_I eS77 o_a3
                have o_a66 := ob_I eS77 o_a66
                have o_a69 := ob_I eS77 o_a69
                have o_v0 := ob_I eS77 o_v0
                intro _
                exact hq _ _ hI g0 f0
              · refine ⟨fun c80 => ?_, fun c80 => ?_⟩
                · intro _ _
                  refine ⟨(Or.inl rfl), ?_⟩
                  intro _ _
                  refine ⟨fun c83 => absurd (show ¬ (0 : Int32) = 0 from c83) (by decide), fun c83 => ?_⟩
                  refine u_X11_refused ?_
                  refine u_X11_refused_0 ?_
                  refine ⟨o_v0, ?_⟩
                  intro S84 eS84
                  have hI : IV S84 := by rw [eS84]; exact iv11_sI hI o_v0 (by decide) (nu_free (by decide))
                  have f0 := fr_I eS84 g0 f0 o_v0 (by decide)
                  have d_y2 := rd_Ij eS84 (by decide) d_y2
                  have d_x64 := rd_Ij eS84 (by decide) d_x64
                  have d_y13 := rd_Ik eS84 o_v0 o_a3 (by decide) d_y13
                  have d_x35 := rd_Ik eS84 o_v0 o_a3 (by decide) d_x35
                  obtain ⟨y85, hy85⟩ : ∃ z : Int32, z = (2 : Int32) := ⟨_, rfl⟩
                  have d_y85 := rd_Is eS84 hy85
                  have ea3 := rf_I eS84 ea3
                  have ea66 := rf_I eS84 ea66
                  have ea69 := rf_I eS84 ea69
                  have l_a66 := ln_I eS84 l_a66
                  have l_a69 := ln_I eS84 l_a69
                  have g0 := gr_I eS84 g0
                  have o_a3 := ob_I eS84 o_a3
                  have o_a66 := ob_I eS84 o_a66
                  have o_a69 := ob_I eS84 o_a69
                  have o_v0 := ob_I eS84 o_v0
                  intro S86 eS86
                  have hI : IV S86 := by rw [eS86]; exact iv11_sI hI o_v0 (by decide) (nu_free (by decide))
                  have f0 := fr_I eS86 g0 f0 o_v0 (by decide)
                  have d_y2 := rd_Ij eS86 (by decide) d_y2
                  have d_x64 := rd_Ij eS86 (by decide) d_x64
                  have d_y13 := rd_Ik eS86 o_v0 o_a3 (by decide) d_y13
                  have d_x35 := rd_Ik eS86 o_v0 o_a3 (by decide) d_x35
                  have d_y85 := rd_Ij eS86 (by decide) d_y85
                  obtain ⟨y87, hy87⟩ : ∃ z : Int32, z = (-1 : Int32) := ⟨_, rfl⟩
                  have d_y87 := rd_Is eS86 hy87
                  have ea3 := rf_I eS86 ea3
                  have ea66 := rf_I eS86 ea66
                  have ea69 := rf_I eS86 ea69
                  have l_a66 := ln_I eS86 l_a66
                  have l_a69 := ln_I eS86 l_a69
                  have g0 := gr_I eS86 g0
                  have o_a3 := ob_I eS86 o_a3
                  have o_a66 := ob_I eS86 o_a66
                  have o_a69 := ob_I eS86 o_a69
                  have o_v0 := ob_I eS86 o_v0
                  intro _
                  exact hq _ _ hI g0 f0
                · intro _ _
                  refine ⟨(Or.inr rfl), ?_⟩
                  intro _ _
                  refine ⟨fun c91 => ?_, fun c91 => absurd (show (1 : Int32) = 0 from c91) (by decide)⟩
                  refine ⟨a3, ea3, ?_⟩
                  refine ⟨o_a3, ?_⟩
                  refine u_X10_begins ?_
                  refine u_X10_begins_0 ?_
                  refine ⟨fun c93 => ?_, fun c93 => ?_⟩
                  · refine ⟨o_a3, ?_⟩
                    obtain ⟨a94, ea94, o_a94, l_a94⟩ := shl 36 rfl hI o_a3
                    refine ⟨a94, ea94, ?_⟩
                    refine ⟨o_a94, ?_⟩
                    refine ⟨(vin l_a94 (m := 12) (by decide) (qm2 r_x12 r_y13 wh_x12 c14 c26 r_x35 c36 c46 c54 r_x64 q_x64 wh_x64 g_x67 g_x70 c71 c80 c93)), ?_⟩
                    intro x95 ex95
                    have gy_x95 : 0 ≤ v1 ∧ v1 < fI S1 a3 3 := by rw [← d_x35]; exact (qm3 r_x12 r_y13 wh_x12 c14 c26 r_x35 c36 c46 c54 r_x64 q_x64 wh_x64 g_x67 g_x70 c71 c80 c93)
                    have g_x95 : (0 : Int32) ≤ x95 ∧ x95 ≤ (7 : Int32) := by rw [ex95]; exact wg_at (ml_wg hI o_v0 ea3) 1 rfl gy_x95 ea94
                    obtain ⟨y96, d_y96⟩ : ∃ z : Int32, z = fI S1 a3 2 := ⟨_, rfl⟩
                    have r_y96 : (0 : Int32) ≤ y96 ∧ y96 ≤ (8 : Int32) := by rw [d_y96]; exact nu 18 rfl hI o_a3
                    have gl_x95 : x95 < y96 := by rw [ex95, d_y96]; exact wg_lt (ml_wg hI o_v0 ea3) 1 rfl (by decide) gy_x95 ea94
                    intro _
                    obtain ⟨a98, ea98, o_a98, l_a98⟩ := shl 57 rfl hI o_v0
                    refine ⟨a98, ea98, ?_⟩
                    refine ⟨o_a98, ?_⟩
                    refine ⟨(vin l_a98 (m := 7) (by decide) (qm4 r_x12 r_y13 wh_x12 c14 c26 r_x35 c36 c46 c54 r_x64 q_x64 wh_x64 g_x67 g_x70 c71 c80 c93)), ?_⟩
                    intro x99 ex99
                    have de_x99 := ml_de hI o_v0 (j := 21) (by decide) ea98 (0 : Int32).toNatClampNeg
                    rw [← ex99] at de_x99
                    have dr_x99 : (0 : Int64) ≤ x99 ∧ x99 ≤ (7 : Int64) := de_x99.1 (by decide)
                    refine ⟨fun c100 => ?_, fun c100 => ?_⟩
                    · refine ⟨a98, ea98, ?_⟩
                      refine ⟨o_a98, ?_⟩
                      refine ⟨(vin l_a98 (m := 7) (by decide) (qm5 r_x12 r_y13 wh_x12 c14 c26 r_x35 c36 c46 c54 r_x64 q_x64 wh_x64 g_x67 g_x70 c71 c80 c93 g_x95 r_y96 gl_x95 dr_x99 c100)), ?_⟩
                      intro x102 ex102
                      have de_x102 := ml_de hI o_v0 (j := 21) (by decide) ea98 (1 : Int32).toNatClampNeg
                      rw [← ex102] at de_x102
                      have dr_x102 : (0 : Int64) ≤ x102 ∧ x102 ≤ (999 : Int64) := de_x102.2 (by decide)
                      intro x103 ex103
                      refine ⟨a3, ea3, ?_⟩
                      refine ⟨o_a3, ?_⟩
                      refine u_X10_minutes ?_
                      refine u_X10_minutes_0 ?_
                      refine ⟨o_a3, ?_⟩
                      obtain ⟨a105, ea105, o_a105, l_a105⟩ := shl 38 rfl hI o_a3
                      refine ⟨a105, ea105, ?_⟩
                      refine ⟨o_a105, ?_⟩
                      refine ⟨(vin l_a105 (m := 12) (by decide) (qm6 r_x12 r_y13 wh_x12 c14 c26 r_x35 c36 c46 c54 r_x64 q_x64 wh_x64 g_x67 g_x70 c71 c80 c93 g_x95 r_y96 gl_x95 dr_x99 c100)), ?_⟩
                      intro x106 ex106
                      have gy_x106 : 0 ≤ v1 ∧ v1 < fI S1 a3 3 := by rw [← d_x35]; exact (qm7 r_x12 r_y13 wh_x12 c14 c26 r_x35 c36 c46 c54 r_x64 q_x64 wh_x64 g_x67 g_x70 c71 c80 c93 g_x95 r_y96 gl_x95 dr_x99 c100)
                      have g_x106 : (1 : Int32) ≤ x106 ∧ x106 ≤ (60 : Int32) := by rw [ex106]; exact wg_at (ml_wg hI o_v0 ea3) 2 rfl gy_x106 ea105
                      refine ⟨(qm8 r_x12 r_y13 wh_x12 c14 c26 r_x35 c36 c46 c54 r_x64 q_x64 wh_x64 g_x67 g_x70 c71 c80 c93 g_x95 r_y96 gl_x95 dr_x99 c100), ?_⟩
                      intro x107 ex107
                      have dv_x107 : 0 ≤ x107 ∧ x107 ≤ ((x106 + v3) - (1 : Int32)) := by rw [ex107]; exact dv0 (qm9 r_x12 r_y13 wh_x12 c14 c26 r_x35 c36 c46 c54 r_x64 q_x64 wh_x64 g_x67 g_x70 c71 c80 c93 g_x95 r_y96 gl_x95 dr_x99 c100 g_x106 ex107) (i32pos (qm10 r_x12 r_y13 wh_x12 c14 c26 r_x35 c36 c46 c54 r_x64 q_x64 wh_x64 g_x67 g_x70 c71 c80 c93 g_x95 r_y96 gl_x95 dr_x99 c100 g_x106 ex107))
                      have dw_x107 : (1 : Int32) ≤ x107 := by rw [ex107]; exact dv1 (qm11 r_x12 r_y13 wh_x12 c14 c26 r_x35 c36 c46 c54 r_x64 q_x64 wh_x64 g_x67 g_x70 c71 c80 c93 g_x95 r_y96 gl_x95 dr_x99 c100 g_x106 ex107) (qm12 r_x12 r_y13 wh_x12 c14 c26 r_x35 c36 c46 c54 r_x64 q_x64 wh_x64 g_x67 g_x70 c71 c80 c93 g_x95 r_y96 gl_x95 dr_x99 c100 g_x106 ex107)
                      intro _
                      refine ⟨fun c109 => ?_, fun c109 => ?_⟩
                      · refine m_X11_keeps hI o_v0 (fun S111 hJ g112 fc113 => ?_)
                        have hI := hJ
                        have l_a105 := (gr_len g112 o_a105).trans l_a105
                        have l_a66 := (gr_len g112 o_a66).trans l_a66
                        have l_a69 := (gr_len g112 o_a69).trans l_a69
                        have l_a94 := (gr_len g112 o_a94).trans l_a94
                        have l_a98 := (gr_len g112 o_a98).trans l_a98
                        have d_y2 := d_y2.trans (fri_at fc113 (by decide) (by decide) o_v0).symm
                        have d_x64 := d_x64.trans (fri_at fc113 (by decide) (by decide) o_v0).symm
                        have d_y13 := d_y13.trans (fri_at fc113 (by decide) (by decide) o_a3).symm
                        have d_x35 := d_x35.trans (fri_at fc113 (by decide) (by decide) o_a3).symm
                        have d_y96 := d_y96.trans (fri_at fc113 (by decide) (by decide) o_a3).symm
                        have ea3 := (frr_at fc113 (by decide) (by decide) o_v0).trans ea3
                        have ea66 := (frr_at fc113 (by decide) (by decide) o_a3).trans ea66
                        have ea69 := (frr_at fc113 (by decide) (by decide) o_a3).trans ea69
                        have ea94 := (frr_at fc113 (by decide) (by decide) o_a3).trans ea94
                        have ea98 := (frr_at fc113 (by decide) (by decide) o_v0).trans ea98
                        have ea105 := (frr_at fc113 (by decide) (by decide) o_a3).trans ea105
                        have f0 := fri_tr (S := S1) g0 f0 fc113 (by decide) (by decide)
                        have o_a105 := gr_ob g112 o_a105
                        have o_a3 := gr_ob g112 o_a3
                        have o_a66 := gr_ob g112 o_a66
                        have o_a69 := gr_ob g112 o_a69
                        have o_a94 := gr_ob g112 o_a94
                        have o_a98 := gr_ob g112 o_a98
                        have o_v0 := gr_ob g112 o_v0
                        have g0 := gr_tr (T := S1) g0 g112
                        intro _
                        refine i_X11_go_119 (fun (y0 : Nat) (y1 : Int32) (y2 : Int32) (y3 : Int32) (y4 : Int32) (y5 : Int32) (Z : HS) => ((2147483647 : Int32).toInt - y5.toInt).toNat) (fun (y0 : Nat) (y1 : Int32) (y2 : Int32) (y3 : Int32) (y4 : Int32) (y5 : Int32) (Z : HS) => (IV Z) ∧ (Gr S111 Z) ∧ (FRI [] [] S111 Z) ∧ (v0 = y0) ∧ (v1 = y1) ∧ (v2 = y2) ∧ (v3 = y3) ∧ (x103 = y4) ∧ (0 ≤ y5)) ?_ _ _ _ _ _ _ _ ⟨hI, (gr_rf _), (fri_rf _ _ _), rfl, rfl, rfl, rfl, rfl, (qm13 r_x12 r_y13 wh_x12 c14 c26 r_x35 c36 c46 c54 r_x64 q_x64 wh_x64 g_x67 g_x70 c71 c80 c93 g_x95 r_y96 gl_x95 dr_x99 c100 dr_x102 ex103 g_x106 ex107 dv_x107 dw_x107 c109)⟩
                        intro w118 w120 w122 w124 w126 w128 S115 X129 ⟨hI, gL116, fL117, q119, q121, q123, q125, q127, i1u114⟩ ih130
                        subst q119
                        subst q121
                        subst q123
                        subst q125
                        subst q127
                        have l_a105 := (gr_len gL116 o_a105).trans l_a105
                        have l_a66 := (gr_len gL116 o_a66).trans l_a66
                        have l_a69 := (gr_len gL116 o_a69).trans l_a69
                        have l_a94 := (gr_len gL116 o_a94).trans l_a94
                        have l_a98 := (gr_len gL116 o_a98).trans l_a98
                        have d_y2 := d_y2.trans (fri_at fL117 (by decide) (by decide) o_v0).symm
                        have d_x64 := d_x64.trans (fri_at fL117 (by decide) (by decide) o_v0).symm
                        have d_y13 := d_y13.trans (fri_at fL117 (by decide) (by decide) o_a3).symm
                        have d_x35 := d_x35.trans (fri_at fL117 (by decide) (by decide) o_a3).symm
                        have d_y96 := d_y96.trans (fri_at fL117 (by decide) (by decide) o_a3).symm
                        have ea3 := (frr_at fL117 (by decide) (by decide) o_v0).trans ea3
                        have ea66 := (frr_at fL117 (by decide) (by decide) o_a3).trans ea66
                        have ea69 := (frr_at fL117 (by decide) (by decide) o_a3).trans ea69
                        have ea94 := (frr_at fL117 (by decide) (by decide) o_a3).trans ea94
                        have ea98 := (frr_at fL117 (by decide) (by decide) o_v0).trans ea98
                        have ea105 := (frr_at fL117 (by decide) (by decide) o_a3).trans ea105
                        have f0 := fri_tr (S := S111) g0 f0 fL117 (by decide) (by decide)
                        have o_a105 := gr_ob gL116 o_a105
                        have o_a3 := gr_ob gL116 o_a3
                        have o_a66 := gr_ob gL116 o_a66
                        have o_a69 := gr_ob gL116 o_a69
                        have o_a94 := gr_ob gL116 o_a94
                        have o_a98 := gr_ob gL116 o_a98
                        have o_v0 := gr_ob gL116 o_v0
                        have g0 := gr_tr (T := S111) g0 gL116
                        refine u_X11_go_119 ?_
                        refine ⟨fun c131 => ?_, fun c131 => ?_⟩
                        · refine u_X11_go_171 ?_
                          refine ⟨o_v0, ?_⟩
                          refine ⟨a98, ea98, ?_⟩
                          refine ⟨a3, ea3, ?_⟩
                          refine ⟨o_a3, ?_⟩
                          refine u_X10_ends ?_
                          refine u_X10_ends_0 ?_
                          refine ⟨fun c134 => ?_, fun c134 => ?_⟩
                          · refine ⟨o_a3, ?_⟩
                            obtain ⟨a135, ea135, o_a135, l_a135⟩ := shl 35 rfl hI o_a3
                            refine ⟨a135, ea135, ?_⟩
                            refine ⟨o_a135, ?_⟩
                            refine ⟨(vin l_a135 (m := 12) (by decide) (qm14 r_x12 r_y13 wh_x12 c14 c26 r_x35 c36 c46 c54 r_x64 q_x64 wh_x64 g_x67 g_x70 c71 c80 c93 g_x95 r_y96 gl_x95 dr_x99 c100 dr_x102 ex103 g_x106 ex107 dv_x107 dw_x107 c109 i1u114 c131 c134)), ?_⟩
                            intro x136 ex136
                            have gy_x136 : 0 ≤ v1 ∧ v1 < fI S115 a3 3 := by rw [← d_x35]; exact (qm15 r_x12 r_y13 wh_x12 c14 c26 r_x35 c36 c46 c54 r_x64 q_x64 wh_x64 g_x67 g_x70 c71 c80 c93 g_x95 r_y96 gl_x95 dr_x99 c100 dr_x102 ex103 g_x106 ex107 dv_x107 dw_x107 c109 i1u114 c131 c134)
                            have g_x136 : (0 : Int32) ≤ x136 ∧ x136 ≤ (7 : Int32) := by rw [ex136]; exact wg_at (ml_wg hI o_v0 ea3) 0 rfl gy_x136 ea135
                            have gl_x136 : x136 < y96 := by rw [ex136, d_y96]; exact wg_lt (ml_wg hI o_v0 ea3) 0 rfl (by decide) gy_x136 ea135
                            intro _
                            refine ⟨o_a98, ?_⟩
                            intro x138 ex138
                            have i139 : vp_in (0 : Int32) (hN _ a98) := (vin l_a98 (m := 7) (by decide) (qm16 r_x12 r_y13 wh_x12 c14 c26 r_x35 c36 c46 c54 r_x64 q_x64 wh_x64 g_x67 g_x70 c71 c80 c93 g_x95 r_y96 gl_x95 dr_x99 c100 dr_x102 ex103 g_x106 ex107 dv_x107 dw_x107 c109 i1u114 c131 c134 g_x136 gl_x136 ex138))
                            refine ⟨i139, ?_⟩
                            intro S140 eS140
                            have hI : IV S140 := by rw [eS140]; exact iv11_aD hI (de_0 (by rw [ex138]; exact i2l_rng (lo := 0) (hi := 7) (qm17 r_x12 r_y13 wh_x12 c14 c26 r_x35 c36 c46 c54 r_x64 q_x64 wh_x64 g_x67 g_x70 c71 c80 c93 g_x95 r_y96 gl_x95 dr_x99 c100 dr_x102 ex103 g_x106 ex107 dv_x107 dw_x107 c109 i1u114 c131 c134 g_x136 gl_x136 ex138)))
                            have f0 := fr_J eS140 f0
                            have d_y2 := rd_J eS140 d_y2
                            have d_x64 := rd_J eS140 d_x64
                            have d_y13 := rd_J eS140 d_y13
                            have d_x35 := rd_J eS140 d_x35
                            have d_y96 := rd_J eS140 d_y96
                            have ea3 := rf_J eS140 ea3
                            have ea66 := rf_J eS140 ea66
                            have ea69 := rf_J eS140 ea69
                            have ea94 := rf_J eS140 ea94
                            have ea98 := rf_J eS140 ea98
                            have ea105 := rf_J eS140 ea105
                            have ea135 := rf_J eS140 ea135
                            have l_a105 := ln_J eS140 l_a105
                            have l_a135 := ln_J eS140 l_a135
                            have l_a66 := ln_J eS140 l_a66
                            have l_a69 := ln_J eS140 l_a69
                            have l_a94 := ln_J eS140 l_a94
                            have l_a98 := ln_J eS140 l_a98
                            have g0 := gr_J eS140 g0
                            have o_a105 := ob_J eS140 o_a105
                            have o_a135 := ob_J eS140 o_a135
                            have o_a3 := ob_J eS140 o_a3
                            have o_a66 := ob_J eS140 o_a66
                            have o_a69 := ob_J eS140 o_a69
                            have o_a94 := ob_J eS140 o_a94
                            have o_a98 := ob_J eS140 o_a98
                            have o_v0 := ob_J eS140 o_v0
                            refine ⟨a98, ea98, ?_⟩
                            refine ⟨a3, ea3, ?_⟩
                            refine ⟨o_a3, ?_⟩
                            refine u_X10_minutes ?_
                            refine u_X10_minutes_0 ?_
                            refine ⟨o_a3, ?_⟩
                            refine ⟨a105, ea105, ?_⟩
                            refine ⟨o_a105, ?_⟩
                            refine ⟨(vin l_a105 (m := 12) (by decide) (qm18 r_x12 r_y13 wh_x12 c14 c26 r_x35 c36 c46 c54 r_x64 q_x64 wh_x64 g_x67 g_x70 c71 c80 c93 g_x95 r_y96 gl_x95 dr_x99 c100 dr_x102 ex103 g_x106 ex107 dv_x107 dw_x107 c109 i1u114 c131 c134 g_x136 gl_x136 ex138)), ?_⟩
                            intro x144 ex144
                            have gy_x144 : 0 ≤ v1 ∧ v1 < fI S140 a3 3 := by rw [← d_x35]; exact (qm19 r_x12 r_y13 wh_x12 c14 c26 r_x35 c36 c46 c54 r_x64 q_x64 wh_x64 g_x67 g_x70 c71 c80 c93 g_x95 r_y96 gl_x95 dr_x99 c100 dr_x102 ex103 g_x106 ex107 dv_x107 dw_x107 c109 i1u114 c131 c134 g_x136 gl_x136 ex138)
                            have g_x144 : (1 : Int32) ≤ x144 ∧ x144 ≤ (60 : Int32) := by rw [ex144]; exact wg_at (ml_wg hI o_v0 ea3) 2 rfl gy_x144 ea105
                            refine ⟨(qm20 r_x12 r_y13 wh_x12 c14 c26 r_x35 c36 c46 c54 r_x64 q_x64 wh_x64 g_x67 g_x70 c71 c80 c93 g_x95 r_y96 gl_x95 dr_x99 c100 dr_x102 ex103 g_x106 ex107 dv_x107 dw_x107 c109 i1u114 c131 c134 g_x136 gl_x136 ex138), ?_⟩
                            intro x145 ex145
                            have dv_x145 : 0 ≤ x145 ∧ x145 ≤ ((x144 + v3) - (1 : Int32)) := by rw [ex145]; exact dv0 (qm21 r_x12 r_y13 wh_x12 c14 c26 r_x35 c36 c46 c54 r_x64 q_x64 wh_x64 g_x67 g_x70 c71 c80 c93 g_x95 r_y96 gl_x95 dr_x99 c100 dr_x102 ex103 g_x106 ex107 dv_x107 dw_x107 c109 i1u114 c131 c134 g_x136 gl_x136 ex138 g_x144 ex145) (i32pos (qm22 r_x12 r_y13 wh_x12 c14 c26 r_x35 c36 c46 c54 r_x64 q_x64 wh_x64 g_x67 g_x70 c71 c80 c93 g_x95 r_y96 gl_x95 dr_x99 c100 dr_x102 ex103 g_x106 ex107 dv_x107 dw_x107 c109 i1u114 c131 c134 g_x136 gl_x136 ex138 g_x144 ex145))
                            have dw_x145 : (1 : Int32) ≤ x145 := by rw [ex145]; exact dv1 (qm23 r_x12 r_y13 wh_x12 c14 c26 r_x35 c36 c46 c54 r_x64 q_x64 wh_x64 g_x67 g_x70 c71 c80 c93 g_x95 r_y96 gl_x95 dr_x99 c100 dr_x102 ex103 g_x106 ex107 dv_x107 dw_x107 c109 i1u114 c131 c134 g_x136 gl_x136 ex138 g_x144 ex145) (qm24 r_x12 r_y13 wh_x12 c14 c26 r_x35 c36 c46 c54 r_x64 q_x64 wh_x64 g_x67 g_x70 c71 c80 c93 g_x95 r_y96 gl_x95 dr_x99 c100 dr_x102 ex103 g_x106 ex107 dv_x107 dw_x107 c109 i1u114 c131 c134 g_x136 gl_x136 ex138 g_x144 ex145)
                            intro _
                            refine ⟨o_a98, ?_⟩
                            intro x147 ex147
                            have i148 : vp_in (1 : Int32) (hN _ a98) := (vin l_a98 (m := 7) (by decide) (qm25 r_x12 r_y13 wh_x12 c14 c26 r_x35 c36 c46 c54 r_x64 q_x64 wh_x64 g_x67 g_x70 c71 c80 c93 g_x95 r_y96 gl_x95 dr_x99 c100 dr_x102 ex103 g_x106 ex107 dv_x107 dw_x107 c109 i1u114 c131 c134 g_x136 gl_x136 ex138 g_x144 ex145 dv_x145 dw_x145 ex147))
                            refine ⟨i148, ?_⟩
                            intro S149 eS149
                            have hI : IV S149 := by rw [eS149]; exact iv11_aD hI (de_1 (by rw [ex147]; exact i2l_rng (lo := 0) (hi := 999) (qm26 r_x12 r_y13 wh_x12 c14 c26 r_x35 c36 c46 c54 r_x64 q_x64 wh_x64 g_x67 g_x70 c71 c80 c93 g_x95 r_y96 gl_x95 dr_x99 c100 dr_x102 ex103 g_x106 ex107 dv_x107 dw_x107 c109 i1u114 c131 c134 g_x136 gl_x136 ex138 g_x144 ex145 dv_x145 dw_x145 ex147)))
                            have f0 := fr_J eS149 f0
                            have d_y2 := rd_J eS149 d_y2
                            have d_x64 := rd_J eS149 d_x64
                            have d_y13 := rd_J eS149 d_y13
                            have d_x35 := rd_J eS149 d_x35
                            have d_y96 := rd_J eS149 d_y96
                            have ea3 := rf_J eS149 ea3
                            have ea66 := rf_J eS149 ea66
                            have ea69 := rf_J eS149 ea69
                            have ea94 := rf_J eS149 ea94
                            have ea98 := rf_J eS149 ea98
                            have ea105 := rf_J eS149 ea105
                            have ea135 := rf_J eS149 ea135
                            have l_a105 := ln_J eS149 l_a105
                            have l_a135 := ln_J eS149 l_a135
                            have l_a66 := ln_J eS149 l_a66
                            have l_a69 := ln_J eS149 l_a69
                            have l_a94 := ln_J eS149 l_a94
                            have l_a98 := ln_J eS149 l_a98
                            have g0 := gr_J eS149 g0
                            have o_a105 := ob_J eS149 o_a105
                            have o_a135 := ob_J eS149 o_a135
                            have o_a3 := ob_J eS149 o_a3
                            have o_a66 := ob_J eS149 o_a66
                            have o_a69 := ob_J eS149 o_a69
                            have o_a94 := ob_J eS149 o_a94
                            have o_a98 := ob_J eS149 o_a98
                            have o_v0 := ob_J eS149 o_v0
                            refine ⟨a98, ea98, ?_⟩
                            refine ⟨o_a98, ?_⟩
                            refine ⟨(vin l_a98 (m := 7) (by decide) (qm25 r_x12 r_y13 wh_x12 c14 c26 r_x35 c36 c46 c54 r_x64 q_x64 wh_x64 g_x67 g_x70 c71 c80 c93 g_x95 r_y96 gl_x95 dr_x99 c100 dr_x102 ex103 g_x106 ex107 dv_x107 dw_x107 c109 i1u114 c131 c134 g_x136 gl_x136 ex138 g_x144 ex145 dv_x145 dw_x145 ex147)), ?_⟩
                            intro x151 ex151
                            have de_x151 := ml_de hI o_v0 (j := 21) (by decide) ea98 (1 : Int32).toNatClampNeg
                            rw [← ex151] at de_x151
                            have dr_x151 : (0 : Int64) ≤ x151 ∧ x151 ≤ (999 : Int64) := de_x151.2 (by decide)
                            refine u_X11_good ?_
                            refine u_X11_good_0 ?_
                            refine ⟨o_v0, ?_⟩
                            intro S152 eS152
                            have hI : IV S152 := by rw [eS152]; exact iv11_sI hI o_v0 (by decide) (nu_free (by decide))
                            have f0 := fr_I eS152 g0 f0 o_v0 (by decide)
                            have d_y2 := rd_Ij eS152 (by decide) d_y2
                            have d_x64 := rd_Ij eS152 (by decide) d_x64
                            have d_y13 := rd_Ik eS152 o_v0 o_a3 (by decide) d_y13
                            have d_x35 := rd_Ik eS152 o_v0 o_a3 (by decide) d_x35
                            have d_y96 := rd_Ik eS152 o_v0 o_a3 (by decide) d_y96
                            obtain ⟨y153, hy153⟩ : ∃ z : Int32, z = (0 : Int32) := ⟨_, rfl⟩
                            have d_y153 := rd_Is eS152 hy153
                            have ea3 := rf_I eS152 ea3
                            have ea66 := rf_I eS152 ea66
                            have ea69 := rf_I eS152 ea69
                            have ea94 := rf_I eS152 ea94
                            have ea98 := rf_I eS152 ea98
                            have ea105 := rf_I eS152 ea105
                            have ea135 := rf_I eS152 ea135
                            have l_a105 := ln_I eS152 l_a105
                            have l_a135 := ln_I eS152 l_a135
                            have l_a66 := ln_I eS152 l_a66
                            have l_a69 := ln_I eS152 l_a69
                            have l_a94 := ln_I eS152 l_a94
                            have l_a98 := ln_I eS152 l_a98
                            have g0 := gr_I eS152 g0
                            have o_a105 := ob_I eS152 o_a105
                            have o_a135 := ob_I eS152 o_a135
                            have o_a3 := ob_I eS152 o_a3
                            have o_a66 := ob_I eS152 o_a66
                            have o_a69 := ob_I eS152 o_a69
                            have o_a94 := ob_I eS152 o_a94
                            have o_a98 := ob_I eS152 o_a98
                            have o_v0 := ob_I eS152 o_v0
                            intro S154 eS154
                            have hI : IV S154 := by rw [eS154]; exact iv11_sI hI o_v0 (by decide) (nu_free (by decide))
                            have f0 := fr_I eS154 g0 f0 o_v0 (by decide)
                            have d_y2 := rd_Ij eS154 (by decide) d_y2
                            have d_x64 := rd_Ij eS154 (by decide) d_x64
                            have d_y13 := rd_Ik eS154 o_v0 o_a3 (by decide) d_y13
                            have d_x35 := rd_Ik eS154 o_v0 o_a3 (by decide) d_x35
                            have d_y96 := rd_Ik eS154 o_v0 o_a3 (by decide) d_y96
                            have d_y153 := rd_Ij eS154 (by decide) d_y153
                            obtain ⟨y155, hy155⟩ : ∃ z : Int32, z = (-1 : Int32) := ⟨_, rfl⟩
                            have d_y155 := rd_Is eS154 hy155
                            have ea3 := rf_I eS154 ea3
                            have ea66 := rf_I eS154 ea66
                            have ea69 := rf_I eS154 ea69
                            have ea94 := rf_I eS154 ea94
                            have ea98 := rf_I eS154 ea98
                            have ea105 := rf_I eS154 ea105
                            have ea135 := rf_I eS154 ea135
                            have l_a105 := ln_I eS154 l_a105
                            have l_a135 := ln_I eS154 l_a135
                            have l_a66 := ln_I eS154 l_a66
                            have l_a69 := ln_I eS154 l_a69
                            have l_a94 := ln_I eS154 l_a94
                            have l_a98 := ln_I eS154 l_a98
                            have g0 := gr_I eS154 g0
                            have o_a105 := ob_I eS154 o_a105
                            have o_a135 := ob_I eS154 o_a135
                            have o_a3 := ob_I eS154 o_a3
                            have o_a66 := ob_I eS154 o_a66
                            have o_a69 := ob_I eS154 o_a69
                            have o_a94 := ob_I eS154 o_a94
                            have o_a98 := ob_I eS154 o_a98
                            have o_v0 := ob_I eS154 o_v0
                            intro _
                            exact hq _ _ hI g0 f0
                          · refine ⟨o_a3, ?_⟩
                            refine ⟨a94, ea94, ?_⟩
                            refine ⟨o_a94, ?_⟩
                            refine ⟨(vin l_a94 (m := 12) (by decide) (qm27 r_x12 r_y13 wh_x12 c14 c26 r_x35 c36 c46 c54 r_x64 q_x64 wh_x64 g_x67 g_x70 c71 c80 c93 g_x95 r_y96 gl_x95 dr_x99 c100 dr_x102 ex103 g_x106 ex107 dv_x107 dw_x107 c109 i1u114 c131 c134)), ?_⟩
                            intro x158 ex158
                            have gy_x158 : 0 ≤ v1 ∧ v1 < fI S115 a3 3 := by rw [← d_x35]; exact (qm28 r_x12 r_y13 wh_x12 c14 c26 r_x35 c36 c46 c54 r_x64 q_x64 wh_x64 g_x67 g_x70 c71 c80 c93 g_x95 r_y96 gl_x95 dr_x99 c100 dr_x102 ex103 g_x106 ex107 dv_x107 dw_x107 c109 i1u114 c131 c134)
                            have g_x158 : (0 : Int32) ≤ x158 ∧ x158 ≤ (7 : Int32) := by rw [ex158]; exact wg_at (ml_wg hI o_v0 ea3) 1 rfl gy_x158 ea94
                            have gl_x158 : x158 < y96 := by rw [ex158, d_y96]; exact wg_lt (ml_wg hI o_v0 ea3) 1 rfl (by decide) gy_x158 ea94
                            intro _
                            refine ⟨o_a98, ?_⟩
                            intro x160 ex160
                            have i161 : vp_in (0 : Int32) (hN _ a98) := (vin l_a98 (m := 7) (by decide) (qm29 r_x12 r_y13 wh_x12 c14 c26 r_x35 c36 c46 c54 r_x64 q_x64 wh_x64 g_x67 g_x70 c71 c80 c93 g_x95 r_y96 gl_x95 dr_x99 c100 dr_x102 ex103 g_x106 ex107 dv_x107 dw_x107 c109 i1u114 c131 c134 g_x158 gl_x158 ex160))
                            refine ⟨i161, ?_⟩
                            intro S162 eS162
                            have hI : IV S162 := by rw [eS162]; exact iv11_aD hI (de_0 (by rw [ex160]; exact i2l_rng (lo := 0) (hi := 7) (qm30 r_x12 r_y13 wh_x12 c14 c26 r_x35 c36 c46 c54 r_x64 q_x64 wh_x64 g_x67 g_x70 c71 c80 c93 g_x95 r_y96 gl_x95 dr_x99 c100 dr_x102 ex103 g_x106 ex107 dv_x107 dw_x107 c109 i1u114 c131 c134 g_x158 gl_x158 ex160)))
                            have f0 := fr_J eS162 f0
                            have d_y2 := rd_J eS162 d_y2
                            have d_x64 := rd_J eS162 d_x64
                            have d_y13 := rd_J eS162 d_y13
                            have d_x35 := rd_J eS162 d_x35
                            have d_y96 := rd_J eS162 d_y96
                            have ea3 := rf_J eS162 ea3
                            have ea66 := rf_J eS162 ea66
                            have ea69 := rf_J eS162 ea69
                            have ea94 := rf_J eS162 ea94
                            have ea98 := rf_J eS162 ea98
                            have ea105 := rf_J eS162 ea105
                            have l_a105 := ln_J eS162 l_a105
                            have l_a66 := ln_J eS162 l_a66
                            have l_a69 := ln_J eS162 l_a69
                            have l_a94 := ln_J eS162 l_a94
                            have l_a98 := ln_J eS162 l_a98
                            have g0 := gr_J eS162 g0
                            have o_a105 := ob_J eS162 o_a105
                            have o_a3 := ob_J eS162 o_a3
                            have o_a66 := ob_J eS162 o_a66
                            have o_a69 := ob_J eS162 o_a69
                            have o_a94 := ob_J eS162 o_a94
                            have o_a98 := ob_J eS162 o_a98
                            have o_v0 := ob_J eS162 o_v0
                            refine ⟨a98, ea98, ?_⟩
                            refine ⟨a3, ea3, ?_⟩
                            refine ⟨o_a3, ?_⟩
                            refine u_X10_minutes ?_
                            refine u_X10_minutes_0 ?_
                            refine ⟨o_a3, ?_⟩
                            refine ⟨a105, ea105, ?_⟩
                            refine ⟨o_a105, ?_⟩
                            refine ⟨(vin l_a105 (m := 12) (by decide) (qm31 r_x12 r_y13 wh_x12 c14 c26 r_x35 c36 c46 c54 r_x64 q_x64 wh_x64 g_x67 g_x70 c71 c80 c93 g_x95 r_y96 gl_x95 dr_x99 c100 dr_x102 ex103 g_x106 ex107 dv_x107 dw_x107 c109 i1u114 c131 c134 g_x158 gl_x158 ex160)), ?_⟩
                            intro x166 ex166
                            have gy_x166 : 0 ≤ v1 ∧ v1 < fI S162 a3 3 := by rw [← d_x35]; exact (qm32 r_x12 r_y13 wh_x12 c14 c26 r_x35 c36 c46 c54 r_x64 q_x64 wh_x64 g_x67 g_x70 c71 c80 c93 g_x95 r_y96 gl_x95 dr_x99 c100 dr_x102 ex103 g_x106 ex107 dv_x107 dw_x107 c109 i1u114 c131 c134 g_x158 gl_x158 ex160)
                            have g_x166 : (1 : Int32) ≤ x166 ∧ x166 ≤ (60 : Int32) := by rw [ex166]; exact wg_at (ml_wg hI o_v0 ea3) 2 rfl gy_x166 ea105
                            refine ⟨(qm33 r_x12 r_y13 wh_x12 c14 c26 r_x35 c36 c46 c54 r_x64 q_x64 wh_x64 g_x67 g_x70 c71 c80 c93 g_x95 r_y96 gl_x95 dr_x99 c100 dr_x102 ex103 g_x106 ex107 dv_x107 dw_x107 c109 i1u114 c131 c134 g_x158 gl_x158 ex160), ?_⟩
                            intro x167 ex167
                            have dv_x167 : 0 ≤ x167 ∧ x167 ≤ ((x166 + v3) - (1 : Int32)) := by rw [ex167]; exact dv0 (qm34 r_x12 r_y13 wh_x12 c14 c26 r_x35 c36 c46 c54 r_x64 q_x64 wh_x64 g_x67 g_x70 c71 c80 c93 g_x95 r_y96 gl_x95 dr_x99 c100 dr_x102 ex103 g_x106 ex107 dv_x107 dw_x107 c109 i1u114 c131 c134 g_x158 gl_x158 ex160 g_x166 ex167) (i32pos (qm35 r_x12 r_y13 wh_x12 c14 c26 r_x35 c36 c46 c54 r_x64 q_x64 wh_x64 g_x67 g_x70 c71 c80 c93 g_x95 r_y96 gl_x95 dr_x99 c100 dr_x102 ex103 g_x106 ex107 dv_x107 dw_x107 c109 i1u114 c131 c134 g_x158 gl_x158 ex160 g_x166 ex167))
                            have dw_x167 : (1 : Int32) ≤ x167 := by rw [ex167]; exact dv1 (qm36 r_x12 r_y13 wh_x12 c14 c26 r_x35 c36 c46 c54 r_x64 q_x64 wh_x64 g_x67 g_x70 c71 c80 c93 g_x95 r_y96 gl_x95 dr_x99 c100 dr_x102 ex103 g_x106 ex107 dv_x107 dw_x107 c109 i1u114 c131 c134 g_x158 gl_x158 ex160 g_x166 ex167) (qm37 r_x12 r_y13 wh_x12 c14 c26 r_x35 c36 c46 c54 r_x64 q_x64 wh_x64 g_x67 g_x70 c71 c80 c93 g_x95 r_y96 gl_x95 dr_x99 c100 dr_x102 ex103 g_x106 ex107 dv_x107 dw_x107 c109 i1u114 c131 c134 g_x158 gl_x158 ex160 g_x166 ex167)
                            intro _
                            refine ⟨o_a98, ?_⟩
                            intro x169 ex169
                            have i170 : vp_in (1 : Int32) (hN _ a98) := (vin l_a98 (m := 7) (by decide) (qm38 r_x12 r_y13 wh_x12 c14 c26 r_x35 c36 c46 c54 r_x64 q_x64 wh_x64 g_x67 g_x70 c71 c80 c93 g_x95 r_y96 gl_x95 dr_x99 c100 dr_x102 ex103 g_x106 ex107 dv_x107 dw_x107 c109 i1u114 c131 c134 g_x158 gl_x158 ex160 g_x166 ex167 dv_x167 dw_x167 ex169))
                            refine ⟨i170, ?_⟩
                            intro S171 eS171
                            have hI : IV S171 := by rw [eS171]; exact iv11_aD hI (de_1 (by rw [ex169]; exact i2l_rng (lo := 0) (hi := 999) (qm39 r_x12 r_y13 wh_x12 c14 c26 r_x35 c36 c46 c54 r_x64 q_x64 wh_x64 g_x67 g_x70 c71 c80 c93 g_x95 r_y96 gl_x95 dr_x99 c100 dr_x102 ex103 g_x106 ex107 dv_x107 dw_x107 c109 i1u114 c131 c134 g_x158 gl_x158 ex160 g_x166 ex167 dv_x167 dw_x167 ex169)))
                            have f0 := fr_J eS171 f0
                            have d_y2 := rd_J eS171 d_y2
                            have d_x64 := rd_J eS171 d_x64
                            have d_y13 := rd_J eS171 d_y13
                            have d_x35 := rd_J eS171 d_x35
                            have d_y96 := rd_J eS171 d_y96
                            have ea3 := rf_J eS171 ea3
                            have ea66 := rf_J eS171 ea66
                            have ea69 := rf_J eS171 ea69
                            have ea94 := rf_J eS171 ea94
                            have ea98 := rf_J eS171 ea98
                            have ea105 := rf_J eS171 ea105
                            have l_a105 := ln_J eS171 l_a105
                            have l_a66 := ln_J eS171 l_a66
                            have l_a69 := ln_J eS171 l_a69
                            have l_a94 := ln_J eS171 l_a94
                            have l_a98 := ln_J eS171 l_a98
                            have g0 := gr_J eS171 g0
                            have o_a105 := ob_J eS171 o_a105
                            have o_a3 := ob_J eS171 o_a3
                            have o_a66 := ob_J eS171 o_a66
                            have o_a69 := ob_J eS171 o_a69
                            have o_a94 := ob_J eS171 o_a94
                            have o_a98 := ob_J eS171 o_a98
                            have o_v0 := ob_J eS171 o_v0
                            refine ⟨a98, ea98, ?_⟩
                            refine ⟨o_a98, ?_⟩
                            refine ⟨(vin l_a98 (m := 7) (by decide) (qm38 r_x12 r_y13 wh_x12 c14 c26 r_x35 c36 c46 c54 r_x64 q_x64 wh_x64 g_x67 g_x70 c71 c80 c93 g_x95 r_y96 gl_x95 dr_x99 c100 dr_x102 ex103 g_x106 ex107 dv_x107 dw_x107 c109 i1u114 c131 c134 g_x158 gl_x158 ex160 g_x166 ex167 dv_x167 dw_x167 ex169)), ?_⟩
                            intro x173 ex173
                            have de_x173 := ml_de hI o_v0 (j := 21) (by decide) ea98 (1 : Int32).toNatClampNeg
                            rw [← ex173] at de_x173
                            have dr_x173 : (0 : Int64) ≤ x173 ∧ x173 ≤ (999 : Int64) := de_x173.2 (by decide)
                            refine u_X11_good ?_
                            refine u_X11_good_0 ?_
                            refine ⟨o_v0, ?_⟩
                            intro S174 eS174
                            have hI : IV S174 := by rw [eS174]; exact iv11_sI hI o_v0 (by decide) (nu_free (by decide))
                            have f0 := fr_I eS174 g0 f0 o_v0 (by decide)
                            have d_y2 := rd_Ij eS174 (by decide) d_y2
                            have d_x64 := rd_Ij eS174 (by decide) d_x64
                            have d_y13 := rd_Ik eS174 o_v0 o_a3 (by decide) d_y13
                            have d_x35 := rd_Ik eS174 o_v0 o_a3 (by decide) d_x35
                            have d_y96 := rd_Ik eS174 o_v0 o_a3 (by decide) d_y96
                            obtain ⟨y175, hy175⟩ : ∃ z : Int32, z = (0 : Int32) := ⟨_, rfl⟩
                            have d_y175 := rd_Is eS174 hy175
                            have ea3 := rf_I eS174 ea3
                            have ea66 := rf_I eS174 ea66
                            have ea69 := rf_I eS174 ea69
                            have ea94 := rf_I eS174 ea94
                            have ea98 := rf_I eS174 ea98
                            have ea105 := rf_I eS174 ea105
                            have l_a105 := ln_I eS174 l_a105
                            have l_a66 := ln_I eS174 l_a66
                            have l_a69 := ln_I eS174 l_a69
                            have l_a94 := ln_I eS174 l_a94
                            have l_a98 := ln_I eS174 l_a98
                            have g0 := gr_I eS174 g0
                            have o_a105 := ob_I eS174 o_a105
                            have o_a3 := ob_I eS174 o_a3
                            have o_a66 := ob_I eS174 o_a66
                            have o_a69 := ob_I eS174 o_a69
                            have o_a94 := ob_I eS174 o_a94
                            have o_a98 := ob_I eS174 o_a98
                            have o_v0 := ob_I eS174 o_v0
                            intro S176 eS176
                            have hI : IV S176 := by rw [eS176]; exact iv11_sI hI o_v0 (by decide) (nu_free (by decide))
                            have f0 := fr_I eS176 g0 f0 o_v0 (by decide)
                            have d_y2 := rd_Ij eS176 (by decide) d_y2
                            have d_x64 := rd_Ij eS176 (by decide) d_x64
                            have d_y13 := rd_Ik eS176 o_v0 o_a3 (by decide) d_y13
                            have d_x35 := rd_Ik eS176 o_v0 o_a3 (by decide) d_x35
                            have d_y96 := rd_Ik eS176 o_v0 o_a3 (by decide) d_y96
                            have d_y175 := rd_Ij eS176 (by decide) d_y175
                            obtain ⟨y177, hy177⟩ : ∃ z : Int32, z = (-1 : Int32) := ⟨_, rfl⟩
                            have d_y177 := rd_Is eS176 hy177
                            have ea3 := rf_I eS176 ea3
                            have ea66 := rf_I eS176 ea66
                            have ea69 := rf_I eS176 ea69
                            have ea94 := rf_I eS176 ea94
                            have ea98 := rf_I eS176 ea98
                            have ea105 := rf_I eS176 ea105
                            have l_a105 := ln_I eS176 l_a105
                            have l_a66 := ln_I eS176 l_a66
                            have l_a69 := ln_I eS176 l_a69
                            have l_a94 := ln_I eS176 l_a94
                            have l_a98 := ln_I eS176 l_a98
                            have g0 := gr_I eS176 g0
                            have o_a105 := ob_I eS176 o_a105
                            have o_a3 := ob_I eS176 o_a3
                            have o_a66 := ob_I eS176 o_a66
                            have o_a69 := ob_I eS176 o_a69
                            have o_a94 := ob_I eS176 o_a94
                            have o_a98 := ob_I eS176 o_a98
                            have o_v0 := ob_I eS176 o_v0
                            intro _
                            exact hq _ _ hI g0 f0
                        · refine ⟨o_v0, ?_⟩
                          refine u_X11_rainsIn ?_
                          refine u_X11_rainsIn_0 ?_
                          refine ⟨o_v0, ?_⟩
                          refine u_X11_hourOf ?_
                          refine u_X11_hourOf_0 ?_
                          refine ⟨o_v0, ?_⟩
                          refine ⟨a3, ea3, ?_⟩
                          refine ⟨o_a3, ?_⟩
                          intro x180 ex180
                          have r_x180 : (0 : Int32) ≤ x180 ∧ x180 ≤ (60 : Int32) := by rw [ex180]; exact nu 16 rfl hI o_a3
                          have d_x180 := ex180
                          have hh_x180 : 1 ≤ x180 := by rw [ex180]; exact ml_hour hI o_v0 ea3
                          refine ⟨(qm40 r_x12 r_y13 wh_x12 c14 c26 r_x35 c36 c46 c54 r_x64 q_x64 wh_x64 g_x67 g_x70 c71 c80 c93 g_x95 r_y96 gl_x95 dr_x99 c100 dr_x102 ex103 g_x106 ex107 dv_x107 dw_x107 c109 i1u114 c131 r_x180 hh_x180), ?_⟩
                          intro x181 ex181
                          have dv_x181 : 0 ≤ x181 ∧ x181 ≤ x103 := by rw [ex181]; exact dv0 (qm41 r_x12 r_y13 wh_x12 c14 c26 r_x35 c36 c46 c54 r_x64 q_x64 wh_x64 g_x67 g_x70 c71 c80 c93 g_x95 r_y96 gl_x95 dr_x99 c100 dr_x102 ex103 g_x106 ex107 dv_x107 dw_x107 c109 i1u114 c131 r_x180 hh_x180 ex181) (i32pos (qm42 r_x12 r_y13 wh_x12 c14 c26 r_x35 c36 c46 c54 r_x64 q_x64 wh_x64 g_x67 g_x70 c71 c80 c93 g_x95 r_y96 gl_x95 dr_x99 c100 dr_x102 ex103 g_x106 ex107 dv_x107 dw_x107 c109 i1u114 c131 r_x180 hh_x180 ex181))
                          intro _
                          refine ⟨a3, ea3, ?_⟩
                          refine ⟨o_a3, ?_⟩
                          intro x184 ex184
                          have r_x184 : (0 : Int32) ≤ x184 ∧ x184 ≤ (6 : Int32) := by rw [ex184]; exact nu 17 rfl hI o_a3
                          have d_x184 := ex184
                          refine ⟨fun c185 => ?_, fun c185 => ?_⟩
                          · intro _ _
                            refine ⟨fun c187 => ?_, fun c187 => absurd (show ¬ (0 : Int32) = 0 from c187) (by decide)⟩
                            refine u_X11_go_171 ?_
                            refine ⟨o_v0, ?_⟩
                            refine ⟨a98, ea98, ?_⟩
                            refine ⟨a3, ea3, ?_⟩
                            refine ⟨o_a3, ?_⟩
                            refine u_X10_ends ?_
                            refine u_X10_ends_0 ?_
                            refine ⟨fun c190 => ?_, fun c190 => ?_⟩
                            · refine ⟨o_a3, ?_⟩
                              obtain ⟨a191, ea191, o_a191, l_a191⟩ := shl 35 rfl hI o_a3
                              refine ⟨a191, ea191, ?_⟩
                              refine ⟨o_a191, ?_⟩
                              refine ⟨(vin l_a191 (m := 12) (by decide) (qm43 r_x12 r_y13 wh_x12 c14 c26 r_x35 c36 c46 c54 r_x64 q_x64 wh_x64 g_x67 g_x70 c71 c80 c93 g_x95 r_y96 gl_x95 dr_x99 c100 dr_x102 ex103 g_x106 ex107 dv_x107 dw_x107 c109 i1u114 c131 r_x180 hh_x180 ex181 dv_x181 r_x184 c185 c190)), ?_⟩
                              intro x192 ex192
                              have gy_x192 : 0 ≤ v1 ∧ v1 < fI S115 a3 3 := by rw [← d_x35]; exact (qm44 r_x12 r_y13 wh_x12 c14 c26 r_x35 c36 c46 c54 r_x64 q_x64 wh_x64 g_x67 g_x70 c71 c80 c93 g_x95 r_y96 gl_x95 dr_x99 c100 dr_x102 ex103 g_x106 ex107 dv_x107 dw_x107 c109 i1u114 c131 r_x180 hh_x180 ex181 dv_x181 r_x184 c185 c190)
                              have g_x192 : (0 : Int32) ≤ x192 ∧ x192 ≤ (7 : Int32) := by rw [ex192]; exact wg_at (ml_wg hI o_v0 ea3) 0 rfl gy_x192 ea191
                              have gl_x192 : x192 < y96 := by rw [ex192, d_y96]; exact wg_lt (ml_wg hI o_v0 ea3) 0 rfl (by decide) gy_x192 ea191
                              intro _
                              refine ⟨o_a98, ?_⟩
                              intro x194 ex194
                              have i195 : vp_in (0 : Int32) (hN _ a98) := (vin l_a98 (m := 7) (by decide) (qm45 r_x12 r_y13 wh_x12 c14 c26 r_x35 c36 c46 c54 r_x64 q_x64 wh_x64 g_x67 g_x70 c71 c80 c93 g_x95 r_y96 gl_x95 dr_x99 c100 dr_x102 ex103 g_x106 ex107 dv_x107 dw_x107 c109 i1u114 c131 r_x180 hh_x180 ex181 dv_x181 r_x184 c185 c190 g_x192 gl_x192 ex194))
                              refine ⟨i195, ?_⟩
                              intro S196 eS196
                              have hI : IV S196 := by rw [eS196]; exact iv11_aD hI (de_0 (by rw [ex194]; exact i2l_rng (lo := 0) (hi := 7) (qm46 r_x12 r_y13 wh_x12 c14 c26 r_x35 c36 c46 c54 r_x64 q_x64 wh_x64 g_x67 g_x70 c71 c80 c93 g_x95 r_y96 gl_x95 dr_x99 c100 dr_x102 ex103 g_x106 ex107 dv_x107 dw_x107 c109 i1u114 c131 r_x180 hh_x180 ex181 dv_x181 r_x184 c185 c190 g_x192 gl_x192 ex194)))
                              have f0 := fr_J eS196 f0
                              have d_y2 := rd_J eS196 d_y2
                              have d_x64 := rd_J eS196 d_x64
                              have d_y13 := rd_J eS196 d_y13
                              have d_x35 := rd_J eS196 d_x35
                              have d_y96 := rd_J eS196 d_y96
                              have d_x180 := rd_J eS196 d_x180
                              have d_x184 := rd_J eS196 d_x184
                              have ea3 := rf_J eS196 ea3
                              have ea66 := rf_J eS196 ea66
                              have ea69 := rf_J eS196 ea69
                              have ea94 := rf_J eS196 ea94
                              have ea98 := rf_J eS196 ea98
                              have ea105 := rf_J eS196 ea105
                              have ea191 := rf_J eS196 ea191
                              have l_a105 := ln_J eS196 l_a105
                              have l_a191 := ln_J eS196 l_a191
                              have l_a66 := ln_J eS196 l_a66
                              have l_a69 := ln_J eS196 l_a69
                              have l_a94 := ln_J eS196 l_a94
                              have l_a98 := ln_J eS196 l_a98
                              have g0 := gr_J eS196 g0
                              have o_a105 := ob_J eS196 o_a105
                              have o_a191 := ob_J eS196 o_a191
                              have o_a3 := ob_J eS196 o_a3
                              have o_a66 := ob_J eS196 o_a66
                              have o_a69 := ob_J eS196 o_a69
                              have o_a94 := ob_J eS196 o_a94
                              have o_a98 := ob_J eS196 o_a98
                              have o_v0 := ob_J eS196 o_v0
                              refine ⟨a98, ea98, ?_⟩
                              refine ⟨a3, ea3, ?_⟩
                              refine ⟨o_a3, ?_⟩
                              refine u_X10_minutes ?_
                              refine u_X10_minutes_0 ?_
                              refine ⟨o_a3, ?_⟩
                              refine ⟨a105, ea105, ?_⟩
                              refine ⟨o_a105, ?_⟩
                              refine ⟨(vin l_a105 (m := 12) (by decide) (qm47 r_x12 r_y13 wh_x12 c14 c26 r_x35 c36 c46 c54 r_x64 q_x64 wh_x64 g_x67 g_x70 c71 c80 c93 g_x95 r_y96 gl_x95 dr_x99 c100 dr_x102 ex103 g_x106 ex107 dv_x107 dw_x107 c109 i1u114 c131 r_x180 hh_x180 ex181 dv_x181 r_x184 c185 c190 g_x192 gl_x192 ex194)), ?_⟩
                              intro x200 ex200
                              have gy_x200 : 0 ≤ v1 ∧ v1 < fI S196 a3 3 := by rw [← d_x35]; exact (qm48 r_x12 r_y13 wh_x12 c14 c26 r_x35 c36 c46 c54 r_x64 q_x64 wh_x64 g_x67 g_x70 c71 c80 c93 g_x95 r_y96 gl_x95 dr_x99 c100 dr_x102 ex103 g_x106 ex107 dv_x107 dw_x107 c109 i1u114 c131 r_x180 hh_x180 ex181 dv_x181 r_x184 c185 c190 g_x192 gl_x192 ex194)
                              have g_x200 : (1 : Int32) ≤ x200 ∧ x200 ≤ (60 : Int32) := by rw [ex200]; exact wg_at (ml_wg hI o_v0 ea3) 2 rfl gy_x200 ea105
                              refine ⟨(qm49 r_x12 r_y13 wh_x12 c14 c26 r_x35 c36 c46 c54 r_x64 q_x64 wh_x64 g_x67 g_x70 c71 c80 c93 g_x95 r_y96 gl_x95 dr_x99 c100 dr_x102 ex103 g_x106 ex107 dv_x107 dw_x107 c109 i1u114 c131 r_x180 hh_x180 ex181 dv_x181 r_x184 c185 c190 g_x192 gl_x192 ex194), ?_⟩
                              intro x201 ex201
                              have dv_x201 : 0 ≤ x201 ∧ x201 ≤ ((x200 + v3) - (1 : Int32)) := by rw [ex201]; exact dv0 (qm50 r_x12 r_y13 wh_x12 c14 c26 r_x35 c36 c46 c54 r_x64 q_x64 wh_x64 g_x67 g_x70 c71 c80 c93 g_x95 r_y96 gl_x95 dr_x99 c100 dr_x102 ex103 g_x106 ex107 dv_x107 dw_x107 c109 i1u114 c131 r_x180 hh_x180 ex181 dv_x181 r_x184 c185 c190 g_x192 gl_x192 ex194 g_x200 ex201) (i32pos (qm51 r_x12 r_y13 wh_x12 c14 c26 r_x35 c36 c46 c54 r_x64 q_x64 wh_x64 g_x67 g_x70 c71 c80 c93 g_x95 r_y96 gl_x95 dr_x99 c100 dr_x102 ex103 g_x106 ex107 dv_x107 dw_x107 c109 i1u114 c131 r_x180 hh_x180 ex181 dv_x181 r_x184 c185 c190 g_x192 gl_x192 ex194 g_x200 ex201))
                              have dw_x201 : (1 : Int32) ≤ x201 := by rw [ex201]; exact dv1 (qm52 r_x12 r_y13 wh_x12 c14 c26 r_x35 c36 c46 c54 r_x64 q_x64 wh_x64 g_x67 g_x70 c71 c80 c93 g_x95 r_y96 gl_x95 dr_x99 c100 dr_x102 ex103 g_x106 ex107 dv_x107 dw_x107 c109 i1u114 c131 r_x180 hh_x180 ex181 dv_x181 r_x184 c185 c190 g_x192 gl_x192 ex194 g_x200 ex201) (qm53 r_x12 r_y13 wh_x12 c14 c26 r_x35 c36 c46 c54 r_x64 q_x64 wh_x64 g_x67 g_x70 c71 c80 c93 g_x95 r_y96 gl_x95 dr_x99 c100 dr_x102 ex103 g_x106 ex107 dv_x107 dw_x107 c109 i1u114 c131 r_x180 hh_x180 ex181 dv_x181 r_x184 c185 c190 g_x192 gl_x192 ex194 g_x200 ex201)
                              intro _
                              refine ⟨o_a98, ?_⟩
                              intro x203 ex203
                              have i204 : vp_in (1 : Int32) (hN _ a98) := (vin l_a98 (m := 7) (by decide) (qm54 r_x12 r_y13 wh_x12 c14 c26 r_x35 c36 c46 c54 r_x64 q_x64 wh_x64 g_x67 g_x70 c71 c80 c93 g_x95 r_y96 gl_x95 dr_x99 c100 dr_x102 ex103 g_x106 ex107 dv_x107 dw_x107 c109 i1u114 c131 r_x180 hh_x180 ex181 dv_x181 r_x184 c185 c190 g_x192 gl_x192 ex194 g_x200 ex201 dv_x201 dw_x201 ex203))
                              refine ⟨i204, ?_⟩
                              intro S205 eS205
                              have hI : IV S205 := by rw [eS205]; exact iv11_aD hI (de_1 (by rw [ex203]; exact i2l_rng (lo := 0) (hi := 999) (qm55 r_x12 r_y13 wh_x12 c14 c26 r_x35 c36 c46 c54 r_x64 q_x64 wh_x64 g_x67 g_x70 c71 c80 c93 g_x95 r_y96 gl_x95 dr_x99 c100 dr_x102 ex103 g_x106 ex107 dv_x107 dw_x107 c109 i1u114 c131 r_x180 hh_x180 ex181 dv_x181 r_x184 c185 c190 g_x192 gl_x192 ex194 g_x200 ex201 dv_x201 dw_x201 ex203)))
                              have f0 := fr_J eS205 f0
                              have d_y2 := rd_J eS205 d_y2
                              have d_x64 := rd_J eS205 d_x64
                              have d_y13 := rd_J eS205 d_y13
                              have d_x35 := rd_J eS205 d_x35
                              have d_y96 := rd_J eS205 d_y96
                              have d_x180 := rd_J eS205 d_x180
                              have d_x184 := rd_J eS205 d_x184
                              have ea3 := rf_J eS205 ea3
                              have ea66 := rf_J eS205 ea66
                              have ea69 := rf_J eS205 ea69
                              have ea94 := rf_J eS205 ea94
                              have ea98 := rf_J eS205 ea98
                              have ea105 := rf_J eS205 ea105
                              have ea191 := rf_J eS205 ea191
                              have l_a105 := ln_J eS205 l_a105
                              have l_a191 := ln_J eS205 l_a191
                              have l_a66 := ln_J eS205 l_a66
                              have l_a69 := ln_J eS205 l_a69
                              have l_a94 := ln_J eS205 l_a94
                              have l_a98 := ln_J eS205 l_a98
                              have g0 := gr_J eS205 g0
                              have o_a105 := ob_J eS205 o_a105
                              have o_a191 := ob_J eS205 o_a191
                              have o_a3 := ob_J eS205 o_a3
                              have o_a66 := ob_J eS205 o_a66
                              have o_a69 := ob_J eS205 o_a69
                              have o_a94 := ob_J eS205 o_a94
                              have o_a98 := ob_J eS205 o_a98
                              have o_v0 := ob_J eS205 o_v0
                              refine ⟨a98, ea98, ?_⟩
                              refine ⟨o_a98, ?_⟩
                              refine ⟨(vin l_a98 (m := 7) (by decide) (qm54 r_x12 r_y13 wh_x12 c14 c26 r_x35 c36 c46 c54 r_x64 q_x64 wh_x64 g_x67 g_x70 c71 c80 c93 g_x95 r_y96 gl_x95 dr_x99 c100 dr_x102 ex103 g_x106 ex107 dv_x107 dw_x107 c109 i1u114 c131 r_x180 hh_x180 ex181 dv_x181 r_x184 c185 c190 g_x192 gl_x192 ex194 g_x200 ex201 dv_x201 dw_x201 ex203)), ?_⟩
                              intro x207 ex207
                              have de_x207 := ml_de hI o_v0 (j := 21) (by decide) ea98 (1 : Int32).toNatClampNeg
                              rw [← ex207] at de_x207
                              have dr_x207 : (0 : Int64) ≤ x207 ∧ x207 ≤ (999 : Int64) := de_x207.2 (by decide)
                              refine u_X11_good ?_
                              refine u_X11_good_0 ?_
                              refine ⟨o_v0, ?_⟩
                              intro S208 eS208
                              have hI : IV S208 := by rw [eS208]; exact iv11_sI hI o_v0 (by decide) (nu_free (by decide))
                              have f0 := fr_I eS208 g0 f0 o_v0 (by decide)
                              have d_y2 := rd_Ij eS208 (by decide) d_y2
                              have d_x64 := rd_Ij eS208 (by decide) d_x64
                              have d_y13 := rd_Ik eS208 o_v0 o_a3 (by decide) d_y13
                              have d_x35 := rd_Ik eS208 o_v0 o_a3 (by decide) d_x35
                              have d_y96 := rd_Ik eS208 o_v0 o_a3 (by decide) d_y96
                              have d_x180 := rd_Ik eS208 o_v0 o_a3 (by decide) d_x180
                              have d_x184 := rd_Ik eS208 o_v0 o_a3 (by decide) d_x184
                              obtain ⟨y209, hy209⟩ : ∃ z : Int32, z = (0 : Int32) := ⟨_, rfl⟩
                              have d_y209 := rd_Is eS208 hy209
                              have ea3 := rf_I eS208 ea3
                              have ea66 := rf_I eS208 ea66
                              have ea69 := rf_I eS208 ea69
                              have ea94 := rf_I eS208 ea94
                              have ea98 := rf_I eS208 ea98
                              have ea105 := rf_I eS208 ea105
                              have ea191 := rf_I eS208 ea191
                              have l_a105 := ln_I eS208 l_a105
                              have l_a191 := ln_I eS208 l_a191
                              have l_a66 := ln_I eS208 l_a66
                              have l_a69 := ln_I eS208 l_a69
                              have l_a94 := ln_I eS208 l_a94
                              have l_a98 := ln_I eS208 l_a98
                              have g0 := gr_I eS208 g0
                              have o_a105 := ob_I eS208 o_a105
                              have o_a191 := ob_I eS208 o_a191
                              have o_a3 := ob_I eS208 o_a3
                              have o_a66 := ob_I eS208 o_a66
                              have o_a69 := ob_I eS208 o_a69
                              have o_a94 := ob_I eS208 o_a94
                              have o_a98 := ob_I eS208 o_a98
                              have o_v0 := ob_I eS208 o_v0
                              intro S210 eS210
                              have hI : IV S210 := by rw [eS210]; exact iv11_sI hI o_v0 (by decide) (nu_free (by decide))
                              have f0 := fr_I eS210 g0 f0 o_v0 (by decide)
                              have d_y2 := rd_Ij eS210 (by decide) d_y2
                              have d_x64 := rd_Ij eS210 (by decide) d_x64
                              have d_y13 := rd_Ik eS210 o_v0 o_a3 (by decide) d_y13
                              have d_x35 := rd_Ik eS210 o_v0 o_a3 (by decide) d_x35
                              have d_y96 := rd_Ik eS210 o_v0 o_a3 (by decide) d_y96
                              have d_x180 := rd_Ik eS210 o_v0 o_a3 (by decide) d_x180
                              have d_x184 := rd_Ik eS210 o_v0 o_a3 (by decide) d_x184
                              have d_y209 := rd_Ij eS210 (by decide) d_y209
                              obtain ⟨y211, hy211⟩ : ∃ z : Int32, z = (-1 : Int32) := ⟨_, rfl⟩
                              have d_y211 := rd_Is eS210 hy211
                              have ea3 := rf_I eS210 ea3
                              have ea66 := rf_I eS210 ea66
                              have ea69 := rf_I eS210 ea69
                              have ea94 := rf_I eS210 ea94
                              have ea98 := rf_I eS210 ea98
                              have ea105 := rf_I eS210 ea105
                              have ea191 := rf_I eS210 ea191
                              have l_a105 := ln_I eS210 l_a105
                              have l_a191 := ln_I eS210 l_a191
                              have l_a66 := ln_I eS210 l_a66
                              have l_a69 := ln_I eS210 l_a69
                              have l_a94 := ln_I eS210 l_a94
                              have l_a98 := ln_I eS210 l_a98
                              have g0 := gr_I eS210 g0
                              have o_a105 := ob_I eS210 o_a105
                              have o_a191 := ob_I eS210 o_a191
                              have o_a3 := ob_I eS210 o_a3
                              have o_a66 := ob_I eS210 o_a66
                              have o_a69 := ob_I eS210 o_a69
                              have o_a94 := ob_I eS210 o_a94
                              have o_a98 := ob_I eS210 o_a98
                              have o_v0 := ob_I eS210 o_v0
                              intro _
                              exact hq _ _ hI g0 f0
                            · refine ⟨o_a3, ?_⟩
                              refine ⟨a94, ea94, ?_⟩
                              refine ⟨o_a94, ?_⟩
                              refine ⟨(vin l_a94 (m := 12) (by decide) (qm56 r_x12 r_y13 wh_x12 c14 c26 r_x35 c36 c46 c54 r_x64 q_x64 wh_x64 g_x67 g_x70 c71 c80 c93 g_x95 r_y96 gl_x95 dr_x99 c100 dr_x102 ex103 g_x106 ex107 dv_x107 dw_x107 c109 i1u114 c131 r_x180 hh_x180 ex181 dv_x181 r_x184 c185 c190)), ?_⟩
                              intro x214 ex214
                              have gy_x214 : 0 ≤ v1 ∧ v1 < fI S115 a3 3 := by rw [← d_x35]; exact (qm57 r_x12 r_y13 wh_x12 c14 c26 r_x35 c36 c46 c54 r_x64 q_x64 wh_x64 g_x67 g_x70 c71 c80 c93 g_x95 r_y96 gl_x95 dr_x99 c100 dr_x102 ex103 g_x106 ex107 dv_x107 dw_x107 c109 i1u114 c131 r_x180 hh_x180 ex181 dv_x181 r_x184 c185 c190)
                              have g_x214 : (0 : Int32) ≤ x214 ∧ x214 ≤ (7 : Int32) := by rw [ex214]; exact wg_at (ml_wg hI o_v0 ea3) 1 rfl gy_x214 ea94
                              have gl_x214 : x214 < y96 := by rw [ex214, d_y96]; exact wg_lt (ml_wg hI o_v0 ea3) 1 rfl (by decide) gy_x214 ea94
                              intro _
                              refine ⟨o_a98, ?_⟩
                              intro x216 ex216
                              have i217 : vp_in (0 : Int32) (hN _ a98) := (vin l_a98 (m := 7) (by decide) (qm58 r_x12 r_y13 wh_x12 c14 c26 r_x35 c36 c46 c54 r_x64 q_x64 wh_x64 g_x67 g_x70 c71 c80 c93 g_x95 r_y96 gl_x95 dr_x99 c100 dr_x102 ex103 g_x106 ex107 dv_x107 dw_x107 c109 i1u114 c131 r_x180 hh_x180 ex181 dv_x181 r_x184 c185 c190 g_x214 gl_x214 ex216))
                              refine ⟨i217, ?_⟩
                              intro S218 eS218
                              have hI : IV S218 := by rw [eS218]; exact iv11_aD hI (de_0 (by rw [ex216]; exact i2l_rng (lo := 0) (hi := 7) (qm59 r_x12 r_y13 wh_x12 c14 c26 r_x35 c36 c46 c54 r_x64 q_x64 wh_x64 g_x67 g_x70 c71 c80 c93 g_x95 r_y96 gl_x95 dr_x99 c100 dr_x102 ex103 g_x106 ex107 dv_x107 dw_x107 c109 i1u114 c131 r_x180 hh_x180 ex181 dv_x181 r_x184 c185 c190 g_x214 gl_x214 ex216)))
                              have f0 := fr_J eS218 f0
                              have d_y2 := rd_J eS218 d_y2
                              have d_x64 := rd_J eS218 d_x64
                              have d_y13 := rd_J eS218 d_y13
                              have d_x35 := rd_J eS218 d_x35
                              have d_y96 := rd_J eS218 d_y96
                              have d_x180 := rd_J eS218 d_x180
                              have d_x184 := rd_J eS218 d_x184
                              have ea3 := rf_J eS218 ea3
                              have ea66 := rf_J eS218 ea66
                              have ea69 := rf_J eS218 ea69
                              have ea94 := rf_J eS218 ea94
                              have ea98 := rf_J eS218 ea98
                              have ea105 := rf_J eS218 ea105
                              have l_a105 := ln_J eS218 l_a105
                              have l_a66 := ln_J eS218 l_a66
                              have l_a69 := ln_J eS218 l_a69
                              have l_a94 := ln_J eS218 l_a94
                              have l_a98 := ln_J eS218 l_a98
                              have g0 := gr_J eS218 g0
                              have o_a105 := ob_J eS218 o_a105
                              have o_a3 := ob_J eS218 o_a3
                              have o_a66 := ob_J eS218 o_a66
                              have o_a69 := ob_J eS218 o_a69
                              have o_a94 := ob_J eS218 o_a94
                              have o_a98 := ob_J eS218 o_a98
                              have o_v0 := ob_J eS218 o_v0
                              refine ⟨a98, ea98, ?_⟩
                              refine ⟨a3, ea3, ?_⟩
                              refine ⟨o_a3, ?_⟩
                              refine u_X10_minutes ?_
                              refine u_X10_minutes_0 ?_
                              refine ⟨o_a3, ?_⟩
                              refine ⟨a105, ea105, ?_⟩
                              refine ⟨o_a105, ?_⟩
                              refine ⟨(vin l_a105 (m := 12) (by decide) (qm60 r_x12 r_y13 wh_x12 c14 c26 r_x35 c36 c46 c54 r_x64 q_x64 wh_x64 g_x67 g_x70 c71 c80 c93 g_x95 r_y96 gl_x95 dr_x99 c100 dr_x102 ex103 g_x106 ex107 dv_x107 dw_x107 c109 i1u114 c131 r_x180 hh_x180 ex181 dv_x181 r_x184 c185 c190 g_x214 gl_x214 ex216)), ?_⟩
                              intro x222 ex222
                              have gy_x222 : 0 ≤ v1 ∧ v1 < fI S218 a3 3 := by rw [← d_x35]; exact (qm61 r_x12 r_y13 wh_x12 c14 c26 r_x35 c36 c46 c54 r_x64 q_x64 wh_x64 g_x67 g_x70 c71 c80 c93 g_x95 r_y96 gl_x95 dr_x99 c100 dr_x102 ex103 g_x106 ex107 dv_x107 dw_x107 c109 i1u114 c131 r_x180 hh_x180 ex181 dv_x181 r_x184 c185 c190 g_x214 gl_x214 ex216)
                              have g_x222 : (1 : Int32) ≤ x222 ∧ x222 ≤ (60 : Int32) := by rw [ex222]; exact wg_at (ml_wg hI o_v0 ea3) 2 rfl gy_x222 ea105
                              refine ⟨(qm62 r_x12 r_y13 wh_x12 c14 c26 r_x35 c36 c46 c54 r_x64 q_x64 wh_x64 g_x67 g_x70 c71 c80 c93 g_x95 r_y96 gl_x95 dr_x99 c100 dr_x102 ex103 g_x106 ex107 dv_x107 dw_x107 c109 i1u114 c131 r_x180 hh_x180 ex181 dv_x181 r_x184 c185 c190 g_x214 gl_x214 ex216), ?_⟩
                              intro x223 ex223
                              have dv_x223 : 0 ≤ x223 ∧ x223 ≤ ((x222 + v3) - (1 : Int32)) := by rw [ex223]; exact dv0 (qm63 r_x12 r_y13 wh_x12 c14 c26 r_x35 c36 c46 c54 r_x64 q_x64 wh_x64 g_x67 g_x70 c71 c80 c93 g_x95 r_y96 gl_x95 dr_x99 c100 dr_x102 ex103 g_x106 ex107 dv_x107 dw_x107 c109 i1u114 c131 r_x180 hh_x180 ex181 dv_x181 r_x184 c185 c190 g_x214 gl_x214 ex216 g_x222 ex223) (i32pos (qm64 r_x12 r_y13 wh_x12 c14 c26 r_x35 c36 c46 c54 r_x64 q_x64 wh_x64 g_x67 g_x70 c71 c80 c93 g_x95 r_y96 gl_x95 dr_x99 c100 dr_x102 ex103 g_x106 ex107 dv_x107 dw_x107 c109 i1u114 c131 r_x180 hh_x180 ex181 dv_x181 r_x184 c185 c190 g_x214 gl_x214 ex216 g_x222 ex223))
                              have dw_x223 : (1 : Int32) ≤ x223 := by rw [ex223]; exact dv1 (qm65 r_x12 r_y13 wh_x12 c14 c26 r_x35 c36 c46 c54 r_x64 q_x64 wh_x64 g_x67 g_x70 c71 c80 c93 g_x95 r_y96 gl_x95 dr_x99 c100 dr_x102 ex103 g_x106 ex107 dv_x107 dw_x107 c109 i1u114 c131 r_x180 hh_x180 ex181 dv_x181 r_x184 c185 c190 g_x214 gl_x214 ex216 g_x222 ex223) (qm66 r_x12 r_y13 wh_x12 c14 c26 r_x35 c36 c46 c54 r_x64 q_x64 wh_x64 g_x67 g_x70 c71 c80 c93 g_x95 r_y96 gl_x95 dr_x99 c100 dr_x102 ex103 g_x106 ex107 dv_x107 dw_x107 c109 i1u114 c131 r_x180 hh_x180 ex181 dv_x181 r_x184 c185 c190 g_x214 gl_x214 ex216 g_x222 ex223)
                              intro _
                              refine ⟨o_a98, ?_⟩
                              intro x225 ex225
                              have i226 : vp_in (1 : Int32) (hN _ a98) := (vin l_a98 (m := 7) (by decide) (qm67 r_x12 r_y13 wh_x12 c14 c26 r_x35 c36 c46 c54 r_x64 q_x64 wh_x64 g_x67 g_x70 c71 c80 c93 g_x95 r_y96 gl_x95 dr_x99 c100 dr_x102 ex103 g_x106 ex107 dv_x107 dw_x107 c109 i1u114 c131 r_x180 hh_x180 ex181 dv_x181 r_x184 c185 c190 g_x214 gl_x214 ex216 g_x222 ex223 dv_x223 dw_x223 ex225))
                              refine ⟨i226, ?_⟩
                              intro S227 eS227
                              have hI : IV S227 := by rw [eS227]; exact iv11_aD hI (de_1 (by rw [ex225]; exact i2l_rng (lo := 0) (hi := 999) (qm68 r_x12 r_y13 wh_x12 c14 c26 r_x35 c36 c46 c54 r_x64 q_x64 wh_x64 g_x67 g_x70 c71 c80 c93 g_x95 r_y96 gl_x95 dr_x99 c100 dr_x102 ex103 g_x106 ex107 dv_x107 dw_x107 c109 i1u114 c131 r_x180 hh_x180 ex181 dv_x181 r_x184 c185 c190 g_x214 gl_x214 ex216 g_x222 ex223 dv_x223 dw_x223 ex225)))
                              have f0 := fr_J eS227 f0
                              have d_y2 := rd_J eS227 d_y2
                              have d_x64 := rd_J eS227 d_x64
                              have d_y13 := rd_J eS227 d_y13
                              have d_x35 := rd_J eS227 d_x35
                              have d_y96 := rd_J eS227 d_y96
                              have d_x180 := rd_J eS227 d_x180
                              have d_x184 := rd_J eS227 d_x184
                              have ea3 := rf_J eS227 ea3
                              have ea66 := rf_J eS227 ea66
                              have ea69 := rf_J eS227 ea69
                              have ea94 := rf_J eS227 ea94
                              have ea98 := rf_J eS227 ea98
                              have ea105 := rf_J eS227 ea105
                              have l_a105 := ln_J eS227 l_a105
                              have l_a66 := ln_J eS227 l_a66
                              have l_a69 := ln_J eS227 l_a69
                              have l_a94 := ln_J eS227 l_a94
                              have l_a98 := ln_J eS227 l_a98
                              have g0 := gr_J eS227 g0
                              have o_a105 := ob_J eS227 o_a105
                              have o_a3 := ob_J eS227 o_a3
                              have o_a66 := ob_J eS227 o_a66
                              have o_a69 := ob_J eS227 o_a69
                              have o_a94 := ob_J eS227 o_a94
                              have o_a98 := ob_J eS227 o_a98
                              have o_v0 := ob_J eS227 o_v0
                              refine ⟨a98, ea98, ?_⟩
                              refine ⟨o_a98, ?_⟩
                              refine ⟨(vin l_a98 (m := 7) (by decide) (qm67 r_x12 r_y13 wh_x12 c14 c26 r_x35 c36 c46 c54 r_x64 q_x64 wh_x64 g_x67 g_x70 c71 c80 c93 g_x95 r_y96 gl_x95 dr_x99 c100 dr_x102 ex103 g_x106 ex107 dv_x107 dw_x107 c109 i1u114 c131 r_x180 hh_x180 ex181 dv_x181 r_x184 c185 c190 g_x214 gl_x214 ex216 g_x222 ex223 dv_x223 dw_x223 ex225)), ?_⟩
                              intro x229 ex229
                              have de_x229 := ml_de hI o_v0 (j := 21) (by decide) ea98 (1 : Int32).toNatClampNeg
                              rw [← ex229] at de_x229
                              have dr_x229 : (0 : Int64) ≤ x229 ∧ x229 ≤ (999 : Int64) := de_x229.2 (by decide)
                              refine u_X11_good ?_
                              refine u_X11_good_0 ?_
                              refine ⟨o_v0, ?_⟩
                              intro S230 eS230
                              have hI : IV S230 := by rw [eS230]; exact iv11_sI hI o_v0 (by decide) (nu_free (by decide))
                              have f0 := fr_I eS230 g0 f0 o_v0 (by decide)
                              have d_y2 := rd_Ij eS230 (by decide) d_y2
                              have d_x64 := rd_Ij eS230 (by decide) d_x64
                              have d_y13 := rd_Ik eS230 o_v0 o_a3 (by decide) d_y13
                              have d_x35 := rd_Ik eS230 o_v0 o_a3 (by decide) d_x35
                              have d_y96 := rd_Ik eS230 o_v0 o_a3 (by decide) d_y96
                              have d_x180 := rd_Ik eS230 o_v0 o_a3 (by decide) d_x180
                              have d_x184 := rd_Ik eS230 o_v0 o_a3 (by decide) d_x184
                              obtain ⟨y231, hy231⟩ : ∃ z : Int32, z = (0 : Int32) := ⟨_, rfl⟩
                              have d_y231 := rd_Is eS230 hy231
                              have ea3 := rf_I eS230 ea3
                              have ea66 := rf_I eS230 ea66
                              have ea69 := rf_I eS230 ea69
                              have ea94 := rf_I eS230 ea94
                              have ea98 := rf_I eS230 ea98
                              have ea105 := rf_I eS230 ea105
                              have l_a105 := ln_I eS230 l_a105
                              have l_a66 := ln_I eS230 l_a66
                              have l_a69 := ln_I eS230 l_a69
                              have l_a94 := ln_I eS230 l_a94
                              have l_a98 := ln_I eS230 l_a98
                              have g0 := gr_I eS230 g0
                              have o_a105 := ob_I eS230 o_a105
                              have o_a3 := ob_I eS230 o_a3
                              have o_a66 := ob_I eS230 o_a66
                              have o_a69 := ob_I eS230 o_a69
                              have o_a94 := ob_I eS230 o_a94
                              have o_a98 := ob_I eS230 o_a98
                              have o_v0 := ob_I eS230 o_v0
                              intro S232 eS232
                              have hI : IV S232 := by rw [eS232]; exact iv11_sI hI o_v0 (by decide) (nu_free (by decide))
                              have f0 := fr_I eS232 g0 f0 o_v0 (by decide)
                              have d_y2 := rd_Ij eS232 (by decide) d_y2
                              have d_x64 := rd_Ij eS232 (by decide) d_x64
                              have d_y13 := rd_Ik eS232 o_v0 o_a3 (by decide) d_y13
                              have d_x35 := rd_Ik eS232 o_v0 o_a3 (by decide) d_x35
                              have d_y96 := rd_Ik eS232 o_v0 o_a3 (by decide) d_y96
                              have d_x180 := rd_Ik eS232 o_v0 o_a3 (by decide) d_x180
                              have d_x184 := rd_Ik eS232 o_v0 o_a3 (by decide) d_x184
                              have d_y231 := rd_Ij eS232 (by decide) d_y231
                              obtain ⟨y233, hy233⟩ : ∃ z : Int32, z = (-1 : Int32) := ⟨_, rfl⟩
                              have d_y233 := rd_Is eS232 hy233
                              have ea3 := rf_I eS232 ea3
                              have ea66 := rf_I eS232 ea66
                              have ea69 := rf_I eS232 ea69
                              have ea94 := rf_I eS232 ea94
                              have ea98 := rf_I eS232 ea98
                              have ea105 := rf_I eS232 ea105
                              have l_a105 := ln_I eS232 l_a105
                              have l_a66 := ln_I eS232 l_a66
                              have l_a69 := ln_I eS232 l_a69
                              have l_a94 := ln_I eS232 l_a94
                              have l_a98 := ln_I eS232 l_a98
                              have g0 := gr_I eS232 g0
                              have o_a105 := ob_I eS232 o_a105
                              have o_a3 := ob_I eS232 o_a3
                              have o_a66 := ob_I eS232 o_a66
                              have o_a69 := ob_I eS232 o_a69
                              have o_a94 := ob_I eS232 o_a94
                              have o_a98 := ob_I eS232 o_a98
                              have o_v0 := ob_I eS232 o_v0
                              intro _
                              exact hq _ _ hI g0 f0
                          · intro x235 ex235
                            have d_x235 := ex235
                            refine ⟨fun c236 => ?_, fun c236 => ?_⟩
                            · intro _ _
                              refine ⟨fun c238 => ?_, fun c238 => absurd (show ¬ (0 : Int32) = 0 from c238) (by decide)⟩
                              refine u_X11_go_171 ?_
                              refine ⟨o_v0, ?_⟩
                              refine ⟨a98, ea98, ?_⟩
                              refine ⟨a3, ea3, ?_⟩
                              refine ⟨o_a3, ?_⟩
                              refine u_X10_ends ?_
                              refine u_X10_ends_0 ?_
                              refine ⟨fun c241 => ?_, fun c241 => ?_⟩
                              · refine ⟨o_a3, ?_⟩
                                obtain ⟨a242, ea242, o_a242, l_a242⟩ := shl 35 rfl hI o_a3
                                refine ⟨a242, ea242, ?_⟩
                                refine ⟨o_a242, ?_⟩
                                refine ⟨(vin l_a242 (m := 12) (by decide) (qm69 r_x12 r_y13 wh_x12 c14 c26 r_x35 c36 c46 c54 r_x64 q_x64 wh_x64 g_x67 g_x70 c71 c80 c93 g_x95 r_y96 gl_x95 dr_x99 c100 dr_x102 ex103 g_x106 ex107 dv_x107 dw_x107 c109 i1u114 c131 r_x180 hh_x180 ex181 dv_x181 r_x184 c185 c236 c241)), ?_⟩
                                intro x243 ex243
                                have gy_x243 : 0 ≤ v1 ∧ v1 < fI S115 a3 3 := by rw [← d_x35]; exact (qm70 r_x12 r_y13 wh_x12 c14 c26 r_x35 c36 c46 c54 r_x64 q_x64 wh_x64 g_x67 g_x70 c71 c80 c93 g_x95 r_y96 gl_x95 dr_x99 c100 dr_x102 ex103 g_x106 ex107 dv_x107 dw_x107 c109 i1u114 c131 r_x180 hh_x180 ex181 dv_x181 r_x184 c185 c236 c241)
                                have g_x243 : (0 : Int32) ≤ x243 ∧ x243 ≤ (7 : Int32) := by rw [ex243]; exact wg_at (ml_wg hI o_v0 ea3) 0 rfl gy_x243 ea242
                                have gl_x243 : x243 < y96 := by rw [ex243, d_y96]; exact wg_lt (ml_wg hI o_v0 ea3) 0 rfl (by decide) gy_x243 ea242
                                intro _
                                refine ⟨o_a98, ?_⟩
                                intro x245 ex245
                                have i246 : vp_in (0 : Int32) (hN _ a98) := (vin l_a98 (m := 7) (by decide) (qm71 r_x12 r_y13 wh_x12 c14 c26 r_x35 c36 c46 c54 r_x64 q_x64 wh_x64 g_x67 g_x70 c71 c80 c93 g_x95 r_y96 gl_x95 dr_x99 c100 dr_x102 ex103 g_x106 ex107 dv_x107 dw_x107 c109 i1u114 c131 r_x180 hh_x180 ex181 dv_x181 r_x184 c185 c236 c241 g_x243 gl_x243 ex245))
                                refine ⟨i246, ?_⟩
                                intro S247 eS247
                                have hI : IV S247 := by rw [eS247]; exact iv11_aD hI (de_0 (by rw [ex245]; exact i2l_rng (lo := 0) (hi := 7) (qm72 r_x12 r_y13 wh_x12 c14 c26 r_x35 c36 c46 c54 r_x64 q_x64 wh_x64 g_x67 g_x70 c71 c80 c93 g_x95 r_y96 gl_x95 dr_x99 c100 dr_x102 ex103 g_x106 ex107 dv_x107 dw_x107 c109 i1u114 c131 r_x180 hh_x180 ex181 dv_x181 r_x184 c185 c236 c241 g_x243 gl_x243 ex245)))
                                have f0 := fr_J eS247 f0
                                have d_y2 := rd_J eS247 d_y2
                                have d_x64 := rd_J eS247 d_x64
                                have d_y13 := rd_J eS247 d_y13
                                have d_x35 := rd_J eS247 d_x35
                                have d_y96 := rd_J eS247 d_y96
                                have d_x180 := rd_J eS247 d_x180
                                have d_x184 := rd_J eS247 d_x184
                                have d_x235 := rd_J eS247 d_x235
                                have ea3 := rf_J eS247 ea3
                                have ea66 := rf_J eS247 ea66
                                have ea69 := rf_J eS247 ea69
                                have ea94 := rf_J eS247 ea94
                                have ea98 := rf_J eS247 ea98
                                have ea105 := rf_J eS247 ea105
                                have ea242 := rf_J eS247 ea242
                                have l_a105 := ln_J eS247 l_a105
                                have l_a242 := ln_J eS247 l_a242
                                have l_a66 := ln_J eS247 l_a66
                                have l_a69 := ln_J eS247 l_a69
                                have l_a94 := ln_J eS247 l_a94
                                have l_a98 := ln_J eS247 l_a98
                                have g0 := gr_J eS247 g0
                                have o_a105 := ob_J eS247 o_a105
                                have o_a242 := ob_J eS247 o_a242
                                have o_a3 := ob_J eS247 o_a3
                                have o_a66 := ob_J eS247 o_a66
                                have o_a69 := ob_J eS247 o_a69
                                have o_a94 := ob_J eS247 o_a94
                                have o_a98 := ob_J eS247 o_a98
                                have o_v0 := ob_J eS247 o_v0
                                refine ⟨a98, ea98, ?_⟩
                                refine ⟨a3, ea3, ?_⟩
                                refine ⟨o_a3, ?_⟩
                                refine u_X10_minutes ?_
                                refine u_X10_minutes_0 ?_
                                refine ⟨o_a3, ?_⟩
                                refine ⟨a105, ea105, ?_⟩
                                refine ⟨o_a105, ?_⟩
                                refine ⟨(vin l_a105 (m := 12) (by decide) (qm73 r_x12 r_y13 wh_x12 c14 c26 r_x35 c36 c46 c54 r_x64 q_x64 wh_x64 g_x67 g_x70 c71 c80 c93 g_x95 r_y96 gl_x95 dr_x99 c100 dr_x102 ex103 g_x106 ex107 dv_x107 dw_x107 c109 i1u114 c131 r_x180 hh_x180 ex181 dv_x181 r_x184 c185 c236 c241 g_x243 gl_x243 ex245)), ?_⟩
                                intro x251 ex251
                                have gy_x251 : 0 ≤ v1 ∧ v1 < fI S247 a3 3 := by rw [← d_x35]; exact (qm74 r_x12 r_y13 wh_x12 c14 c26 r_x35 c36 c46 c54 r_x64 q_x64 wh_x64 g_x67 g_x70 c71 c80 c93 g_x95 r_y96 gl_x95 dr_x99 c100 dr_x102 ex103 g_x106 ex107 dv_x107 dw_x107 c109 i1u114 c131 r_x180 hh_x180 ex181 dv_x181 r_x184 c185 c236 c241 g_x243 gl_x243 ex245)
                                have g_x251 : (1 : Int32) ≤ x251 ∧ x251 ≤ (60 : Int32) := by rw [ex251]; exact wg_at (ml_wg hI o_v0 ea3) 2 rfl gy_x251 ea105
                                refine ⟨(qm75 r_x12 r_y13 wh_x12 c14 c26 r_x35 c36 c46 c54 r_x64 q_x64 wh_x64 g_x67 g_x70 c71 c80 c93 g_x95 r_y96 gl_x95 dr_x99 c100 dr_x102 ex103 g_x106 ex107 dv_x107 dw_x107 c109 i1u114 c131 r_x180 hh_x180 ex181 dv_x181 r_x184 c185 c236 c241 g_x243 gl_x243 ex245), ?_⟩
                                intro x252 ex252
                                have dv_x252 : 0 ≤ x252 ∧ x252 ≤ ((x251 + v3) - (1 : Int32)) := by rw [ex252]; exact dv0 (qm76 r_x12 r_y13 wh_x12 c14 c26 r_x35 c36 c46 c54 r_x64 q_x64 wh_x64 g_x67 g_x70 c71 c80 c93 g_x95 r_y96 gl_x95 dr_x99 c100 dr_x102 ex103 g_x106 ex107 dv_x107 dw_x107 c109 i1u114 c131 r_x180 hh_x180 ex181 dv_x181 r_x184 c185 c236 c241 g_x243 gl_x243 ex245 g_x251 ex252) (i32pos (qm77 r_x12 r_y13 wh_x12 c14 c26 r_x35 c36 c46 c54 r_x64 q_x64 wh_x64 g_x67 g_x70 c71 c80 c93 g_x95 r_y96 gl_x95 dr_x99 c100 dr_x102 ex103 g_x106 ex107 dv_x107 dw_x107 c109 i1u114 c131 r_x180 hh_x180 ex181 dv_x181 r_x184 c185 c236 c241 g_x243 gl_x243 ex245 g_x251 ex252))
                                have dw_x252 : (1 : Int32) ≤ x252 := by rw [ex252]; exact dv1 (qm78 r_x12 r_y13 wh_x12 c14 c26 r_x35 c36 c46 c54 r_x64 q_x64 wh_x64 g_x67 g_x70 c71 c80 c93 g_x95 r_y96 gl_x95 dr_x99 c100 dr_x102 ex103 g_x106 ex107 dv_x107 dw_x107 c109 i1u114 c131 r_x180 hh_x180 ex181 dv_x181 r_x184 c185 c236 c241 g_x243 gl_x243 ex245 g_x251 ex252) (qm79 r_x12 r_y13 wh_x12 c14 c26 r_x35 c36 c46 c54 r_x64 q_x64 wh_x64 g_x67 g_x70 c71 c80 c93 g_x95 r_y96 gl_x95 dr_x99 c100 dr_x102 ex103 g_x106 ex107 dv_x107 dw_x107 c109 i1u114 c131 r_x180 hh_x180 ex181 dv_x181 r_x184 c185 c236 c241 g_x243 gl_x243 ex245 g_x251 ex252)
                                intro _
                                refine ⟨o_a98, ?_⟩
                                intro x254 ex254
                                have i255 : vp_in (1 : Int32) (hN _ a98) := (vin l_a98 (m := 7) (by decide) (qm80 r_x12 r_y13 wh_x12 c14 c26 r_x35 c36 c46 c54 r_x64 q_x64 wh_x64 g_x67 g_x70 c71 c80 c93 g_x95 r_y96 gl_x95 dr_x99 c100 dr_x102 ex103 g_x106 ex107 dv_x107 dw_x107 c109 i1u114 c131 r_x180 hh_x180 ex181 dv_x181 r_x184 c185 c236 c241 g_x243 gl_x243 ex245 g_x251 ex252 dv_x252 dw_x252 ex254))
                                refine ⟨i255, ?_⟩
                                intro S256 eS256
                                have hI : IV S256 := by rw [eS256]; exact iv11_aD hI (de_1 (by rw [ex254]; exact i2l_rng (lo := 0) (hi := 999) (qm81 r_x12 r_y13 wh_x12 c14 c26 r_x35 c36 c46 c54 r_x64 q_x64 wh_x64 g_x67 g_x70 c71 c80 c93 g_x95 r_y96 gl_x95 dr_x99 c100 dr_x102 ex103 g_x106 ex107 dv_x107 dw_x107 c109 i1u114 c131 r_x180 hh_x180 ex181 dv_x181 r_x184 c185 c236 c241 g_x243 gl_x243 ex245 g_x251 ex252 dv_x252 dw_x252 ex254)))
                                have f0 := fr_J eS256 f0
                                have d_y2 := rd_J eS256 d_y2
                                have d_x64 := rd_J eS256 d_x64
                                have d_y13 := rd_J eS256 d_y13
                                have d_x35 := rd_J eS256 d_x35
                                have d_y96 := rd_J eS256 d_y96
                                have d_x180 := rd_J eS256 d_x180
                                have d_x184 := rd_J eS256 d_x184
                                have d_x235 := rd_J eS256 d_x235
                                have ea3 := rf_J eS256 ea3
                                have ea66 := rf_J eS256 ea66
                                have ea69 := rf_J eS256 ea69
                                have ea94 := rf_J eS256 ea94
                                have ea98 := rf_J eS256 ea98
                                have ea105 := rf_J eS256 ea105
                                have ea242 := rf_J eS256 ea242
                                have l_a105 := ln_J eS256 l_a105
                                have l_a242 := ln_J eS256 l_a242
                                have l_a66 := ln_J eS256 l_a66
                                have l_a69 := ln_J eS256 l_a69
                                have l_a94 := ln_J eS256 l_a94
                                have l_a98 := ln_J eS256 l_a98
                                have g0 := gr_J eS256 g0
                                have o_a105 := ob_J eS256 o_a105
                                have o_a242 := ob_J eS256 o_a242
                                have o_a3 := ob_J eS256 o_a3
                                have o_a66 := ob_J eS256 o_a66
                                have o_a69 := ob_J eS256 o_a69
                                have o_a94 := ob_J eS256 o_a94
                                have o_a98 := ob_J eS256 o_a98
                                have o_v0 := ob_J eS256 o_v0
                                refine ⟨a98, ea98, ?_⟩
                                refine ⟨o_a98, ?_⟩
                                refine ⟨(vin l_a98 (m := 7) (by decide) (qm80 r_x12 r_y13 wh_x12 c14 c26 r_x35 c36 c46 c54 r_x64 q_x64 wh_x64 g_x67 g_x70 c71 c80 c93 g_x95 r_y96 gl_x95 dr_x99 c100 dr_x102 ex103 g_x106 ex107 dv_x107 dw_x107 c109 i1u114 c131 r_x180 hh_x180 ex181 dv_x181 r_x184 c185 c236 c241 g_x243 gl_x243 ex245 g_x251 ex252 dv_x252 dw_x252 ex254)), ?_⟩
                                intro x258 ex258
                                have de_x258 := ml_de hI o_v0 (j := 21) (by decide) ea98 (1 : Int32).toNatClampNeg
                                rw [← ex258] at de_x258
                                have dr_x258 : (0 : Int64) ≤ x258 ∧ x258 ≤ (999 : Int64) := de_x258.2 (by decide)
                                refine u_X11_good ?_
                                refine u_X11_good_0 ?_
                                refine ⟨o_v0, ?_⟩
                                intro S259 eS259
                                have hI : IV S259 := by rw [eS259]; exact iv11_sI hI o_v0 (by decide) (nu_free (by decide))
                                have f0 := fr_I eS259 g0 f0 o_v0 (by decide)
                                have d_y2 := rd_Ij eS259 (by decide) d_y2
                                have d_x64 := rd_Ij eS259 (by decide) d_x64
                                have d_y13 := rd_Ik eS259 o_v0 o_a3 (by decide) d_y13
                                have d_x35 := rd_Ik eS259 o_v0 o_a3 (by decide) d_x35
                                have d_y96 := rd_Ik eS259 o_v0 o_a3 (by decide) d_y96
                                have d_x180 := rd_Ik eS259 o_v0 o_a3 (by decide) d_x180
                                have d_x184 := rd_Ik eS259 o_v0 o_a3 (by decide) d_x184
                                have d_x235 := rd_Ij eS259 (by decide) d_x235
                                obtain ⟨y260, hy260⟩ : ∃ z : Int32, z = (0 : Int32) := ⟨_, rfl⟩
                                have d_y260 := rd_Is eS259 hy260
                                have ea3 := rf_I eS259 ea3
                                have ea66 := rf_I eS259 ea66
                                have ea69 := rf_I eS259 ea69
                                have ea94 := rf_I eS259 ea94
                                have ea98 := rf_I eS259 ea98
                                have ea105 := rf_I eS259 ea105
                                have ea242 := rf_I eS259 ea242
                                have l_a105 := ln_I eS259 l_a105
                                have l_a242 := ln_I eS259 l_a242
                                have l_a66 := ln_I eS259 l_a66
                                have l_a69 := ln_I eS259 l_a69
                                have l_a94 := ln_I eS259 l_a94
                                have l_a98 := ln_I eS259 l_a98
                                have g0 := gr_I eS259 g0
                                have o_a105 := ob_I eS259 o_a105
                                have o_a242 := ob_I eS259 o_a242
                                have o_a3 := ob_I eS259 o_a3
                                have o_a66 := ob_I eS259 o_a66
                                have o_a69 := ob_I eS259 o_a69
                                have o_a94 := ob_I eS259 o_a94
                                have o_a98 := ob_I eS259 o_a98
                                have o_v0 := ob_I eS259 o_v0
                                intro S261 eS261
                                have hI : IV S261 := by rw [eS261]; exact iv11_sI hI o_v0 (by decide) (nu_free (by decide))
                                have f0 := fr_I eS261 g0 f0 o_v0 (by decide)
                                have d_y2 := rd_Ij eS261 (by decide) d_y2
                                have d_x64 := rd_Ij eS261 (by decide) d_x64
                                have d_y13 := rd_Ik eS261 o_v0 o_a3 (by decide) d_y13
                                have d_x35 := rd_Ik eS261 o_v0 o_a3 (by decide) d_x35
                                have d_y96 := rd_Ik eS261 o_v0 o_a3 (by decide) d_y96
                                have d_x180 := rd_Ik eS261 o_v0 o_a3 (by decide) d_x180
                                have d_x184 := rd_Ik eS261 o_v0 o_a3 (by decide) d_x184
                                have d_x235 := rd_Ij eS261 (by decide) d_x235
                                have d_y260 := rd_Ij eS261 (by decide) d_y260
                                obtain ⟨y262, hy262⟩ : ∃ z : Int32, z = (-1 : Int32) := ⟨_, rfl⟩
                                have d_y262 := rd_Is eS261 hy262
                                have ea3 := rf_I eS261 ea3
                                have ea66 := rf_I eS261 ea66
                                have ea69 := rf_I eS261 ea69
                                have ea94 := rf_I eS261 ea94
                                have ea98 := rf_I eS261 ea98
                                have ea105 := rf_I eS261 ea105
                                have ea242 := rf_I eS261 ea242
                                have l_a105 := ln_I eS261 l_a105
                                have l_a242 := ln_I eS261 l_a242
                                have l_a66 := ln_I eS261 l_a66
                                have l_a69 := ln_I eS261 l_a69
                                have l_a94 := ln_I eS261 l_a94
                                have l_a98 := ln_I eS261 l_a98
                                have g0 := gr_I eS261 g0
                                have o_a105 := ob_I eS261 o_a105
                                have o_a242 := ob_I eS261 o_a242
                                have o_a3 := ob_I eS261 o_a3
                                have o_a66 := ob_I eS261 o_a66
                                have o_a69 := ob_I eS261 o_a69
                                have o_a94 := ob_I eS261 o_a94
                                have o_a98 := ob_I eS261 o_a98
                                have o_v0 := ob_I eS261 o_v0
                                intro _
                                exact hq _ _ hI g0 f0
                              · refine ⟨o_a3, ?_⟩
                                refine ⟨a94, ea94, ?_⟩
                                refine ⟨o_a94, ?_⟩
                                refine ⟨(vin l_a94 (m := 12) (by decide) (qm82 r_x12 r_y13 wh_x12 c14 c26 r_x35 c36 c46 c54 r_x64 q_x64 wh_x64 g_x67 g_x70 c71 c80 c93 g_x95 r_y96 gl_x95 dr_x99 c100 dr_x102 ex103 g_x106 ex107 dv_x107 dw_x107 c109 i1u114 c131 r_x180 hh_x180 ex181 dv_x181 r_x184 c185 c236 c241)), ?_⟩
                                intro x265 ex265
                                have gy_x265 : 0 ≤ v1 ∧ v1 < fI S115 a3 3 := by rw [← d_x35]; exact (qm83 r_x12 r_y13 wh_x12 c14 c26 r_x35 c36 c46 c54 r_x64 q_x64 wh_x64 g_x67 g_x70 c71 c80 c93 g_x95 r_y96 gl_x95 dr_x99 c100 dr_x102 ex103 g_x106 ex107 dv_x107 dw_x107 c109 i1u114 c131 r_x180 hh_x180 ex181 dv_x181 r_x184 c185 c236 c241)
                                have g_x265 : (0 : Int32) ≤ x265 ∧ x265 ≤ (7 : Int32) := by rw [ex265]; exact wg_at (ml_wg hI o_v0 ea3) 1 rfl gy_x265 ea94
                                have gl_x265 : x265 < y96 := by rw [ex265, d_y96]; exact wg_lt (ml_wg hI o_v0 ea3) 1 rfl (by decide) gy_x265 ea94
                                intro _
                                refine ⟨o_a98, ?_⟩
                                intro x267 ex267
                                have i268 : vp_in (0 : Int32) (hN _ a98) := (vin l_a98 (m := 7) (by decide) (qm84 r_x12 r_y13 wh_x12 c14 c26 r_x35 c36 c46 c54 r_x64 q_x64 wh_x64 g_x67 g_x70 c71 c80 c93 g_x95 r_y96 gl_x95 dr_x99 c100 dr_x102 ex103 g_x106 ex107 dv_x107 dw_x107 c109 i1u114 c131 r_x180 hh_x180 ex181 dv_x181 r_x184 c185 c236 c241 g_x265 gl_x265 ex267))
                                refine ⟨i268, ?_⟩
                                intro S269 eS269
                                have hI : IV S269 := by rw [eS269]; exact iv11_aD hI (de_0 (by rw [ex267]; exact i2l_rng (lo := 0) (hi := 7) (qm85 r_x12 r_y13 wh_x12 c14 c26 r_x35 c36 c46 c54 r_x64 q_x64 wh_x64 g_x67 g_x70 c71 c80 c93 g_x95 r_y96 gl_x95 dr_x99 c100 dr_x102 ex103 g_x106 ex107 dv_x107 dw_x107 c109 i1u114 c131 r_x180 hh_x180 ex181 dv_x181 r_x184 c185 c236 c241 g_x265 gl_x265 ex267)))
                                have f0 := fr_J eS269 f0
                                have d_y2 := rd_J eS269 d_y2
                                have d_x64 := rd_J eS269 d_x64
                                have d_y13 := rd_J eS269 d_y13
                                have d_x35 := rd_J eS269 d_x35
                                have d_y96 := rd_J eS269 d_y96
                                have d_x180 := rd_J eS269 d_x180
                                have d_x184 := rd_J eS269 d_x184
                                have d_x235 := rd_J eS269 d_x235
                                have ea3 := rf_J eS269 ea3
                                have ea66 := rf_J eS269 ea66
                                have ea69 := rf_J eS269 ea69
                                have ea94 := rf_J eS269 ea94
                                have ea98 := rf_J eS269 ea98
                                have ea105 := rf_J eS269 ea105
                                have l_a105 := ln_J eS269 l_a105
                                have l_a66 := ln_J eS269 l_a66
                                have l_a69 := ln_J eS269 l_a69
                                have l_a94 := ln_J eS269 l_a94
                                have l_a98 := ln_J eS269 l_a98
                                have g0 := gr_J eS269 g0
                                have o_a105 := ob_J eS269 o_a105
                                have o_a3 := ob_J eS269 o_a3
                                have o_a66 := ob_J eS269 o_a66
                                have o_a69 := ob_J eS269 o_a69
                                have o_a94 := ob_J eS269 o_a94
                                have o_a98 := ob_J eS269 o_a98
                                have o_v0 := ob_J eS269 o_v0
                                refine ⟨a98, ea98, ?_⟩
                                refine ⟨a3, ea3, ?_⟩
                                refine ⟨o_a3, ?_⟩
                                refine u_X10_minutes ?_
                                refine u_X10_minutes_0 ?_
                                refine ⟨o_a3, ?_⟩
                                refine ⟨a105, ea105, ?_⟩
                                refine ⟨o_a105, ?_⟩
                                refine ⟨(vin l_a105 (m := 12) (by decide) (qm86 r_x12 r_y13 wh_x12 c14 c26 r_x35 c36 c46 c54 r_x64 q_x64 wh_x64 g_x67 g_x70 c71 c80 c93 g_x95 r_y96 gl_x95 dr_x99 c100 dr_x102 ex103 g_x106 ex107 dv_x107 dw_x107 c109 i1u114 c131 r_x180 hh_x180 ex181 dv_x181 r_x184 c185 c236 c241 g_x265 gl_x265 ex267)), ?_⟩
                                intro x273 ex273
                                have gy_x273 : 0 ≤ v1 ∧ v1 < fI S269 a3 3 := by rw [← d_x35]; exact (qm87 r_x12 r_y13 wh_x12 c14 c26 r_x35 c36 c46 c54 r_x64 q_x64 wh_x64 g_x67 g_x70 c71 c80 c93 g_x95 r_y96 gl_x95 dr_x99 c100 dr_x102 ex103 g_x106 ex107 dv_x107 dw_x107 c109 i1u114 c131 r_x180 hh_x180 ex181 dv_x181 r_x184 c185 c236 c241 g_x265 gl_x265 ex267)
                                have g_x273 : (1 : Int32) ≤ x273 ∧ x273 ≤ (60 : Int32) := by rw [ex273]; exact wg_at (ml_wg hI o_v0 ea3) 2 rfl gy_x273 ea105
                                refine ⟨(qm88 r_x12 r_y13 wh_x12 c14 c26 r_x35 c36 c46 c54 r_x64 q_x64 wh_x64 g_x67 g_x70 c71 c80 c93 g_x95 r_y96 gl_x95 dr_x99 c100 dr_x102 ex103 g_x106 ex107 dv_x107 dw_x107 c109 i1u114 c131 r_x180 hh_x180 ex181 dv_x181 r_x184 c185 c236 c241 g_x265 gl_x265 ex267), ?_⟩
                                intro x274 ex274
                                have dv_x274 : 0 ≤ x274 ∧ x274 ≤ ((x273 + v3) - (1 : Int32)) := by rw [ex274]; exact dv0 (qm89 r_x12 r_y13 wh_x12 c14 c26 r_x35 c36 c46 c54 r_x64 q_x64 wh_x64 g_x67 g_x70 c71 c80 c93 g_x95 r_y96 gl_x95 dr_x99 c100 dr_x102 ex103 g_x106 ex107 dv_x107 dw_x107 c109 i1u114 c131 r_x180 hh_x180 ex181 dv_x181 r_x184 c185 c236 c241 g_x265 gl_x265 ex267 g_x273 ex274) (i32pos (qm90 r_x12 r_y13 wh_x12 c14 c26 r_x35 c36 c46 c54 r_x64 q_x64 wh_x64 g_x67 g_x70 c71 c80 c93 g_x95 r_y96 gl_x95 dr_x99 c100 dr_x102 ex103 g_x106 ex107 dv_x107 dw_x107 c109 i1u114 c131 r_x180 hh_x180 ex181 dv_x181 r_x184 c185 c236 c241 g_x265 gl_x265 ex267 g_x273 ex274))
                                have dw_x274 : (1 : Int32) ≤ x274 := by rw [ex274]; exact dv1 (qm91 r_x12 r_y13 wh_x12 c14 c26 r_x35 c36 c46 c54 r_x64 q_x64 wh_x64 g_x67 g_x70 c71 c80 c93 g_x95 r_y96 gl_x95 dr_x99 c100 dr_x102 ex103 g_x106 ex107 dv_x107 dw_x107 c109 i1u114 c131 r_x180 hh_x180 ex181 dv_x181 r_x184 c185 c236 c241 g_x265 gl_x265 ex267 g_x273 ex274) (qm92 r_x12 r_y13 wh_x12 c14 c26 r_x35 c36 c46 c54 r_x64 q_x64 wh_x64 g_x67 g_x70 c71 c80 c93 g_x95 r_y96 gl_x95 dr_x99 c100 dr_x102 ex103 g_x106 ex107 dv_x107 dw_x107 c109 i1u114 c131 r_x180 hh_x180 ex181 dv_x181 r_x184 c185 c236 c241 g_x265 gl_x265 ex267 g_x273 ex274)
                                intro _
                                refine ⟨o_a98, ?_⟩
                                intro x276 ex276
                                have i277 : vp_in (1 : Int32) (hN _ a98) := (vin l_a98 (m := 7) (by decide) (qm93 r_x12 r_y13 wh_x12 c14 c26 r_x35 c36 c46 c54 r_x64 q_x64 wh_x64 g_x67 g_x70 c71 c80 c93 g_x95 r_y96 gl_x95 dr_x99 c100 dr_x102 ex103 g_x106 ex107 dv_x107 dw_x107 c109 i1u114 c131 r_x180 hh_x180 ex181 dv_x181 r_x184 c185 c236 c241 g_x265 gl_x265 ex267 g_x273 ex274 dv_x274 dw_x274 ex276))
                                refine ⟨i277, ?_⟩
                                intro S278 eS278
                                have hI : IV S278 := by rw [eS278]; exact iv11_aD hI (de_1 (by rw [ex276]; exact i2l_rng (lo := 0) (hi := 999) (qm94 r_x12 r_y13 wh_x12 c14 c26 r_x35 c36 c46 c54 r_x64 q_x64 wh_x64 g_x67 g_x70 c71 c80 c93 g_x95 r_y96 gl_x95 dr_x99 c100 dr_x102 ex103 g_x106 ex107 dv_x107 dw_x107 c109 i1u114 c131 r_x180 hh_x180 ex181 dv_x181 r_x184 c185 c236 c241 g_x265 gl_x265 ex267 g_x273 ex274 dv_x274 dw_x274 ex276)))
                                have f0 := fr_J eS278 f0
                                have d_y2 := rd_J eS278 d_y2
                                have d_x64 := rd_J eS278 d_x64
                                have d_y13 := rd_J eS278 d_y13
                                have d_x35 := rd_J eS278 d_x35
                                have d_y96 := rd_J eS278 d_y96
                                have d_x180 := rd_J eS278 d_x180
                                have d_x184 := rd_J eS278 d_x184
                                have d_x235 := rd_J eS278 d_x235
                                have ea3 := rf_J eS278 ea3
                                have ea66 := rf_J eS278 ea66
                                have ea69 := rf_J eS278 ea69
                                have ea94 := rf_J eS278 ea94
                                have ea98 := rf_J eS278 ea98
                                have ea105 := rf_J eS278 ea105
                                have l_a105 := ln_J eS278 l_a105
                                have l_a66 := ln_J eS278 l_a66
                                have l_a69 := ln_J eS278 l_a69
                                have l_a94 := ln_J eS278 l_a94
                                have l_a98 := ln_J eS278 l_a98
                                have g0 := gr_J eS278 g0
                                have o_a105 := ob_J eS278 o_a105
                                have o_a3 := ob_J eS278 o_a3
                                have o_a66 := ob_J eS278 o_a66
                                have o_a69 := ob_J eS278 o_a69
                                have o_a94 := ob_J eS278 o_a94
                                have o_a98 := ob_J eS278 o_a98
                                have o_v0 := ob_J eS278 o_v0
                                refine ⟨a98, ea98, ?_⟩
                                refine ⟨o_a98, ?_⟩
                                refine ⟨(vin l_a98 (m := 7) (by decide) (qm93 r_x12 r_y13 wh_x12 c14 c26 r_x35 c36 c46 c54 r_x64 q_x64 wh_x64 g_x67 g_x70 c71 c80 c93 g_x95 r_y96 gl_x95 dr_x99 c100 dr_x102 ex103 g_x106 ex107 dv_x107 dw_x107 c109 i1u114 c131 r_x180 hh_x180 ex181 dv_x181 r_x184 c185 c236 c241 g_x265 gl_x265 ex267 g_x273 ex274 dv_x274 dw_x274 ex276)), ?_⟩
                                intro x280 ex280
                                have de_x280 := ml_de hI o_v0 (j := 21) (by decide) ea98 (1 : Int32).toNatClampNeg
                                rw [← ex280] at de_x280
                                have dr_x280 : (0 : Int64) ≤ x280 ∧ x280 ≤ (999 : Int64) := de_x280.2 (by decide)
                                refine u_X11_good ?_
                                refine u_X11_good_0 ?_
                                refine ⟨o_v0, ?_⟩
                                intro S281 eS281
                                have hI : IV S281 := by rw [eS281]; exact iv11_sI hI o_v0 (by decide) (nu_free (by decide))
                                have f0 := fr_I eS281 g0 f0 o_v0 (by decide)
                                have d_y2 := rd_Ij eS281 (by decide) d_y2
                                have d_x64 := rd_Ij eS281 (by decide) d_x64
                                have d_y13 := rd_Ik eS281 o_v0 o_a3 (by decide) d_y13
                                have d_x35 := rd_Ik eS281 o_v0 o_a3 (by decide) d_x35
                                have d_y96 := rd_Ik eS281 o_v0 o_a3 (by decide) d_y96
                                have d_x180 := rd_Ik eS281 o_v0 o_a3 (by decide) d_x180
                                have d_x184 := rd_Ik eS281 o_v0 o_a3 (by decide) d_x184
                                have d_x235 := rd_Ij eS281 (by decide) d_x235
                                obtain ⟨y282, hy282⟩ : ∃ z : Int32, z = (0 : Int32) := ⟨_, rfl⟩
                                have d_y282 := rd_Is eS281 hy282
                                have ea3 := rf_I eS281 ea3
                                have ea66 := rf_I eS281 ea66
                                have ea69 := rf_I eS281 ea69
                                have ea94 := rf_I eS281 ea94
                                have ea98 := rf_I eS281 ea98
                                have ea105 := rf_I eS281 ea105
                                have l_a105 := ln_I eS281 l_a105
                                have l_a66 := ln_I eS281 l_a66
                                have l_a69 := ln_I eS281 l_a69
                                have l_a94 := ln_I eS281 l_a94
                                have l_a98 := ln_I eS281 l_a98
                                have g0 := gr_I eS281 g0
                                have o_a105 := ob_I eS281 o_a105
                                have o_a3 := ob_I eS281 o_a3
                                have o_a66 := ob_I eS281 o_a66
                                have o_a69 := ob_I eS281 o_a69
                                have o_a94 := ob_I eS281 o_a94
                                have o_a98 := ob_I eS281 o_a98
                                have o_v0 := ob_I eS281 o_v0
                                intro S283 eS283
                                have hI : IV S283 := by rw [eS283]; exact iv11_sI hI o_v0 (by decide) (nu_free (by decide))
                                have f0 := fr_I eS283 g0 f0 o_v0 (by decide)
                                have d_y2 := rd_Ij eS283 (by decide) d_y2
                                have d_x64 := rd_Ij eS283 (by decide) d_x64
                                have d_y13 := rd_Ik eS283 o_v0 o_a3 (by decide) d_y13
                                have d_x35 := rd_Ik eS283 o_v0 o_a3 (by decide) d_x35
                                have d_y96 := rd_Ik eS283 o_v0 o_a3 (by decide) d_y96
                                have d_x180 := rd_Ik eS283 o_v0 o_a3 (by decide) d_x180
                                have d_x184 := rd_Ik eS283 o_v0 o_a3 (by decide) d_x184
                                have d_x235 := rd_Ij eS283 (by decide) d_x235
                                have d_y282 := rd_Ij eS283 (by decide) d_y282
                                obtain ⟨y284, hy284⟩ : ∃ z : Int32, z = (-1 : Int32) := ⟨_, rfl⟩
                                have d_y284 := rd_Is eS283 hy284
                                have ea3 := rf_I eS283 ea3
                                have ea66 := rf_I eS283 ea66
                                have ea69 := rf_I eS283 ea69
                                have ea94 := rf_I eS283 ea94
                                have ea98 := rf_I eS283 ea98
                                have ea105 := rf_I eS283 ea105
                                have l_a105 := ln_I eS283 l_a105
                                have l_a66 := ln_I eS283 l_a66
                                have l_a69 := ln_I eS283 l_a69
                                have l_a94 := ln_I eS283 l_a94
                                have l_a98 := ln_I eS283 l_a98
                                have g0 := gr_I eS283 g0
                                have o_a105 := ob_I eS283 o_a105
                                have o_a3 := ob_I eS283 o_a3
                                have o_a66 := ob_I eS283 o_a66
                                have o_a69 := ob_I eS283 o_a69
                                have o_a94 := ob_I eS283 o_a94
                                have o_a98 := ob_I eS283 o_a98
                                have o_v0 := ob_I eS283 o_v0
                                intro _
                                exact hq _ _ hI g0 f0
                            · intro _ _
                              refine ⟨fun c287 => absurd (show (1 : Int32) = 0 from c287) (by decide), fun c287 => ?_⟩
                              refine ⟨a98, ea98, ?_⟩
                              refine ⟨o_a98, ?_⟩
                              intro x289 ex289
                              refine ⟨(vin l_a98 (m := 7) (by decide) (qm95 r_x12 r_y13 wh_x12 c14 c26 r_x35 c36 c46 c54 r_x64 q_x64 wh_x64 g_x67 g_x70 c71 c80 c93 g_x95 r_y96 gl_x95 dr_x99 c100 dr_x102 ex103 g_x106 ex107 dv_x107 dw_x107 c109 i1u114 c131 r_x180 hh_x180 ex181 dv_x181 r_x184 c185 c236 ex289)), ?_⟩
                              intro x290 ex290
                              have de_x290 := ml_de hI o_v0 (j := 21) (by decide) ea98 x289.toNatClampNeg
                              rw [← ex290] at de_x290
                              intro x291 ex291
                              have r_x291 : (-2 : Int32) ≤ x291 ∧ x291 ≤ (3 : Int32) := by rw [ex291]; exact nu 26 rfl hI o_v0
                              have q_x291 : x291 = x64 := ex291.trans d_x64.symm
                              have d_x291 := ex291
                              have wh_x291 : x291 = -2 ∨ (0 ≤ x291 ∧ x291 < y13) := by rw [ex291, d_y13]; exact ml_who hI o_v0 ea3
                              refine u_X11_hourOf ?_
                              refine u_X11_hourOf_0 ?_
                              refine ⟨o_v0, ?_⟩
                              refine ⟨a3, ea3, ?_⟩
                              refine ⟨o_a3, ?_⟩
                              intro x293 ex293
                              have r_x293 : (0 : Int32) ≤ x293 ∧ x293 ≤ (60 : Int32) := by rw [ex293]; exact nu 16 rfl hI o_a3
                              have q_x293 : x293 = x180 := ex293.trans d_x180.symm
                              have d_x293 := ex293
                              have hh_x293 : 1 ≤ x293 := by rw [ex293]; exact ml_hour hI o_v0 ea3
                              refine ⟨(qm96 r_x12 r_y13 wh_x12 c14 c26 r_x35 c36 c46 c54 r_x64 q_x64 wh_x64 g_x67 g_x70 c71 c80 c93 g_x95 r_y96 gl_x95 dr_x99 c100 dr_x102 ex103 g_x106 ex107 dv_x107 dw_x107 c109 i1u114 c131 r_x180 hh_x180 ex181 dv_x181 r_x184 c185 c236 ex289 r_x291 q_x291 wh_x291 r_x293 q_x293 hh_x293), ?_⟩
                              intro x294 ex294
                              have dv_x294 : 0 ≤ x294 ∧ x294 ≤ x103 := by rw [ex294]; exact dv0 (qm97 r_x12 r_y13 wh_x12 c14 c26 r_x35 c36 c46 c54 r_x64 q_x64 wh_x64 g_x67 g_x70 c71 c80 c93 g_x95 r_y96 gl_x95 dr_x99 c100 dr_x102 ex103 g_x106 ex107 dv_x107 dw_x107 c109 i1u114 c131 r_x180 hh_x180 ex181 dv_x181 r_x184 c185 c236 ex289 r_x291 q_x291 wh_x291 r_x293 q_x293 hh_x293 ex294) (i32pos (qm98 r_x12 r_y13 wh_x12 c14 c26 r_x35 c36 c46 c54 r_x64 q_x64 wh_x64 g_x67 g_x70 c71 c80 c93 g_x95 r_y96 gl_x95 dr_x99 c100 dr_x102 ex103 g_x106 ex107 dv_x107 dw_x107 c109 i1u114 c131 r_x180 hh_x180 ex181 dv_x181 r_x184 c185 c236 ex289 r_x291 q_x291 wh_x291 r_x293 q_x293 hh_x293 ex294))
                              intro _
                              refine m_X11_partsOf hI o_v0 (qm99 r_x12 r_y13 wh_x12 c14 c26 r_x35 c36 c46 c54 r_x64 q_x64 wh_x64 g_x67 g_x70 c71 c80 c93 g_x95 r_y96 gl_x95 dr_x99 c100 dr_x102 ex103 g_x106 ex107 dv_x107 dw_x107 c109 i1u114 c131 r_x180 hh_x180 ex181 dv_x181 r_x184 c185 c236 ex289 r_x291 q_x291 wh_x291 r_x293 q_x293 hh_x293 ex294 dv_x294) (qm100 r_x12 r_y13 wh_x12 c14 c26 r_x35 c36 c46 c54 r_x64 q_x64 wh_x64 g_x67 g_x70 c71 c80 c93 g_x95 r_y96 gl_x95 dr_x99 c100 dr_x102 ex103 g_x106 ex107 dv_x107 dw_x107 c109 i1u114 c131 r_x180 hh_x180 ex181 dv_x181 r_x184 c185 c236 ex289 r_x291 q_x291 wh_x291 r_x293 q_x293 hh_x293 ex294 dv_x294) (qm101 r_x12 r_y13 wh_x12 c14 c26 r_x35 c36 c46 c54 r_x64 q_x64 wh_x64 g_x67 g_x70 c71 c80 c93 g_x95 r_y96 gl_x95 dr_x99 c100 dr_x102 ex103 g_x106 ex107 dv_x107 dw_x107 c109 i1u114 c131 r_x180 hh_x180 ex181 dv_x181 r_x184 c185 c236 ex289 r_x291 q_x291 wh_x291 r_x293 q_x293 hh_x293 ex294 dv_x294) (qm102 r_x12 r_y13 wh_x12 c14 c26 r_x35 c36 c46 c54 r_x64 q_x64 wh_x64 g_x67 g_x70 c71 c80 c93 g_x95 r_y96 gl_x95 dr_x99 c100 dr_x102 ex103 g_x106 ex107 dv_x107 dw_x107 c109 i1u114 c131 r_x180 hh_x180 ex181 dv_x181 r_x184 c185 c236 ex289 r_x291 q_x291 wh_x291 r_x293 q_x293 hh_x293 ex294 dv_x294) ⟨_, ea3⟩ (fun x296 S297 hI2 g298 p_x296 => ?_)
                              subst p_x296
                              intro _
                              intro x300 ex300
                              have i301 : vp_in ((2 : Int32) + w128) (hN _ a98) := (vin l_a98 (m := 7) (by decide) (qm103 r_x12 r_y13 wh_x12 c14 c26 r_x35 c36 c46 c54 r_x64 q_x64 wh_x64 g_x67 g_x70 c71 c80 c93 g_x95 r_y96 gl_x95 dr_x99 c100 dr_x102 ex103 g_x106 ex107 dv_x107 dw_x107 c109 i1u114 c131 r_x180 hh_x180 ex181 dv_x181 r_x184 c185 c236 ex289 r_x291 q_x291 wh_x291 r_x293 q_x293 hh_x293 ex294 dv_x294))
                              refine ⟨i301, ?_⟩
                              intro S302 eS302
                              have hI : IV S302 := by rw [eS302]; exact iv11_aD hI (de_free (qm104 r_x12 r_y13 wh_x12 c14 c26 r_x35 c36 c46 c54 r_x64 q_x64 wh_x64 g_x67 g_x70 c71 c80 c93 g_x95 r_y96 gl_x95 dr_x99 c100 dr_x102 ex103 g_x106 ex107 dv_x107 dw_x107 c109 i1u114 c131 r_x180 hh_x180 ex181 dv_x181 r_x184 c185 c236 ex289 r_x291 q_x291 wh_x291 r_x293 q_x293 hh_x293 ex294 dv_x294))
                              have f0 := fr_J eS302 f0
                              have fL117 := fr_J eS302 fL117
                              have d_y2 := rd_J eS302 d_y2
                              have d_x291 := rd_J eS302 d_x291
                              have d_y13 := rd_J eS302 d_y13
                              have d_x35 := rd_J eS302 d_x35
                              have d_y96 := rd_J eS302 d_y96
                              have d_x293 := rd_J eS302 d_x293
                              have d_x184 := rd_J eS302 d_x184
                              have d_x235 := rd_J eS302 d_x235
                              have ea3 := rf_J eS302 ea3
                              have ea66 := rf_J eS302 ea66
                              have ea69 := rf_J eS302 ea69
                              have ea94 := rf_J eS302 ea94
                              have ea98 := rf_J eS302 ea98
                              have ea105 := rf_J eS302 ea105
                              have l_a105 := ln_J eS302 l_a105
                              have l_a66 := ln_J eS302 l_a66
                              have l_a69 := ln_J eS302 l_a69
                              have l_a94 := ln_J eS302 l_a94
                              have l_a98 := ln_J eS302 l_a98
                              have g0 := gr_J eS302 g0
                              have gL116 := gr_J eS302 gL116
                              have o_a105 := ob_J eS302 o_a105
                              have o_a3 := ob_J eS302 o_a3
                              have o_a66 := ob_J eS302 o_a66
                              have o_a69 := ob_J eS302 o_a69
                              have o_a94 := ob_J eS302 o_a94
                              have o_a98 := ob_J eS302 o_a98
                              have o_v0 := ob_J eS302 o_v0
                              intro x303 ex303
                              exact ih130 _ _ _ _ _ _ _ ⟨hI, gL116, fL117, rfl, rfl, rfl, rfl, rfl, (qm105 r_x12 r_y13 wh_x12 c14 c26 r_x35 c36 c46 c54 r_x64 q_x64 wh_x64 g_x67 g_x70 c71 c80 c93 g_x95 r_y96 gl_x95 dr_x99 c100 dr_x102 ex103 g_x106 ex107 dv_x107 dw_x107 c109 i1u114 c131 r_x180 hh_x180 ex181 dv_x181 r_x184 c185 c236 ex289 r_x291 q_x291 wh_x291 r_x293 q_x293 hh_x293 ex294 dv_x294 ex303)⟩ (mu_up (qm106 r_x12 r_y13 wh_x12 c14 c26 r_x35 c36 c46 c54 r_x64 q_x64 wh_x64 g_x67 g_x70 c71 c80 c93 g_x95 r_y96 gl_x95 dr_x99 c100 dr_x102 ex103 g_x106 ex107 dv_x107 dw_x107 c109 i1u114 c131 r_x180 hh_x180 ex181 dv_x181 r_x184 c185 c236 ex289 r_x291 q_x291 wh_x291 r_x293 q_x293 hh_x293 ex294 dv_x294 ex303) (qm107 r_x12 r_y13 wh_x12 c14 c26 r_x35 c36 c46 c54 r_x64 q_x64 wh_x64 g_x67 g_x70 c71 c80 c93 g_x95 r_y96 gl_x95 dr_x99 c100 dr_x102 ex103 g_x106 ex107 dv_x107 dw_x107 c109 i1u114 c131 r_x180 hh_x180 ex181 dv_x181 r_x184 c185 c236 ex289 r_x291 q_x291 wh_x291 r_x293 q_x293 hh_x293 ex294 dv_x294 ex303))
                      · refine u_X11_refused ?_
                        refine u_X11_refused_0 ?_
                        refine ⟨o_v0, ?_⟩
                        intro S304 eS304
                        have hI : IV S304 := by rw [eS304]; exact iv11_sI hI o_v0 (by decide) (nu_free (by decide))
                        have f0 := fr_I eS304 g0 f0 o_v0 (by decide)
                        have d_y2 := rd_Ij eS304 (by decide) d_y2
                        have d_x64 := rd_Ij eS304 (by decide) d_x64
                        have d_y13 := rd_Ik eS304 o_v0 o_a3 (by decide) d_y13
                        have d_x35 := rd_Ik eS304 o_v0 o_a3 (by decide) d_x35
                        have d_y96 := rd_Ik eS304 o_v0 o_a3 (by decide) d_y96
                        obtain ⟨y305, hy305⟩ : ∃ z : Int32, z = (3 : Int32) := ⟨_, rfl⟩
                        have d_y305 := rd_Is eS304 hy305
                        have ea3 := rf_I eS304 ea3
                        have ea66 := rf_I eS304 ea66
                        have ea69 := rf_I eS304 ea69
                        have ea94 := rf_I eS304 ea94
                        have ea98 := rf_I eS304 ea98
                        have ea105 := rf_I eS304 ea105
                        have l_a105 := ln_I eS304 l_a105
                        have l_a66 := ln_I eS304 l_a66
                        have l_a69 := ln_I eS304 l_a69
                        have l_a94 := ln_I eS304 l_a94
                        have l_a98 := ln_I eS304 l_a98
                        have g0 := gr_I eS304 g0
                        have o_a105 := ob_I eS304 o_a105
                        have o_a3 := ob_I eS304 o_a3
                        have o_a66 := ob_I eS304 o_a66
                        have o_a69 := ob_I eS304 o_a69
                        have o_a94 := ob_I eS304 o_a94
                        have o_a98 := ob_I eS304 o_a98
                        have o_v0 := ob_I eS304 o_v0
                        intro S306 eS306
                        have hI : IV S306 := by rw [eS306]; exact iv11_sI hI o_v0 (by decide) (nu_free (by decide))
                        have f0 := fr_I eS306 g0 f0 o_v0 (by decide)
                        have d_y2 := rd_Ij eS306 (by decide) d_y2
                        have d_x64 := rd_Ij eS306 (by decide) d_x64
                        have d_y13 := rd_Ik eS306 o_v0 o_a3 (by decide) d_y13
                        have d_x35 := rd_Ik eS306 o_v0 o_a3 (by decide) d_x35
                        have d_y96 := rd_Ik eS306 o_v0 o_a3 (by decide) d_y96
                        have d_y305 := rd_Ij eS306 (by decide) d_y305
                        obtain ⟨y307, hy307⟩ : ∃ z : Int32, z = (-1 : Int32) := ⟨_, rfl⟩
                        have d_y307 := rd_Is eS306 hy307
                        have ea3 := rf_I eS306 ea3
                        have ea66 := rf_I eS306 ea66
                        have ea69 := rf_I eS306 ea69
                        have ea94 := rf_I eS306 ea94
                        have ea98 := rf_I eS306 ea98
                        have ea105 := rf_I eS306 ea105
                        have l_a105 := ln_I eS306 l_a105
                        have l_a66 := ln_I eS306 l_a66
                        have l_a69 := ln_I eS306 l_a69
                        have l_a94 := ln_I eS306 l_a94
                        have l_a98 := ln_I eS306 l_a98
                        have g0 := gr_I eS306 g0
                        have o_a105 := ob_I eS306 o_a105
                        have o_a3 := ob_I eS306 o_a3
                        have o_a66 := ob_I eS306 o_a66
                        have o_a69 := ob_I eS306 o_a69
                        have o_a94 := ob_I eS306 o_a94
                        have o_a98 := ob_I eS306 o_a98
                        have o_v0 := ob_I eS306 o_v0
                        intro _
                        exact hq _ _ hI g0 f0
                    · refine u_X11_refused ?_
                      refine u_X11_refused_0 ?_
                      refine ⟨o_v0, ?_⟩
                      intro S309 eS309
                      have hI : IV S309 := by rw [eS309]; exact iv11_sI hI o_v0 (by decide) (nu_free (by decide))
                      have f0 := fr_I eS309 g0 f0 o_v0 (by decide)
                      have d_y2 := rd_Ij eS309 (by decide) d_y2
                      have d_x64 := rd_Ij eS309 (by decide) d_x64
                      have d_y13 := rd_Ik eS309 o_v0 o_a3 (by decide) d_y13
                      have d_x35 := rd_Ik eS309 o_v0 o_a3 (by decide) d_x35
                      have d_y96 := rd_Ik eS309 o_v0 o_a3 (by decide) d_y96
                      obtain ⟨y310, hy310⟩ : ∃ z : Int32, z = (5 : Int32) := ⟨_, rfl⟩
                      have d_y310 := rd_Is eS309 hy310
                      have ea3 := rf_I eS309 ea3
                      have ea66 := rf_I eS309 ea66
                      have ea69 := rf_I eS309 ea69
                      have ea94 := rf_I eS309 ea94
                      have ea98 := rf_I eS309 ea98
                      have l_a66 := ln_I eS309 l_a66
                      have l_a69 := ln_I eS309 l_a69
                      have l_a94 := ln_I eS309 l_a94
                      have l_a98 := ln_I eS309 l_a98
                      have g0 := gr_I eS309 g0
                      have o_a3 := ob_I eS309 o_a3
                      have o_a66 := ob_I eS309 o_a66
                      have o_a69 := ob_I eS309 o_a69
                      have o_a94 := ob_I eS309 o_a94
                      have o_a98 := ob_I eS309 o_a98
                      have o_v0 := ob_I eS309 o_v0
                      intro S311 eS311
                      have hI : IV S311 := by rw [eS311]; exact iv11_sI hI o_v0 (by decide) (nu_free (by decide))
                      have f0 := fr_I eS311 g0 f0 o_v0 (by decide)
                      have d_y2 := rd_Ij eS311 (by decide) d_y2
                      have d_x64 := rd_Ij eS311 (by decide) d_x64
                      have d_y13 := rd_Ik eS311 o_v0 o_a3 (by decide) d_y13
                      have d_x35 := rd_Ik eS311 o_v0 o_a3 (by decide) d_x35
                      have d_y96 := rd_Ik eS311 o_v0 o_a3 (by decide) d_y96
                      have d_y310 := rd_Ij eS311 (by decide) d_y310
                      obtain ⟨y312, hy312⟩ : ∃ z : Int32, z = (-1 : Int32) := ⟨_, rfl⟩
                      have d_y312 := rd_Is eS311 hy312
                      have ea3 := rf_I eS311 ea3
                      have ea66 := rf_I eS311 ea66
                      have ea69 := rf_I eS311 ea69
                      have ea94 := rf_I eS311 ea94
                      have ea98 := rf_I eS311 ea98
                      have l_a66 := ln_I eS311 l_a66
                      have l_a69 := ln_I eS311 l_a69
                      have l_a94 := ln_I eS311 l_a94
                      have l_a98 := ln_I eS311 l_a98
                      have g0 := gr_I eS311 g0
                      have o_a3 := ob_I eS311 o_a3
                      have o_a66 := ob_I eS311 o_a66
                      have o_a69 := ob_I eS311 o_a69
                      have o_a94 := ob_I eS311 o_a94
                      have o_a98 := ob_I eS311 o_a98
                      have o_v0 := ob_I eS311 o_v0
                      intro _
                      exact hq _ _ hI g0 f0
                  · refine ⟨o_a3, ?_⟩
                    obtain ⟨a314, ea314, o_a314, l_a314⟩ := shl 35 rfl hI o_a3
                    refine ⟨a314, ea314, ?_⟩
                    refine ⟨o_a314, ?_⟩
                    refine ⟨(vin l_a314 (m := 12) (by decide) (qm108 r_x12 r_y13 wh_x12 c14 c26 r_x35 c36 c46 c54 r_x64 q_x64 wh_x64 g_x67 g_x70 c71 c80 c93)), ?_⟩
                    intro x315 ex315
                    have gy_x315 : 0 ≤ v1 ∧ v1 < fI S1 a3 3 := by rw [← d_x35]; exact (qm109 r_x12 r_y13 wh_x12 c14 c26 r_x35 c36 c46 c54 r_x64 q_x64 wh_x64 g_x67 g_x70 c71 c80 c93)
                    have g_x315 : (0 : Int32) ≤ x315 ∧ x315 ≤ (7 : Int32) := by rw [ex315]; exact wg_at (ml_wg hI o_v0 ea3) 0 rfl gy_x315 ea314
                    obtain ⟨y316, d_y316⟩ : ∃ z : Int32, z = fI S1 a3 2 := ⟨_, rfl⟩
                    have r_y316 : (0 : Int32) ≤ y316 ∧ y316 ≤ (8 : Int32) := by rw [d_y316]; exact nu 18 rfl hI o_a3
                    have gl_x315 : x315 < y316 := by rw [ex315, d_y316]; exact wg_lt (ml_wg hI o_v0 ea3) 0 rfl (by decide) gy_x315 ea314
                    intro _
                    obtain ⟨a318, ea318, o_a318, l_a318⟩ := shl 57 rfl hI o_v0
                    refine ⟨a318, ea318, ?_⟩
                    refine ⟨o_a318, ?_⟩
                    refine ⟨(vin l_a318 (m := 7) (by decide) (qm110 r_x12 r_y13 wh_x12 c14 c26 r_x35 c36 c46 c54 r_x64 q_x64 wh_x64 g_x67 g_x70 c71 c80 c93)), ?_⟩
                    intro x319 ex319
                    have de_x319 := ml_de hI o_v0 (j := 21) (by decide) ea318 (0 : Int32).toNatClampNeg
                    rw [← ex319] at de_x319
                    have dr_x319 : (0 : Int64) ≤ x319 ∧ x319 ≤ (7 : Int64) := de_x319.1 (by decide)
                    refine ⟨fun c320 => ?_, fun c320 => ?_⟩
                    · refine ⟨a318, ea318, ?_⟩
                      refine ⟨o_a318, ?_⟩
                      refine ⟨(vin l_a318 (m := 7) (by decide) (qm111 r_x12 r_y13 wh_x12 c14 c26 r_x35 c36 c46 c54 r_x64 q_x64 wh_x64 g_x67 g_x70 c71 c80 c93 g_x315 r_y316 gl_x315 dr_x319 c320)), ?_⟩
                      intro x322 ex322
                      have de_x322 := ml_de hI o_v0 (j := 21) (by decide) ea318 (1 : Int32).toNatClampNeg
                      rw [← ex322] at de_x322
                      have dr_x322 : (0 : Int64) ≤ x322 ∧ x322 ≤ (999 : Int64) := de_x322.2 (by decide)
                      intro x323 ex323
                      refine ⟨a3, ea3, ?_⟩
                      refine ⟨o_a3, ?_⟩
                      refine u_X10_minutes ?_
                      refine u_X10_minutes_0 ?_
                      refine ⟨o_a3, ?_⟩
                      obtain ⟨a325, ea325, o_a325, l_a325⟩ := shl 38 rfl hI o_a3
                      refine ⟨a325, ea325, ?_⟩
                      refine ⟨o_a325, ?_⟩
                      refine ⟨(vin l_a325 (m := 12) (by decide) (qm112 r_x12 r_y13 wh_x12 c14 c26 r_x35 c36 c46 c54 r_x64 q_x64 wh_x64 g_x67 g_x70 c71 c80 c93 g_x315 r_y316 gl_x315 dr_x319 c320)), ?_⟩
                      intro x326 ex326
                      have gy_x326 : 0 ≤ v1 ∧ v1 < fI S1 a3 3 := by rw [← d_x35]; exact (qm113 r_x12 r_y13 wh_x12 c14 c26 r_x35 c36 c46 c54 r_x64 q_x64 wh_x64 g_x67 g_x70 c71 c80 c93 g_x315 r_y316 gl_x315 dr_x319 c320)
                      have g_x326 : (1 : Int32) ≤ x326 ∧ x326 ≤ (60 : Int32) := by rw [ex326]; exact wg_at (ml_wg hI o_v0 ea3) 2 rfl gy_x326 ea325
                      refine ⟨(qm114 r_x12 r_y13 wh_x12 c14 c26 r_x35 c36 c46 c54 r_x64 q_x64 wh_x64 g_x67 g_x70 c71 c80 c93 g_x315 r_y316 gl_x315 dr_x319 c320), ?_⟩
                      intro x327 ex327
                      have dv_x327 : 0 ≤ x327 ∧ x327 ≤ ((x326 + v3) - (1 : Int32)) := by rw [ex327]; exact dv0 (qm115 r_x12 r_y13 wh_x12 c14 c26 r_x35 c36 c46 c54 r_x64 q_x64 wh_x64 g_x67 g_x70 c71 c80 c93 g_x315 r_y316 gl_x315 dr_x319 c320 g_x326 ex327) (i32pos (qm116 r_x12 r_y13 wh_x12 c14 c26 r_x35 c36 c46 c54 r_x64 q_x64 wh_x64 g_x67 g_x70 c71 c80 c93 g_x315 r_y316 gl_x315 dr_x319 c320 g_x326 ex327))
                      have dw_x327 : (1 : Int32) ≤ x327 := by rw [ex327]; exact dv1 (qm117 r_x12 r_y13 wh_x12 c14 c26 r_x35 c36 c46 c54 r_x64 q_x64 wh_x64 g_x67 g_x70 c71 c80 c93 g_x315 r_y316 gl_x315 dr_x319 c320 g_x326 ex327) (qm118 r_x12 r_y13 wh_x12 c14 c26 r_x35 c36 c46 c54 r_x64 q_x64 wh_x64 g_x67 g_x70 c71 c80 c93 g_x315 r_y316 gl_x315 dr_x319 c320 g_x326 ex327)
                      intro _
                      refine ⟨fun c329 => ?_, fun c329 => ?_⟩
                      · refine m_X11_keeps hI o_v0 (fun S331 hJ g332 fc333 => ?_)
                        have hI := hJ
                        have l_a314 := (gr_len g332 o_a314).trans l_a314
                        have l_a318 := (gr_len g332 o_a318).trans l_a318
                        have l_a325 := (gr_len g332 o_a325).trans l_a325
                        have l_a66 := (gr_len g332 o_a66).trans l_a66
                        have l_a69 := (gr_len g332 o_a69).trans l_a69
                        have d_y2 := d_y2.trans (fri_at fc333 (by decide) (by decide) o_v0).symm
                        have d_x64 := d_x64.trans (fri_at fc333 (by decide) (by decide) o_v0).symm
                        have d_y13 := d_y13.trans (fri_at fc333 (by decide) (by decide) o_a3).symm
                        have d_x35 := d_x35.trans (fri_at fc333 (by decide) (by decide) o_a3).symm
                        have d_y316 := d_y316.trans (fri_at fc333 (by decide) (by decide) o_a3).symm
                        have ea3 := (frr_at fc333 (by decide) (by decide) o_v0).trans ea3
                        have ea66 := (frr_at fc333 (by decide) (by decide) o_a3).trans ea66
                        have ea69 := (frr_at fc333 (by decide) (by decide) o_a3).trans ea69
                        have ea314 := (frr_at fc333 (by decide) (by decide) o_a3).trans ea314
                        have ea318 := (frr_at fc333 (by decide) (by decide) o_v0).trans ea318
                        have ea325 := (frr_at fc333 (by decide) (by decide) o_a3).trans ea325
                        have f0 := fri_tr (S := S1) g0 f0 fc333 (by decide) (by decide)
                        have o_a3 := gr_ob g332 o_a3
                        have o_a314 := gr_ob g332 o_a314
                        have o_a318 := gr_ob g332 o_a318
                        have o_a325 := gr_ob g332 o_a325
                        have o_a66 := gr_ob g332 o_a66
                        have o_a69 := gr_ob g332 o_a69
                        have o_v0 := gr_ob g332 o_v0
                        have g0 := gr_tr (T := S1) g0 g332
                        intro _
                        refine i_X11_go_119 (fun (y0 : Nat) (y1 : Int32) (y2 : Int32) (y3 : Int32) (y4 : Int32) (y5 : Int32) (Z : HS) => ((2147483647 : Int32).toInt - y5.toInt).toNat) (fun (y0 : Nat) (y1 : Int32) (y2 : Int32) (y3 : Int32) (y4 : Int32) (y5 : Int32) (Z : HS) => (IV Z) ∧ (Gr S331 Z) ∧ (FRI [] [] S331 Z) ∧ (v0 = y0) ∧ (v1 = y1) ∧ (v2 = y2) ∧ (v3 = y3) ∧ (x323 = y4) ∧ (0 ≤ y5)) ?_ _ _ _ _ _ _ _ ⟨hI, (gr_rf _), (fri_rf _ _ _), rfl, rfl, rfl, rfl, rfl, (qm119 r_x12 r_y13 wh_x12 c14 c26 r_x35 c36 c46 c54 r_x64 q_x64 wh_x64 g_x67 g_x70 c71 c80 c93 g_x315 r_y316 gl_x315 dr_x319 c320 dr_x322 ex323 g_x326 ex327 dv_x327 dw_x327 c329)⟩
                        intro w338 w340 w342 w344 w346 w348 S335 X349 ⟨hI, gL336, fL337, q339, q341, q343, q345, q347, i1u334⟩ ih350
                        subst q339
                        subst q341
                        subst q343
                        subst q345
                        subst q347
                        have l_a314 := (gr_len gL336 o_a314).trans l_a314
                        have l_a318 := (gr_len gL336 o_a318).trans l_a318
                        have l_a325 := (gr_len gL336 o_a325).trans l_a325
                        have l_a66 := (gr_len gL336 o_a66).trans l_a66
                        have l_a69 := (gr_len gL336 o_a69).trans l_a69
                        have d_y2 := d_y2.trans (fri_at fL337 (by decide) (by decide) o_v0).symm
                        have d_x64 := d_x64.trans (fri_at fL337 (by decide) (by decide) o_v0).symm
                        have d_y13 := d_y13.trans (fri_at fL337 (by decide) (by decide) o_a3).symm
                        have d_x35 := d_x35.trans (fri_at fL337 (by decide) (by decide) o_a3).symm
                        have d_y316 := d_y316.trans (fri_at fL337 (by decide) (by decide) o_a3).symm
                        have ea3 := (frr_at fL337 (by decide) (by decide) o_v0).trans ea3
                        have ea66 := (frr_at fL337 (by decide) (by decide) o_a3).trans ea66
                        have ea69 := (frr_at fL337 (by decide) (by decide) o_a3).trans ea69
                        have ea314 := (frr_at fL337 (by decide) (by decide) o_a3).trans ea314
                        have ea318 := (frr_at fL337 (by decide) (by decide) o_v0).trans ea318
                        have ea325 := (frr_at fL337 (by decide) (by decide) o_a3).trans ea325
                        have f0 := fri_tr (S := S331) g0 f0 fL337 (by decide) (by decide)
                        have o_a3 := gr_ob gL336 o_a3
                        have o_a314 := gr_ob gL336 o_a314
                        have o_a318 := gr_ob gL336 o_a318
                        have o_a325 := gr_ob gL336 o_a325
                        have o_a66 := gr_ob gL336 o_a66
                        have o_a69 := gr_ob gL336 o_a69
                        have o_v0 := gr_ob gL336 o_v0
                        have g0 := gr_tr (T := S331) g0 gL336
                        refine u_X11_go_119 ?_
                        refine ⟨fun c351 => ?_, fun c351 => ?_⟩
                        · refine u_X11_go_171 ?_
                          refine ⟨o_v0, ?_⟩
                          refine ⟨a318, ea318, ?_⟩
                          refine ⟨a3, ea3, ?_⟩
                          refine ⟨o_a3, ?_⟩
                          refine u_X10_ends ?_
                          refine u_X10_ends_0 ?_
                          refine ⟨fun c354 => ?_, fun c354 => ?_⟩
                          · refine ⟨o_a3, ?_⟩
                            refine ⟨a314, ea314, ?_⟩
                            refine ⟨o_a314, ?_⟩
                            refine ⟨(vin l_a314 (m := 12) (by decide) (qm120 r_x12 r_y13 wh_x12 c14 c26 r_x35 c36 c46 c54 r_x64 q_x64 wh_x64 g_x67 g_x70 c71 c80 c93 g_x315 r_y316 gl_x315 dr_x319 c320 dr_x322 ex323 g_x326 ex327 dv_x327 dw_x327 c329 i1u334 c351 c354)), ?_⟩
                            intro x356 ex356
                            have gy_x356 : 0 ≤ v1 ∧ v1 < fI S335 a3 3 := by rw [← d_x35]; exact (qm121 r_x12 r_y13 wh_x12 c14 c26 r_x35 c36 c46 c54 r_x64 q_x64 wh_x64 g_x67 g_x70 c71 c80 c93 g_x315 r_y316 gl_x315 dr_x319 c320 dr_x322 ex323 g_x326 ex327 dv_x327 dw_x327 c329 i1u334 c351 c354)
                            have g_x356 : (0 : Int32) ≤ x356 ∧ x356 ≤ (7 : Int32) := by rw [ex356]; exact wg_at (ml_wg hI o_v0 ea3) 0 rfl gy_x356 ea314
                            have gl_x356 : x356 < y316 := by rw [ex356, d_y316]; exact wg_lt (ml_wg hI o_v0 ea3) 0 rfl (by decide) gy_x356 ea314
                            intro _
                            refine ⟨o_a318, ?_⟩
                            intro x358 ex358
                            have i359 : vp_in (0 : Int32) (hN _ a318) := (vin l_a318 (m := 7) (by decide) (qm122 r_x12 r_y13 wh_x12 c14 c26 r_x35 c36 c46 c54 r_x64 q_x64 wh_x64 g_x67 g_x70 c71 c80 c93 g_x315 r_y316 gl_x315 dr_x319 c320 dr_x322 ex323 g_x326 ex327 dv_x327 dw_x327 c329 i1u334 c351 c354 g_x356 gl_x356 ex358))
                            refine ⟨i359, ?_⟩
                            intro S360 eS360
                            have hI : IV S360 := by rw [eS360]; exact iv11_aD hI (de_0 (by rw [ex358]; exact i2l_rng (lo := 0) (hi := 7) (qm123 r_x12 r_y13 wh_x12 c14 c26 r_x35 c36 c46 c54 r_x64 q_x64 wh_x64 g_x67 g_x70 c71 c80 c93 g_x315 r_y316 gl_x315 dr_x319 c320 dr_x322 ex323 g_x326 ex327 dv_x327 dw_x327 c329 i1u334 c351 c354 g_x356 gl_x356 ex358)))
                            have f0 := fr_J eS360 f0
                            have d_y2 := rd_J eS360 d_y2
                            have d_x64 := rd_J eS360 d_x64
                            have d_y13 := rd_J eS360 d_y13
                            have d_x35 := rd_J eS360 d_x35
                            have d_y316 := rd_J eS360 d_y316
                            have ea3 := rf_J eS360 ea3
                            have ea66 := rf_J eS360 ea66
                            have ea69 := rf_J eS360 ea69
                            have ea314 := rf_J eS360 ea314
                            have ea318 := rf_J eS360 ea318
                            have ea325 := rf_J eS360 ea325
                            have l_a314 := ln_J eS360 l_a314
                            have l_a318 := ln_J eS360 l_a318
                            have l_a325 := ln_J eS360 l_a325
                            have l_a66 := ln_J eS360 l_a66
                            have l_a69 := ln_J eS360 l_a69
                            have g0 := gr_J eS360 g0
                            have o_a3 := ob_J eS360 o_a3
                            have o_a314 := ob_J eS360 o_a314
                            have o_a318 := ob_J eS360 o_a318
                            have o_a325 := ob_J eS360 o_a325
                            have o_a66 := ob_J eS360 o_a66
                            have o_a69 := ob_J eS360 o_a69
                            have o_v0 := ob_J eS360 o_v0
                            refine ⟨a318, ea318, ?_⟩
                            refine ⟨a3, ea3, ?_⟩
                            refine ⟨o_a3, ?_⟩
                            refine u_X10_minutes ?_
                            refine u_X10_minutes_0 ?_
                            refine ⟨o_a3, ?_⟩
                            refine ⟨a325, ea325, ?_⟩
                            refine ⟨o_a325, ?_⟩
                            refine ⟨(vin l_a325 (m := 12) (by decide) (qm124 r_x12 r_y13 wh_x12 c14 c26 r_x35 c36 c46 c54 r_x64 q_x64 wh_x64 g_x67 g_x70 c71 c80 c93 g_x315 r_y316 gl_x315 dr_x319 c320 dr_x322 ex323 g_x326 ex327 dv_x327 dw_x327 c329 i1u334 c351 c354 g_x356 gl_x356 ex358)), ?_⟩
                            intro x364 ex364
                            have gy_x364 : 0 ≤ v1 ∧ v1 < fI S360 a3 3 := by rw [← d_x35]; exact (qm125 r_x12 r_y13 wh_x12 c14 c26 r_x35 c36 c46 c54 r_x64 q_x64 wh_x64 g_x67 g_x70 c71 c80 c93 g_x315 r_y316 gl_x315 dr_x319 c320 dr_x322 ex323 g_x326 ex327 dv_x327 dw_x327 c329 i1u334 c351 c354 g_x356 gl_x356 ex358)
                            have g_x364 : (1 : Int32) ≤ x364 ∧ x364 ≤ (60 : Int32) := by rw [ex364]; exact wg_at (ml_wg hI o_v0 ea3) 2 rfl gy_x364 ea325
                            refine ⟨(qm126 r_x12 r_y13 wh_x12 c14 c26 r_x35 c36 c46 c54 r_x64 q_x64 wh_x64 g_x67 g_x70 c71 c80 c93 g_x315 r_y316 gl_x315 dr_x319 c320 dr_x322 ex323 g_x326 ex327 dv_x327 dw_x327 c329 i1u334 c351 c354 g_x356 gl_x356 ex358), ?_⟩
                            intro x365 ex365
                            have dv_x365 : 0 ≤ x365 ∧ x365 ≤ ((x364 + v3) - (1 : Int32)) := by rw [ex365]; exact dv0 (qm127 r_x12 r_y13 wh_x12 c14 c26 r_x35 c36 c46 c54 r_x64 q_x64 wh_x64 g_x67 g_x70 c71 c80 c93 g_x315 r_y316 gl_x315 dr_x319 c320 dr_x322 ex323 g_x326 ex327 dv_x327 dw_x327 c329 i1u334 c351 c354 g_x356 gl_x356 ex358 g_x364 ex365) (i32pos (qm128 r_x12 r_y13 wh_x12 c14 c26 r_x35 c36 c46 c54 r_x64 q_x64 wh_x64 g_x67 g_x70 c71 c80 c93 g_x315 r_y316 gl_x315 dr_x319 c320 dr_x322 ex323 g_x326 ex327 dv_x327 dw_x327 c329 i1u334 c351 c354 g_x356 gl_x356 ex358 g_x364 ex365))
                            have dw_x365 : (1 : Int32) ≤ x365 := by rw [ex365]; exact dv1 (qm129 r_x12 r_y13 wh_x12 c14 c26 r_x35 c36 c46 c54 r_x64 q_x64 wh_x64 g_x67 g_x70 c71 c80 c93 g_x315 r_y316 gl_x315 dr_x319 c320 dr_x322 ex323 g_x326 ex327 dv_x327 dw_x327 c329 i1u334 c351 c354 g_x356 gl_x356 ex358 g_x364 ex365) (qm130 r_x12 r_y13 wh_x12 c14 c26 r_x35 c36 c46 c54 r_x64 q_x64 wh_x64 g_x67 g_x70 c71 c80 c93 g_x315 r_y316 gl_x315 dr_x319 c320 dr_x322 ex323 g_x326 ex327 dv_x327 dw_x327 c329 i1u334 c351 c354 g_x356 gl_x356 ex358 g_x364 ex365)
                            intro _
                            refine ⟨o_a318, ?_⟩
                            intro x367 ex367
                            have i368 : vp_in (1 : Int32) (hN _ a318) := (vin l_a318 (m := 7) (by decide) (qm131 r_x12 r_y13 wh_x12 c14 c26 r_x35 c36 c46 c54 r_x64 q_x64 wh_x64 g_x67 g_x70 c71 c80 c93 g_x315 r_y316 gl_x315 dr_x319 c320 dr_x322 ex323 g_x326 ex327 dv_x327 dw_x327 c329 i1u334 c351 c354 g_x356 gl_x356 ex358 g_x364 ex365 dv_x365 dw_x365 ex367))
                            refine ⟨i368, ?_⟩
                            intro S369 eS369
                            have hI : IV S369 := by rw [eS369]; exact iv11_aD hI (de_1 (by rw [ex367]; exact i2l_rng (lo := 0) (hi := 999) (qm132 r_x12 r_y13 wh_x12 c14 c26 r_x35 c36 c46 c54 r_x64 q_x64 wh_x64 g_x67 g_x70 c71 c80 c93 g_x315 r_y316 gl_x315 dr_x319 c320 dr_x322 ex323 g_x326 ex327 dv_x327 dw_x327 c329 i1u334 c351 c354 g_x356 gl_x356 ex358 g_x364 ex365 dv_x365 dw_x365 ex367)))
                            have f0 := fr_J eS369 f0
                            have d_y2 := rd_J eS369 d_y2
                            have d_x64 := rd_J eS369 d_x64
                            have d_y13 := rd_J eS369 d_y13
                            have d_x35 := rd_J eS369 d_x35
                            have d_y316 := rd_J eS369 d_y316
                            have ea3 := rf_J eS369 ea3
                            have ea66 := rf_J eS369 ea66
                            have ea69 := rf_J eS369 ea69
                            have ea314 := rf_J eS369 ea314
                            have ea318 := rf_J eS369 ea318
                            have ea325 := rf_J eS369 ea325
                            have l_a314 := ln_J eS369 l_a314
                            have l_a318 := ln_J eS369 l_a318
                            have l_a325 := ln_J eS369 l_a325
                            have l_a66 := ln_J eS369 l_a66
                            have l_a69 := ln_J eS369 l_a69
                            have g0 := gr_J eS369 g0
                            have o_a3 := ob_J eS369 o_a3
                            have o_a314 := ob_J eS369 o_a314
                            have o_a318 := ob_J eS369 o_a318
                            have o_a325 := ob_J eS369 o_a325
                            have o_a66 := ob_J eS369 o_a66
                            have o_a69 := ob_J eS369 o_a69
                            have o_v0 := ob_J eS369 o_v0
                            refine ⟨a318, ea318, ?_⟩
                            refine ⟨o_a318, ?_⟩
                            refine ⟨(vin l_a318 (m := 7) (by decide) (qm131 r_x12 r_y13 wh_x12 c14 c26 r_x35 c36 c46 c54 r_x64 q_x64 wh_x64 g_x67 g_x70 c71 c80 c93 g_x315 r_y316 gl_x315 dr_x319 c320 dr_x322 ex323 g_x326 ex327 dv_x327 dw_x327 c329 i1u334 c351 c354 g_x356 gl_x356 ex358 g_x364 ex365 dv_x365 dw_x365 ex367)), ?_⟩
                            intro x371 ex371
                            have de_x371 := ml_de hI o_v0 (j := 21) (by decide) ea318 (1 : Int32).toNatClampNeg
                            rw [← ex371] at de_x371
                            have dr_x371 : (0 : Int64) ≤ x371 ∧ x371 ≤ (999 : Int64) := de_x371.2 (by decide)
                            refine u_X11_good ?_
                            refine u_X11_good_0 ?_
                            refine ⟨o_v0, ?_⟩
                            intro S372 eS372
                            have hI : IV S372 := by rw [eS372]; exact iv11_sI hI o_v0 (by decide) (nu_free (by decide))
                            have f0 := fr_I eS372 g0 f0 o_v0 (by decide)
                            have d_y2 := rd_Ij eS372 (by decide) d_y2
                            have d_x64 := rd_Ij eS372 (by decide) d_x64
                            have d_y13 := rd_Ik eS372 o_v0 o_a3 (by decide) d_y13
                            have d_x35 := rd_Ik eS372 o_v0 o_a3 (by decide) d_x35
                            have d_y316 := rd_Ik eS372 o_v0 o_a3 (by decide) d_y316
                            obtain ⟨y373, hy373⟩ : ∃ z : Int32, z = (0 : Int32) := ⟨_, rfl⟩
                            have d_y373 := rd_Is eS372 hy373
                            have ea3 := rf_I eS372 ea3
                            have ea66 := rf_I eS372 ea66
                            have ea69 := rf_I eS372 ea69
                            have ea314 := rf_I eS372 ea314
                            have ea318 := rf_I eS372 ea318
                            have ea325 := rf_I eS372 ea325
                            have l_a314 := ln_I eS372 l_a314
                            have l_a318 := ln_I eS372 l_a318
                            have l_a325 := ln_I eS372 l_a325
                            have l_a66 := ln_I eS372 l_a66
                            have l_a69 := ln_I eS372 l_a69
                            have g0 := gr_I eS372 g0
                            have o_a3 := ob_I eS372 o_a3
                            have o_a314 := ob_I eS372 o_a314
                            have o_a318 := ob_I eS372 o_a318
                            have o_a325 := ob_I eS372 o_a325
                            have o_a66 := ob_I eS372 o_a66
                            have o_a69 := ob_I eS372 o_a69
                            have o_v0 := ob_I eS372 o_v0
                            intro S374 eS374
                            have hI : IV S374 := by rw [eS374]; exact iv11_sI hI o_v0 (by decide) (nu_free (by decide))
                            have f0 := fr_I eS374 g0 f0 o_v0 (by decide)
                            have d_y2 := rd_Ij eS374 (by decide) d_y2
                            have d_x64 := rd_Ij eS374 (by decide) d_x64
                            have d_y13 := rd_Ik eS374 o_v0 o_a3 (by decide) d_y13
                            have d_x35 := rd_Ik eS374 o_v0 o_a3 (by decide) d_x35
                            have d_y316 := rd_Ik eS374 o_v0 o_a3 (by decide) d_y316
                            have d_y373 := rd_Ij eS374 (by decide) d_y373
                            obtain ⟨y375, hy375⟩ : ∃ z : Int32, z = (-1 : Int32) := ⟨_, rfl⟩
                            have d_y375 := rd_Is eS374 hy375
                            have ea3 := rf_I eS374 ea3
                            have ea66 := rf_I eS374 ea66
                            have ea69 := rf_I eS374 ea69
                            have ea314 := rf_I eS374 ea314
                            have ea318 := rf_I eS374 ea318
                            have ea325 := rf_I eS374 ea325
                            have l_a314 := ln_I eS374 l_a314
                            have l_a318 := ln_I eS374 l_a318
                            have l_a325 := ln_I eS374 l_a325
                            have l_a66 := ln_I eS374 l_a66
                            have l_a69 := ln_I eS374 l_a69
                            have g0 := gr_I eS374 g0
                            have o_a3 := ob_I eS374 o_a3
                            have o_a314 := ob_I eS374 o_a314
                            have o_a318 := ob_I eS374 o_a318
                            have o_a325 := ob_I eS374 o_a325
                            have o_a66 := ob_I eS374 o_a66
                            have o_a69 := ob_I eS374 o_a69
                            have o_v0 := ob_I eS374 o_v0
                            intro _
                            exact hq _ _ hI g0 f0
                          · refine ⟨o_a3, ?_⟩
                            obtain ⟨a377, ea377, o_a377, l_a377⟩ := shl 36 rfl hI o_a3
                            refine ⟨a377, ea377, ?_⟩
                            refine ⟨o_a377, ?_⟩
                            refine ⟨(vin l_a377 (m := 12) (by decide) (qm133 r_x12 r_y13 wh_x12 c14 c26 r_x35 c36 c46 c54 r_x64 q_x64 wh_x64 g_x67 g_x70 c71 c80 c93 g_x315 r_y316 gl_x315 dr_x319 c320 dr_x322 ex323 g_x326 ex327 dv_x327 dw_x327 c329 i1u334 c351 c354)), ?_⟩
                            intro x378 ex378
                            have gy_x378 : 0 ≤ v1 ∧ v1 < fI S335 a3 3 := by rw [← d_x35]; exact (qm134 r_x12 r_y13 wh_x12 c14 c26 r_x35 c36 c46 c54 r_x64 q_x64 wh_x64 g_x67 g_x70 c71 c80 c93 g_x315 r_y316 gl_x315 dr_x319 c320 dr_x322 ex323 g_x326 ex327 dv_x327 dw_x327 c329 i1u334 c351 c354)
                            have g_x378 : (0 : Int32) ≤ x378 ∧ x378 ≤ (7 : Int32) := by rw [ex378]; exact wg_at (ml_wg hI o_v0 ea3) 1 rfl gy_x378 ea377
                            have gl_x378 : x378 < y316 := by rw [ex378, d_y316]; exact wg_lt (ml_wg hI o_v0 ea3) 1 rfl (by decide) gy_x378 ea377
                            intro _
                            refine ⟨o_a318, ?_⟩
                            intro x380 ex380
                            have i381 : vp_in (0 : Int32) (hN _ a318) := (vin l_a318 (m := 7) (by decide) (qm135 r_x12 r_y13 wh_x12 c14 c26 r_x35 c36 c46 c54 r_x64 q_x64 wh_x64 g_x67 g_x70 c71 c80 c93 g_x315 r_y316 gl_x315 dr_x319 c320 dr_x322 ex323 g_x326 ex327 dv_x327 dw_x327 c329 i1u334 c351 c354 g_x378 gl_x378 ex380))
                            refine ⟨i381, ?_⟩
                            intro S382 eS382
                            have hI : IV S382 := by rw [eS382]; exact iv11_aD hI (de_0 (by rw [ex380]; exact i2l_rng (lo := 0) (hi := 7) (qm136 r_x12 r_y13 wh_x12 c14 c26 r_x35 c36 c46 c54 r_x64 q_x64 wh_x64 g_x67 g_x70 c71 c80 c93 g_x315 r_y316 gl_x315 dr_x319 c320 dr_x322 ex323 g_x326 ex327 dv_x327 dw_x327 c329 i1u334 c351 c354 g_x378 gl_x378 ex380)))
                            have f0 := fr_J eS382 f0
                            have d_y2 := rd_J eS382 d_y2
                            have d_x64 := rd_J eS382 d_x64
                            have d_y13 := rd_J eS382 d_y13
                            have d_x35 := rd_J eS382 d_x35
                            have d_y316 := rd_J eS382 d_y316
                            have ea3 := rf_J eS382 ea3
                            have ea66 := rf_J eS382 ea66
                            have ea69 := rf_J eS382 ea69
                            have ea314 := rf_J eS382 ea314
                            have ea318 := rf_J eS382 ea318
                            have ea325 := rf_J eS382 ea325
                            have ea377 := rf_J eS382 ea377
                            have l_a314 := ln_J eS382 l_a314
                            have l_a318 := ln_J eS382 l_a318
                            have l_a325 := ln_J eS382 l_a325
                            have l_a377 := ln_J eS382 l_a377
                            have l_a66 := ln_J eS382 l_a66
                            have l_a69 := ln_J eS382 l_a69
                            have g0 := gr_J eS382 g0
                            have o_a3 := ob_J eS382 o_a3
                            have o_a314 := ob_J eS382 o_a314
                            have o_a318 := ob_J eS382 o_a318
                            have o_a325 := ob_J eS382 o_a325
                            have o_a377 := ob_J eS382 o_a377
                            have o_a66 := ob_J eS382 o_a66
                            have o_a69 := ob_J eS382 o_a69
                            have o_v0 := ob_J eS382 o_v0
                            refine ⟨a318, ea318, ?_⟩
                            refine ⟨a3, ea3, ?_⟩
                            refine ⟨o_a3, ?_⟩
                            refine u_X10_minutes ?_
                            refine u_X10_minutes_0 ?_
                            refine ⟨o_a3, ?_⟩
                            refine ⟨a325, ea325, ?_⟩
                            refine ⟨o_a325, ?_⟩
                            refine ⟨(vin l_a325 (m := 12) (by decide) (qm137 r_x12 r_y13 wh_x12 c14 c26 r_x35 c36 c46 c54 r_x64 q_x64 wh_x64 g_x67 g_x70 c71 c80 c93 g_x315 r_y316 gl_x315 dr_x319 c320 dr_x322 ex323 g_x326 ex327 dv_x327 dw_x327 c329 i1u334 c351 c354 g_x378 gl_x378 ex380)), ?_⟩
                            intro x386 ex386
                            have gy_x386 : 0 ≤ v1 ∧ v1 < fI S382 a3 3 := by rw [← d_x35]; exact (qm138 r_x12 r_y13 wh_x12 c14 c26 r_x35 c36 c46 c54 r_x64 q_x64 wh_x64 g_x67 g_x70 c71 c80 c93 g_x315 r_y316 gl_x315 dr_x319 c320 dr_x322 ex323 g_x326 ex327 dv_x327 dw_x327 c329 i1u334 c351 c354 g_x378 gl_x378 ex380)
                            have g_x386 : (1 : Int32) ≤ x386 ∧ x386 ≤ (60 : Int32) := by rw [ex386]; exact wg_at (ml_wg hI o_v0 ea3) 2 rfl gy_x386 ea325
                            refine ⟨(qm139 r_x12 r_y13 wh_x12 c14 c26 r_x35 c36 c46 c54 r_x64 q_x64 wh_x64 g_x67 g_x70 c71 c80 c93 g_x315 r_y316 gl_x315 dr_x319 c320 dr_x322 ex323 g_x326 ex327 dv_x327 dw_x327 c329 i1u334 c351 c354 g_x378 gl_x378 ex380), ?_⟩
                            intro x387 ex387
                            have dv_x387 : 0 ≤ x387 ∧ x387 ≤ ((x386 + v3) - (1 : Int32)) := by rw [ex387]; exact dv0 (qm140 r_x12 r_y13 wh_x12 c14 c26 r_x35 c36 c46 c54 r_x64 q_x64 wh_x64 g_x67 g_x70 c71 c80 c93 g_x315 r_y316 gl_x315 dr_x319 c320 dr_x322 ex323 g_x326 ex327 dv_x327 dw_x327 c329 i1u334 c351 c354 g_x378 gl_x378 ex380 g_x386 ex387) (i32pos (qm141 r_x12 r_y13 wh_x12 c14 c26 r_x35 c36 c46 c54 r_x64 q_x64 wh_x64 g_x67 g_x70 c71 c80 c93 g_x315 r_y316 gl_x315 dr_x319 c320 dr_x322 ex323 g_x326 ex327 dv_x327 dw_x327 c329 i1u334 c351 c354 g_x378 gl_x378 ex380 g_x386 ex387))
                            have dw_x387 : (1 : Int32) ≤ x387 := by rw [ex387]; exact dv1 (qm142 r_x12 r_y13 wh_x12 c14 c26 r_x35 c36 c46 c54 r_x64 q_x64 wh_x64 g_x67 g_x70 c71 c80 c93 g_x315 r_y316 gl_x315 dr_x319 c320 dr_x322 ex323 g_x326 ex327 dv_x327 dw_x327 c329 i1u334 c351 c354 g_x378 gl_x378 ex380 g_x386 ex387) (qm143 r_x12 r_y13 wh_x12 c14 c26 r_x35 c36 c46 c54 r_x64 q_x64 wh_x64 g_x67 g_x70 c71 c80 c93 g_x315 r_y316 gl_x315 dr_x319 c320 dr_x322 ex323 g_x326 ex327 dv_x327 dw_x327 c329 i1u334 c351 c354 g_x378 gl_x378 ex380 g_x386 ex387)
                            intro _
                            refine ⟨o_a318, ?_⟩
                            intro x389 ex389
                            have i390 : vp_in (1 : Int32) (hN _ a318) := (vin l_a318 (m := 7) (by decide) (qm144 r_x12 r_y13 wh_x12 c14 c26 r_x35 c36 c46 c54 r_x64 q_x64 wh_x64 g_x67 g_x70 c71 c80 c93 g_x315 r_y316 gl_x315 dr_x319 c320 dr_x322 ex323 g_x326 ex327 dv_x327 dw_x327 c329 i1u334 c351 c354 g_x378 gl_x378 ex380 g_x386 ex387 dv_x387 dw_x387 ex389))
                            refine ⟨i390, ?_⟩
                            intro S391 eS391
                            have hI : IV S391 := by rw [eS391]; exact iv11_aD hI (de_1 (by rw [ex389]; exact i2l_rng (lo := 0) (hi := 999) (qm145 r_x12 r_y13 wh_x12 c14 c26 r_x35 c36 c46 c54 r_x64 q_x64 wh_x64 g_x67 g_x70 c71 c80 c93 g_x315 r_y316 gl_x315 dr_x319 c320 dr_x322 ex323 g_x326 ex327 dv_x327 dw_x327 c329 i1u334 c351 c354 g_x378 gl_x378 ex380 g_x386 ex387 dv_x387 dw_x387 ex389)))
                            have f0 := fr_J eS391 f0
                            have d_y2 := rd_J eS391 d_y2
                            have d_x64 := rd_J eS391 d_x64
                            have d_y13 := rd_J eS391 d_y13
                            have d_x35 := rd_J eS391 d_x35
                            have d_y316 := rd_J eS391 d_y316
                            have ea3 := rf_J eS391 ea3
                            have ea66 := rf_J eS391 ea66
                            have ea69 := rf_J eS391 ea69
                            have ea314 := rf_J eS391 ea314
                            have ea318 := rf_J eS391 ea318
                            have ea325 := rf_J eS391 ea325
                            have ea377 := rf_J eS391 ea377
                            have l_a314 := ln_J eS391 l_a314
                            have l_a318 := ln_J eS391 l_a318
                            have l_a325 := ln_J eS391 l_a325
                            have l_a377 := ln_J eS391 l_a377
                            have l_a66 := ln_J eS391 l_a66
                            have l_a69 := ln_J eS391 l_a69
                            have g0 := gr_J eS391 g0
                            have o_a3 := ob_J eS391 o_a3
                            have o_a314 := ob_J eS391 o_a314
                            have o_a318 := ob_J eS391 o_a318
                            have o_a325 := ob_J eS391 o_a325
                            have o_a377 := ob_J eS391 o_a377
                            have o_a66 := ob_J eS391 o_a66
                            have o_a69 := ob_J eS391 o_a69
                            have o_v0 := ob_J eS391 o_v0
                            refine ⟨a318, ea318, ?_⟩
                            refine ⟨o_a318, ?_⟩
                            refine ⟨(vin l_a318 (m := 7) (by decide) (qm144 r_x12 r_y13 wh_x12 c14 c26 r_x35 c36 c46 c54 r_x64 q_x64 wh_x64 g_x67 g_x70 c71 c80 c93 g_x315 r_y316 gl_x315 dr_x319 c320 dr_x322 ex323 g_x326 ex327 dv_x327 dw_x327 c329 i1u334 c351 c354 g_x378 gl_x378 ex380 g_x386 ex387 dv_x387 dw_x387 ex389)), ?_⟩
                            intro x393 ex393
                            have de_x393 := ml_de hI o_v0 (j := 21) (by decide) ea318 (1 : Int32).toNatClampNeg
                            rw [← ex393] at de_x393
                            have dr_x393 : (0 : Int64) ≤ x393 ∧ x393 ≤ (999 : Int64) := de_x393.2 (by decide)
                            refine u_X11_good ?_
                            refine u_X11_good_0 ?_
                            refine ⟨o_v0, ?_⟩
                            intro S394 eS394
                            have hI : IV S394 := by rw [eS394]; exact iv11_sI hI o_v0 (by decide) (nu_free (by decide))
                            have f0 := fr_I eS394 g0 f0 o_v0 (by decide)
                            have d_y2 := rd_Ij eS394 (by decide) d_y2
                            have d_x64 := rd_Ij eS394 (by decide) d_x64
                            have d_y13 := rd_Ik eS394 o_v0 o_a3 (by decide) d_y13
                            have d_x35 := rd_Ik eS394 o_v0 o_a3 (by decide) d_x35
                            have d_y316 := rd_Ik eS394 o_v0 o_a3 (by decide) d_y316
                            obtain ⟨y395, hy395⟩ : ∃ z : Int32, z = (0 : Int32) := ⟨_, rfl⟩
                            have d_y395 := rd_Is eS394 hy395
                            have ea3 := rf_I eS394 ea3
                            have ea66 := rf_I eS394 ea66
                            have ea69 := rf_I eS394 ea69
                            have ea314 := rf_I eS394 ea314
                            have ea318 := rf_I eS394 ea318
                            have ea325 := rf_I eS394 ea325
                            have ea377 := rf_I eS394 ea377
                            have l_a314 := ln_I eS394 l_a314
                            have l_a318 := ln_I eS394 l_a318
                            have l_a325 := ln_I eS394 l_a325
                            have l_a377 := ln_I eS394 l_a377
                            have l_a66 := ln_I eS394 l_a66
                            have l_a69 := ln_I eS394 l_a69
                            have g0 := gr_I eS394 g0
                            have o_a3 := ob_I eS394 o_a3
                            have o_a314 := ob_I eS394 o_a314
                            have o_a318 := ob_I eS394 o_a318
                            have o_a325 := ob_I eS394 o_a325
                            have o_a377 := ob_I eS394 o_a377
                            have o_a66 := ob_I eS394 o_a66
                            have o_a69 := ob_I eS394 o_a69
                            have o_v0 := ob_I eS394 o_v0
                            intro S396 eS396
                            have hI : IV S396 := by rw [eS396]; exact iv11_sI hI o_v0 (by decide) (nu_free (by decide))
                            have f0 := fr_I eS396 g0 f0 o_v0 (by decide)
                            have d_y2 := rd_Ij eS396 (by decide) d_y2
                            have d_x64 := rd_Ij eS396 (by decide) d_x64
                            have d_y13 := rd_Ik eS396 o_v0 o_a3 (by decide) d_y13
                            have d_x35 := rd_Ik eS396 o_v0 o_a3 (by decide) d_x35
                            have d_y316 := rd_Ik eS396 o_v0 o_a3 (by decide) d_y316
                            have d_y395 := rd_Ij eS396 (by decide) d_y395
                            obtain ⟨y397, hy397⟩ : ∃ z : Int32, z = (-1 : Int32) := ⟨_, rfl⟩
                            have d_y397 := rd_Is eS396 hy397
                            have ea3 := rf_I eS396 ea3
                            have ea66 := rf_I eS396 ea66
                            have ea69 := rf_I eS396 ea69
                            have ea314 := rf_I eS396 ea314
                            have ea318 := rf_I eS396 ea318
                            have ea325 := rf_I eS396 ea325
                            have ea377 := rf_I eS396 ea377
                            have l_a314 := ln_I eS396 l_a314
                            have l_a318 := ln_I eS396 l_a318
                            have l_a325 := ln_I eS396 l_a325
                            have l_a377 := ln_I eS396 l_a377
                            have l_a66 := ln_I eS396 l_a66
                            have l_a69 := ln_I eS396 l_a69
                            have g0 := gr_I eS396 g0
                            have o_a3 := ob_I eS396 o_a3
                            have o_a314 := ob_I eS396 o_a314
                            have o_a318 := ob_I eS396 o_a318
                            have o_a325 := ob_I eS396 o_a325
                            have o_a377 := ob_I eS396 o_a377
                            have o_a66 := ob_I eS396 o_a66
                            have o_a69 := ob_I eS396 o_a69
                            have o_v0 := ob_I eS396 o_v0
                            intro _
                            exact hq _ _ hI g0 f0
                        · refine ⟨o_v0, ?_⟩
                          refine u_X11_rainsIn ?_
                          refine u_X11_rainsIn_0 ?_
                          refine ⟨o_v0, ?_⟩
                          refine u_X11_hourOf ?_
                          refine u_X11_hourOf_0 ?_
                          refine ⟨o_v0, ?_⟩
                          refine ⟨a3, ea3, ?_⟩
                          refine ⟨o_a3, ?_⟩
                          intro x400 ex400
                          have r_x400 : (0 : Int32) ≤ x400 ∧ x400 ≤ (60 : Int32) := by rw [ex400]; exact nu 16 rfl hI o_a3
                          have d_x400 := ex400
                          have hh_x400 : 1 ≤ x400 := by rw [ex400]; exact ml_hour hI o_v0 ea3
                          refine ⟨(qm146 r_x12 r_y13 wh_x12 c14 c26 r_x35 c36 c46 c54 r_x64 q_x64 wh_x64 g_x67 g_x70 c71 c80 c93 g_x315 r_y316 gl_x315 dr_x319 c320 dr_x322 ex323 g_x326 ex327 dv_x327 dw_x327 c329 i1u334 c351 r_x400 hh_x400), ?_⟩
                          intro x401 ex401
                          have dv_x401 : 0 ≤ x401 ∧ x401 ≤ x323 := by rw [ex401]; exact dv0 (qm147 r_x12 r_y13 wh_x12 c14 c26 r_x35 c36 c46 c54 r_x64 q_x64 wh_x64 g_x67 g_x70 c71 c80 c93 g_x315 r_y316 gl_x315 dr_x319 c320 dr_x322 ex323 g_x326 ex327 dv_x327 dw_x327 c329 i1u334 c351 r_x400 hh_x400 ex401) (i32pos (qm148 r_x12 r_y13 wh_x12 c14 c26 r_x35 c36 c46 c54 r_x64 q_x64 wh_x64 g_x67 g_x70 c71 c80 c93 g_x315 r_y316 gl_x315 dr_x319 c320 dr_x322 ex323 g_x326 ex327 dv_x327 dw_x327 c329 i1u334 c351 r_x400 hh_x400 ex401))
                          intro _
                          refine ⟨a3, ea3, ?_⟩
                          refine ⟨o_a3, ?_⟩
                          intro x404 ex404
                          have r_x404 : (0 : Int32) ≤ x404 ∧ x404 ≤ (6 : Int32) := by rw [ex404]; exact nu 17 rfl hI o_a3
                          have d_x404 := ex404
                          refine ⟨fun c405 => ?_, fun c405 => ?_⟩
                          · intro _ _
                            refine ⟨fun c407 => ?_, fun c407 => absurd (show ¬ (0 : Int32) = 0 from c407) (by decide)⟩
                            refine u_X11_go_171 ?_
                            refine ⟨o_v0, ?_⟩
                            refine ⟨a318, ea318, ?_⟩
                            refine ⟨a3, ea3, ?_⟩
                            refine ⟨o_a3, ?_⟩
                            refine u_X10_ends ?_
                            refine u_X10_ends_0 ?_
                            refine ⟨fun c410 => ?_, fun c410 => ?_⟩
                            · refine ⟨o_a3, ?_⟩
                              refine ⟨a314, ea314, ?_⟩
                              refine ⟨o_a314, ?_⟩
                              refine ⟨(vin l_a314 (m := 12) (by decide) (qm149 r_x12 r_y13 wh_x12 c14 c26 r_x35 c36 c46 c54 r_x64 q_x64 wh_x64 g_x67 g_x70 c71 c80 c93 g_x315 r_y316 gl_x315 dr_x319 c320 dr_x322 ex323 g_x326 ex327 dv_x327 dw_x327 c329 i1u334 c351 r_x400 hh_x400 ex401 dv_x401 r_x404 c405 c410)), ?_⟩
                              intro x412 ex412
                              have gy_x412 : 0 ≤ v1 ∧ v1 < fI S335 a3 3 := by rw [← d_x35]; exact (qm150 r_x12 r_y13 wh_x12 c14 c26 r_x35 c36 c46 c54 r_x64 q_x64 wh_x64 g_x67 g_x70 c71 c80 c93 g_x315 r_y316 gl_x315 dr_x319 c320 dr_x322 ex323 g_x326 ex327 dv_x327 dw_x327 c329 i1u334 c351 r_x400 hh_x400 ex401 dv_x401 r_x404 c405 c410)
                              have g_x412 : (0 : Int32) ≤ x412 ∧ x412 ≤ (7 : Int32) := by rw [ex412]; exact wg_at (ml_wg hI o_v0 ea3) 0 rfl gy_x412 ea314
                              have gl_x412 : x412 < y316 := by rw [ex412, d_y316]; exact wg_lt (ml_wg hI o_v0 ea3) 0 rfl (by decide) gy_x412 ea314
                              intro _
                              refine ⟨o_a318, ?_⟩
                              intro x414 ex414
                              have i415 : vp_in (0 : Int32) (hN _ a318) := (vin l_a318 (m := 7) (by decide) (qm151 r_x12 r_y13 wh_x12 c14 c26 r_x35 c36 c46 c54 r_x64 q_x64 wh_x64 g_x67 g_x70 c71 c80 c93 g_x315 r_y316 gl_x315 dr_x319 c320 dr_x322 ex323 g_x326 ex327 dv_x327 dw_x327 c329 i1u334 c351 r_x400 hh_x400 ex401 dv_x401 r_x404 c405 c410 g_x412 gl_x412 ex414))
                              refine ⟨i415, ?_⟩
                              intro S416 eS416
                              have hI : IV S416 := by rw [eS416]; exact iv11_aD hI (de_0 (by rw [ex414]; exact i2l_rng (lo := 0) (hi := 7) (qm152 r_x12 r_y13 wh_x12 c14 c26 r_x35 c36 c46 c54 r_x64 q_x64 wh_x64 g_x67 g_x70 c71 c80 c93 g_x315 r_y316 gl_x315 dr_x319 c320 dr_x322 ex323 g_x326 ex327 dv_x327 dw_x327 c329 i1u334 c351 r_x400 hh_x400 ex401 dv_x401 r_x404 c405 c410 g_x412 gl_x412 ex414)))
                              have f0 := fr_J eS416 f0
                              have d_y2 := rd_J eS416 d_y2
                              have d_x64 := rd_J eS416 d_x64
                              have d_y13 := rd_J eS416 d_y13
                              have d_x35 := rd_J eS416 d_x35
                              have d_y316 := rd_J eS416 d_y316
                              have d_x400 := rd_J eS416 d_x400
                              have d_x404 := rd_J eS416 d_x404
                              have ea3 := rf_J eS416 ea3
                              have ea66 := rf_J eS416 ea66
                              have ea69 := rf_J eS416 ea69
                              have ea314 := rf_J eS416 ea314
                              have ea318 := rf_J eS416 ea318
                              have ea325 := rf_J eS416 ea325
                              have l_a314 := ln_J eS416 l_a314
                              have l_a318 := ln_J eS416 l_a318
                              have l_a325 := ln_J eS416 l_a325
                              have l_a66 := ln_J eS416 l_a66
                              have l_a69 := ln_J eS416 l_a69
                              have g0 := gr_J eS416 g0
                              have o_a3 := ob_J eS416 o_a3
                              have o_a314 := ob_J eS416 o_a314
                              have o_a318 := ob_J eS416 o_a318
                              have o_a325 := ob_J eS416 o_a325
                              have o_a66 := ob_J eS416 o_a66
                              have o_a69 := ob_J eS416 o_a69
                              have o_v0 := ob_J eS416 o_v0
                              refine ⟨a318, ea318, ?_⟩
                              refine ⟨a3, ea3, ?_⟩
                              refine ⟨o_a3, ?_⟩
                              refine u_X10_minutes ?_
                              refine u_X10_minutes_0 ?_
                              refine ⟨o_a3, ?_⟩
                              refine ⟨a325, ea325, ?_⟩
                              refine ⟨o_a325, ?_⟩
                              refine ⟨(vin l_a325 (m := 12) (by decide) (qm153 r_x12 r_y13 wh_x12 c14 c26 r_x35 c36 c46 c54 r_x64 q_x64 wh_x64 g_x67 g_x70 c71 c80 c93 g_x315 r_y316 gl_x315 dr_x319 c320 dr_x322 ex323 g_x326 ex327 dv_x327 dw_x327 c329 i1u334 c351 r_x400 hh_x400 ex401 dv_x401 r_x404 c405 c410 g_x412 gl_x412 ex414)), ?_⟩
                              intro x420 ex420
                              have gy_x420 : 0 ≤ v1 ∧ v1 < fI S416 a3 3 := by rw [← d_x35]; exact (qm154 r_x12 r_y13 wh_x12 c14 c26 r_x35 c36 c46 c54 r_x64 q_x64 wh_x64 g_x67 g_x70 c71 c80 c93 g_x315 r_y316 gl_x315 dr_x319 c320 dr_x322 ex323 g_x326 ex327 dv_x327 dw_x327 c329 i1u334 c351 r_x400 hh_x400 ex401 dv_x401 r_x404 c405 c410 g_x412 gl_x412 ex414)
                              have g_x420 : (1 : Int32) ≤ x420 ∧ x420 ≤ (60 : Int32) := by rw [ex420]; exact wg_at (ml_wg hI o_v0 ea3) 2 rfl gy_x420 ea325
                              refine ⟨(qm155 r_x12 r_y13 wh_x12 c14 c26 r_x35 c36 c46 c54 r_x64 q_x64 wh_x64 g_x67 g_x70 c71 c80 c93 g_x315 r_y316 gl_x315 dr_x319 c320 dr_x322 ex323 g_x326 ex327 dv_x327 dw_x327 c329 i1u334 c351 r_x400 hh_x400 ex401 dv_x401 r_x404 c405 c410 g_x412 gl_x412 ex414), ?_⟩
                              intro x421 ex421
                              have dv_x421 : 0 ≤ x421 ∧ x421 ≤ ((x420 + v3) - (1 : Int32)) := by rw [ex421]; exact dv0 (qm156 r_x12 r_y13 wh_x12 c14 c26 r_x35 c36 c46 c54 r_x64 q_x64 wh_x64 g_x67 g_x70 c71 c80 c93 g_x315 r_y316 gl_x315 dr_x319 c320 dr_x322 ex323 g_x326 ex327 dv_x327 dw_x327 c329 i1u334 c351 r_x400 hh_x400 ex401 dv_x401 r_x404 c405 c410 g_x412 gl_x412 ex414 g_x420 ex421) (i32pos (qm157 r_x12 r_y13 wh_x12 c14 c26 r_x35 c36 c46 c54 r_x64 q_x64 wh_x64 g_x67 g_x70 c71 c80 c93 g_x315 r_y316 gl_x315 dr_x319 c320 dr_x322 ex323 g_x326 ex327 dv_x327 dw_x327 c329 i1u334 c351 r_x400 hh_x400 ex401 dv_x401 r_x404 c405 c410 g_x412 gl_x412 ex414 g_x420 ex421))
                              have dw_x421 : (1 : Int32) ≤ x421 := by rw [ex421]; exact dv1 (qm158 r_x12 r_y13 wh_x12 c14 c26 r_x35 c36 c46 c54 r_x64 q_x64 wh_x64 g_x67 g_x70 c71 c80 c93 g_x315 r_y316 gl_x315 dr_x319 c320 dr_x322 ex323 g_x326 ex327 dv_x327 dw_x327 c329 i1u334 c351 r_x400 hh_x400 ex401 dv_x401 r_x404 c405 c410 g_x412 gl_x412 ex414 g_x420 ex421) (qm159 r_x12 r_y13 wh_x12 c14 c26 r_x35 c36 c46 c54 r_x64 q_x64 wh_x64 g_x67 g_x70 c71 c80 c93 g_x315 r_y316 gl_x315 dr_x319 c320 dr_x322 ex323 g_x326 ex327 dv_x327 dw_x327 c329 i1u334 c351 r_x400 hh_x400 ex401 dv_x401 r_x404 c405 c410 g_x412 gl_x412 ex414 g_x420 ex421)
                              intro _
                              refine ⟨o_a318, ?_⟩
                              intro x423 ex423
                              have i424 : vp_in (1 : Int32) (hN _ a318) := (vin l_a318 (m := 7) (by decide) (qm160 r_x12 r_y13 wh_x12 c14 c26 r_x35 c36 c46 c54 r_x64 q_x64 wh_x64 g_x67 g_x70 c71 c80 c93 g_x315 r_y316 gl_x315 dr_x319 c320 dr_x322 ex323 g_x326 ex327 dv_x327 dw_x327 c329 i1u334 c351 r_x400 hh_x400 ex401 dv_x401 r_x404 c405 c410 g_x412 gl_x412 ex414 g_x420 ex421 dv_x421 dw_x421 ex423))
                              refine ⟨i424, ?_⟩
                              intro S425 eS425
                              have hI : IV S425 := by rw [eS425]; exact iv11_aD hI (de_1 (by rw [ex423]; exact i2l_rng (lo := 0) (hi := 999) (qm161 r_x12 r_y13 wh_x12 c14 c26 r_x35 c36 c46 c54 r_x64 q_x64 wh_x64 g_x67 g_x70 c71 c80 c93 g_x315 r_y316 gl_x315 dr_x319 c320 dr_x322 ex323 g_x326 ex327 dv_x327 dw_x327 c329 i1u334 c351 r_x400 hh_x400 ex401 dv_x401 r_x404 c405 c410 g_x412 gl_x412 ex414 g_x420 ex421 dv_x421 dw_x421 ex423)))
                              have f0 := fr_J eS425 f0
                              have d_y2 := rd_J eS425 d_y2
                              have d_x64 := rd_J eS425 d_x64
                              have d_y13 := rd_J eS425 d_y13
                              have d_x35 := rd_J eS425 d_x35
                              have d_y316 := rd_J eS425 d_y316
                              have d_x400 := rd_J eS425 d_x400
                              have d_x404 := rd_J eS425 d_x404
                              have ea3 := rf_J eS425 ea3
                              have ea66 := rf_J eS425 ea66
                              have ea69 := rf_J eS425 ea69
                              have ea314 := rf_J eS425 ea314
                              have ea318 := rf_J eS425 ea318
                              have ea325 := rf_J eS425 ea325
                              have l_a314 := ln_J eS425 l_a314
                              have l_a318 := ln_J eS425 l_a318
                              have l_a325 := ln_J eS425 l_a325
                              have l_a66 := ln_J eS425 l_a66
                              have l_a69 := ln_J eS425 l_a69
                              have g0 := gr_J eS425 g0
                              have o_a3 := ob_J eS425 o_a3
                              have o_a314 := ob_J eS425 o_a314
                              have o_a318 := ob_J eS425 o_a318
                              have o_a325 := ob_J eS425 o_a325
                              have o_a66 := ob_J eS425 o_a66
                              have o_a69 := ob_J eS425 o_a69
                              have o_v0 := ob_J eS425 o_v0
                              refine ⟨a318, ea318, ?_⟩
                              refine ⟨o_a318, ?_⟩
                              refine ⟨(vin l_a318 (m := 7) (by decide) (qm160 r_x12 r_y13 wh_x12 c14 c26 r_x35 c36 c46 c54 r_x64 q_x64 wh_x64 g_x67 g_x70 c71 c80 c93 g_x315 r_y316 gl_x315 dr_x319 c320 dr_x322 ex323 g_x326 ex327 dv_x327 dw_x327 c329 i1u334 c351 r_x400 hh_x400 ex401 dv_x401 r_x404 c405 c410 g_x412 gl_x412 ex414 g_x420 ex421 dv_x421 dw_x421 ex423)), ?_⟩
                              intro x427 ex427
                              have de_x427 := ml_de hI o_v0 (j := 21) (by decide) ea318 (1 : Int32).toNatClampNeg
                              rw [← ex427] at de_x427
                              have dr_x427 : (0 : Int64) ≤ x427 ∧ x427 ≤ (999 : Int64) := de_x427.2 (by decide)
                              refine u_X11_good ?_
                              refine u_X11_good_0 ?_
                              refine ⟨o_v0, ?_⟩
                              intro S428 eS428
                              have hI : IV S428 := by rw [eS428]; exact iv11_sI hI o_v0 (by decide) (nu_free (by decide))
                              have f0 := fr_I eS428 g0 f0 o_v0 (by decide)
                              have d_y2 := rd_Ij eS428 (by decide) d_y2
                              have d_x64 := rd_Ij eS428 (by decide) d_x64
                              have d_y13 := rd_Ik eS428 o_v0 o_a3 (by decide) d_y13
                              have d_x35 := rd_Ik eS428 o_v0 o_a3 (by decide) d_x35
                              have d_y316 := rd_Ik eS428 o_v0 o_a3 (by decide) d_y316
                              have d_x400 := rd_Ik eS428 o_v0 o_a3 (by decide) d_x400
                              have d_x404 := rd_Ik eS428 o_v0 o_a3 (by decide) d_x404
                              obtain ⟨y429, hy429⟩ : ∃ z : Int32, z = (0 : Int32) := ⟨_, rfl⟩
                              have d_y429 := rd_Is eS428 hy429
                              have ea3 := rf_I eS428 ea3
                              have ea66 := rf_I eS428 ea66
                              have ea69 := rf_I eS428 ea69
                              have ea314 := rf_I eS428 ea314
                              have ea318 := rf_I eS428 ea318
                              have ea325 := rf_I eS428 ea325
                              have l_a314 := ln_I eS428 l_a314
                              have l_a318 := ln_I eS428 l_a318
                              have l_a325 := ln_I eS428 l_a325
                              have l_a66 := ln_I eS428 l_a66
                              have l_a69 := ln_I eS428 l_a69
                              have g0 := gr_I eS428 g0
                              have o_a3 := ob_I eS428 o_a3
                              have o_a314 := ob_I eS428 o_a314
                              have o_a318 := ob_I eS428 o_a318
                              have o_a325 := ob_I eS428 o_a325
                              have o_a66 := ob_I eS428 o_a66
                              have o_a69 := ob_I eS428 o_a69
                              have o_v0 := ob_I eS428 o_v0
                              intro S430 eS430
                              have hI : IV S430 := by rw [eS430]; exact iv11_sI hI o_v0 (by decide) (nu_free (by decide))
                              have f0 := fr_I eS430 g0 f0 o_v0 (by decide)
                              have d_y2 := rd_Ij eS430 (by decide) d_y2
                              have d_x64 := rd_Ij eS430 (by decide) d_x64
                              have d_y13 := rd_Ik eS430 o_v0 o_a3 (by decide) d_y13
                              have d_x35 := rd_Ik eS430 o_v0 o_a3 (by decide) d_x35
                              have d_y316 := rd_Ik eS430 o_v0 o_a3 (by decide) d_y316
                              have d_x400 := rd_Ik eS430 o_v0 o_a3 (by decide) d_x400
                              have d_x404 := rd_Ik eS430 o_v0 o_a3 (by decide) d_x404
                              have d_y429 := rd_Ij eS430 (by decide) d_y429
                              obtain ⟨y431, hy431⟩ : ∃ z : Int32, z = (-1 : Int32) := ⟨_, rfl⟩
                              have d_y431 := rd_Is eS430 hy431
                              have ea3 := rf_I eS430 ea3
                              have ea66 := rf_I eS430 ea66
                              have ea69 := rf_I eS430 ea69
                              have ea314 := rf_I eS430 ea314
                              have ea318 := rf_I eS430 ea318
                              have ea325 := rf_I eS430 ea325
                              have l_a314 := ln_I eS430 l_a314
                              have l_a318 := ln_I eS430 l_a318
                              have l_a325 := ln_I eS430 l_a325
                              have l_a66 := ln_I eS430 l_a66
                              have l_a69 := ln_I eS430 l_a69
                              have g0 := gr_I eS430 g0
                              have o_a3 := ob_I eS430 o_a3
                              have o_a314 := ob_I eS430 o_a314
                              have o_a318 := ob_I eS430 o_a318
                              have o_a325 := ob_I eS430 o_a325
                              have o_a66 := ob_I eS430 o_a66
                              have o_a69 := ob_I eS430 o_a69
                              have o_v0 := ob_I eS430 o_v0
                              intro _
                              exact hq _ _ hI g0 f0
                            · refine ⟨o_a3, ?_⟩
                              obtain ⟨a433, ea433, o_a433, l_a433⟩ := shl 36 rfl hI o_a3
                              refine ⟨a433, ea433, ?_⟩
                              refine ⟨o_a433, ?_⟩
                              refine ⟨(vin l_a433 (m := 12) (by decide) (qm162 r_x12 r_y13 wh_x12 c14 c26 r_x35 c36 c46 c54 r_x64 q_x64 wh_x64 g_x67 g_x70 c71 c80 c93 g_x315 r_y316 gl_x315 dr_x319 c320 dr_x322 ex323 g_x326 ex327 dv_x327 dw_x327 c329 i1u334 c351 r_x400 hh_x400 ex401 dv_x401 r_x404 c405 c410)), ?_⟩
                              intro x434 ex434
                              have gy_x434 : 0 ≤ v1 ∧ v1 < fI S335 a3 3 := by rw [← d_x35]; exact (qm163 r_x12 r_y13 wh_x12 c14 c26 r_x35 c36 c46 c54 r_x64 q_x64 wh_x64 g_x67 g_x70 c71 c80 c93 g_x315 r_y316 gl_x315 dr_x319 c320 dr_x322 ex323 g_x326 ex327 dv_x327 dw_x327 c329 i1u334 c351 r_x400 hh_x400 ex401 dv_x401 r_x404 c405 c410)
                              have g_x434 : (0 : Int32) ≤ x434 ∧ x434 ≤ (7 : Int32) := by rw [ex434]; exact wg_at (ml_wg hI o_v0 ea3) 1 rfl gy_x434 ea433
                              have gl_x434 : x434 < y316 := by rw [ex434, d_y316]; exact wg_lt (ml_wg hI o_v0 ea3) 1 rfl (by decide) gy_x434 ea433
                              intro _
                              refine ⟨o_a318, ?_⟩
                              intro x436 ex436
                              have i437 : vp_in (0 : Int32) (hN _ a318) := (vin l_a318 (m := 7) (by decide) (qm164 r_x12 r_y13 wh_x12 c14 c26 r_x35 c36 c46 c54 r_x64 q_x64 wh_x64 g_x67 g_x70 c71 c80 c93 g_x315 r_y316 gl_x315 dr_x319 c320 dr_x322 ex323 g_x326 ex327 dv_x327 dw_x327 c329 i1u334 c351 r_x400 hh_x400 ex401 dv_x401 r_x404 c405 c410 g_x434 gl_x434 ex436))
                              refine ⟨i437, ?_⟩
                              intro S438 eS438
                              have hI : IV S438 := by rw [eS438]; exact iv11_aD hI (de_0 (by rw [ex436]; exact i2l_rng (lo := 0) (hi := 7) (qm165 r_x12 r_y13 wh_x12 c14 c26 r_x35 c36 c46 c54 r_x64 q_x64 wh_x64 g_x67 g_x70 c71 c80 c93 g_x315 r_y316 gl_x315 dr_x319 c320 dr_x322 ex323 g_x326 ex327 dv_x327 dw_x327 c329 i1u334 c351 r_x400 hh_x400 ex401 dv_x401 r_x404 c405 c410 g_x434 gl_x434 ex436)))
                              have f0 := fr_J eS438 f0
                              have d_y2 := rd_J eS438 d_y2
                              have d_x64 := rd_J eS438 d_x64
                              have d_y13 := rd_J eS438 d_y13
                              have d_x35 := rd_J eS438 d_x35
                              have d_y316 := rd_J eS438 d_y316
                              have d_x400 := rd_J eS438 d_x400
                              have d_x404 := rd_J eS438 d_x404
                              have ea3 := rf_J eS438 ea3
                              have ea66 := rf_J eS438 ea66
                              have ea69 := rf_J eS438 ea69
                              have ea314 := rf_J eS438 ea314
                              have ea318 := rf_J eS438 ea318
                              have ea325 := rf_J eS438 ea325
                              have ea433 := rf_J eS438 ea433
                              have l_a314 := ln_J eS438 l_a314
                              have l_a318 := ln_J eS438 l_a318
                              have l_a325 := ln_J eS438 l_a325
                              have l_a433 := ln_J eS438 l_a433
                              have l_a66 := ln_J eS438 l_a66
                              have l_a69 := ln_J eS438 l_a69
                              have g0 := gr_J eS438 g0
                              have o_a3 := ob_J eS438 o_a3
                              have o_a314 := ob_J eS438 o_a314
                              have o_a318 := ob_J eS438 o_a318
                              have o_a325 := ob_J eS438 o_a325
                              have o_a433 := ob_J eS438 o_a433
                              have o_a66 := ob_J eS438 o_a66
                              have o_a69 := ob_J eS438 o_a69
                              have o_v0 := ob_J eS438 o_v0
                              refine ⟨a318, ea318, ?_⟩
                              refine ⟨a3, ea3, ?_⟩
                              refine ⟨o_a3, ?_⟩
                              refine u_X10_minutes ?_
                              refine u_X10_minutes_0 ?_
                              refine ⟨o_a3, ?_⟩
                              refine ⟨a325, ea325, ?_⟩
                              refine ⟨o_a325, ?_⟩
                              refine ⟨(vin l_a325 (m := 12) (by decide) (qm166 r_x12 r_y13 wh_x12 c14 c26 r_x35 c36 c46 c54 r_x64 q_x64 wh_x64 g_x67 g_x70 c71 c80 c93 g_x315 r_y316 gl_x315 dr_x319 c320 dr_x322 ex323 g_x326 ex327 dv_x327 dw_x327 c329 i1u334 c351 r_x400 hh_x400 ex401 dv_x401 r_x404 c405 c410 g_x434 gl_x434 ex436)), ?_⟩
                              intro x442 ex442
                              have gy_x442 : 0 ≤ v1 ∧ v1 < fI S438 a3 3 := by rw [← d_x35]; exact (qm167 r_x12 r_y13 wh_x12 c14 c26 r_x35 c36 c46 c54 r_x64 q_x64 wh_x64 g_x67 g_x70 c71 c80 c93 g_x315 r_y316 gl_x315 dr_x319 c320 dr_x322 ex323 g_x326 ex327 dv_x327 dw_x327 c329 i1u334 c351 r_x400 hh_x400 ex401 dv_x401 r_x404 c405 c410 g_x434 gl_x434 ex436)
                              have g_x442 : (1 : Int32) ≤ x442 ∧ x442 ≤ (60 : Int32) := by rw [ex442]; exact wg_at (ml_wg hI o_v0 ea3) 2 rfl gy_x442 ea325
                              refine ⟨(qm168 r_x12 r_y13 wh_x12 c14 c26 r_x35 c36 c46 c54 r_x64 q_x64 wh_x64 g_x67 g_x70 c71 c80 c93 g_x315 r_y316 gl_x315 dr_x319 c320 dr_x322 ex323 g_x326 ex327 dv_x327 dw_x327 c329 i1u334 c351 r_x400 hh_x400 ex401 dv_x401 r_x404 c405 c410 g_x434 gl_x434 ex436), ?_⟩
                              intro x443 ex443
                              have dv_x443 : 0 ≤ x443 ∧ x443 ≤ ((x442 + v3) - (1 : Int32)) := by rw [ex443]; exact dv0 (qm169 r_x12 r_y13 wh_x12 c14 c26 r_x35 c36 c46 c54 r_x64 q_x64 wh_x64 g_x67 g_x70 c71 c80 c93 g_x315 r_y316 gl_x315 dr_x319 c320 dr_x322 ex323 g_x326 ex327 dv_x327 dw_x327 c329 i1u334 c351 r_x400 hh_x400 ex401 dv_x401 r_x404 c405 c410 g_x434 gl_x434 ex436 g_x442 ex443) (i32pos (qm170 r_x12 r_y13 wh_x12 c14 c26 r_x35 c36 c46 c54 r_x64 q_x64 wh_x64 g_x67 g_x70 c71 c80 c93 g_x315 r_y316 gl_x315 dr_x319 c320 dr_x322 ex323 g_x326 ex327 dv_x327 dw_x327 c329 i1u334 c351 r_x400 hh_x400 ex401 dv_x401 r_x404 c405 c410 g_x434 gl_x434 ex436 g_x442 ex443))
                              have dw_x443 : (1 : Int32) ≤ x443 := by rw [ex443]; exact dv1 (qm171 r_x12 r_y13 wh_x12 c14 c26 r_x35 c36 c46 c54 r_x64 q_x64 wh_x64 g_x67 g_x70 c71 c80 c93 g_x315 r_y316 gl_x315 dr_x319 c320 dr_x322 ex323 g_x326 ex327 dv_x327 dw_x327 c329 i1u334 c351 r_x400 hh_x400 ex401 dv_x401 r_x404 c405 c410 g_x434 gl_x434 ex436 g_x442 ex443) (qm172 r_x12 r_y13 wh_x12 c14 c26 r_x35 c36 c46 c54 r_x64 q_x64 wh_x64 g_x67 g_x70 c71 c80 c93 g_x315 r_y316 gl_x315 dr_x319 c320 dr_x322 ex323 g_x326 ex327 dv_x327 dw_x327 c329 i1u334 c351 r_x400 hh_x400 ex401 dv_x401 r_x404 c405 c410 g_x434 gl_x434 ex436 g_x442 ex443)
                              intro _
                              refine ⟨o_a318, ?_⟩
                              intro x445 ex445
                              have i446 : vp_in (1 : Int32) (hN _ a318) := (vin l_a318 (m := 7) (by decide) (qm173 r_x12 r_y13 wh_x12 c14 c26 r_x35 c36 c46 c54 r_x64 q_x64 wh_x64 g_x67 g_x70 c71 c80 c93 g_x315 r_y316 gl_x315 dr_x319 c320 dr_x322 ex323 g_x326 ex327 dv_x327 dw_x327 c329 i1u334 c351 r_x400 hh_x400 ex401 dv_x401 r_x404 c405 c410 g_x434 gl_x434 ex436 g_x442 ex443 dv_x443 dw_x443 ex445))
                              refine ⟨i446, ?_⟩
                              intro S447 eS447
                              have hI : IV S447 := by rw [eS447]; exact iv11_aD hI (de_1 (by rw [ex445]; exact i2l_rng (lo := 0) (hi := 999) (qm174 r_x12 r_y13 wh_x12 c14 c26 r_x35 c36 c46 c54 r_x64 q_x64 wh_x64 g_x67 g_x70 c71 c80 c93 g_x315 r_y316 gl_x315 dr_x319 c320 dr_x322 ex323 g_x326 ex327 dv_x327 dw_x327 c329 i1u334 c351 r_x400 hh_x400 ex401 dv_x401 r_x404 c405 c410 g_x434 gl_x434 ex436 g_x442 ex443 dv_x443 dw_x443 ex445)))
                              have f0 := fr_J eS447 f0
                              have d_y2 := rd_J eS447 d_y2
                              have d_x64 := rd_J eS447 d_x64
                              have d_y13 := rd_J eS447 d_y13
                              have d_x35 := rd_J eS447 d_x35
                              have d_y316 := rd_J eS447 d_y316
                              have d_x400 := rd_J eS447 d_x400
                              have d_x404 := rd_J eS447 d_x404
                              have ea3 := rf_J eS447 ea3
                              have ea66 := rf_J eS447 ea66
                              have ea69 := rf_J eS447 ea69
                              have ea314 := rf_J eS447 ea314
                              have ea318 := rf_J eS447 ea318
                              have ea325 := rf_J eS447 ea325
                              have ea433 := rf_J eS447 ea433
                              have l_a314 := ln_J eS447 l_a314
                              have l_a318 := ln_J eS447 l_a318
                              have l_a325 := ln_J eS447 l_a325
                              have l_a433 := ln_J eS447 l_a433
                              have l_a66 := ln_J eS447 l_a66
                              have l_a69 := ln_J eS447 l_a69
                              have g0 := gr_J eS447 g0
                              have o_a3 := ob_J eS447 o_a3
                              have o_a314 := ob_J eS447 o_a314
                              have o_a318 := ob_J eS447 o_a318
                              have o_a325 := ob_J eS447 o_a325
                              have o_a433 := ob_J eS447 o_a433
                              have o_a66 := ob_J eS447 o_a66
                              have o_a69 := ob_J eS447 o_a69
                              have o_v0 := ob_J eS447 o_v0
                              refine ⟨a318, ea318, ?_⟩
                              refine ⟨o_a318, ?_⟩
                              refine ⟨(vin l_a318 (m := 7) (by decide) (qm173 r_x12 r_y13 wh_x12 c14 c26 r_x35 c36 c46 c54 r_x64 q_x64 wh_x64 g_x67 g_x70 c71 c80 c93 g_x315 r_y316 gl_x315 dr_x319 c320 dr_x322 ex323 g_x326 ex327 dv_x327 dw_x327 c329 i1u334 c351 r_x400 hh_x400 ex401 dv_x401 r_x404 c405 c410 g_x434 gl_x434 ex436 g_x442 ex443 dv_x443 dw_x443 ex445)), ?_⟩
                              intro x449 ex449
                              have de_x449 := ml_de hI o_v0 (j := 21) (by decide) ea318 (1 : Int32).toNatClampNeg
                              rw [← ex449] at de_x449
                              have dr_x449 : (0 : Int64) ≤ x449 ∧ x449 ≤ (999 : Int64) := de_x449.2 (by decide)
                              refine u_X11_good ?_
                              refine u_X11_good_0 ?_
                              refine ⟨o_v0, ?_⟩
                              intro S450 eS450
                              have hI : IV S450 := by rw [eS450]; exact iv11_sI hI o_v0 (by decide) (nu_free (by decide))
                              have f0 := fr_I eS450 g0 f0 o_v0 (by decide)
                              have d_y2 := rd_Ij eS450 (by decide) d_y2
                              have d_x64 := rd_Ij eS450 (by decide) d_x64
                              have d_y13 := rd_Ik eS450 o_v0 o_a3 (by decide) d_y13
                              have d_x35 := rd_Ik eS450 o_v0 o_a3 (by decide) d_x35
                              have d_y316 := rd_Ik eS450 o_v0 o_a3 (by decide) d_y316
                              have d_x400 := rd_Ik eS450 o_v0 o_a3 (by decide) d_x400
                              have d_x404 := rd_Ik eS450 o_v0 o_a3 (by decide) d_x404
                              obtain ⟨y451, hy451⟩ : ∃ z : Int32, z = (0 : Int32) := ⟨_, rfl⟩
                              have d_y451 := rd_Is eS450 hy451
                              have ea3 := rf_I eS450 ea3
                              have ea66 := rf_I eS450 ea66
                              have ea69 := rf_I eS450 ea69
                              have ea314 := rf_I eS450 ea314
                              have ea318 := rf_I eS450 ea318
                              have ea325 := rf_I eS450 ea325
                              have ea433 := rf_I eS450 ea433
                              have l_a314 := ln_I eS450 l_a314
                              have l_a318 := ln_I eS450 l_a318
                              have l_a325 := ln_I eS450 l_a325
                              have l_a433 := ln_I eS450 l_a433
                              have l_a66 := ln_I eS450 l_a66
                              have l_a69 := ln_I eS450 l_a69
                              have g0 := gr_I eS450 g0
                              have o_a3 := ob_I eS450 o_a3
                              have o_a314 := ob_I eS450 o_a314
                              have o_a318 := ob_I eS450 o_a318
                              have o_a325 := ob_I eS450 o_a325
                              have o_a433 := ob_I eS450 o_a433
                              have o_a66 := ob_I eS450 o_a66
                              have o_a69 := ob_I eS450 o_a69
                              have o_v0 := ob_I eS450 o_v0
                              intro S452 eS452
                              have hI : IV S452 := by rw [eS452]; exact iv11_sI hI o_v0 (by decide) (nu_free (by decide))
                              have f0 := fr_I eS452 g0 f0 o_v0 (by decide)
                              have d_y2 := rd_Ij eS452 (by decide) d_y2
                              have d_x64 := rd_Ij eS452 (by decide) d_x64
                              have d_y13 := rd_Ik eS452 o_v0 o_a3 (by decide) d_y13
                              have d_x35 := rd_Ik eS452 o_v0 o_a3 (by decide) d_x35
                              have d_y316 := rd_Ik eS452 o_v0 o_a3 (by decide) d_y316
                              have d_x400 := rd_Ik eS452 o_v0 o_a3 (by decide) d_x400
                              have d_x404 := rd_Ik eS452 o_v0 o_a3 (by decide) d_x404
                              have d_y451 := rd_Ij eS452 (by decide) d_y451
                              obtain ⟨y453, hy453⟩ : ∃ z : Int32, z = (-1 : Int32) := ⟨_, rfl⟩
                              have d_y453 := rd_Is eS452 hy453
                              have ea3 := rf_I eS452 ea3
                              have ea66 := rf_I eS452 ea66
                              have ea69 := rf_I eS452 ea69
                              have ea314 := rf_I eS452 ea314
                              have ea318 := rf_I eS452 ea318
                              have ea325 := rf_I eS452 ea325
                              have ea433 := rf_I eS452 ea433
                              have l_a314 := ln_I eS452 l_a314
                              have l_a318 := ln_I eS452 l_a318
                              have l_a325 := ln_I eS452 l_a325
                              have l_a433 := ln_I eS452 l_a433
                              have l_a66 := ln_I eS452 l_a66
                              have l_a69 := ln_I eS452 l_a69
                              have g0 := gr_I eS452 g0
                              have o_a3 := ob_I eS452 o_a3
                              have o_a314 := ob_I eS452 o_a314
                              have o_a318 := ob_I eS452 o_a318
                              have o_a325 := ob_I eS452 o_a325
                              have o_a433 := ob_I eS452 o_a433
                              have o_a66 := ob_I eS452 o_a66
                              have o_a69 := ob_I eS452 o_a69
                              have o_v0 := ob_I eS452 o_v0
                              intro _
                              exact hq _ _ hI g0 f0
                          · intro x455 ex455
                            have d_x455 := ex455
                            refine ⟨fun c456 => ?_, fun c456 => ?_⟩
                            · intro _ _
                              refine ⟨fun c458 => ?_, fun c458 => absurd (show ¬ (0 : Int32) = 0 from c458) (by decide)⟩
                              refine u_X11_go_171 ?_
                              refine ⟨o_v0, ?_⟩
                              refine ⟨a318, ea318, ?_⟩
                              refine ⟨a3, ea3, ?_⟩
                              refine ⟨o_a3, ?_⟩
                              refine u_X10_ends ?_
                              refine u_X10_ends_0 ?_
                              refine ⟨fun c461 => ?_, fun c461 => ?_⟩
                              · refine ⟨o_a3, ?_⟩
                                refine ⟨a314, ea314, ?_⟩
                                refine ⟨o_a314, ?_⟩
                                refine ⟨(vin l_a314 (m := 12) (by decide) (qm175 r_x12 r_y13 wh_x12 c14 c26 r_x35 c36 c46 c54 r_x64 q_x64 wh_x64 g_x67 g_x70 c71 c80 c93 g_x315 r_y316 gl_x315 dr_x319 c320 dr_x322 ex323 g_x326 ex327 dv_x327 dw_x327 c329 i1u334 c351 r_x400 hh_x400 ex401 dv_x401 r_x404 c405 c456 c461)), ?_⟩
                                intro x463 ex463
                                have gy_x463 : 0 ≤ v1 ∧ v1 < fI S335 a3 3 := by rw [← d_x35]; exact (qm176 r_x12 r_y13 wh_x12 c14 c26 r_x35 c36 c46 c54 r_x64 q_x64 wh_x64 g_x67 g_x70 c71 c80 c93 g_x315 r_y316 gl_x315 dr_x319 c320 dr_x322 ex323 g_x326 ex327 dv_x327 dw_x327 c329 i1u334 c351 r_x400 hh_x400 ex401 dv_x401 r_x404 c405 c456 c461)
                                have g_x463 : (0 : Int32) ≤ x463 ∧ x463 ≤ (7 : Int32) := by rw [ex463]; exact wg_at (ml_wg hI o_v0 ea3) 0 rfl gy_x463 ea314
                                have gl_x463 : x463 < y316 := by rw [ex463, d_y316]; exact wg_lt (ml_wg hI o_v0 ea3) 0 rfl (by decide) gy_x463 ea314
                                intro _
                                refine ⟨o_a318, ?_⟩
                                intro x465 ex465
                                have i466 : vp_in (0 : Int32) (hN _ a318) := (vin l_a318 (m := 7) (by decide) (qm177 r_x12 r_y13 wh_x12 c14 c26 r_x35 c36 c46 c54 r_x64 q_x64 wh_x64 g_x67 g_x70 c71 c80 c93 g_x315 r_y316 gl_x315 dr_x319 c320 dr_x322 ex323 g_x326 ex327 dv_x327 dw_x327 c329 i1u334 c351 r_x400 hh_x400 ex401 dv_x401 r_x404 c405 c456 c461 g_x463 gl_x463 ex465))
                                refine ⟨i466, ?_⟩
                                intro S467 eS467
                                have hI : IV S467 := by rw [eS467]; exact iv11_aD hI (de_0 (by rw [ex465]; exact i2l_rng (lo := 0) (hi := 7) (qm178 r_x12 r_y13 wh_x12 c14 c26 r_x35 c36 c46 c54 r_x64 q_x64 wh_x64 g_x67 g_x70 c71 c80 c93 g_x315 r_y316 gl_x315 dr_x319 c320 dr_x322 ex323 g_x326 ex327 dv_x327 dw_x327 c329 i1u334 c351 r_x400 hh_x400 ex401 dv_x401 r_x404 c405 c456 c461 g_x463 gl_x463 ex465)))
                                have f0 := fr_J eS467 f0
                                have d_y2 := rd_J eS467 d_y2
                                have d_x64 := rd_J eS467 d_x64
                                have d_y13 := rd_J eS467 d_y13
                                have d_x35 := rd_J eS467 d_x35
                                have d_y316 := rd_J eS467 d_y316
                                have d_x400 := rd_J eS467 d_x400
                                have d_x404 := rd_J eS467 d_x404
                                have d_x455 := rd_J eS467 d_x455
                                have ea3 := rf_J eS467 ea3
                                have ea66 := rf_J eS467 ea66
                                have ea69 := rf_J eS467 ea69
                                have ea314 := rf_J eS467 ea314
                                have ea318 := rf_J eS467 ea318
                                have ea325 := rf_J eS467 ea325
                                have l_a314 := ln_J eS467 l_a314
                                have l_a318 := ln_J eS467 l_a318
                                have l_a325 := ln_J eS467 l_a325
                                have l_a66 := ln_J eS467 l_a66
                                have l_a69 := ln_J eS467 l_a69
                                have g0 := gr_J eS467 g0
                                have o_a3 := ob_J eS467 o_a3
                                have o_a314 := ob_J eS467 o_a314
                                have o_a318 := ob_J eS467 o_a318
                                have o_a325 := ob_J eS467 o_a325
                                have o_a66 := ob_J eS467 o_a66
                                have o_a69 := ob_J eS467 o_a69
                                have o_v0 := ob_J eS467 o_v0
                                refine ⟨a318, ea318, ?_⟩
                                refine ⟨a3, ea3, ?_⟩
                                refine ⟨o_a3, ?_⟩
                                refine u_X10_minutes ?_
                                refine u_X10_minutes_0 ?_
                                refine ⟨o_a3, ?_⟩
                                refine ⟨a325, ea325, ?_⟩
                                refine ⟨o_a325, ?_⟩
                                refine ⟨(vin l_a325 (m := 12) (by decide) (qm179 r_x12 r_y13 wh_x12 c14 c26 r_x35 c36 c46 c54 r_x64 q_x64 wh_x64 g_x67 g_x70 c71 c80 c93 g_x315 r_y316 gl_x315 dr_x319 c320 dr_x322 ex323 g_x326 ex327 dv_x327 dw_x327 c329 i1u334 c351 r_x400 hh_x400 ex401 dv_x401 r_x404 c405 c456 c461 g_x463 gl_x463 ex465)), ?_⟩
                                intro x471 ex471
                                have gy_x471 : 0 ≤ v1 ∧ v1 < fI S467 a3 3 := by rw [← d_x35]; exact (qm180 r_x12 r_y13 wh_x12 c14 c26 r_x35 c36 c46 c54 r_x64 q_x64 wh_x64 g_x67 g_x70 c71 c80 c93 g_x315 r_y316 gl_x315 dr_x319 c320 dr_x322 ex323 g_x326 ex327 dv_x327 dw_x327 c329 i1u334 c351 r_x400 hh_x400 ex401 dv_x401 r_x404 c405 c456 c461 g_x463 gl_x463 ex465)
                                have g_x471 : (1 : Int32) ≤ x471 ∧ x471 ≤ (60 : Int32) := by rw [ex471]; exact wg_at (ml_wg hI o_v0 ea3) 2 rfl gy_x471 ea325
                                refine ⟨(qm181 r_x12 r_y13 wh_x12 c14 c26 r_x35 c36 c46 c54 r_x64 q_x64 wh_x64 g_x67 g_x70 c71 c80 c93 g_x315 r_y316 gl_x315 dr_x319 c320 dr_x322 ex323 g_x326 ex327 dv_x327 dw_x327 c329 i1u334 c351 r_x400 hh_x400 ex401 dv_x401 r_x404 c405 c456 c461 g_x463 gl_x463 ex465), ?_⟩
                                intro x472 ex472
                                have dv_x472 : 0 ≤ x472 ∧ x472 ≤ ((x471 + v3) - (1 : Int32)) := by rw [ex472]; exact dv0 (qm182 r_x12 r_y13 wh_x12 c14 c26 r_x35 c36 c46 c54 r_x64 q_x64 wh_x64 g_x67 g_x70 c71 c80 c93 g_x315 r_y316 gl_x315 dr_x319 c320 dr_x322 ex323 g_x326 ex327 dv_x327 dw_x327 c329 i1u334 c351 r_x400 hh_x400 ex401 dv_x401 r_x404 c405 c456 c461 g_x463 gl_x463 ex465 g_x471 ex472) (i32pos (qm183 r_x12 r_y13 wh_x12 c14 c26 r_x35 c36 c46 c54 r_x64 q_x64 wh_x64 g_x67 g_x70 c71 c80 c93 g_x315 r_y316 gl_x315 dr_x319 c320 dr_x322 ex323 g_x326 ex327 dv_x327 dw_x327 c329 i1u334 c351 r_x400 hh_x400 ex401 dv_x401 r_x404 c405 c456 c461 g_x463 gl_x463 ex465 g_x471 ex472))
                                have dw_x472 : (1 : Int32) ≤ x472 := by rw [ex472]; exact dv1 (qm184 r_x12 r_y13 wh_x12 c14 c26 r_x35 c36 c46 c54 r_x64 q_x64 wh_x64 g_x67 g_x70 c71 c80 c93 g_x315 r_y316 gl_x315 dr_x319 c320 dr_x322 ex323 g_x326 ex327 dv_x327 dw_x327 c329 i1u334 c351 r_x400 hh_x400 ex401 dv_x401 r_x404 c405 c456 c461 g_x463 gl_x463 ex465 g_x471 ex472) (qm185 r_x12 r_y13 wh_x12 c14 c26 r_x35 c36 c46 c54 r_x64 q_x64 wh_x64 g_x67 g_x70 c71 c80 c93 g_x315 r_y316 gl_x315 dr_x319 c320 dr_x322 ex323 g_x326 ex327 dv_x327 dw_x327 c329 i1u334 c351 r_x400 hh_x400 ex401 dv_x401 r_x404 c405 c456 c461 g_x463 gl_x463 ex465 g_x471 ex472)
                                intro _
                                refine ⟨o_a318, ?_⟩
                                intro x474 ex474
                                have i475 : vp_in (1 : Int32) (hN _ a318) := (vin l_a318 (m := 7) (by decide) (qm186 r_x12 r_y13 wh_x12 c14 c26 r_x35 c36 c46 c54 r_x64 q_x64 wh_x64 g_x67 g_x70 c71 c80 c93 g_x315 r_y316 gl_x315 dr_x319 c320 dr_x322 ex323 g_x326 ex327 dv_x327 dw_x327 c329 i1u334 c351 r_x400 hh_x400 ex401 dv_x401 r_x404 c405 c456 c461 g_x463 gl_x463 ex465 g_x471 ex472 dv_x472 dw_x472 ex474))
                                refine ⟨i475, ?_⟩
                                intro S476 eS476
                                have hI : IV S476 := by rw [eS476]; exact iv11_aD hI (de_1 (by rw [ex474]; exact i2l_rng (lo := 0) (hi := 999) (qm187 r_x12 r_y13 wh_x12 c14 c26 r_x35 c36 c46 c54 r_x64 q_x64 wh_x64 g_x67 g_x70 c71 c80 c93 g_x315 r_y316 gl_x315 dr_x319 c320 dr_x322 ex323 g_x326 ex327 dv_x327 dw_x327 c329 i1u334 c351 r_x400 hh_x400 ex401 dv_x401 r_x404 c405 c456 c461 g_x463 gl_x463 ex465 g_x471 ex472 dv_x472 dw_x472 ex474)))
                                have f0 := fr_J eS476 f0
                                have d_y2 := rd_J eS476 d_y2
                                have d_x64 := rd_J eS476 d_x64
                                have d_y13 := rd_J eS476 d_y13
                                have d_x35 := rd_J eS476 d_x35
                                have d_y316 := rd_J eS476 d_y316
                                have d_x400 := rd_J eS476 d_x400
                                have d_x404 := rd_J eS476 d_x404
                                have d_x455 := rd_J eS476 d_x455
                                have ea3 := rf_J eS476 ea3
                                have ea66 := rf_J eS476 ea66
                                have ea69 := rf_J eS476 ea69
                                have ea314 := rf_J eS476 ea314
                                have ea318 := rf_J eS476 ea318
                                have ea325 := rf_J eS476 ea325
                                have l_a314 := ln_J eS476 l_a314
                                have l_a318 := ln_J eS476 l_a318
                                have l_a325 := ln_J eS476 l_a325
                                have l_a66 := ln_J eS476 l_a66
                                have l_a69 := ln_J eS476 l_a69
                                have g0 := gr_J eS476 g0
                                have o_a3 := ob_J eS476 o_a3
                                have o_a314 := ob_J eS476 o_a314
                                have o_a318 := ob_J eS476 o_a318
                                have o_a325 := ob_J eS476 o_a325
                                have o_a66 := ob_J eS476 o_a66
                                have o_a69 := ob_J eS476 o_a69
                                have o_v0 := ob_J eS476 o_v0
                                refine ⟨a318, ea318, ?_⟩
                                refine ⟨o_a318, ?_⟩
                                refine ⟨(vin l_a318 (m := 7) (by decide) (qm186 r_x12 r_y13 wh_x12 c14 c26 r_x35 c36 c46 c54 r_x64 q_x64 wh_x64 g_x67 g_x70 c71 c80 c93 g_x315 r_y316 gl_x315 dr_x319 c320 dr_x322 ex323 g_x326 ex327 dv_x327 dw_x327 c329 i1u334 c351 r_x400 hh_x400 ex401 dv_x401 r_x404 c405 c456 c461 g_x463 gl_x463 ex465 g_x471 ex472 dv_x472 dw_x472 ex474)), ?_⟩
                                intro x478 ex478
                                have de_x478 := ml_de hI o_v0 (j := 21) (by decide) ea318 (1 : Int32).toNatClampNeg
                                rw [← ex478] at de_x478
                                have dr_x478 : (0 : Int64) ≤ x478 ∧ x478 ≤ (999 : Int64) := de_x478.2 (by decide)
                                refine u_X11_good ?_
                                refine u_X11_good_0 ?_
                                refine ⟨o_v0, ?_⟩
                                intro S479 eS479
                                have hI : IV S479 := by rw [eS479]; exact iv11_sI hI o_v0 (by decide) (nu_free (by decide))
                                have f0 := fr_I eS479 g0 f0 o_v0 (by decide)
                                have d_y2 := rd_Ij eS479 (by decide) d_y2
                                have d_x64 := rd_Ij eS479 (by decide) d_x64
                                have d_y13 := rd_Ik eS479 o_v0 o_a3 (by decide) d_y13
                                have d_x35 := rd_Ik eS479 o_v0 o_a3 (by decide) d_x35
                                have d_y316 := rd_Ik eS479 o_v0 o_a3 (by decide) d_y316
                                have d_x400 := rd_Ik eS479 o_v0 o_a3 (by decide) d_x400
                                have d_x404 := rd_Ik eS479 o_v0 o_a3 (by decide) d_x404
                                have d_x455 := rd_Ij eS479 (by decide) d_x455
                                obtain ⟨y480, hy480⟩ : ∃ z : Int32, z = (0 : Int32) := ⟨_, rfl⟩
                                have d_y480 := rd_Is eS479 hy480
                                have ea3 := rf_I eS479 ea3
                                have ea66 := rf_I eS479 ea66
                                have ea69 := rf_I eS479 ea69
                                have ea314 := rf_I eS479 ea314
                                have ea318 := rf_I eS479 ea318
                                have ea325 := rf_I eS479 ea325
                                have l_a314 := ln_I eS479 l_a314
                                have l_a318 := ln_I eS479 l_a318
                                have l_a325 := ln_I eS479 l_a325
                                have l_a66 := ln_I eS479 l_a66
                                have l_a69 := ln_I eS479 l_a69
                                have g0 := gr_I eS479 g0
                                have o_a3 := ob_I eS479 o_a3
                                have o_a314 := ob_I eS479 o_a314
                                have o_a318 := ob_I eS479 o_a318
                                have o_a325 := ob_I eS479 o_a325
                                have o_a66 := ob_I eS479 o_a66
                                have o_a69 := ob_I eS479 o_a69
                                have o_v0 := ob_I eS479 o_v0
                                intro S481 eS481
                                have hI : IV S481 := by rw [eS481]; exact iv11_sI hI o_v0 (by decide) (nu_free (by decide))
                                have f0 := fr_I eS481 g0 f0 o_v0 (by decide)
                                have d_y2 := rd_Ij eS481 (by decide) d_y2
                                have d_x64 := rd_Ij eS481 (by decide) d_x64
                                have d_y13 := rd_Ik eS481 o_v0 o_a3 (by decide) d_y13
                                have d_x35 := rd_Ik eS481 o_v0 o_a3 (by decide) d_x35
                                have d_y316 := rd_Ik eS481 o_v0 o_a3 (by decide) d_y316
                                have d_x400 := rd_Ik eS481 o_v0 o_a3 (by decide) d_x400
                                have d_x404 := rd_Ik eS481 o_v0 o_a3 (by decide) d_x404
                                have d_x455 := rd_Ij eS481 (by decide) d_x455
                                have d_y480 := rd_Ij eS481 (by decide) d_y480
                                obtain ⟨y482, hy482⟩ : ∃ z : Int32, z = (-1 : Int32) := ⟨_, rfl⟩
                                have d_y482 := rd_Is eS481 hy482
                                have ea3 := rf_I eS481 ea3
                                have ea66 := rf_I eS481 ea66
                                have ea69 := rf_I eS481 ea69
                                have ea314 := rf_I eS481 ea314
                                have ea318 := rf_I eS481 ea318
                                have ea325 := rf_I eS481 ea325
                                have l_a314 := ln_I eS481 l_a314
                                have l_a318 := ln_I eS481 l_a318
                                have l_a325 := ln_I eS481 l_a325
                                have l_a66 := ln_I eS481 l_a66
                                have l_a69 := ln_I eS481 l_a69
                                have g0 := gr_I eS481 g0
                                have o_a3 := ob_I eS481 o_a3
                                have o_a314 := ob_I eS481 o_a314
                                have o_a318 := ob_I eS481 o_a318
                                have o_a325 := ob_I eS481 o_a325
                                have o_a66 := ob_I eS481 o_a66
                                have o_a69 := ob_I eS481 o_a69
                                have o_v0 := ob_I eS481 o_v0
                                intro _
                                exact hq _ _ hI g0 f0
                              · refine ⟨o_a3, ?_⟩
                                obtain ⟨a484, ea484, o_a484, l_a484⟩ := shl 36 rfl hI o_a3
                                refine ⟨a484, ea484, ?_⟩
                                refine ⟨o_a484, ?_⟩
                                refine ⟨(vin l_a484 (m := 12) (by decide) (qm188 r_x12 r_y13 wh_x12 c14 c26 r_x35 c36 c46 c54 r_x64 q_x64 wh_x64 g_x67 g_x70 c71 c80 c93 g_x315 r_y316 gl_x315 dr_x319 c320 dr_x322 ex323 g_x326 ex327 dv_x327 dw_x327 c329 i1u334 c351 r_x400 hh_x400 ex401 dv_x401 r_x404 c405 c456 c461)), ?_⟩
                                intro x485 ex485
                                have gy_x485 : 0 ≤ v1 ∧ v1 < fI S335 a3 3 := by rw [← d_x35]; exact (qm189 r_x12 r_y13 wh_x12 c14 c26 r_x35 c36 c46 c54 r_x64 q_x64 wh_x64 g_x67 g_x70 c71 c80 c93 g_x315 r_y316 gl_x315 dr_x319 c320 dr_x322 ex323 g_x326 ex327 dv_x327 dw_x327 c329 i1u334 c351 r_x400 hh_x400 ex401 dv_x401 r_x404 c405 c456 c461)
                                have g_x485 : (0 : Int32) ≤ x485 ∧ x485 ≤ (7 : Int32) := by rw [ex485]; exact wg_at (ml_wg hI o_v0 ea3) 1 rfl gy_x485 ea484
                                have gl_x485 : x485 < y316 := by rw [ex485, d_y316]; exact wg_lt (ml_wg hI o_v0 ea3) 1 rfl (by decide) gy_x485 ea484
                                intro _
                                refine ⟨o_a318, ?_⟩
                                intro x487 ex487
                                have i488 : vp_in (0 : Int32) (hN _ a318) := (vin l_a318 (m := 7) (by decide) (qm190 r_x12 r_y13 wh_x12 c14 c26 r_x35 c36 c46 c54 r_x64 q_x64 wh_x64 g_x67 g_x70 c71 c80 c93 g_x315 r_y316 gl_x315 dr_x319 c320 dr_x322 ex323 g_x326 ex327 dv_x327 dw_x327 c329 i1u334 c351 r_x400 hh_x400 ex401 dv_x401 r_x404 c405 c456 c461 g_x485 gl_x485 ex487))
                                refine ⟨i488, ?_⟩
                                intro S489 eS489
                                have hI : IV S489 := by rw [eS489]; exact iv11_aD hI (de_0 (by rw [ex487]; exact i2l_rng (lo := 0) (hi := 7) (qm191 r_x12 r_y13 wh_x12 c14 c26 r_x35 c36 c46 c54 r_x64 q_x64 wh_x64 g_x67 g_x70 c71 c80 c93 g_x315 r_y316 gl_x315 dr_x319 c320 dr_x322 ex323 g_x326 ex327 dv_x327 dw_x327 c329 i1u334 c351 r_x400 hh_x400 ex401 dv_x401 r_x404 c405 c456 c461 g_x485 gl_x485 ex487)))
                                have f0 := fr_J eS489 f0
                                have d_y2 := rd_J eS489 d_y2
                                have d_x64 := rd_J eS489 d_x64
                                have d_y13 := rd_J eS489 d_y13
                                have d_x35 := rd_J eS489 d_x35
                                have d_y316 := rd_J eS489 d_y316
                                have d_x400 := rd_J eS489 d_x400
                                have d_x404 := rd_J eS489 d_x404
                                have d_x455 := rd_J eS489 d_x455
                                have ea3 := rf_J eS489 ea3
                                have ea66 := rf_J eS489 ea66
                                have ea69 := rf_J eS489 ea69
                                have ea314 := rf_J eS489 ea314
                                have ea318 := rf_J eS489 ea318
                                have ea325 := rf_J eS489 ea325
                                have ea484 := rf_J eS489 ea484
                                have l_a314 := ln_J eS489 l_a314
                                have l_a318 := ln_J eS489 l_a318
                                have l_a325 := ln_J eS489 l_a325
                                have l_a484 := ln_J eS489 l_a484
                                have l_a66 := ln_J eS489 l_a66
                                have l_a69 := ln_J eS489 l_a69
                                have g0 := gr_J eS489 g0
                                have o_a3 := ob_J eS489 o_a3
                                have o_a314 := ob_J eS489 o_a314
                                have o_a318 := ob_J eS489 o_a318
                                have o_a325 := ob_J eS489 o_a325
                                have o_a484 := ob_J eS489 o_a484
                                have o_a66 := ob_J eS489 o_a66
                                have o_a69 := ob_J eS489 o_a69
                                have o_v0 := ob_J eS489 o_v0
                                refine ⟨a318, ea318, ?_⟩
                                refine ⟨a3, ea3, ?_⟩
                                refine ⟨o_a3, ?_⟩
                                refine u_X10_minutes ?_
                                refine u_X10_minutes_0 ?_
                                refine ⟨o_a3, ?_⟩
                                refine ⟨a325, ea325, ?_⟩
                                refine ⟨o_a325, ?_⟩
                                refine ⟨(vin l_a325 (m := 12) (by decide) (qm192 r_x12 r_y13 wh_x12 c14 c26 r_x35 c36 c46 c54 r_x64 q_x64 wh_x64 g_x67 g_x70 c71 c80 c93 g_x315 r_y316 gl_x315 dr_x319 c320 dr_x322 ex323 g_x326 ex327 dv_x327 dw_x327 c329 i1u334 c351 r_x400 hh_x400 ex401 dv_x401 r_x404 c405 c456 c461 g_x485 gl_x485 ex487)), ?_⟩
                                intro x493 ex493
                                have gy_x493 : 0 ≤ v1 ∧ v1 < fI S489 a3 3 := by rw [← d_x35]; exact (qm193 r_x12 r_y13 wh_x12 c14 c26 r_x35 c36 c46 c54 r_x64 q_x64 wh_x64 g_x67 g_x70 c71 c80 c93 g_x315 r_y316 gl_x315 dr_x319 c320 dr_x322 ex323 g_x326 ex327 dv_x327 dw_x327 c329 i1u334 c351 r_x400 hh_x400 ex401 dv_x401 r_x404 c405 c456 c461 g_x485 gl_x485 ex487)
                                have g_x493 : (1 : Int32) ≤ x493 ∧ x493 ≤ (60 : Int32) := by rw [ex493]; exact wg_at (ml_wg hI o_v0 ea3) 2 rfl gy_x493 ea325
                                refine ⟨(qm194 r_x12 r_y13 wh_x12 c14 c26 r_x35 c36 c46 c54 r_x64 q_x64 wh_x64 g_x67 g_x70 c71 c80 c93 g_x315 r_y316 gl_x315 dr_x319 c320 dr_x322 ex323 g_x326 ex327 dv_x327 dw_x327 c329 i1u334 c351 r_x400 hh_x400 ex401 dv_x401 r_x404 c405 c456 c461 g_x485 gl_x485 ex487), ?_⟩
                                intro x494 ex494
                                have dv_x494 : 0 ≤ x494 ∧ x494 ≤ ((x493 + v3) - (1 : Int32)) := by rw [ex494]; exact dv0 (qm195 r_x12 r_y13 wh_x12 c14 c26 r_x35 c36 c46 c54 r_x64 q_x64 wh_x64 g_x67 g_x70 c71 c80 c93 g_x315 r_y316 gl_x315 dr_x319 c320 dr_x322 ex323 g_x326 ex327 dv_x327 dw_x327 c329 i1u334 c351 r_x400 hh_x400 ex401 dv_x401 r_x404 c405 c456 c461 g_x485 gl_x485 ex487 g_x493 ex494) (i32pos (qm196 r_x12 r_y13 wh_x12 c14 c26 r_x35 c36 c46 c54 r_x64 q_x64 wh_x64 g_x67 g_x70 c71 c80 c93 g_x315 r_y316 gl_x315 dr_x319 c320 dr_x322 ex323 g_x326 ex327 dv_x327 dw_x327 c329 i1u334 c351 r_x400 hh_x400 ex401 dv_x401 r_x404 c405 c456 c461 g_x485 gl_x485 ex487 g_x493 ex494))
                                have dw_x494 : (1 : Int32) ≤ x494 := by rw [ex494]; exact dv1 (qm197 r_x12 r_y13 wh_x12 c14 c26 r_x35 c36 c46 c54 r_x64 q_x64 wh_x64 g_x67 g_x70 c71 c80 c93 g_x315 r_y316 gl_x315 dr_x319 c320 dr_x322 ex323 g_x326 ex327 dv_x327 dw_x327 c329 i1u334 c351 r_x400 hh_x400 ex401 dv_x401 r_x404 c405 c456 c461 g_x485 gl_x485 ex487 g_x493 ex494) (qm198 r_x12 r_y13 wh_x12 c14 c26 r_x35 c36 c46 c54 r_x64 q_x64 wh_x64 g_x67 g_x70 c71 c80 c93 g_x315 r_y316 gl_x315 dr_x319 c320 dr_x322 ex323 g_x326 ex327 dv_x327 dw_x327 c329 i1u334 c351 r_x400 hh_x400 ex401 dv_x401 r_x404 c405 c456 c461 g_x485 gl_x485 ex487 g_x493 ex494)
                                intro _
                                refine ⟨o_a318, ?_⟩
                                intro x496 ex496
                                have i497 : vp_in (1 : Int32) (hN _ a318) := (vin l_a318 (m := 7) (by decide) (qm199 r_x12 r_y13 wh_x12 c14 c26 r_x35 c36 c46 c54 r_x64 q_x64 wh_x64 g_x67 g_x70 c71 c80 c93 g_x315 r_y316 gl_x315 dr_x319 c320 dr_x322 ex323 g_x326 ex327 dv_x327 dw_x327 c329 i1u334 c351 r_x400 hh_x400 ex401 dv_x401 r_x404 c405 c456 c461 g_x485 gl_x485 ex487 g_x493 ex494 dv_x494 dw_x494 ex496))
                                refine ⟨i497, ?_⟩
                                intro S498 eS498
                                have hI : IV S498 := by rw [eS498]; exact iv11_aD hI (de_1 (by rw [ex496]; exact i2l_rng (lo := 0) (hi := 999) (qm200 r_x12 r_y13 wh_x12 c14 c26 r_x35 c36 c46 c54 r_x64 q_x64 wh_x64 g_x67 g_x70 c71 c80 c93 g_x315 r_y316 gl_x315 dr_x319 c320 dr_x322 ex323 g_x326 ex327 dv_x327 dw_x327 c329 i1u334 c351 r_x400 hh_x400 ex401 dv_x401 r_x404 c405 c456 c461 g_x485 gl_x485 ex487 g_x493 ex494 dv_x494 dw_x494 ex496)))
                                have f0 := fr_J eS498 f0
                                have d_y2 := rd_J eS498 d_y2
                                have d_x64 := rd_J eS498 d_x64
                                have d_y13 := rd_J eS498 d_y13
                                have d_x35 := rd_J eS498 d_x35
                                have d_y316 := rd_J eS498 d_y316
                                have d_x400 := rd_J eS498 d_x400
                                have d_x404 := rd_J eS498 d_x404
                                have d_x455 := rd_J eS498 d_x455
                                have ea3 := rf_J eS498 ea3
                                have ea66 := rf_J eS498 ea66
                                have ea69 := rf_J eS498 ea69
                                have ea314 := rf_J eS498 ea314
                                have ea318 := rf_J eS498 ea318
                                have ea325 := rf_J eS498 ea325
                                have ea484 := rf_J eS498 ea484
                                have l_a314 := ln_J eS498 l_a314
                                have l_a318 := ln_J eS498 l_a318
                                have l_a325 := ln_J eS498 l_a325
                                have l_a484 := ln_J eS498 l_a484
                                have l_a66 := ln_J eS498 l_a66
                                have l_a69 := ln_J eS498 l_a69
                                have g0 := gr_J eS498 g0
                                have o_a3 := ob_J eS498 o_a3
                                have o_a314 := ob_J eS498 o_a314
                                have o_a318 := ob_J eS498 o_a318
                                have o_a325 := ob_J eS498 o_a325
                                have o_a484 := ob_J eS498 o_a484
                                have o_a66 := ob_J eS498 o_a66
                                have o_a69 := ob_J eS498 o_a69
                                have o_v0 := ob_J eS498 o_v0
                                refine ⟨a318, ea318, ?_⟩
                                refine ⟨o_a318, ?_⟩
                                refine ⟨(vin l_a318 (m := 7) (by decide) (qm199 r_x12 r_y13 wh_x12 c14 c26 r_x35 c36 c46 c54 r_x64 q_x64 wh_x64 g_x67 g_x70 c71 c80 c93 g_x315 r_y316 gl_x315 dr_x319 c320 dr_x322 ex323 g_x326 ex327 dv_x327 dw_x327 c329 i1u334 c351 r_x400 hh_x400 ex401 dv_x401 r_x404 c405 c456 c461 g_x485 gl_x485 ex487 g_x493 ex494 dv_x494 dw_x494 ex496)), ?_⟩
                                intro x500 ex500
                                have de_x500 := ml_de hI o_v0 (j := 21) (by decide) ea318 (1 : Int32).toNatClampNeg
                                rw [← ex500] at de_x500
                                have dr_x500 : (0 : Int64) ≤ x500 ∧ x500 ≤ (999 : Int64) := de_x500.2 (by decide)
                                refine u_X11_good ?_
                                refine u_X11_good_0 ?_
                                refine ⟨o_v0, ?_⟩
                                intro S501 eS501
                                have hI : IV S501 := by rw [eS501]; exact iv11_sI hI o_v0 (by decide) (nu_free (by decide))
                                have f0 := fr_I eS501 g0 f0 o_v0 (by decide)
                                have d_y2 := rd_Ij eS501 (by decide) d_y2
                                have d_x64 := rd_Ij eS501 (by decide) d_x64
                                have d_y13 := rd_Ik eS501 o_v0 o_a3 (by decide) d_y13
                                have d_x35 := rd_Ik eS501 o_v0 o_a3 (by decide) d_x35
                                have d_y316 := rd_Ik eS501 o_v0 o_a3 (by decide) d_y316
                                have d_x400 := rd_Ik eS501 o_v0 o_a3 (by decide) d_x400
                                have d_x404 := rd_Ik eS501 o_v0 o_a3 (by decide) d_x404
                                have d_x455 := rd_Ij eS501 (by decide) d_x455
                                obtain ⟨y502, hy502⟩ : ∃ z : Int32, z = (0 : Int32) := ⟨_, rfl⟩
                                have d_y502 := rd_Is eS501 hy502
                                have ea3 := rf_I eS501 ea3
                                have ea66 := rf_I eS501 ea66
                                have ea69 := rf_I eS501 ea69
                                have ea314 := rf_I eS501 ea314
                                have ea318 := rf_I eS501 ea318
                                have ea325 := rf_I eS501 ea325
                                have ea484 := rf_I eS501 ea484
                                have l_a314 := ln_I eS501 l_a314
                                have l_a318 := ln_I eS501 l_a318
                                have l_a325 := ln_I eS501 l_a325
                                have l_a484 := ln_I eS501 l_a484
                                have l_a66 := ln_I eS501 l_a66
                                have l_a69 := ln_I eS501 l_a69
                                have g0 := gr_I eS501 g0
                                have o_a3 := ob_I eS501 o_a3
                                have o_a314 := ob_I eS501 o_a314
                                have o_a318 := ob_I eS501 o_a318
                                have o_a325 := ob_I eS501 o_a325
                                have o_a484 := ob_I eS501 o_a484
                                have o_a66 := ob_I eS501 o_a66
                                have o_a69 := ob_I eS501 o_a69
                                have o_v0 := ob_I eS501 o_v0
                                intro S503 eS503
                                have hI : IV S503 := by rw [eS503]; exact iv11_sI hI o_v0 (by decide) (nu_free (by decide))
                                have f0 := fr_I eS503 g0 f0 o_v0 (by decide)
                                have d_y2 := rd_Ij eS503 (by decide) d_y2
                                have d_x64 := rd_Ij eS503 (by decide) d_x64
                                have d_y13 := rd_Ik eS503 o_v0 o_a3 (by decide) d_y13
                                have d_x35 := rd_Ik eS503 o_v0 o_a3 (by decide) d_x35
                                have d_y316 := rd_Ik eS503 o_v0 o_a3 (by decide) d_y316
                                have d_x400 := rd_Ik eS503 o_v0 o_a3 (by decide) d_x400
                                have d_x404 := rd_Ik eS503 o_v0 o_a3 (by decide) d_x404
                                have d_x455 := rd_Ij eS503 (by decide) d_x455
                                have d_y502 := rd_Ij eS503 (by decide) d_y502
                                obtain ⟨y504, hy504⟩ : ∃ z : Int32, z = (-1 : Int32) := ⟨_, rfl⟩
                                have d_y504 := rd_Is eS503 hy504
                                have ea3 := rf_I eS503 ea3
                                have ea66 := rf_I eS503 ea66
                                have ea69 := rf_I eS503 ea69
                                have ea314 := rf_I eS503 ea314
                                have ea318 := rf_I eS503 ea318
                                have ea325 := rf_I eS503 ea325
                                have ea484 := rf_I eS503 ea484
                                have l_a314 := ln_I eS503 l_a314
                                have l_a318 := ln_I eS503 l_a318
                                have l_a325 := ln_I eS503 l_a325
                                have l_a484 := ln_I eS503 l_a484
                                have l_a66 := ln_I eS503 l_a66
                                have l_a69 := ln_I eS503 l_a69
                                have g0 := gr_I eS503 g0
                                have o_a3 := ob_I eS503 o_a3
                                have o_a314 := ob_I eS503 o_a314
                                have o_a318 := ob_I eS503 o_a318
                                have o_a325 := ob_I eS503 o_a325
                                have o_a484 := ob_I eS503 o_a484
                                have o_a66 := ob_I eS503 o_a66
                                have o_a69 := ob_I eS503 o_a69
                                have o_v0 := ob_I eS503 o_v0
                                intro _
                                exact hq _ _ hI g0 f0
                            · intro _ _
                              refine ⟨fun c507 => absurd (show (1 : Int32) = 0 from c507) (by decide), fun c507 => ?_⟩
                              refine ⟨a318, ea318, ?_⟩
                              refine ⟨o_a318, ?_⟩
                              intro x509 ex509
                              refine ⟨(vin l_a318 (m := 7) (by decide) (qm201 r_x12 r_y13 wh_x12 c14 c26 r_x35 c36 c46 c54 r_x64 q_x64 wh_x64 g_x67 g_x70 c71 c80 c93 g_x315 r_y316 gl_x315 dr_x319 c320 dr_x322 ex323 g_x326 ex327 dv_x327 dw_x327 c329 i1u334 c351 r_x400 hh_x400 ex401 dv_x401 r_x404 c405 c456 ex509)), ?_⟩
                              intro x510 ex510
                              have de_x510 := ml_de hI o_v0 (j := 21) (by decide) ea318 x509.toNatClampNeg
                              rw [← ex510] at de_x510
                              intro x511 ex511
                              have r_x511 : (-2 : Int32) ≤ x511 ∧ x511 ≤ (3 : Int32) := by rw [ex511]; exact nu 26 rfl hI o_v0
                              have q_x511 : x511 = x64 := ex511.trans d_x64.symm
                              have d_x511 := ex511
                              have wh_x511 : x511 = -2 ∨ (0 ≤ x511 ∧ x511 < y13) := by rw [ex511, d_y13]; exact ml_who hI o_v0 ea3
                              refine u_X11_hourOf ?_
                              refine u_X11_hourOf_0 ?_
                              refine ⟨o_v0, ?_⟩
                              refine ⟨a3, ea3, ?_⟩
                              refine ⟨o_a3, ?_⟩
                              intro x513 ex513
                              have r_x513 : (0 : Int32) ≤ x513 ∧ x513 ≤ (60 : Int32) := by rw [ex513]; exact nu 16 rfl hI o_a3
                              have q_x513 : x513 = x400 := ex513.trans d_x400.symm
                              have d_x513 := ex513
                              have hh_x513 : 1 ≤ x513 := by rw [ex513]; exact ml_hour hI o_v0 ea3
                              refine ⟨(qm202 r_x12 r_y13 wh_x12 c14 c26 r_x35 c36 c46 c54 r_x64 q_x64 wh_x64 g_x67 g_x70 c71 c80 c93 g_x315 r_y316 gl_x315 dr_x319 c320 dr_x322 ex323 g_x326 ex327 dv_x327 dw_x327 c329 i1u334 c351 r_x400 hh_x400 ex401 dv_x401 r_x404 c405 c456 ex509 r_x511 q_x511 wh_x511 r_x513 q_x513 hh_x513), ?_⟩
                              intro x514 ex514
                              have dv_x514 : 0 ≤ x514 ∧ x514 ≤ x323 := by rw [ex514]; exact dv0 (qm203 r_x12 r_y13 wh_x12 c14 c26 r_x35 c36 c46 c54 r_x64 q_x64 wh_x64 g_x67 g_x70 c71 c80 c93 g_x315 r_y316 gl_x315 dr_x319 c320 dr_x322 ex323 g_x326 ex327 dv_x327 dw_x327 c329 i1u334 c351 r_x400 hh_x400 ex401 dv_x401 r_x404 c405 c456 ex509 r_x511 q_x511 wh_x511 r_x513 q_x513 hh_x513 ex514) (i32pos (qm204 r_x12 r_y13 wh_x12 c14 c26 r_x35 c36 c46 c54 r_x64 q_x64 wh_x64 g_x67 g_x70 c71 c80 c93 g_x315 r_y316 gl_x315 dr_x319 c320 dr_x322 ex323 g_x326 ex327 dv_x327 dw_x327 c329 i1u334 c351 r_x400 hh_x400 ex401 dv_x401 r_x404 c405 c456 ex509 r_x511 q_x511 wh_x511 r_x513 q_x513 hh_x513 ex514))
                              intro _
                              refine m_X11_partsOf hI o_v0 (qm205 r_x12 r_y13 wh_x12 c14 c26 r_x35 c36 c46 c54 r_x64 q_x64 wh_x64 g_x67 g_x70 c71 c80 c93 g_x315 r_y316 gl_x315 dr_x319 c320 dr_x322 ex323 g_x326 ex327 dv_x327 dw_x327 c329 i1u334 c351 r_x400 hh_x400 ex401 dv_x401 r_x404 c405 c456 ex509 r_x511 q_x511 wh_x511 r_x513 q_x513 hh_x513 ex514 dv_x514) (qm206 r_x12 r_y13 wh_x12 c14 c26 r_x35 c36 c46 c54 r_x64 q_x64 wh_x64 g_x67 g_x70 c71 c80 c93 g_x315 r_y316 gl_x315 dr_x319 c320 dr_x322 ex323 g_x326 ex327 dv_x327 dw_x327 c329 i1u334 c351 r_x400 hh_x400 ex401 dv_x401 r_x404 c405 c456 ex509 r_x511 q_x511 wh_x511 r_x513 q_x513 hh_x513 ex514 dv_x514) (qm207 r_x12 r_y13 wh_x12 c14 c26 r_x35 c36 c46 c54 r_x64 q_x64 wh_x64 g_x67 g_x70 c71 c80 c93 g_x315 r_y316 gl_x315 dr_x319 c320 dr_x322 ex323 g_x326 ex327 dv_x327 dw_x327 c329 i1u334 c351 r_x400 hh_x400 ex401 dv_x401 r_x404 c405 c456 ex509 r_x511 q_x511 wh_x511 r_x513 q_x513 hh_x513 ex514 dv_x514) (qm208 r_x12 r_y13 wh_x12 c14 c26 r_x35 c36 c46 c54 r_x64 q_x64 wh_x64 g_x67 g_x70 c71 c80 c93 g_x315 r_y316 gl_x315 dr_x319 c320 dr_x322 ex323 g_x326 ex327 dv_x327 dw_x327 c329 i1u334 c351 r_x400 hh_x400 ex401 dv_x401 r_x404 c405 c456 ex509 r_x511 q_x511 wh_x511 r_x513 q_x513 hh_x513 ex514 dv_x514) ⟨_, ea3⟩ (fun x516 S517 hI2 g518 p_x516 => ?_)
                              subst p_x516
                              intro _
                              intro x520 ex520
                              have i521 : vp_in ((2 : Int32) + w348) (hN _ a318) := (vin l_a318 (m := 7) (by decide) (qm209 r_x12 r_y13 wh_x12 c14 c26 r_x35 c36 c46 c54 r_x64 q_x64 wh_x64 g_x67 g_x70 c71 c80 c93 g_x315 r_y316 gl_x315 dr_x319 c320 dr_x322 ex323 g_x326 ex327 dv_x327 dw_x327 c329 i1u334 c351 r_x400 hh_x400 ex401 dv_x401 r_x404 c405 c456 ex509 r_x511 q_x511 wh_x511 r_x513 q_x513 hh_x513 ex514 dv_x514))
                              refine ⟨i521, ?_⟩
                              intro S522 eS522
                              have hI : IV S522 := by rw [eS522]; exact iv11_aD hI (de_free (qm210 r_x12 r_y13 wh_x12 c14 c26 r_x35 c36 c46 c54 r_x64 q_x64 wh_x64 g_x67 g_x70 c71 c80 c93 g_x315 r_y316 gl_x315 dr_x319 c320 dr_x322 ex323 g_x326 ex327 dv_x327 dw_x327 c329 i1u334 c351 r_x400 hh_x400 ex401 dv_x401 r_x404 c405 c456 ex509 r_x511 q_x511 wh_x511 r_x513 q_x513 hh_x513 ex514 dv_x514))
                              have f0 := fr_J eS522 f0
                              have fL337 := fr_J eS522 fL337
                              have d_y2 := rd_J eS522 d_y2
                              have d_x511 := rd_J eS522 d_x511
                              have d_y13 := rd_J eS522 d_y13
                              have d_x35 := rd_J eS522 d_x35
                              have d_y316 := rd_J eS522 d_y316
                              have d_x513 := rd_J eS522 d_x513
                              have d_x404 := rd_J eS522 d_x404
                              have d_x455 := rd_J eS522 d_x455
                              have ea3 := rf_J eS522 ea3
                              have ea66 := rf_J eS522 ea66
                              have ea69 := rf_J eS522 ea69
                              have ea314 := rf_J eS522 ea314
                              have ea318 := rf_J eS522 ea318
                              have ea325 := rf_J eS522 ea325
                              have l_a314 := ln_J eS522 l_a314
                              have l_a318 := ln_J eS522 l_a318
                              have l_a325 := ln_J eS522 l_a325
                              have l_a66 := ln_J eS522 l_a66
                              have l_a69 := ln_J eS522 l_a69
                              have g0 := gr_J eS522 g0
                              have gL336 := gr_J eS522 gL336
                              have o_a3 := ob_J eS522 o_a3
                              have o_a314 := ob_J eS522 o_a314
                              have o_a318 := ob_J eS522 o_a318
                              have o_a325 := ob_J eS522 o_a325
                              have o_a66 := ob_J eS522 o_a66
                              have o_a69 := ob_J eS522 o_a69
                              have o_v0 := ob_J eS522 o_v0
                              intro x523 ex523
                              exact ih350 _ _ _ _ _ _ _ ⟨hI, gL336, fL337, rfl, rfl, rfl, rfl, rfl, (qm211 r_x12 r_y13 wh_x12 c14 c26 r_x35 c36 c46 c54 r_x64 q_x64 wh_x64 g_x67 g_x70 c71 c80 c93 g_x315 r_y316 gl_x315 dr_x319 c320 dr_x322 ex323 g_x326 ex327 dv_x327 dw_x327 c329 i1u334 c351 r_x400 hh_x400 ex401 dv_x401 r_x404 c405 c456 ex509 r_x511 q_x511 wh_x511 r_x513 q_x513 hh_x513 ex514 dv_x514 ex523)⟩ (mu_up (qm212 r_x12 r_y13 wh_x12 c14 c26 r_x35 c36 c46 c54 r_x64 q_x64 wh_x64 g_x67 g_x70 c71 c80 c93 g_x315 r_y316 gl_x315 dr_x319 c320 dr_x322 ex323 g_x326 ex327 dv_x327 dw_x327 c329 i1u334 c351 r_x400 hh_x400 ex401 dv_x401 r_x404 c405 c456 ex509 r_x511 q_x511 wh_x511 r_x513 q_x513 hh_x513 ex514 dv_x514 ex523) (qm213 r_x12 r_y13 wh_x12 c14 c26 r_x35 c36 c46 c54 r_x64 q_x64 wh_x64 g_x67 g_x70 c71 c80 c93 g_x315 r_y316 gl_x315 dr_x319 c320 dr_x322 ex323 g_x326 ex327 dv_x327 dw_x327 c329 i1u334 c351 r_x400 hh_x400 ex401 dv_x401 r_x404 c405 c456 ex509 r_x511 q_x511 wh_x511 r_x513 q_x513 hh_x513 ex514 dv_x514 ex523))
                      · refine u_X11_refused ?_
                        refine u_X11_refused_0 ?_
                        refine ⟨o_v0, ?_⟩
                        intro S524 eS524
                        have hI : IV S524 := by rw [eS524]; exact iv11_sI hI o_v0 (by decide) (nu_free (by decide))
                        have f0 := fr_I eS524 g0 f0 o_v0 (by decide)
                        have d_y2 := rd_Ij eS524 (by decide) d_y2
                        have d_x64 := rd_Ij eS524 (by decide) d_x64
                        have d_y13 := rd_Ik eS524 o_v0 o_a3 (by decide) d_y13
                        have d_x35 := rd_Ik eS524 o_v0 o_a3 (by decide) d_x35
                        have d_y316 := rd_Ik eS524 o_v0 o_a3 (by decide) d_y316
                        obtain ⟨y525, hy525⟩ : ∃ z : Int32, z = (3 : Int32) := ⟨_, rfl⟩
                        have d_y525 := rd_Is eS524 hy525
                        have ea3 := rf_I eS524 ea3
                        have ea66 := rf_I eS524 ea66
                        have ea69 := rf_I eS524 ea69
                        have ea314 := rf_I eS524 ea314
                        have ea318 := rf_I eS524 ea318
                        have ea325 := rf_I eS524 ea325
                        have l_a314 := ln_I eS524 l_a314
                        have l_a318 := ln_I eS524 l_a318
                        have l_a325 := ln_I eS524 l_a325
                        have l_a66 := ln_I eS524 l_a66
                        have l_a69 := ln_I eS524 l_a69
                        have g0 := gr_I eS524 g0
                        have o_a3 := ob_I eS524 o_a3
                        have o_a314 := ob_I eS524 o_a314
                        have o_a318 := ob_I eS524 o_a318
                        have o_a325 := ob_I eS524 o_a325
                        have o_a66 := ob_I eS524 o_a66
                        have o_a69 := ob_I eS524 o_a69
                        have o_v0 := ob_I eS524 o_v0
                        intro S526 eS526
                        have hI : IV S526 := by rw [eS526]; exact iv11_sI hI o_v0 (by decide) (nu_free (by decide))
                        have f0 := fr_I eS526 g0 f0 o_v0 (by decide)
                        have d_y2 := rd_Ij eS526 (by decide) d_y2
                        have d_x64 := rd_Ij eS526 (by decide) d_x64
                        have d_y13 := rd_Ik eS526 o_v0 o_a3 (by decide) d_y13
                        have d_x35 := rd_Ik eS526 o_v0 o_a3 (by decide) d_x35
                        have d_y316 := rd_Ik eS526 o_v0 o_a3 (by decide) d_y316
                        have d_y525 := rd_Ij eS526 (by decide) d_y525
                        obtain ⟨y527, hy527⟩ : ∃ z : Int32, z = (-1 : Int32) := ⟨_, rfl⟩
                        have d_y527 := rd_Is eS526 hy527
                        have ea3 := rf_I eS526 ea3
                        have ea66 := rf_I eS526 ea66
                        have ea69 := rf_I eS526 ea69
                        have ea314 := rf_I eS526 ea314
                        have ea318 := rf_I eS526 ea318
                        have ea325 := rf_I eS526 ea325
                        have l_a314 := ln_I eS526 l_a314
                        have l_a318 := ln_I eS526 l_a318
                        have l_a325 := ln_I eS526 l_a325
                        have l_a66 := ln_I eS526 l_a66
                        have l_a69 := ln_I eS526 l_a69
                        have g0 := gr_I eS526 g0
                        have o_a3 := ob_I eS526 o_a3
                        have o_a314 := ob_I eS526 o_a314
                        have o_a318 := ob_I eS526 o_a318
                        have o_a325 := ob_I eS526 o_a325
                        have o_a66 := ob_I eS526 o_a66
                        have o_a69 := ob_I eS526 o_a69
                        have o_v0 := ob_I eS526 o_v0
                        intro _
                        exact hq _ _ hI g0 f0
                    · refine u_X11_refused ?_
                      refine u_X11_refused_0 ?_
                      refine ⟨o_v0, ?_⟩
                      intro S529 eS529
                      have hI : IV S529 := by rw [eS529]; exact iv11_sI hI o_v0 (by decide) (nu_free (by decide))
                      have f0 := fr_I eS529 g0 f0 o_v0 (by decide)
                      have d_y2 := rd_Ij eS529 (by decide) d_y2
                      have d_x64 := rd_Ij eS529 (by decide) d_x64
                      have d_y13 := rd_Ik eS529 o_v0 o_a3 (by decide) d_y13
                      have d_x35 := rd_Ik eS529 o_v0 o_a3 (by decide) d_x35
                      have d_y316 := rd_Ik eS529 o_v0 o_a3 (by decide) d_y316
                      obtain ⟨y530, hy530⟩ : ∃ z : Int32, z = (5 : Int32) := ⟨_, rfl⟩
                      have d_y530 := rd_Is eS529 hy530
                      have ea3 := rf_I eS529 ea3
                      have ea66 := rf_I eS529 ea66
                      have ea69 := rf_I eS529 ea69
                      have ea314 := rf_I eS529 ea314
                      have ea318 := rf_I eS529 ea318
                      have l_a314 := ln_I eS529 l_a314
                      have l_a318 := ln_I eS529 l_a318
                      have l_a66 := ln_I eS529 l_a66
                      have l_a69 := ln_I eS529 l_a69
                      have g0 := gr_I eS529 g0
                      have o_a3 := ob_I eS529 o_a3
                      have o_a314 := ob_I eS529 o_a314
                      have o_a318 := ob_I eS529 o_a318
                      have o_a66 := ob_I eS529 o_a66
                      have o_a69 := ob_I eS529 o_a69
                      have o_v0 := ob_I eS529 o_v0
                      intro S531 eS531
                      have hI : IV S531 := by rw [eS531]; exact iv11_sI hI o_v0 (by decide) (nu_free (by decide))
                      have f0 := fr_I eS531 g0 f0 o_v0 (by decide)
                      have d_y2 := rd_Ij eS531 (by decide) d_y2
                      have d_x64 := rd_Ij eS531 (by decide) d_x64
                      have d_y13 := rd_Ik eS531 o_v0 o_a3 (by decide) d_y13
                      have d_x35 := rd_Ik eS531 o_v0 o_a3 (by decide) d_x35
                      have d_y316 := rd_Ik eS531 o_v0 o_a3 (by decide) d_y316
                      have d_y530 := rd_Ij eS531 (by decide) d_y530
                      obtain ⟨y532, hy532⟩ : ∃ z : Int32, z = (-1 : Int32) := ⟨_, rfl⟩
                      have d_y532 := rd_Is eS531 hy532
                      have ea3 := rf_I eS531 ea3
                      have ea66 := rf_I eS531 ea66
                      have ea69 := rf_I eS531 ea69
                      have ea314 := rf_I eS531 ea314
                      have ea318 := rf_I eS531 ea318
                      have l_a314 := ln_I eS531 l_a314
                      have l_a318 := ln_I eS531 l_a318
                      have l_a66 := ln_I eS531 l_a66
                      have l_a69 := ln_I eS531 l_a69
                      have g0 := gr_I eS531 g0
                      have o_a3 := ob_I eS531 o_a3
                      have o_a314 := ob_I eS531 o_a314
                      have o_a318 := ob_I eS531 o_a318
                      have o_a66 := ob_I eS531 o_a66
                      have o_a69 := ob_I eS531 o_a69
                      have o_v0 := ob_I eS531 o_v0
                      intro _
                      exact hq _ _ hI g0 f0
