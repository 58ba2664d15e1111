section
set_option maxHeartbeats 4000000 in
set_option maxRecDepth 20000 in
theorem m_X11_fitOf {v0 : Nat} {v1 : Int32} {v2 : Int32} {Q : Int32 → HS → Prop} {S : HS} (hI : IV S) (o_v0 : ob S v0 11)     (hwi1 : WI S v0 5 v1) (hq : ∀ (r : Int32) (T : HS), IV T → Gr S T → (S = T) → Q r T) : P_X11_fitOf v0 v1 v2 Q S := by
  have g0 := gr_rf S
  obtain ⟨a1, ea1, hx1⟩ := hwi1
  have o_a1 := ml_ob hI o_v0 ea1
  obtain ⟨kv2, d_kv2⟩ : ∃ z : Int32, z = fI S a1 5 := ⟨_, rfl⟩
  have r_kv2 : (0 : Int32) ≤ kv2 ∧ kv2 ≤ (4 : Int32) := by rw [d_kv2]; exact nu 21 rfl hI o_a1
  have hwi1 : 0 ≤ v1 ∧ v1 < kv2 := by rw [d_kv2]; exact hx1
  refine u_X11_fitOf ?_
  refine u_X11_fitOf_0 ?_
  refine ⟨o_v0, ?_⟩
  refine ⟨a1, ea1, ?_⟩
  refine ⟨o_a1, ?_⟩
  obtain ⟨a4, ea4, o_a4, l_a4⟩ := shl 48 rfl hI o_a1
  refine ⟨a4, ea4, ?_⟩
  refine ⟨o_a4, ?_⟩
  refine ⟨(vin l_a4 (m := 4) (by decide) (qm566 r_kv2 hwi1)), ?_⟩
  intro x5 ex5
  have gy_x5 : 0 ≤ v1 ∧ v1 < fI S a1 5 := by rw [← d_kv2]; exact (qm567 r_kv2 hwi1)
  have g_x5 : (0 : Int32) ≤ x5 ∧ x5 ≤ (3 : Int32) := by rw [ex5]; exact wg_at (ml_wg hI o_v0 ea1) 5 rfl gy_x5 ea4
  obtain ⟨kv6, d_kv6⟩ : ∃ z : Int32, z = fI S a1 4 := ⟨_, rfl⟩
  have r_kv6 : (0 : Int32) ≤ kv6 ∧ kv6 ≤ (4 : Int32) := by rw [d_kv6]; exact nu 20 rfl hI o_a1
  have gl_x5 : x5 < kv6 := by rw [ex5, d_kv6]; exact wg_lt (ml_wg hI o_v0 ea1) 5 rfl (by decide) gy_x5 ea4
  refine i_X11_fitOf_16 (fun (y0 : Nat) (y1 : Int32) (y2 : Int32) (y3 : Int32) (y4 : Int32) (y5 : Int32) (Z : HS) => ((2147483647 : Int32).toInt - y5.toInt).toNat) (fun (y0 : Nat) (y1 : Int32) (y2 : Int32) (y3 : Int32) (y4 : Int32) (y5 : Int32) (Z : HS) => (S = Z) ∧ (v0 = y0) ∧ (v1 = y1) ∧ (v2 = y2) ∧ (x5 = y3) ∧ (0 ≤ y5)) ?_ _ _ _ _ _ _ _ ⟨rfl, rfl, rfl, rfl, rfl, (qm8)⟩
  intro w11 w13 w15 w17 w19 w20 S8 X21 ⟨eS8, q12, q14, q16, q18, i1u7⟩ ih22
  subst q12
  subst q14
  subst q16
  subst q18
  subst eS8
  refine u_X11_fitOf_16 ?_
  refine ⟨o_v0, ?_⟩
  refine ⟨a1, ea1, ?_⟩
  refine ⟨o_a1, ?_⟩
  intro x24 ex24
  have r_x24 : (0 : Int32) ≤ x24 ∧ x24 ≤ (12 : Int32) := by rw [ex24]; exact nu 19 rfl hI o_a1
  have d_x24 := ex24
  refine ⟨fun c25 => ?_, fun c25 => ?_⟩
  · refine ⟨fun c26 => ?_, fun c26 => ?_⟩
    · exact hq _ _ hI g0 rfl
    · exact hq _ _ hI g0 rfl
  · refine i_X11_fitOf_31 (fun (y0 : Nat) (y1 : Int32) (y2 : Int32) (y3 : Int32) (y4 : Int32) (y5 : Int32) (y6 : Int32) (Z : HS) => ((2147483647 : Int32).toInt - y6.toInt).toNat) (fun (y0 : Nat) (y1 : Int32) (y2 : Int32) (y3 : Int32) (y4 : Int32) (y5 : Int32) (y6 : Int32) (Z : HS) => (S = Z) ∧ (v0 = y0) ∧ (v1 = y1) ∧ (v2 = y2) ∧ (x5 = y3) ∧ (w20 = y5) ∧ (0 ≤ y6)) ?_ _ _ _ _ _ _ _ _ ⟨rfl, rfl, rfl, rfl, rfl, rfl, (qm568 i1u7 r_x24 c25)⟩
    intro w31 w33 w35 w37 w39 w40 w42 S28 X43 ⟨eS28, q32, q34, q36, q38, q41, i1u27⟩ ih44
    subst q32
    subst q34
    subst q36
    subst q38
    subst q41
    subst eS28
    refine u_X11_fitOf_31 ?_
    refine ⟨fun c45 => ?_, fun c45 => ?_⟩
    · intro x46 ex46
      exact ih22 _ _ _ _ _ _ _ ⟨rfl, rfl, rfl, rfl, rfl, (qm569 i1u7 r_x24 c25 i1u27 c45 ex46)⟩ (mu_up (qm570 i1u7 r_x24 c25 i1u27 c45 ex46) (qm571 i1u7 r_x24 c25 i1u27 c45 ex46))
    · refine i_X11_fitOf_40 (fun (y0 : Nat) (y1 : Int32) (y2 : Int32) (y3 : Int32) (y4 : Int32) (y5 : Int32) (y6 : Int32) (y7 : Int32) (Z : HS) => ((2147483647 : Int32).toInt - y7.toInt).toNat) (fun (y0 : Nat) (y1 : Int32) (y2 : Int32) (y3 : Int32) (y4 : Int32) (y5 : Int32) (y6 : Int32) (y7 : Int32) (Z : HS) => (S = Z) ∧ (v0 = y0) ∧ (v1 = y1) ∧ (v2 = y2) ∧ (x5 = y3) ∧ (w20 = y5) ∧ (w42 = y6) ∧ (0 ≤ y7)) ?_ _ _ _ _ _ _ _ _ _ ⟨rfl, rfl, rfl, rfl, rfl, rfl, rfl, (qm572 i1u7 r_x24 c25 i1u27 c45)⟩
      intro w51 w53 w55 w57 w59 w60 w62 w64 S48 X65 ⟨eS48, q52, q54, q56, q58, q61, q63, i1u47⟩ ih66
      subst q52
      subst q54
      subst q56
      subst q58
      subst q61
      subst q63
      subst eS48
      refine u_X11_fitOf_40 ?_
      refine ⟨o_v0, ?_⟩
      refine ⟨a1, ea1, ?_⟩
      refine ⟨o_a1, ?_⟩
      intro x68 ex68
      have r_x68 : (0 : Int32) ≤ x68 ∧ x68 ≤ (6 : Int32) := by rw [ex68]; exact nu 17 rfl hI o_a1
      have d_x68 := ex68
      refine ⟨fun c69 => ?_, fun c69 => ?_⟩
      · intro x70 ex70
        exact ih44 _ _ _ _ _ _ _ _ ⟨rfl, rfl, rfl, rfl, rfl, rfl, (qm573 i1u7 r_x24 c25 i1u27 c45 i1u47 r_x68 c69 ex70)⟩ (mu_up (qm574 i1u7 r_x24 c25 i1u27 c45 i1u47 r_x68 c69 ex70) (qm575 i1u7 r_x24 c25 i1u27 c45 i1u47 r_x68 c69 ex70))
      · refine ⟨a1, ea1, ?_⟩
        refine ⟨o_a1, ?_⟩
        obtain ⟨a72, ea72, o_a72, l_a72⟩ := shl 46 rfl hI o_a1
        refine ⟨a72, ea72, ?_⟩
        refine ⟨o_a72, ?_⟩
        refine ⟨(vin l_a72 (m := 4) (by decide) (qm576 g_x5 r_kv6 gl_x5 i1u7 r_x24 c25 i1u27 c45 i1u47 r_x68 c69)), ?_⟩
        intro x73 ex73
        have gy_x73 : 0 ≤ x5 ∧ x5 < fI S a1 4 := by rw [← d_kv6]; exact (qm577 g_x5 r_kv6 gl_x5 i1u7 r_x24 c25 i1u27 c45 i1u47 r_x68 c69)
        have g_x73 : (1 : Int32) ≤ x73 ∧ x73 ≤ (9 : Int32) := by rw [ex73]; exact wg_at (ml_wg hI o_v0 ea1) 3 rfl gy_x73 ea72
        refine i_X11_fitOf_63 (fun (y0 : Nat) (y1 : Int32) (y2 : Int32) (y3 : Int32) (y4 : Int32) (y5 : Int32) (y6 : Int32) (y7 : Int32) (y8 : Int32) (Z : HS) => ((2147483647 : Int32).toInt - y8.toInt).toNat) (fun (y0 : Nat) (y1 : Int32) (y2 : Int32) (y3 : Int32) (y4 : Int32) (y5 : Int32) (y6 : Int32) (y7 : Int32) (y8 : Int32) (Z : HS) => (S = Z) ∧ (v0 = y0) ∧ (v1 = y1) ∧ (v2 = y2) ∧ (x5 = y3) ∧ (w20 = y5) ∧ (w42 = y6) ∧ (w64 = y7) ∧ (1 ≤ y8)) ?_ _ _ _ _ _ _ _ _ _ _ ⟨rfl, rfl, rfl, rfl, rfl, rfl, rfl, rfl, (qm578 i1u7 r_x24 c25 i1u27 c45 i1u47 r_x68 c69 g_x73)⟩
        intro w78 w80 w82 w84 w86 w87 w89 w91 w93 S75 X94 ⟨eS75, q79, q81, q83, q85, q88, q90, q92, i1u74⟩ ih95
        subst q79
        subst q81
        subst q83
        subst q85
        subst q88
        subst q90
        subst q92
        subst eS75
        refine u_X11_fitOf_63 ?_
        refine ⟨o_v0, ?_⟩
        refine ⟨a1, ea1, ?_⟩
        refine ⟨o_a1, ?_⟩
        obtain ⟨a97, ea97, o_a97, l_a97⟩ := shl 47 rfl hI o_a1
        refine ⟨a97, ea97, ?_⟩
        refine ⟨o_a97, ?_⟩
        refine ⟨(vin l_a97 (m := 4) (by decide) (qm576 g_x5 r_kv6 gl_x5 i1u7 r_x24 c25 i1u27 c45 i1u47 r_x68 c69)), ?_⟩
        intro x98 ex98
        have gy_x98 : 0 ≤ x5 ∧ x5 < fI S a1 4 := by rw [← d_kv6]; exact (qm577 g_x5 r_kv6 gl_x5 i1u7 r_x24 c25 i1u27 c45 i1u47 r_x68 c69)
        have g_x98 : (0 : Int32) ≤ x98 ∧ x98 ≤ (9 : Int32) := by rw [ex98]; exact wg_at (ml_wg hI o_v0 ea1) 4 rfl gy_x98 ea97
        refine ⟨fun c99 => ?_, fun c99 => ?_⟩
        · intro x100 ex100
          exact ih66 _ _ _ _ _ _ _ _ _ ⟨rfl, rfl, rfl, rfl, rfl, rfl, rfl, (qm579 i1u7 r_x24 c25 i1u27 c45 i1u47 r_x68 c69 i1u74 g_x98 c99 ex100)⟩ (mu_up (qm580 i1u7 r_x24 c25 i1u27 c45 i1u47 r_x68 c69 i1u74 g_x98 c99 ex100) (qm581 i1u7 r_x24 c25 i1u27 c45 i1u47 r_x68 c69 i1u74 g_x98 c99 ex100))
        · refine i_X11_fitOf_83 (fun (y0 : Nat) (y1 : Int32) (y2 : Int32) (y3 : Int32) (y4 : Int32) (y5 : Int32) (y6 : Int32) (y7 : Int32) (y8 : Int32) (y9 : Int32) (y10 : Int32) (Z : HS) => ((2147483647 : Int32).toInt - y10.toInt).toNat) (fun (y0 : Nat) (y1 : Int32) (y2 : Int32) (y3 : Int32) (y4 : Int32) (y5 : Int32) (y6 : Int32) (y7 : Int32) (y8 : Int32) (y9 : Int32) (y10 : Int32) (Z : HS) => (S = Z) ∧ (v0 = y0) ∧ (v1 = y1) ∧ (v2 = y2) ∧ (x5 = y3) ∧ (w86 = y4) ∧ (w20 = y5) ∧ (w42 = y6) ∧ (w64 = y7) ∧ (w93 = y8) ∧ (0 ≤ y10)) ?_ _ _ _ _ _ _ _ _ _ _ _ _ ⟨rfl, rfl, rfl, rfl, rfl, rfl, rfl, rfl, rfl, rfl, (qm582 i1u7 r_x24 c25 i1u27 c45 i1u47 r_x68 c69 i1u74 g_x98 c99)⟩
          intro w105 w107 w109 w111 w113 w115 w117 w119 w121 w123 w124 S102 X125 ⟨eS102, q106, q108, q110, q112, q114, q116, q118, q120, q122, i1u101⟩ ih126
          subst q106
          subst q108
          subst q110
          subst q112
          subst q114
          subst q116
          subst q118
          subst q120
          subst q122
          subst eS102
          refine u_X11_fitOf_83 ?_
          refine ⟨fun c127 => ?_, fun c127 => ?_⟩
          · refine ⟨fun c128 => ?_, fun c128 => ?_⟩
            · refine ⟨fun c129 => ?_, fun c129 => ?_⟩
              · intro x130 ex130
                refine u_X11_fitOf_184 ?_
                intro x131 ex131
                exact ih95 _ _ _ _ _ _ _ _ _ _ ⟨rfl, rfl, rfl, rfl, rfl, rfl, rfl, rfl, (qm583 i1u7 r_x24 c25 i1u27 c45 i1u47 r_x68 c69 i1u74 g_x98 c99 i1u101 c127 c128 c129 ex130 ex131)⟩ (mu_up (qm584 i1u7 r_x24 c25 i1u27 c45 i1u47 r_x68 c69 i1u74 g_x98 c99 i1u101 c127 c128 c129 ex130 ex131) (qm585 i1u7 r_x24 c25 i1u27 c45 i1u47 r_x68 c69 i1u74 g_x98 c99 i1u101 c127 c128 c129 ex130 ex131))
              · exact hq _ _ hI g0 rfl
            · refine u_X11_fitOf_184 ?_
              intro x132 ex132
              exact ih95 _ _ _ _ _ _ _ _ _ _ ⟨rfl, rfl, rfl, rfl, rfl, rfl, rfl, rfl, (qm586 i1u7 r_x24 c25 i1u27 c45 i1u47 r_x68 c69 i1u74 g_x98 c99 i1u101 c127 c128 ex132)⟩ (mu_up (qm587 i1u7 r_x24 c25 i1u27 c45 i1u47 r_x68 c69 i1u74 g_x98 c99 i1u101 c127 c128 ex132) (qm588 i1u7 r_x24 c25 i1u27 c45 i1u47 r_x68 c69 i1u74 g_x98 c99 i1u101 c127 c128 ex132))
          · refine ⟨fun c133 => ?_, fun c133 => ?_⟩
            · refine u_X11_fitOf_136 ?_
              refine u_X11_fitOf_137 ?_
              intro x134 ex134
              exact ih126 _ _ _ _ _ _ _ _ _ _ _ _ ⟨rfl, rfl, rfl, rfl, rfl, rfl, rfl, rfl, rfl, rfl, (qm589 i1u7 r_x24 c25 i1u27 c45 i1u47 r_x68 c69 i1u74 g_x98 c99 i1u101 c127 c133 ex134)⟩ (mu_up (qm590 i1u7 r_x24 c25 i1u27 c45 i1u47 r_x68 c69 i1u74 g_x98 c99 i1u101 c127 c133 ex134) (qm591 i1u7 r_x24 c25 i1u27 c45 i1u47 r_x68 c69 i1u74 g_x98 c99 i1u101 c127 c133 ex134))
            · refine ⟨o_v0, ?_⟩
              refine m_X11_partsOf hI o_v0 (qm592 g_x5 r_kv6 gl_x5 i1u7 r_x24 c25 i1u27 c45 i1u47 r_x68 c69 i1u74 g_x98 c99 i1u101 c127 c133) (qm593 i1u7 r_x24 c25 i1u27 c45 i1u47 r_x68 c69 i1u74 g_x98 c99 i1u101 c127 c133) (qm594 i1u7 r_x24 c25 i1u27 c45 i1u47 r_x68 c69 i1u74 g_x98 c99 i1u101 c127 c133) (qm595 i1u7 r_x24 c25 i1u27 c45 i1u47 r_x68 c69 i1u74 g_x98 c99 i1u101 c127 c133) ⟨_, ea1⟩ (fun x135 S136 hI2 g137 p_x135 => ?_)
              subst p_x135
              intro _
              refine ⟨a1, ea1, ?_⟩
              refine ⟨o_a1, ?_⟩
              obtain ⟨a140, ea140, o_a140, l_a140⟩ := shl 49 rfl hI o_a1
              refine ⟨a140, ea140, ?_⟩
              refine ⟨o_a140, ?_⟩
              intro x141 ex141
              refine ⟨(vin l_a140 (m := 20) (by decide) (qm596 r_kv2 hwi1 i1u7 r_x24 c25 i1u27 c45 i1u47 r_x68 c69 i1u74 g_x98 c99 i1u101 c127 c133 ex141)), ?_⟩
              intro x142 ex142
              refine ⟨fun c143 => ?_, fun c143 => ?_⟩
              · refine u_X11_fitOf_136 ?_
                refine u_X11_fitOf_137 ?_
                intro x144 ex144
                exact ih126 _ _ _ _ _ _ _ _ _ _ _ _ ⟨rfl, rfl, rfl, rfl, rfl, rfl, rfl, rfl, rfl, rfl, (qm597 r_kv2 hwi1 i1u7 r_x24 c25 i1u27 c45 i1u47 r_x68 c69 i1u74 g_x98 c99 i1u101 c127 c133 ex141 c143 ex144)⟩ (mu_up (qm598 r_kv2 hwi1 i1u7 r_x24 c25 i1u27 c45 i1u47 r_x68 c69 i1u74 g_x98 c99 i1u101 c127 c133 ex141 c143 ex144) (qm599 r_kv2 hwi1 i1u7 r_x24 c25 i1u27 c45 i1u47 r_x68 c69 i1u74 g_x98 c99 i1u101 c127 c133 ex141 c143 ex144))
              · refine u_X11_fitOf_137 ?_
                intro x145 ex145
                exact ih126 _ _ _ _ _ _ _ _ _ _ _ _ ⟨rfl, rfl, rfl, rfl, rfl, rfl, rfl, rfl, rfl, rfl, (qm600 r_kv2 hwi1 i1u7 r_x24 c25 i1u27 c45 i1u47 r_x68 c69 i1u74 g_x98 c99 i1u101 c127 c133 ex141 c143 ex145)⟩ (mu_up (qm601 r_kv2 hwi1 i1u7 r_x24 c25 i1u27 c45 i1u47 r_x68 c69 i1u74 g_x98 c99 i1u101 c127 c133 ex141 c143 ex145) (qm602 r_kv2 hwi1 i1u7 r_x24 c25 i1u27 c45 i1u47 r_x68 c69 i1u74 g_x98 c99 i1u101 c127 c133 ex141 c143 ex145))
set_option maxHeartbeats 4000000 in
set_option maxRecDepth 20000 in
theorem m_X11_fit {v0 : Nat} {v1 : Int32} {v2 : Int32} {Q : Int32 → HS → Prop} {S : HS} (hI : IV S) (o_v0 : ob S v0 11)     (hq : ∀ (r : Int32) (T : HS), IV T → Gr S T → FRI [(11, 0), (11, 1), (11, 2)] [] S T → Q r T) : P_X11_fit v0 v1 v2 Q S := by
  have g0 := gr_rf S
  have f0 := fri_rf [(11, 0), (11, 1), (11, 2)] [] S
  refine u_X11_fit ?_
  refine u_X11_fit_0 ?_
  refine ⟨o_v0, ?_⟩
  intro S1 eS1
  have hIn : IV S1 := by rw [eS1]; exact iv11_sI hI o_v0 (by decide) (nu_free (by decide))
  have hI := hIn
  have f0 := fr_I eS1 g0 f0 o_v0 (by decide)
  obtain ⟨kv2, hkv2⟩ : ∃ z : Int32, z = (0 : Int32) := ⟨_, rfl⟩
  have d_kv2 := rd_Is eS1 hkv2
  have g0 := gr_I eS1 g0
  have o_v0 := ob_I eS1 o_v0
  refine u_X11_isSeen ?_
  refine u_X11_isSeen_0 ?_
  refine ⟨o_v0, ?_⟩
  refine ⟨fun e4 => ?_, fun a3 ea3 => ?_⟩
  · intro _ _
    refine ⟨fun c6 => ?_, fun c6 => absurd (show ¬ (0 : Int32) = 0 from c6) (by decide)⟩
    refine u_X11_fit_26 ?_
    refine u_X11_fit_27 ?_
    refine ⟨fun c7 => absurd (show ¬ (-1 : Int32) = (-1 : Int32) from c7) (by decide), fun c7 => ?_⟩
    refine ⟨o_v0, ?_⟩
    refine u_X11_refused ?_
    refine u_X11_refused_0 ?_
    refine ⟨o_v0, ?_⟩
    intro S8 eS8
    have hIn : IV S8 := by rw [eS8]; exact iv11_sI hI o_v0 (by decide) (nu_free (by decide))
    have hI := hIn
    have f0 := fr_I eS8 g0 f0 o_v0 (by decide)
    have d_kv2 := rd_Ij eS8 (by decide) d_kv2
    obtain ⟨kv9, hkv9⟩ : ∃ z : Int32, z = (1 : Int32) := ⟨_, rfl⟩
    have d_kv9 := rd_Is eS8 hkv9
    have g0 := gr_I eS8 g0
    have o_v0 := ob_I eS8 o_v0
    intro S10 eS10
    have hIn : IV S10 := by rw [eS10]; exact iv11_sI hI o_v0 (by decide) (nu_free (by decide))
    have hI := hIn
    have f0 := fr_I eS10 g0 f0 o_v0 (by decide)
    have d_kv2 := rd_Ij eS10 (by decide) d_kv2
    have d_kv9 := rd_Ij eS10 (by decide) d_kv9
    obtain ⟨kv11, hkv11⟩ : ∃ z : Int32, z = (-1 : Int32) := ⟨_, rfl⟩
    have d_kv11 := rd_Is eS10 hkv11
    have g0 := gr_I eS10 g0
    have o_v0 := ob_I eS10 o_v0
    intro _
    exact hq _ _ hI g0 f0
  · have o_a3 := ml_ob hI o_v0 ea3
    refine ⟨fun c13 => ?_, fun c13 => ?_⟩
    · intro _ _
      refine ⟨fun c15 => ?_, fun c15 => absurd (show ¬ (0 : Int32) = 0 from c15) (by decide)⟩
      refine u_X11_fit_26 ?_
      refine u_X11_fit_27 ?_
      refine ⟨fun c16 => absurd (show ¬ (-1 : Int32) = (-1 : Int32) from c16) (by decide), fun c16 => ?_⟩
      refine ⟨o_v0, ?_⟩
      refine u_X11_refused ?_
      refine u_X11_refused_0 ?_
      refine ⟨o_v0, ?_⟩
      intro S17 eS17
      have hIn : IV S17 := by rw [eS17]; exact iv11_sI hI o_v0 (by decide) (nu_free (by decide))
      have hI := hIn
      have f0 := fr_I eS17 g0 f0 o_v0 (by decide)
      have d_kv2 := rd_Ij eS17 (by decide) d_kv2
      obtain ⟨kv18, hkv18⟩ : ∃ z : Int32, z = (1 : Int32) := ⟨_, rfl⟩
      have d_kv18 := rd_Is eS17 hkv18
      have ea3 := rf_I eS17 ea3
      have g0 := gr_I eS17 g0
      have o_a3 := ob_I eS17 o_a3
      have o_v0 := ob_I eS17 o_v0
      intro S19 eS19
      have hIn : IV S19 := by rw [eS19]; exact iv11_sI hI o_v0 (by decide) (nu_free (by decide))
      have hI := hIn
      have f0 := fr_I eS19 g0 f0 o_v0 (by decide)
      have d_kv2 := rd_Ij eS19 (by decide) d_kv2
      have d_kv18 := rd_Ij eS19 (by decide) d_kv18
      obtain ⟨kv20, hkv20⟩ : ∃ z : Int32, z = (-1 : Int32) := ⟨_, rfl⟩
      have d_kv20 := rd_Is eS19 hkv20
      have ea3 := rf_I eS19 ea3
      have g0 := gr_I eS19 g0
      have o_a3 := ob_I eS19 o_a3
      have o_v0 := ob_I eS19 o_v0
      intro _
      exact hq _ _ hI g0 f0
    · refine ⟨a3, ea3, ?_⟩
      refine ⟨o_a3, ?_⟩
      intro x23 ex23
      have r_x23 : (0 : Int32) ≤ x23 ∧ x23 ≤ (4 : Int32) := by rw [ex23]; exact nu 21 rfl hI o_a3
      have d_x23 := ex23
      refine ⟨fun c24 => ?_, fun c24 => ?_⟩
      · intro _ _
        refine ⟨fun c26 => ?_, fun c26 => absurd (show ¬ (0 : Int32) = 0 from c26) (by decide)⟩
        refine u_X11_fit_26 ?_
        refine u_X11_fit_27 ?_
        refine ⟨fun c27 => absurd (show ¬ (-1 : Int32) = (-1 : Int32) from c27) (by decide), fun c27 => ?_⟩
        refine ⟨o_v0, ?_⟩
        refine u_X11_refused ?_
        refine u_X11_refused_0 ?_
        refine ⟨o_v0, ?_⟩
        intro S28 eS28
        have hIn : IV S28 := by rw [eS28]; exact iv11_sI hI o_v0 (by decide) (nu_free (by decide))
        have hI := hIn
        have f0 := fr_I eS28 g0 f0 o_v0 (by decide)
        have d_kv2 := rd_Ij eS28 (by decide) d_kv2
        have d_x23 := rd_Ik eS28 o_v0 o_a3 (by decide) d_x23
        obtain ⟨kv29, hkv29⟩ : ∃ z : Int32, z = (1 : Int32) := ⟨_, rfl⟩
        have d_kv29 := rd_Is eS28 hkv29
        have ea3 := rf_I eS28 ea3
        have g0 := gr_I eS28 g0
        have o_a3 := ob_I eS28 o_a3
        have o_v0 := ob_I eS28 o_v0
        intro S30 eS30
        have hIn : IV S30 := by rw [eS30]; exact iv11_sI hI o_v0 (by decide) (nu_free (by decide))
        have hI := hIn
        have f0 := fr_I eS30 g0 f0 o_v0 (by decide)
        have d_kv2 := rd_Ij eS30 (by decide) d_kv2
        have d_x23 := rd_Ik eS30 o_v0 o_a3 (by decide) d_x23
        have d_kv29 := rd_Ij eS30 (by decide) d_kv29
        obtain ⟨kv31, hkv31⟩ : ∃ z : Int32, z = (-1 : Int32) := ⟨_, rfl⟩
        have d_kv31 := rd_Is eS30 hkv31
        have ea3 := rf_I eS30 ea3
        have g0 := gr_I eS30 g0
        have o_a3 := ob_I eS30 o_a3
        have o_v0 := ob_I eS30 o_v0
        intro _
        exact hq _ _ hI g0 f0
      · intro _ _
        refine ⟨fun c34 => absurd (show (1 : Int32) = 0 from c34) (by decide), fun c34 => ?_⟩
        refine ⟨fun c35 => ?_, fun c35 => ?_⟩
        · refine u_X11_fit_26 ?_
          refine u_X11_fit_27 ?_
          refine ⟨fun c36 => absurd (show ¬ (-1 : Int32) = (-1 : Int32) from c36) (by decide), fun c36 => ?_⟩
          refine ⟨o_v0, ?_⟩
          refine u_X11_refused ?_
          refine u_X11_refused_0 ?_
          refine ⟨o_v0, ?_⟩
          intro S37 eS37
          have hIn : IV S37 := by rw [eS37]; exact iv11_sI hI o_v0 (by decide) (nu_free (by decide))
          have hI := hIn
          have f0 := fr_I eS37 g0 f0 o_v0 (by decide)
          have d_kv2 := rd_Ij eS37 (by decide) d_kv2
          have d_x23 := rd_Ik eS37 o_v0 o_a3 (by decide) d_x23
          obtain ⟨kv38, hkv38⟩ : ∃ z : Int32, z = (1 : Int32) := ⟨_, rfl⟩
          have d_kv38 := rd_Is eS37 hkv38
          have ea3 := rf_I eS37 ea3
          have g0 := gr_I eS37 g0
          have o_a3 := ob_I eS37 o_a3
          have o_v0 := ob_I eS37 o_v0
          intro S39 eS39
          have hIn : IV S39 := by rw [eS39]; exact iv11_sI hI o_v0 (by decide) (nu_free (by decide))
          have hI := hIn
          have f0 := fr_I eS39 g0 f0 o_v0 (by decide)
          have d_kv2 := rd_Ij eS39 (by decide) d_kv2
          have d_x23 := rd_Ik eS39 o_v0 o_a3 (by decide) d_x23
          have d_kv38 := rd_Ij eS39 (by decide) d_kv38
          obtain ⟨kv40, hkv40⟩ : ∃ z : Int32, z = (-1 : Int32) := ⟨_, rfl⟩
          have d_kv40 := rd_Is eS39 hkv40
          have ea3 := rf_I eS39 ea3
          have g0 := gr_I eS39 g0
          have o_a3 := ob_I eS39 o_a3
          have o_v0 := ob_I eS39 o_v0
          intro _
          exact hq _ _ hI g0 f0
        · refine m_X11_fitOf hI o_v0 ⟨_, ea3, (qm603 c13 r_x23 c24 c35), (by rw [← d_x23]; exact (qm604 c13 r_x23 c24 c35))⟩ (fun x42 S43 hI2 g44 p_x42 => ?_)
          subst p_x42
          intro _
          refine u_X11_fit_27 ?_
          refine ⟨fun c46 => ?_, fun c46 => ?_⟩
          · refine ⟨o_v0, ?_⟩
            refine u_X11_good ?_
            refine u_X11_good_0 ?_
            refine ⟨o_v0, ?_⟩
            intro S47 eS47
            have hIn : IV S47 := by rw [eS47]; exact iv11_sI hI o_v0 (by decide) (nu_free (by decide))
            have hI := hIn
            have f0 := fr_I eS47 g0 f0 o_v0 (by decide)
            have d_kv2 := rd_Ij eS47 (by decide) d_kv2
            have d_x23 := rd_Ik eS47 o_v0 o_a3 (by decide) d_x23
            obtain ⟨kv48, hkv48⟩ : ∃ z : Int32, z = (0 : Int32) := ⟨_, rfl⟩
            have d_kv48 := rd_Is eS47 hkv48
            have ea3 := rf_I eS47 ea3
            have g0 := gr_I eS47 g0
            have o_a3 := ob_I eS47 o_a3
            have o_v0 := ob_I eS47 o_v0
            intro S49 eS49
            have hIn : IV S49 := by rw [eS49]; exact iv11_sI hI o_v0 (by decide) (nu_free (by decide))
            have hI := hIn
            have f0 := fr_I eS49 g0 f0 o_v0 (by decide)
            have d_kv2 := rd_Ij eS49 (by decide) d_kv2
            have d_x23 := rd_Ik eS49 o_v0 o_a3 (by decide) d_x23
            have d_kv48 := rd_Ij eS49 (by decide) d_kv48
            obtain ⟨kv50, hkv50⟩ : ∃ z : Int32, z = (-1 : Int32) := ⟨_, rfl⟩
            have d_kv50 := rd_Is eS49 hkv50
            have ea3 := rf_I eS49 ea3
            have g0 := gr_I eS49 g0
            have o_a3 := ob_I eS49 o_a3
            have o_v0 := ob_I eS49 o_v0
            intro _
            exact hq _ _ hI g0 f0
          · refine ⟨o_v0, ?_⟩
            refine u_X11_refused ?_
            refine u_X11_refused_0 ?_
            refine ⟨o_v0, ?_⟩
            intro S52 eS52
            have hIn : IV S52 := by rw [eS52]; exact iv11_sI hI o_v0 (by decide) (nu_free (by decide))
            have hI := hIn
            have f0 := fr_I eS52 g0 f0 o_v0 (by decide)
            have d_kv2 := rd_Ij eS52 (by decide) d_kv2
            have d_x23 := rd_Ik eS52 o_v0 o_a3 (by decide) d_x23
            obtain ⟨kv53, hkv53⟩ : ∃ z : Int32, z = (1 : Int32) := ⟨_, rfl⟩
            have d_kv53 := rd_Is eS52 hkv53
            have ea3 := rf_I eS52 ea3
            have g0 := gr_I eS52 g0
            have o_a3 := ob_I eS52 o_a3
            have o_v0 := ob_I eS52 o_v0
            intro S54 eS54
            have hIn : IV S54 := by rw [eS54]; exact iv11_sI hI o_v0 (by decide) (nu_free (by decide))
            have hI := hIn
            have f0 := fr_I eS54 g0 f0 o_v0 (by decide)
            have d_kv2 := rd_Ij eS54 (by decide) d_kv2
            have d_x23 := rd_Ik eS54 o_v0 o_a3 (by decide) d_x23
            have d_kv53 := rd_Ij eS54 (by decide) d_kv53
            obtain ⟨kv55, hkv55⟩ : ∃ z : Int32, z = (-1 : Int32) := ⟨_, rfl⟩
            have d_kv55 := rd_Is eS54 hkv55
            have ea3 := rf_I eS54 ea3
            have g0 := gr_I eS54 g0
            have o_a3 := ob_I eS54 o_a3
            have o_v0 := ob_I eS54 o_v0
            intro _
            exact hq _ _ hI g0 f0
set_option maxHeartbeats 4000000 in
set_option maxRecDepth 20000 in
theorem m_X11_fits {v0 : Nat} {v1 : Int32} {Q : Int32 → HS → Prop} {S : HS} (hI : IV S) (o_v0 : ob S v0 11)     (hq : ∀ (r : Int32) (T : HS), IV T → Gr S T → FRI [(11, 0), (11, 1), (11, 2)] [] S T → Q r T) : P_X11_fits v0 v1 Q S := by
  have g0 := gr_rf S
  have f0 := fri_rf [(11, 0), (11, 1), (11, 2)] [] S
  refine u_X11_fits ?_
  refine u_X11_fits_0 ?_
  refine ⟨o_v0, ?_⟩
  intro S1 eS1
  have hIn : IV S1 := by rw [eS1]; exact iv11_sI hI o_v0 (by decide) (nu_free (by decide))
  have hI := hIn
  have f0 := fr_I eS1 g0 f0 o_v0 (by decide)
  obtain ⟨kv2, hkv2⟩ : ∃ z : Int32, z = (0 : Int32) := ⟨_, rfl⟩
  have d_kv2 := rd_Is eS1 hkv2
  have g0 := gr_I eS1 g0
  have o_v0 := ob_I eS1 o_v0
  refine u_X11_isSeen ?_
  refine u_X11_isSeen_0 ?_
  refine ⟨o_v0, ?_⟩
  refine ⟨fun e4 => ?_, fun a3 ea3 => ?_⟩
  · intro _ _
    refine ⟨fun c6 => ?_, fun c6 => absurd (show ¬ (0 : Int32) = 0 from c6) (by decide)⟩
    refine u_X11_refused ?_
    refine u_X11_refused_0 ?_
    refine ⟨o_v0, ?_⟩
    intro S7 eS7
    have hIn : IV S7 := by rw [eS7]; exact iv11_sI hI o_v0 (by decide) (nu_free (by decide))
    have hI := hIn
    have f0 := fr_I eS7 g0 f0 o_v0 (by decide)
    have d_kv2 := rd_Ij eS7 (by decide) d_kv2
    obtain ⟨kv8, hkv8⟩ : ∃ z : Int32, z = (1 : Int32) := ⟨_, rfl⟩
    have d_kv8 := rd_Is eS7 hkv8
    have g0 := gr_I eS7 g0
    have o_v0 := ob_I eS7 o_v0
    intro S9 eS9
    have hIn : IV S9 := by rw [eS9]; exact iv11_sI hI o_v0 (by decide) (nu_free (by decide))
    have hI := hIn
    have f0 := fr_I eS9 g0 f0 o_v0 (by decide)
    have d_kv2 := rd_Ij eS9 (by decide) d_kv2
    have d_kv8 := rd_Ij eS9 (by decide) d_kv8
    obtain ⟨kv10, hkv10⟩ : ∃ z : Int32, z = (-1 : Int32) := ⟨_, rfl⟩
    have d_kv10 := rd_Is eS9 hkv10
    have g0 := gr_I eS9 g0
    have o_v0 := ob_I eS9 o_v0
    intro _
    exact hq _ _ hI g0 f0
  · have o_a3 := ml_ob hI o_v0 ea3
    refine ⟨fun c12 => ?_, fun c12 => ?_⟩
    · intro _ _
      refine ⟨fun c14 => ?_, fun c14 => absurd (show ¬ (0 : Int32) = 0 from c14) (by decide)⟩
      refine u_X11_refused ?_
      refine u_X11_refused_0 ?_
      refine ⟨o_v0, ?_⟩
      intro S15 eS15
      have hIn : IV S15 := by rw [eS15]; exact iv11_sI hI o_v0 (by decide) (nu_free (by decide))
      have hI := hIn
      have f0 := fr_I eS15 g0 f0 o_v0 (by decide)
      have d_kv2 := rd_Ij eS15 (by decide) d_kv2
      obtain ⟨kv16, hkv16⟩ : ∃ z : Int32, z = (1 : Int32) := ⟨_, rfl⟩
      have d_kv16 := rd_Is eS15 hkv16
      have ea3 := rf_I eS15 ea3
      have g0 := gr_I eS15 g0
      have o_a3 := ob_I eS15 o_a3
      have o_v0 := ob_I eS15 o_v0
      intro S17 eS17
      have hIn : IV S17 := by rw [eS17]; exact iv11_sI hI o_v0 (by decide) (nu_free (by decide))
      have hI := hIn
      have f0 := fr_I eS17 g0 f0 o_v0 (by decide)
      have d_kv2 := rd_Ij eS17 (by decide) d_kv2
      have d_kv16 := rd_Ij eS17 (by decide) d_kv16
      obtain ⟨kv18, hkv18⟩ : ∃ z : Int32, z = (-1 : Int32) := ⟨_, rfl⟩
      have d_kv18 := rd_Is eS17 hkv18
      have ea3 := rf_I eS17 ea3
      have g0 := gr_I eS17 g0
      have o_a3 := ob_I eS17 o_a3
      have o_v0 := ob_I eS17 o_v0
      intro _
      exact hq _ _ hI g0 f0
    · refine ⟨a3, ea3, ?_⟩
      refine ⟨o_a3, ?_⟩
      intro x21 ex21
      have r_x21 : (0 : Int32) ≤ x21 ∧ x21 ≤ (4 : Int32) := by rw [ex21]; exact nu 21 rfl hI o_a3
      have d_x21 := ex21
      refine ⟨fun c22 => ?_, fun c22 => ?_⟩
      · intro _ _
        refine ⟨fun c24 => ?_, fun c24 => absurd (show ¬ (0 : Int32) = 0 from c24) (by decide)⟩
        refine u_X11_refused ?_
        refine u_X11_refused_0 ?_
        refine ⟨o_v0, ?_⟩
        intro S25 eS25
        have hIn : IV S25 := by rw [eS25]; exact iv11_sI hI o_v0 (by decide) (nu_free (by decide))
        have hI := hIn
        have f0 := fr_I eS25 g0 f0 o_v0 (by decide)
        have d_kv2 := rd_Ij eS25 (by decide) d_kv2
        have d_x21 := rd_Ik eS25 o_v0 o_a3 (by decide) d_x21
        obtain ⟨kv26, hkv26⟩ : ∃ z : Int32, z = (1 : Int32) := ⟨_, rfl⟩
        have d_kv26 := rd_Is eS25 hkv26
        have ea3 := rf_I eS25 ea3
        have g0 := gr_I eS25 g0
        have o_a3 := ob_I eS25 o_a3
        have o_v0 := ob_I eS25 o_v0
        intro S27 eS27
        have hIn : IV S27 := by rw [eS27]; exact iv11_sI hI o_v0 (by decide) (nu_free (by decide))
        have hI := hIn
        have f0 := fr_I eS27 g0 f0 o_v0 (by decide)
        have d_kv2 := rd_Ij eS27 (by decide) d_kv2
        have d_x21 := rd_Ik eS27 o_v0 o_a3 (by decide) d_x21
        have d_kv26 := rd_Ij eS27 (by decide) d_kv26
        obtain ⟨kv28, hkv28⟩ : ∃ z : Int32, z = (-1 : Int32) := ⟨_, rfl⟩
        have d_kv28 := rd_Is eS27 hkv28
        have ea3 := rf_I eS27 ea3
        have g0 := gr_I eS27 g0
        have o_a3 := ob_I eS27 o_a3
        have o_v0 := ob_I eS27 o_v0
        intro _
        exact hq _ _ hI g0 f0
      · intro _ _
        refine ⟨fun c31 => absurd (show (1 : Int32) = 0 from c31) (by decide), fun c31 => ?_⟩
        refine m_X11_fitOf hI o_v0 ⟨_, ea3, (qm605 c12 r_x21 c22), (by rw [← d_x21]; exact (qm606 c12 r_x21 c22))⟩ (fun x32 S33 hI2 g34 p_x32 => ?_)
        subst p_x32
        intro _
        refine u_X11_good ?_
        refine u_X11_good_0 ?_
        refine ⟨o_v0, ?_⟩
        intro S36 eS36
        have hIn : IV S36 := by rw [eS36]; exact iv11_sI hI o_v0 (by decide) (nu_free (by decide))
        have hI := hIn
        have f0 := fr_I eS36 g0 f0 o_v0 (by decide)
        have d_kv2 := rd_Ij eS36 (by decide) d_kv2
        have d_x21 := rd_Ik eS36 o_v0 o_a3 (by decide) d_x21
        obtain ⟨kv37, hkv37⟩ : ∃ z : Int32, z = (0 : Int32) := ⟨_, rfl⟩
        have d_kv37 := rd_Is eS36 hkv37
        have ea3 := rf_I eS36 ea3
        have g0 := gr_I eS36 g0
        have o_a3 := ob_I eS36 o_a3
        have o_v0 := ob_I eS36 o_v0
        intro S38 eS38
        have hIn : IV S38 := by rw [eS38]; exact iv11_sI hI o_v0 (by decide) (nu_free (by decide))
        have hI := hIn
        have f0 := fr_I eS38 g0 f0 o_v0 (by decide)
        have d_kv2 := rd_Ij eS38 (by decide) d_kv2
        have d_x21 := rd_Ik eS38 o_v0 o_a3 (by decide) d_x21
        have d_kv37 := rd_Ij eS38 (by decide) d_kv37
        obtain ⟨kv39, hkv39⟩ : ∃ z : Int32, z = (-1 : Int32) := ⟨_, rfl⟩
        have d_kv39 := rd_Is eS38 hkv39
        have ea3 := rf_I eS38 ea3
        have g0 := gr_I eS38 g0
        have o_a3 := ob_I eS38 o_a3
        have o_v0 := ob_I eS38 o_v0
        intro _
        exact hq _ _ hI g0 f0
set_option maxHeartbeats 4000000 in
set_option maxRecDepth 20000 in
theorem m_X11_keeps {v0 : Nat} {Q : HS → Prop} {S : HS} (hI : IV S) (o_v0 : ob S v0 11)     (hq : ∀ (T : HS), IV T → Gr S T → FRI [(11, 24)] [] S T → (KP S T v0) → Q T) : P_X11_keeps v0 Q S := by
  have g0 := gr_rf S
  have f0 := fri_rf [(11, 24)] [] S
  have hP : KP S S v0 := kp_rf S v0
  refine u_X11_keeps ?_
  refine u_X11_keeps_0 ?_
  refine ⟨o_v0, ?_⟩
  intro x1 ex1
  have r_x1 : (0 : Int32) ≤ x1 ∧ x1 ≤ (16 : Int32) := by rw [ex1]; exact nu 27 rfl hI o_v0
  have d_x1 := ex1
  refine ⟨fun c2 => ?_, fun c2 => ?_⟩
  · refine u_X11_keeps_48 ?_
    refine i_X11_keeps_50 (fun (y0 : Nat) (y1 : Int32) (Z : HS) => ((7 : Int32).toInt - y1.toInt).toNat) (fun (y0 : Nat) (y1 : Int32) (Z : HS) => (IV Z) ∧ (Gr S Z) ∧ (FRI [] [] S Z) ∧ (v0 = y0) ∧ (KP S Z v0) ∧ (0 ≤ y1 ∧ y1 ≤ 7)) ?_ _ _ _ ⟨hI, (gr_rf _), (fri_rf _ _ _), rfl, hP, (qm200 r_x1 c2)⟩
    intro w7 w9 S4 X10 ⟨hI, gL5, fL6, q8, hP, i1u3⟩ ih11
    subst q8
    have d_x1 := d_x1.trans (fri_at fL6 (by decide) (by decide) o_v0).symm
    have f0 := fri_tr (S := S) g0 f0 fL6 (by decide) (by decide)
    have o_v0 := gr_ob gL5 o_v0
    have g0 := gr_tr (T := S) g0 gL5
    refine u_X11_keeps_50 ?_
    refine ⟨fun c12 => ?_, fun c12 => ?_⟩
    · refine ⟨o_v0, ?_⟩
      intro x13 ex13
      have r_x13 : (0 : Int32) ≤ x13 ∧ x13 ≤ (16 : Int32) := by rw [ex13]; exact nu 27 rfl hI o_v0
      have q_x13 : x13 = x1 := ex13.trans d_x1.symm
      have d_x13 := ex13
      intro x14 ex14
      intro S15 eS15
      have hIn : IV S15 := by rw [eS15]; exact iv11_sI hI o_v0 (by decide) (nu_one (lo := (0 : Int32)) (hi := (16 : Int32)) (by decide) (qm201 r_x1 c2 i1u3 c12 r_x13 q_x13 ex14))
      have hP := kp_I eS15 o_v0 (by decide) hP
      have hI := hIn
      have f0 := fr_I eS15 g0 f0 o_v0 (by decide)
      have d_x14 := rd_Is eS15 (rfl : x14 = x14)
      have g0 := gr_I eS15 g0
      have o_v0 := ob_I eS15 o_v0
      exact hq _ hI g0 f0 hP
    · refine ⟨o_v0, ?_⟩
      obtain ⟨a16, ea16, o_a16, l_a16⟩ := shl 58 rfl hI o_v0
      refine ⟨a16, ea16, ?_⟩
      intro x17 ex17
      have r_x17 : (0 : Int32) ≤ x17 ∧ x17 ≤ (16 : Int32) := by rw [ex17]; exact nu 27 rfl hI o_v0
      have q_x17 : x17 = x1 := ex17.trans d_x1.symm
      have d_x17 := ex17
      obtain ⟨a18, ea18, o_a18, l_a18⟩ := shl 57 rfl hI o_v0
      refine ⟨a18, ea18, ?_⟩
      refine ⟨o_a18, ?_⟩
      refine ⟨(vin l_a18 (m := 7) (by decide) (qm202 r_x1 c2 i1u3 c12 r_x17 q_x17)), ?_⟩
      intro x19 ex19
      have de_x19 := ml_de hI o_v0 (j := 21) (by decide) ea18 w9.toNatClampNeg
      rw [← ex19] at de_x19
      refine ⟨o_a16, ?_⟩
      have i20 : vp_in (((7 : Int32) * x17) + w9) (hN _ a16) := (vin l_a16 (m := 112) (by decide) (qm203 r_x1 c2 i1u3 c12 r_x17 q_x17))
      refine ⟨i20, ?_⟩
      intro S21 eS21
      have hIn : IV S21 := by rw [eS21]; exact iv11_aD hI (de_tr de_x19 (md_mul (a := x17) (k := w9) rfl (qm204 r_x1 c2 i1u3 c12 r_x17 q_x17) (qm205 r_x1 c2 i1u3 c12 r_x17 q_x17)))
      have hP := kp_J eS21 hI o_v0 ea16 hP
      have hI := hIn
      have f0 := fr_J eS21 f0
      have fL6 := fr_J eS21 fL6
      have d_x17 := rd_J eS21 d_x17
      have ea16 := rf_J eS21 ea16
      have ea18 := rf_J eS21 ea18
      have l_a16 := ln_J eS21 l_a16
      have l_a18 := ln_J eS21 l_a18
      have g0 := gr_J eS21 g0
      have gL5 := gr_J eS21 gL5
      have o_a16 := ob_J eS21 o_a16
      have o_a18 := ob_J eS21 o_a18
      have o_v0 := ob_J eS21 o_v0
      intro x22 ex22
      exact ih11 _ _ _ ⟨hI, gL5, fL6, rfl, hP, (qm206 r_x1 c2 i1u3 c12 r_x17 q_x17 ex22)⟩ (mu_up (qm207 r_x1 c2 i1u3 c12 r_x17 q_x17 ex22) (qm208 r_x1 c2 i1u3 c12 r_x17 q_x17 ex22))
  · refine i_X11_keeps_11 (fun (y0 : Nat) (y1 : Int32) (Z : HS) => ((105 : Int32).toInt - y1.toInt).toNat) (fun (y0 : Nat) (y1 : Int32) (Z : HS) => (IV Z) ∧ (Gr S Z) ∧ (FRI [] [] S Z) ∧ (v0 = y0) ∧ (KP S Z v0) ∧ (0 ≤ y1 ∧ y1 ≤ 105)) ?_ _ _ _ ⟨hI, (gr_rf _), (fri_rf _ _ _), rfl, hP, (qm209 r_x1 c2)⟩
    intro w27 w29 S24 X30 ⟨hI, gL25, fL26, q28, hP, i1u23⟩ ih31
    subst q28
    have d_x1 := d_x1.trans (fri_at fL26 (by decide) (by decide) o_v0).symm
    have f0 := fri_tr (S := S) g0 f0 fL26 (by decide) (by decide)
    have o_v0 := gr_ob gL25 o_v0
    have g0 := gr_tr (T := S) g0 gL25
    refine u_X11_keeps_11 ?_
    refine ⟨fun c32 => ?_, fun c32 => ?_⟩
    · refine ⟨o_v0, ?_⟩
      intro x33 ex33
      have r_x33 : (0 : Int32) ≤ x33 ∧ x33 ≤ (16 : Int32) := by rw [ex33]; exact nu 27 rfl hI o_v0
      have q_x33 : x33 = x1 := ex33.trans d_x1.symm
      have d_x33 := ex33
      intro x34 ex34
      intro S35 eS35
      have hIn : IV S35 := by rw [eS35]; exact iv11_sI hI o_v0 (by decide) (nu_one (lo := (0 : Int32)) (hi := (16 : Int32)) (by decide) (qm210 r_x1 c2 i1u23 c32 r_x33 q_x33 ex34))
      have hP := kp_I eS35 o_v0 (by decide) hP
      have hI := hIn
      have f0 := fr_I eS35 g0 f0 o_v0 (by decide)
      have d_x34 := rd_Is eS35 (rfl : x34 = x34)
      have g0 := gr_I eS35 g0
      have o_v0 := ob_I eS35 o_v0
      refine u_X11_keeps_48 ?_
      refine i_X11_keeps_50 (fun (y0 : Nat) (y1 : Int32) (Z : HS) => ((7 : Int32).toInt - y1.toInt).toNat) (fun (y0 : Nat) (y1 : Int32) (Z : HS) => (IV Z) ∧ (Gr S35 Z) ∧ (FRI [] [] S35 Z) ∧ (v0 = y0) ∧ (KP S Z v0) ∧ (0 ≤ y1 ∧ y1 ≤ 7)) ?_ _ _ _ ⟨hI, (gr_rf _), (fri_rf _ _ _), rfl, hP, (qm211 r_x1 c2 i1u23 c32 r_x33 q_x33 ex34)⟩
      intro w40 w42 S37 X43 ⟨hI, gL38, fL39, q41, hP, i1u36⟩ ih44
      subst q41
      have d_x34 := d_x34.trans (fri_at fL39 (by decide) (by decide) o_v0).symm
      have f0 := fri_tr (S := S35) g0 f0 fL39 (by decide) (by decide)
      have o_v0 := gr_ob gL38 o_v0
      have g0 := gr_tr (T := S35) g0 gL38
      refine u_X11_keeps_50 ?_
      refine ⟨fun c45 => ?_, fun c45 => ?_⟩
      · refine ⟨o_v0, ?_⟩
        intro x46 ex46
        have r_x46 : (0 : Int32) ≤ x46 ∧ x46 ≤ (16 : Int32) := by rw [ex46]; exact nu 27 rfl hI o_v0
        have q_x46 : x46 = x34 := ex46.trans d_x34.symm
        have d_x46 := ex46
        intro x47 ex47
        intro S48 eS48
        have hIn : IV S48 := by rw [eS48]; exact iv11_sI hI o_v0 (by decide) (nu_one (lo := (0 : Int32)) (hi := (16 : Int32)) (by decide) (qm212 r_x1 c2 i1u23 c32 r_x33 q_x33 ex34 i1u36 c45 r_x46 q_x46 ex47))
        have hP := kp_I eS48 o_v0 (by decide) hP
        have hI := hIn
        have f0 := fr_I eS48 g0 f0 o_v0 (by decide)
        have d_x47 := rd_Is eS48 (rfl : x47 = x47)
        have g0 := gr_I eS48 g0
        have o_v0 := ob_I eS48 o_v0
        exact hq _ hI g0 f0 hP
      · refine ⟨o_v0, ?_⟩
        obtain ⟨a49, ea49, o_a49, l_a49⟩ := shl 58 rfl hI o_v0
        refine ⟨a49, ea49, ?_⟩
        intro x50 ex50
        have r_x50 : (0 : Int32) ≤ x50 ∧ x50 ≤ (16 : Int32) := by rw [ex50]; exact nu 27 rfl hI o_v0
        have q_x50 : x50 = x34 := ex50.trans d_x34.symm
        have d_x50 := ex50
        obtain ⟨a51, ea51, o_a51, l_a51⟩ := shl 57 rfl hI o_v0
        refine ⟨a51, ea51, ?_⟩
        refine ⟨o_a51, ?_⟩
        refine ⟨(vin l_a51 (m := 7) (by decide) (qm213 r_x1 c2 i1u23 c32 r_x33 q_x33 ex34 i1u36 c45 r_x50 q_x50)), ?_⟩
        intro x52 ex52
        have de_x52 := ml_de hI o_v0 (j := 21) (by decide) ea51 w42.toNatClampNeg
        rw [← ex52] at de_x52
        refine ⟨o_a49, ?_⟩
        have i53 : vp_in (((7 : Int32) * x50) + w42) (hN _ a49) := (vin l_a49 (m := 112) (by decide) (qm214 r_x1 c2 i1u23 c32 r_x33 q_x33 ex34 i1u36 c45 r_x50 q_x50))
        refine ⟨i53, ?_⟩
        intro S54 eS54
        have hIn : IV S54 := by rw [eS54]; exact iv11_aD hI (de_tr de_x52 (md_mul (a := x50) (k := w42) rfl (qm215 r_x1 c2 i1u23 c32 r_x33 q_x33 ex34 i1u36 c45 r_x50 q_x50) (qm216 r_x1 c2 i1u23 c32 r_x33 q_x33 ex34 i1u36 c45 r_x50 q_x50)))
        have hP := kp_J eS54 hI o_v0 ea49 hP
        have hI := hIn
        have f0 := fr_J eS54 f0
        have fL39 := fr_J eS54 fL39
        have d_x50 := rd_J eS54 d_x50
        have ea49 := rf_J eS54 ea49
        have ea51 := rf_J eS54 ea51
        have l_a49 := ln_J eS54 l_a49
        have l_a51 := ln_J eS54 l_a51
        have g0 := gr_J eS54 g0
        have gL38 := gr_J eS54 gL38
        have o_a49 := ob_J eS54 o_a49
        have o_a51 := ob_J eS54 o_a51
        have o_v0 := ob_J eS54 o_v0
        intro x55 ex55
        exact ih44 _ _ _ ⟨hI, gL38, fL39, rfl, hP, (qm217 r_x1 c2 i1u23 c32 r_x33 q_x33 ex34 i1u36 c45 r_x50 q_x50 ex55)⟩ (mu_up (qm218 r_x1 c2 i1u23 c32 r_x33 q_x33 ex34 i1u36 c45 r_x50 q_x50 ex55) (qm219 r_x1 c2 i1u23 c32 r_x33 q_x33 ex34 i1u36 c45 r_x50 q_x50 ex55))
    · refine ⟨o_v0, ?_⟩
      obtain ⟨a56, ea56, o_a56, l_a56⟩ := shl 58 rfl hI o_v0
      refine ⟨a56, ea56, ?_⟩
      refine ⟨a56, ea56, ?_⟩
      refine ⟨o_a56, ?_⟩
      intro x58 ex58
      refine ⟨(vin l_a56 (m := 112) (by decide) (qm220 r_x1 c2 i1u23 c32 ex58)), ?_⟩
      intro x59 ex59
      have de_x59 := ml_de hI o_v0 (j := 22) (by decide) ea56 x58.toNatClampNeg
      rw [← ex59] at de_x59
      refine ⟨o_a56, ?_⟩
      have i60 : vp_in w29 (hN _ a56) := (vin l_a56 (m := 112) (by decide) (qm221 r_x1 c2 i1u23 c32 ex58))
      refine ⟨i60, ?_⟩
      intro S61 eS61
      have hIn : IV S61 := by rw [eS61]; exact iv11_aD hI (de_tr de_x59 (md_add ex58 (qm222 r_x1 c2 i1u23 c32 ex58)))
      have hP := kp_J eS61 hI o_v0 ea56 hP
      have hI := hIn
      have f0 := fr_J eS61 f0
      have fL26 := fr_J eS61 fL26
      have d_x1 := rd_J eS61 d_x1
      have ea56 := rf_J eS61 ea56
      have l_a56 := ln_J eS61 l_a56
      have g0 := gr_J eS61 g0
      have gL25 := gr_J eS61 gL25
      have o_a56 := ob_J eS61 o_a56
      have o_v0 := ob_J eS61 o_v0
      intro x62 ex62
      exact ih31 _ _ _ ⟨hI, gL25, fL26, rfl, hP, (qm223 r_x1 c2 i1u23 c32 ex58 ex62)⟩ (mu_up (qm224 r_x1 c2 i1u23 c32 ex58 ex62) (qm225 r_x1 c2 i1u23 c32 ex58 ex62))
set_option maxHeartbeats 4000000 in
set_option maxRecDepth 20000 in
theorem m_X11_go {v0 : Nat} {v1 : Int32} {v2 : Int32} {v3 : Int32} {Q : Int32 → HS → Prop} {S : HS} (hI : IV S) (o_v0 : ob S v0 11)     (hq : ∀ (r : Int32) (T : HS), IV T → Gr S T → FRI [(11, 0), (11, 1), (11, 2), (11, 24)] [] S T → Q r T) : P_X11_go v0 v1 v2 v3 Q S := by
  have g0 := gr_rf S
  have f0 := fri_rf [(11, 0), (11, 1), (11, 2), (11, 24)] [] S
  refine u_X11_go ?_
  refine u_X11_go_0 ?_
  refine ⟨o_v0, ?_⟩
  intro S1 eS1
  have hIn : IV S1 := by rw [eS1]; exact iv11_sI hI o_v0 (by decide) (nu_free (by decide))
  have hI := hIn
  have f0 := fr_I eS1 g0 f0 o_v0 (by decide)
  obtain ⟨kv2, hkv2⟩ : ∃ z : Int32, z = (0 : Int32) := ⟨_, rfl⟩
  have d_kv2 := rd_Is eS1 hkv2
  have g0 := gr_I eS1 g0
  have o_v0 := ob_I eS1 o_v0
  refine u_X11_isDay ?_
  refine u_X11_isDay_0 ?_
  refine ⟨o_v0, ?_⟩
  refine ⟨fun e4 => ?_, fun a3 ea3 => ?_⟩
  · intro _ _
    refine ⟨fun c6 => ?_, fun c6 => absurd (show ¬ (0 : Int32) = 0 from c6) (by decide)⟩
    refine u_X11_go_29 ?_
    refine ⟨o_v0, ?_⟩
    refine u_X11_refused ?_
    refine u_X11_refused_0 ?_
    refine ⟨o_v0, ?_⟩
    intro S7 eS7
    have hIn : IV S7 := by rw [eS7]; exact iv11_sI hI o_v0 (by decide) (nu_free (by decide))
    have hI := hIn
    have f0 := fr_I eS7 g0 f0 o_v0 (by decide)
    have d_kv2 := rd_Ij eS7 (by decide) d_kv2
    obtain ⟨kv8, hkv8⟩ : ∃ z : Int32, z = (1 : Int32) := ⟨_, rfl⟩
    have d_kv8 := rd_Is eS7 hkv8
    have g0 := gr_I eS7 g0
    have o_v0 := ob_I eS7 o_v0
    intro S9 eS9
    have hIn : IV S9 := by rw [eS9]; exact iv11_sI hI o_v0 (by decide) (nu_free (by decide))
    have hI := hIn
    have f0 := fr_I eS9 g0 f0 o_v0 (by decide)
    have d_kv2 := rd_Ij eS9 (by decide) d_kv2
    have d_kv8 := rd_Ij eS9 (by decide) d_kv8
    obtain ⟨kv10, hkv10⟩ : ∃ z : Int32, z = (-1 : Int32) := ⟨_, rfl⟩
    have d_kv10 := rd_Is eS9 hkv10
    have g0 := gr_I eS9 g0
    have o_v0 := ob_I eS9 o_v0
    intro _
    exact hq _ _ hI g0 f0
  · have o_a3 := ml_ob hI o_v0 ea3
    intro x12 ex12
    have r_x12 : (-2 : Int32) ≤ x12 ∧ x12 ≤ (3 : Int32) := by rw [ex12]; exact nu 26 rfl hI o_v0
    have d_x12 := ex12
    obtain ⟨kv13, d_kv13⟩ : ∃ z : Int32, z = fI S1 a3 4 := ⟨_, rfl⟩
    have r_kv13 : (0 : Int32) ≤ kv13 ∧ kv13 ≤ (4 : Int32) := by rw [d_kv13]; exact nu 20 rfl hI o_a3
    have wh_x12 : x12 = -2 ∨ (0 ≤ x12 ∧ x12 < kv13) := by rw [ex12, d_kv13]; exact ml_who hI o_v0 ea3
    refine ⟨fun c14 => ?_, fun c14 => ?_⟩
    · intro _ _
      refine ⟨fun c16 => ?_, fun c16 => absurd (show ¬ (0 : Int32) = 0 from c16) (by decide)⟩
      refine u_X11_go_29 ?_
      refine ⟨o_v0, ?_⟩
      refine u_X11_refused ?_
      refine u_X11_refused_0 ?_
      refine ⟨o_v0, ?_⟩
      intro S17 eS17
      have hIn : IV S17 := by rw [eS17]; exact iv11_sI hI o_v0 (by decide) (nu_free (by decide))
      have hI := hIn
      have f0 := fr_I eS17 g0 f0 o_v0 (by decide)
      have d_kv2 := rd_Ij eS17 (by decide) d_kv2
      have d_x12 := rd_Ij eS17 (by decide) d_x12
      have d_kv13 := rd_Ik eS17 o_v0 o_a3 (by decide) d_kv13
      obtain ⟨kv18, hkv18⟩ : ∃ z : Int32, z = (1 : Int32) := ⟨_, rfl⟩
      have d_kv18 := rd_Is eS17 hkv18
      have ea3 := rf_I eS17 ea3
      have g0 := gr_I eS17 g0
      have o_a3 := ob_I eS17 o_a3
      have o_v0 := ob_I eS17 o_v0
      intro S19 eS19
      have hIn : IV S19 := by rw [eS19]; exact iv11_sI hI o_v0 (by decide) (nu_free (by decide))
      have hI := hIn
      have f0 := fr_I eS19 g0 f0 o_v0 (by decide)
      have d_kv2 := rd_Ij eS19 (by decide) d_kv2
      have d_x12 := rd_Ij eS19 (by decide) d_x12
      have d_kv13 := rd_Ik eS19 o_v0 o_a3 (by decide) d_kv13
      have d_kv18 := rd_Ij eS19 (by decide) d_kv18
      obtain ⟨kv20, hkv20⟩ : ∃ z : Int32, z = (-1 : Int32) := ⟨_, rfl⟩
      have d_kv20 := rd_Is eS19 hkv20
      have ea3 := rf_I eS19 ea3
      have g0 := gr_I eS19 g0
      have o_a3 := ob_I eS19 o_a3
      have o_v0 := ob_I eS19 o_v0
      intro _
      exact hq _ _ hI g0 f0
    · intro _ _
      refine ⟨fun c23 => absurd (show (1 : Int32) = 0 from c23) (by decide), fun c23 => ?_⟩
      refine u_X11_isRoad ?_
      refine u_X11_isRoad_0 ?_
      refine ⟨o_v0, ?_⟩
      refine ⟨fun e25 => (nomatch (e25.symm.trans ea3)), fun a24 ea24 => ?_⟩
      obtain rfl : a3 = a24 := Option.some.inj (ea3.symm.trans ea24)
      refine ⟨fun c26 => ?_, fun c26 => ?_⟩
      · intro _ _
        refine ⟨fun c28 => ?_, fun c28 => absurd (show ¬ (0 : Int32) = 0 from c28) (by decide)⟩
        refine u_X11_go_29 ?_
        refine ⟨o_v0, ?_⟩
        refine u_X11_refused ?_
        refine u_X11_refused_0 ?_
        refine ⟨o_v0, ?_⟩
        intro S29 eS29
        have hIn : IV S29 := by rw [eS29]; exact iv11_sI hI o_v0 (by decide) (nu_free (by decide))
        have hI := hIn
        have f0 := fr_I eS29 g0 f0 o_v0 (by decide)
        have d_kv2 := rd_Ij eS29 (by decide) d_kv2
        have d_x12 := rd_Ij eS29 (by decide) d_x12
        have d_kv13 := rd_Ik eS29 o_v0 o_a3 (by decide) d_kv13
        obtain ⟨kv30, hkv30⟩ : ∃ z : Int32, z = (1 : Int32) := ⟨_, rfl⟩
        have d_kv30 := rd_Is eS29 hkv30
        have ea3 := rf_I eS29 ea3
        have g0 := gr_I eS29 g0
        have o_a3 := ob_I eS29 o_a3
        have o_v0 := ob_I eS29 o_v0
        intro S31 eS31
        have hIn : IV S31 := by rw [eS31]; exact iv11_sI hI o_v0 (by decide) (nu_free (by decide))
        have hI := hIn
        have f0 := fr_I eS31 g0 f0 o_v0 (by decide)
        have d_kv2 := rd_Ij eS31 (by decide) d_kv2
        have d_x12 := rd_Ij eS31 (by decide) d_x12
        have d_kv13 := rd_Ik eS31 o_v0 o_a3 (by decide) d_kv13
        have d_kv30 := rd_Ij eS31 (by decide) d_kv30
        obtain ⟨kv32, hkv32⟩ : ∃ z : Int32, z = (-1 : Int32) := ⟨_, rfl⟩
        have d_kv32 := rd_Is eS31 hkv32
        have ea3 := rf_I eS31 ea3
        have g0 := gr_I eS31 g0
        have o_a3 := ob_I eS31 o_a3
        have o_v0 := ob_I eS31 o_v0
        intro _
        exact hq _ _ hI g0 f0
      · refine ⟨a3, ea3, ?_⟩
        refine ⟨o_a3, ?_⟩
        intro x35 ex35
        have r_x35 : (0 : Int32) ≤ x35 ∧ x35 ≤ (12 : Int32) := by rw [ex35]; exact nu 19 rfl hI o_a3
        have d_x35 := ex35
        refine ⟨fun c36 => ?_, fun c36 => ?_⟩
        · intro _ _
          refine ⟨fun c38 => ?_, fun c38 => absurd (show ¬ (0 : Int32) = 0 from c38) (by decide)⟩
          refine u_X11_go_29 ?_
          refine ⟨o_v0, ?_⟩
          refine u_X11_refused ?_
          refine u_X11_refused_0 ?_
          refine ⟨o_v0, ?_⟩
          intro S39 eS39
          have hIn : IV S39 := by rw [eS39]; exact iv11_sI hI o_v0 (by decide) (nu_free (by decide))
          have hI := hIn
          have f0 := fr_I eS39 g0 f0 o_v0 (by decide)
          have d_kv2 := rd_Ij eS39 (by decide) d_kv2
          have d_x12 := rd_Ij eS39 (by decide) d_x12
          have d_kv13 := rd_Ik eS39 o_v0 o_a3 (by decide) d_kv13
          have d_x35 := rd_Ik eS39 o_v0 o_a3 (by decide) d_x35
          obtain ⟨kv40, hkv40⟩ : ∃ z : Int32, z = (1 : Int32) := ⟨_, rfl⟩
          have d_kv40 := rd_Is eS39 hkv40
          have ea3 := rf_I eS39 ea3
          have g0 := gr_I eS39 g0
          have o_a3 := ob_I eS39 o_a3
          have o_v0 := ob_I eS39 o_v0
          intro S41 eS41
          have hIn : IV S41 := by rw [eS41]; exact iv11_sI hI o_v0 (by decide) (nu_free (by decide))
          have hI := hIn
          have f0 := fr_I eS41 g0 f0 o_v0 (by decide)
          have d_kv2 := rd_Ij eS41 (by decide) d_kv2
          have d_x12 := rd_Ij eS41 (by decide) d_x12
          have d_kv13 := rd_Ik eS41 o_v0 o_a3 (by decide) d_kv13
          have d_x35 := rd_Ik eS41 o_v0 o_a3 (by decide) d_x35
          have d_kv40 := rd_Ij eS41 (by decide) d_kv40
          obtain ⟨kv42, hkv42⟩ : ∃ z : Int32, z = (-1 : Int32) := ⟨_, rfl⟩
          have d_kv42 := rd_Is eS41 hkv42
          have ea3 := rf_I eS41 ea3
          have g0 := gr_I eS41 g0
          have o_a3 := ob_I eS41 o_a3
          have o_v0 := ob_I eS41 o_v0
          intro _
          exact hq _ _ hI g0 f0
        · intro _ _
          refine ⟨fun c45 => absurd (show (1 : Int32) = 0 from c45) (by decide), fun c45 => ?_⟩
          refine u_X11_in ?_
          refine u_X11_in_0 ?_
          refine ⟨fun c46 => ?_, fun c46 => ?_⟩
          · intro _ _
            refine ⟨fun c48 => absurd (show ¬ (0 : Int32) = 0 from c48) (by decide), fun c48 => ?_⟩
            refine u_X11_go_29 ?_
            refine ⟨o_v0, ?_⟩
            refine u_X11_refused ?_
            refine u_X11_refused_0 ?_
            refine ⟨o_v0, ?_⟩
            intro S49 eS49
            have hIn : IV S49 := by rw [eS49]; exact iv11_sI hI o_v0 (by decide) (nu_free (by decide))
            have hI := hIn
            have f0 := fr_I eS49 g0 f0 o_v0 (by decide)
            have d_kv2 := rd_Ij eS49 (by decide) d_kv2
            have d_x12 := rd_Ij eS49 (by decide) d_x12
            have d_kv13 := rd_Ik eS49 o_v0 o_a3 (by decide) d_kv13
            have d_x35 := rd_Ik eS49 o_v0 o_a3 (by decide) d_x35
            obtain ⟨kv50, hkv50⟩ : ∃ z : Int32, z = (1 : Int32) := ⟨_, rfl⟩
            have d_kv50 := rd_Is eS49 hkv50
            have ea3 := rf_I eS49 ea3
            have g0 := gr_I eS49 g0
            have o_a3 := ob_I eS49 o_a3
            have o_v0 := ob_I eS49 o_v0
            intro S51 eS51
            have hIn : IV S51 := by rw [eS51]; exact iv11_sI hI o_v0 (by decide) (nu_free (by decide))
            have hI := hIn
            have f0 := fr_I eS51 g0 f0 o_v0 (by decide)
            have d_kv2 := rd_Ij eS51 (by decide) d_kv2
            have d_x12 := rd_Ij eS51 (by decide) d_x12
            have d_kv13 := rd_Ik eS51 o_v0 o_a3 (by decide) d_kv13
            have d_x35 := rd_Ik eS51 o_v0 o_a3 (by decide) d_x35
            have d_kv50 := rd_Ij eS51 (by decide) d_kv50
            obtain ⟨kv52, hkv52⟩ : ∃ z : Int32, z = (-1 : Int32) := ⟨_, rfl⟩
            have d_kv52 := rd_Is eS51 hkv52
            have ea3 := rf_I eS51 ea3
            have g0 := gr_I eS51 g0
            have o_a3 := ob_I eS51 o_a3
            have o_v0 := ob_I eS51 o_v0
            intro _
            exact hq _ _ hI g0 f0
          · refine ⟨fun c54 => ?_, fun c54 => ?_⟩
            · intro _ _
              refine ⟨fun c56 => absurd (show ¬ (0 : Int32) = 0 from c56) (by decide), fun c56 => ?_⟩
              refine u_X11_go_29 ?_
              refine ⟨o_v0, ?_⟩
              refine u_X11_refused ?_
              refine u_X11_refused_0 ?_
              refine ⟨o_v0, ?_⟩
              intro S57 eS57
              have hIn : IV S57 := by rw [eS57]; exact iv11_sI hI o_v0 (by decide) (nu_free (by decide))
              have hI := hIn
              have f0 := fr_I eS57 g0 f0 o_v0 (by decide)
              have d_kv2 := rd_Ij eS57 (by decide) d_kv2
              have d_x12 := rd_Ij eS57 (by decide) d_x12
              have d_kv13 := rd_Ik eS57 o_v0 o_a3 (by decide) d_kv13
              have d_x35 := rd_Ik eS57 o_v0 o_a3 (by decide) d_x35
              obtain ⟨kv58, hkv58⟩ : ∃ z : Int32, z = (1 : Int32) := ⟨_, rfl⟩
              have d_kv58 := rd_Is eS57 hkv58
              have ea3 := rf_I eS57 ea3
              have g0 := gr_I eS57 g0
              have o_a3 := ob_I eS57 o_a3
              have o_v0 := ob_I eS57 o_v0
              intro S59 eS59
              have hIn : IV S59 := by rw [eS59]; exact iv11_sI hI o_v0 (by decide) (nu_free (by decide))
              have hI := hIn
              have f0 := fr_I eS59 g0 f0 o_v0 (by decide)
              have d_kv2 := rd_Ij eS59 (by decide) d_kv2
              have d_x12 := rd_Ij eS59 (by decide) d_x12
              have d_kv13 := rd_Ik eS59 o_v0 o_a3 (by decide) d_kv13
              have d_x35 := rd_Ik eS59 o_v0 o_a3 (by decide) d_x35
              have d_kv58 := rd_Ij eS59 (by decide) d_kv58
              obtain ⟨kv60, hkv60⟩ : ∃ z : Int32, z = (-1 : Int32) := ⟨_, rfl⟩
              have d_kv60 := rd_Is eS59 hkv60
              have ea3 := rf_I eS59 ea3
              have g0 := gr_I eS59 g0
              have o_a3 := ob_I eS59 o_a3
              have o_v0 := ob_I eS59 o_v0
              intro _
              exact hq _ _ hI g0 f0
            · intro _ _
              refine ⟨fun c63 => ?_, fun c63 => absurd (show (1 : Int32) = 0 from c63) (by decide)⟩
              intro x64 ex64
              have r_x64 : (-2 : Int32) ≤ x64 ∧ x64 ≤ (3 : Int32) := by rw [ex64]; exact nu 26 rfl hI o_v0
              have q_x64 : x64 = x12 := ex64.trans d_x12.symm
              have d_x64 := ex64
              have wh_x64 : x64 = -2 ∨ (0 ≤ x64 ∧ x64 < kv13) := by rw [ex64, d_kv13]; exact ml_who hI o_v0 ea3
              refine u_X11_isSpeed ?_
              refine u_X11_isSpeed_0 ?_
              refine ⟨o_v0, ?_⟩
              refine ⟨a3, ea3, ?_⟩
              refine ⟨o_a3, ?_⟩
              obtain ⟨a66, ea66, o_a66, l_a66⟩ := shl 46 rfl hI o_a3
              refine ⟨a66, ea66, ?_⟩
              refine ⟨o_a66, ?_⟩
              refine ⟨(vin l_a66 (m := 4) (by decide) (qm226 r_x12 r_kv13 wh_x12 c14 c26 r_x35 c36 c46 c54 r_x64 q_x64 wh_x64)), ?_⟩
              intro x67 ex67
              have gy_x67 : 0 ≤ x64 ∧ x64 < fI S1 a3 4 := by rw [← d_kv13]; exact (qm227 r_x12 r_kv13 wh_x12 c14 c26 r_x35 c36 c46 c54 r_x64 q_x64 wh_x64)
              have g_x67 : (1 : Int32) ≤ x67 ∧ x67 ≤ (9 : Int32) := by rw [ex67]; exact wg_at (ml_wg hI o_v0 ea3) 3 rfl gy_x67 ea66
              refine ⟨a3, ea3, ?_⟩
              refine ⟨o_a3, ?_⟩
              obtain ⟨a69, ea69, o_a69, l_a69⟩ := shl 47 rfl hI o_a3
              refine ⟨a69, ea69, ?_⟩
              refine ⟨o_a69, ?_⟩
              refine ⟨(vin l_a69 (m := 4) (by decide) (qm226 r_x12 r_kv13 wh_x12 c14 c26 r_x35 c36 c46 c54 r_x64 q_x64 wh_x64)), ?_⟩
              intro x70 ex70
              have gy_x70 : 0 ≤ x64 ∧ x64 < fI S1 a3 4 := by rw [← d_kv13]; exact (qm227 r_x12 r_kv13 wh_x12 c14 c26 r_x35 c36 c46 c54 r_x64 q_x64 wh_x64)
              have g_x70 : (0 : Int32) ≤ x70 ∧ x70 ≤ (9 : Int32) := by rw [ex70]; exact wg_at (ml_wg hI o_v0 ea3) 4 rfl gy_x70 ea69
              refine u_X11_in ?_
              refine u_X11_in_0 ?_
              refine ⟨fun c71 => ?_, fun c71 => ?_⟩
              · intro _ _
                refine ⟨(Or.inl rfl), ?_⟩
                intro _ _
                refine ⟨fun c74 => absurd (show ¬ (0 : Int32) = 0 from c74) (by decide), fun c74 => ?_⟩
                refine u_X11_refused ?_
                refine u_X11_refused_0 ?_
                refine ⟨o_v0, ?_⟩
                intro S75 eS75
                have hIn : IV S75 := by rw [eS75]; exact iv11_sI hI o_v0 (by decide) (nu_free (by decide))
                have hI := hIn
                have f0 := fr_I eS75 g0 f0 o_v0 (by decide)
                have d_kv2 := rd_Ij eS75 (by decide) d_kv2
                have d_x64 := rd_Ij eS75 (by decide) d_x64
                have d_kv13 := rd_Ik eS75 o_v0 o_a3 (by decide) d_kv13
                have d_x35 := rd_Ik eS75 o_v0 o_a3 (by decide) d_x35
                obtain ⟨kv76, hkv76⟩ : ∃ z : Int32, z = (2 : Int32) := ⟨_, rfl⟩
                have d_kv76 := rd_Is eS75 hkv76
                have ea3 := rf_I eS75 ea3
                have ea66 := rf_I eS75 ea66
                have ea69 := rf_I eS75 ea69
                have l_a66 := ln_I eS75 l_a66
                have l_a69 := ln_I eS75 l_a69
                have g0 := gr_I eS75 g0
                have o_a3 := ob_I eS75 o_a3
                have o_a66 := ob_I eS75 o_a66
                have o_a69 := ob_I eS75 o_a69
                have o_v0 := ob_I eS75 o_v0
                intro S77 eS77
                have hIn : IV S77 := by rw [eS77]; exact iv11_sI hI o_v0 (by decide) (nu_free (by decide))
                have hI := hIn
                have f0 := fr_I eS77 g0 f0 o_v0 (by decide)
                have d_kv2 := rd_Ij eS77 (by decide) d_kv2
                have d_x64 := rd_Ij eS77 (by decide) d_x64
                have d_kv13 := rd_Ik eS77 o_v0 o_a3 (by decide) d_kv13
                have d_x35 := rd_Ik eS77 o_v0 o_a3 (by decide) d_x35
                have d_kv76 := rd_Ij eS77 (by decide) d_kv76
                obtain ⟨kv78, hkv78⟩ : ∃ z : Int32, z = (-1 : Int32) := ⟨_, rfl⟩
                have d_kv78 := rd_Is eS77 hkv78
                have ea3 := rf_I eS77 ea3
                have ea66 := rf_I eS77 ea66
                have ea69 := rf_I eS77 ea69
                have l_a66 := ln_I eS77 l_a66
                have l_a69 := ln_I eS77 l_a69
                have g0 := gr_I eS77 g0
                have o_a3 := ob_I eS77 o_a3
                have o_a66 := ob_I eS77 o_a66
                have o_a69 := ob_I eS77 o_a69
                have o_v0 := ob_I eS77 o_v0
                intro _
                exact hq _ _ hI g0 f0
              · refine ⟨fun c80 => ?_, fun c80 => ?_⟩
                · intro _ _
                  refine ⟨(Or.inl rfl), ?_⟩
                  intro _ _
                  refine ⟨fun c83 => absurd (show ¬ (0 : Int32) = 0 from c83) (by decide), fun c83 => ?_⟩
                  refine u_X11_refused ?_
                  refine u_X11_refused_0 ?_
                  refine ⟨o_v0, ?_⟩
                  intro S84 eS84
                  have hIn : IV S84 := by rw [eS84]; exact iv11_sI hI o_v0 (by decide) (nu_free (by decide))
                  have hI := hIn
                  have f0 := fr_I eS84 g0 f0 o_v0 (by decide)
                  have d_kv2 := rd_Ij eS84 (by decide) d_kv2
                  have d_x64 := rd_Ij eS84 (by decide) d_x64
                  have d_kv13 := rd_Ik eS84 o_v0 o_a3 (by decide) d_kv13
                  have d_x35 := rd_Ik eS84 o_v0 o_a3 (by decide) d_x35
                  obtain ⟨kv85, hkv85⟩ : ∃ z : Int32, z = (2 : Int32) := ⟨_, rfl⟩
                  have d_kv85 := rd_Is eS84 hkv85
                  have ea3 := rf_I eS84 ea3
                  have ea66 := rf_I eS84 ea66
                  have ea69 := rf_I eS84 ea69
                  have l_a66 := ln_I eS84 l_a66
                  have l_a69 := ln_I eS84 l_a69
                  have g0 := gr_I eS84 g0
                  have o_a3 := ob_I eS84 o_a3
                  have o_a66 := ob_I eS84 o_a66
                  have o_a69 := ob_I eS84 o_a69
                  have o_v0 := ob_I eS84 o_v0
                  intro S86 eS86
                  have hIn : IV S86 := by rw [eS86]; exact iv11_sI hI o_v0 (by decide) (nu_free (by decide))
                  have hI := hIn
                  have f0 := fr_I eS86 g0 f0 o_v0 (by decide)
                  have d_kv2 := rd_Ij eS86 (by decide) d_kv2
                  have d_x64 := rd_Ij eS86 (by decide) d_x64
                  have d_kv13 := rd_Ik eS86 o_v0 o_a3 (by decide) d_kv13
                  have d_x35 := rd_Ik eS86 o_v0 o_a3 (by decide) d_x35
                  have d_kv85 := rd_Ij eS86 (by decide) d_kv85
                  obtain ⟨kv87, hkv87⟩ : ∃ z : Int32, z = (-1 : Int32) := ⟨_, rfl⟩
                  have d_kv87 := rd_Is eS86 hkv87
                  have ea3 := rf_I eS86 ea3
                  have ea66 := rf_I eS86 ea66
                  have ea69 := rf_I eS86 ea69
                  have l_a66 := ln_I eS86 l_a66
                  have l_a69 := ln_I eS86 l_a69
                  have g0 := gr_I eS86 g0
                  have o_a3 := ob_I eS86 o_a3
                  have o_a66 := ob_I eS86 o_a66
                  have o_a69 := ob_I eS86 o_a69
                  have o_v0 := ob_I eS86 o_v0
                  intro _
                  exact hq _ _ hI g0 f0
                · intro _ _
                  refine ⟨(Or.inr rfl), ?_⟩
                  intro _ _
                  refine ⟨fun c91 => ?_, fun c91 => absurd (show (1 : Int32) = 0 from c91) (by decide)⟩
                  refine ⟨a3, ea3, ?_⟩
                  refine ⟨o_a3, ?_⟩
                  refine u_X10_begins ?_
                  refine u_X10_begins_0 ?_
                  refine ⟨fun c93 => ?_, fun c93 => ?_⟩
                  · refine ⟨o_a3, ?_⟩
                    obtain ⟨a94, ea94, o_a94, l_a94⟩ := shl 36 rfl hI o_a3
                    refine ⟨a94, ea94, ?_⟩
                    refine ⟨o_a94, ?_⟩
                    refine ⟨(vin l_a94 (m := 12) (by decide) (qm228 r_x12 r_kv13 wh_x12 c14 c26 r_x35 c36 c46 c54 r_x64 q_x64 wh_x64 g_x67 g_x70 c71 c80 c93)), ?_⟩
                    intro x95 ex95
                    have gy_x95 : 0 ≤ v1 ∧ v1 < fI S1 a3 3 := by rw [← d_x35]; exact (qm229 r_x12 r_kv13 wh_x12 c14 c26 r_x35 c36 c46 c54 r_x64 q_x64 wh_x64 g_x67 g_x70 c71 c80 c93)
                    have g_x95 : (0 : Int32) ≤ x95 ∧ x95 ≤ (7 : Int32) := by rw [ex95]; exact wg_at (ml_wg hI o_v0 ea3) 1 rfl gy_x95 ea94
                    obtain ⟨kv96, d_kv96⟩ : ∃ z : Int32, z = fI S1 a3 2 := ⟨_, rfl⟩
                    have r_kv96 : (0 : Int32) ≤ kv96 ∧ kv96 ≤ (8 : Int32) := by rw [d_kv96]; exact nu 18 rfl hI o_a3
                    have gl_x95 : x95 < kv96 := by rw [ex95, d_kv96]; exact wg_lt (ml_wg hI o_v0 ea3) 1 rfl (by decide) gy_x95 ea94
                    intro _
                    obtain ⟨a98, ea98, o_a98, l_a98⟩ := shl 57 rfl hI o_v0
                    refine ⟨a98, ea98, ?_⟩
                    refine ⟨o_a98, ?_⟩
                    refine ⟨(vin l_a98 (m := 7) (by decide) (qm230 r_x12 r_kv13 wh_x12 c14 c26 r_x35 c36 c46 c54 r_x64 q_x64 wh_x64 g_x67 g_x70 c71 c80 c93)), ?_⟩
                    intro x99 ex99
                    have de_x99 := ml_de hI o_v0 (j := 21) (by decide) ea98 (0 : Int32).toNatClampNeg
                    rw [← ex99] at de_x99
                    have dr_x99 : (0 : Int64) ≤ x99 ∧ x99 ≤ (7 : Int64) := de_x99.1 (by decide)
                    refine ⟨fun c100 => ?_, fun c100 => ?_⟩
                    · refine ⟨a98, ea98, ?_⟩
                      refine ⟨o_a98, ?_⟩
                      refine ⟨(vin l_a98 (m := 7) (by decide) (qm231 r_x12 r_kv13 wh_x12 c14 c26 r_x35 c36 c46 c54 r_x64 q_x64 wh_x64 g_x67 g_x70 c71 c80 c93 g_x95 r_kv96 gl_x95 dr_x99 c100)), ?_⟩
                      intro x102 ex102
                      have de_x102 := ml_de hI o_v0 (j := 21) (by decide) ea98 (1 : Int32).toNatClampNeg
                      rw [← ex102] at de_x102
                      have dr_x102 : (0 : Int64) ≤ x102 ∧ x102 ≤ (999 : Int64) := de_x102.2 (by decide)
                      have lr_x102 : 0 ≤ x102.toInt32 ∧ x102.toInt32 ≤ (999 : Int32) := l2i_rng (by decide) dr_x102
                      intro x103 ex103
                      refine ⟨a3, ea3, ?_⟩
                      refine ⟨o_a3, ?_⟩
                      refine u_X10_minutes ?_
                      refine u_X10_minutes_0 ?_
                      refine ⟨o_a3, ?_⟩
                      obtain ⟨a105, ea105, o_a105, l_a105⟩ := shl 38 rfl hI o_a3
                      refine ⟨a105, ea105, ?_⟩
                      refine ⟨o_a105, ?_⟩
                      refine ⟨(vin l_a105 (m := 12) (by decide) (qm232 r_x12 r_kv13 wh_x12 c14 c26 r_x35 c36 c46 c54 r_x64 q_x64 wh_x64 g_x67 g_x70 c71 c80 c93 g_x95 r_kv96 gl_x95 dr_x99 c100)), ?_⟩
                      intro x106 ex106
                      have el107 := ex106.symm
                      have gy_x106 : 0 ≤ v1 ∧ v1 < fI S1 a3 3 := by rw [← d_x35]; exact (qm233 r_x12 r_kv13 wh_x12 c14 c26 r_x35 c36 c46 c54 r_x64 q_x64 wh_x64 g_x67 g_x70 c71 c80 c93 g_x95 r_kv96 gl_x95 dr_x99 c100)
                      have g_x106 : (1 : Int32) ≤ x106 ∧ x106 ≤ (60 : Int32) := by rw [ex106]; exact wg_at (ml_wg hI o_v0 ea3) 2 rfl gy_x106 ea105
                      refine ⟨(qm234 r_x12 r_kv13 wh_x12 c14 c26 r_x35 c36 c46 c54 r_x64 q_x64 wh_x64 g_x67 g_x70 c71 c80 c93 g_x95 r_kv96 gl_x95 dr_x99 c100), ?_⟩
                      intro x108 ex108
                      have dv_x108 : 0 ≤ x108 ∧ x108 ≤ ((x106 + v3) - (1 : Int32)) := by rw [ex108]; exact dv0 (qm235 r_x12 r_kv13 wh_x12 c14 c26 r_x35 c36 c46 c54 r_x64 q_x64 wh_x64 g_x67 g_x70 c71 c80 c93 g_x95 r_kv96 gl_x95 dr_x99 c100 g_x106 ex108) (i32pos (qm236 r_x12 r_kv13 wh_x12 c14 c26 r_x35 c36 c46 c54 r_x64 q_x64 wh_x64 g_x67 g_x70 c71 c80 c93 g_x95 r_kv96 gl_x95 dr_x99 c100 g_x106 ex108))
                      have dw_x108 : (1 : Int32) ≤ x108 := by rw [ex108]; exact dv1 (qm237 r_x12 r_kv13 wh_x12 c14 c26 r_x35 c36 c46 c54 r_x64 q_x64 wh_x64 g_x67 g_x70 c71 c80 c93 g_x95 r_kv96 gl_x95 dr_x99 c100 g_x106 ex108) (qm238 r_x12 r_kv13 wh_x12 c14 c26 r_x35 c36 c46 c54 r_x64 q_x64 wh_x64 g_x67 g_x70 c71 c80 c93 g_x95 r_kv96 gl_x95 dr_x99 c100 g_x106 ex108)
                      intro _
                      refine ⟨fun c110 => ?_, fun c110 => ?_⟩
                      · refine m_X11_keeps hI o_v0 (fun S112 hJ g113 fc114 p_S112 => ?_)
                        have hI := hJ
                        have l_a105 := (gr_len g113 o_a105).trans l_a105
                        have l_a66 := (gr_len g113 o_a66).trans l_a66
                        have l_a69 := (gr_len g113 o_a69).trans l_a69
                        have l_a94 := (gr_len g113 o_a94).trans l_a94
                        have l_a98 := (gr_len g113 o_a98).trans l_a98
                        have d_kv2 := d_kv2.trans (fri_at fc114 (by decide) (by decide) o_v0).symm
                        have d_x64 := d_x64.trans (fri_at fc114 (by decide) (by decide) o_v0).symm
                        have d_kv13 := d_kv13.trans (fri_at fc114 (by decide) (by decide) o_a3).symm
                        have d_x35 := d_x35.trans (fri_at fc114 (by decide) (by decide) o_a3).symm
                        have d_kv96 := d_kv96.trans (fri_at fc114 (by decide) (by decide) o_a3).symm
                        have ea3 := (frr_at fc114 (by decide) (by decide) o_v0).trans ea3
                        have ea66 := (frr_at fc114 (by decide) (by decide) o_a3).trans ea66
                        have ea69 := (frr_at fc114 (by decide) (by decide) o_a3).trans ea69
                        have ea94 := (frr_at fc114 (by decide) (by decide) o_a3).trans ea94
                        have ea98 := (frr_at fc114 (by decide) (by decide) o_v0).trans ea98
                        have ea105 := (frr_at fc114 (by decide) (by decide) o_a3).trans ea105
                        have f0 := fri_tr (S := S1) g0 f0 fc114 (by decide) (by decide)
                        have o_a105 := gr_ob g113 o_a105
                        have o_a3 := gr_ob g113 o_a3
                        have o_a66 := gr_ob g113 o_a66
                        have o_a69 := gr_ob g113 o_a69
                        have o_a94 := gr_ob g113 o_a94
                        have o_a98 := gr_ob g113 o_a98
                        have o_v0 := gr_ob g113 o_v0
                        have g0 := gr_tr (T := S1) g0 g113
                        intro _
                        have el107 := (congrFun (p_S112.1 _ _ o_a105 (by decide)) _).trans el107
                        refine i_X11_go_119 (fun (y0 : Nat) (y1 : Int32) (y2 : Int32) (y3 : Int32) (y4 : Int32) (y5 : Int32) (Z : HS) => ((2147483647 : Int32).toInt - y5.toInt).toNat) (fun (y0 : Nat) (y1 : Int32) (y2 : Int32) (y3 : Int32) (y4 : Int32) (y5 : Int32) (Z : HS) => (IV Z) ∧ (Gr S112 Z) ∧ (FRI [] [] S112 Z) ∧ (v0 = y0) ∧ (v1 = y1) ∧ (v2 = y2) ∧ (v3 = y3) ∧ (x103 = y4) ∧ (0 ≤ y5) ∧ (fI Z a105 v1.toNatClampNeg = x106)) ?_ _ _ _ _ _ _ _ ⟨hI, (gr_rf _), (fri_rf _ _ _), rfl, rfl, rfl, rfl, rfl, (qm239 r_x12 r_kv13 wh_x12 c14 c26 r_x35 c36 c46 c54 r_x64 q_x64 wh_x64 g_x67 g_x70 c71 c80 c93 g_x95 r_kv96 gl_x95 dr_x99 c100 dr_x102 lr_x102 ex103 g_x106 ex108 dv_x108 dw_x108 c110), el107⟩
                        intro w119 w121 w123 w125 w127 w129 S116 X130 ⟨hI, gL117, fL118, q120, q122, q124, q126, q128, i1u115, el107⟩ ih131
                        subst q120
                        subst q122
                        subst q124
                        subst q126
                        subst q128
                        have l_a105 := (gr_len gL117 o_a105).trans l_a105
                        have l_a66 := (gr_len gL117 o_a66).trans l_a66
                        have l_a69 := (gr_len gL117 o_a69).trans l_a69
                        have l_a94 := (gr_len gL117 o_a94).trans l_a94
                        have l_a98 := (gr_len gL117 o_a98).trans l_a98
                        have d_kv2 := d_kv2.trans (fri_at fL118 (by decide) (by decide) o_v0).symm
                        have d_x64 := d_x64.trans (fri_at fL118 (by decide) (by decide) o_v0).symm
                        have d_kv13 := d_kv13.trans (fri_at fL118 (by decide) (by decide) o_a3).symm
                        have d_x35 := d_x35.trans (fri_at fL118 (by decide) (by decide) o_a3).symm
                        have d_kv96 := d_kv96.trans (fri_at fL118 (by decide) (by decide) o_a3).symm
                        have ea3 := (frr_at fL118 (by decide) (by decide) o_v0).trans ea3
                        have ea66 := (frr_at fL118 (by decide) (by decide) o_a3).trans ea66
                        have ea69 := (frr_at fL118 (by decide) (by decide) o_a3).trans ea69
                        have ea94 := (frr_at fL118 (by decide) (by decide) o_a3).trans ea94
                        have ea98 := (frr_at fL118 (by decide) (by decide) o_v0).trans ea98
                        have ea105 := (frr_at fL118 (by decide) (by decide) o_a3).trans ea105
                        have f0 := fri_tr (S := S112) g0 f0 fL118 (by decide) (by decide)
                        have o_a105 := gr_ob gL117 o_a105
                        have o_a3 := gr_ob gL117 o_a3
                        have o_a66 := gr_ob gL117 o_a66
                        have o_a69 := gr_ob gL117 o_a69
                        have o_a94 := gr_ob gL117 o_a94
                        have o_a98 := gr_ob gL117 o_a98
                        have o_v0 := gr_ob gL117 o_v0
                        have g0 := gr_tr (T := S112) g0 gL117
                        refine u_X11_go_119 ?_
                        refine ⟨fun c132 => ?_, fun c132 => ?_⟩
                        · refine u_X11_go_171 ?_
                          refine ⟨o_v0, ?_⟩
                          refine ⟨a98, ea98, ?_⟩
                          refine ⟨a3, ea3, ?_⟩
                          refine ⟨o_a3, ?_⟩
                          refine u_X10_ends ?_
                          refine u_X10_ends_0 ?_
                          refine ⟨fun c135 => ?_, fun c135 => ?_⟩
                          · refine ⟨o_a3, ?_⟩
                            obtain ⟨a136, ea136, o_a136, l_a136⟩ := shl 35 rfl hI o_a3
                            refine ⟨a136, ea136, ?_⟩
                            refine ⟨o_a136, ?_⟩
                            refine ⟨(vin l_a136 (m := 12) (by decide) (qm240 r_x12 r_kv13 wh_x12 c14 c26 r_x35 c36 c46 c54 r_x64 q_x64 wh_x64 g_x67 g_x70 c71 c80 c93 g_x95 r_kv96 gl_x95 dr_x99 c100 dr_x102 lr_x102 ex103 g_x106 ex108 dv_x108 dw_x108 c110 i1u115 c132 c135)), ?_⟩
                            intro x137 ex137
                            have gy_x137 : 0 ≤ v1 ∧ v1 < fI S116 a3 3 := by rw [← d_x35]; exact (qm241 r_x12 r_kv13 wh_x12 c14 c26 r_x35 c36 c46 c54 r_x64 q_x64 wh_x64 g_x67 g_x70 c71 c80 c93 g_x95 r_kv96 gl_x95 dr_x99 c100 dr_x102 lr_x102 ex103 g_x106 ex108 dv_x108 dw_x108 c110 i1u115 c132 c135)
                            have g_x137 : (0 : Int32) ≤ x137 ∧ x137 ≤ (7 : Int32) := by rw [ex137]; exact wg_at (ml_wg hI o_v0 ea3) 0 rfl gy_x137 ea136
                            have gl_x137 : x137 < kv96 := by rw [ex137, d_kv96]; exact wg_lt (ml_wg hI o_v0 ea3) 0 rfl (by decide) gy_x137 ea136
                            intro _
                            refine ⟨o_a98, ?_⟩
                            intro x139 ex139
                            have i140 : vp_in (0 : Int32) (hN _ a98) := (vin l_a98 (m := 7) (by decide) (qm242 r_x12 r_kv13 wh_x12 c14 c26 r_x35 c36 c46 c54 r_x64 q_x64 wh_x64 g_x67 g_x70 c71 c80 c93 g_x95 r_kv96 gl_x95 dr_x99 c100 dr_x102 lr_x102 ex103 g_x106 ex108 dv_x108 dw_x108 c110 i1u115 c132 c135 g_x137 gl_x137 ex139))
                            refine ⟨i140, ?_⟩
                            intro S141 eS141
                            have hIn : IV S141 := by rw [eS141]; exact iv11_aD hI (de_0 (by rw [ex139]; exact i2l_rng (lo := 0) (hi := 7) (qm243 r_x12 r_kv13 wh_x12 c14 c26 r_x35 c36 c46 c54 r_x64 q_x64 wh_x64 g_x67 g_x70 c71 c80 c93 g_x95 r_kv96 gl_x95 dr_x99 c100 dr_x102 lr_x102 ex103 g_x106 ex108 dv_x108 dw_x108 c110 i1u115 c132 c135 g_x137 gl_x137 ex139)))
                            have el107 := el_J eS141 el107
                            have hI := hIn
                            have f0 := fr_J eS141 f0
                            have d_kv2 := rd_J eS141 d_kv2
                            have d_x64 := rd_J eS141 d_x64
                            have d_kv13 := rd_J eS141 d_kv13
                            have d_x35 := rd_J eS141 d_x35
                            have d_kv96 := rd_J eS141 d_kv96
                            have ea3 := rf_J eS141 ea3
                            have ea66 := rf_J eS141 ea66
                            have ea69 := rf_J eS141 ea69
                            have ea94 := rf_J eS141 ea94
                            have ea98 := rf_J eS141 ea98
                            have ea105 := rf_J eS141 ea105
                            have ea136 := rf_J eS141 ea136
                            have l_a105 := ln_J eS141 l_a105
                            have l_a136 := ln_J eS141 l_a136
                            have l_a66 := ln_J eS141 l_a66
                            have l_a69 := ln_J eS141 l_a69
                            have l_a94 := ln_J eS141 l_a94
                            have l_a98 := ln_J eS141 l_a98
                            have g0 := gr_J eS141 g0
                            have o_a105 := ob_J eS141 o_a105
                            have o_a136 := ob_J eS141 o_a136
                            have o_a3 := ob_J eS141 o_a3
                            have o_a66 := ob_J eS141 o_a66
                            have o_a69 := ob_J eS141 o_a69
                            have o_a94 := ob_J eS141 o_a94
                            have o_a98 := ob_J eS141 o_a98
                            have o_v0 := ob_J eS141 o_v0
                            refine ⟨a98, ea98, ?_⟩
                            refine ⟨a3, ea3, ?_⟩
                            refine ⟨o_a3, ?_⟩
                            refine u_X10_minutes ?_
                            refine u_X10_minutes_0 ?_
                            refine ⟨o_a3, ?_⟩
                            refine ⟨a105, ea105, ?_⟩
                            refine ⟨o_a105, ?_⟩
                            refine ⟨(vin l_a105 (m := 12) (by decide) (qm244 r_x12 r_kv13 wh_x12 c14 c26 r_x35 c36 c46 c54 r_x64 q_x64 wh_x64 g_x67 g_x70 c71 c80 c93 g_x95 r_kv96 gl_x95 dr_x99 c100 dr_x102 lr_x102 ex103 g_x106 ex108 dv_x108 dw_x108 c110 i1u115 c132 c135 g_x137 gl_x137 ex139)), ?_⟩
                            intro x145 ex145
                            have qe_x145 : x145 = x106 := ex145.trans el107
                            have gy_x145 : 0 ≤ v1 ∧ v1 < fI S141 a3 3 := by rw [← d_x35]; exact (qm245 r_x12 r_kv13 wh_x12 c14 c26 r_x35 c36 c46 c54 r_x64 q_x64 wh_x64 g_x67 g_x70 c71 c80 c93 g_x95 r_kv96 gl_x95 dr_x99 c100 dr_x102 lr_x102 ex103 g_x106 ex108 dv_x108 dw_x108 c110 i1u115 c132 c135 g_x137 gl_x137 ex139 qe_x145)
                            have g_x145 : (1 : Int32) ≤ x145 ∧ x145 ≤ (60 : Int32) := by rw [ex145]; exact wg_at (ml_wg hI o_v0 ea3) 2 rfl gy_x145 ea105
                            refine ⟨(qm246 r_x12 r_kv13 wh_x12 c14 c26 r_x35 c36 c46 c54 r_x64 q_x64 wh_x64 g_x67 g_x70 c71 c80 c93 g_x95 r_kv96 gl_x95 dr_x99 c100 dr_x102 lr_x102 ex103 g_x106 ex108 dv_x108 dw_x108 c110 i1u115 c132 c135 g_x137 gl_x137 ex139 qe_x145 g_x145), ?_⟩
                            intro x146 ex146
                            have dv_x146 : 0 ≤ x146 ∧ x146 ≤ ((x145 + v3) - (1 : Int32)) := by rw [ex146]; exact dv0 (qm247 r_x12 r_kv13 wh_x12 c14 c26 r_x35 c36 c46 c54 r_x64 q_x64 wh_x64 g_x67 g_x70 c71 c80 c93 g_x95 r_kv96 gl_x95 dr_x99 c100 dr_x102 lr_x102 ex103 g_x106 ex108 dv_x108 dw_x108 c110 i1u115 c132 c135 g_x137 gl_x137 ex139 qe_x145 g_x145 ex146) (i32pos (qm248 r_x12 r_kv13 wh_x12 c14 c26 r_x35 c36 c46 c54 r_x64 q_x64 wh_x64 g_x67 g_x70 c71 c80 c93 g_x95 r_kv96 gl_x95 dr_x99 c100 dr_x102 lr_x102 ex103 g_x106 ex108 dv_x108 dw_x108 c110 i1u115 c132 c135 g_x137 gl_x137 ex139 qe_x145 g_x145 ex146))
                            have dw_x146 : (1 : Int32) ≤ x146 := by rw [ex146]; exact dv1 (qm249 r_x12 r_kv13 wh_x12 c14 c26 r_x35 c36 c46 c54 r_x64 q_x64 wh_x64 g_x67 g_x70 c71 c80 c93 g_x95 r_kv96 gl_x95 dr_x99 c100 dr_x102 lr_x102 ex103 g_x106 ex108 dv_x108 dw_x108 c110 i1u115 c132 c135 g_x137 gl_x137 ex139 qe_x145 g_x145 ex146) (qm250 r_x12 r_kv13 wh_x12 c14 c26 r_x35 c36 c46 c54 r_x64 q_x64 wh_x64 g_x67 g_x70 c71 c80 c93 g_x95 r_kv96 gl_x95 dr_x99 c100 dr_x102 lr_x102 ex103 g_x106 ex108 dv_x108 dw_x108 c110 i1u115 c132 c135 g_x137 gl_x137 ex139 qe_x145 g_x145 ex146)
                            intro _
                            refine ⟨o_a98, ?_⟩
                            intro x148 ex148
                            have i149 : vp_in (1 : Int32) (hN _ a98) := (vin l_a98 (m := 7) (by decide) (qm251 r_x12 r_kv13 wh_x12 c14 c26 r_x35 c36 c46 c54 r_x64 q_x64 wh_x64 g_x67 g_x70 c71 c80 c93 g_x95 r_kv96 gl_x95 dr_x99 c100 dr_x102 lr_x102 ex103 g_x106 ex108 dv_x108 dw_x108 c110 i1u115 c132 c135 g_x137 gl_x137 ex139 qe_x145 g_x145 ex146 dv_x146 dw_x146 ex148))
                            refine ⟨i149, ?_⟩
                            intro S150 eS150
                            have hIn : IV S150 := by rw [eS150]; exact iv11_aD hI (de_1 (by rw [ex148]; exact i2l_rng (lo := 0) (hi := 999) (qm252 r_x12 r_kv13 wh_x12 c14 c26 r_x35 c36 c46 c54 r_x64 q_x64 wh_x64 g_x67 g_x70 c71 c80 c93 g_x95 r_kv96 gl_x95 dr_x99 c100 dr_x102 lr_x102 ex103 g_x106 ex108 dv_x108 dw_x108 c110 i1u115 c132 c135 g_x137 gl_x137 ex139 qe_x145 g_x145 ex146 dv_x146 dw_x146 ex148)))
                            have el107 := el_J eS150 el107
                            have hI := hIn
                            have f0 := fr_J eS150 f0
                            have d_kv2 := rd_J eS150 d_kv2
                            have d_x64 := rd_J eS150 d_x64
                            have d_kv13 := rd_J eS150 d_kv13
                            have d_x35 := rd_J eS150 d_x35
                            have d_kv96 := rd_J eS150 d_kv96
                            have ea3 := rf_J eS150 ea3
                            have ea66 := rf_J eS150 ea66
                            have ea69 := rf_J eS150 ea69
                            have ea94 := rf_J eS150 ea94
                            have ea98 := rf_J eS150 ea98
                            have ea105 := rf_J eS150 ea105
                            have ea136 := rf_J eS150 ea136
                            have l_a105 := ln_J eS150 l_a105
                            have l_a136 := ln_J eS150 l_a136
                            have l_a66 := ln_J eS150 l_a66
                            have l_a69 := ln_J eS150 l_a69
                            have l_a94 := ln_J eS150 l_a94
                            have l_a98 := ln_J eS150 l_a98
                            have g0 := gr_J eS150 g0
                            have o_a105 := ob_J eS150 o_a105
                            have o_a136 := ob_J eS150 o_a136
                            have o_a3 := ob_J eS150 o_a3
                            have o_a66 := ob_J eS150 o_a66
                            have o_a69 := ob_J eS150 o_a69
                            have o_a94 := ob_J eS150 o_a94
                            have o_a98 := ob_J eS150 o_a98
                            have o_v0 := ob_J eS150 o_v0
                            refine ⟨a98, ea98, ?_⟩
                            refine ⟨o_a98, ?_⟩
                            refine ⟨(vin l_a98 (m := 7) (by decide) (qm251 r_x12 r_kv13 wh_x12 c14 c26 r_x35 c36 c46 c54 r_x64 q_x64 wh_x64 g_x67 g_x70 c71 c80 c93 g_x95 r_kv96 gl_x95 dr_x99 c100 dr_x102 lr_x102 ex103 g_x106 ex108 dv_x108 dw_x108 c110 i1u115 c132 c135 g_x137 gl_x137 ex139 qe_x145 g_x145 ex146 dv_x146 dw_x146 ex148)), ?_⟩
                            intro x152 ex152
                            have de_x152 := ml_de hI o_v0 (j := 21) (by decide) ea98 (1 : Int32).toNatClampNeg
                            rw [← ex152] at de_x152
                            have dr_x152 : (0 : Int64) ≤ x152 ∧ x152 ≤ (999 : Int64) := de_x152.2 (by decide)
                            have lr_x152 : 0 ≤ x152.toInt32 ∧ x152.toInt32 ≤ (999 : Int32) := l2i_rng (by decide) dr_x152
                            refine u_X11_good ?_
                            refine u_X11_good_0 ?_
                            refine ⟨o_v0, ?_⟩
                            intro S153 eS153
                            have hIn : IV S153 := by rw [eS153]; exact iv11_sI hI o_v0 (by decide) (nu_free (by decide))
                            have el107 := el_ob eS153 o_v0 o_a105 (by decide) el107
                            have hI := hIn
                            have f0 := fr_I eS153 g0 f0 o_v0 (by decide)
                            have d_kv2 := rd_Ij eS153 (by decide) d_kv2
                            have d_x64 := rd_Ij eS153 (by decide) d_x64
                            have d_kv13 := rd_Ik eS153 o_v0 o_a3 (by decide) d_kv13
                            have d_x35 := rd_Ik eS153 o_v0 o_a3 (by decide) d_x35
                            have d_kv96 := rd_Ik eS153 o_v0 o_a3 (by decide) d_kv96
                            obtain ⟨kv154, hkv154⟩ : ∃ z : Int32, z = (0 : Int32) := ⟨_, rfl⟩
                            have d_kv154 := rd_Is eS153 hkv154
                            have ea3 := rf_I eS153 ea3
                            have ea66 := rf_I eS153 ea66
                            have ea69 := rf_I eS153 ea69
                            have ea94 := rf_I eS153 ea94
                            have ea98 := rf_I eS153 ea98
                            have ea105 := rf_I eS153 ea105
                            have ea136 := rf_I eS153 ea136
                            have l_a105 := ln_I eS153 l_a105
                            have l_a136 := ln_I eS153 l_a136
                            have l_a66 := ln_I eS153 l_a66
                            have l_a69 := ln_I eS153 l_a69
                            have l_a94 := ln_I eS153 l_a94
                            have l_a98 := ln_I eS153 l_a98
                            have g0 := gr_I eS153 g0
                            have o_a105 := ob_I eS153 o_a105
                            have o_a136 := ob_I eS153 o_a136
                            have o_a3 := ob_I eS153 o_a3
                            have o_a66 := ob_I eS153 o_a66
                            have o_a69 := ob_I eS153 o_a69
                            have o_a94 := ob_I eS153 o_a94
                            have o_a98 := ob_I eS153 o_a98
                            have o_v0 := ob_I eS153 o_v0
                            intro S155 eS155
                            have hIn : IV S155 := by rw [eS155]; exact iv11_sI hI o_v0 (by decide) (nu_free (by decide))
                            have el107 := el_ob eS155 o_v0 o_a105 (by decide) el107
                            have hI := hIn
                            have f0 := fr_I eS155 g0 f0 o_v0 (by decide)
                            have d_kv2 := rd_Ij eS155 (by decide) d_kv2
                            have d_x64 := rd_Ij eS155 (by decide) d_x64
                            have d_kv13 := rd_Ik eS155 o_v0 o_a3 (by decide) d_kv13
                            have d_x35 := rd_Ik eS155 o_v0 o_a3 (by decide) d_x35
                            have d_kv96 := rd_Ik eS155 o_v0 o_a3 (by decide) d_kv96
                            have d_kv154 := rd_Ij eS155 (by decide) d_kv154
                            obtain ⟨kv156, hkv156⟩ : ∃ z : Int32, z = (-1 : Int32) := ⟨_, rfl⟩
                            have d_kv156 := rd_Is eS155 hkv156
                            have ea3 := rf_I eS155 ea3
                            have ea66 := rf_I eS155 ea66
                            have ea69 := rf_I eS155 ea69
                            have ea94 := rf_I eS155 ea94
                            have ea98 := rf_I eS155 ea98
                            have ea105 := rf_I eS155 ea105
                            have ea136 := rf_I eS155 ea136
                            have l_a105 := ln_I eS155 l_a105
                            have l_a136 := ln_I eS155 l_a136
                            have l_a66 := ln_I eS155 l_a66
                            have l_a69 := ln_I eS155 l_a69
                            have l_a94 := ln_I eS155 l_a94
                            have l_a98 := ln_I eS155 l_a98
                            have g0 := gr_I eS155 g0
                            have o_a105 := ob_I eS155 o_a105
                            have o_a136 := ob_I eS155 o_a136
                            have o_a3 := ob_I eS155 o_a3
                            have o_a66 := ob_I eS155 o_a66
                            have o_a69 := ob_I eS155 o_a69
                            have o_a94 := ob_I eS155 o_a94
                            have o_a98 := ob_I eS155 o_a98
                            have o_v0 := ob_I eS155 o_v0
                            intro _
                            exact hq _ _ hI g0 f0
                          · refine ⟨o_a3, ?_⟩
                            refine ⟨a94, ea94, ?_⟩
                            refine ⟨o_a94, ?_⟩
                            refine ⟨(vin l_a94 (m := 12) (by decide) (qm253 r_x12 r_kv13 wh_x12 c14 c26 r_x35 c36 c46 c54 r_x64 q_x64 wh_x64 g_x67 g_x70 c71 c80 c93 g_x95 r_kv96 gl_x95 dr_x99 c100 dr_x102 lr_x102 ex103 g_x106 ex108 dv_x108 dw_x108 c110 i1u115 c132 c135)), ?_⟩
                            intro x159 ex159
                            have gy_x159 : 0 ≤ v1 ∧ v1 < fI S116 a3 3 := by rw [← d_x35]; exact (qm254 r_x12 r_kv13 wh_x12 c14 c26 r_x35 c36 c46 c54 r_x64 q_x64 wh_x64 g_x67 g_x70 c71 c80 c93 g_x95 r_kv96 gl_x95 dr_x99 c100 dr_x102 lr_x102 ex103 g_x106 ex108 dv_x108 dw_x108 c110 i1u115 c132 c135)
                            have g_x159 : (0 : Int32) ≤ x159 ∧ x159 ≤ (7 : Int32) := by rw [ex159]; exact wg_at (ml_wg hI o_v0 ea3) 1 rfl gy_x159 ea94
                            have gl_x159 : x159 < kv96 := by rw [ex159, d_kv96]; exact wg_lt (ml_wg hI o_v0 ea3) 1 rfl (by decide) gy_x159 ea94
                            intro _
                            refine ⟨o_a98, ?_⟩
                            intro x161 ex161
                            have i162 : vp_in (0 : Int32) (hN _ a98) := (vin l_a98 (m := 7) (by decide) (qm255 r_x12 r_kv13 wh_x12 c14 c26 r_x35 c36 c46 c54 r_x64 q_x64 wh_x64 g_x67 g_x70 c71 c80 c93 g_x95 r_kv96 gl_x95 dr_x99 c100 dr_x102 lr_x102 ex103 g_x106 ex108 dv_x108 dw_x108 c110 i1u115 c132 c135 g_x159 gl_x159 ex161))
                            refine ⟨i162, ?_⟩
                            intro S163 eS163
                            have hIn : IV S163 := by rw [eS163]; exact iv11_aD hI (de_0 (by rw [ex161]; exact i2l_rng (lo := 0) (hi := 7) (qm256 r_x12 r_kv13 wh_x12 c14 c26 r_x35 c36 c46 c54 r_x64 q_x64 wh_x64 g_x67 g_x70 c71 c80 c93 g_x95 r_kv96 gl_x95 dr_x99 c100 dr_x102 lr_x102 ex103 g_x106 ex108 dv_x108 dw_x108 c110 i1u115 c132 c135 g_x159 gl_x159 ex161)))
                            have el107 := el_J eS163 el107
                            have hI := hIn
                            have f0 := fr_J eS163 f0
                            have d_kv2 := rd_J eS163 d_kv2
                            have d_x64 := rd_J eS163 d_x64
                            have d_kv13 := rd_J eS163 d_kv13
                            have d_x35 := rd_J eS163 d_x35
                            have d_kv96 := rd_J eS163 d_kv96
                            have ea3 := rf_J eS163 ea3
                            have ea66 := rf_J eS163 ea66
                            have ea69 := rf_J eS163 ea69
                            have ea94 := rf_J eS163 ea94
                            have ea98 := rf_J eS163 ea98
                            have ea105 := rf_J eS163 ea105
                            have l_a105 := ln_J eS163 l_a105
                            have l_a66 := ln_J eS163 l_a66
                            have l_a69 := ln_J eS163 l_a69
                            have l_a94 := ln_J eS163 l_a94
                            have l_a98 := ln_J eS163 l_a98
                            have g0 := gr_J eS163 g0
                            have o_a105 := ob_J eS163 o_a105
                            have o_a3 := ob_J eS163 o_a3
                            have o_a66 := ob_J eS163 o_a66
                            have o_a69 := ob_J eS163 o_a69
                            have o_a94 := ob_J eS163 o_a94
                            have o_a98 := ob_J eS163 o_a98
                            have o_v0 := ob_J eS163 o_v0
                            refine ⟨a98, ea98, ?_⟩
                            refine ⟨a3, ea3, ?_⟩
                            refine ⟨o_a3, ?_⟩
                            refine u_X10_minutes ?_
                            refine u_X10_minutes_0 ?_
                            refine ⟨o_a3, ?_⟩
                            refine ⟨a105, ea105, ?_⟩
                            refine ⟨o_a105, ?_⟩
                            refine ⟨(vin l_a105 (m := 12) (by decide) (qm257 r_x12 r_kv13 wh_x12 c14 c26 r_x35 c36 c46 c54 r_x64 q_x64 wh_x64 g_x67 g_x70 c71 c80 c93 g_x95 r_kv96 gl_x95 dr_x99 c100 dr_x102 lr_x102 ex103 g_x106 ex108 dv_x108 dw_x108 c110 i1u115 c132 c135 g_x159 gl_x159 ex161)), ?_⟩
                            intro x167 ex167
                            have qe_x167 : x167 = x106 := ex167.trans el107
                            have gy_x167 : 0 ≤ v1 ∧ v1 < fI S163 a3 3 := by rw [← d_x35]; exact (qm258 r_x12 r_kv13 wh_x12 c14 c26 r_x35 c36 c46 c54 r_x64 q_x64 wh_x64 g_x67 g_x70 c71 c80 c93 g_x95 r_kv96 gl_x95 dr_x99 c100 dr_x102 lr_x102 ex103 g_x106 ex108 dv_x108 dw_x108 c110 i1u115 c132 c135 g_x159 gl_x159 ex161 qe_x167)
                            have g_x167 : (1 : Int32) ≤ x167 ∧ x167 ≤ (60 : Int32) := by rw [ex167]; exact wg_at (ml_wg hI o_v0 ea3) 2 rfl gy_x167 ea105
                            refine ⟨(qm259 r_x12 r_kv13 wh_x12 c14 c26 r_x35 c36 c46 c54 r_x64 q_x64 wh_x64 g_x67 g_x70 c71 c80 c93 g_x95 r_kv96 gl_x95 dr_x99 c100 dr_x102 lr_x102 ex103 g_x106 ex108 dv_x108 dw_x108 c110 i1u115 c132 c135 g_x159 gl_x159 ex161 qe_x167 g_x167), ?_⟩
                            intro x168 ex168
                            have dv_x168 : 0 ≤ x168 ∧ x168 ≤ ((x167 + v3) - (1 : Int32)) := by rw [ex168]; exact dv0 (qm260 r_x12 r_kv13 wh_x12 c14 c26 r_x35 c36 c46 c54 r_x64 q_x64 wh_x64 g_x67 g_x70 c71 c80 c93 g_x95 r_kv96 gl_x95 dr_x99 c100 dr_x102 lr_x102 ex103 g_x106 ex108 dv_x108 dw_x108 c110 i1u115 c132 c135 g_x159 gl_x159 ex161 qe_x167 g_x167 ex168) (i32pos (qm261 r_x12 r_kv13 wh_x12 c14 c26 r_x35 c36 c46 c54 r_x64 q_x64 wh_x64 g_x67 g_x70 c71 c80 c93 g_x95 r_kv96 gl_x95 dr_x99 c100 dr_x102 lr_x102 ex103 g_x106 ex108 dv_x108 dw_x108 c110 i1u115 c132 c135 g_x159 gl_x159 ex161 qe_x167 g_x167 ex168))
                            have dw_x168 : (1 : Int32) ≤ x168 := by rw [ex168]; exact dv1 (qm262 r_x12 r_kv13 wh_x12 c14 c26 r_x35 c36 c46 c54 r_x64 q_x64 wh_x64 g_x67 g_x70 c71 c80 c93 g_x95 r_kv96 gl_x95 dr_x99 c100 dr_x102 lr_x102 ex103 g_x106 ex108 dv_x108 dw_x108 c110 i1u115 c132 c135 g_x159 gl_x159 ex161 qe_x167 g_x167 ex168) (qm263 r_x12 r_kv13 wh_x12 c14 c26 r_x35 c36 c46 c54 r_x64 q_x64 wh_x64 g_x67 g_x70 c71 c80 c93 g_x95 r_kv96 gl_x95 dr_x99 c100 dr_x102 lr_x102 ex103 g_x106 ex108 dv_x108 dw_x108 c110 i1u115 c132 c135 g_x159 gl_x159 ex161 qe_x167 g_x167 ex168)
                            intro _
                            refine ⟨o_a98, ?_⟩
                            intro x170 ex170
                            have i171 : vp_in (1 : Int32) (hN _ a98) := (vin l_a98 (m := 7) (by decide) (qm264 r_x12 r_kv13 wh_x12 c14 c26 r_x35 c36 c46 c54 r_x64 q_x64 wh_x64 g_x67 g_x70 c71 c80 c93 g_x95 r_kv96 gl_x95 dr_x99 c100 dr_x102 lr_x102 ex103 g_x106 ex108 dv_x108 dw_x108 c110 i1u115 c132 c135 g_x159 gl_x159 ex161 qe_x167 g_x167 ex168 dv_x168 dw_x168 ex170))
                            refine ⟨i171, ?_⟩
                            intro S172 eS172
                            have hIn : IV S172 := by rw [eS172]; exact iv11_aD hI (de_1 (by rw [ex170]; exact i2l_rng (lo := 0) (hi := 999) (qm265 r_x12 r_kv13 wh_x12 c14 c26 r_x35 c36 c46 c54 r_x64 q_x64 wh_x64 g_x67 g_x70 c71 c80 c93 g_x95 r_kv96 gl_x95 dr_x99 c100 dr_x102 lr_x102 ex103 g_x106 ex108 dv_x108 dw_x108 c110 i1u115 c132 c135 g_x159 gl_x159 ex161 qe_x167 g_x167 ex168 dv_x168 dw_x168 ex170)))
                            have el107 := el_J eS172 el107
                            have hI := hIn
                            have f0 := fr_J eS172 f0
                            have d_kv2 := rd_J eS172 d_kv2
                            have d_x64 := rd_J eS172 d_x64
                            have d_kv13 := rd_J eS172 d_kv13
                            have d_x35 := rd_J eS172 d_x35
                            have d_kv96 := rd_J eS172 d_kv96
                            have ea3 := rf_J eS172 ea3
                            have ea66 := rf_J eS172 ea66
                            have ea69 := rf_J eS172 ea69
                            have ea94 := rf_J eS172 ea94
                            have ea98 := rf_J eS172 ea98
                            have ea105 := rf_J eS172 ea105
                            have l_a105 := ln_J eS172 l_a105
                            have l_a66 := ln_J eS172 l_a66
                            have l_a69 := ln_J eS172 l_a69
                            have l_a94 := ln_J eS172 l_a94
                            have l_a98 := ln_J eS172 l_a98
                            have g0 := gr_J eS172 g0
                            have o_a105 := ob_J eS172 o_a105
                            have o_a3 := ob_J eS172 o_a3
                            have o_a66 := ob_J eS172 o_a66
                            have o_a69 := ob_J eS172 o_a69
                            have o_a94 := ob_J eS172 o_a94
                            have o_a98 := ob_J eS172 o_a98
                            have o_v0 := ob_J eS172 o_v0
                            refine ⟨a98, ea98, ?_⟩
                            refine ⟨o_a98, ?_⟩
                            refine ⟨(vin l_a98 (m := 7) (by decide) (qm264 r_x12 r_kv13 wh_x12 c14 c26 r_x35 c36 c46 c54 r_x64 q_x64 wh_x64 g_x67 g_x70 c71 c80 c93 g_x95 r_kv96 gl_x95 dr_x99 c100 dr_x102 lr_x102 ex103 g_x106 ex108 dv_x108 dw_x108 c110 i1u115 c132 c135 g_x159 gl_x159 ex161 qe_x167 g_x167 ex168 dv_x168 dw_x168 ex170)), ?_⟩
                            intro x174 ex174
                            have de_x174 := ml_de hI o_v0 (j := 21) (by decide) ea98 (1 : Int32).toNatClampNeg
                            rw [← ex174] at de_x174
                            have dr_x174 : (0 : Int64) ≤ x174 ∧ x174 ≤ (999 : Int64) := de_x174.2 (by decide)
                            have lr_x174 : 0 ≤ x174.toInt32 ∧ x174.toInt32 ≤ (999 : Int32) := l2i_rng (by decide) dr_x174
                            refine u_X11_good ?_
                            refine u_X11_good_0 ?_
                            refine ⟨o_v0, ?_⟩
                            intro S175 eS175
                            have hIn : IV S175 := by rw [eS175]; exact iv11_sI hI o_v0 (by decide) (nu_free (by decide))
                            have el107 := el_ob eS175 o_v0 o_a105 (by decide) el107
                            have hI := hIn
                            have f0 := fr_I eS175 g0 f0 o_v0 (by decide)
                            have d_kv2 := rd_Ij eS175 (by decide) d_kv2
                            have d_x64 := rd_Ij eS175 (by decide) d_x64
                            have d_kv13 := rd_Ik eS175 o_v0 o_a3 (by decide) d_kv13
                            have d_x35 := rd_Ik eS175 o_v0 o_a3 (by decide) d_x35
                            have d_kv96 := rd_Ik eS175 o_v0 o_a3 (by decide) d_kv96
                            obtain ⟨kv176, hkv176⟩ : ∃ z : Int32, z = (0 : Int32) := ⟨_, rfl⟩
                            have d_kv176 := rd_Is eS175 hkv176
                            have ea3 := rf_I eS175 ea3
                            have ea66 := rf_I eS175 ea66
                            have ea69 := rf_I eS175 ea69
                            have ea94 := rf_I eS175 ea94
                            have ea98 := rf_I eS175 ea98
                            have ea105 := rf_I eS175 ea105
                            have l_a105 := ln_I eS175 l_a105
                            have l_a66 := ln_I eS175 l_a66
                            have l_a69 := ln_I eS175 l_a69
                            have l_a94 := ln_I eS175 l_a94
                            have l_a98 := ln_I eS175 l_a98
                            have g0 := gr_I eS175 g0
                            have o_a105 := ob_I eS175 o_a105
                            have o_a3 := ob_I eS175 o_a3
                            have o_a66 := ob_I eS175 o_a66
                            have o_a69 := ob_I eS175 o_a69
                            have o_a94 := ob_I eS175 o_a94
                            have o_a98 := ob_I eS175 o_a98
                            have o_v0 := ob_I eS175 o_v0
                            intro S177 eS177
                            have hIn : IV S177 := by rw [eS177]; exact iv11_sI hI o_v0 (by decide) (nu_free (by decide))
                            have el107 := el_ob eS177 o_v0 o_a105 (by decide) el107
                            have hI := hIn
                            have f0 := fr_I eS177 g0 f0 o_v0 (by decide)
                            have d_kv2 := rd_Ij eS177 (by decide) d_kv2
                            have d_x64 := rd_Ij eS177 (by decide) d_x64
                            have d_kv13 := rd_Ik eS177 o_v0 o_a3 (by decide) d_kv13
                            have d_x35 := rd_Ik eS177 o_v0 o_a3 (by decide) d_x35
                            have d_kv96 := rd_Ik eS177 o_v0 o_a3 (by decide) d_kv96
                            have d_kv176 := rd_Ij eS177 (by decide) d_kv176
                            obtain ⟨kv178, hkv178⟩ : ∃ z : Int32, z = (-1 : Int32) := ⟨_, rfl⟩
                            have d_kv178 := rd_Is eS177 hkv178
                            have ea3 := rf_I eS177 ea3
                            have ea66 := rf_I eS177 ea66
                            have ea69 := rf_I eS177 ea69
                            have ea94 := rf_I eS177 ea94
                            have ea98 := rf_I eS177 ea98
                            have ea105 := rf_I eS177 ea105
                            have l_a105 := ln_I eS177 l_a105
                            have l_a66 := ln_I eS177 l_a66
                            have l_a69 := ln_I eS177 l_a69
                            have l_a94 := ln_I eS177 l_a94
                            have l_a98 := ln_I eS177 l_a98
                            have g0 := gr_I eS177 g0
                            have o_a105 := ob_I eS177 o_a105
                            have o_a3 := ob_I eS177 o_a3
                            have o_a66 := ob_I eS177 o_a66
                            have o_a69 := ob_I eS177 o_a69
                            have o_a94 := ob_I eS177 o_a94
                            have o_a98 := ob_I eS177 o_a98
                            have o_v0 := ob_I eS177 o_v0
                            intro _
                            exact hq _ _ hI g0 f0
                        · refine ⟨o_v0, ?_⟩
                          refine u_X11_rainsIn ?_
                          refine u_X11_rainsIn_0 ?_
                          refine ⟨o_v0, ?_⟩
                          refine u_X11_hourOf ?_
                          refine u_X11_hourOf_0 ?_
                          refine ⟨o_v0, ?_⟩
                          refine ⟨a3, ea3, ?_⟩
                          refine ⟨o_a3, ?_⟩
                          intro x181 ex181
                          have r_x181 : (0 : Int32) ≤ x181 ∧ x181 ≤ (60 : Int32) := by rw [ex181]; exact nu 16 rfl hI o_a3
                          have d_x181 := ex181
                          have hh_x181 : 1 ≤ x181 := by rw [ex181]; exact ml_hour hI o_v0 ea3
                          refine ⟨(qm266 r_x12 r_kv13 wh_x12 c14 c26 r_x35 c36 c46 c54 r_x64 q_x64 wh_x64 g_x67 g_x70 c71 c80 c93 g_x95 r_kv96 gl_x95 dr_x99 c100 dr_x102 lr_x102 ex103 g_x106 ex108 dv_x108 dw_x108 c110 i1u115 c132 r_x181 hh_x181), ?_⟩
                          intro x182 ex182
                          have dv_x182 : 0 ≤ x182 ∧ x182 ≤ x103 := by rw [ex182]; exact dv0 (qm267 r_x12 r_kv13 wh_x12 c14 c26 r_x35 c36 c46 c54 r_x64 q_x64 wh_x64 g_x67 g_x70 c71 c80 c93 g_x95 r_kv96 gl_x95 dr_x99 c100 dr_x102 lr_x102 ex103 g_x106 ex108 dv_x108 dw_x108 c110 i1u115 c132 r_x181 hh_x181 ex182) (i32pos (qm268 r_x12 r_kv13 wh_x12 c14 c26 r_x35 c36 c46 c54 r_x64 q_x64 wh_x64 g_x67 g_x70 c71 c80 c93 g_x95 r_kv96 gl_x95 dr_x99 c100 dr_x102 lr_x102 ex103 g_x106 ex108 dv_x108 dw_x108 c110 i1u115 c132 r_x181 hh_x181 ex182))
                          intro _
                          refine ⟨a3, ea3, ?_⟩
                          refine ⟨o_a3, ?_⟩
                          intro x185 ex185
                          have r_x185 : (0 : Int32) ≤ x185 ∧ x185 ≤ (6 : Int32) := by rw [ex185]; exact nu 17 rfl hI o_a3
                          have d_x185 := ex185
                          refine ⟨fun c186 => ?_, fun c186 => ?_⟩
                          · intro _ _
                            refine ⟨fun c188 => ?_, fun c188 => absurd (show ¬ (0 : Int32) = 0 from c188) (by decide)⟩
                            refine u_X11_go_171 ?_
                            refine ⟨o_v0, ?_⟩
                            refine ⟨a98, ea98, ?_⟩
                            refine ⟨a3, ea3, ?_⟩
                            refine ⟨o_a3, ?_⟩
                            refine u_X10_ends ?_
                            refine u_X10_ends_0 ?_
                            refine ⟨fun c191 => ?_, fun c191 => ?_⟩
                            · refine ⟨o_a3, ?_⟩
                              obtain ⟨a192, ea192, o_a192, l_a192⟩ := shl 35 rfl hI o_a3
                              refine ⟨a192, ea192, ?_⟩
                              refine ⟨o_a192, ?_⟩
                              refine ⟨(vin l_a192 (m := 12) (by decide) (qm269 r_x12 r_kv13 wh_x12 c14 c26 r_x35 c36 c46 c54 r_x64 q_x64 wh_x64 g_x67 g_x70 c71 c80 c93 g_x95 r_kv96 gl_x95 dr_x99 c100 dr_x102 lr_x102 ex103 g_x106 ex108 dv_x108 dw_x108 c110 i1u115 c132 r_x181 hh_x181 ex182 dv_x182 r_x185 c186 c191)), ?_⟩
                              intro x193 ex193
                              have gy_x193 : 0 ≤ v1 ∧ v1 < fI S116 a3 3 := by rw [← d_x35]; exact (qm270 r_x12 r_kv13 wh_x12 c14 c26 r_x35 c36 c46 c54 r_x64 q_x64 wh_x64 g_x67 g_x70 c71 c80 c93 g_x95 r_kv96 gl_x95 dr_x99 c100 dr_x102 lr_x102 ex103 g_x106 ex108 dv_x108 dw_x108 c110 i1u115 c132 r_x181 hh_x181 ex182 dv_x182 r_x185 c186 c191)
                              have g_x193 : (0 : Int32) ≤ x193 ∧ x193 ≤ (7 : Int32) := by rw [ex193]; exact wg_at (ml_wg hI o_v0 ea3) 0 rfl gy_x193 ea192
                              have gl_x193 : x193 < kv96 := by rw [ex193, d_kv96]; exact wg_lt (ml_wg hI o_v0 ea3) 0 rfl (by decide) gy_x193 ea192
                              intro _
                              refine ⟨o_a98, ?_⟩
                              intro x195 ex195
                              have i196 : vp_in (0 : Int32) (hN _ a98) := (vin l_a98 (m := 7) (by decide) (qm271 r_x12 r_kv13 wh_x12 c14 c26 r_x35 c36 c46 c54 r_x64 q_x64 wh_x64 g_x67 g_x70 c71 c80 c93 g_x95 r_kv96 gl_x95 dr_x99 c100 dr_x102 lr_x102 ex103 g_x106 ex108 dv_x108 dw_x108 c110 i1u115 c132 r_x181 hh_x181 ex182 dv_x182 r_x185 c186 c191 g_x193 gl_x193 ex195))
                              refine ⟨i196, ?_⟩
                              intro S197 eS197
                              have hIn : IV S197 := by rw [eS197]; exact iv11_aD hI (de_0 (by rw [ex195]; exact i2l_rng (lo := 0) (hi := 7) (qm272 r_x12 r_kv13 wh_x12 c14 c26 r_x35 c36 c46 c54 r_x64 q_x64 wh_x64 g_x67 g_x70 c71 c80 c93 g_x95 r_kv96 gl_x95 dr_x99 c100 dr_x102 lr_x102 ex103 g_x106 ex108 dv_x108 dw_x108 c110 i1u115 c132 r_x181 hh_x181 ex182 dv_x182 r_x185 c186 c191 g_x193 gl_x193 ex195)))
                              have el107 := el_J eS197 el107
                              have hI := hIn
                              have f0 := fr_J eS197 f0
                              have d_kv2 := rd_J eS197 d_kv2
                              have d_x64 := rd_J eS197 d_x64
                              have d_kv13 := rd_J eS197 d_kv13
                              have d_x35 := rd_J eS197 d_x35
                              have d_kv96 := rd_J eS197 d_kv96
                              have d_x181 := rd_J eS197 d_x181
                              have d_x185 := rd_J eS197 d_x185
                              have ea3 := rf_J eS197 ea3
                              have ea66 := rf_J eS197 ea66
                              have ea69 := rf_J eS197 ea69
                              have ea94 := rf_J eS197 ea94
                              have ea98 := rf_J eS197 ea98
                              have ea105 := rf_J eS197 ea105
                              have ea192 := rf_J eS197 ea192
                              have l_a105 := ln_J eS197 l_a105
                              have l_a192 := ln_J eS197 l_a192
                              have l_a66 := ln_J eS197 l_a66
                              have l_a69 := ln_J eS197 l_a69
                              have l_a94 := ln_J eS197 l_a94
                              have l_a98 := ln_J eS197 l_a98
                              have g0 := gr_J eS197 g0
                              have o_a105 := ob_J eS197 o_a105
                              have o_a192 := ob_J eS197 o_a192
                              have o_a3 := ob_J eS197 o_a3
                              have o_a66 := ob_J eS197 o_a66
                              have o_a69 := ob_J eS197 o_a69
                              have o_a94 := ob_J eS197 o_a94
                              have o_a98 := ob_J eS197 o_a98
                              have o_v0 := ob_J eS197 o_v0
                              refine ⟨a98, ea98, ?_⟩
                              refine ⟨a3, ea3, ?_⟩
                              refine ⟨o_a3, ?_⟩
                              refine u_X10_minutes ?_
                              refine u_X10_minutes_0 ?_
                              refine ⟨o_a3, ?_⟩
                              refine ⟨a105, ea105, ?_⟩
                              refine ⟨o_a105, ?_⟩
                              refine ⟨(vin l_a105 (m := 12) (by decide) (qm273 r_x12 r_kv13 wh_x12 c14 c26 r_x35 c36 c46 c54 r_x64 q_x64 wh_x64 g_x67 g_x70 c71 c80 c93 g_x95 r_kv96 gl_x95 dr_x99 c100 dr_x102 lr_x102 ex103 g_x106 ex108 dv_x108 dw_x108 c110 i1u115 c132 r_x181 hh_x181 ex182 dv_x182 r_x185 c186 c191 g_x193 gl_x193 ex195)), ?_⟩
                              intro x201 ex201
                              have qe_x201 : x201 = x106 := ex201.trans el107
                              have gy_x201 : 0 ≤ v1 ∧ v1 < fI S197 a3 3 := by rw [← d_x35]; exact (qm274 r_x12 r_kv13 wh_x12 c14 c26 r_x35 c36 c46 c54 r_x64 q_x64 wh_x64 g_x67 g_x70 c71 c80 c93 g_x95 r_kv96 gl_x95 dr_x99 c100 dr_x102 lr_x102 ex103 g_x106 ex108 dv_x108 dw_x108 c110 i1u115 c132 r_x181 hh_x181 ex182 dv_x182 r_x185 c186 c191 g_x193 gl_x193 ex195 qe_x201)
                              have g_x201 : (1 : Int32) ≤ x201 ∧ x201 ≤ (60 : Int32) := by rw [ex201]; exact wg_at (ml_wg hI o_v0 ea3) 2 rfl gy_x201 ea105
                              refine ⟨(qm275 r_x12 r_kv13 wh_x12 c14 c26 r_x35 c36 c46 c54 r_x64 q_x64 wh_x64 g_x67 g_x70 c71 c80 c93 g_x95 r_kv96 gl_x95 dr_x99 c100 dr_x102 lr_x102 ex103 g_x106 ex108 dv_x108 dw_x108 c110 i1u115 c132 r_x181 hh_x181 ex182 dv_x182 r_x185 c186 c191 g_x193 gl_x193 ex195 qe_x201 g_x201), ?_⟩
                              intro x202 ex202
                              have dv_x202 : 0 ≤ x202 ∧ x202 ≤ ((x201 + v3) - (1 : Int32)) := by rw [ex202]; exact dv0 (qm276 r_x12 r_kv13 wh_x12 c14 c26 r_x35 c36 c46 c54 r_x64 q_x64 wh_x64 g_x67 g_x70 c71 c80 c93 g_x95 r_kv96 gl_x95 dr_x99 c100 dr_x102 lr_x102 ex103 g_x106 ex108 dv_x108 dw_x108 c110 i1u115 c132 r_x181 hh_x181 ex182 dv_x182 r_x185 c186 c191 g_x193 gl_x193 ex195 qe_x201 g_x201 ex202) (i32pos (qm277 r_x12 r_kv13 wh_x12 c14 c26 r_x35 c36 c46 c54 r_x64 q_x64 wh_x64 g_x67 g_x70 c71 c80 c93 g_x95 r_kv96 gl_x95 dr_x99 c100 dr_x102 lr_x102 ex103 g_x106 ex108 dv_x108 dw_x108 c110 i1u115 c132 r_x181 hh_x181 ex182 dv_x182 r_x185 c186 c191 g_x193 gl_x193 ex195 qe_x201 g_x201 ex202))
                              have dw_x202 : (1 : Int32) ≤ x202 := by rw [ex202]; exact dv1 (qm278 r_x12 r_kv13 wh_x12 c14 c26 r_x35 c36 c46 c54 r_x64 q_x64 wh_x64 g_x67 g_x70 c71 c80 c93 g_x95 r_kv96 gl_x95 dr_x99 c100 dr_x102 lr_x102 ex103 g_x106 ex108 dv_x108 dw_x108 c110 i1u115 c132 r_x181 hh_x181 ex182 dv_x182 r_x185 c186 c191 g_x193 gl_x193 ex195 qe_x201 g_x201 ex202) (qm279 r_x12 r_kv13 wh_x12 c14 c26 r_x35 c36 c46 c54 r_x64 q_x64 wh_x64 g_x67 g_x70 c71 c80 c93 g_x95 r_kv96 gl_x95 dr_x99 c100 dr_x102 lr_x102 ex103 g_x106 ex108 dv_x108 dw_x108 c110 i1u115 c132 r_x181 hh_x181 ex182 dv_x182 r_x185 c186 c191 g_x193 gl_x193 ex195 qe_x201 g_x201 ex202)
                              intro _
                              refine ⟨o_a98, ?_⟩
                              intro x204 ex204
                              have i205 : vp_in (1 : Int32) (hN _ a98) := (vin l_a98 (m := 7) (by decide) (qm280 r_x12 r_kv13 wh_x12 c14 c26 r_x35 c36 c46 c54 r_x64 q_x64 wh_x64 g_x67 g_x70 c71 c80 c93 g_x95 r_kv96 gl_x95 dr_x99 c100 dr_x102 lr_x102 ex103 g_x106 ex108 dv_x108 dw_x108 c110 i1u115 c132 r_x181 hh_x181 ex182 dv_x182 r_x185 c186 c191 g_x193 gl_x193 ex195 qe_x201 g_x201 ex202 dv_x202 dw_x202 ex204))
                              refine ⟨i205, ?_⟩
                              intro S206 eS206
                              have hIn : IV S206 := by rw [eS206]; exact iv11_aD hI (de_1 (by rw [ex204]; exact i2l_rng (lo := 0) (hi := 999) (qm281 r_x12 r_kv13 wh_x12 c14 c26 r_x35 c36 c46 c54 r_x64 q_x64 wh_x64 g_x67 g_x70 c71 c80 c93 g_x95 r_kv96 gl_x95 dr_x99 c100 dr_x102 lr_x102 ex103 g_x106 ex108 dv_x108 dw_x108 c110 i1u115 c132 r_x181 hh_x181 ex182 dv_x182 r_x185 c186 c191 g_x193 gl_x193 ex195 qe_x201 g_x201 ex202 dv_x202 dw_x202 ex204)))
                              have el107 := el_J eS206 el107
                              have hI := hIn
                              have f0 := fr_J eS206 f0
                              have d_kv2 := rd_J eS206 d_kv2
                              have d_x64 := rd_J eS206 d_x64
                              have d_kv13 := rd_J eS206 d_kv13
                              have d_x35 := rd_J eS206 d_x35
                              have d_kv96 := rd_J eS206 d_kv96
                              have d_x181 := rd_J eS206 d_x181
                              have d_x185 := rd_J eS206 d_x185
                              have ea3 := rf_J eS206 ea3
                              have ea66 := rf_J eS206 ea66
                              have ea69 := rf_J eS206 ea69
                              have ea94 := rf_J eS206 ea94
                              have ea98 := rf_J eS206 ea98
                              have ea105 := rf_J eS206 ea105
                              have ea192 := rf_J eS206 ea192
                              have l_a105 := ln_J eS206 l_a105
                              have l_a192 := ln_J eS206 l_a192
                              have l_a66 := ln_J eS206 l_a66
                              have l_a69 := ln_J eS206 l_a69
                              have l_a94 := ln_J eS206 l_a94
                              have l_a98 := ln_J eS206 l_a98
                              have g0 := gr_J eS206 g0
                              have o_a105 := ob_J eS206 o_a105
                              have o_a192 := ob_J eS206 o_a192
                              have o_a3 := ob_J eS206 o_a3
                              have o_a66 := ob_J eS206 o_a66
                              have o_a69 := ob_J eS206 o_a69
                              have o_a94 := ob_J eS206 o_a94
                              have o_a98 := ob_J eS206 o_a98
                              have o_v0 := ob_J eS206 o_v0
                              refine ⟨a98, ea98, ?_⟩
                              refine ⟨o_a98, ?_⟩
                              refine ⟨(vin l_a98 (m := 7) (by decide) (qm280 r_x12 r_kv13 wh_x12 c14 c26 r_x35 c36 c46 c54 r_x64 q_x64 wh_x64 g_x67 g_x70 c71 c80 c93 g_x95 r_kv96 gl_x95 dr_x99 c100 dr_x102 lr_x102 ex103 g_x106 ex108 dv_x108 dw_x108 c110 i1u115 c132 r_x181 hh_x181 ex182 dv_x182 r_x185 c186 c191 g_x193 gl_x193 ex195 qe_x201 g_x201 ex202 dv_x202 dw_x202 ex204)), ?_⟩
                              intro x208 ex208
                              have de_x208 := ml_de hI o_v0 (j := 21) (by decide) ea98 (1 : Int32).toNatClampNeg
                              rw [← ex208] at de_x208
                              have dr_x208 : (0 : Int64) ≤ x208 ∧ x208 ≤ (999 : Int64) := de_x208.2 (by decide)
                              have lr_x208 : 0 ≤ x208.toInt32 ∧ x208.toInt32 ≤ (999 : Int32) := l2i_rng (by decide) dr_x208
                              refine u_X11_good ?_
                              refine u_X11_good_0 ?_
                              refine ⟨o_v0, ?_⟩
                              intro S209 eS209
                              have hIn : IV S209 := by rw [eS209]; exact iv11_sI hI o_v0 (by decide) (nu_free (by decide))
                              have el107 := el_ob eS209 o_v0 o_a105 (by decide) el107
                              have hI := hIn
                              have f0 := fr_I eS209 g0 f0 o_v0 (by decide)
                              have d_kv2 := rd_Ij eS209 (by decide) d_kv2
                              have d_x64 := rd_Ij eS209 (by decide) d_x64
                              have d_kv13 := rd_Ik eS209 o_v0 o_a3 (by decide) d_kv13
                              have d_x35 := rd_Ik eS209 o_v0 o_a3 (by decide) d_x35
                              have d_kv96 := rd_Ik eS209 o_v0 o_a3 (by decide) d_kv96
                              have d_x181 := rd_Ik eS209 o_v0 o_a3 (by decide) d_x181
                              have d_x185 := rd_Ik eS209 o_v0 o_a3 (by decide) d_x185
                              obtain ⟨kv210, hkv210⟩ : ∃ z : Int32, z = (0 : Int32) := ⟨_, rfl⟩
                              have d_kv210 := rd_Is eS209 hkv210
                              have ea3 := rf_I eS209 ea3
                              have ea66 := rf_I eS209 ea66
                              have ea69 := rf_I eS209 ea69
                              have ea94 := rf_I eS209 ea94
                              have ea98 := rf_I eS209 ea98
                              have ea105 := rf_I eS209 ea105
                              have ea192 := rf_I eS209 ea192
                              have l_a105 := ln_I eS209 l_a105
                              have l_a192 := ln_I eS209 l_a192
                              have l_a66 := ln_I eS209 l_a66
                              have l_a69 := ln_I eS209 l_a69
                              have l_a94 := ln_I eS209 l_a94
                              have l_a98 := ln_I eS209 l_a98
                              have g0 := gr_I eS209 g0
                              have o_a105 := ob_I eS209 o_a105
                              have o_a192 := ob_I eS209 o_a192
                              have o_a3 := ob_I eS209 o_a3
                              have o_a66 := ob_I eS209 o_a66
                              have o_a69 := ob_I eS209 o_a69
                              have o_a94 := ob_I eS209 o_a94
                              have o_a98 := ob_I eS209 o_a98
                              have o_v0 := ob_I eS209 o_v0
                              intro S211 eS211
                              have hIn : IV S211 := by rw [eS211]; exact iv11_sI hI o_v0 (by decide) (nu_free (by decide))
                              have el107 := el_ob eS211 o_v0 o_a105 (by decide) el107
                              have hI := hIn
                              have f0 := fr_I eS211 g0 f0 o_v0 (by decide)
                              have d_kv2 := rd_Ij eS211 (by decide) d_kv2
                              have d_x64 := rd_Ij eS211 (by decide) d_x64
                              have d_kv13 := rd_Ik eS211 o_v0 o_a3 (by decide) d_kv13
                              have d_x35 := rd_Ik eS211 o_v0 o_a3 (by decide) d_x35
                              have d_kv96 := rd_Ik eS211 o_v0 o_a3 (by decide) d_kv96
                              have d_x181 := rd_Ik eS211 o_v0 o_a3 (by decide) d_x181
                              have d_x185 := rd_Ik eS211 o_v0 o_a3 (by decide) d_x185
                              have d_kv210 := rd_Ij eS211 (by decide) d_kv210
                              obtain ⟨kv212, hkv212⟩ : ∃ z : Int32, z = (-1 : Int32) := ⟨_, rfl⟩
                              have d_kv212 := rd_Is eS211 hkv212
                              have ea3 := rf_I eS211 ea3
                              have ea66 := rf_I eS211 ea66
                              have ea69 := rf_I eS211 ea69
                              have ea94 := rf_I eS211 ea94
                              have ea98 := rf_I eS211 ea98
                              have ea105 := rf_I eS211 ea105
                              have ea192 := rf_I eS211 ea192
                              have l_a105 := ln_I eS211 l_a105
                              have l_a192 := ln_I eS211 l_a192
                              have l_a66 := ln_I eS211 l_a66
                              have l_a69 := ln_I eS211 l_a69
                              have l_a94 := ln_I eS211 l_a94
                              have l_a98 := ln_I eS211 l_a98
                              have g0 := gr_I eS211 g0
                              have o_a105 := ob_I eS211 o_a105
                              have o_a192 := ob_I eS211 o_a192
                              have o_a3 := ob_I eS211 o_a3
                              have o_a66 := ob_I eS211 o_a66
                              have o_a69 := ob_I eS211 o_a69
                              have o_a94 := ob_I eS211 o_a94
                              have o_a98 := ob_I eS211 o_a98
                              have o_v0 := ob_I eS211 o_v0
                              intro _
                              exact hq _ _ hI g0 f0
                            · refine ⟨o_a3, ?_⟩
                              refine ⟨a94, ea94, ?_⟩
                              refine ⟨o_a94, ?_⟩
                              refine ⟨(vin l_a94 (m := 12) (by decide) (qm282 r_x12 r_kv13 wh_x12 c14 c26 r_x35 c36 c46 c54 r_x64 q_x64 wh_x64 g_x67 g_x70 c71 c80 c93 g_x95 r_kv96 gl_x95 dr_x99 c100 dr_x102 lr_x102 ex103 g_x106 ex108 dv_x108 dw_x108 c110 i1u115 c132 r_x181 hh_x181 ex182 dv_x182 r_x185 c186 c191)), ?_⟩
                              intro x215 ex215
                              have gy_x215 : 0 ≤ v1 ∧ v1 < fI S116 a3 3 := by rw [← d_x35]; exact (qm283 r_x12 r_kv13 wh_x12 c14 c26 r_x35 c36 c46 c54 r_x64 q_x64 wh_x64 g_x67 g_x70 c71 c80 c93 g_x95 r_kv96 gl_x95 dr_x99 c100 dr_x102 lr_x102 ex103 g_x106 ex108 dv_x108 dw_x108 c110 i1u115 c132 r_x181 hh_x181 ex182 dv_x182 r_x185 c186 c191)
                              have g_x215 : (0 : Int32) ≤ x215 ∧ x215 ≤ (7 : Int32) := by rw [ex215]; exact wg_at (ml_wg hI o_v0 ea3) 1 rfl gy_x215 ea94
                              have gl_x215 : x215 < kv96 := by rw [ex215, d_kv96]; exact wg_lt (ml_wg hI o_v0 ea3) 1 rfl (by decide) gy_x215 ea94
                              intro _
                              refine ⟨o_a98, ?_⟩
                              intro x217 ex217
                              have i218 : vp_in (0 : Int32) (hN _ a98) := (vin l_a98 (m := 7) (by decide) (qm284 r_x12 r_kv13 wh_x12 c14 c26 r_x35 c36 c46 c54 r_x64 q_x64 wh_x64 g_x67 g_x70 c71 c80 c93 g_x95 r_kv96 gl_x95 dr_x99 c100 dr_x102 lr_x102 ex103 g_x106 ex108 dv_x108 dw_x108 c110 i1u115 c132 r_x181 hh_x181 ex182 dv_x182 r_x185 c186 c191 g_x215 gl_x215 ex217))
                              refine ⟨i218, ?_⟩
                              intro S219 eS219
                              have hIn : IV S219 := by rw [eS219]; exact iv11_aD hI (de_0 (by rw [ex217]; exact i2l_rng (lo := 0) (hi := 7) (qm285 r_x12 r_kv13 wh_x12 c14 c26 r_x35 c36 c46 c54 r_x64 q_x64 wh_x64 g_x67 g_x70 c71 c80 c93 g_x95 r_kv96 gl_x95 dr_x99 c100 dr_x102 lr_x102 ex103 g_x106 ex108 dv_x108 dw_x108 c110 i1u115 c132 r_x181 hh_x181 ex182 dv_x182 r_x185 c186 c191 g_x215 gl_x215 ex217)))
                              have el107 := el_J eS219 el107
                              have hI := hIn
                              have f0 := fr_J eS219 f0
                              have d_kv2 := rd_J eS219 d_kv2
                              have d_x64 := rd_J eS219 d_x64
                              have d_kv13 := rd_J eS219 d_kv13
                              have d_x35 := rd_J eS219 d_x35
                              have d_kv96 := rd_J eS219 d_kv96
                              have d_x181 := rd_J eS219 d_x181
                              have d_x185 := rd_J eS219 d_x185
                              have ea3 := rf_J eS219 ea3
                              have ea66 := rf_J eS219 ea66
                              have ea69 := rf_J eS219 ea69
                              have ea94 := rf_J eS219 ea94
                              have ea98 := rf_J eS219 ea98
                              have ea105 := rf_J eS219 ea105
                              have l_a105 := ln_J eS219 l_a105
                              have l_a66 := ln_J eS219 l_a66
                              have l_a69 := ln_J eS219 l_a69
                              have l_a94 := ln_J eS219 l_a94
                              have l_a98 := ln_J eS219 l_a98
                              have g0 := gr_J eS219 g0
                              have o_a105 := ob_J eS219 o_a105
                              have o_a3 := ob_J eS219 o_a3
                              have o_a66 := ob_J eS219 o_a66
                              have o_a69 := ob_J eS219 o_a69
                              have o_a94 := ob_J eS219 o_a94
                              have o_a98 := ob_J eS219 o_a98
                              have o_v0 := ob_J eS219 o_v0
                              refine ⟨a98, ea98, ?_⟩
                              refine ⟨a3, ea3, ?_⟩
                              refine ⟨o_a3, ?_⟩
                              refine u_X10_minutes ?_
                              refine u_X10_minutes_0 ?_
                              refine ⟨o_a3, ?_⟩
                              refine ⟨a105, ea105, ?_⟩
                              refine ⟨o_a105, ?_⟩
                              refine ⟨(vin l_a105 (m := 12) (by decide) (qm286 r_x12 r_kv13 wh_x12 c14 c26 r_x35 c36 c46 c54 r_x64 q_x64 wh_x64 g_x67 g_x70 c71 c80 c93 g_x95 r_kv96 gl_x95 dr_x99 c100 dr_x102 lr_x102 ex103 g_x106 ex108 dv_x108 dw_x108 c110 i1u115 c132 r_x181 hh_x181 ex182 dv_x182 r_x185 c186 c191 g_x215 gl_x215 ex217)), ?_⟩
                              intro x223 ex223
                              have qe_x223 : x223 = x106 := ex223.trans el107
                              have gy_x223 : 0 ≤ v1 ∧ v1 < fI S219 a3 3 := by rw [← d_x35]; exact (qm287 r_x12 r_kv13 wh_x12 c14 c26 r_x35 c36 c46 c54 r_x64 q_x64 wh_x64 g_x67 g_x70 c71 c80 c93 g_x95 r_kv96 gl_x95 dr_x99 c100 dr_x102 lr_x102 ex103 g_x106 ex108 dv_x108 dw_x108 c110 i1u115 c132 r_x181 hh_x181 ex182 dv_x182 r_x185 c186 c191 g_x215 gl_x215 ex217 qe_x223)
                              have g_x223 : (1 : Int32) ≤ x223 ∧ x223 ≤ (60 : Int32) := by rw [ex223]; exact wg_at (ml_wg hI o_v0 ea3) 2 rfl gy_x223 ea105
                              refine ⟨(qm288 r_x12 r_kv13 wh_x12 c14 c26 r_x35 c36 c46 c54 r_x64 q_x64 wh_x64 g_x67 g_x70 c71 c80 c93 g_x95 r_kv96 gl_x95 dr_x99 c100 dr_x102 lr_x102 ex103 g_x106 ex108 dv_x108 dw_x108 c110 i1u115 c132 r_x181 hh_x181 ex182 dv_x182 r_x185 c186 c191 g_x215 gl_x215 ex217 qe_x223 g_x223), ?_⟩
                              intro x224 ex224
                              have dv_x224 : 0 ≤ x224 ∧ x224 ≤ ((x223 + v3) - (1 : Int32)) := by rw [ex224]; exact dv0 (qm289 r_x12 r_kv13 wh_x12 c14 c26 r_x35 c36 c46 c54 r_x64 q_x64 wh_x64 g_x67 g_x70 c71 c80 c93 g_x95 r_kv96 gl_x95 dr_x99 c100 dr_x102 lr_x102 ex103 g_x106 ex108 dv_x108 dw_x108 c110 i1u115 c132 r_x181 hh_x181 ex182 dv_x182 r_x185 c186 c191 g_x215 gl_x215 ex217 qe_x223 g_x223 ex224) (i32pos (qm290 r_x12 r_kv13 wh_x12 c14 c26 r_x35 c36 c46 c54 r_x64 q_x64 wh_x64 g_x67 g_x70 c71 c80 c93 g_x95 r_kv96 gl_x95 dr_x99 c100 dr_x102 lr_x102 ex103 g_x106 ex108 dv_x108 dw_x108 c110 i1u115 c132 r_x181 hh_x181 ex182 dv_x182 r_x185 c186 c191 g_x215 gl_x215 ex217 qe_x223 g_x223 ex224))
                              have dw_x224 : (1 : Int32) ≤ x224 := by rw [ex224]; exact dv1 (qm291 r_x12 r_kv13 wh_x12 c14 c26 r_x35 c36 c46 c54 r_x64 q_x64 wh_x64 g_x67 g_x70 c71 c80 c93 g_x95 r_kv96 gl_x95 dr_x99 c100 dr_x102 lr_x102 ex103 g_x106 ex108 dv_x108 dw_x108 c110 i1u115 c132 r_x181 hh_x181 ex182 dv_x182 r_x185 c186 c191 g_x215 gl_x215 ex217 qe_x223 g_x223 ex224) (qm292 r_x12 r_kv13 wh_x12 c14 c26 r_x35 c36 c46 c54 r_x64 q_x64 wh_x64 g_x67 g_x70 c71 c80 c93 g_x95 r_kv96 gl_x95 dr_x99 c100 dr_x102 lr_x102 ex103 g_x106 ex108 dv_x108 dw_x108 c110 i1u115 c132 r_x181 hh_x181 ex182 dv_x182 r_x185 c186 c191 g_x215 gl_x215 ex217 qe_x223 g_x223 ex224)
                              intro _
                              refine ⟨o_a98, ?_⟩
                              intro x226 ex226
                              have i227 : vp_in (1 : Int32) (hN _ a98) := (vin l_a98 (m := 7) (by decide) (qm293 r_x12 r_kv13 wh_x12 c14 c26 r_x35 c36 c46 c54 r_x64 q_x64 wh_x64 g_x67 g_x70 c71 c80 c93 g_x95 r_kv96 gl_x95 dr_x99 c100 dr_x102 lr_x102 ex103 g_x106 ex108 dv_x108 dw_x108 c110 i1u115 c132 r_x181 hh_x181 ex182 dv_x182 r_x185 c186 c191 g_x215 gl_x215 ex217 qe_x223 g_x223 ex224 dv_x224 dw_x224 ex226))
                              refine ⟨i227, ?_⟩
                              intro S228 eS228
                              have hIn : IV S228 := by rw [eS228]; exact iv11_aD hI (de_1 (by rw [ex226]; exact i2l_rng (lo := 0) (hi := 999) (qm294 r_x12 r_kv13 wh_x12 c14 c26 r_x35 c36 c46 c54 r_x64 q_x64 wh_x64 g_x67 g_x70 c71 c80 c93 g_x95 r_kv96 gl_x95 dr_x99 c100 dr_x102 lr_x102 ex103 g_x106 ex108 dv_x108 dw_x108 c110 i1u115 c132 r_x181 hh_x181 ex182 dv_x182 r_x185 c186 c191 g_x215 gl_x215 ex217 qe_x223 g_x223 ex224 dv_x224 dw_x224 ex226)))
                              have el107 := el_J eS228 el107
                              have hI := hIn
                              have f0 := fr_J eS228 f0
                              have d_kv2 := rd_J eS228 d_kv2
                              have d_x64 := rd_J eS228 d_x64
                              have d_kv13 := rd_J eS228 d_kv13
                              have d_x35 := rd_J eS228 d_x35
                              have d_kv96 := rd_J eS228 d_kv96
                              have d_x181 := rd_J eS228 d_x181
                              have d_x185 := rd_J eS228 d_x185
                              have ea3 := rf_J eS228 ea3
                              have ea66 := rf_J eS228 ea66
                              have ea69 := rf_J eS228 ea69
                              have ea94 := rf_J eS228 ea94
                              have ea98 := rf_J eS228 ea98
                              have ea105 := rf_J eS228 ea105
                              have l_a105 := ln_J eS228 l_a105
                              have l_a66 := ln_J eS228 l_a66
                              have l_a69 := ln_J eS228 l_a69
                              have l_a94 := ln_J eS228 l_a94
                              have l_a98 := ln_J eS228 l_a98
                              have g0 := gr_J eS228 g0
                              have o_a105 := ob_J eS228 o_a105
                              have o_a3 := ob_J eS228 o_a3
                              have o_a66 := ob_J eS228 o_a66
                              have o_a69 := ob_J eS228 o_a69
                              have o_a94 := ob_J eS228 o_a94
                              have o_a98 := ob_J eS228 o_a98
                              have o_v0 := ob_J eS228 o_v0
                              refine ⟨a98, ea98, ?_⟩
                              refine ⟨o_a98, ?_⟩
                              refine ⟨(vin l_a98 (m := 7) (by decide) (qm293 r_x12 r_kv13 wh_x12 c14 c26 r_x35 c36 c46 c54 r_x64 q_x64 wh_x64 g_x67 g_x70 c71 c80 c93 g_x95 r_kv96 gl_x95 dr_x99 c100 dr_x102 lr_x102 ex103 g_x106 ex108 dv_x108 dw_x108 c110 i1u115 c132 r_x181 hh_x181 ex182 dv_x182 r_x185 c186 c191 g_x215 gl_x215 ex217 qe_x223 g_x223 ex224 dv_x224 dw_x224 ex226)), ?_⟩
                              intro x230 ex230
                              have de_x230 := ml_de hI o_v0 (j := 21) (by decide) ea98 (1 : Int32).toNatClampNeg
                              rw [← ex230] at de_x230
                              have dr_x230 : (0 : Int64) ≤ x230 ∧ x230 ≤ (999 : Int64) := de_x230.2 (by decide)
                              have lr_x230 : 0 ≤ x230.toInt32 ∧ x230.toInt32 ≤ (999 : Int32) := l2i_rng (by decide) dr_x230
                              refine u_X11_good ?_
                              refine u_X11_good_0 ?_
                              refine ⟨o_v0, ?_⟩
                              intro S231 eS231
                              have hIn : IV S231 := by rw [eS231]; exact iv11_sI hI o_v0 (by decide) (nu_free (by decide))
                              have el107 := el_ob eS231 o_v0 o_a105 (by decide) el107
                              have hI := hIn
                              have f0 := fr_I eS231 g0 f0 o_v0 (by decide)
                              have d_kv2 := rd_Ij eS231 (by decide) d_kv2
                              have d_x64 := rd_Ij eS231 (by decide) d_x64
                              have d_kv13 := rd_Ik eS231 o_v0 o_a3 (by decide) d_kv13
                              have d_x35 := rd_Ik eS231 o_v0 o_a3 (by decide) d_x35
                              have d_kv96 := rd_Ik eS231 o_v0 o_a3 (by decide) d_kv96
                              have d_x181 := rd_Ik eS231 o_v0 o_a3 (by decide) d_x181
                              have d_x185 := rd_Ik eS231 o_v0 o_a3 (by decide) d_x185
                              obtain ⟨kv232, hkv232⟩ : ∃ z : Int32, z = (0 : Int32) := ⟨_, rfl⟩
                              have d_kv232 := rd_Is eS231 hkv232
                              have ea3 := rf_I eS231 ea3
                              have ea66 := rf_I eS231 ea66
                              have ea69 := rf_I eS231 ea69
                              have ea94 := rf_I eS231 ea94
                              have ea98 := rf_I eS231 ea98
                              have ea105 := rf_I eS231 ea105
                              have l_a105 := ln_I eS231 l_a105
                              have l_a66 := ln_I eS231 l_a66
                              have l_a69 := ln_I eS231 l_a69
                              have l_a94 := ln_I eS231 l_a94
                              have l_a98 := ln_I eS231 l_a98
                              have g0 := gr_I eS231 g0
                              have o_a105 := ob_I eS231 o_a105
                              have o_a3 := ob_I eS231 o_a3
                              have o_a66 := ob_I eS231 o_a66
                              have o_a69 := ob_I eS231 o_a69
                              have o_a94 := ob_I eS231 o_a94
                              have o_a98 := ob_I eS231 o_a98
                              have o_v0 := ob_I eS231 o_v0
                              intro S233 eS233
                              have hIn : IV S233 := by rw [eS233]; exact iv11_sI hI o_v0 (by decide) (nu_free (by decide))
                              have el107 := el_ob eS233 o_v0 o_a105 (by decide) el107
                              have hI := hIn
                              have f0 := fr_I eS233 g0 f0 o_v0 (by decide)
                              have d_kv2 := rd_Ij eS233 (by decide) d_kv2
                              have d_x64 := rd_Ij eS233 (by decide) d_x64
                              have d_kv13 := rd_Ik eS233 o_v0 o_a3 (by decide) d_kv13
                              have d_x35 := rd_Ik eS233 o_v0 o_a3 (by decide) d_x35
                              have d_kv96 := rd_Ik eS233 o_v0 o_a3 (by decide) d_kv96
                              have d_x181 := rd_Ik eS233 o_v0 o_a3 (by decide) d_x181
                              have d_x185 := rd_Ik eS233 o_v0 o_a3 (by decide) d_x185
                              have d_kv232 := rd_Ij eS233 (by decide) d_kv232
                              obtain ⟨kv234, hkv234⟩ : ∃ z : Int32, z = (-1 : Int32) := ⟨_, rfl⟩
                              have d_kv234 := rd_Is eS233 hkv234
                              have ea3 := rf_I eS233 ea3
                              have ea66 := rf_I eS233 ea66
                              have ea69 := rf_I eS233 ea69
                              have ea94 := rf_I eS233 ea94
                              have ea98 := rf_I eS233 ea98
                              have ea105 := rf_I eS233 ea105
                              have l_a105 := ln_I eS233 l_a105
                              have l_a66 := ln_I eS233 l_a66
                              have l_a69 := ln_I eS233 l_a69
                              have l_a94 := ln_I eS233 l_a94
                              have l_a98 := ln_I eS233 l_a98
                              have g0 := gr_I eS233 g0
                              have o_a105 := ob_I eS233 o_a105
                              have o_a3 := ob_I eS233 o_a3
                              have o_a66 := ob_I eS233 o_a66
                              have o_a69 := ob_I eS233 o_a69
                              have o_a94 := ob_I eS233 o_a94
                              have o_a98 := ob_I eS233 o_a98
                              have o_v0 := ob_I eS233 o_v0
                              intro _
                              exact hq _ _ hI g0 f0
                          · intro x236 ex236
                            have d_x236 := ex236
                            refine ⟨fun c237 => ?_, fun c237 => ?_⟩
                            · intro _ _
                              refine ⟨fun c239 => ?_, fun c239 => absurd (show ¬ (0 : Int32) = 0 from c239) (by decide)⟩
                              refine u_X11_go_171 ?_
                              refine ⟨o_v0, ?_⟩
                              refine ⟨a98, ea98, ?_⟩
                              refine ⟨a3, ea3, ?_⟩
                              refine ⟨o_a3, ?_⟩
                              refine u_X10_ends ?_
                              refine u_X10_ends_0 ?_
                              refine ⟨fun c242 => ?_, fun c242 => ?_⟩
                              · refine ⟨o_a3, ?_⟩
                                obtain ⟨a243, ea243, o_a243, l_a243⟩ := shl 35 rfl hI o_a3
                                refine ⟨a243, ea243, ?_⟩
                                refine ⟨o_a243, ?_⟩
                                refine ⟨(vin l_a243 (m := 12) (by decide) (qm295 r_x12 r_kv13 wh_x12 c14 c26 r_x35 c36 c46 c54 r_x64 q_x64 wh_x64 g_x67 g_x70 c71 c80 c93 g_x95 r_kv96 gl_x95 dr_x99 c100 dr_x102 lr_x102 ex103 g_x106 ex108 dv_x108 dw_x108 c110 i1u115 c132 r_x181 hh_x181 ex182 dv_x182 r_x185 c186 c237 c242)), ?_⟩
                                intro x244 ex244
                                have gy_x244 : 0 ≤ v1 ∧ v1 < fI S116 a3 3 := by rw [← d_x35]; exact (qm296 r_x12 r_kv13 wh_x12 c14 c26 r_x35 c36 c46 c54 r_x64 q_x64 wh_x64 g_x67 g_x70 c71 c80 c93 g_x95 r_kv96 gl_x95 dr_x99 c100 dr_x102 lr_x102 ex103 g_x106 ex108 dv_x108 dw_x108 c110 i1u115 c132 r_x181 hh_x181 ex182 dv_x182 r_x185 c186 c237 c242)
                                have g_x244 : (0 : Int32) ≤ x244 ∧ x244 ≤ (7 : Int32) := by rw [ex244]; exact wg_at (ml_wg hI o_v0 ea3) 0 rfl gy_x244 ea243
                                have gl_x244 : x244 < kv96 := by rw [ex244, d_kv96]; exact wg_lt (ml_wg hI o_v0 ea3) 0 rfl (by decide) gy_x244 ea243
                                intro _
                                refine ⟨o_a98, ?_⟩
                                intro x246 ex246
                                have i247 : vp_in (0 : Int32) (hN _ a98) := (vin l_a98 (m := 7) (by decide) (qm297 r_x12 r_kv13 wh_x12 c14 c26 r_x35 c36 c46 c54 r_x64 q_x64 wh_x64 g_x67 g_x70 c71 c80 c93 g_x95 r_kv96 gl_x95 dr_x99 c100 dr_x102 lr_x102 ex103 g_x106 ex108 dv_x108 dw_x108 c110 i1u115 c132 r_x181 hh_x181 ex182 dv_x182 r_x185 c186 c237 c242 g_x244 gl_x244 ex246))
                                refine ⟨i247, ?_⟩
                                intro S248 eS248
                                have hIn : IV S248 := by rw [eS248]; exact iv11_aD hI (de_0 (by rw [ex246]; exact i2l_rng (lo := 0) (hi := 7) (qm298 r_x12 r_kv13 wh_x12 c14 c26 r_x35 c36 c46 c54 r_x64 q_x64 wh_x64 g_x67 g_x70 c71 c80 c93 g_x95 r_kv96 gl_x95 dr_x99 c100 dr_x102 lr_x102 ex103 g_x106 ex108 dv_x108 dw_x108 c110 i1u115 c132 r_x181 hh_x181 ex182 dv_x182 r_x185 c186 c237 c242 g_x244 gl_x244 ex246)))
                                have el107 := el_J eS248 el107
                                have hI := hIn
                                have f0 := fr_J eS248 f0
                                have d_kv2 := rd_J eS248 d_kv2
                                have d_x64 := rd_J eS248 d_x64
                                have d_kv13 := rd_J eS248 d_kv13
                                have d_x35 := rd_J eS248 d_x35
                                have d_kv96 := rd_J eS248 d_kv96
                                have d_x181 := rd_J eS248 d_x181
                                have d_x185 := rd_J eS248 d_x185
                                have d_x236 := rd_J eS248 d_x236
                                have ea3 := rf_J eS248 ea3
                                have ea66 := rf_J eS248 ea66
                                have ea69 := rf_J eS248 ea69
                                have ea94 := rf_J eS248 ea94
                                have ea98 := rf_J eS248 ea98
                                have ea105 := rf_J eS248 ea105
                                have ea243 := rf_J eS248 ea243
                                have l_a105 := ln_J eS248 l_a105
                                have l_a243 := ln_J eS248 l_a243
                                have l_a66 := ln_J eS248 l_a66
                                have l_a69 := ln_J eS248 l_a69
                                have l_a94 := ln_J eS248 l_a94
                                have l_a98 := ln_J eS248 l_a98
                                have g0 := gr_J eS248 g0
                                have o_a105 := ob_J eS248 o_a105
                                have o_a243 := ob_J eS248 o_a243
                                have o_a3 := ob_J eS248 o_a3
                                have o_a66 := ob_J eS248 o_a66
                                have o_a69 := ob_J eS248 o_a69
                                have o_a94 := ob_J eS248 o_a94
                                have o_a98 := ob_J eS248 o_a98
                                have o_v0 := ob_J eS248 o_v0
                                refine ⟨a98, ea98, ?_⟩
                                refine ⟨a3, ea3, ?_⟩
                                refine ⟨o_a3, ?_⟩
                                refine u_X10_minutes ?_
                                refine u_X10_minutes_0 ?_
                                refine ⟨o_a3, ?_⟩
                                refine ⟨a105, ea105, ?_⟩
                                refine ⟨o_a105, ?_⟩
                                refine ⟨(vin l_a105 (m := 12) (by decide) (qm299 r_x12 r_kv13 wh_x12 c14 c26 r_x35 c36 c46 c54 r_x64 q_x64 wh_x64 g_x67 g_x70 c71 c80 c93 g_x95 r_kv96 gl_x95 dr_x99 c100 dr_x102 lr_x102 ex103 g_x106 ex108 dv_x108 dw_x108 c110 i1u115 c132 r_x181 hh_x181 ex182 dv_x182 r_x185 c186 c237 c242 g_x244 gl_x244 ex246)), ?_⟩
                                intro x252 ex252
                                have qe_x252 : x252 = x106 := ex252.trans el107
                                have gy_x252 : 0 ≤ v1 ∧ v1 < fI S248 a3 3 := by rw [← d_x35]; exact (qm300 r_x12 r_kv13 wh_x12 c14 c26 r_x35 c36 c46 c54 r_x64 q_x64 wh_x64 g_x67 g_x70 c71 c80 c93 g_x95 r_kv96 gl_x95 dr_x99 c100 dr_x102 lr_x102 ex103 g_x106 ex108 dv_x108 dw_x108 c110 i1u115 c132 r_x181 hh_x181 ex182 dv_x182 r_x185 c186 c237 c242 g_x244 gl_x244 ex246 qe_x252)
                                have g_x252 : (1 : Int32) ≤ x252 ∧ x252 ≤ (60 : Int32) := by rw [ex252]; exact wg_at (ml_wg hI o_v0 ea3) 2 rfl gy_x252 ea105
                                refine ⟨(qm301 r_x12 r_kv13 wh_x12 c14 c26 r_x35 c36 c46 c54 r_x64 q_x64 wh_x64 g_x67 g_x70 c71 c80 c93 g_x95 r_kv96 gl_x95 dr_x99 c100 dr_x102 lr_x102 ex103 g_x106 ex108 dv_x108 dw_x108 c110 i1u115 c132 r_x181 hh_x181 ex182 dv_x182 r_x185 c186 c237 c242 g_x244 gl_x244 ex246 qe_x252 g_x252), ?_⟩
                                intro x253 ex253
                                have dv_x253 : 0 ≤ x253 ∧ x253 ≤ ((x252 + v3) - (1 : Int32)) := by rw [ex253]; exact dv0 (qm302 r_x12 r_kv13 wh_x12 c14 c26 r_x35 c36 c46 c54 r_x64 q_x64 wh_x64 g_x67 g_x70 c71 c80 c93 g_x95 r_kv96 gl_x95 dr_x99 c100 dr_x102 lr_x102 ex103 g_x106 ex108 dv_x108 dw_x108 c110 i1u115 c132 r_x181 hh_x181 ex182 dv_x182 r_x185 c186 c237 c242 g_x244 gl_x244 ex246 qe_x252 g_x252 ex253) (i32pos (qm303 r_x12 r_kv13 wh_x12 c14 c26 r_x35 c36 c46 c54 r_x64 q_x64 wh_x64 g_x67 g_x70 c71 c80 c93 g_x95 r_kv96 gl_x95 dr_x99 c100 dr_x102 lr_x102 ex103 g_x106 ex108 dv_x108 dw_x108 c110 i1u115 c132 r_x181 hh_x181 ex182 dv_x182 r_x185 c186 c237 c242 g_x244 gl_x244 ex246 qe_x252 g_x252 ex253))
                                have dw_x253 : (1 : Int32) ≤ x253 := by rw [ex253]; exact dv1 (qm304 r_x12 r_kv13 wh_x12 c14 c26 r_x35 c36 c46 c54 r_x64 q_x64 wh_x64 g_x67 g_x70 c71 c80 c93 g_x95 r_kv96 gl_x95 dr_x99 c100 dr_x102 lr_x102 ex103 g_x106 ex108 dv_x108 dw_x108 c110 i1u115 c132 r_x181 hh_x181 ex182 dv_x182 r_x185 c186 c237 c242 g_x244 gl_x244 ex246 qe_x252 g_x252 ex253) (qm305 r_x12 r_kv13 wh_x12 c14 c26 r_x35 c36 c46 c54 r_x64 q_x64 wh_x64 g_x67 g_x70 c71 c80 c93 g_x95 r_kv96 gl_x95 dr_x99 c100 dr_x102 lr_x102 ex103 g_x106 ex108 dv_x108 dw_x108 c110 i1u115 c132 r_x181 hh_x181 ex182 dv_x182 r_x185 c186 c237 c242 g_x244 gl_x244 ex246 qe_x252 g_x252 ex253)
                                intro _
                                refine ⟨o_a98, ?_⟩
                                intro x255 ex255
                                have i256 : vp_in (1 : Int32) (hN _ a98) := (vin l_a98 (m := 7) (by decide) (qm306 r_x12 r_kv13 wh_x12 c14 c26 r_x35 c36 c46 c54 r_x64 q_x64 wh_x64 g_x67 g_x70 c71 c80 c93 g_x95 r_kv96 gl_x95 dr_x99 c100 dr_x102 lr_x102 ex103 g_x106 ex108 dv_x108 dw_x108 c110 i1u115 c132 r_x181 hh_x181 ex182 dv_x182 r_x185 c186 c237 c242 g_x244 gl_x244 ex246 qe_x252 g_x252 ex253 dv_x253 dw_x253 ex255))
                                refine ⟨i256, ?_⟩
                                intro S257 eS257
                                have hIn : IV S257 := by rw [eS257]; exact iv11_aD hI (de_1 (by rw [ex255]; exact i2l_rng (lo := 0) (hi := 999) (qm307 r_x12 r_kv13 wh_x12 c14 c26 r_x35 c36 c46 c54 r_x64 q_x64 wh_x64 g_x67 g_x70 c71 c80 c93 g_x95 r_kv96 gl_x95 dr_x99 c100 dr_x102 lr_x102 ex103 g_x106 ex108 dv_x108 dw_x108 c110 i1u115 c132 r_x181 hh_x181 ex182 dv_x182 r_x185 c186 c237 c242 g_x244 gl_x244 ex246 qe_x252 g_x252 ex253 dv_x253 dw_x253 ex255)))
                                have el107 := el_J eS257 el107
                                have hI := hIn
                                have f0 := fr_J eS257 f0
                                have d_kv2 := rd_J eS257 d_kv2
                                have d_x64 := rd_J eS257 d_x64
                                have d_kv13 := rd_J eS257 d_kv13
                                have d_x35 := rd_J eS257 d_x35
                                have d_kv96 := rd_J eS257 d_kv96
                                have d_x181 := rd_J eS257 d_x181
                                have d_x185 := rd_J eS257 d_x185
                                have d_x236 := rd_J eS257 d_x236
                                have ea3 := rf_J eS257 ea3
                                have ea66 := rf_J eS257 ea66
                                have ea69 := rf_J eS257 ea69
                                have ea94 := rf_J eS257 ea94
                                have ea98 := rf_J eS257 ea98
                                have ea105 := rf_J eS257 ea105
                                have ea243 := rf_J eS257 ea243
                                have l_a105 := ln_J eS257 l_a105
                                have l_a243 := ln_J eS257 l_a243
                                have l_a66 := ln_J eS257 l_a66
                                have l_a69 := ln_J eS257 l_a69
                                have l_a94 := ln_J eS257 l_a94
                                have l_a98 := ln_J eS257 l_a98
                                have g0 := gr_J eS257 g0
                                have o_a105 := ob_J eS257 o_a105
                                have o_a243 := ob_J eS257 o_a243
                                have o_a3 := ob_J eS257 o_a3
                                have o_a66 := ob_J eS257 o_a66
                                have o_a69 := ob_J eS257 o_a69
                                have o_a94 := ob_J eS257 o_a94
                                have o_a98 := ob_J eS257 o_a98
                                have o_v0 := ob_J eS257 o_v0
                                refine ⟨a98, ea98, ?_⟩
                                refine ⟨o_a98, ?_⟩
                                refine ⟨(vin l_a98 (m := 7) (by decide) (qm306 r_x12 r_kv13 wh_x12 c14 c26 r_x35 c36 c46 c54 r_x64 q_x64 wh_x64 g_x67 g_x70 c71 c80 c93 g_x95 r_kv96 gl_x95 dr_x99 c100 dr_x102 lr_x102 ex103 g_x106 ex108 dv_x108 dw_x108 c110 i1u115 c132 r_x181 hh_x181 ex182 dv_x182 r_x185 c186 c237 c242 g_x244 gl_x244 ex246 qe_x252 g_x252 ex253 dv_x253 dw_x253 ex255)), ?_⟩
                                intro x259 ex259
                                have de_x259 := ml_de hI o_v0 (j := 21) (by decide) ea98 (1 : Int32).toNatClampNeg
                                rw [← ex259] at de_x259
                                have dr_x259 : (0 : Int64) ≤ x259 ∧ x259 ≤ (999 : Int64) := de_x259.2 (by decide)
                                have lr_x259 : 0 ≤ x259.toInt32 ∧ x259.toInt32 ≤ (999 : Int32) := l2i_rng (by decide) dr_x259
                                refine u_X11_good ?_
                                refine u_X11_good_0 ?_
                                refine ⟨o_v0, ?_⟩
                                intro S260 eS260
                                have hIn : IV S260 := by rw [eS260]; exact iv11_sI hI o_v0 (by decide) (nu_free (by decide))
                                have el107 := el_ob eS260 o_v0 o_a105 (by decide) el107
                                have hI := hIn
                                have f0 := fr_I eS260 g0 f0 o_v0 (by decide)
                                have d_kv2 := rd_Ij eS260 (by decide) d_kv2
                                have d_x64 := rd_Ij eS260 (by decide) d_x64
                                have d_kv13 := rd_Ik eS260 o_v0 o_a3 (by decide) d_kv13
                                have d_x35 := rd_Ik eS260 o_v0 o_a3 (by decide) d_x35
                                have d_kv96 := rd_Ik eS260 o_v0 o_a3 (by decide) d_kv96
                                have d_x181 := rd_Ik eS260 o_v0 o_a3 (by decide) d_x181
                                have d_x185 := rd_Ik eS260 o_v0 o_a3 (by decide) d_x185
                                have d_x236 := rd_Ij eS260 (by decide) d_x236
                                obtain ⟨kv261, hkv261⟩ : ∃ z : Int32, z = (0 : Int32) := ⟨_, rfl⟩
                                have d_kv261 := rd_Is eS260 hkv261
                                have ea3 := rf_I eS260 ea3
                                have ea66 := rf_I eS260 ea66
                                have ea69 := rf_I eS260 ea69
                                have ea94 := rf_I eS260 ea94
                                have ea98 := rf_I eS260 ea98
                                have ea105 := rf_I eS260 ea105
                                have ea243 := rf_I eS260 ea243
                                have l_a105 := ln_I eS260 l_a105
                                have l_a243 := ln_I eS260 l_a243
                                have l_a66 := ln_I eS260 l_a66
                                have l_a69 := ln_I eS260 l_a69
                                have l_a94 := ln_I eS260 l_a94
                                have l_a98 := ln_I eS260 l_a98
                                have g0 := gr_I eS260 g0
                                have o_a105 := ob_I eS260 o_a105
                                have o_a243 := ob_I eS260 o_a243
                                have o_a3 := ob_I eS260 o_a3
                                have o_a66 := ob_I eS260 o_a66
                                have o_a69 := ob_I eS260 o_a69
                                have o_a94 := ob_I eS260 o_a94
                                have o_a98 := ob_I eS260 o_a98
                                have o_v0 := ob_I eS260 o_v0
                                intro S262 eS262
                                have hIn : IV S262 := by rw [eS262]; exact iv11_sI hI o_v0 (by decide) (nu_free (by decide))
                                have el107 := el_ob eS262 o_v0 o_a105 (by decide) el107
                                have hI := hIn
                                have f0 := fr_I eS262 g0 f0 o_v0 (by decide)
                                have d_kv2 := rd_Ij eS262 (by decide) d_kv2
                                have d_x64 := rd_Ij eS262 (by decide) d_x64
                                have d_kv13 := rd_Ik eS262 o_v0 o_a3 (by decide) d_kv13
                                have d_x35 := rd_Ik eS262 o_v0 o_a3 (by decide) d_x35
                                have d_kv96 := rd_Ik eS262 o_v0 o_a3 (by decide) d_kv96
                                have d_x181 := rd_Ik eS262 o_v0 o_a3 (by decide) d_x181
                                have d_x185 := rd_Ik eS262 o_v0 o_a3 (by decide) d_x185
                                have d_x236 := rd_Ij eS262 (by decide) d_x236
                                have d_kv261 := rd_Ij eS262 (by decide) d_kv261
                                obtain ⟨kv263, hkv263⟩ : ∃ z : Int32, z = (-1 : Int32) := ⟨_, rfl⟩
                                have d_kv263 := rd_Is eS262 hkv263
                                have ea3 := rf_I eS262 ea3
                                have ea66 := rf_I eS262 ea66
                                have ea69 := rf_I eS262 ea69
                                have ea94 := rf_I eS262 ea94
                                have ea98 := rf_I eS262 ea98
                                have ea105 := rf_I eS262 ea105
                                have ea243 := rf_I eS262 ea243
                                have l_a105 := ln_I eS262 l_a105
                                have l_a243 := ln_I eS262 l_a243
                                have l_a66 := ln_I eS262 l_a66
                                have l_a69 := ln_I eS262 l_a69
                                have l_a94 := ln_I eS262 l_a94
                                have l_a98 := ln_I eS262 l_a98
                                have g0 := gr_I eS262 g0
                                have o_a105 := ob_I eS262 o_a105
                                have o_a243 := ob_I eS262 o_a243
                                have o_a3 := ob_I eS262 o_a3
                                have o_a66 := ob_I eS262 o_a66
                                have o_a69 := ob_I eS262 o_a69
                                have o_a94 := ob_I eS262 o_a94
                                have o_a98 := ob_I eS262 o_a98
                                have o_v0 := ob_I eS262 o_v0
                                intro _
                                exact hq _ _ hI g0 f0
                              · refine ⟨o_a3, ?_⟩
                                refine ⟨a94, ea94, ?_⟩
                                refine ⟨o_a94, ?_⟩
                                refine ⟨(vin l_a94 (m := 12) (by decide) (qm308 r_x12 r_kv13 wh_x12 c14 c26 r_x35 c36 c46 c54 r_x64 q_x64 wh_x64 g_x67 g_x70 c71 c80 c93 g_x95 r_kv96 gl_x95 dr_x99 c100 dr_x102 lr_x102 ex103 g_x106 ex108 dv_x108 dw_x108 c110 i1u115 c132 r_x181 hh_x181 ex182 dv_x182 r_x185 c186 c237 c242)), ?_⟩
                                intro x266 ex266
                                have gy_x266 : 0 ≤ v1 ∧ v1 < fI S116 a3 3 := by rw [← d_x35]; exact (qm309 r_x12 r_kv13 wh_x12 c14 c26 r_x35 c36 c46 c54 r_x64 q_x64 wh_x64 g_x67 g_x70 c71 c80 c93 g_x95 r_kv96 gl_x95 dr_x99 c100 dr_x102 lr_x102 ex103 g_x106 ex108 dv_x108 dw_x108 c110 i1u115 c132 r_x181 hh_x181 ex182 dv_x182 r_x185 c186 c237 c242)
                                have g_x266 : (0 : Int32) ≤ x266 ∧ x266 ≤ (7 : Int32) := by rw [ex266]; exact wg_at (ml_wg hI o_v0 ea3) 1 rfl gy_x266 ea94
                                have gl_x266 : x266 < kv96 := by rw [ex266, d_kv96]; exact wg_lt (ml_wg hI o_v0 ea3) 1 rfl (by decide) gy_x266 ea94
                                intro _
                                refine ⟨o_a98, ?_⟩
                                intro x268 ex268
                                have i269 : vp_in (0 : Int32) (hN _ a98) := (vin l_a98 (m := 7) (by decide) (qm310 r_x12 r_kv13 wh_x12 c14 c26 r_x35 c36 c46 c54 r_x64 q_x64 wh_x64 g_x67 g_x70 c71 c80 c93 g_x95 r_kv96 gl_x95 dr_x99 c100 dr_x102 lr_x102 ex103 g_x106 ex108 dv_x108 dw_x108 c110 i1u115 c132 r_x181 hh_x181 ex182 dv_x182 r_x185 c186 c237 c242 g_x266 gl_x266 ex268))
                                refine ⟨i269, ?_⟩
                                intro S270 eS270
                                have hIn : IV S270 := by rw [eS270]; exact iv11_aD hI (de_0 (by rw [ex268]; exact i2l_rng (lo := 0) (hi := 7) (qm311 r_x12 r_kv13 wh_x12 c14 c26 r_x35 c36 c46 c54 r_x64 q_x64 wh_x64 g_x67 g_x70 c71 c80 c93 g_x95 r_kv96 gl_x95 dr_x99 c100 dr_x102 lr_x102 ex103 g_x106 ex108 dv_x108 dw_x108 c110 i1u115 c132 r_x181 hh_x181 ex182 dv_x182 r_x185 c186 c237 c242 g_x266 gl_x266 ex268)))
                                have el107 := el_J eS270 el107
                                have hI := hIn
                                have f0 := fr_J eS270 f0
                                have d_kv2 := rd_J eS270 d_kv2
                                have d_x64 := rd_J eS270 d_x64
                                have d_kv13 := rd_J eS270 d_kv13
                                have d_x35 := rd_J eS270 d_x35
                                have d_kv96 := rd_J eS270 d_kv96
                                have d_x181 := rd_J eS270 d_x181
                                have d_x185 := rd_J eS270 d_x185
                                have d_x236 := rd_J eS270 d_x236
                                have ea3 := rf_J eS270 ea3
                                have ea66 := rf_J eS270 ea66
                                have ea69 := rf_J eS270 ea69
                                have ea94 := rf_J eS270 ea94
                                have ea98 := rf_J eS270 ea98
                                have ea105 := rf_J eS270 ea105
                                have l_a105 := ln_J eS270 l_a105
                                have l_a66 := ln_J eS270 l_a66
                                have l_a69 := ln_J eS270 l_a69
                                have l_a94 := ln_J eS270 l_a94
                                have l_a98 := ln_J eS270 l_a98
                                have g0 := gr_J eS270 g0
                                have o_a105 := ob_J eS270 o_a105
                                have o_a3 := ob_J eS270 o_a3
                                have o_a66 := ob_J eS270 o_a66
                                have o_a69 := ob_J eS270 o_a69
                                have o_a94 := ob_J eS270 o_a94
                                have o_a98 := ob_J eS270 o_a98
                                have o_v0 := ob_J eS270 o_v0
                                refine ⟨a98, ea98, ?_⟩
                                refine ⟨a3, ea3, ?_⟩
                                refine ⟨o_a3, ?_⟩
                                refine u_X10_minutes ?_
                                refine u_X10_minutes_0 ?_
                                refine ⟨o_a3, ?_⟩
                                refine ⟨a105, ea105, ?_⟩
                                refine ⟨o_a105, ?_⟩
                                refine ⟨(vin l_a105 (m := 12) (by decide) (qm312 r_x12 r_kv13 wh_x12 c14 c26 r_x35 c36 c46 c54 r_x64 q_x64 wh_x64 g_x67 g_x70 c71 c80 c93 g_x95 r_kv96 gl_x95 dr_x99 c100 dr_x102 lr_x102 ex103 g_x106 ex108 dv_x108 dw_x108 c110 i1u115 c132 r_x181 hh_x181 ex182 dv_x182 r_x185 c186 c237 c242 g_x266 gl_x266 ex268)), ?_⟩
                                intro x274 ex274
                                have qe_x274 : x274 = x106 := ex274.trans el107
                                have gy_x274 : 0 ≤ v1 ∧ v1 < fI S270 a3 3 := by rw [← d_x35]; exact (qm313 r_x12 r_kv13 wh_x12 c14 c26 r_x35 c36 c46 c54 r_x64 q_x64 wh_x64 g_x67 g_x70 c71 c80 c93 g_x95 r_kv96 gl_x95 dr_x99 c100 dr_x102 lr_x102 ex103 g_x106 ex108 dv_x108 dw_x108 c110 i1u115 c132 r_x181 hh_x181 ex182 dv_x182 r_x185 c186 c237 c242 g_x266 gl_x266 ex268 qe_x274)
                                have g_x274 : (1 : Int32) ≤ x274 ∧ x274 ≤ (60 : Int32) := by rw [ex274]; exact wg_at (ml_wg hI o_v0 ea3) 2 rfl gy_x274 ea105
                                refine ⟨(qm314 r_x12 r_kv13 wh_x12 c14 c26 r_x35 c36 c46 c54 r_x64 q_x64 wh_x64 g_x67 g_x70 c71 c80 c93 g_x95 r_kv96 gl_x95 dr_x99 c100 dr_x102 lr_x102 ex103 g_x106 ex108 dv_x108 dw_x108 c110 i1u115 c132 r_x181 hh_x181 ex182 dv_x182 r_x185 c186 c237 c242 g_x266 gl_x266 ex268 qe_x274 g_x274), ?_⟩
                                intro x275 ex275
                                have dv_x275 : 0 ≤ x275 ∧ x275 ≤ ((x274 + v3) - (1 : Int32)) := by rw [ex275]; exact dv0 (qm315 r_x12 r_kv13 wh_x12 c14 c26 r_x35 c36 c46 c54 r_x64 q_x64 wh_x64 g_x67 g_x70 c71 c80 c93 g_x95 r_kv96 gl_x95 dr_x99 c100 dr_x102 lr_x102 ex103 g_x106 ex108 dv_x108 dw_x108 c110 i1u115 c132 r_x181 hh_x181 ex182 dv_x182 r_x185 c186 c237 c242 g_x266 gl_x266 ex268 qe_x274 g_x274 ex275) (i32pos (qm316 r_x12 r_kv13 wh_x12 c14 c26 r_x35 c36 c46 c54 r_x64 q_x64 wh_x64 g_x67 g_x70 c71 c80 c93 g_x95 r_kv96 gl_x95 dr_x99 c100 dr_x102 lr_x102 ex103 g_x106 ex108 dv_x108 dw_x108 c110 i1u115 c132 r_x181 hh_x181 ex182 dv_x182 r_x185 c186 c237 c242 g_x266 gl_x266 ex268 qe_x274 g_x274 ex275))
                                have dw_x275 : (1 : Int32) ≤ x275 := by rw [ex275]; exact dv1 (qm317 r_x12 r_kv13 wh_x12 c14 c26 r_x35 c36 c46 c54 r_x64 q_x64 wh_x64 g_x67 g_x70 c71 c80 c93 g_x95 r_kv96 gl_x95 dr_x99 c100 dr_x102 lr_x102 ex103 g_x106 ex108 dv_x108 dw_x108 c110 i1u115 c132 r_x181 hh_x181 ex182 dv_x182 r_x185 c186 c237 c242 g_x266 gl_x266 ex268 qe_x274 g_x274 ex275) (qm318 r_x12 r_kv13 wh_x12 c14 c26 r_x35 c36 c46 c54 r_x64 q_x64 wh_x64 g_x67 g_x70 c71 c80 c93 g_x95 r_kv96 gl_x95 dr_x99 c100 dr_x102 lr_x102 ex103 g_x106 ex108 dv_x108 dw_x108 c110 i1u115 c132 r_x181 hh_x181 ex182 dv_x182 r_x185 c186 c237 c242 g_x266 gl_x266 ex268 qe_x274 g_x274 ex275)
                                intro _
                                refine ⟨o_a98, ?_⟩
                                intro x277 ex277
                                have i278 : vp_in (1 : Int32) (hN _ a98) := (vin l_a98 (m := 7) (by decide) (qm319 r_x12 r_kv13 wh_x12 c14 c26 r_x35 c36 c46 c54 r_x64 q_x64 wh_x64 g_x67 g_x70 c71 c80 c93 g_x95 r_kv96 gl_x95 dr_x99 c100 dr_x102 lr_x102 ex103 g_x106 ex108 dv_x108 dw_x108 c110 i1u115 c132 r_x181 hh_x181 ex182 dv_x182 r_x185 c186 c237 c242 g_x266 gl_x266 ex268 qe_x274 g_x274 ex275 dv_x275 dw_x275 ex277))
                                refine ⟨i278, ?_⟩
                                intro S279 eS279
                                have hIn : IV S279 := by rw [eS279]; exact iv11_aD hI (de_1 (by rw [ex277]; exact i2l_rng (lo := 0) (hi := 999) (qm320 r_x12 r_kv13 wh_x12 c14 c26 r_x35 c36 c46 c54 r_x64 q_x64 wh_x64 g_x67 g_x70 c71 c80 c93 g_x95 r_kv96 gl_x95 dr_x99 c100 dr_x102 lr_x102 ex103 g_x106 ex108 dv_x108 dw_x108 c110 i1u115 c132 r_x181 hh_x181 ex182 dv_x182 r_x185 c186 c237 c242 g_x266 gl_x266 ex268 qe_x274 g_x274 ex275 dv_x275 dw_x275 ex277)))
                                have el107 := el_J eS279 el107
                                have hI := hIn
                                have f0 := fr_J eS279 f0
                                have d_kv2 := rd_J eS279 d_kv2
                                have d_x64 := rd_J eS279 d_x64
                                have d_kv13 := rd_J eS279 d_kv13
                                have d_x35 := rd_J eS279 d_x35
                                have d_kv96 := rd_J eS279 d_kv96
                                have d_x181 := rd_J eS279 d_x181
                                have d_x185 := rd_J eS279 d_x185
                                have d_x236 := rd_J eS279 d_x236
                                have ea3 := rf_J eS279 ea3
                                have ea66 := rf_J eS279 ea66
                                have ea69 := rf_J eS279 ea69
                                have ea94 := rf_J eS279 ea94
                                have ea98 := rf_J eS279 ea98
                                have ea105 := rf_J eS279 ea105
                                have l_a105 := ln_J eS279 l_a105
                                have l_a66 := ln_J eS279 l_a66
                                have l_a69 := ln_J eS279 l_a69
                                have l_a94 := ln_J eS279 l_a94
                                have l_a98 := ln_J eS279 l_a98
                                have g0 := gr_J eS279 g0
                                have o_a105 := ob_J eS279 o_a105
                                have o_a3 := ob_J eS279 o_a3
                                have o_a66 := ob_J eS279 o_a66
                                have o_a69 := ob_J eS279 o_a69
                                have o_a94 := ob_J eS279 o_a94
                                have o_a98 := ob_J eS279 o_a98
                                have o_v0 := ob_J eS279 o_v0
                                refine ⟨a98, ea98, ?_⟩
                                refine ⟨o_a98, ?_⟩
                                refine ⟨(vin l_a98 (m := 7) (by decide) (qm319 r_x12 r_kv13 wh_x12 c14 c26 r_x35 c36 c46 c54 r_x64 q_x64 wh_x64 g_x67 g_x70 c71 c80 c93 g_x95 r_kv96 gl_x95 dr_x99 c100 dr_x102 lr_x102 ex103 g_x106 ex108 dv_x108 dw_x108 c110 i1u115 c132 r_x181 hh_x181 ex182 dv_x182 r_x185 c186 c237 c242 g_x266 gl_x266 ex268 qe_x274 g_x274 ex275 dv_x275 dw_x275 ex277)), ?_⟩
                                intro x281 ex281
                                have de_x281 := ml_de hI o_v0 (j := 21) (by decide) ea98 (1 : Int32).toNatClampNeg
                                rw [← ex281] at de_x281
                                have dr_x281 : (0 : Int64) ≤ x281 ∧ x281 ≤ (999 : Int64) := de_x281.2 (by decide)
                                have lr_x281 : 0 ≤ x281.toInt32 ∧ x281.toInt32 ≤ (999 : Int32) := l2i_rng (by decide) dr_x281
                                refine u_X11_good ?_
                                refine u_X11_good_0 ?_
                                refine ⟨o_v0, ?_⟩
                                intro S282 eS282
                                have hIn : IV S282 := by rw [eS282]; exact iv11_sI hI o_v0 (by decide) (nu_free (by decide))
                                have el107 := el_ob eS282 o_v0 o_a105 (by decide) el107
                                have hI := hIn
                                have f0 := fr_I eS282 g0 f0 o_v0 (by decide)
                                have d_kv2 := rd_Ij eS282 (by decide) d_kv2
                                have d_x64 := rd_Ij eS282 (by decide) d_x64
                                have d_kv13 := rd_Ik eS282 o_v0 o_a3 (by decide) d_kv13
                                have d_x35 := rd_Ik eS282 o_v0 o_a3 (by decide) d_x35
                                have d_kv96 := rd_Ik eS282 o_v0 o_a3 (by decide) d_kv96
                                have d_x181 := rd_Ik eS282 o_v0 o_a3 (by decide) d_x181
                                have d_x185 := rd_Ik eS282 o_v0 o_a3 (by decide) d_x185
                                have d_x236 := rd_Ij eS282 (by decide) d_x236
                                obtain ⟨kv283, hkv283⟩ : ∃ z : Int32, z = (0 : Int32) := ⟨_, rfl⟩
                                have d_kv283 := rd_Is eS282 hkv283
                                have ea3 := rf_I eS282 ea3
                                have ea66 := rf_I eS282 ea66
                                have ea69 := rf_I eS282 ea69
                                have ea94 := rf_I eS282 ea94
                                have ea98 := rf_I eS282 ea98
                                have ea105 := rf_I eS282 ea105
                                have l_a105 := ln_I eS282 l_a105
                                have l_a66 := ln_I eS282 l_a66
                                have l_a69 := ln_I eS282 l_a69
                                have l_a94 := ln_I eS282 l_a94
                                have l_a98 := ln_I eS282 l_a98
                                have g0 := gr_I eS282 g0
                                have o_a105 := ob_I eS282 o_a105
                                have o_a3 := ob_I eS282 o_a3
                                have o_a66 := ob_I eS282 o_a66
                                have o_a69 := ob_I eS282 o_a69
                                have o_a94 := ob_I eS282 o_a94
                                have o_a98 := ob_I eS282 o_a98
                                have o_v0 := ob_I eS282 o_v0
                                intro S284 eS284
                                have hIn : IV S284 := by rw [eS284]; exact iv11_sI hI o_v0 (by decide) (nu_free (by decide))
                                have el107 := el_ob eS284 o_v0 o_a105 (by decide) el107
                                have hI := hIn
                                have f0 := fr_I eS284 g0 f0 o_v0 (by decide)
                                have d_kv2 := rd_Ij eS284 (by decide) d_kv2
                                have d_x64 := rd_Ij eS284 (by decide) d_x64
                                have d_kv13 := rd_Ik eS284 o_v0 o_a3 (by decide) d_kv13
                                have d_x35 := rd_Ik eS284 o_v0 o_a3 (by decide) d_x35
                                have d_kv96 := rd_Ik eS284 o_v0 o_a3 (by decide) d_kv96
                                have d_x181 := rd_Ik eS284 o_v0 o_a3 (by decide) d_x181
                                have d_x185 := rd_Ik eS284 o_v0 o_a3 (by decide) d_x185
                                have d_x236 := rd_Ij eS284 (by decide) d_x236
                                have d_kv283 := rd_Ij eS284 (by decide) d_kv283
                                obtain ⟨kv285, hkv285⟩ : ∃ z : Int32, z = (-1 : Int32) := ⟨_, rfl⟩
                                have d_kv285 := rd_Is eS284 hkv285
                                have ea3 := rf_I eS284 ea3
                                have ea66 := rf_I eS284 ea66
                                have ea69 := rf_I eS284 ea69
                                have ea94 := rf_I eS284 ea94
                                have ea98 := rf_I eS284 ea98
                                have ea105 := rf_I eS284 ea105
                                have l_a105 := ln_I eS284 l_a105
                                have l_a66 := ln_I eS284 l_a66
                                have l_a69 := ln_I eS284 l_a69
                                have l_a94 := ln_I eS284 l_a94
                                have l_a98 := ln_I eS284 l_a98
                                have g0 := gr_I eS284 g0
                                have o_a105 := ob_I eS284 o_a105
                                have o_a3 := ob_I eS284 o_a3
                                have o_a66 := ob_I eS284 o_a66
                                have o_a69 := ob_I eS284 o_a69
                                have o_a94 := ob_I eS284 o_a94
                                have o_a98 := ob_I eS284 o_a98
                                have o_v0 := ob_I eS284 o_v0
                                intro _
                                exact hq _ _ hI g0 f0
                            · intro _ _
                              refine ⟨fun c288 => absurd (show (1 : Int32) = 0 from c288) (by decide), fun c288 => ?_⟩
                              refine ⟨a98, ea98, ?_⟩
                              refine ⟨o_a98, ?_⟩
                              intro x290 ex290
                              refine ⟨(vin l_a98 (m := 7) (by decide) (qm321 r_x12 r_kv13 wh_x12 c14 c26 r_x35 c36 c46 c54 r_x64 q_x64 wh_x64 g_x67 g_x70 c71 c80 c93 g_x95 r_kv96 gl_x95 dr_x99 c100 dr_x102 lr_x102 ex103 g_x106 ex108 dv_x108 dw_x108 c110 i1u115 c132 r_x181 hh_x181 ex182 dv_x182 r_x185 c186 c237 ex290)), ?_⟩
                              intro x291 ex291
                              have de_x291 := ml_de hI o_v0 (j := 21) (by decide) ea98 x290.toNatClampNeg
                              rw [← ex291] at de_x291
                              intro x292 ex292
                              have r_x292 : (-2 : Int32) ≤ x292 ∧ x292 ≤ (3 : Int32) := by rw [ex292]; exact nu 26 rfl hI o_v0
                              have q_x292 : x292 = x64 := ex292.trans d_x64.symm
                              have d_x292 := ex292
                              have wh_x292 : x292 = -2 ∨ (0 ≤ x292 ∧ x292 < kv13) := by rw [ex292, d_kv13]; exact ml_who hI o_v0 ea3
                              refine u_X11_hourOf ?_
                              refine u_X11_hourOf_0 ?_
                              refine ⟨o_v0, ?_⟩
                              refine ⟨a3, ea3, ?_⟩
                              refine ⟨o_a3, ?_⟩
                              intro x294 ex294
                              have r_x294 : (0 : Int32) ≤ x294 ∧ x294 ≤ (60 : Int32) := by rw [ex294]; exact nu 16 rfl hI o_a3
                              have q_x294 : x294 = x181 := ex294.trans d_x181.symm
                              have d_x294 := ex294
                              have hh_x294 : 1 ≤ x294 := by rw [ex294]; exact ml_hour hI o_v0 ea3
                              refine ⟨(qm322 r_x12 r_kv13 wh_x12 c14 c26 r_x35 c36 c46 c54 r_x64 q_x64 wh_x64 g_x67 g_x70 c71 c80 c93 g_x95 r_kv96 gl_x95 dr_x99 c100 dr_x102 lr_x102 ex103 g_x106 ex108 dv_x108 dw_x108 c110 i1u115 c132 r_x181 hh_x181 ex182 dv_x182 r_x185 c186 c237 ex290 r_x292 q_x292 wh_x292 r_x294 q_x294 hh_x294), ?_⟩
                              intro x295 ex295
                              have dv_x295 : 0 ≤ x295 ∧ x295 ≤ x103 := by rw [ex295]; exact dv0 (qm323 r_x12 r_kv13 wh_x12 c14 c26 r_x35 c36 c46 c54 r_x64 q_x64 wh_x64 g_x67 g_x70 c71 c80 c93 g_x95 r_kv96 gl_x95 dr_x99 c100 dr_x102 lr_x102 ex103 g_x106 ex108 dv_x108 dw_x108 c110 i1u115 c132 r_x181 hh_x181 ex182 dv_x182 r_x185 c186 c237 ex290 r_x292 q_x292 wh_x292 r_x294 q_x294 hh_x294 ex295) (i32pos (qm324 r_x12 r_kv13 wh_x12 c14 c26 r_x35 c36 c46 c54 r_x64 q_x64 wh_x64 g_x67 g_x70 c71 c80 c93 g_x95 r_kv96 gl_x95 dr_x99 c100 dr_x102 lr_x102 ex103 g_x106 ex108 dv_x108 dw_x108 c110 i1u115 c132 r_x181 hh_x181 ex182 dv_x182 r_x185 c186 c237 ex290 r_x292 q_x292 wh_x292 r_x294 q_x294 hh_x294 ex295))
                              intro _
                              refine m_X11_partsOf hI o_v0 (qm325 r_x12 r_kv13 wh_x12 c14 c26 r_x35 c36 c46 c54 r_x64 q_x64 wh_x64 g_x67 g_x70 c71 c80 c93 g_x95 r_kv96 gl_x95 dr_x99 c100 dr_x102 lr_x102 ex103 g_x106 ex108 dv_x108 dw_x108 c110 i1u115 c132 r_x181 hh_x181 ex182 dv_x182 r_x185 c186 c237 ex290 r_x292 q_x292 wh_x292 r_x294 q_x294 hh_x294 ex295 dv_x295) (qm326 r_x12 r_kv13 wh_x12 c14 c26 r_x35 c36 c46 c54 r_x64 q_x64 wh_x64 g_x67 g_x70 c71 c80 c93 g_x95 r_kv96 gl_x95 dr_x99 c100 dr_x102 lr_x102 ex103 g_x106 ex108 dv_x108 dw_x108 c110 i1u115 c132 r_x181 hh_x181 ex182 dv_x182 r_x185 c186 c237 ex290 r_x292 q_x292 wh_x292 r_x294 q_x294 hh_x294 ex295 dv_x295) (qm327 r_x12 r_kv13 wh_x12 c14 c26 r_x35 c36 c46 c54 r_x64 q_x64 wh_x64 g_x67 g_x70 c71 c80 c93 g_x95 r_kv96 gl_x95 dr_x99 c100 dr_x102 lr_x102 ex103 g_x106 ex108 dv_x108 dw_x108 c110 i1u115 c132 r_x181 hh_x181 ex182 dv_x182 r_x185 c186 c237 ex290 r_x292 q_x292 wh_x292 r_x294 q_x294 hh_x294 ex295 dv_x295) (qm328 r_x12 r_kv13 wh_x12 c14 c26 r_x35 c36 c46 c54 r_x64 q_x64 wh_x64 g_x67 g_x70 c71 c80 c93 g_x95 r_kv96 gl_x95 dr_x99 c100 dr_x102 lr_x102 ex103 g_x106 ex108 dv_x108 dw_x108 c110 i1u115 c132 r_x181 hh_x181 ex182 dv_x182 r_x185 c186 c237 ex290 r_x292 q_x292 wh_x292 r_x294 q_x294 hh_x294 ex295 dv_x295) ⟨_, ea3⟩ (fun x297 S298 hI2 g299 p_x297 => ?_)
                              subst p_x297
                              intro _
                              intro x301 ex301
                              have i302 : vp_in ((2 : Int32) + w129) (hN _ a98) := (vin l_a98 (m := 7) (by decide) (qm329 r_x12 r_kv13 wh_x12 c14 c26 r_x35 c36 c46 c54 r_x64 q_x64 wh_x64 g_x67 g_x70 c71 c80 c93 g_x95 r_kv96 gl_x95 dr_x99 c100 dr_x102 lr_x102 ex103 g_x106 ex108 dv_x108 dw_x108 c110 i1u115 c132 r_x181 hh_x181 ex182 dv_x182 r_x185 c186 c237 ex290 r_x292 q_x292 wh_x292 r_x294 q_x294 hh_x294 ex295 dv_x295))
                              refine ⟨i302, ?_⟩
                              intro S303 eS303
                              have hIn : IV S303 := by rw [eS303]; exact iv11_aD hI (de_free (qm330 r_x12 r_kv13 wh_x12 c14 c26 r_x35 c36 c46 c54 r_x64 q_x64 wh_x64 g_x67 g_x70 c71 c80 c93 g_x95 r_kv96 gl_x95 dr_x99 c100 dr_x102 lr_x102 ex103 g_x106 ex108 dv_x108 dw_x108 c110 i1u115 c132 r_x181 hh_x181 ex182 dv_x182 r_x185 c186 c237 ex290 r_x292 q_x292 wh_x292 r_x294 q_x294 hh_x294 ex295 dv_x295))
                              have el107 := el_J eS303 el107
                              have hI := hIn
                              have f0 := fr_J eS303 f0
                              have fL118 := fr_J eS303 fL118
                              have d_kv2 := rd_J eS303 d_kv2
                              have d_x292 := rd_J eS303 d_x292
                              have d_kv13 := rd_J eS303 d_kv13
                              have d_x35 := rd_J eS303 d_x35
                              have d_kv96 := rd_J eS303 d_kv96
                              have d_x294 := rd_J eS303 d_x294
                              have d_x185 := rd_J eS303 d_x185
                              have d_x236 := rd_J eS303 d_x236
                              have ea3 := rf_J eS303 ea3
                              have ea66 := rf_J eS303 ea66
                              have ea69 := rf_J eS303 ea69
                              have ea94 := rf_J eS303 ea94
                              have ea98 := rf_J eS303 ea98
                              have ea105 := rf_J eS303 ea105
                              have l_a105 := ln_J eS303 l_a105
                              have l_a66 := ln_J eS303 l_a66
                              have l_a69 := ln_J eS303 l_a69
                              have l_a94 := ln_J eS303 l_a94
                              have l_a98 := ln_J eS303 l_a98
                              have g0 := gr_J eS303 g0
                              have gL117 := gr_J eS303 gL117
                              have o_a105 := ob_J eS303 o_a105
                              have o_a3 := ob_J eS303 o_a3
                              have o_a66 := ob_J eS303 o_a66
                              have o_a69 := ob_J eS303 o_a69
                              have o_a94 := ob_J eS303 o_a94
                              have o_a98 := ob_J eS303 o_a98
                              have o_v0 := ob_J eS303 o_v0
                              intro x304 ex304
                              exact ih131 _ _ _ _ _ _ _ ⟨hI, gL117, fL118, rfl, rfl, rfl, rfl, rfl, (qm331 r_x12 r_kv13 wh_x12 c14 c26 r_x35 c36 c46 c54 r_x64 q_x64 wh_x64 g_x67 g_x70 c71 c80 c93 g_x95 r_kv96 gl_x95 dr_x99 c100 dr_x102 lr_x102 ex103 g_x106 ex108 dv_x108 dw_x108 c110 i1u115 c132 r_x181 hh_x181 ex182 dv_x182 r_x185 c186 c237 ex290 r_x292 q_x292 wh_x292 r_x294 q_x294 hh_x294 ex295 dv_x295 ex304), el107⟩ (mu_up (qm332 r_x12 r_kv13 wh_x12 c14 c26 r_x35 c36 c46 c54 r_x64 q_x64 wh_x64 g_x67 g_x70 c71 c80 c93 g_x95 r_kv96 gl_x95 dr_x99 c100 dr_x102 lr_x102 ex103 g_x106 ex108 dv_x108 dw_x108 c110 i1u115 c132 r_x181 hh_x181 ex182 dv_x182 r_x185 c186 c237 ex290 r_x292 q_x292 wh_x292 r_x294 q_x294 hh_x294 ex295 dv_x295 ex304) (qm333 r_x12 r_kv13 wh_x12 c14 c26 r_x35 c36 c46 c54 r_x64 q_x64 wh_x64 g_x67 g_x70 c71 c80 c93 g_x95 r_kv96 gl_x95 dr_x99 c100 dr_x102 lr_x102 ex103 g_x106 ex108 dv_x108 dw_x108 c110 i1u115 c132 r_x181 hh_x181 ex182 dv_x182 r_x185 c186 c237 ex290 r_x292 q_x292 wh_x292 r_x294 q_x294 hh_x294 ex295 dv_x295 ex304))
                      · refine u_X11_refused ?_
                        refine u_X11_refused_0 ?_
                        refine ⟨o_v0, ?_⟩
                        intro S305 eS305
                        have hIn : IV S305 := by rw [eS305]; exact iv11_sI hI o_v0 (by decide) (nu_free (by decide))
                        have el107 := el_ob eS305 o_v0 o_a105 (by decide) el107
                        have hI := hIn
                        have f0 := fr_I eS305 g0 f0 o_v0 (by decide)
                        have d_kv2 := rd_Ij eS305 (by decide) d_kv2
                        have d_x64 := rd_Ij eS305 (by decide) d_x64
                        have d_kv13 := rd_Ik eS305 o_v0 o_a3 (by decide) d_kv13
                        have d_x35 := rd_Ik eS305 o_v0 o_a3 (by decide) d_x35
                        have d_kv96 := rd_Ik eS305 o_v0 o_a3 (by decide) d_kv96
                        obtain ⟨kv306, hkv306⟩ : ∃ z : Int32, z = (3 : Int32) := ⟨_, rfl⟩
                        have d_kv306 := rd_Is eS305 hkv306
                        have ea3 := rf_I eS305 ea3
                        have ea66 := rf_I eS305 ea66
                        have ea69 := rf_I eS305 ea69
                        have ea94 := rf_I eS305 ea94
                        have ea98 := rf_I eS305 ea98
                        have ea105 := rf_I eS305 ea105
                        have l_a105 := ln_I eS305 l_a105
                        have l_a66 := ln_I eS305 l_a66
                        have l_a69 := ln_I eS305 l_a69
                        have l_a94 := ln_I eS305 l_a94
                        have l_a98 := ln_I eS305 l_a98
                        have g0 := gr_I eS305 g0
                        have o_a105 := ob_I eS305 o_a105
                        have o_a3 := ob_I eS305 o_a3
                        have o_a66 := ob_I eS305 o_a66
                        have o_a69 := ob_I eS305 o_a69
                        have o_a94 := ob_I eS305 o_a94
                        have o_a98 := ob_I eS305 o_a98
                        have o_v0 := ob_I eS305 o_v0
                        intro S307 eS307
                        have hIn : IV S307 := by rw [eS307]; exact iv11_sI hI o_v0 (by decide) (nu_free (by decide))
                        have el107 := el_ob eS307 o_v0 o_a105 (by decide) el107
                        have hI := hIn
                        have f0 := fr_I eS307 g0 f0 o_v0 (by decide)
                        have d_kv2 := rd_Ij eS307 (by decide) d_kv2
                        have d_x64 := rd_Ij eS307 (by decide) d_x64
                        have d_kv13 := rd_Ik eS307 o_v0 o_a3 (by decide) d_kv13
                        have d_x35 := rd_Ik eS307 o_v0 o_a3 (by decide) d_x35
                        have d_kv96 := rd_Ik eS307 o_v0 o_a3 (by decide) d_kv96
                        have d_kv306 := rd_Ij eS307 (by decide) d_kv306
                        obtain ⟨kv308, hkv308⟩ : ∃ z : Int32, z = (-1 : Int32) := ⟨_, rfl⟩
                        have d_kv308 := rd_Is eS307 hkv308
                        have ea3 := rf_I eS307 ea3
                        have ea66 := rf_I eS307 ea66
                        have ea69 := rf_I eS307 ea69
                        have ea94 := rf_I eS307 ea94
                        have ea98 := rf_I eS307 ea98
                        have ea105 := rf_I eS307 ea105
                        have l_a105 := ln_I eS307 l_a105
                        have l_a66 := ln_I eS307 l_a66
                        have l_a69 := ln_I eS307 l_a69
                        have l_a94 := ln_I eS307 l_a94
                        have l_a98 := ln_I eS307 l_a98
                        have g0 := gr_I eS307 g0
                        have o_a105 := ob_I eS307 o_a105
                        have o_a3 := ob_I eS307 o_a3
                        have o_a66 := ob_I eS307 o_a66
                        have o_a69 := ob_I eS307 o_a69
                        have o_a94 := ob_I eS307 o_a94
                        have o_a98 := ob_I eS307 o_a98
                        have o_v0 := ob_I eS307 o_v0
                        intro _
                        exact hq _ _ hI g0 f0
                    · refine u_X11_refused ?_
                      refine u_X11_refused_0 ?_
                      refine ⟨o_v0, ?_⟩
                      intro S310 eS310
                      have hIn : IV S310 := by rw [eS310]; exact iv11_sI hI o_v0 (by decide) (nu_free (by decide))
                      have hI := hIn
                      have f0 := fr_I eS310 g0 f0 o_v0 (by decide)
                      have d_kv2 := rd_Ij eS310 (by decide) d_kv2
                      have d_x64 := rd_Ij eS310 (by decide) d_x64
                      have d_kv13 := rd_Ik eS310 o_v0 o_a3 (by decide) d_kv13
                      have d_x35 := rd_Ik eS310 o_v0 o_a3 (by decide) d_x35
                      have d_kv96 := rd_Ik eS310 o_v0 o_a3 (by decide) d_kv96
                      obtain ⟨kv311, hkv311⟩ : ∃ z : Int32, z = (5 : Int32) := ⟨_, rfl⟩
                      have d_kv311 := rd_Is eS310 hkv311
                      have ea3 := rf_I eS310 ea3
                      have ea66 := rf_I eS310 ea66
                      have ea69 := rf_I eS310 ea69
                      have ea94 := rf_I eS310 ea94
                      have ea98 := rf_I eS310 ea98
                      have l_a66 := ln_I eS310 l_a66
                      have l_a69 := ln_I eS310 l_a69
                      have l_a94 := ln_I eS310 l_a94
                      have l_a98 := ln_I eS310 l_a98
                      have g0 := gr_I eS310 g0
                      have o_a3 := ob_I eS310 o_a3
                      have o_a66 := ob_I eS310 o_a66
                      have o_a69 := ob_I eS310 o_a69
                      have o_a94 := ob_I eS310 o_a94
                      have o_a98 := ob_I eS310 o_a98
                      have o_v0 := ob_I eS310 o_v0
                      intro S312 eS312
                      have hIn : IV S312 := by rw [eS312]; exact iv11_sI hI o_v0 (by decide) (nu_free (by decide))
                      have hI := hIn
                      have f0 := fr_I eS312 g0 f0 o_v0 (by decide)
                      have d_kv2 := rd_Ij eS312 (by decide) d_kv2
                      have d_x64 := rd_Ij eS312 (by decide) d_x64
                      have d_kv13 := rd_Ik eS312 o_v0 o_a3 (by decide) d_kv13
                      have d_x35 := rd_Ik eS312 o_v0 o_a3 (by decide) d_x35
                      have d_kv96 := rd_Ik eS312 o_v0 o_a3 (by decide) d_kv96
                      have d_kv311 := rd_Ij eS312 (by decide) d_kv311
                      obtain ⟨kv313, hkv313⟩ : ∃ z : Int32, z = (-1 : Int32) := ⟨_, rfl⟩
                      have d_kv313 := rd_Is eS312 hkv313
                      have ea3 := rf_I eS312 ea3
                      have ea66 := rf_I eS312 ea66
                      have ea69 := rf_I eS312 ea69
                      have ea94 := rf_I eS312 ea94
                      have ea98 := rf_I eS312 ea98
                      have l_a66 := ln_I eS312 l_a66
                      have l_a69 := ln_I eS312 l_a69
                      have l_a94 := ln_I eS312 l_a94
                      have l_a98 := ln_I eS312 l_a98
                      have g0 := gr_I eS312 g0
                      have o_a3 := ob_I eS312 o_a3
                      have o_a66 := ob_I eS312 o_a66
                      have o_a69 := ob_I eS312 o_a69
                      have o_a94 := ob_I eS312 o_a94
                      have o_a98 := ob_I eS312 o_a98
                      have o_v0 := ob_I eS312 o_v0
                      intro _
                      exact hq _ _ hI g0 f0
                  · refine ⟨o_a3, ?_⟩
                    obtain ⟨a315, ea315, o_a315, l_a315⟩ := shl 35 rfl hI o_a3
                    refine ⟨a315, ea315, ?_⟩
                    refine ⟨o_a315, ?_⟩
                    refine ⟨(vin l_a315 (m := 12) (by decide) (qm334 r_x12 r_kv13 wh_x12 c14 c26 r_x35 c36 c46 c54 r_x64 q_x64 wh_x64 g_x67 g_x70 c71 c80 c93)), ?_⟩
                    intro x316 ex316
                    have gy_x316 : 0 ≤ v1 ∧ v1 < fI S1 a3 3 := by rw [← d_x35]; exact (qm335 r_x12 r_kv13 wh_x12 c14 c26 r_x35 c36 c46 c54 r_x64 q_x64 wh_x64 g_x67 g_x70 c71 c80 c93)
                    have g_x316 : (0 : Int32) ≤ x316 ∧ x316 ≤ (7 : Int32) := by rw [ex316]; exact wg_at (ml_wg hI o_v0 ea3) 0 rfl gy_x316 ea315
                    obtain ⟨kv317, d_kv317⟩ : ∃ z : Int32, z = fI S1 a3 2 := ⟨_, rfl⟩
                    have r_kv317 : (0 : Int32) ≤ kv317 ∧ kv317 ≤ (8 : Int32) := by rw [d_kv317]; exact nu 18 rfl hI o_a3
                    have gl_x316 : x316 < kv317 := by rw [ex316, d_kv317]; exact wg_lt (ml_wg hI o_v0 ea3) 0 rfl (by decide) gy_x316 ea315
                    intro _
                    obtain ⟨a319, ea319, o_a319, l_a319⟩ := shl 57 rfl hI o_v0
                    refine ⟨a319, ea319, ?_⟩
                    refine ⟨o_a319, ?_⟩
                    refine ⟨(vin l_a319 (m := 7) (by decide) (qm336 r_x12 r_kv13 wh_x12 c14 c26 r_x35 c36 c46 c54 r_x64 q_x64 wh_x64 g_x67 g_x70 c71 c80 c93)), ?_⟩
                    intro x320 ex320
                    have de_x320 := ml_de hI o_v0 (j := 21) (by decide) ea319 (0 : Int32).toNatClampNeg
                    rw [← ex320] at de_x320
                    have dr_x320 : (0 : Int64) ≤ x320 ∧ x320 ≤ (7 : Int64) := de_x320.1 (by decide)
                    refine ⟨fun c321 => ?_, fun c321 => ?_⟩
                    · refine ⟨a319, ea319, ?_⟩
                      refine ⟨o_a319, ?_⟩
                      refine ⟨(vin l_a319 (m := 7) (by decide) (qm337 r_x12 r_kv13 wh_x12 c14 c26 r_x35 c36 c46 c54 r_x64 q_x64 wh_x64 g_x67 g_x70 c71 c80 c93 g_x316 r_kv317 gl_x316 dr_x320 c321)), ?_⟩
                      intro x323 ex323
                      have de_x323 := ml_de hI o_v0 (j := 21) (by decide) ea319 (1 : Int32).toNatClampNeg
                      rw [← ex323] at de_x323
                      have dr_x323 : (0 : Int64) ≤ x323 ∧ x323 ≤ (999 : Int64) := de_x323.2 (by decide)
                      have lr_x323 : 0 ≤ x323.toInt32 ∧ x323.toInt32 ≤ (999 : Int32) := l2i_rng (by decide) dr_x323
                      intro x324 ex324
                      refine ⟨a3, ea3, ?_⟩
                      refine ⟨o_a3, ?_⟩
                      refine u_X10_minutes ?_
                      refine u_X10_minutes_0 ?_
                      refine ⟨o_a3, ?_⟩
                      obtain ⟨a326, ea326, o_a326, l_a326⟩ := shl 38 rfl hI o_a3
                      refine ⟨a326, ea326, ?_⟩
                      refine ⟨o_a326, ?_⟩
                      refine ⟨(vin l_a326 (m := 12) (by decide) (qm338 r_x12 r_kv13 wh_x12 c14 c26 r_x35 c36 c46 c54 r_x64 q_x64 wh_x64 g_x67 g_x70 c71 c80 c93 g_x316 r_kv317 gl_x316 dr_x320 c321)), ?_⟩
                      intro x327 ex327
                      have el328 := ex327.symm
                      have gy_x327 : 0 ≤ v1 ∧ v1 < fI S1 a3 3 := by rw [← d_x35]; exact (qm339 r_x12 r_kv13 wh_x12 c14 c26 r_x35 c36 c46 c54 r_x64 q_x64 wh_x64 g_x67 g_x70 c71 c80 c93 g_x316 r_kv317 gl_x316 dr_x320 c321)
                      have g_x327 : (1 : Int32) ≤ x327 ∧ x327 ≤ (60 : Int32) := by rw [ex327]; exact wg_at (ml_wg hI o_v0 ea3) 2 rfl gy_x327 ea326
                      refine ⟨(qm340 r_x12 r_kv13 wh_x12 c14 c26 r_x35 c36 c46 c54 r_x64 q_x64 wh_x64 g_x67 g_x70 c71 c80 c93 g_x316 r_kv317 gl_x316 dr_x320 c321), ?_⟩
                      intro x329 ex329
                      have dv_x329 : 0 ≤ x329 ∧ x329 ≤ ((x327 + v3) - (1 : Int32)) := by rw [ex329]; exact dv0 (qm341 r_x12 r_kv13 wh_x12 c14 c26 r_x35 c36 c46 c54 r_x64 q_x64 wh_x64 g_x67 g_x70 c71 c80 c93 g_x316 r_kv317 gl_x316 dr_x320 c321 g_x327 ex329) (i32pos (qm342 r_x12 r_kv13 wh_x12 c14 c26 r_x35 c36 c46 c54 r_x64 q_x64 wh_x64 g_x67 g_x70 c71 c80 c93 g_x316 r_kv317 gl_x316 dr_x320 c321 g_x327 ex329))
                      have dw_x329 : (1 : Int32) ≤ x329 := by rw [ex329]; exact dv1 (qm343 r_x12 r_kv13 wh_x12 c14 c26 r_x35 c36 c46 c54 r_x64 q_x64 wh_x64 g_x67 g_x70 c71 c80 c93 g_x316 r_kv317 gl_x316 dr_x320 c321 g_x327 ex329) (qm344 r_x12 r_kv13 wh_x12 c14 c26 r_x35 c36 c46 c54 r_x64 q_x64 wh_x64 g_x67 g_x70 c71 c80 c93 g_x316 r_kv317 gl_x316 dr_x320 c321 g_x327 ex329)
                      intro _
                      refine ⟨fun c331 => ?_, fun c331 => ?_⟩
                      · refine m_X11_keeps hI o_v0 (fun S333 hJ g334 fc335 p_S333 => ?_)
                        have hI := hJ
                        have l_a315 := (gr_len g334 o_a315).trans l_a315
                        have l_a319 := (gr_len g334 o_a319).trans l_a319
                        have l_a326 := (gr_len g334 o_a326).trans l_a326
                        have l_a66 := (gr_len g334 o_a66).trans l_a66
                        have l_a69 := (gr_len g334 o_a69).trans l_a69
                        have d_kv2 := d_kv2.trans (fri_at fc335 (by decide) (by decide) o_v0).symm
                        have d_x64 := d_x64.trans (fri_at fc335 (by decide) (by decide) o_v0).symm
                        have d_kv13 := d_kv13.trans (fri_at fc335 (by decide) (by decide) o_a3).symm
                        have d_x35 := d_x35.trans (fri_at fc335 (by decide) (by decide) o_a3).symm
                        have d_kv317 := d_kv317.trans (fri_at fc335 (by decide) (by decide) o_a3).symm
                        have ea3 := (frr_at fc335 (by decide) (by decide) o_v0).trans ea3
                        have ea66 := (frr_at fc335 (by decide) (by decide) o_a3).trans ea66
                        have ea69 := (frr_at fc335 (by decide) (by decide) o_a3).trans ea69
                        have ea315 := (frr_at fc335 (by decide) (by decide) o_a3).trans ea315
                        have ea319 := (frr_at fc335 (by decide) (by decide) o_v0).trans ea319
                        have ea326 := (frr_at fc335 (by decide) (by decide) o_a3).trans ea326
                        have f0 := fri_tr (S := S1) g0 f0 fc335 (by decide) (by decide)
                        have o_a3 := gr_ob g334 o_a3
                        have o_a315 := gr_ob g334 o_a315
                        have o_a319 := gr_ob g334 o_a319
                        have o_a326 := gr_ob g334 o_a326
                        have o_a66 := gr_ob g334 o_a66
                        have o_a69 := gr_ob g334 o_a69
                        have o_v0 := gr_ob g334 o_v0
                        have g0 := gr_tr (T := S1) g0 g334
                        intro _
                        have el328 := (congrFun (p_S333.1 _ _ o_a326 (by decide)) _).trans el328
                        refine i_X11_go_119 (fun (y0 : Nat) (y1 : Int32) (y2 : Int32) (y3 : Int32) (y4 : Int32) (y5 : Int32) (Z : HS) => ((2147483647 : Int32).toInt - y5.toInt).toNat) (fun (y0 : Nat) (y1 : Int32) (y2 : Int32) (y3 : Int32) (y4 : Int32) (y5 : Int32) (Z : HS) => (IV Z) ∧ (Gr S333 Z) ∧ (FRI [] [] S333 Z) ∧ (v0 = y0) ∧ (v1 = y1) ∧ (v2 = y2) ∧ (v3 = y3) ∧ (x324 = y4) ∧ (0 ≤ y5) ∧ (fI Z a326 v1.toNatClampNeg = x327)) ?_ _ _ _ _ _ _ _ ⟨hI, (gr_rf _), (fri_rf _ _ _), rfl, rfl, rfl, rfl, rfl, (qm345 r_x12 r_kv13 wh_x12 c14 c26 r_x35 c36 c46 c54 r_x64 q_x64 wh_x64 g_x67 g_x70 c71 c80 c93 g_x316 r_kv317 gl_x316 dr_x320 c321 dr_x323 lr_x323 ex324 g_x327 ex329 dv_x329 dw_x329 c331), el328⟩
                        intro w340 w342 w344 w346 w348 w350 S337 X351 ⟨hI, gL338, fL339, q341, q343, q345, q347, q349, i1u336, el328⟩ ih352
                        subst q341
                        subst q343
                        subst q345
                        subst q347
                        subst q349
                        have l_a315 := (gr_len gL338 o_a315).trans l_a315
                        have l_a319 := (gr_len gL338 o_a319).trans l_a319
                        have l_a326 := (gr_len gL338 o_a326).trans l_a326
                        have l_a66 := (gr_len gL338 o_a66).trans l_a66
                        have l_a69 := (gr_len gL338 o_a69).trans l_a69
                        have d_kv2 := d_kv2.trans (fri_at fL339 (by decide) (by decide) o_v0).symm
                        have d_x64 := d_x64.trans (fri_at fL339 (by decide) (by decide) o_v0).symm
                        have d_kv13 := d_kv13.trans (fri_at fL339 (by decide) (by decide) o_a3).symm
                        have d_x35 := d_x35.trans (fri_at fL339 (by decide) (by decide) o_a3).symm
                        have d_kv317 := d_kv317.trans (fri_at fL339 (by decide) (by decide) o_a3).symm
                        have ea3 := (frr_at fL339 (by decide) (by decide) o_v0).trans ea3
                        have ea66 := (frr_at fL339 (by decide) (by decide) o_a3).trans ea66
                        have ea69 := (frr_at fL339 (by decide) (by decide) o_a3).trans ea69
                        have ea315 := (frr_at fL339 (by decide) (by decide) o_a3).trans ea315
                        have ea319 := (frr_at fL339 (by decide) (by decide) o_v0).trans ea319
                        have ea326 := (frr_at fL339 (by decide) (by decide) o_a3).trans ea326
                        have f0 := fri_tr (S := S333) g0 f0 fL339 (by decide) (by decide)
                        have o_a3 := gr_ob gL338 o_a3
                        have o_a315 := gr_ob gL338 o_a315
                        have o_a319 := gr_ob gL338 o_a319
                        have o_a326 := gr_ob gL338 o_a326
                        have o_a66 := gr_ob gL338 o_a66
                        have o_a69 := gr_ob gL338 o_a69
                        have o_v0 := gr_ob gL338 o_v0
                        have g0 := gr_tr (T := S333) g0 gL338
                        refine u_X11_go_119 ?_
                        refine ⟨fun c353 => ?_, fun c353 => ?_⟩
                        · refine u_X11_go_171 ?_
                          refine ⟨o_v0, ?_⟩
                          refine ⟨a319, ea319, ?_⟩
                          refine ⟨a3, ea3, ?_⟩
                          refine ⟨o_a3, ?_⟩
                          refine u_X10_ends ?_
                          refine u_X10_ends_0 ?_
                          refine ⟨fun c356 => ?_, fun c356 => ?_⟩
                          · refine ⟨o_a3, ?_⟩
                            refine ⟨a315, ea315, ?_⟩
                            refine ⟨o_a315, ?_⟩
                            refine ⟨(vin l_a315 (m := 12) (by decide) (qm346 r_x12 r_kv13 wh_x12 c14 c26 r_x35 c36 c46 c54 r_x64 q_x64 wh_x64 g_x67 g_x70 c71 c80 c93 g_x316 r_kv317 gl_x316 dr_x320 c321 dr_x323 lr_x323 ex324 g_x327 ex329 dv_x329 dw_x329 c331 i1u336 c353 c356)), ?_⟩
                            intro x358 ex358
                            have gy_x358 : 0 ≤ v1 ∧ v1 < fI S337 a3 3 := by rw [← d_x35]; exact (qm347 r_x12 r_kv13 wh_x12 c14 c26 r_x35 c36 c46 c54 r_x64 q_x64 wh_x64 g_x67 g_x70 c71 c80 c93 g_x316 r_kv317 gl_x316 dr_x320 c321 dr_x323 lr_x323 ex324 g_x327 ex329 dv_x329 dw_x329 c331 i1u336 c353 c356)
                            have g_x358 : (0 : Int32) ≤ x358 ∧ x358 ≤ (7 : Int32) := by rw [ex358]; exact wg_at (ml_wg hI o_v0 ea3) 0 rfl gy_x358 ea315
                            have gl_x358 : x358 < kv317 := by rw [ex358, d_kv317]; exact wg_lt (ml_wg hI o_v0 ea3) 0 rfl (by decide) gy_x358 ea315
                            intro _
                            refine ⟨o_a319, ?_⟩
                            intro x360 ex360
                            have i361 : vp_in (0 : Int32) (hN _ a319) := (vin l_a319 (m := 7) (by decide) (qm348 r_x12 r_kv13 wh_x12 c14 c26 r_x35 c36 c46 c54 r_x64 q_x64 wh_x64 g_x67 g_x70 c71 c80 c93 g_x316 r_kv317 gl_x316 dr_x320 c321 dr_x323 lr_x323 ex324 g_x327 ex329 dv_x329 dw_x329 c331 i1u336 c353 c356 g_x358 gl_x358 ex360))
                            refine ⟨i361, ?_⟩
                            intro S362 eS362
                            have hIn : IV S362 := by rw [eS362]; exact iv11_aD hI (de_0 (by rw [ex360]; exact i2l_rng (lo := 0) (hi := 7) (qm349 r_x12 r_kv13 wh_x12 c14 c26 r_x35 c36 c46 c54 r_x64 q_x64 wh_x64 g_x67 g_x70 c71 c80 c93 g_x316 r_kv317 gl_x316 dr_x320 c321 dr_x323 lr_x323 ex324 g_x327 ex329 dv_x329 dw_x329 c331 i1u336 c353 c356 g_x358 gl_x358 ex360)))
                            have el328 := el_J eS362 el328
                            have hI := hIn
                            have f0 := fr_J eS362 f0
                            have d_kv2 := rd_J eS362 d_kv2
                            have d_x64 := rd_J eS362 d_x64
                            have d_kv13 := rd_J eS362 d_kv13
                            have d_x35 := rd_J eS362 d_x35
                            have d_kv317 := rd_J eS362 d_kv317
                            have ea3 := rf_J eS362 ea3
                            have ea66 := rf_J eS362 ea66
                            have ea69 := rf_J eS362 ea69
                            have ea315 := rf_J eS362 ea315
                            have ea319 := rf_J eS362 ea319
                            have ea326 := rf_J eS362 ea326
                            have l_a315 := ln_J eS362 l_a315
                            have l_a319 := ln_J eS362 l_a319
                            have l_a326 := ln_J eS362 l_a326
                            have l_a66 := ln_J eS362 l_a66
                            have l_a69 := ln_J eS362 l_a69
                            have g0 := gr_J eS362 g0
                            have o_a3 := ob_J eS362 o_a3
                            have o_a315 := ob_J eS362 o_a315
                            have o_a319 := ob_J eS362 o_a319
                            have o_a326 := ob_J eS362 o_a326
                            have o_a66 := ob_J eS362 o_a66
                            have o_a69 := ob_J eS362 o_a69
                            have o_v0 := ob_J eS362 o_v0
                            refine ⟨a319, ea319, ?_⟩
                            refine ⟨a3, ea3, ?_⟩
                            refine ⟨o_a3, ?_⟩
                            refine u_X10_minutes ?_
                            refine u_X10_minutes_0 ?_
                            refine ⟨o_a3, ?_⟩
                            refine ⟨a326, ea326, ?_⟩
                            refine ⟨o_a326, ?_⟩
                            refine ⟨(vin l_a326 (m := 12) (by decide) (qm350 r_x12 r_kv13 wh_x12 c14 c26 r_x35 c36 c46 c54 r_x64 q_x64 wh_x64 g_x67 g_x70 c71 c80 c93 g_x316 r_kv317 gl_x316 dr_x320 c321 dr_x323 lr_x323 ex324 g_x327 ex329 dv_x329 dw_x329 c331 i1u336 c353 c356 g_x358 gl_x358 ex360)), ?_⟩
                            intro x366 ex366
                            have qe_x366 : x366 = x327 := ex366.trans el328
                            have gy_x366 : 0 ≤ v1 ∧ v1 < fI S362 a3 3 := by rw [← d_x35]; exact (qm351 r_x12 r_kv13 wh_x12 c14 c26 r_x35 c36 c46 c54 r_x64 q_x64 wh_x64 g_x67 g_x70 c71 c80 c93 g_x316 r_kv317 gl_x316 dr_x320 c321 dr_x323 lr_x323 ex324 g_x327 ex329 dv_x329 dw_x329 c331 i1u336 c353 c356 g_x358 gl_x358 ex360 qe_x366)
                            have g_x366 : (1 : Int32) ≤ x366 ∧ x366 ≤ (60 : Int32) := by rw [ex366]; exact wg_at (ml_wg hI o_v0 ea3) 2 rfl gy_x366 ea326
                            refine ⟨(qm352 r_x12 r_kv13 wh_x12 c14 c26 r_x35 c36 c46 c54 r_x64 q_x64 wh_x64 g_x67 g_x70 c71 c80 c93 g_x316 r_kv317 gl_x316 dr_x320 c321 dr_x323 lr_x323 ex324 g_x327 ex329 dv_x329 dw_x329 c331 i1u336 c353 c356 g_x358 gl_x358 ex360 qe_x366 g_x366), ?_⟩
                            intro x367 ex367
                            have dv_x367 : 0 ≤ x367 ∧ x367 ≤ ((x366 + v3) - (1 : Int32)) := by rw [ex367]; exact dv0 (qm353 r_x12 r_kv13 wh_x12 c14 c26 r_x35 c36 c46 c54 r_x64 q_x64 wh_x64 g_x67 g_x70 c71 c80 c93 g_x316 r_kv317 gl_x316 dr_x320 c321 dr_x323 lr_x323 ex324 g_x327 ex329 dv_x329 dw_x329 c331 i1u336 c353 c356 g_x358 gl_x358 ex360 qe_x366 g_x366 ex367) (i32pos (qm354 r_x12 r_kv13 wh_x12 c14 c26 r_x35 c36 c46 c54 r_x64 q_x64 wh_x64 g_x67 g_x70 c71 c80 c93 g_x316 r_kv317 gl_x316 dr_x320 c321 dr_x323 lr_x323 ex324 g_x327 ex329 dv_x329 dw_x329 c331 i1u336 c353 c356 g_x358 gl_x358 ex360 qe_x366 g_x366 ex367))
                            have dw_x367 : (1 : Int32) ≤ x367 := by rw [ex367]; exact dv1 (qm355 r_x12 r_kv13 wh_x12 c14 c26 r_x35 c36 c46 c54 r_x64 q_x64 wh_x64 g_x67 g_x70 c71 c80 c93 g_x316 r_kv317 gl_x316 dr_x320 c321 dr_x323 lr_x323 ex324 g_x327 ex329 dv_x329 dw_x329 c331 i1u336 c353 c356 g_x358 gl_x358 ex360 qe_x366 g_x366 ex367) (qm356 r_x12 r_kv13 wh_x12 c14 c26 r_x35 c36 c46 c54 r_x64 q_x64 wh_x64 g_x67 g_x70 c71 c80 c93 g_x316 r_kv317 gl_x316 dr_x320 c321 dr_x323 lr_x323 ex324 g_x327 ex329 dv_x329 dw_x329 c331 i1u336 c353 c356 g_x358 gl_x358 ex360 qe_x366 g_x366 ex367)
                            intro _
                            refine ⟨o_a319, ?_⟩
                            intro x369 ex369
                            have i370 : vp_in (1 : Int32) (hN _ a319) := (vin l_a319 (m := 7) (by decide) (qm357 r_x12 r_kv13 wh_x12 c14 c26 r_x35 c36 c46 c54 r_x64 q_x64 wh_x64 g_x67 g_x70 c71 c80 c93 g_x316 r_kv317 gl_x316 dr_x320 c321 dr_x323 lr_x323 ex324 g_x327 ex329 dv_x329 dw_x329 c331 i1u336 c353 c356 g_x358 gl_x358 ex360 qe_x366 g_x366 ex367 dv_x367 dw_x367 ex369))
                            refine ⟨i370, ?_⟩
                            intro S371 eS371
                            have hIn : IV S371 := by rw [eS371]; exact iv11_aD hI (de_1 (by rw [ex369]; exact i2l_rng (lo := 0) (hi := 999) (qm358 r_x12 r_kv13 wh_x12 c14 c26 r_x35 c36 c46 c54 r_x64 q_x64 wh_x64 g_x67 g_x70 c71 c80 c93 g_x316 r_kv317 gl_x316 dr_x320 c321 dr_x323 lr_x323 ex324 g_x327 ex329 dv_x329 dw_x329 c331 i1u336 c353 c356 g_x358 gl_x358 ex360 qe_x366 g_x366 ex367 dv_x367 dw_x367 ex369)))
                            have el328 := el_J eS371 el328
                            have hI := hIn
                            have f0 := fr_J eS371 f0
                            have d_kv2 := rd_J eS371 d_kv2
                            have d_x64 := rd_J eS371 d_x64
                            have d_kv13 := rd_J eS371 d_kv13
                            have d_x35 := rd_J eS371 d_x35
                            have d_kv317 := rd_J eS371 d_kv317
                            have ea3 := rf_J eS371 ea3
                            have ea66 := rf_J eS371 ea66
                            have ea69 := rf_J eS371 ea69
                            have ea315 := rf_J eS371 ea315
                            have ea319 := rf_J eS371 ea319
                            have ea326 := rf_J eS371 ea326
                            have l_a315 := ln_J eS371 l_a315
                            have l_a319 := ln_J eS371 l_a319
                            have l_a326 := ln_J eS371 l_a326
                            have l_a66 := ln_J eS371 l_a66
                            have l_a69 := ln_J eS371 l_a69
                            have g0 := gr_J eS371 g0
                            have o_a3 := ob_J eS371 o_a3
                            have o_a315 := ob_J eS371 o_a315
                            have o_a319 := ob_J eS371 o_a319
                            have o_a326 := ob_J eS371 o_a326
                            have o_a66 := ob_J eS371 o_a66
                            have o_a69 := ob_J eS371 o_a69
                            have o_v0 := ob_J eS371 o_v0
                            refine ⟨a319, ea319, ?_⟩
                            refine ⟨o_a319, ?_⟩
                            refine ⟨(vin l_a319 (m := 7) (by decide) (qm357 r_x12 r_kv13 wh_x12 c14 c26 r_x35 c36 c46 c54 r_x64 q_x64 wh_x64 g_x67 g_x70 c71 c80 c93 g_x316 r_kv317 gl_x316 dr_x320 c321 dr_x323 lr_x323 ex324 g_x327 ex329 dv_x329 dw_x329 c331 i1u336 c353 c356 g_x358 gl_x358 ex360 qe_x366 g_x366 ex367 dv_x367 dw_x367 ex369)), ?_⟩
                            intro x373 ex373
                            have de_x373 := ml_de hI o_v0 (j := 21) (by decide) ea319 (1 : Int32).toNatClampNeg
                            rw [← ex373] at de_x373
                            have dr_x373 : (0 : Int64) ≤ x373 ∧ x373 ≤ (999 : Int64) := de_x373.2 (by decide)
                            have lr_x373 : 0 ≤ x373.toInt32 ∧ x373.toInt32 ≤ (999 : Int32) := l2i_rng (by decide) dr_x373
                            refine u_X11_good ?_
                            refine u_X11_good_0 ?_
                            refine ⟨o_v0, ?_⟩
                            intro S374 eS374
                            have hIn : IV S374 := by rw [eS374]; exact iv11_sI hI o_v0 (by decide) (nu_free (by decide))
                            have el328 := el_ob eS374 o_v0 o_a326 (by decide) el328
                            have hI := hIn
                            have f0 := fr_I eS374 g0 f0 o_v0 (by decide)
                            have d_kv2 := rd_Ij eS374 (by decide) d_kv2
                            have d_x64 := rd_Ij eS374 (by decide) d_x64
                            have d_kv13 := rd_Ik eS374 o_v0 o_a3 (by decide) d_kv13
                            have d_x35 := rd_Ik eS374 o_v0 o_a3 (by decide) d_x35
                            have d_kv317 := rd_Ik eS374 o_v0 o_a3 (by decide) d_kv317
                            obtain ⟨kv375, hkv375⟩ : ∃ z : Int32, z = (0 : Int32) := ⟨_, rfl⟩
                            have d_kv375 := rd_Is eS374 hkv375
                            have ea3 := rf_I eS374 ea3
                            have ea66 := rf_I eS374 ea66
                            have ea69 := rf_I eS374 ea69
                            have ea315 := rf_I eS374 ea315
                            have ea319 := rf_I eS374 ea319
                            have ea326 := rf_I eS374 ea326
                            have l_a315 := ln_I eS374 l_a315
                            have l_a319 := ln_I eS374 l_a319
                            have l_a326 := ln_I eS374 l_a326
                            have l_a66 := ln_I eS374 l_a66
                            have l_a69 := ln_I eS374 l_a69
                            have g0 := gr_I eS374 g0
                            have o_a3 := ob_I eS374 o_a3
                            have o_a315 := ob_I eS374 o_a315
                            have o_a319 := ob_I eS374 o_a319
                            have o_a326 := ob_I eS374 o_a326
                            have o_a66 := ob_I eS374 o_a66
                            have o_a69 := ob_I eS374 o_a69
                            have o_v0 := ob_I eS374 o_v0
                            intro S376 eS376
                            have hIn : IV S376 := by rw [eS376]; exact iv11_sI hI o_v0 (by decide) (nu_free (by decide))
                            have el328 := el_ob eS376 o_v0 o_a326 (by decide) el328
                            have hI := hIn
                            have f0 := fr_I eS376 g0 f0 o_v0 (by decide)
                            have d_kv2 := rd_Ij eS376 (by decide) d_kv2
                            have d_x64 := rd_Ij eS376 (by decide) d_x64
                            have d_kv13 := rd_Ik eS376 o_v0 o_a3 (by decide) d_kv13
                            have d_x35 := rd_Ik eS376 o_v0 o_a3 (by decide) d_x35
                            have d_kv317 := rd_Ik eS376 o_v0 o_a3 (by decide) d_kv317
                            have d_kv375 := rd_Ij eS376 (by decide) d_kv375
                            obtain ⟨kv377, hkv377⟩ : ∃ z : Int32, z = (-1 : Int32) := ⟨_, rfl⟩
                            have d_kv377 := rd_Is eS376 hkv377
                            have ea3 := rf_I eS376 ea3
                            have ea66 := rf_I eS376 ea66
                            have ea69 := rf_I eS376 ea69
                            have ea315 := rf_I eS376 ea315
                            have ea319 := rf_I eS376 ea319
                            have ea326 := rf_I eS376 ea326
                            have l_a315 := ln_I eS376 l_a315
                            have l_a319 := ln_I eS376 l_a319
                            have l_a326 := ln_I eS376 l_a326
                            have l_a66 := ln_I eS376 l_a66
                            have l_a69 := ln_I eS376 l_a69
                            have g0 := gr_I eS376 g0
                            have o_a3 := ob_I eS376 o_a3
                            have o_a315 := ob_I eS376 o_a315
                            have o_a319 := ob_I eS376 o_a319
                            have o_a326 := ob_I eS376 o_a326
                            have o_a66 := ob_I eS376 o_a66
                            have o_a69 := ob_I eS376 o_a69
                            have o_v0 := ob_I eS376 o_v0
                            intro _
                            exact hq _ _ hI g0 f0
                          · refine ⟨o_a3, ?_⟩
                            obtain ⟨a379, ea379, o_a379, l_a379⟩ := shl 36 rfl hI o_a3
                            refine ⟨a379, ea379, ?_⟩
                            refine ⟨o_a379, ?_⟩
                            refine ⟨(vin l_a379 (m := 12) (by decide) (qm359 r_x12 r_kv13 wh_x12 c14 c26 r_x35 c36 c46 c54 r_x64 q_x64 wh_x64 g_x67 g_x70 c71 c80 c93 g_x316 r_kv317 gl_x316 dr_x320 c321 dr_x323 lr_x323 ex324 g_x327 ex329 dv_x329 dw_x329 c331 i1u336 c353 c356)), ?_⟩
                            intro x380 ex380
                            have gy_x380 : 0 ≤ v1 ∧ v1 < fI S337 a3 3 := by rw [← d_x35]; exact (qm360 r_x12 r_kv13 wh_x12 c14 c26 r_x35 c36 c46 c54 r_x64 q_x64 wh_x64 g_x67 g_x70 c71 c80 c93 g_x316 r_kv317 gl_x316 dr_x320 c321 dr_x323 lr_x323 ex324 g_x327 ex329 dv_x329 dw_x329 c331 i1u336 c353 c356)
                            have g_x380 : (0 : Int32) ≤ x380 ∧ x380 ≤ (7 : Int32) := by rw [ex380]; exact wg_at (ml_wg hI o_v0 ea3) 1 rfl gy_x380 ea379
                            have gl_x380 : x380 < kv317 := by rw [ex380, d_kv317]; exact wg_lt (ml_wg hI o_v0 ea3) 1 rfl (by decide) gy_x380 ea379
                            intro _
                            refine ⟨o_a319, ?_⟩
                            intro x382 ex382
                            have i383 : vp_in (0 : Int32) (hN _ a319) := (vin l_a319 (m := 7) (by decide) (qm361 r_x12 r_kv13 wh_x12 c14 c26 r_x35 c36 c46 c54 r_x64 q_x64 wh_x64 g_x67 g_x70 c71 c80 c93 g_x316 r_kv317 gl_x316 dr_x320 c321 dr_x323 lr_x323 ex324 g_x327 ex329 dv_x329 dw_x329 c331 i1u336 c353 c356 g_x380 gl_x380 ex382))
                            refine ⟨i383, ?_⟩
                            intro S384 eS384
                            have hIn : IV S384 := by rw [eS384]; exact iv11_aD hI (de_0 (by rw [ex382]; exact i2l_rng (lo := 0) (hi := 7) (qm362 r_x12 r_kv13 wh_x12 c14 c26 r_x35 c36 c46 c54 r_x64 q_x64 wh_x64 g_x67 g_x70 c71 c80 c93 g_x316 r_kv317 gl_x316 dr_x320 c321 dr_x323 lr_x323 ex324 g_x327 ex329 dv_x329 dw_x329 c331 i1u336 c353 c356 g_x380 gl_x380 ex382)))
                            have el328 := el_J eS384 el328
                            have hI := hIn
                            have f0 := fr_J eS384 f0
                            have d_kv2 := rd_J eS384 d_kv2
                            have d_x64 := rd_J eS384 d_x64
                            have d_kv13 := rd_J eS384 d_kv13
                            have d_x35 := rd_J eS384 d_x35
                            have d_kv317 := rd_J eS384 d_kv317
                            have ea3 := rf_J eS384 ea3
                            have ea66 := rf_J eS384 ea66
                            have ea69 := rf_J eS384 ea69
                            have ea315 := rf_J eS384 ea315
                            have ea319 := rf_J eS384 ea319
                            have ea326 := rf_J eS384 ea326
                            have ea379 := rf_J eS384 ea379
                            have l_a315 := ln_J eS384 l_a315
                            have l_a319 := ln_J eS384 l_a319
                            have l_a326 := ln_J eS384 l_a326
                            have l_a379 := ln_J eS384 l_a379
                            have l_a66 := ln_J eS384 l_a66
                            have l_a69 := ln_J eS384 l_a69
                            have g0 := gr_J eS384 g0
                            have o_a3 := ob_J eS384 o_a3
                            have o_a315 := ob_J eS384 o_a315
                            have o_a319 := ob_J eS384 o_a319
                            have o_a326 := ob_J eS384 o_a326
                            have o_a379 := ob_J eS384 o_a379
                            have o_a66 := ob_J eS384 o_a66
                            have o_a69 := ob_J eS384 o_a69
                            have o_v0 := ob_J eS384 o_v0
                            refine ⟨a319, ea319, ?_⟩
                            refine ⟨a3, ea3, ?_⟩
                            refine ⟨o_a3, ?_⟩
                            refine u_X10_minutes ?_
                            refine u_X10_minutes_0 ?_
                            refine ⟨o_a3, ?_⟩
                            refine ⟨a326, ea326, ?_⟩
                            refine ⟨o_a326, ?_⟩
                            refine ⟨(vin l_a326 (m := 12) (by decide) (qm363 r_x12 r_kv13 wh_x12 c14 c26 r_x35 c36 c46 c54 r_x64 q_x64 wh_x64 g_x67 g_x70 c71 c80 c93 g_x316 r_kv317 gl_x316 dr_x320 c321 dr_x323 lr_x323 ex324 g_x327 ex329 dv_x329 dw_x329 c331 i1u336 c353 c356 g_x380 gl_x380 ex382)), ?_⟩
                            intro x388 ex388
                            have qe_x388 : x388 = x327 := ex388.trans el328
                            have gy_x388 : 0 ≤ v1 ∧ v1 < fI S384 a3 3 := by rw [← d_x35]; exact (qm364 r_x12 r_kv13 wh_x12 c14 c26 r_x35 c36 c46 c54 r_x64 q_x64 wh_x64 g_x67 g_x70 c71 c80 c93 g_x316 r_kv317 gl_x316 dr_x320 c321 dr_x323 lr_x323 ex324 g_x327 ex329 dv_x329 dw_x329 c331 i1u336 c353 c356 g_x380 gl_x380 ex382 qe_x388)
                            have g_x388 : (1 : Int32) ≤ x388 ∧ x388 ≤ (60 : Int32) := by rw [ex388]; exact wg_at (ml_wg hI o_v0 ea3) 2 rfl gy_x388 ea326
                            refine ⟨(qm365 r_x12 r_kv13 wh_x12 c14 c26 r_x35 c36 c46 c54 r_x64 q_x64 wh_x64 g_x67 g_x70 c71 c80 c93 g_x316 r_kv317 gl_x316 dr_x320 c321 dr_x323 lr_x323 ex324 g_x327 ex329 dv_x329 dw_x329 c331 i1u336 c353 c356 g_x380 gl_x380 ex382 qe_x388 g_x388), ?_⟩
                            intro x389 ex389
                            have dv_x389 : 0 ≤ x389 ∧ x389 ≤ ((x388 + v3) - (1 : Int32)) := by rw [ex389]; exact dv0 (qm366 r_x12 r_kv13 wh_x12 c14 c26 r_x35 c36 c46 c54 r_x64 q_x64 wh_x64 g_x67 g_x70 c71 c80 c93 g_x316 r_kv317 gl_x316 dr_x320 c321 dr_x323 lr_x323 ex324 g_x327 ex329 dv_x329 dw_x329 c331 i1u336 c353 c356 g_x380 gl_x380 ex382 qe_x388 g_x388 ex389) (i32pos (qm367 r_x12 r_kv13 wh_x12 c14 c26 r_x35 c36 c46 c54 r_x64 q_x64 wh_x64 g_x67 g_x70 c71 c80 c93 g_x316 r_kv317 gl_x316 dr_x320 c321 dr_x323 lr_x323 ex324 g_x327 ex329 dv_x329 dw_x329 c331 i1u336 c353 c356 g_x380 gl_x380 ex382 qe_x388 g_x388 ex389))
                            have dw_x389 : (1 : Int32) ≤ x389 := by rw [ex389]; exact dv1 (qm368 r_x12 r_kv13 wh_x12 c14 c26 r_x35 c36 c46 c54 r_x64 q_x64 wh_x64 g_x67 g_x70 c71 c80 c93 g_x316 r_kv317 gl_x316 dr_x320 c321 dr_x323 lr_x323 ex324 g_x327 ex329 dv_x329 dw_x329 c331 i1u336 c353 c356 g_x380 gl_x380 ex382 qe_x388 g_x388 ex389) (qm369 r_x12 r_kv13 wh_x12 c14 c26 r_x35 c36 c46 c54 r_x64 q_x64 wh_x64 g_x67 g_x70 c71 c80 c93 g_x316 r_kv317 gl_x316 dr_x320 c321 dr_x323 lr_x323 ex324 g_x327 ex329 dv_x329 dw_x329 c331 i1u336 c353 c356 g_x380 gl_x380 ex382 qe_x388 g_x388 ex389)
                            intro _
                            refine ⟨o_a319, ?_⟩
                            intro x391 ex391
                            have i392 : vp_in (1 : Int32) (hN _ a319) := (vin l_a319 (m := 7) (by decide) (qm370 r_x12 r_kv13 wh_x12 c14 c26 r_x35 c36 c46 c54 r_x64 q_x64 wh_x64 g_x67 g_x70 c71 c80 c93 g_x316 r_kv317 gl_x316 dr_x320 c321 dr_x323 lr_x323 ex324 g_x327 ex329 dv_x329 dw_x329 c331 i1u336 c353 c356 g_x380 gl_x380 ex382 qe_x388 g_x388 ex389 dv_x389 dw_x389 ex391))
                            refine ⟨i392, ?_⟩
                            intro S393 eS393
                            have hIn : IV S393 := by rw [eS393]; exact iv11_aD hI (de_1 (by rw [ex391]; exact i2l_rng (lo := 0) (hi := 999) (qm371 r_x12 r_kv13 wh_x12 c14 c26 r_x35 c36 c46 c54 r_x64 q_x64 wh_x64 g_x67 g_x70 c71 c80 c93 g_x316 r_kv317 gl_x316 dr_x320 c321 dr_x323 lr_x323 ex324 g_x327 ex329 dv_x329 dw_x329 c331 i1u336 c353 c356 g_x380 gl_x380 ex382 qe_x388 g_x388 ex389 dv_x389 dw_x389 ex391)))
                            have el328 := el_J eS393 el328
                            have hI := hIn
                            have f0 := fr_J eS393 f0
                            have d_kv2 := rd_J eS393 d_kv2
                            have d_x64 := rd_J eS393 d_x64
                            have d_kv13 := rd_J eS393 d_kv13
                            have d_x35 := rd_J eS393 d_x35
                            have d_kv317 := rd_J eS393 d_kv317
                            have ea3 := rf_J eS393 ea3
                            have ea66 := rf_J eS393 ea66
                            have ea69 := rf_J eS393 ea69
                            have ea315 := rf_J eS393 ea315
                            have ea319 := rf_J eS393 ea319
                            have ea326 := rf_J eS393 ea326
                            have ea379 := rf_J eS393 ea379
                            have l_a315 := ln_J eS393 l_a315
                            have l_a319 := ln_J eS393 l_a319
                            have l_a326 := ln_J eS393 l_a326
                            have l_a379 := ln_J eS393 l_a379
                            have l_a66 := ln_J eS393 l_a66
                            have l_a69 := ln_J eS393 l_a69
                            have g0 := gr_J eS393 g0
                            have o_a3 := ob_J eS393 o_a3
                            have o_a315 := ob_J eS393 o_a315
                            have o_a319 := ob_J eS393 o_a319
                            have o_a326 := ob_J eS393 o_a326
                            have o_a379 := ob_J eS393 o_a379
                            have o_a66 := ob_J eS393 o_a66
                            have o_a69 := ob_J eS393 o_a69
                            have o_v0 := ob_J eS393 o_v0
                            refine ⟨a319, ea319, ?_⟩
                            refine ⟨o_a319, ?_⟩
                            refine ⟨(vin l_a319 (m := 7) (by decide) (qm370 r_x12 r_kv13 wh_x12 c14 c26 r_x35 c36 c46 c54 r_x64 q_x64 wh_x64 g_x67 g_x70 c71 c80 c93 g_x316 r_kv317 gl_x316 dr_x320 c321 dr_x323 lr_x323 ex324 g_x327 ex329 dv_x329 dw_x329 c331 i1u336 c353 c356 g_x380 gl_x380 ex382 qe_x388 g_x388 ex389 dv_x389 dw_x389 ex391)), ?_⟩
                            intro x395 ex395
                            have de_x395 := ml_de hI o_v0 (j := 21) (by decide) ea319 (1 : Int32).toNatClampNeg
                            rw [← ex395] at de_x395
                            have dr_x395 : (0 : Int64) ≤ x395 ∧ x395 ≤ (999 : Int64) := de_x395.2 (by decide)
                            have lr_x395 : 0 ≤ x395.toInt32 ∧ x395.toInt32 ≤ (999 : Int32) := l2i_rng (by decide) dr_x395
                            refine u_X11_good ?_
                            refine u_X11_good_0 ?_
                            refine ⟨o_v0, ?_⟩
                            intro S396 eS396
                            have hIn : IV S396 := by rw [eS396]; exact iv11_sI hI o_v0 (by decide) (nu_free (by decide))
                            have el328 := el_ob eS396 o_v0 o_a326 (by decide) el328
                            have hI := hIn
                            have f0 := fr_I eS396 g0 f0 o_v0 (by decide)
                            have d_kv2 := rd_Ij eS396 (by decide) d_kv2
                            have d_x64 := rd_Ij eS396 (by decide) d_x64
                            have d_kv13 := rd_Ik eS396 o_v0 o_a3 (by decide) d_kv13
                            have d_x35 := rd_Ik eS396 o_v0 o_a3 (by decide) d_x35
                            have d_kv317 := rd_Ik eS396 o_v0 o_a3 (by decide) d_kv317
                            obtain ⟨kv397, hkv397⟩ : ∃ z : Int32, z = (0 : Int32) := ⟨_, rfl⟩
                            have d_kv397 := rd_Is eS396 hkv397
                            have ea3 := rf_I eS396 ea3
                            have ea66 := rf_I eS396 ea66
                            have ea69 := rf_I eS396 ea69
                            have ea315 := rf_I eS396 ea315
                            have ea319 := rf_I eS396 ea319
                            have ea326 := rf_I eS396 ea326
                            have ea379 := rf_I eS396 ea379
                            have l_a315 := ln_I eS396 l_a315
                            have l_a319 := ln_I eS396 l_a319
                            have l_a326 := ln_I eS396 l_a326
                            have l_a379 := ln_I eS396 l_a379
                            have l_a66 := ln_I eS396 l_a66
                            have l_a69 := ln_I eS396 l_a69
                            have g0 := gr_I eS396 g0
                            have o_a3 := ob_I eS396 o_a3
                            have o_a315 := ob_I eS396 o_a315
                            have o_a319 := ob_I eS396 o_a319
                            have o_a326 := ob_I eS396 o_a326
                            have o_a379 := ob_I eS396 o_a379
                            have o_a66 := ob_I eS396 o_a66
                            have o_a69 := ob_I eS396 o_a69
                            have o_v0 := ob_I eS396 o_v0
                            intro S398 eS398
                            have hIn : IV S398 := by rw [eS398]; exact iv11_sI hI o_v0 (by decide) (nu_free (by decide))
                            have el328 := el_ob eS398 o_v0 o_a326 (by decide) el328
                            have hI := hIn
                            have f0 := fr_I eS398 g0 f0 o_v0 (by decide)
                            have d_kv2 := rd_Ij eS398 (by decide) d_kv2
                            have d_x64 := rd_Ij eS398 (by decide) d_x64
                            have d_kv13 := rd_Ik eS398 o_v0 o_a3 (by decide) d_kv13
                            have d_x35 := rd_Ik eS398 o_v0 o_a3 (by decide) d_x35
                            have d_kv317 := rd_Ik eS398 o_v0 o_a3 (by decide) d_kv317
                            have d_kv397 := rd_Ij eS398 (by decide) d_kv397
                            obtain ⟨kv399, hkv399⟩ : ∃ z : Int32, z = (-1 : Int32) := ⟨_, rfl⟩
                            have d_kv399 := rd_Is eS398 hkv399
                            have ea3 := rf_I eS398 ea3
                            have ea66 := rf_I eS398 ea66
                            have ea69 := rf_I eS398 ea69
                            have ea315 := rf_I eS398 ea315
                            have ea319 := rf_I eS398 ea319
                            have ea326 := rf_I eS398 ea326
                            have ea379 := rf_I eS398 ea379
                            have l_a315 := ln_I eS398 l_a315
                            have l_a319 := ln_I eS398 l_a319
                            have l_a326 := ln_I eS398 l_a326
                            have l_a379 := ln_I eS398 l_a379
                            have l_a66 := ln_I eS398 l_a66
                            have l_a69 := ln_I eS398 l_a69
                            have g0 := gr_I eS398 g0
                            have o_a3 := ob_I eS398 o_a3
                            have o_a315 := ob_I eS398 o_a315
                            have o_a319 := ob_I eS398 o_a319
                            have o_a326 := ob_I eS398 o_a326
                            have o_a379 := ob_I eS398 o_a379
                            have o_a66 := ob_I eS398 o_a66
                            have o_a69 := ob_I eS398 o_a69
                            have o_v0 := ob_I eS398 o_v0
                            intro _
                            exact hq _ _ hI g0 f0
                        · refine ⟨o_v0, ?_⟩
                          refine u_X11_rainsIn ?_
                          refine u_X11_rainsIn_0 ?_
                          refine ⟨o_v0, ?_⟩
                          refine u_X11_hourOf ?_
                          refine u_X11_hourOf_0 ?_
                          refine ⟨o_v0, ?_⟩
                          refine ⟨a3, ea3, ?_⟩
                          refine ⟨o_a3, ?_⟩
                          intro x402 ex402
                          have r_x402 : (0 : Int32) ≤ x402 ∧ x402 ≤ (60 : Int32) := by rw [ex402]; exact nu 16 rfl hI o_a3
                          have d_x402 := ex402
                          have hh_x402 : 1 ≤ x402 := by rw [ex402]; exact ml_hour hI o_v0 ea3
                          refine ⟨(qm372 r_x12 r_kv13 wh_x12 c14 c26 r_x35 c36 c46 c54 r_x64 q_x64 wh_x64 g_x67 g_x70 c71 c80 c93 g_x316 r_kv317 gl_x316 dr_x320 c321 dr_x323 lr_x323 ex324 g_x327 ex329 dv_x329 dw_x329 c331 i1u336 c353 r_x402 hh_x402), ?_⟩
                          intro x403 ex403
                          have dv_x403 : 0 ≤ x403 ∧ x403 ≤ x324 := by rw [ex403]; exact dv0 (qm373 r_x12 r_kv13 wh_x12 c14 c26 r_x35 c36 c46 c54 r_x64 q_x64 wh_x64 g_x67 g_x70 c71 c80 c93 g_x316 r_kv317 gl_x316 dr_x320 c321 dr_x323 lr_x323 ex324 g_x327 ex329 dv_x329 dw_x329 c331 i1u336 c353 r_x402 hh_x402 ex403) (i32pos (qm374 r_x12 r_kv13 wh_x12 c14 c26 r_x35 c36 c46 c54 r_x64 q_x64 wh_x64 g_x67 g_x70 c71 c80 c93 g_x316 r_kv317 gl_x316 dr_x320 c321 dr_x323 lr_x323 ex324 g_x327 ex329 dv_x329 dw_x329 c331 i1u336 c353 r_x402 hh_x402 ex403))
                          intro _
                          refine ⟨a3, ea3, ?_⟩
                          refine ⟨o_a3, ?_⟩
                          intro x406 ex406
                          have r_x406 : (0 : Int32) ≤ x406 ∧ x406 ≤ (6 : Int32) := by rw [ex406]; exact nu 17 rfl hI o_a3
                          have d_x406 := ex406
                          refine ⟨fun c407 => ?_, fun c407 => ?_⟩
                          · intro _ _
                            refine ⟨fun c409 => ?_, fun c409 => absurd (show ¬ (0 : Int32) = 0 from c409) (by decide)⟩
                            refine u_X11_go_171 ?_
                            refine ⟨o_v0, ?_⟩
                            refine ⟨a319, ea319, ?_⟩
                            refine ⟨a3, ea3, ?_⟩
                            refine ⟨o_a3, ?_⟩
                            refine u_X10_ends ?_
                            refine u_X10_ends_0 ?_
                            refine ⟨fun c412 => ?_, fun c412 => ?_⟩
                            · refine ⟨o_a3, ?_⟩
                              refine ⟨a315, ea315, ?_⟩
                              refine ⟨o_a315, ?_⟩
                              refine ⟨(vin l_a315 (m := 12) (by decide) (qm375 r_x12 r_kv13 wh_x12 c14 c26 r_x35 c36 c46 c54 r_x64 q_x64 wh_x64 g_x67 g_x70 c71 c80 c93 g_x316 r_kv317 gl_x316 dr_x320 c321 dr_x323 lr_x323 ex324 g_x327 ex329 dv_x329 dw_x329 c331 i1u336 c353 r_x402 hh_x402 ex403 dv_x403 r_x406 c407 c412)), ?_⟩
                              intro x414 ex414
                              have gy_x414 : 0 ≤ v1 ∧ v1 < fI S337 a3 3 := by rw [← d_x35]; exact (qm376 r_x12 r_kv13 wh_x12 c14 c26 r_x35 c36 c46 c54 r_x64 q_x64 wh_x64 g_x67 g_x70 c71 c80 c93 g_x316 r_kv317 gl_x316 dr_x320 c321 dr_x323 lr_x323 ex324 g_x327 ex329 dv_x329 dw_x329 c331 i1u336 c353 r_x402 hh_x402 ex403 dv_x403 r_x406 c407 c412)
                              have g_x414 : (0 : Int32) ≤ x414 ∧ x414 ≤ (7 : Int32) := by rw [ex414]; exact wg_at (ml_wg hI o_v0 ea3) 0 rfl gy_x414 ea315
                              have gl_x414 : x414 < kv317 := by rw [ex414, d_kv317]; exact wg_lt (ml_wg hI o_v0 ea3) 0 rfl (by decide) gy_x414 ea315
                              intro _
                              refine ⟨o_a319, ?_⟩
                              intro x416 ex416
                              have i417 : vp_in (0 : Int32) (hN _ a319) := (vin l_a319 (m := 7) (by decide) (qm377 r_x12 r_kv13 wh_x12 c14 c26 r_x35 c36 c46 c54 r_x64 q_x64 wh_x64 g_x67 g_x70 c71 c80 c93 g_x316 r_kv317 gl_x316 dr_x320 c321 dr_x323 lr_x323 ex324 g_x327 ex329 dv_x329 dw_x329 c331 i1u336 c353 r_x402 hh_x402 ex403 dv_x403 r_x406 c407 c412 g_x414 gl_x414 ex416))
                              refine ⟨i417, ?_⟩
                              intro S418 eS418
                              have hIn : IV S418 := by rw [eS418]; exact iv11_aD hI (de_0 (by rw [ex416]; exact i2l_rng (lo := 0) (hi := 7) (qm378 r_x12 r_kv13 wh_x12 c14 c26 r_x35 c36 c46 c54 r_x64 q_x64 wh_x64 g_x67 g_x70 c71 c80 c93 g_x316 r_kv317 gl_x316 dr_x320 c321 dr_x323 lr_x323 ex324 g_x327 ex329 dv_x329 dw_x329 c331 i1u336 c353 r_x402 hh_x402 ex403 dv_x403 r_x406 c407 c412 g_x414 gl_x414 ex416)))
                              have el328 := el_J eS418 el328
                              have hI := hIn
                              have f0 := fr_J eS418 f0
                              have d_kv2 := rd_J eS418 d_kv2
                              have d_x64 := rd_J eS418 d_x64
                              have d_kv13 := rd_J eS418 d_kv13
                              have d_x35 := rd_J eS418 d_x35
                              have d_kv317 := rd_J eS418 d_kv317
                              have d_x402 := rd_J eS418 d_x402
                              have d_x406 := rd_J eS418 d_x406
                              have ea3 := rf_J eS418 ea3
                              have ea66 := rf_J eS418 ea66
                              have ea69 := rf_J eS418 ea69
                              have ea315 := rf_J eS418 ea315
                              have ea319 := rf_J eS418 ea319
                              have ea326 := rf_J eS418 ea326
                              have l_a315 := ln_J eS418 l_a315
                              have l_a319 := ln_J eS418 l_a319
                              have l_a326 := ln_J eS418 l_a326
                              have l_a66 := ln_J eS418 l_a66
                              have l_a69 := ln_J eS418 l_a69
                              have g0 := gr_J eS418 g0
                              have o_a3 := ob_J eS418 o_a3
                              have o_a315 := ob_J eS418 o_a315
                              have o_a319 := ob_J eS418 o_a319
                              have o_a326 := ob_J eS418 o_a326
                              have o_a66 := ob_J eS418 o_a66
                              have o_a69 := ob_J eS418 o_a69
                              have o_v0 := ob_J eS418 o_v0
                              refine ⟨a319, ea319, ?_⟩
                              refine ⟨a3, ea3, ?_⟩
                              refine ⟨o_a3, ?_⟩
                              refine u_X10_minutes ?_
                              refine u_X10_minutes_0 ?_
                              refine ⟨o_a3, ?_⟩
                              refine ⟨a326, ea326, ?_⟩
                              refine ⟨o_a326, ?_⟩
                              refine ⟨(vin l_a326 (m := 12) (by decide) (qm379 r_x12 r_kv13 wh_x12 c14 c26 r_x35 c36 c46 c54 r_x64 q_x64 wh_x64 g_x67 g_x70 c71 c80 c93 g_x316 r_kv317 gl_x316 dr_x320 c321 dr_x323 lr_x323 ex324 g_x327 ex329 dv_x329 dw_x329 c331 i1u336 c353 r_x402 hh_x402 ex403 dv_x403 r_x406 c407 c412 g_x414 gl_x414 ex416)), ?_⟩
                              intro x422 ex422
                              have qe_x422 : x422 = x327 := ex422.trans el328
                              have gy_x422 : 0 ≤ v1 ∧ v1 < fI S418 a3 3 := by rw [← d_x35]; exact (qm380 r_x12 r_kv13 wh_x12 c14 c26 r_x35 c36 c46 c54 r_x64 q_x64 wh_x64 g_x67 g_x70 c71 c80 c93 g_x316 r_kv317 gl_x316 dr_x320 c321 dr_x323 lr_x323 ex324 g_x327 ex329 dv_x329 dw_x329 c331 i1u336 c353 r_x402 hh_x402 ex403 dv_x403 r_x406 c407 c412 g_x414 gl_x414 ex416 qe_x422)
                              have g_x422 : (1 : Int32) ≤ x422 ∧ x422 ≤ (60 : Int32) := by rw [ex422]; exact wg_at (ml_wg hI o_v0 ea3) 2 rfl gy_x422 ea326
                              refine ⟨(qm381 r_x12 r_kv13 wh_x12 c14 c26 r_x35 c36 c46 c54 r_x64 q_x64 wh_x64 g_x67 g_x70 c71 c80 c93 g_x316 r_kv317 gl_x316 dr_x320 c321 dr_x323 lr_x323 ex324 g_x327 ex329 dv_x329 dw_x329 c331 i1u336 c353 r_x402 hh_x402 ex403 dv_x403 r_x406 c407 c412 g_x414 gl_x414 ex416 qe_x422 g_x422), ?_⟩
                              intro x423 ex423
                              have dv_x423 : 0 ≤ x423 ∧ x423 ≤ ((x422 + v3) - (1 : Int32)) := by rw [ex423]; exact dv0 (qm382 r_x12 r_kv13 wh_x12 c14 c26 r_x35 c36 c46 c54 r_x64 q_x64 wh_x64 g_x67 g_x70 c71 c80 c93 g_x316 r_kv317 gl_x316 dr_x320 c321 dr_x323 lr_x323 ex324 g_x327 ex329 dv_x329 dw_x329 c331 i1u336 c353 r_x402 hh_x402 ex403 dv_x403 r_x406 c407 c412 g_x414 gl_x414 ex416 qe_x422 g_x422 ex423) (i32pos (qm383 r_x12 r_kv13 wh_x12 c14 c26 r_x35 c36 c46 c54 r_x64 q_x64 wh_x64 g_x67 g_x70 c71 c80 c93 g_x316 r_kv317 gl_x316 dr_x320 c321 dr_x323 lr_x323 ex324 g_x327 ex329 dv_x329 dw_x329 c331 i1u336 c353 r_x402 hh_x402 ex403 dv_x403 r_x406 c407 c412 g_x414 gl_x414 ex416 qe_x422 g_x422 ex423))
                              have dw_x423 : (1 : Int32) ≤ x423 := by rw [ex423]; exact dv1 (qm384 r_x12 r_kv13 wh_x12 c14 c26 r_x35 c36 c46 c54 r_x64 q_x64 wh_x64 g_x67 g_x70 c71 c80 c93 g_x316 r_kv317 gl_x316 dr_x320 c321 dr_x323 lr_x323 ex324 g_x327 ex329 dv_x329 dw_x329 c331 i1u336 c353 r_x402 hh_x402 ex403 dv_x403 r_x406 c407 c412 g_x414 gl_x414 ex416 qe_x422 g_x422 ex423) (qm385 r_x12 r_kv13 wh_x12 c14 c26 r_x35 c36 c46 c54 r_x64 q_x64 wh_x64 g_x67 g_x70 c71 c80 c93 g_x316 r_kv317 gl_x316 dr_x320 c321 dr_x323 lr_x323 ex324 g_x327 ex329 dv_x329 dw_x329 c331 i1u336 c353 r_x402 hh_x402 ex403 dv_x403 r_x406 c407 c412 g_x414 gl_x414 ex416 qe_x422 g_x422 ex423)
                              intro _
                              refine ⟨o_a319, ?_⟩
                              intro x425 ex425
                              have i426 : vp_in (1 : Int32) (hN _ a319) := (vin l_a319 (m := 7) (by decide) (qm386 r_x12 r_kv13 wh_x12 c14 c26 r_x35 c36 c46 c54 r_x64 q_x64 wh_x64 g_x67 g_x70 c71 c80 c93 g_x316 r_kv317 gl_x316 dr_x320 c321 dr_x323 lr_x323 ex324 g_x327 ex329 dv_x329 dw_x329 c331 i1u336 c353 r_x402 hh_x402 ex403 dv_x403 r_x406 c407 c412 g_x414 gl_x414 ex416 qe_x422 g_x422 ex423 dv_x423 dw_x423 ex425))
                              refine ⟨i426, ?_⟩
                              intro S427 eS427
                              have hIn : IV S427 := by rw [eS427]; exact iv11_aD hI (de_1 (by rw [ex425]; exact i2l_rng (lo := 0) (hi := 999) (qm387 r_x12 r_kv13 wh_x12 c14 c26 r_x35 c36 c46 c54 r_x64 q_x64 wh_x64 g_x67 g_x70 c71 c80 c93 g_x316 r_kv317 gl_x316 dr_x320 c321 dr_x323 lr_x323 ex324 g_x327 ex329 dv_x329 dw_x329 c331 i1u336 c353 r_x402 hh_x402 ex403 dv_x403 r_x406 c407 c412 g_x414 gl_x414 ex416 qe_x422 g_x422 ex423 dv_x423 dw_x423 ex425)))
                              have el328 := el_J eS427 el328
                              have hI := hIn
                              have f0 := fr_J eS427 f0
                              have d_kv2 := rd_J eS427 d_kv2
                              have d_x64 := rd_J eS427 d_x64
                              have d_kv13 := rd_J eS427 d_kv13
                              have d_x35 := rd_J eS427 d_x35
                              have d_kv317 := rd_J eS427 d_kv317
                              have d_x402 := rd_J eS427 d_x402
                              have d_x406 := rd_J eS427 d_x406
                              have ea3 := rf_J eS427 ea3
                              have ea66 := rf_J eS427 ea66
                              have ea69 := rf_J eS427 ea69
                              have ea315 := rf_J eS427 ea315
                              have ea319 := rf_J eS427 ea319
                              have ea326 := rf_J eS427 ea326
                              have l_a315 := ln_J eS427 l_a315
                              have l_a319 := ln_J eS427 l_a319
                              have l_a326 := ln_J eS427 l_a326
                              have l_a66 := ln_J eS427 l_a66
                              have l_a69 := ln_J eS427 l_a69
                              have g0 := gr_J eS427 g0
                              have o_a3 := ob_J eS427 o_a3
                              have o_a315 := ob_J eS427 o_a315
                              have o_a319 := ob_J eS427 o_a319
                              have o_a326 := ob_J eS427 o_a326
                              have o_a66 := ob_J eS427 o_a66
                              have o_a69 := ob_J eS427 o_a69
                              have o_v0 := ob_J eS427 o_v0
                              refine ⟨a319, ea319, ?_⟩
                              refine ⟨o_a319, ?_⟩
                              refine ⟨(vin l_a319 (m := 7) (by decide) (qm386 r_x12 r_kv13 wh_x12 c14 c26 r_x35 c36 c46 c54 r_x64 q_x64 wh_x64 g_x67 g_x70 c71 c80 c93 g_x316 r_kv317 gl_x316 dr_x320 c321 dr_x323 lr_x323 ex324 g_x327 ex329 dv_x329 dw_x329 c331 i1u336 c353 r_x402 hh_x402 ex403 dv_x403 r_x406 c407 c412 g_x414 gl_x414 ex416 qe_x422 g_x422 ex423 dv_x423 dw_x423 ex425)), ?_⟩
                              intro x429 ex429
                              have de_x429 := ml_de hI o_v0 (j := 21) (by decide) ea319 (1 : Int32).toNatClampNeg
                              rw [← ex429] at de_x429
                              have dr_x429 : (0 : Int64) ≤ x429 ∧ x429 ≤ (999 : Int64) := de_x429.2 (by decide)
                              have lr_x429 : 0 ≤ x429.toInt32 ∧ x429.toInt32 ≤ (999 : Int32) := l2i_rng (by decide) dr_x429
                              refine u_X11_good ?_
                              refine u_X11_good_0 ?_
                              refine ⟨o_v0, ?_⟩
                              intro S430 eS430
                              have hIn : IV S430 := by rw [eS430]; exact iv11_sI hI o_v0 (by decide) (nu_free (by decide))
                              have el328 := el_ob eS430 o_v0 o_a326 (by decide) el328
                              have hI := hIn
                              have f0 := fr_I eS430 g0 f0 o_v0 (by decide)
                              have d_kv2 := rd_Ij eS430 (by decide) d_kv2
                              have d_x64 := rd_Ij eS430 (by decide) d_x64
                              have d_kv13 := rd_Ik eS430 o_v0 o_a3 (by decide) d_kv13
                              have d_x35 := rd_Ik eS430 o_v0 o_a3 (by decide) d_x35
                              have d_kv317 := rd_Ik eS430 o_v0 o_a3 (by decide) d_kv317
                              have d_x402 := rd_Ik eS430 o_v0 o_a3 (by decide) d_x402
                              have d_x406 := rd_Ik eS430 o_v0 o_a3 (by decide) d_x406
                              obtain ⟨kv431, hkv431⟩ : ∃ z : Int32, z = (0 : Int32) := ⟨_, rfl⟩
                              have d_kv431 := rd_Is eS430 hkv431
                              have ea3 := rf_I eS430 ea3
                              have ea66 := rf_I eS430 ea66
                              have ea69 := rf_I eS430 ea69
                              have ea315 := rf_I eS430 ea315
                              have ea319 := rf_I eS430 ea319
                              have ea326 := rf_I eS430 ea326
                              have l_a315 := ln_I eS430 l_a315
                              have l_a319 := ln_I eS430 l_a319
                              have l_a326 := ln_I eS430 l_a326
                              have l_a66 := ln_I eS430 l_a66
                              have l_a69 := ln_I eS430 l_a69
                              have g0 := gr_I eS430 g0
                              have o_a3 := ob_I eS430 o_a3
                              have o_a315 := ob_I eS430 o_a315
                              have o_a319 := ob_I eS430 o_a319
                              have o_a326 := ob_I eS430 o_a326
                              have o_a66 := ob_I eS430 o_a66
                              have o_a69 := ob_I eS430 o_a69
                              have o_v0 := ob_I eS430 o_v0
                              intro S432 eS432
                              have hIn : IV S432 := by rw [eS432]; exact iv11_sI hI o_v0 (by decide) (nu_free (by decide))
                              have el328 := el_ob eS432 o_v0 o_a326 (by decide) el328
                              have hI := hIn
                              have f0 := fr_I eS432 g0 f0 o_v0 (by decide)
                              have d_kv2 := rd_Ij eS432 (by decide) d_kv2
                              have d_x64 := rd_Ij eS432 (by decide) d_x64
                              have d_kv13 := rd_Ik eS432 o_v0 o_a3 (by decide) d_kv13
                              have d_x35 := rd_Ik eS432 o_v0 o_a3 (by decide) d_x35
                              have d_kv317 := rd_Ik eS432 o_v0 o_a3 (by decide) d_kv317
                              have d_x402 := rd_Ik eS432 o_v0 o_a3 (by decide) d_x402
                              have d_x406 := rd_Ik eS432 o_v0 o_a3 (by decide) d_x406
                              have d_kv431 := rd_Ij eS432 (by decide) d_kv431
                              obtain ⟨kv433, hkv433⟩ : ∃ z : Int32, z = (-1 : Int32) := ⟨_, rfl⟩
                              have d_kv433 := rd_Is eS432 hkv433
                              have ea3 := rf_I eS432 ea3
                              have ea66 := rf_I eS432 ea66
                              have ea69 := rf_I eS432 ea69
                              have ea315 := rf_I eS432 ea315
                              have ea319 := rf_I eS432 ea319
                              have ea326 := rf_I eS432 ea326
                              have l_a315 := ln_I eS432 l_a315
                              have l_a319 := ln_I eS432 l_a319
                              have l_a326 := ln_I eS432 l_a326
                              have l_a66 := ln_I eS432 l_a66
                              have l_a69 := ln_I eS432 l_a69
                              have g0 := gr_I eS432 g0
                              have o_a3 := ob_I eS432 o_a3
                              have o_a315 := ob_I eS432 o_a315
                              have o_a319 := ob_I eS432 o_a319
                              have o_a326 := ob_I eS432 o_a326
                              have o_a66 := ob_I eS432 o_a66
                              have o_a69 := ob_I eS432 o_a69
                              have o_v0 := ob_I eS432 o_v0
                              intro _
                              exact hq _ _ hI g0 f0
                            · refine ⟨o_a3, ?_⟩
                              obtain ⟨a435, ea435, o_a435, l_a435⟩ := shl 36 rfl hI o_a3
                              refine ⟨a435, ea435, ?_⟩
                              refine ⟨o_a435, ?_⟩
                              refine ⟨(vin l_a435 (m := 12) (by decide) (qm388 r_x12 r_kv13 wh_x12 c14 c26 r_x35 c36 c46 c54 r_x64 q_x64 wh_x64 g_x67 g_x70 c71 c80 c93 g_x316 r_kv317 gl_x316 dr_x320 c321 dr_x323 lr_x323 ex324 g_x327 ex329 dv_x329 dw_x329 c331 i1u336 c353 r_x402 hh_x402 ex403 dv_x403 r_x406 c407 c412)), ?_⟩
                              intro x436 ex436
                              have gy_x436 : 0 ≤ v1 ∧ v1 < fI S337 a3 3 := by rw [← d_x35]; exact (qm389 r_x12 r_kv13 wh_x12 c14 c26 r_x35 c36 c46 c54 r_x64 q_x64 wh_x64 g_x67 g_x70 c71 c80 c93 g_x316 r_kv317 gl_x316 dr_x320 c321 dr_x323 lr_x323 ex324 g_x327 ex329 dv_x329 dw_x329 c331 i1u336 c353 r_x402 hh_x402 ex403 dv_x403 r_x406 c407 c412)
                              have g_x436 : (0 : Int32) ≤ x436 ∧ x436 ≤ (7 : Int32) := by rw [ex436]; exact wg_at (ml_wg hI o_v0 ea3) 1 rfl gy_x436 ea435
                              have gl_x436 : x436 < kv317 := by rw [ex436, d_kv317]; exact wg_lt (ml_wg hI o_v0 ea3) 1 rfl (by decide) gy_x436 ea435
                              intro _
                              refine ⟨o_a319, ?_⟩
                              intro x438 ex438
                              have i439 : vp_in (0 : Int32) (hN _ a319) := (vin l_a319 (m := 7) (by decide) (qm390 r_x12 r_kv13 wh_x12 c14 c26 r_x35 c36 c46 c54 r_x64 q_x64 wh_x64 g_x67 g_x70 c71 c80 c93 g_x316 r_kv317 gl_x316 dr_x320 c321 dr_x323 lr_x323 ex324 g_x327 ex329 dv_x329 dw_x329 c331 i1u336 c353 r_x402 hh_x402 ex403 dv_x403 r_x406 c407 c412 g_x436 gl_x436 ex438))
                              refine ⟨i439, ?_⟩
                              intro S440 eS440
                              have hIn : IV S440 := by rw [eS440]; exact iv11_aD hI (de_0 (by rw [ex438]; exact i2l_rng (lo := 0) (hi := 7) (qm391 r_x12 r_kv13 wh_x12 c14 c26 r_x35 c36 c46 c54 r_x64 q_x64 wh_x64 g_x67 g_x70 c71 c80 c93 g_x316 r_kv317 gl_x316 dr_x320 c321 dr_x323 lr_x323 ex324 g_x327 ex329 dv_x329 dw_x329 c331 i1u336 c353 r_x402 hh_x402 ex403 dv_x403 r_x406 c407 c412 g_x436 gl_x436 ex438)))
                              have el328 := el_J eS440 el328
                              have hI := hIn
                              have f0 := fr_J eS440 f0
                              have d_kv2 := rd_J eS440 d_kv2
                              have d_x64 := rd_J eS440 d_x64
                              have d_kv13 := rd_J eS440 d_kv13
                              have d_x35 := rd_J eS440 d_x35
                              have d_kv317 := rd_J eS440 d_kv317
                              have d_x402 := rd_J eS440 d_x402
                              have d_x406 := rd_J eS440 d_x406
                              have ea3 := rf_J eS440 ea3
                              have ea66 := rf_J eS440 ea66
                              have ea69 := rf_J eS440 ea69
                              have ea315 := rf_J eS440 ea315
                              have ea319 := rf_J eS440 ea319
                              have ea326 := rf_J eS440 ea326
                              have ea435 := rf_J eS440 ea435
                              have l_a315 := ln_J eS440 l_a315
                              have l_a319 := ln_J eS440 l_a319
                              have l_a326 := ln_J eS440 l_a326
                              have l_a435 := ln_J eS440 l_a435
                              have l_a66 := ln_J eS440 l_a66
                              have l_a69 := ln_J eS440 l_a69
                              have g0 := gr_J eS440 g0
                              have o_a3 := ob_J eS440 o_a3
                              have o_a315 := ob_J eS440 o_a315
                              have o_a319 := ob_J eS440 o_a319
                              have o_a326 := ob_J eS440 o_a326
                              have o_a435 := ob_J eS440 o_a435
                              have o_a66 := ob_J eS440 o_a66
                              have o_a69 := ob_J eS440 o_a69
                              have o_v0 := ob_J eS440 o_v0
                              refine ⟨a319, ea319, ?_⟩
                              refine ⟨a3, ea3, ?_⟩
                              refine ⟨o_a3, ?_⟩
                              refine u_X10_minutes ?_
                              refine u_X10_minutes_0 ?_
                              refine ⟨o_a3, ?_⟩
                              refine ⟨a326, ea326, ?_⟩
                              refine ⟨o_a326, ?_⟩
                              refine ⟨(vin l_a326 (m := 12) (by decide) (qm392 r_x12 r_kv13 wh_x12 c14 c26 r_x35 c36 c46 c54 r_x64 q_x64 wh_x64 g_x67 g_x70 c71 c80 c93 g_x316 r_kv317 gl_x316 dr_x320 c321 dr_x323 lr_x323 ex324 g_x327 ex329 dv_x329 dw_x329 c331 i1u336 c353 r_x402 hh_x402 ex403 dv_x403 r_x406 c407 c412 g_x436 gl_x436 ex438)), ?_⟩
                              intro x444 ex444
                              have qe_x444 : x444 = x327 := ex444.trans el328
                              have gy_x444 : 0 ≤ v1 ∧ v1 < fI S440 a3 3 := by rw [← d_x35]; exact (qm393 r_x12 r_kv13 wh_x12 c14 c26 r_x35 c36 c46 c54 r_x64 q_x64 wh_x64 g_x67 g_x70 c71 c80 c93 g_x316 r_kv317 gl_x316 dr_x320 c321 dr_x323 lr_x323 ex324 g_x327 ex329 dv_x329 dw_x329 c331 i1u336 c353 r_x402 hh_x402 ex403 dv_x403 r_x406 c407 c412 g_x436 gl_x436 ex438 qe_x444)
                              have g_x444 : (1 : Int32) ≤ x444 ∧ x444 ≤ (60 : Int32) := by rw [ex444]; exact wg_at (ml_wg hI o_v0 ea3) 2 rfl gy_x444 ea326
                              refine ⟨(qm394 r_x12 r_kv13 wh_x12 c14 c26 r_x35 c36 c46 c54 r_x64 q_x64 wh_x64 g_x67 g_x70 c71 c80 c93 g_x316 r_kv317 gl_x316 dr_x320 c321 dr_x323 lr_x323 ex324 g_x327 ex329 dv_x329 dw_x329 c331 i1u336 c353 r_x402 hh_x402 ex403 dv_x403 r_x406 c407 c412 g_x436 gl_x436 ex438 qe_x444 g_x444), ?_⟩
                              intro x445 ex445
                              have dv_x445 : 0 ≤ x445 ∧ x445 ≤ ((x444 + v3) - (1 : Int32)) := by rw [ex445]; exact dv0 (qm395 r_x12 r_kv13 wh_x12 c14 c26 r_x35 c36 c46 c54 r_x64 q_x64 wh_x64 g_x67 g_x70 c71 c80 c93 g_x316 r_kv317 gl_x316 dr_x320 c321 dr_x323 lr_x323 ex324 g_x327 ex329 dv_x329 dw_x329 c331 i1u336 c353 r_x402 hh_x402 ex403 dv_x403 r_x406 c407 c412 g_x436 gl_x436 ex438 qe_x444 g_x444 ex445) (i32pos (qm396 r_x12 r_kv13 wh_x12 c14 c26 r_x35 c36 c46 c54 r_x64 q_x64 wh_x64 g_x67 g_x70 c71 c80 c93 g_x316 r_kv317 gl_x316 dr_x320 c321 dr_x323 lr_x323 ex324 g_x327 ex329 dv_x329 dw_x329 c331 i1u336 c353 r_x402 hh_x402 ex403 dv_x403 r_x406 c407 c412 g_x436 gl_x436 ex438 qe_x444 g_x444 ex445))
                              have dw_x445 : (1 : Int32) ≤ x445 := by rw [ex445]; exact dv1 (qm397 r_x12 r_kv13 wh_x12 c14 c26 r_x35 c36 c46 c54 r_x64 q_x64 wh_x64 g_x67 g_x70 c71 c80 c93 g_x316 r_kv317 gl_x316 dr_x320 c321 dr_x323 lr_x323 ex324 g_x327 ex329 dv_x329 dw_x329 c331 i1u336 c353 r_x402 hh_x402 ex403 dv_x403 r_x406 c407 c412 g_x436 gl_x436 ex438 qe_x444 g_x444 ex445) (qm398 r_x12 r_kv13 wh_x12 c14 c26 r_x35 c36 c46 c54 r_x64 q_x64 wh_x64 g_x67 g_x70 c71 c80 c93 g_x316 r_kv317 gl_x316 dr_x320 c321 dr_x323 lr_x323 ex324 g_x327 ex329 dv_x329 dw_x329 c331 i1u336 c353 r_x402 hh_x402 ex403 dv_x403 r_x406 c407 c412 g_x436 gl_x436 ex438 qe_x444 g_x444 ex445)
                              intro _
                              refine ⟨o_a319, ?_⟩
                              intro x447 ex447
                              have i448 : vp_in (1 : Int32) (hN _ a319) := (vin l_a319 (m := 7) (by decide) (qm399 r_x12 r_kv13 wh_x12 c14 c26 r_x35 c36 c46 c54 r_x64 q_x64 wh_x64 g_x67 g_x70 c71 c80 c93 g_x316 r_kv317 gl_x316 dr_x320 c321 dr_x323 lr_x323 ex324 g_x327 ex329 dv_x329 dw_x329 c331 i1u336 c353 r_x402 hh_x402 ex403 dv_x403 r_x406 c407 c412 g_x436 gl_x436 ex438 qe_x444 g_x444 ex445 dv_x445 dw_x445 ex447))
                              refine ⟨i448, ?_⟩
                              intro S449 eS449
                              have hIn : IV S449 := by rw [eS449]; exact iv11_aD hI (de_1 (by rw [ex447]; exact i2l_rng (lo := 0) (hi := 999) (qm400 r_x12 r_kv13 wh_x12 c14 c26 r_x35 c36 c46 c54 r_x64 q_x64 wh_x64 g_x67 g_x70 c71 c80 c93 g_x316 r_kv317 gl_x316 dr_x320 c321 dr_x323 lr_x323 ex324 g_x327 ex329 dv_x329 dw_x329 c331 i1u336 c353 r_x402 hh_x402 ex403 dv_x403 r_x406 c407 c412 g_x436 gl_x436 ex438 qe_x444 g_x444 ex445 dv_x445 dw_x445 ex447)))
                              have el328 := el_J eS449 el328
                              have hI := hIn
                              have f0 := fr_J eS449 f0
                              have d_kv2 := rd_J eS449 d_kv2
                              have d_x64 := rd_J eS449 d_x64
                              have d_kv13 := rd_J eS449 d_kv13
                              have d_x35 := rd_J eS449 d_x35
                              have d_kv317 := rd_J eS449 d_kv317
                              have d_x402 := rd_J eS449 d_x402
                              have d_x406 := rd_J eS449 d_x406
                              have ea3 := rf_J eS449 ea3
                              have ea66 := rf_J eS449 ea66
                              have ea69 := rf_J eS449 ea69
                              have ea315 := rf_J eS449 ea315
                              have ea319 := rf_J eS449 ea319
                              have ea326 := rf_J eS449 ea326
                              have ea435 := rf_J eS449 ea435
                              have l_a315 := ln_J eS449 l_a315
                              have l_a319 := ln_J eS449 l_a319
                              have l_a326 := ln_J eS449 l_a326
                              have l_a435 := ln_J eS449 l_a435
                              have l_a66 := ln_J eS449 l_a66
                              have l_a69 := ln_J eS449 l_a69
                              have g0 := gr_J eS449 g0
                              have o_a3 := ob_J eS449 o_a3
                              have o_a315 := ob_J eS449 o_a315
                              have o_a319 := ob_J eS449 o_a319
                              have o_a326 := ob_J eS449 o_a326
                              have o_a435 := ob_J eS449 o_a435
                              have o_a66 := ob_J eS449 o_a66
                              have o_a69 := ob_J eS449 o_a69
                              have o_v0 := ob_J eS449 o_v0
                              refine ⟨a319, ea319, ?_⟩
                              refine ⟨o_a319, ?_⟩
                              refine ⟨(vin l_a319 (m := 7) (by decide) (qm399 r_x12 r_kv13 wh_x12 c14 c26 r_x35 c36 c46 c54 r_x64 q_x64 wh_x64 g_x67 g_x70 c71 c80 c93 g_x316 r_kv317 gl_x316 dr_x320 c321 dr_x323 lr_x323 ex324 g_x327 ex329 dv_x329 dw_x329 c331 i1u336 c353 r_x402 hh_x402 ex403 dv_x403 r_x406 c407 c412 g_x436 gl_x436 ex438 qe_x444 g_x444 ex445 dv_x445 dw_x445 ex447)), ?_⟩
                              intro x451 ex451
                              have de_x451 := ml_de hI o_v0 (j := 21) (by decide) ea319 (1 : Int32).toNatClampNeg
                              rw [← ex451] at de_x451
                              have dr_x451 : (0 : Int64) ≤ x451 ∧ x451 ≤ (999 : Int64) := de_x451.2 (by decide)
                              have lr_x451 : 0 ≤ x451.toInt32 ∧ x451.toInt32 ≤ (999 : Int32) := l2i_rng (by decide) dr_x451
                              refine u_X11_good ?_
                              refine u_X11_good_0 ?_
                              refine ⟨o_v0, ?_⟩
                              intro S452 eS452
                              have hIn : IV S452 := by rw [eS452]; exact iv11_sI hI o_v0 (by decide) (nu_free (by decide))
                              have el328 := el_ob eS452 o_v0 o_a326 (by decide) el328
                              have hI := hIn
                              have f0 := fr_I eS452 g0 f0 o_v0 (by decide)
                              have d_kv2 := rd_Ij eS452 (by decide) d_kv2
                              have d_x64 := rd_Ij eS452 (by decide) d_x64
                              have d_kv13 := rd_Ik eS452 o_v0 o_a3 (by decide) d_kv13
                              have d_x35 := rd_Ik eS452 o_v0 o_a3 (by decide) d_x35
                              have d_kv317 := rd_Ik eS452 o_v0 o_a3 (by decide) d_kv317
                              have d_x402 := rd_Ik eS452 o_v0 o_a3 (by decide) d_x402
                              have d_x406 := rd_Ik eS452 o_v0 o_a3 (by decide) d_x406
                              obtain ⟨kv453, hkv453⟩ : ∃ z : Int32, z = (0 : Int32) := ⟨_, rfl⟩
                              have d_kv453 := rd_Is eS452 hkv453
                              have ea3 := rf_I eS452 ea3
                              have ea66 := rf_I eS452 ea66
                              have ea69 := rf_I eS452 ea69
                              have ea315 := rf_I eS452 ea315
                              have ea319 := rf_I eS452 ea319
                              have ea326 := rf_I eS452 ea326
                              have ea435 := rf_I eS452 ea435
                              have l_a315 := ln_I eS452 l_a315
                              have l_a319 := ln_I eS452 l_a319
                              have l_a326 := ln_I eS452 l_a326
                              have l_a435 := ln_I eS452 l_a435
                              have l_a66 := ln_I eS452 l_a66
                              have l_a69 := ln_I eS452 l_a69
                              have g0 := gr_I eS452 g0
                              have o_a3 := ob_I eS452 o_a3
                              have o_a315 := ob_I eS452 o_a315
                              have o_a319 := ob_I eS452 o_a319
                              have o_a326 := ob_I eS452 o_a326
                              have o_a435 := ob_I eS452 o_a435
                              have o_a66 := ob_I eS452 o_a66
                              have o_a69 := ob_I eS452 o_a69
                              have o_v0 := ob_I eS452 o_v0
                              intro S454 eS454
                              have hIn : IV S454 := by rw [eS454]; exact iv11_sI hI o_v0 (by decide) (nu_free (by decide))
                              have el328 := el_ob eS454 o_v0 o_a326 (by decide) el328
                              have hI := hIn
                              have f0 := fr_I eS454 g0 f0 o_v0 (by decide)
                              have d_kv2 := rd_Ij eS454 (by decide) d_kv2
                              have d_x64 := rd_Ij eS454 (by decide) d_x64
                              have d_kv13 := rd_Ik eS454 o_v0 o_a3 (by decide) d_kv13
                              have d_x35 := rd_Ik eS454 o_v0 o_a3 (by decide) d_x35
                              have d_kv317 := rd_Ik eS454 o_v0 o_a3 (by decide) d_kv317
                              have d_x402 := rd_Ik eS454 o_v0 o_a3 (by decide) d_x402
                              have d_x406 := rd_Ik eS454 o_v0 o_a3 (by decide) d_x406
                              have d_kv453 := rd_Ij eS454 (by decide) d_kv453
                              obtain ⟨kv455, hkv455⟩ : ∃ z : Int32, z = (-1 : Int32) := ⟨_, rfl⟩
                              have d_kv455 := rd_Is eS454 hkv455
                              have ea3 := rf_I eS454 ea3
                              have ea66 := rf_I eS454 ea66
                              have ea69 := rf_I eS454 ea69
                              have ea315 := rf_I eS454 ea315
                              have ea319 := rf_I eS454 ea319
                              have ea326 := rf_I eS454 ea326
                              have ea435 := rf_I eS454 ea435
                              have l_a315 := ln_I eS454 l_a315
                              have l_a319 := ln_I eS454 l_a319
                              have l_a326 := ln_I eS454 l_a326
                              have l_a435 := ln_I eS454 l_a435
                              have l_a66 := ln_I eS454 l_a66
                              have l_a69 := ln_I eS454 l_a69
                              have g0 := gr_I eS454 g0
                              have o_a3 := ob_I eS454 o_a3
                              have o_a315 := ob_I eS454 o_a315
                              have o_a319 := ob_I eS454 o_a319
                              have o_a326 := ob_I eS454 o_a326
                              have o_a435 := ob_I eS454 o_a435
                              have o_a66 := ob_I eS454 o_a66
                              have o_a69 := ob_I eS454 o_a69
                              have o_v0 := ob_I eS454 o_v0
                              intro _
                              exact hq _ _ hI g0 f0
                          · intro x457 ex457
                            have d_x457 := ex457
                            refine ⟨fun c458 => ?_, fun c458 => ?_⟩
                            · intro _ _
                              refine ⟨fun c460 => ?_, fun c460 => absurd (show ¬ (0 : Int32) = 0 from c460) (by decide)⟩
                              refine u_X11_go_171 ?_
                              refine ⟨o_v0, ?_⟩
                              refine ⟨a319, ea319, ?_⟩
                              refine ⟨a3, ea3, ?_⟩
                              refine ⟨o_a3, ?_⟩
                              refine u_X10_ends ?_
                              refine u_X10_ends_0 ?_
                              refine ⟨fun c463 => ?_, fun c463 => ?_⟩
                              · refine ⟨o_a3, ?_⟩
                                refine ⟨a315, ea315, ?_⟩
                                refine ⟨o_a315, ?_⟩
                                refine ⟨(vin l_a315 (m := 12) (by decide) (qm401 r_x12 r_kv13 wh_x12 c14 c26 r_x35 c36 c46 c54 r_x64 q_x64 wh_x64 g_x67 g_x70 c71 c80 c93 g_x316 r_kv317 gl_x316 dr_x320 c321 dr_x323 lr_x323 ex324 g_x327 ex329 dv_x329 dw_x329 c331 i1u336 c353 r_x402 hh_x402 ex403 dv_x403 r_x406 c407 c458 c463)), ?_⟩
                                intro x465 ex465
                                have gy_x465 : 0 ≤ v1 ∧ v1 < fI S337 a3 3 := by rw [← d_x35]; exact (qm402 r_x12 r_kv13 wh_x12 c14 c26 r_x35 c36 c46 c54 r_x64 q_x64 wh_x64 g_x67 g_x70 c71 c80 c93 g_x316 r_kv317 gl_x316 dr_x320 c321 dr_x323 lr_x323 ex324 g_x327 ex329 dv_x329 dw_x329 c331 i1u336 c353 r_x402 hh_x402 ex403 dv_x403 r_x406 c407 c458 c463)
                                have g_x465 : (0 : Int32) ≤ x465 ∧ x465 ≤ (7 : Int32) := by rw [ex465]; exact wg_at (ml_wg hI o_v0 ea3) 0 rfl gy_x465 ea315
                                have gl_x465 : x465 < kv317 := by rw [ex465, d_kv317]; exact wg_lt (ml_wg hI o_v0 ea3) 0 rfl (by decide) gy_x465 ea315
                                intro _
                                refine ⟨o_a319, ?_⟩
                                intro x467 ex467
                                have i468 : vp_in (0 : Int32) (hN _ a319) := (vin l_a319 (m := 7) (by decide) (qm403 r_x12 r_kv13 wh_x12 c14 c26 r_x35 c36 c46 c54 r_x64 q_x64 wh_x64 g_x67 g_x70 c71 c80 c93 g_x316 r_kv317 gl_x316 dr_x320 c321 dr_x323 lr_x323 ex324 g_x327 ex329 dv_x329 dw_x329 c331 i1u336 c353 r_x402 hh_x402 ex403 dv_x403 r_x406 c407 c458 c463 g_x465 gl_x465 ex467))
                                refine ⟨i468, ?_⟩
                                intro S469 eS469
                                have hIn : IV S469 := by rw [eS469]; exact iv11_aD hI (de_0 (by rw [ex467]; exact i2l_rng (lo := 0) (hi := 7) (qm404 r_x12 r_kv13 wh_x12 c14 c26 r_x35 c36 c46 c54 r_x64 q_x64 wh_x64 g_x67 g_x70 c71 c80 c93 g_x316 r_kv317 gl_x316 dr_x320 c321 dr_x323 lr_x323 ex324 g_x327 ex329 dv_x329 dw_x329 c331 i1u336 c353 r_x402 hh_x402 ex403 dv_x403 r_x406 c407 c458 c463 g_x465 gl_x465 ex467)))
                                have el328 := el_J eS469 el328
                                have hI := hIn
                                have f0 := fr_J eS469 f0
                                have d_kv2 := rd_J eS469 d_kv2
                                have d_x64 := rd_J eS469 d_x64
                                have d_kv13 := rd_J eS469 d_kv13
                                have d_x35 := rd_J eS469 d_x35
                                have d_kv317 := rd_J eS469 d_kv317
                                have d_x402 := rd_J eS469 d_x402
                                have d_x406 := rd_J eS469 d_x406
                                have d_x457 := rd_J eS469 d_x457
                                have ea3 := rf_J eS469 ea3
                                have ea66 := rf_J eS469 ea66
                                have ea69 := rf_J eS469 ea69
                                have ea315 := rf_J eS469 ea315
                                have ea319 := rf_J eS469 ea319
                                have ea326 := rf_J eS469 ea326
                                have l_a315 := ln_J eS469 l_a315
                                have l_a319 := ln_J eS469 l_a319
                                have l_a326 := ln_J eS469 l_a326
                                have l_a66 := ln_J eS469 l_a66
                                have l_a69 := ln_J eS469 l_a69
                                have g0 := gr_J eS469 g0
                                have o_a3 := ob_J eS469 o_a3
                                have o_a315 := ob_J eS469 o_a315
                                have o_a319 := ob_J eS469 o_a319
                                have o_a326 := ob_J eS469 o_a326
                                have o_a66 := ob_J eS469 o_a66
                                have o_a69 := ob_J eS469 o_a69
                                have o_v0 := ob_J eS469 o_v0
                                refine ⟨a319, ea319, ?_⟩
                                refine ⟨a3, ea3, ?_⟩
                                refine ⟨o_a3, ?_⟩
                                refine u_X10_minutes ?_
                                refine u_X10_minutes_0 ?_
                                refine ⟨o_a3, ?_⟩
                                refine ⟨a326, ea326, ?_⟩
                                refine ⟨o_a326, ?_⟩
                                refine ⟨(vin l_a326 (m := 12) (by decide) (qm405 r_x12 r_kv13 wh_x12 c14 c26 r_x35 c36 c46 c54 r_x64 q_x64 wh_x64 g_x67 g_x70 c71 c80 c93 g_x316 r_kv317 gl_x316 dr_x320 c321 dr_x323 lr_x323 ex324 g_x327 ex329 dv_x329 dw_x329 c331 i1u336 c353 r_x402 hh_x402 ex403 dv_x403 r_x406 c407 c458 c463 g_x465 gl_x465 ex467)), ?_⟩
                                intro x473 ex473
                                have qe_x473 : x473 = x327 := ex473.trans el328
                                have gy_x473 : 0 ≤ v1 ∧ v1 < fI S469 a3 3 := by rw [← d_x35]; exact (qm406 r_x12 r_kv13 wh_x12 c14 c26 r_x35 c36 c46 c54 r_x64 q_x64 wh_x64 g_x67 g_x70 c71 c80 c93 g_x316 r_kv317 gl_x316 dr_x320 c321 dr_x323 lr_x323 ex324 g_x327 ex329 dv_x329 dw_x329 c331 i1u336 c353 r_x402 hh_x402 ex403 dv_x403 r_x406 c407 c458 c463 g_x465 gl_x465 ex467 qe_x473)
                                have g_x473 : (1 : Int32) ≤ x473 ∧ x473 ≤ (60 : Int32) := by rw [ex473]; exact wg_at (ml_wg hI o_v0 ea3) 2 rfl gy_x473 ea326
                                refine ⟨(qm407 r_x12 r_kv13 wh_x12 c14 c26 r_x35 c36 c46 c54 r_x64 q_x64 wh_x64 g_x67 g_x70 c71 c80 c93 g_x316 r_kv317 gl_x316 dr_x320 c321 dr_x323 lr_x323 ex324 g_x327 ex329 dv_x329 dw_x329 c331 i1u336 c353 r_x402 hh_x402 ex403 dv_x403 r_x406 c407 c458 c463 g_x465 gl_x465 ex467 qe_x473 g_x473), ?_⟩
                                intro x474 ex474
                                have dv_x474 : 0 ≤ x474 ∧ x474 ≤ ((x473 + v3) - (1 : Int32)) := by rw [ex474]; exact dv0 (qm408 r_x12 r_kv13 wh_x12 c14 c26 r_x35 c36 c46 c54 r_x64 q_x64 wh_x64 g_x67 g_x70 c71 c80 c93 g_x316 r_kv317 gl_x316 dr_x320 c321 dr_x323 lr_x323 ex324 g_x327 ex329 dv_x329 dw_x329 c331 i1u336 c353 r_x402 hh_x402 ex403 dv_x403 r_x406 c407 c458 c463 g_x465 gl_x465 ex467 qe_x473 g_x473 ex474) (i32pos (qm409 r_x12 r_kv13 wh_x12 c14 c26 r_x35 c36 c46 c54 r_x64 q_x64 wh_x64 g_x67 g_x70 c71 c80 c93 g_x316 r_kv317 gl_x316 dr_x320 c321 dr_x323 lr_x323 ex324 g_x327 ex329 dv_x329 dw_x329 c331 i1u336 c353 r_x402 hh_x402 ex403 dv_x403 r_x406 c407 c458 c463 g_x465 gl_x465 ex467 qe_x473 g_x473 ex474))
                                have dw_x474 : (1 : Int32) ≤ x474 := by rw [ex474]; exact dv1 (qm410 r_x12 r_kv13 wh_x12 c14 c26 r_x35 c36 c46 c54 r_x64 q_x64 wh_x64 g_x67 g_x70 c71 c80 c93 g_x316 r_kv317 gl_x316 dr_x320 c321 dr_x323 lr_x323 ex324 g_x327 ex329 dv_x329 dw_x329 c331 i1u336 c353 r_x402 hh_x402 ex403 dv_x403 r_x406 c407 c458 c463 g_x465 gl_x465 ex467 qe_x473 g_x473 ex474) (qm411 r_x12 r_kv13 wh_x12 c14 c26 r_x35 c36 c46 c54 r_x64 q_x64 wh_x64 g_x67 g_x70 c71 c80 c93 g_x316 r_kv317 gl_x316 dr_x320 c321 dr_x323 lr_x323 ex324 g_x327 ex329 dv_x329 dw_x329 c331 i1u336 c353 r_x402 hh_x402 ex403 dv_x403 r_x406 c407 c458 c463 g_x465 gl_x465 ex467 qe_x473 g_x473 ex474)
                                intro _
                                refine ⟨o_a319, ?_⟩
                                intro x476 ex476
                                have i477 : vp_in (1 : Int32) (hN _ a319) := (vin l_a319 (m := 7) (by decide) (qm412 r_x12 r_kv13 wh_x12 c14 c26 r_x35 c36 c46 c54 r_x64 q_x64 wh_x64 g_x67 g_x70 c71 c80 c93 g_x316 r_kv317 gl_x316 dr_x320 c321 dr_x323 lr_x323 ex324 g_x327 ex329 dv_x329 dw_x329 c331 i1u336 c353 r_x402 hh_x402 ex403 dv_x403 r_x406 c407 c458 c463 g_x465 gl_x465 ex467 qe_x473 g_x473 ex474 dv_x474 dw_x474 ex476))
                                refine ⟨i477, ?_⟩
                                intro S478 eS478
                                have hIn : IV S478 := by rw [eS478]; exact iv11_aD hI (de_1 (by rw [ex476]; exact i2l_rng (lo := 0) (hi := 999) (qm413 r_x12 r_kv13 wh_x12 c14 c26 r_x35 c36 c46 c54 r_x64 q_x64 wh_x64 g_x67 g_x70 c71 c80 c93 g_x316 r_kv317 gl_x316 dr_x320 c321 dr_x323 lr_x323 ex324 g_x327 ex329 dv_x329 dw_x329 c331 i1u336 c353 r_x402 hh_x402 ex403 dv_x403 r_x406 c407 c458 c463 g_x465 gl_x465 ex467 qe_x473 g_x473 ex474 dv_x474 dw_x474 ex476)))
                                have el328 := el_J eS478 el328
                                have hI := hIn
                                have f0 := fr_J eS478 f0
                                have d_kv2 := rd_J eS478 d_kv2
                                have d_x64 := rd_J eS478 d_x64
                                have d_kv13 := rd_J eS478 d_kv13
                                have d_x35 := rd_J eS478 d_x35
                                have d_kv317 := rd_J eS478 d_kv317
                                have d_x402 := rd_J eS478 d_x402
                                have d_x406 := rd_J eS478 d_x406
                                have d_x457 := rd_J eS478 d_x457
                                have ea3 := rf_J eS478 ea3
                                have ea66 := rf_J eS478 ea66
                                have ea69 := rf_J eS478 ea69
                                have ea315 := rf_J eS478 ea315
                                have ea319 := rf_J eS478 ea319
                                have ea326 := rf_J eS478 ea326
                                have l_a315 := ln_J eS478 l_a315
                                have l_a319 := ln_J eS478 l_a319
                                have l_a326 := ln_J eS478 l_a326
                                have l_a66 := ln_J eS478 l_a66
                                have l_a69 := ln_J eS478 l_a69
                                have g0 := gr_J eS478 g0
                                have o_a3 := ob_J eS478 o_a3
                                have o_a315 := ob_J eS478 o_a315
                                have o_a319 := ob_J eS478 o_a319
                                have o_a326 := ob_J eS478 o_a326
                                have o_a66 := ob_J eS478 o_a66
                                have o_a69 := ob_J eS478 o_a69
                                have o_v0 := ob_J eS478 o_v0
                                refine ⟨a319, ea319, ?_⟩
                                refine ⟨o_a319, ?_⟩
                                refine ⟨(vin l_a319 (m := 7) (by decide) (qm412 r_x12 r_kv13 wh_x12 c14 c26 r_x35 c36 c46 c54 r_x64 q_x64 wh_x64 g_x67 g_x70 c71 c80 c93 g_x316 r_kv317 gl_x316 dr_x320 c321 dr_x323 lr_x323 ex324 g_x327 ex329 dv_x329 dw_x329 c331 i1u336 c353 r_x402 hh_x402 ex403 dv_x403 r_x406 c407 c458 c463 g_x465 gl_x465 ex467 qe_x473 g_x473 ex474 dv_x474 dw_x474 ex476)), ?_⟩
                                intro x480 ex480
                                have de_x480 := ml_de hI o_v0 (j := 21) (by decide) ea319 (1 : Int32).toNatClampNeg
                                rw [← ex480] at de_x480
                                have dr_x480 : (0 : Int64) ≤ x480 ∧ x480 ≤ (999 : Int64) := de_x480.2 (by decide)
                                have lr_x480 : 0 ≤ x480.toInt32 ∧ x480.toInt32 ≤ (999 : Int32) := l2i_rng (by decide) dr_x480
                                refine u_X11_good ?_
                                refine u_X11_good_0 ?_
                                refine ⟨o_v0, ?_⟩
                                intro S481 eS481
                                have hIn : IV S481 := by rw [eS481]; exact iv11_sI hI o_v0 (by decide) (nu_free (by decide))
                                have el328 := el_ob eS481 o_v0 o_a326 (by decide) el328
                                have hI := hIn
                                have f0 := fr_I eS481 g0 f0 o_v0 (by decide)
                                have d_kv2 := rd_Ij eS481 (by decide) d_kv2
                                have d_x64 := rd_Ij eS481 (by decide) d_x64
                                have d_kv13 := rd_Ik eS481 o_v0 o_a3 (by decide) d_kv13
                                have d_x35 := rd_Ik eS481 o_v0 o_a3 (by decide) d_x35
                                have d_kv317 := rd_Ik eS481 o_v0 o_a3 (by decide) d_kv317
                                have d_x402 := rd_Ik eS481 o_v0 o_a3 (by decide) d_x402
                                have d_x406 := rd_Ik eS481 o_v0 o_a3 (by decide) d_x406
                                have d_x457 := rd_Ij eS481 (by decide) d_x457
                                obtain ⟨kv482, hkv482⟩ : ∃ z : Int32, z = (0 : Int32) := ⟨_, rfl⟩
                                have d_kv482 := rd_Is eS481 hkv482
                                have ea3 := rf_I eS481 ea3
                                have ea66 := rf_I eS481 ea66
                                have ea69 := rf_I eS481 ea69
                                have ea315 := rf_I eS481 ea315
                                have ea319 := rf_I eS481 ea319
                                have ea326 := rf_I eS481 ea326
                                have l_a315 := ln_I eS481 l_a315
                                have l_a319 := ln_I eS481 l_a319
                                have l_a326 := ln_I eS481 l_a326
                                have l_a66 := ln_I eS481 l_a66
                                have l_a69 := ln_I eS481 l_a69
                                have g0 := gr_I eS481 g0
                                have o_a3 := ob_I eS481 o_a3
                                have o_a315 := ob_I eS481 o_a315
                                have o_a319 := ob_I eS481 o_a319
                                have o_a326 := ob_I eS481 o_a326
                                have o_a66 := ob_I eS481 o_a66
                                have o_a69 := ob_I eS481 o_a69
                                have o_v0 := ob_I eS481 o_v0
                                intro S483 eS483
                                have hIn : IV S483 := by rw [eS483]; exact iv11_sI hI o_v0 (by decide) (nu_free (by decide))
                                have el328 := el_ob eS483 o_v0 o_a326 (by decide) el328
                                have hI := hIn
                                have f0 := fr_I eS483 g0 f0 o_v0 (by decide)
                                have d_kv2 := rd_Ij eS483 (by decide) d_kv2
                                have d_x64 := rd_Ij eS483 (by decide) d_x64
                                have d_kv13 := rd_Ik eS483 o_v0 o_a3 (by decide) d_kv13
                                have d_x35 := rd_Ik eS483 o_v0 o_a3 (by decide) d_x35
                                have d_kv317 := rd_Ik eS483 o_v0 o_a3 (by decide) d_kv317
                                have d_x402 := rd_Ik eS483 o_v0 o_a3 (by decide) d_x402
                                have d_x406 := rd_Ik eS483 o_v0 o_a3 (by decide) d_x406
                                have d_x457 := rd_Ij eS483 (by decide) d_x457
                                have d_kv482 := rd_Ij eS483 (by decide) d_kv482
                                obtain ⟨kv484, hkv484⟩ : ∃ z : Int32, z = (-1 : Int32) := ⟨_, rfl⟩
                                have d_kv484 := rd_Is eS483 hkv484
                                have ea3 := rf_I eS483 ea3
                                have ea66 := rf_I eS483 ea66
                                have ea69 := rf_I eS483 ea69
                                have ea315 := rf_I eS483 ea315
                                have ea319 := rf_I eS483 ea319
                                have ea326 := rf_I eS483 ea326
                                have l_a315 := ln_I eS483 l_a315
                                have l_a319 := ln_I eS483 l_a319
                                have l_a326 := ln_I eS483 l_a326
                                have l_a66 := ln_I eS483 l_a66
                                have l_a69 := ln_I eS483 l_a69
                                have g0 := gr_I eS483 g0
                                have o_a3 := ob_I eS483 o_a3
                                have o_a315 := ob_I eS483 o_a315
                                have o_a319 := ob_I eS483 o_a319
                                have o_a326 := ob_I eS483 o_a326
                                have o_a66 := ob_I eS483 o_a66
                                have o_a69 := ob_I eS483 o_a69
                                have o_v0 := ob_I eS483 o_v0
                                intro _
                                exact hq _ _ hI g0 f0
                              · refine ⟨o_a3, ?_⟩
                                obtain ⟨a486, ea486, o_a486, l_a486⟩ := shl 36 rfl hI o_a3
                                refine ⟨a486, ea486, ?_⟩
                                refine ⟨o_a486, ?_⟩
                                refine ⟨(vin l_a486 (m := 12) (by decide) (qm414 r_x12 r_kv13 wh_x12 c14 c26 r_x35 c36 c46 c54 r_x64 q_x64 wh_x64 g_x67 g_x70 c71 c80 c93 g_x316 r_kv317 gl_x316 dr_x320 c321 dr_x323 lr_x323 ex324 g_x327 ex329 dv_x329 dw_x329 c331 i1u336 c353 r_x402 hh_x402 ex403 dv_x403 r_x406 c407 c458 c463)), ?_⟩
                                intro x487 ex487
                                have gy_x487 : 0 ≤ v1 ∧ v1 < fI S337 a3 3 := by rw [← d_x35]; exact (qm415 r_x12 r_kv13 wh_x12 c14 c26 r_x35 c36 c46 c54 r_x64 q_x64 wh_x64 g_x67 g_x70 c71 c80 c93 g_x316 r_kv317 gl_x316 dr_x320 c321 dr_x323 lr_x323 ex324 g_x327 ex329 dv_x329 dw_x329 c331 i1u336 c353 r_x402 hh_x402 ex403 dv_x403 r_x406 c407 c458 c463)
                                have g_x487 : (0 : Int32) ≤ x487 ∧ x487 ≤ (7 : Int32) := by rw [ex487]; exact wg_at (ml_wg hI o_v0 ea3) 1 rfl gy_x487 ea486
                                have gl_x487 : x487 < kv317 := by rw [ex487, d_kv317]; exact wg_lt (ml_wg hI o_v0 ea3) 1 rfl (by decide) gy_x487 ea486
                                intro _
                                refine ⟨o_a319, ?_⟩
                                intro x489 ex489
                                have i490 : vp_in (0 : Int32) (hN _ a319) := (vin l_a319 (m := 7) (by decide) (qm416 r_x12 r_kv13 wh_x12 c14 c26 r_x35 c36 c46 c54 r_x64 q_x64 wh_x64 g_x67 g_x70 c71 c80 c93 g_x316 r_kv317 gl_x316 dr_x320 c321 dr_x323 lr_x323 ex324 g_x327 ex329 dv_x329 dw_x329 c331 i1u336 c353 r_x402 hh_x402 ex403 dv_x403 r_x406 c407 c458 c463 g_x487 gl_x487 ex489))
                                refine ⟨i490, ?_⟩
                                intro S491 eS491
                                have hIn : IV S491 := by rw [eS491]; exact iv11_aD hI (de_0 (by rw [ex489]; exact i2l_rng (lo := 0) (hi := 7) (qm417 r_x12 r_kv13 wh_x12 c14 c26 r_x35 c36 c46 c54 r_x64 q_x64 wh_x64 g_x67 g_x70 c71 c80 c93 g_x316 r_kv317 gl_x316 dr_x320 c321 dr_x323 lr_x323 ex324 g_x327 ex329 dv_x329 dw_x329 c331 i1u336 c353 r_x402 hh_x402 ex403 dv_x403 r_x406 c407 c458 c463 g_x487 gl_x487 ex489)))
                                have el328 := el_J eS491 el328
                                have hI := hIn
                                have f0 := fr_J eS491 f0
                                have d_kv2 := rd_J eS491 d_kv2
                                have d_x64 := rd_J eS491 d_x64
                                have d_kv13 := rd_J eS491 d_kv13
                                have d_x35 := rd_J eS491 d_x35
                                have d_kv317 := rd_J eS491 d_kv317
                                have d_x402 := rd_J eS491 d_x402
                                have d_x406 := rd_J eS491 d_x406
                                have d_x457 := rd_J eS491 d_x457
                                have ea3 := rf_J eS491 ea3
                                have ea66 := rf_J eS491 ea66
                                have ea69 := rf_J eS491 ea69
                                have ea315 := rf_J eS491 ea315
                                have ea319 := rf_J eS491 ea319
                                have ea326 := rf_J eS491 ea326
                                have ea486 := rf_J eS491 ea486
                                have l_a315 := ln_J eS491 l_a315
                                have l_a319 := ln_J eS491 l_a319
                                have l_a326 := ln_J eS491 l_a326
                                have l_a486 := ln_J eS491 l_a486
                                have l_a66 := ln_J eS491 l_a66
                                have l_a69 := ln_J eS491 l_a69
                                have g0 := gr_J eS491 g0
                                have o_a3 := ob_J eS491 o_a3
                                have o_a315 := ob_J eS491 o_a315
                                have o_a319 := ob_J eS491 o_a319
                                have o_a326 := ob_J eS491 o_a326
                                have o_a486 := ob_J eS491 o_a486
                                have o_a66 := ob_J eS491 o_a66
                                have o_a69 := ob_J eS491 o_a69
                                have o_v0 := ob_J eS491 o_v0
                                refine ⟨a319, ea319, ?_⟩
                                refine ⟨a3, ea3, ?_⟩
                                refine ⟨o_a3, ?_⟩
                                refine u_X10_minutes ?_
                                refine u_X10_minutes_0 ?_
                                refine ⟨o_a3, ?_⟩
                                refine ⟨a326, ea326, ?_⟩
                                refine ⟨o_a326, ?_⟩
                                refine ⟨(vin l_a326 (m := 12) (by decide) (qm418 r_x12 r_kv13 wh_x12 c14 c26 r_x35 c36 c46 c54 r_x64 q_x64 wh_x64 g_x67 g_x70 c71 c80 c93 g_x316 r_kv317 gl_x316 dr_x320 c321 dr_x323 lr_x323 ex324 g_x327 ex329 dv_x329 dw_x329 c331 i1u336 c353 r_x402 hh_x402 ex403 dv_x403 r_x406 c407 c458 c463 g_x487 gl_x487 ex489)), ?_⟩
                                intro x495 ex495
                                have qe_x495 : x495 = x327 := ex495.trans el328
                                have gy_x495 : 0 ≤ v1 ∧ v1 < fI S491 a3 3 := by rw [← d_x35]; exact (qm419 r_x12 r_kv13 wh_x12 c14 c26 r_x35 c36 c46 c54 r_x64 q_x64 wh_x64 g_x67 g_x70 c71 c80 c93 g_x316 r_kv317 gl_x316 dr_x320 c321 dr_x323 lr_x323 ex324 g_x327 ex329 dv_x329 dw_x329 c331 i1u336 c353 r_x402 hh_x402 ex403 dv_x403 r_x406 c407 c458 c463 g_x487 gl_x487 ex489 qe_x495)
                                have g_x495 : (1 : Int32) ≤ x495 ∧ x495 ≤ (60 : Int32) := by rw [ex495]; exact wg_at (ml_wg hI o_v0 ea3) 2 rfl gy_x495 ea326
                                refine ⟨(qm420 r_x12 r_kv13 wh_x12 c14 c26 r_x35 c36 c46 c54 r_x64 q_x64 wh_x64 g_x67 g_x70 c71 c80 c93 g_x316 r_kv317 gl_x316 dr_x320 c321 dr_x323 lr_x323 ex324 g_x327 ex329 dv_x329 dw_x329 c331 i1u336 c353 r_x402 hh_x402 ex403 dv_x403 r_x406 c407 c458 c463 g_x487 gl_x487 ex489 qe_x495 g_x495), ?_⟩
                                intro x496 ex496
                                have dv_x496 : 0 ≤ x496 ∧ x496 ≤ ((x495 + v3) - (1 : Int32)) := by rw [ex496]; exact dv0 (qm421 r_x12 r_kv13 wh_x12 c14 c26 r_x35 c36 c46 c54 r_x64 q_x64 wh_x64 g_x67 g_x70 c71 c80 c93 g_x316 r_kv317 gl_x316 dr_x320 c321 dr_x323 lr_x323 ex324 g_x327 ex329 dv_x329 dw_x329 c331 i1u336 c353 r_x402 hh_x402 ex403 dv_x403 r_x406 c407 c458 c463 g_x487 gl_x487 ex489 qe_x495 g_x495 ex496) (i32pos (qm422 r_x12 r_kv13 wh_x12 c14 c26 r_x35 c36 c46 c54 r_x64 q_x64 wh_x64 g_x67 g_x70 c71 c80 c93 g_x316 r_kv317 gl_x316 dr_x320 c321 dr_x323 lr_x323 ex324 g_x327 ex329 dv_x329 dw_x329 c331 i1u336 c353 r_x402 hh_x402 ex403 dv_x403 r_x406 c407 c458 c463 g_x487 gl_x487 ex489 qe_x495 g_x495 ex496))
                                have dw_x496 : (1 : Int32) ≤ x496 := by rw [ex496]; exact dv1 (qm423 r_x12 r_kv13 wh_x12 c14 c26 r_x35 c36 c46 c54 r_x64 q_x64 wh_x64 g_x67 g_x70 c71 c80 c93 g_x316 r_kv317 gl_x316 dr_x320 c321 dr_x323 lr_x323 ex324 g_x327 ex329 dv_x329 dw_x329 c331 i1u336 c353 r_x402 hh_x402 ex403 dv_x403 r_x406 c407 c458 c463 g_x487 gl_x487 ex489 qe_x495 g_x495 ex496) (qm424 r_x12 r_kv13 wh_x12 c14 c26 r_x35 c36 c46 c54 r_x64 q_x64 wh_x64 g_x67 g_x70 c71 c80 c93 g_x316 r_kv317 gl_x316 dr_x320 c321 dr_x323 lr_x323 ex324 g_x327 ex329 dv_x329 dw_x329 c331 i1u336 c353 r_x402 hh_x402 ex403 dv_x403 r_x406 c407 c458 c463 g_x487 gl_x487 ex489 qe_x495 g_x495 ex496)
                                intro _
                                refine ⟨o_a319, ?_⟩
                                intro x498 ex498
                                have i499 : vp_in (1 : Int32) (hN _ a319) := (vin l_a319 (m := 7) (by decide) (qm425 r_x12 r_kv13 wh_x12 c14 c26 r_x35 c36 c46 c54 r_x64 q_x64 wh_x64 g_x67 g_x70 c71 c80 c93 g_x316 r_kv317 gl_x316 dr_x320 c321 dr_x323 lr_x323 ex324 g_x327 ex329 dv_x329 dw_x329 c331 i1u336 c353 r_x402 hh_x402 ex403 dv_x403 r_x406 c407 c458 c463 g_x487 gl_x487 ex489 qe_x495 g_x495 ex496 dv_x496 dw_x496 ex498))
                                refine ⟨i499, ?_⟩
                                intro S500 eS500
                                have hIn : IV S500 := by rw [eS500]; exact iv11_aD hI (de_1 (by rw [ex498]; exact i2l_rng (lo := 0) (hi := 999) (qm426 r_x12 r_kv13 wh_x12 c14 c26 r_x35 c36 c46 c54 r_x64 q_x64 wh_x64 g_x67 g_x70 c71 c80 c93 g_x316 r_kv317 gl_x316 dr_x320 c321 dr_x323 lr_x323 ex324 g_x327 ex329 dv_x329 dw_x329 c331 i1u336 c353 r_x402 hh_x402 ex403 dv_x403 r_x406 c407 c458 c463 g_x487 gl_x487 ex489 qe_x495 g_x495 ex496 dv_x496 dw_x496 ex498)))
                                have el328 := el_J eS500 el328
                                have hI := hIn
                                have f0 := fr_J eS500 f0
                                have d_kv2 := rd_J eS500 d_kv2
                                have d_x64 := rd_J eS500 d_x64
                                have d_kv13 := rd_J eS500 d_kv13
                                have d_x35 := rd_J eS500 d_x35
                                have d_kv317 := rd_J eS500 d_kv317
                                have d_x402 := rd_J eS500 d_x402
                                have d_x406 := rd_J eS500 d_x406
                                have d_x457 := rd_J eS500 d_x457
                                have ea3 := rf_J eS500 ea3
                                have ea66 := rf_J eS500 ea66
                                have ea69 := rf_J eS500 ea69
                                have ea315 := rf_J eS500 ea315
                                have ea319 := rf_J eS500 ea319
                                have ea326 := rf_J eS500 ea326
                                have ea486 := rf_J eS500 ea486
                                have l_a315 := ln_J eS500 l_a315
                                have l_a319 := ln_J eS500 l_a319
                                have l_a326 := ln_J eS500 l_a326
                                have l_a486 := ln_J eS500 l_a486
                                have l_a66 := ln_J eS500 l_a66
                                have l_a69 := ln_J eS500 l_a69
                                have g0 := gr_J eS500 g0
                                have o_a3 := ob_J eS500 o_a3
                                have o_a315 := ob_J eS500 o_a315
                                have o_a319 := ob_J eS500 o_a319
                                have o_a326 := ob_J eS500 o_a326
                                have o_a486 := ob_J eS500 o_a486
                                have o_a66 := ob_J eS500 o_a66
                                have o_a69 := ob_J eS500 o_a69
                                have o_v0 := ob_J eS500 o_v0
                                refine ⟨a319, ea319, ?_⟩
                                refine ⟨o_a319, ?_⟩
                                refine ⟨(vin l_a319 (m := 7) (by decide) (qm425 r_x12 r_kv13 wh_x12 c14 c26 r_x35 c36 c46 c54 r_x64 q_x64 wh_x64 g_x67 g_x70 c71 c80 c93 g_x316 r_kv317 gl_x316 dr_x320 c321 dr_x323 lr_x323 ex324 g_x327 ex329 dv_x329 dw_x329 c331 i1u336 c353 r_x402 hh_x402 ex403 dv_x403 r_x406 c407 c458 c463 g_x487 gl_x487 ex489 qe_x495 g_x495 ex496 dv_x496 dw_x496 ex498)), ?_⟩
                                intro x502 ex502
                                have de_x502 := ml_de hI o_v0 (j := 21) (by decide) ea319 (1 : Int32).toNatClampNeg
                                rw [← ex502] at de_x502
                                have dr_x502 : (0 : Int64) ≤ x502 ∧ x502 ≤ (999 : Int64) := de_x502.2 (by decide)
                                have lr_x502 : 0 ≤ x502.toInt32 ∧ x502.toInt32 ≤ (999 : Int32) := l2i_rng (by decide) dr_x502
                                refine u_X11_good ?_
                                refine u_X11_good_0 ?_
                                refine ⟨o_v0, ?_⟩
                                intro S503 eS503
                                have hIn : IV S503 := by rw [eS503]; exact iv11_sI hI o_v0 (by decide) (nu_free (by decide))
                                have el328 := el_ob eS503 o_v0 o_a326 (by decide) el328
                                have hI := hIn
                                have f0 := fr_I eS503 g0 f0 o_v0 (by decide)
                                have d_kv2 := rd_Ij eS503 (by decide) d_kv2
                                have d_x64 := rd_Ij eS503 (by decide) d_x64
                                have d_kv13 := rd_Ik eS503 o_v0 o_a3 (by decide) d_kv13
                                have d_x35 := rd_Ik eS503 o_v0 o_a3 (by decide) d_x35
                                have d_kv317 := rd_Ik eS503 o_v0 o_a3 (by decide) d_kv317
                                have d_x402 := rd_Ik eS503 o_v0 o_a3 (by decide) d_x402
                                have d_x406 := rd_Ik eS503 o_v0 o_a3 (by decide) d_x406
                                have d_x457 := rd_Ij eS503 (by decide) d_x457
                                obtain ⟨kv504, hkv504⟩ : ∃ z : Int32, z = (0 : Int32) := ⟨_, rfl⟩
                                have d_kv504 := rd_Is eS503 hkv504
                                have ea3 := rf_I eS503 ea3
                                have ea66 := rf_I eS503 ea66
                                have ea69 := rf_I eS503 ea69
                                have ea315 := rf_I eS503 ea315
                                have ea319 := rf_I eS503 ea319
                                have ea326 := rf_I eS503 ea326
                                have ea486 := rf_I eS503 ea486
                                have l_a315 := ln_I eS503 l_a315
                                have l_a319 := ln_I eS503 l_a319
                                have l_a326 := ln_I eS503 l_a326
                                have l_a486 := ln_I eS503 l_a486
                                have l_a66 := ln_I eS503 l_a66
                                have l_a69 := ln_I eS503 l_a69
                                have g0 := gr_I eS503 g0
                                have o_a3 := ob_I eS503 o_a3
                                have o_a315 := ob_I eS503 o_a315
                                have o_a319 := ob_I eS503 o_a319
                                have o_a326 := ob_I eS503 o_a326
                                have o_a486 := ob_I eS503 o_a486
                                have o_a66 := ob_I eS503 o_a66
                                have o_a69 := ob_I eS503 o_a69
                                have o_v0 := ob_I eS503 o_v0
                                intro S505 eS505
                                have hIn : IV S505 := by rw [eS505]; exact iv11_sI hI o_v0 (by decide) (nu_free (by decide))
                                have el328 := el_ob eS505 o_v0 o_a326 (by decide) el328
                                have hI := hIn
                                have f0 := fr_I eS505 g0 f0 o_v0 (by decide)
                                have d_kv2 := rd_Ij eS505 (by decide) d_kv2
                                have d_x64 := rd_Ij eS505 (by decide) d_x64
                                have d_kv13 := rd_Ik eS505 o_v0 o_a3 (by decide) d_kv13
                                have d_x35 := rd_Ik eS505 o_v0 o_a3 (by decide) d_x35
                                have d_kv317 := rd_Ik eS505 o_v0 o_a3 (by decide) d_kv317
                                have d_x402 := rd_Ik eS505 o_v0 o_a3 (by decide) d_x402
                                have d_x406 := rd_Ik eS505 o_v0 o_a3 (by decide) d_x406
                                have d_x457 := rd_Ij eS505 (by decide) d_x457
                                have d_kv504 := rd_Ij eS505 (by decide) d_kv504
                                obtain ⟨kv506, hkv506⟩ : ∃ z : Int32, z = (-1 : Int32) := ⟨_, rfl⟩
                                have d_kv506 := rd_Is eS505 hkv506
                                have ea3 := rf_I eS505 ea3
                                have ea66 := rf_I eS505 ea66
                                have ea69 := rf_I eS505 ea69
                                have ea315 := rf_I eS505 ea315
                                have ea319 := rf_I eS505 ea319
                                have ea326 := rf_I eS505 ea326
                                have ea486 := rf_I eS505 ea486
                                have l_a315 := ln_I eS505 l_a315
                                have l_a319 := ln_I eS505 l_a319
                                have l_a326 := ln_I eS505 l_a326
                                have l_a486 := ln_I eS505 l_a486
                                have l_a66 := ln_I eS505 l_a66
                                have l_a69 := ln_I eS505 l_a69
                                have g0 := gr_I eS505 g0
                                have o_a3 := ob_I eS505 o_a3
                                have o_a315 := ob_I eS505 o_a315
                                have o_a319 := ob_I eS505 o_a319
                                have o_a326 := ob_I eS505 o_a326
                                have o_a486 := ob_I eS505 o_a486
                                have o_a66 := ob_I eS505 o_a66
                                have o_a69 := ob_I eS505 o_a69
                                have o_v0 := ob_I eS505 o_v0
                                intro _
                                exact hq _ _ hI g0 f0
                            · intro _ _
                              refine ⟨fun c509 => absurd (show (1 : Int32) = 0 from c509) (by decide), fun c509 => ?_⟩
                              refine ⟨a319, ea319, ?_⟩
                              refine ⟨o_a319, ?_⟩
                              intro x511 ex511
                              refine ⟨(vin l_a319 (m := 7) (by decide) (qm427 r_x12 r_kv13 wh_x12 c14 c26 r_x35 c36 c46 c54 r_x64 q_x64 wh_x64 g_x67 g_x70 c71 c80 c93 g_x316 r_kv317 gl_x316 dr_x320 c321 dr_x323 lr_x323 ex324 g_x327 ex329 dv_x329 dw_x329 c331 i1u336 c353 r_x402 hh_x402 ex403 dv_x403 r_x406 c407 c458 ex511)), ?_⟩
                              intro x512 ex512
                              have de_x512 := ml_de hI o_v0 (j := 21) (by decide) ea319 x511.toNatClampNeg
                              rw [← ex512] at de_x512
                              intro x513 ex513
                              have r_x513 : (-2 : Int32) ≤ x513 ∧ x513 ≤ (3 : Int32) := by rw [ex513]; exact nu 26 rfl hI o_v0
                              have q_x513 : x513 = x64 := ex513.trans d_x64.symm
                              have d_x513 := ex513
                              have wh_x513 : x513 = -2 ∨ (0 ≤ x513 ∧ x513 < kv13) := by rw [ex513, d_kv13]; exact ml_who hI o_v0 ea3
                              refine u_X11_hourOf ?_
                              refine u_X11_hourOf_0 ?_
                              refine ⟨o_v0, ?_⟩
                              refine ⟨a3, ea3, ?_⟩
                              refine ⟨o_a3, ?_⟩
                              intro x515 ex515
                              have r_x515 : (0 : Int32) ≤ x515 ∧ x515 ≤ (60 : Int32) := by rw [ex515]; exact nu 16 rfl hI o_a3
                              have q_x515 : x515 = x402 := ex515.trans d_x402.symm
                              have d_x515 := ex515
                              have hh_x515 : 1 ≤ x515 := by rw [ex515]; exact ml_hour hI o_v0 ea3
                              refine ⟨(qm428 r_x12 r_kv13 wh_x12 c14 c26 r_x35 c36 c46 c54 r_x64 q_x64 wh_x64 g_x67 g_x70 c71 c80 c93 g_x316 r_kv317 gl_x316 dr_x320 c321 dr_x323 lr_x323 ex324 g_x327 ex329 dv_x329 dw_x329 c331 i1u336 c353 r_x402 hh_x402 ex403 dv_x403 r_x406 c407 c458 ex511 r_x513 q_x513 wh_x513 r_x515 q_x515 hh_x515), ?_⟩
                              intro x516 ex516
                              have dv_x516 : 0 ≤ x516 ∧ x516 ≤ x324 := by rw [ex516]; exact dv0 (qm429 r_x12 r_kv13 wh_x12 c14 c26 r_x35 c36 c46 c54 r_x64 q_x64 wh_x64 g_x67 g_x70 c71 c80 c93 g_x316 r_kv317 gl_x316 dr_x320 c321 dr_x323 lr_x323 ex324 g_x327 ex329 dv_x329 dw_x329 c331 i1u336 c353 r_x402 hh_x402 ex403 dv_x403 r_x406 c407 c458 ex511 r_x513 q_x513 wh_x513 r_x515 q_x515 hh_x515 ex516) (i32pos (qm430 r_x12 r_kv13 wh_x12 c14 c26 r_x35 c36 c46 c54 r_x64 q_x64 wh_x64 g_x67 g_x70 c71 c80 c93 g_x316 r_kv317 gl_x316 dr_x320 c321 dr_x323 lr_x323 ex324 g_x327 ex329 dv_x329 dw_x329 c331 i1u336 c353 r_x402 hh_x402 ex403 dv_x403 r_x406 c407 c458 ex511 r_x513 q_x513 wh_x513 r_x515 q_x515 hh_x515 ex516))
                              intro _
                              refine m_X11_partsOf hI o_v0 (qm431 r_x12 r_kv13 wh_x12 c14 c26 r_x35 c36 c46 c54 r_x64 q_x64 wh_x64 g_x67 g_x70 c71 c80 c93 g_x316 r_kv317 gl_x316 dr_x320 c321 dr_x323 lr_x323 ex324 g_x327 ex329 dv_x329 dw_x329 c331 i1u336 c353 r_x402 hh_x402 ex403 dv_x403 r_x406 c407 c458 ex511 r_x513 q_x513 wh_x513 r_x515 q_x515 hh_x515 ex516 dv_x516) (qm432 r_x12 r_kv13 wh_x12 c14 c26 r_x35 c36 c46 c54 r_x64 q_x64 wh_x64 g_x67 g_x70 c71 c80 c93 g_x316 r_kv317 gl_x316 dr_x320 c321 dr_x323 lr_x323 ex324 g_x327 ex329 dv_x329 dw_x329 c331 i1u336 c353 r_x402 hh_x402 ex403 dv_x403 r_x406 c407 c458 ex511 r_x513 q_x513 wh_x513 r_x515 q_x515 hh_x515 ex516 dv_x516) (qm433 r_x12 r_kv13 wh_x12 c14 c26 r_x35 c36 c46 c54 r_x64 q_x64 wh_x64 g_x67 g_x70 c71 c80 c93 g_x316 r_kv317 gl_x316 dr_x320 c321 dr_x323 lr_x323 ex324 g_x327 ex329 dv_x329 dw_x329 c331 i1u336 c353 r_x402 hh_x402 ex403 dv_x403 r_x406 c407 c458 ex511 r_x513 q_x513 wh_x513 r_x515 q_x515 hh_x515 ex516 dv_x516) (qm434 r_x12 r_kv13 wh_x12 c14 c26 r_x35 c36 c46 c54 r_x64 q_x64 wh_x64 g_x67 g_x70 c71 c80 c93 g_x316 r_kv317 gl_x316 dr_x320 c321 dr_x323 lr_x323 ex324 g_x327 ex329 dv_x329 dw_x329 c331 i1u336 c353 r_x402 hh_x402 ex403 dv_x403 r_x406 c407 c458 ex511 r_x513 q_x513 wh_x513 r_x515 q_x515 hh_x515 ex516 dv_x516) ⟨_, ea3⟩ (fun x518 S519 hI2 g520 p_x518 => ?_)
                              subst p_x518
                              intro _
                              intro x522 ex522
                              have i523 : vp_in ((2 : Int32) + w350) (hN _ a319) := (vin l_a319 (m := 7) (by decide) (qm435 r_x12 r_kv13 wh_x12 c14 c26 r_x35 c36 c46 c54 r_x64 q_x64 wh_x64 g_x67 g_x70 c71 c80 c93 g_x316 r_kv317 gl_x316 dr_x320 c321 dr_x323 lr_x323 ex324 g_x327 ex329 dv_x329 dw_x329 c331 i1u336 c353 r_x402 hh_x402 ex403 dv_x403 r_x406 c407 c458 ex511 r_x513 q_x513 wh_x513 r_x515 q_x515 hh_x515 ex516 dv_x516))
                              refine ⟨i523, ?_⟩
                              intro S524 eS524
                              have hIn : IV S524 := by rw [eS524]; exact iv11_aD hI (de_free (qm436 r_x12 r_kv13 wh_x12 c14 c26 r_x35 c36 c46 c54 r_x64 q_x64 wh_x64 g_x67 g_x70 c71 c80 c93 g_x316 r_kv317 gl_x316 dr_x320 c321 dr_x323 lr_x323 ex324 g_x327 ex329 dv_x329 dw_x329 c331 i1u336 c353 r_x402 hh_x402 ex403 dv_x403 r_x406 c407 c458 ex511 r_x513 q_x513 wh_x513 r_x515 q_x515 hh_x515 ex516 dv_x516))
                              have el328 := el_J eS524 el328
                              have hI := hIn
                              have f0 := fr_J eS524 f0
                              have fL339 := fr_J eS524 fL339
                              have d_kv2 := rd_J eS524 d_kv2
                              have d_x513 := rd_J eS524 d_x513
                              have d_kv13 := rd_J eS524 d_kv13
                              have d_x35 := rd_J eS524 d_x35
                              have d_kv317 := rd_J eS524 d_kv317
                              have d_x515 := rd_J eS524 d_x515
                              have d_x406 := rd_J eS524 d_x406
                              have d_x457 := rd_J eS524 d_x457
                              have ea3 := rf_J eS524 ea3
                              have ea66 := rf_J eS524 ea66
                              have ea69 := rf_J eS524 ea69
                              have ea315 := rf_J eS524 ea315
                              have ea319 := rf_J eS524 ea319
                              have ea326 := rf_J eS524 ea326
                              have l_a315 := ln_J eS524 l_a315
                              have l_a319 := ln_J eS524 l_a319
                              have l_a326 := ln_J eS524 l_a326
                              have l_a66 := ln_J eS524 l_a66
                              have l_a69 := ln_J eS524 l_a69
                              have g0 := gr_J eS524 g0
                              have gL338 := gr_J eS524 gL338
                              have o_a3 := ob_J eS524 o_a3
                              have o_a315 := ob_J eS524 o_a315
                              have o_a319 := ob_J eS524 o_a319
                              have o_a326 := ob_J eS524 o_a326
                              have o_a66 := ob_J eS524 o_a66
                              have o_a69 := ob_J eS524 o_a69
                              have o_v0 := ob_J eS524 o_v0
                              intro x525 ex525
                              exact ih352 _ _ _ _ _ _ _ ⟨hI, gL338, fL339, rfl, rfl, rfl, rfl, rfl, (qm437 r_x12 r_kv13 wh_x12 c14 c26 r_x35 c36 c46 c54 r_x64 q_x64 wh_x64 g_x67 g_x70 c71 c80 c93 g_x316 r_kv317 gl_x316 dr_x320 c321 dr_x323 lr_x323 ex324 g_x327 ex329 dv_x329 dw_x329 c331 i1u336 c353 r_x402 hh_x402 ex403 dv_x403 r_x406 c407 c458 ex511 r_x513 q_x513 wh_x513 r_x515 q_x515 hh_x515 ex516 dv_x516 ex525), el328⟩ (mu_up (qm438 r_x12 r_kv13 wh_x12 c14 c26 r_x35 c36 c46 c54 r_x64 q_x64 wh_x64 g_x67 g_x70 c71 c80 c93 g_x316 r_kv317 gl_x316 dr_x320 c321 dr_x323 lr_x323 ex324 g_x327 ex329 dv_x329 dw_x329 c331 i1u336 c353 r_x402 hh_x402 ex403 dv_x403 r_x406 c407 c458 ex511 r_x513 q_x513 wh_x513 r_x515 q_x515 hh_x515 ex516 dv_x516 ex525) (qm439 r_x12 r_kv13 wh_x12 c14 c26 r_x35 c36 c46 c54 r_x64 q_x64 wh_x64 g_x67 g_x70 c71 c80 c93 g_x316 r_kv317 gl_x316 dr_x320 c321 dr_x323 lr_x323 ex324 g_x327 ex329 dv_x329 dw_x329 c331 i1u336 c353 r_x402 hh_x402 ex403 dv_x403 r_x406 c407 c458 ex511 r_x513 q_x513 wh_x513 r_x515 q_x515 hh_x515 ex516 dv_x516 ex525))
                      · refine u_X11_refused ?_
                        refine u_X11_refused_0 ?_
                        refine ⟨o_v0, ?_⟩
                        intro S526 eS526
                        have hIn : IV S526 := by rw [eS526]; exact iv11_sI hI o_v0 (by decide) (nu_free (by decide))
                        have el328 := el_ob eS526 o_v0 o_a326 (by decide) el328
                        have hI := hIn
                        have f0 := fr_I eS526 g0 f0 o_v0 (by decide)
                        have d_kv2 := rd_Ij eS526 (by decide) d_kv2
                        have d_x64 := rd_Ij eS526 (by decide) d_x64
                        have d_kv13 := rd_Ik eS526 o_v0 o_a3 (by decide) d_kv13
                        have d_x35 := rd_Ik eS526 o_v0 o_a3 (by decide) d_x35
                        have d_kv317 := rd_Ik eS526 o_v0 o_a3 (by decide) d_kv317
                        obtain ⟨kv527, hkv527⟩ : ∃ z : Int32, z = (3 : Int32) := ⟨_, rfl⟩
                        have d_kv527 := rd_Is eS526 hkv527
                        have ea3 := rf_I eS526 ea3
                        have ea66 := rf_I eS526 ea66
                        have ea69 := rf_I eS526 ea69
                        have ea315 := rf_I eS526 ea315
                        have ea319 := rf_I eS526 ea319
                        have ea326 := rf_I eS526 ea326
                        have l_a315 := ln_I eS526 l_a315
                        have l_a319 := ln_I eS526 l_a319
                        have l_a326 := ln_I eS526 l_a326
                        have l_a66 := ln_I eS526 l_a66
                        have l_a69 := ln_I eS526 l_a69
                        have g0 := gr_I eS526 g0
                        have o_a3 := ob_I eS526 o_a3
                        have o_a315 := ob_I eS526 o_a315
                        have o_a319 := ob_I eS526 o_a319
                        have o_a326 := ob_I eS526 o_a326
                        have o_a66 := ob_I eS526 o_a66
                        have o_a69 := ob_I eS526 o_a69
                        have o_v0 := ob_I eS526 o_v0
                        intro S528 eS528
                        have hIn : IV S528 := by rw [eS528]; exact iv11_sI hI o_v0 (by decide) (nu_free (by decide))
                        have el328 := el_ob eS528 o_v0 o_a326 (by decide) el328
                        have hI := hIn
                        have f0 := fr_I eS528 g0 f0 o_v0 (by decide)
                        have d_kv2 := rd_Ij eS528 (by decide) d_kv2
                        have d_x64 := rd_Ij eS528 (by decide) d_x64
                        have d_kv13 := rd_Ik eS528 o_v0 o_a3 (by decide) d_kv13
                        have d_x35 := rd_Ik eS528 o_v0 o_a3 (by decide) d_x35
                        have d_kv317 := rd_Ik eS528 o_v0 o_a3 (by decide) d_kv317
                        have d_kv527 := rd_Ij eS528 (by decide) d_kv527
                        obtain ⟨kv529, hkv529⟩ : ∃ z : Int32, z = (-1 : Int32) := ⟨_, rfl⟩
                        have d_kv529 := rd_Is eS528 hkv529
                        have ea3 := rf_I eS528 ea3
                        have ea66 := rf_I eS528 ea66
                        have ea69 := rf_I eS528 ea69
                        have ea315 := rf_I eS528 ea315
                        have ea319 := rf_I eS528 ea319
                        have ea326 := rf_I eS528 ea326
                        have l_a315 := ln_I eS528 l_a315
                        have l_a319 := ln_I eS528 l_a319
                        have l_a326 := ln_I eS528 l_a326
                        have l_a66 := ln_I eS528 l_a66
                        have l_a69 := ln_I eS528 l_a69
                        have g0 := gr_I eS528 g0
                        have o_a3 := ob_I eS528 o_a3
                        have o_a315 := ob_I eS528 o_a315
                        have o_a319 := ob_I eS528 o_a319
                        have o_a326 := ob_I eS528 o_a326
                        have o_a66 := ob_I eS528 o_a66
                        have o_a69 := ob_I eS528 o_a69
                        have o_v0 := ob_I eS528 o_v0
                        intro _
                        exact hq _ _ hI g0 f0
                    · refine u_X11_refused ?_
                      refine u_X11_refused_0 ?_
                      refine ⟨o_v0, ?_⟩
                      intro S531 eS531
                      have hIn : IV S531 := by rw [eS531]; exact iv11_sI hI o_v0 (by decide) (nu_free (by decide))
                      have hI := hIn
                      have f0 := fr_I eS531 g0 f0 o_v0 (by decide)
                      have d_kv2 := rd_Ij eS531 (by decide) d_kv2
                      have d_x64 := rd_Ij eS531 (by decide) d_x64
                      have d_kv13 := rd_Ik eS531 o_v0 o_a3 (by decide) d_kv13
                      have d_x35 := rd_Ik eS531 o_v0 o_a3 (by decide) d_x35
                      have d_kv317 := rd_Ik eS531 o_v0 o_a3 (by decide) d_kv317
                      obtain ⟨kv532, hkv532⟩ : ∃ z : Int32, z = (5 : Int32) := ⟨_, rfl⟩
                      have d_kv532 := rd_Is eS531 hkv532
                      have ea3 := rf_I eS531 ea3
                      have ea66 := rf_I eS531 ea66
                      have ea69 := rf_I eS531 ea69
                      have ea315 := rf_I eS531 ea315
                      have ea319 := rf_I eS531 ea319
                      have l_a315 := ln_I eS531 l_a315
                      have l_a319 := ln_I eS531 l_a319
                      have l_a66 := ln_I eS531 l_a66
                      have l_a69 := ln_I eS531 l_a69
                      have g0 := gr_I eS531 g0
                      have o_a3 := ob_I eS531 o_a3
                      have o_a315 := ob_I eS531 o_a315
                      have o_a319 := ob_I eS531 o_a319
                      have o_a66 := ob_I eS531 o_a66
                      have o_a69 := ob_I eS531 o_a69
                      have o_v0 := ob_I eS531 o_v0
                      intro S533 eS533
                      have hIn : IV S533 := by rw [eS533]; exact iv11_sI hI o_v0 (by decide) (nu_free (by decide))
                      have hI := hIn
                      have f0 := fr_I eS533 g0 f0 o_v0 (by decide)
                      have d_kv2 := rd_Ij eS533 (by decide) d_kv2
                      have d_x64 := rd_Ij eS533 (by decide) d_x64
                      have d_kv13 := rd_Ik eS533 o_v0 o_a3 (by decide) d_kv13
                      have d_x35 := rd_Ik eS533 o_v0 o_a3 (by decide) d_x35
                      have d_kv317 := rd_Ik eS533 o_v0 o_a3 (by decide) d_kv317
                      have d_kv532 := rd_Ij eS533 (by decide) d_kv532
                      obtain ⟨kv534, hkv534⟩ : ∃ z : Int32, z = (-1 : Int32) := ⟨_, rfl⟩
                      have d_kv534 := rd_Is eS533 hkv534
                      have ea3 := rf_I eS533 ea3
                      have ea66 := rf_I eS533 ea66
                      have ea69 := rf_I eS533 ea69
                      have ea315 := rf_I eS533 ea315
                      have ea319 := rf_I eS533 ea319
                      have l_a315 := ln_I eS533 l_a315
                      have l_a319 := ln_I eS533 l_a319
                      have l_a66 := ln_I eS533 l_a66
                      have l_a69 := ln_I eS533 l_a69
                      have g0 := gr_I eS533 g0
                      have o_a3 := ob_I eS533 o_a3
                      have o_a315 := ob_I eS533 o_a315
                      have o_a319 := ob_I eS533 o_a319
                      have o_a66 := ob_I eS533 o_a66
                      have o_a69 := ob_I eS533 o_a69
                      have o_v0 := ob_I eS533 o_v0
                      intro _
                      exact hq _ _ hI g0 f0
end
section
set_option maxHeartbeats 4000000 in
set_option maxRecDepth 20000 in
theorem m_X11_got {v0 : Nat} {v1 : Int32} {v2 : Int32} {Q : Int64 → HS → Prop} {S : HS} (hI : IV S) (o_v0 : ob S v0 11)     (hq : ∀ (r : Int64) (T : HS), IV T → Gr S T → FRI [(11, 0), (11, 1), (11, 2)] [] S T → Q r T) : P_X11_got v0 v1 v2 Q S := by
  have g0 := gr_rf S
  have f0 := fri_rf [(11, 0), (11, 1), (11, 2)] [] S
  refine u_X11_got ?_
  refine u_X11_got_0 ?_
  refine ⟨o_v0, ?_⟩
  intro S1 eS1
  have hIn : IV S1 := by rw [eS1]; exact iv11_sI hI o_v0 (by decide) (nu_free (by decide))
  have hI := hIn
  have f0 := fr_I eS1 g0 f0 o_v0 (by decide)
  obtain ⟨kv2, hkv2⟩ : ∃ z : Int32, z = (0 : Int32) := ⟨_, rfl⟩
  have d_kv2 := rd_Is eS1 hkv2
  have g0 := gr_I eS1 g0
  have o_v0 := ob_I eS1 o_v0
  refine u_X11_isDay ?_
  refine u_X11_isDay_0 ?_
  refine ⟨o_v0, ?_⟩
  refine ⟨fun e4 => ?_, fun a3 ea3 => ?_⟩
  · intro _ _
    refine ⟨fun c6 => ?_, fun c6 => absurd (show ¬ (0 : Int32) = 0 from c6) (by decide)⟩
    refine u_X11_got_40 ?_
    refine ⟨o_v0, ?_⟩
    refine u_X11_refused ?_
    refine u_X11_refused_0 ?_
    refine ⟨o_v0, ?_⟩
    intro S7 eS7
    have hIn : IV S7 := by rw [eS7]; exact iv11_sI hI o_v0 (by decide) (nu_free (by decide))
    have hI := hIn
    have f0 := fr_I eS7 g0 f0 o_v0 (by decide)
    have d_kv2 := rd_Ij eS7 (by decide) d_kv2
    obtain ⟨kv8, hkv8⟩ : ∃ z : Int32, z = (1 : Int32) := ⟨_, rfl⟩
    have d_kv8 := rd_Is eS7 hkv8
    have g0 := gr_I eS7 g0
    have o_v0 := ob_I eS7 o_v0
    intro S9 eS9
    have hIn : IV S9 := by rw [eS9]; exact iv11_sI hI o_v0 (by decide) (nu_free (by decide))
    have hI := hIn
    have f0 := fr_I eS9 g0 f0 o_v0 (by decide)
    have d_kv2 := rd_Ij eS9 (by decide) d_kv2
    have d_kv8 := rd_Ij eS9 (by decide) d_kv8
    obtain ⟨kv10, hkv10⟩ : ∃ z : Int32, z = (-1 : Int32) := ⟨_, rfl⟩
    have d_kv10 := rd_Is eS9 hkv10
    have g0 := gr_I eS9 g0
    have o_v0 := ob_I eS9 o_v0
    intro _
    exact hq _ _ hI g0 f0
  · have o_a3 := ml_ob hI o_v0 ea3
    intro x12 ex12
    have r_x12 : (-2 : Int32) ≤ x12 ∧ x12 ≤ (3 : Int32) := by rw [ex12]; exact nu 26 rfl hI o_v0
    have d_x12 := ex12
    obtain ⟨kv13, d_kv13⟩ : ∃ z : Int32, z = fI S1 a3 4 := ⟨_, rfl⟩
    have r_kv13 : (0 : Int32) ≤ kv13 ∧ kv13 ≤ (4 : Int32) := by rw [d_kv13]; exact nu 20 rfl hI o_a3
    have wh_x12 : x12 = -2 ∨ (0 ≤ x12 ∧ x12 < kv13) := by rw [ex12, d_kv13]; exact ml_who hI o_v0 ea3
    refine ⟨fun c14 => ?_, fun c14 => ?_⟩
    · intro _ _
      refine ⟨fun c16 => ?_, fun c16 => absurd (show ¬ (0 : Int32) = 0 from c16) (by decide)⟩
      refine u_X11_got_40 ?_
      refine ⟨o_v0, ?_⟩
      refine u_X11_refused ?_
      refine u_X11_refused_0 ?_
      refine ⟨o_v0, ?_⟩
      intro S17 eS17
      have hIn : IV S17 := by rw [eS17]; exact iv11_sI hI o_v0 (by decide) (nu_free (by decide))
      have hI := hIn
      have f0 := fr_I eS17 g0 f0 o_v0 (by decide)
      have d_kv2 := rd_Ij eS17 (by decide) d_kv2
      have d_x12 := rd_Ij eS17 (by decide) d_x12
      have d_kv13 := rd_Ik eS17 o_v0 o_a3 (by decide) d_kv13
      obtain ⟨kv18, hkv18⟩ : ∃ z : Int32, z = (1 : Int32) := ⟨_, rfl⟩
      have d_kv18 := rd_Is eS17 hkv18
      have ea3 := rf_I eS17 ea3
      have g0 := gr_I eS17 g0
      have o_a3 := ob_I eS17 o_a3
      have o_v0 := ob_I eS17 o_v0
      intro S19 eS19
      have hIn : IV S19 := by rw [eS19]; exact iv11_sI hI o_v0 (by decide) (nu_free (by decide))
      have hI := hIn
      have f0 := fr_I eS19 g0 f0 o_v0 (by decide)
      have d_kv2 := rd_Ij eS19 (by decide) d_kv2
      have d_x12 := rd_Ij eS19 (by decide) d_x12
      have d_kv13 := rd_Ik eS19 o_v0 o_a3 (by decide) d_kv13
      have d_kv18 := rd_Ij eS19 (by decide) d_kv18
      obtain ⟨kv20, hkv20⟩ : ∃ z : Int32, z = (-1 : Int32) := ⟨_, rfl⟩
      have d_kv20 := rd_Is eS19 hkv20
      have ea3 := rf_I eS19 ea3
      have g0 := gr_I eS19 g0
      have o_a3 := ob_I eS19 o_a3
      have o_v0 := ob_I eS19 o_v0
      intro _
      exact hq _ _ hI g0 f0
    · intro _ _
      refine ⟨fun c23 => absurd (show (1 : Int32) = 0 from c23) (by decide), fun c23 => ?_⟩
      refine u_X11_in ?_
      refine u_X11_in_0 ?_
      refine ⟨fun c24 => ?_, fun c24 => ?_⟩
      · intro _ _
        refine ⟨fun c26 => ?_, fun c26 => absurd (show ¬ (0 : Int32) = 0 from c26) (by decide)⟩
        refine u_X11_got_40 ?_
        refine ⟨o_v0, ?_⟩
        refine u_X11_refused ?_
        refine u_X11_refused_0 ?_
        refine ⟨o_v0, ?_⟩
        intro S27 eS27
        have hIn : IV S27 := by rw [eS27]; exact iv11_sI hI o_v0 (by decide) (nu_free (by decide))
        have hI := hIn
        have f0 := fr_I eS27 g0 f0 o_v0 (by decide)
        have d_kv2 := rd_Ij eS27 (by decide) d_kv2
        have d_x12 := rd_Ij eS27 (by decide) d_x12
        have d_kv13 := rd_Ik eS27 o_v0 o_a3 (by decide) d_kv13
        obtain ⟨kv28, hkv28⟩ : ∃ z : Int32, z = (1 : Int32) := ⟨_, rfl⟩
        have d_kv28 := rd_Is eS27 hkv28
        have ea3 := rf_I eS27 ea3
        have g0 := gr_I eS27 g0
        have o_a3 := ob_I eS27 o_a3
        have o_v0 := ob_I eS27 o_v0
        intro S29 eS29
        have hIn : IV S29 := by rw [eS29]; exact iv11_sI hI o_v0 (by decide) (nu_free (by decide))
        have hI := hIn
        have f0 := fr_I eS29 g0 f0 o_v0 (by decide)
        have d_kv2 := rd_Ij eS29 (by decide) d_kv2
        have d_x12 := rd_Ij eS29 (by decide) d_x12
        have d_kv13 := rd_Ik eS29 o_v0 o_a3 (by decide) d_kv13
        have d_kv28 := rd_Ij eS29 (by decide) d_kv28
        obtain ⟨kv30, hkv30⟩ : ∃ z : Int32, z = (-1 : Int32) := ⟨_, rfl⟩
        have d_kv30 := rd_Is eS29 hkv30
        have ea3 := rf_I eS29 ea3
        have g0 := gr_I eS29 g0
        have o_a3 := ob_I eS29 o_a3
        have o_v0 := ob_I eS29 o_v0
        intro _
        exact hq _ _ hI g0 f0
      · refine ⟨fun c32 => ?_, fun c32 => ?_⟩
        · intro _ _
          refine ⟨fun c34 => ?_, fun c34 => absurd (show ¬ (0 : Int32) = 0 from c34) (by decide)⟩
          refine u_X11_got_40 ?_
          refine ⟨o_v0, ?_⟩
          refine u_X11_refused ?_
          refine u_X11_refused_0 ?_
          refine ⟨o_v0, ?_⟩
          intro S35 eS35
          have hIn : IV S35 := by rw [eS35]; exact iv11_sI hI o_v0 (by decide) (nu_free (by decide))
          have hI := hIn
          have f0 := fr_I eS35 g0 f0 o_v0 (by decide)
          have d_kv2 := rd_Ij eS35 (by decide) d_kv2
          have d_x12 := rd_Ij eS35 (by decide) d_x12
          have d_kv13 := rd_Ik eS35 o_v0 o_a3 (by decide) d_kv13
          obtain ⟨kv36, hkv36⟩ : ∃ z : Int32, z = (1 : Int32) := ⟨_, rfl⟩
          have d_kv36 := rd_Is eS35 hkv36
          have ea3 := rf_I eS35 ea3
          have g0 := gr_I eS35 g0
          have o_a3 := ob_I eS35 o_a3
          have o_v0 := ob_I eS35 o_v0
          intro S37 eS37
          have hIn : IV S37 := by rw [eS37]; exact iv11_sI hI o_v0 (by decide) (nu_free (by decide))
          have hI := hIn
          have f0 := fr_I eS37 g0 f0 o_v0 (by decide)
          have d_kv2 := rd_Ij eS37 (by decide) d_kv2
          have d_x12 := rd_Ij eS37 (by decide) d_x12
          have d_kv13 := rd_Ik eS37 o_v0 o_a3 (by decide) d_kv13
          have d_kv36 := rd_Ij eS37 (by decide) d_kv36
          obtain ⟨kv38, hkv38⟩ : ∃ z : Int32, z = (-1 : Int32) := ⟨_, rfl⟩
          have d_kv38 := rd_Is eS37 hkv38
          have ea3 := rf_I eS37 ea3
          have g0 := gr_I eS37 g0
          have o_a3 := ob_I eS37 o_a3
          have o_v0 := ob_I eS37 o_v0
          intro _
          exact hq _ _ hI g0 f0
        · intro _ _
          refine ⟨fun c41 => absurd (show (1 : Int32) = 0 from c41) (by decide), fun c41 => ?_⟩
          obtain ⟨a42, ea42, o_a42, l_a42⟩ := shl 57 rfl hI o_v0
          refine ⟨a42, ea42, ?_⟩
          refine ⟨o_a42, ?_⟩
          intro x43 ex43
          refine ⟨(vin l_a42 (m := 7) (by decide) (qm540 r_x12 r_kv13 wh_x12 c14 c24 c32 ex43)), ?_⟩
          intro x44 ex44
          have de_x44 := ml_de hI o_v0 (j := 21) (by decide) ea42 x43.toNatClampNeg
          rw [← ex44] at de_x44
          refine m_X11_told hI o_v0 (qm541 r_x12 r_kv13 wh_x12 c14 c24 c32 ex43) (fun x45 S46 hJ g47 fc48 => ?_)
          have hI := hJ
          have l_a42 := (gr_len g47 o_a42).trans l_a42
          have d_kv2 := d_kv2.trans (fri_at fc48 (by decide) (by decide) o_v0).symm
          have d_x12 := d_x12.trans (fri_at fc48 (by decide) (by decide) o_v0).symm
          have d_kv13 := d_kv13.trans (fri_at fc48 (by decide) (by decide) o_a3).symm
          have ea3 := (frr_at fc48 (by decide) (by decide) o_v0).trans ea3
          have ea42 := (frr_at fc48 (by decide) (by decide) o_v0).trans ea42
          have f0 := fri_tr (S := S1) g0 f0 fc48 (by decide) (by decide)
          have o_a3 := gr_ob g47 o_a3
          have o_a42 := gr_ob g47 o_a42
          have o_v0 := gr_ob g47 o_v0
          have g0 := gr_tr (T := S1) g0 g47
          intro _
          exact hq _ _ hI g0 f0
set_option maxHeartbeats 4000000 in
set_option maxRecDepth 20000 in
theorem m_X11_gotInAll {v0 : Nat} {Q : Int64 → HS → Prop} {S : HS} (hI : IV S) (o_v0 : ob S v0 11)     (hq : ∀ (r : Int64) (T : HS), IV T → Gr S T → (S = T) → Q r T) : P_X11_gotInAll v0 Q S := by
  have g0 := gr_rf S
  refine u_X11_gotInAll ?_
  refine u_X11_gotInAll_0 ?_
  refine i_X11_gotInAll_4 (fun (y0 : Nat) (y1 : Int64) (y3 : Int32) (Z : HS) => ((2147483647 : Int32).toInt - y3.toInt).toNat) (fun (y0 : Nat) (y1 : Int64) (y3 : Int32) (Z : HS) => (S = Z) ∧ (v0 = y0) ∧ (0 ≤ y3)) ?_ _ _ _ _ ⟨rfl, rfl, (qm8)⟩
  intro w5 w7 w8 S2 X9 ⟨eS2, q6, i1u1⟩ ih10
  subst q6
  subst eS2
  refine u_X11_gotInAll_4 ?_
  refine ⟨fun c11 => ?_, fun c11 => ?_⟩
  · exact hq _ _ hI g0 rfl
  · refine ⟨o_v0, ?_⟩
    obtain ⟨a12, ea12, o_a12, l_a12⟩ := shl 57 rfl hI o_v0
    refine ⟨a12, ea12, ?_⟩
    refine ⟨o_a12, ?_⟩
    intro x13 ex13
    refine ⟨(vin l_a12 (m := 7) (by decide) (qm550 i1u1 c11 ex13)), ?_⟩
    intro x14 ex14
    have de_x14 := ml_de hI o_v0 (j := 21) (by decide) ea12 x13.toNatClampNeg
    rw [← ex14] at de_x14
    intro x15 ex15
    intro x16 ex16
    exact ih10 _ _ _ _ ⟨rfl, rfl, (qm551 i1u1 c11 ex13 ex16)⟩ (mu_up (qm552 i1u1 c11 ex13 ex16) (qm553 i1u1 c11 ex13 ex16))
set_option maxHeartbeats 4000000 in
set_option maxRecDepth 20000 in
theorem m_X11_held {v0 : Nat} {v1 : Int32} {v2 : Int32} {v3 : Int32} {v4 : Int32} {v5 : Int32} {Q : Int32 → HS → Prop} {S : HS} (hI : IV S) (o_v0 : ob S v0 11)     (hq : ∀ (r : Int32) (T : HS), IV T → Gr S T → FRI [(11, 0), (11, 1), (11, 2)] [] S T → Q r T) : P_X11_held v0 v1 v2 v3 v4 v5 Q S := by
  have g0 := gr_rf S
  have f0 := fri_rf [(11, 0), (11, 1), (11, 2)] [] S
  refine u_X11_held ?_
  refine u_X11_held_0 ?_
  refine ⟨o_v0, ?_⟩
  intro S1 eS1
  have hIn : IV S1 := by rw [eS1]; exact iv11_sI hI o_v0 (by decide) (nu_free (by decide))
  have hI := hIn
  have f0 := fr_I eS1 g0 f0 o_v0 (by decide)
  obtain ⟨kv2, hkv2⟩ : ∃ z : Int32, z = (0 : Int32) := ⟨_, rfl⟩
  have d_kv2 := rd_Is eS1 hkv2
  have g0 := gr_I eS1 g0
  have o_v0 := ob_I eS1 o_v0
  refine u_X11_refuses ?_
  refine u_X11_refuses_0 ?_
  refine ⟨o_v0, ?_⟩
  refine u_X11_isWalker ?_
  refine u_X11_isWalker_0 ?_
  refine ⟨o_v0, ?_⟩
  refine ⟨fun e4 => ?_, fun a3 ea3 => ?_⟩
  · intro _ _
    refine ⟨fun c6 => ?_, fun c6 => absurd (show ¬ (0 : Int32) = 0 from c6) (by decide)⟩
    intro _
    refine ⟨fun c8 => absurd (show (1 : Int32) ≤ 0 from c8) (by decide), fun c8 => ?_⟩
    refine u_X11_refused ?_
    refine u_X11_refused_0 ?_
    refine ⟨o_v0, ?_⟩
    intro S9 eS9
    have hIn : IV S9 := by rw [eS9]; exact iv11_sI hI o_v0 (by decide) (nu_free (by decide))
    have hI := hIn
    have f0 := fr_I eS9 g0 f0 o_v0 (by decide)
    have d_kv2 := rd_Ij eS9 (by decide) d_kv2
    obtain ⟨kv10, hkv10⟩ : ∃ z : Int32, z = (1 : Int32) := ⟨_, rfl⟩
    have d_kv10 := rd_Is eS9 hkv10
    have g0 := gr_I eS9 g0
    have o_v0 := ob_I eS9 o_v0
    intro S11 eS11
    have hIn : IV S11 := by rw [eS11]; exact iv11_sI hI o_v0 (by decide) (nu_free (by decide))
    have hI := hIn
    have f0 := fr_I eS11 g0 f0 o_v0 (by decide)
    have d_kv2 := rd_Ij eS11 (by decide) d_kv2
    have d_kv10 := rd_Ij eS11 (by decide) d_kv10
    obtain ⟨kv12, hkv12⟩ : ∃ z : Int32, z = (-1 : Int32) := ⟨_, rfl⟩
    have d_kv12 := rd_Is eS11 hkv12
    have g0 := gr_I eS11 g0
    have o_v0 := ob_I eS11 o_v0
    intro _
    exact hq _ _ hI g0 f0
  · have o_a3 := ml_ob hI o_v0 ea3
    refine ⟨fun c14 => ?_, fun c14 => ?_⟩
    · intro _ _
      refine ⟨fun c16 => ?_, fun c16 => absurd (show ¬ (0 : Int32) = 0 from c16) (by decide)⟩
      intro _
      refine ⟨fun c18 => absurd (show (1 : Int32) ≤ 0 from c18) (by decide), fun c18 => ?_⟩
      refine u_X11_refused ?_
      refine u_X11_refused_0 ?_
      refine ⟨o_v0, ?_⟩
      intro S19 eS19
      have hIn : IV S19 := by rw [eS19]; exact iv11_sI hI o_v0 (by decide) (nu_free (by decide))
      have hI := hIn
      have f0 := fr_I eS19 g0 f0 o_v0 (by decide)
      have d_kv2 := rd_Ij eS19 (by decide) d_kv2
      obtain ⟨kv20, hkv20⟩ : ∃ z : Int32, z = (1 : Int32) := ⟨_, rfl⟩
      have d_kv20 := rd_Is eS19 hkv20
      have ea3 := rf_I eS19 ea3
      have g0 := gr_I eS19 g0
      have o_a3 := ob_I eS19 o_a3
      have o_v0 := ob_I eS19 o_v0
      intro S21 eS21
      have hIn : IV S21 := by rw [eS21]; exact iv11_sI hI o_v0 (by decide) (nu_free (by decide))
      have hI := hIn
      have f0 := fr_I eS21 g0 f0 o_v0 (by decide)
      have d_kv2 := rd_Ij eS21 (by decide) d_kv2
      have d_kv20 := rd_Ij eS21 (by decide) d_kv20
      obtain ⟨kv22, hkv22⟩ : ∃ z : Int32, z = (-1 : Int32) := ⟨_, rfl⟩
      have d_kv22 := rd_Is eS21 hkv22
      have ea3 := rf_I eS21 ea3
      have g0 := gr_I eS21 g0
      have o_a3 := ob_I eS21 o_a3
      have o_v0 := ob_I eS21 o_v0
      intro _
      exact hq _ _ hI g0 f0
    · refine ⟨a3, ea3, ?_⟩
      refine ⟨o_a3, ?_⟩
      intro x25 ex25
      have r_x25 : (0 : Int32) ≤ x25 ∧ x25 ≤ (4 : Int32) := by rw [ex25]; exact nu 20 rfl hI o_a3
      have d_x25 := ex25
      refine ⟨fun c26 => ?_, fun c26 => ?_⟩
      · intro _ _
        refine ⟨fun c28 => ?_, fun c28 => absurd (show ¬ (0 : Int32) = 0 from c28) (by decide)⟩
        intro _
        refine ⟨fun c30 => absurd (show (1 : Int32) ≤ 0 from c30) (by decide), fun c30 => ?_⟩
        refine u_X11_refused ?_
        refine u_X11_refused_0 ?_
        refine ⟨o_v0, ?_⟩
        intro S31 eS31
        have hIn : IV S31 := by rw [eS31]; exact iv11_sI hI o_v0 (by decide) (nu_free (by decide))
        have hI := hIn
        have f0 := fr_I eS31 g0 f0 o_v0 (by decide)
        have d_kv2 := rd_Ij eS31 (by decide) d_kv2
        have d_x25 := rd_Ik eS31 o_v0 o_a3 (by decide) d_x25
        obtain ⟨kv32, hkv32⟩ : ∃ z : Int32, z = (1 : Int32) := ⟨_, rfl⟩
        have d_kv32 := rd_Is eS31 hkv32
        have ea3 := rf_I eS31 ea3
        have g0 := gr_I eS31 g0
        have o_a3 := ob_I eS31 o_a3
        have o_v0 := ob_I eS31 o_v0
        intro S33 eS33
        have hIn : IV S33 := by rw [eS33]; exact iv11_sI hI o_v0 (by decide) (nu_free (by decide))
        have hI := hIn
        have f0 := fr_I eS33 g0 f0 o_v0 (by decide)
        have d_kv2 := rd_Ij eS33 (by decide) d_kv2
        have d_x25 := rd_Ik eS33 o_v0 o_a3 (by decide) d_x25
        have d_kv32 := rd_Ij eS33 (by decide) d_kv32
        obtain ⟨kv34, hkv34⟩ : ∃ z : Int32, z = (-1 : Int32) := ⟨_, rfl⟩
        have d_kv34 := rd_Is eS33 hkv34
        have ea3 := rf_I eS33 ea3
        have g0 := gr_I eS33 g0
        have o_a3 := ob_I eS33 o_a3
        have o_v0 := ob_I eS33 o_v0
        intro _
        exact hq _ _ hI g0 f0
      · intro _ _
        refine ⟨fun c37 => absurd (show (1 : Int32) = 0 from c37) (by decide), fun c37 => ?_⟩
        refine u_X11_isRoad ?_
        refine u_X11_isRoad_0 ?_
        refine ⟨o_v0, ?_⟩
        refine ⟨fun e39 => (nomatch (e39.symm.trans ea3)), fun a38 ea38 => ?_⟩
        obtain rfl : a3 = a38 := Option.some.inj (ea3.symm.trans ea38)
        refine ⟨fun c40 => ?_, fun c40 => ?_⟩
        · intro _ _
          refine ⟨fun c42 => ?_, fun c42 => absurd (show ¬ (0 : Int32) = 0 from c42) (by decide)⟩
          intro _
          refine ⟨fun c44 => absurd (show (1 : Int32) ≤ 0 from c44) (by decide), fun c44 => ?_⟩
          refine u_X11_refused ?_
          refine u_X11_refused_0 ?_
          refine ⟨o_v0, ?_⟩
          intro S45 eS45
          have hIn : IV S45 := by rw [eS45]; exact iv11_sI hI o_v0 (by decide) (nu_free (by decide))
          have hI := hIn
          have f0 := fr_I eS45 g0 f0 o_v0 (by decide)
          have d_kv2 := rd_Ij eS45 (by decide) d_kv2
          have d_x25 := rd_Ik eS45 o_v0 o_a3 (by decide) d_x25
          obtain ⟨kv46, hkv46⟩ : ∃ z : Int32, z = (1 : Int32) := ⟨_, rfl⟩
          have d_kv46 := rd_Is eS45 hkv46
          have ea3 := rf_I eS45 ea3
          have g0 := gr_I eS45 g0
          have o_a3 := ob_I eS45 o_a3
          have o_v0 := ob_I eS45 o_v0
          intro S47 eS47
          have hIn : IV S47 := by rw [eS47]; exact iv11_sI hI o_v0 (by decide) (nu_free (by decide))
          have hI := hIn
          have f0 := fr_I eS47 g0 f0 o_v0 (by decide)
          have d_kv2 := rd_Ij eS47 (by decide) d_kv2
          have d_x25 := rd_Ik eS47 o_v0 o_a3 (by decide) d_x25
          have d_kv46 := rd_Ij eS47 (by decide) d_kv46
          obtain ⟨kv48, hkv48⟩ : ∃ z : Int32, z = (-1 : Int32) := ⟨_, rfl⟩
          have d_kv48 := rd_Is eS47 hkv48
          have ea3 := rf_I eS47 ea3
          have g0 := gr_I eS47 g0
          have o_a3 := ob_I eS47 o_a3
          have o_v0 := ob_I eS47 o_v0
          intro _
          exact hq _ _ hI g0 f0
        · refine ⟨a3, ea3, ?_⟩
          refine ⟨o_a3, ?_⟩
          intro x51 ex51
          have r_x51 : (0 : Int32) ≤ x51 ∧ x51 ≤ (12 : Int32) := by rw [ex51]; exact nu 19 rfl hI o_a3
          have d_x51 := ex51
          refine ⟨fun c52 => ?_, fun c52 => ?_⟩
          · intro _ _
            refine ⟨fun c54 => ?_, fun c54 => absurd (show ¬ (0 : Int32) = 0 from c54) (by decide)⟩
            intro _
            refine ⟨fun c56 => absurd (show (1 : Int32) ≤ 0 from c56) (by decide), fun c56 => ?_⟩
            refine u_X11_refused ?_
            refine u_X11_refused_0 ?_
            refine ⟨o_v0, ?_⟩
            intro S57 eS57
            have hIn : IV S57 := by rw [eS57]; exact iv11_sI hI o_v0 (by decide) (nu_free (by decide))
            have hI := hIn
            have f0 := fr_I eS57 g0 f0 o_v0 (by decide)
            have d_kv2 := rd_Ij eS57 (by decide) d_kv2
            have d_x25 := rd_Ik eS57 o_v0 o_a3 (by decide) d_x25
            have d_x51 := rd_Ik eS57 o_v0 o_a3 (by decide) d_x51
            obtain ⟨kv58, hkv58⟩ : ∃ z : Int32, z = (1 : Int32) := ⟨_, rfl⟩
            have d_kv58 := rd_Is eS57 hkv58
            have ea3 := rf_I eS57 ea3
            have g0 := gr_I eS57 g0
            have o_a3 := ob_I eS57 o_a3
            have o_v0 := ob_I eS57 o_v0
            intro S59 eS59
            have hIn : IV S59 := by rw [eS59]; exact iv11_sI hI o_v0 (by decide) (nu_free (by decide))
            have hI := hIn
            have f0 := fr_I eS59 g0 f0 o_v0 (by decide)
            have d_kv2 := rd_Ij eS59 (by decide) d_kv2
            have d_x25 := rd_Ik eS59 o_v0 o_a3 (by decide) d_x25
            have d_x51 := rd_Ik eS59 o_v0 o_a3 (by decide) d_x51
            have d_kv58 := rd_Ij eS59 (by decide) d_kv58
            obtain ⟨kv60, hkv60⟩ : ∃ z : Int32, z = (-1 : Int32) := ⟨_, rfl⟩
            have d_kv60 := rd_Is eS59 hkv60
            have ea3 := rf_I eS59 ea3
            have g0 := gr_I eS59 g0
            have o_a3 := ob_I eS59 o_a3
            have o_v0 := ob_I eS59 o_v0
            intro _
            exact hq _ _ hI g0 f0
          · intro _ _
            refine ⟨fun c63 => absurd (show (1 : Int32) = 0 from c63) (by decide), fun c63 => ?_⟩
            refine u_X11_in ?_
            refine u_X11_in_0 ?_
            refine ⟨fun c64 => ?_, fun c64 => ?_⟩
            · intro _ _
              refine ⟨fun c66 => ?_, fun c66 => absurd (show ¬ (0 : Int32) = 0 from c66) (by decide)⟩
              intro _
              refine ⟨fun c68 => absurd (show (1 : Int32) ≤ 0 from c68) (by decide), fun c68 => ?_⟩
              refine u_X11_refused ?_
              refine u_X11_refused_0 ?_
              refine ⟨o_v0, ?_⟩
              intro S69 eS69
              have hIn : IV S69 := by rw [eS69]; exact iv11_sI hI o_v0 (by decide) (nu_free (by decide))
              have hI := hIn
              have f0 := fr_I eS69 g0 f0 o_v0 (by decide)
              have d_kv2 := rd_Ij eS69 (by decide) d_kv2
              have d_x25 := rd_Ik eS69 o_v0 o_a3 (by decide) d_x25
              have d_x51 := rd_Ik eS69 o_v0 o_a3 (by decide) d_x51
              obtain ⟨kv70, hkv70⟩ : ∃ z : Int32, z = (1 : Int32) := ⟨_, rfl⟩
              have d_kv70 := rd_Is eS69 hkv70
              have ea3 := rf_I eS69 ea3
              have g0 := gr_I eS69 g0
              have o_a3 := ob_I eS69 o_a3
              have o_v0 := ob_I eS69 o_v0
              intro S71 eS71
              have hIn : IV S71 := by rw [eS71]; exact iv11_sI hI o_v0 (by decide) (nu_free (by decide))
              have hI := hIn
              have f0 := fr_I eS71 g0 f0 o_v0 (by decide)
              have d_kv2 := rd_Ij eS71 (by decide) d_kv2
              have d_x25 := rd_Ik eS71 o_v0 o_a3 (by decide) d_x25
              have d_x51 := rd_Ik eS71 o_v0 o_a3 (by decide) d_x51
              have d_kv70 := rd_Ij eS71 (by decide) d_kv70
              obtain ⟨kv72, hkv72⟩ : ∃ z : Int32, z = (-1 : Int32) := ⟨_, rfl⟩
              have d_kv72 := rd_Is eS71 hkv72
              have ea3 := rf_I eS71 ea3
              have g0 := gr_I eS71 g0
              have o_a3 := ob_I eS71 o_a3
              have o_v0 := ob_I eS71 o_v0
              intro _
              exact hq _ _ hI g0 f0
            · refine ⟨fun c74 => ?_, fun c74 => ?_⟩
              · intro _ _
                refine ⟨fun c76 => ?_, fun c76 => absurd (show ¬ (0 : Int32) = 0 from c76) (by decide)⟩
                intro _
                refine ⟨fun c78 => absurd (show (1 : Int32) ≤ 0 from c78) (by decide), fun c78 => ?_⟩
                refine u_X11_refused ?_
                refine u_X11_refused_0 ?_
                refine ⟨o_v0, ?_⟩
                intro S79 eS79
                have hIn : IV S79 := by rw [eS79]; exact iv11_sI hI o_v0 (by decide) (nu_free (by decide))
                have hI := hIn
                have f0 := fr_I eS79 g0 f0 o_v0 (by decide)
                have d_kv2 := rd_Ij eS79 (by decide) d_kv2
                have d_x25 := rd_Ik eS79 o_v0 o_a3 (by decide) d_x25
                have d_x51 := rd_Ik eS79 o_v0 o_a3 (by decide) d_x51
                obtain ⟨kv80, hkv80⟩ : ∃ z : Int32, z = (1 : Int32) := ⟨_, rfl⟩
                have d_kv80 := rd_Is eS79 hkv80
                have ea3 := rf_I eS79 ea3
                have g0 := gr_I eS79 g0
                have o_a3 := ob_I eS79 o_a3
                have o_v0 := ob_I eS79 o_v0
                intro S81 eS81
                have hIn : IV S81 := by rw [eS81]; exact iv11_sI hI o_v0 (by decide) (nu_free (by decide))
                have hI := hIn
                have f0 := fr_I eS81 g0 f0 o_v0 (by decide)
                have d_kv2 := rd_Ij eS81 (by decide) d_kv2
                have d_x25 := rd_Ik eS81 o_v0 o_a3 (by decide) d_x25
                have d_x51 := rd_Ik eS81 o_v0 o_a3 (by decide) d_x51
                have d_kv80 := rd_Ij eS81 (by decide) d_kv80
                obtain ⟨kv82, hkv82⟩ : ∃ z : Int32, z = (-1 : Int32) := ⟨_, rfl⟩
                have d_kv82 := rd_Is eS81 hkv82
                have ea3 := rf_I eS81 ea3
                have g0 := gr_I eS81 g0
                have o_a3 := ob_I eS81 o_a3
                have o_v0 := ob_I eS81 o_v0
                intro _
                exact hq _ _ hI g0 f0
              · intro _ _
                refine ⟨fun c85 => absurd (show (1 : Int32) = 0 from c85) (by decide), fun c85 => ?_⟩
                refine u_X11_isHour ?_
                refine u_X11_isHour_0 ?_
                refine ⟨o_v0, ?_⟩
                refine ⟨fun e87 => (nomatch (e87.symm.trans ea3)), fun a86 ea86 => ?_⟩
                obtain rfl : a3 = a86 := Option.some.inj (ea3.symm.trans ea86)
                refine ⟨fun c88 => ?_, fun c88 => ?_⟩
                · intro _ _
                  refine ⟨fun c90 => absurd (show ¬ (0 : Int32) = 0 from c90) (by decide), fun c90 => ?_⟩
                  intro _
                  refine ⟨fun c92 => absurd (show (1 : Int32) ≤ 0 from c92) (by decide), fun c92 => ?_⟩
                  refine u_X11_refused ?_
                  refine u_X11_refused_0 ?_
                  refine ⟨o_v0, ?_⟩
                  intro S93 eS93
                  have hIn : IV S93 := by rw [eS93]; exact iv11_sI hI o_v0 (by decide) (nu_free (by decide))
                  have hI := hIn
                  have f0 := fr_I eS93 g0 f0 o_v0 (by decide)
                  have d_kv2 := rd_Ij eS93 (by decide) d_kv2
                  have d_x25 := rd_Ik eS93 o_v0 o_a3 (by decide) d_x25
                  have d_x51 := rd_Ik eS93 o_v0 o_a3 (by decide) d_x51
                  obtain ⟨kv94, hkv94⟩ : ∃ z : Int32, z = (1 : Int32) := ⟨_, rfl⟩
                  have d_kv94 := rd_Is eS93 hkv94
                  have ea3 := rf_I eS93 ea3
                  have g0 := gr_I eS93 g0
                  have o_a3 := ob_I eS93 o_a3
                  have o_v0 := ob_I eS93 o_v0
                  intro S95 eS95
                  have hIn : IV S95 := by rw [eS95]; exact iv11_sI hI o_v0 (by decide) (nu_free (by decide))
                  have hI := hIn
                  have f0 := fr_I eS95 g0 f0 o_v0 (by decide)
                  have d_kv2 := rd_Ij eS95 (by decide) d_kv2
                  have d_x25 := rd_Ik eS95 o_v0 o_a3 (by decide) d_x25
                  have d_x51 := rd_Ik eS95 o_v0 o_a3 (by decide) d_x51
                  have d_kv94 := rd_Ij eS95 (by decide) d_kv94
                  obtain ⟨kv96, hkv96⟩ : ∃ z : Int32, z = (-1 : Int32) := ⟨_, rfl⟩
                  have d_kv96 := rd_Is eS95 hkv96
                  have ea3 := rf_I eS95 ea3
                  have g0 := gr_I eS95 g0
                  have o_a3 := ob_I eS95 o_a3
                  have o_v0 := ob_I eS95 o_v0
                  intro _
                  exact hq _ _ hI g0 f0
                · refine ⟨a3, ea3, ?_⟩
                  refine ⟨o_a3, ?_⟩
                  intro x99 ex99
                  have r_x99 : (0 : Int32) ≤ x99 ∧ x99 ≤ (6 : Int32) := by rw [ex99]; exact nu 17 rfl hI o_a3
                  have d_x99 := ex99
                  refine ⟨fun c100 => ?_, fun c100 => ?_⟩
                  · intro _ _
                    refine ⟨fun c102 => absurd (show ¬ (0 : Int32) = 0 from c102) (by decide), fun c102 => ?_⟩
                    intro _
                    refine ⟨fun c104 => absurd (show (1 : Int32) ≤ 0 from c104) (by decide), fun c104 => ?_⟩
                    refine u_X11_refused ?_
                    refine u_X11_refused_0 ?_
                    refine ⟨o_v0, ?_⟩
                    intro S105 eS105
                    have hIn : IV S105 := by rw [eS105]; exact iv11_sI hI o_v0 (by decide) (nu_free (by decide))
                    have hI := hIn
                    have f0 := fr_I eS105 g0 f0 o_v0 (by decide)
                    have d_kv2 := rd_Ij eS105 (by decide) d_kv2
                    have d_x25 := rd_Ik eS105 o_v0 o_a3 (by decide) d_x25
                    have d_x51 := rd_Ik eS105 o_v0 o_a3 (by decide) d_x51
                    have d_x99 := rd_Ik eS105 o_v0 o_a3 (by decide) d_x99
                    obtain ⟨kv106, hkv106⟩ : ∃ z : Int32, z = (1 : Int32) := ⟨_, rfl⟩
                    have d_kv106 := rd_Is eS105 hkv106
                    have ea3 := rf_I eS105 ea3
                    have g0 := gr_I eS105 g0
                    have o_a3 := ob_I eS105 o_a3
                    have o_v0 := ob_I eS105 o_v0
                    intro S107 eS107
                    have hIn : IV S107 := by rw [eS107]; exact iv11_sI hI o_v0 (by decide) (nu_free (by decide))
                    have hI := hIn
                    have f0 := fr_I eS107 g0 f0 o_v0 (by decide)
                    have d_kv2 := rd_Ij eS107 (by decide) d_kv2
                    have d_x25 := rd_Ik eS107 o_v0 o_a3 (by decide) d_x25
                    have d_x51 := rd_Ik eS107 o_v0 o_a3 (by decide) d_x51
                    have d_x99 := rd_Ik eS107 o_v0 o_a3 (by decide) d_x99
                    have d_kv106 := rd_Ij eS107 (by decide) d_kv106
                    obtain ⟨kv108, hkv108⟩ : ∃ z : Int32, z = (-1 : Int32) := ⟨_, rfl⟩
                    have d_kv108 := rd_Is eS107 hkv108
                    have ea3 := rf_I eS107 ea3
                    have g0 := gr_I eS107 g0
                    have o_a3 := ob_I eS107 o_a3
                    have o_v0 := ob_I eS107 o_v0
                    intro _
                    exact hq _ _ hI g0 f0
                  · intro _ _
                    refine ⟨fun c111 => ?_, fun c111 => absurd (show (1 : Int32) = 0 from c111) (by decide)⟩
                    refine u_X11_isSpeed ?_
                    refine u_X11_isSpeed_0 ?_
                    refine ⟨o_v0, ?_⟩
                    refine ⟨a3, ea3, ?_⟩
                    refine ⟨o_a3, ?_⟩
                    obtain ⟨a113, ea113, o_a113, l_a113⟩ := shl 46 rfl hI o_a3
                    refine ⟨a113, ea113, ?_⟩
                    refine ⟨o_a113, ?_⟩
                    refine ⟨(vin l_a113 (m := 4) (by decide) (qm664 c14 r_x25 c26 c40 r_x51 c52 c64 c74 c88 r_x99 c100)), ?_⟩
                    intro x114 ex114
                    have gy_x114 : 0 ≤ v1 ∧ v1 < fI S1 a3 4 := by rw [← d_x25]; exact (qm665 c14 r_x25 c26 c40 r_x51 c52 c64 c74 c88 r_x99 c100)
                    have g_x114 : (1 : Int32) ≤ x114 ∧ x114 ≤ (9 : Int32) := by rw [ex114]; exact wg_at (ml_wg hI o_v0 ea3) 3 rfl gy_x114 ea113
                    refine ⟨a3, ea3, ?_⟩
                    refine ⟨o_a3, ?_⟩
                    obtain ⟨a116, ea116, o_a116, l_a116⟩ := shl 47 rfl hI o_a3
                    refine ⟨a116, ea116, ?_⟩
                    refine ⟨o_a116, ?_⟩
                    refine ⟨(vin l_a116 (m := 4) (by decide) (qm664 c14 r_x25 c26 c40 r_x51 c52 c64 c74 c88 r_x99 c100)), ?_⟩
                    intro x117 ex117
                    have gy_x117 : 0 ≤ v1 ∧ v1 < fI S1 a3 4 := by rw [← d_x25]; exact (qm665 c14 r_x25 c26 c40 r_x51 c52 c64 c74 c88 r_x99 c100)
                    have g_x117 : (0 : Int32) ≤ x117 ∧ x117 ≤ (9 : Int32) := by rw [ex117]; exact wg_at (ml_wg hI o_v0 ea3) 4 rfl gy_x117 ea116
                    refine u_X11_in ?_
                    refine u_X11_in_0 ?_
                    refine ⟨fun c118 => ?_, fun c118 => ?_⟩
                    · intro _ _
                      refine ⟨(Or.inl rfl), ?_⟩
                      intro _ _
                      refine ⟨fun c121 => ?_, fun c121 => absurd (show ¬ (0 : Int32) = 0 from c121) (by decide)⟩
                      intro _
                      refine ⟨fun c123 => absurd (show (2 : Int32) ≤ 0 from c123) (by decide), fun c123 => ?_⟩
                      refine u_X11_refused ?_
                      refine u_X11_refused_0 ?_
                      refine ⟨o_v0, ?_⟩
                      intro S124 eS124
                      have hIn : IV S124 := by rw [eS124]; exact iv11_sI hI o_v0 (by decide) (nu_free (by decide))
                      have hI := hIn
                      have f0 := fr_I eS124 g0 f0 o_v0 (by decide)
                      have d_kv2 := rd_Ij eS124 (by decide) d_kv2
                      have d_x25 := rd_Ik eS124 o_v0 o_a3 (by decide) d_x25
                      have d_x51 := rd_Ik eS124 o_v0 o_a3 (by decide) d_x51
                      have d_x99 := rd_Ik eS124 o_v0 o_a3 (by decide) d_x99
                      obtain ⟨kv125, hkv125⟩ : ∃ z : Int32, z = (2 : Int32) := ⟨_, rfl⟩
                      have d_kv125 := rd_Is eS124 hkv125
                      have ea3 := rf_I eS124 ea3
                      have ea113 := rf_I eS124 ea113
                      have ea116 := rf_I eS124 ea116
                      have l_a113 := ln_I eS124 l_a113
                      have l_a116 := ln_I eS124 l_a116
                      have g0 := gr_I eS124 g0
                      have o_a113 := ob_I eS124 o_a113
                      have o_a116 := ob_I eS124 o_a116
                      have o_a3 := ob_I eS124 o_a3
                      have o_v0 := ob_I eS124 o_v0
                      intro S126 eS126
                      have hIn : IV S126 := by rw [eS126]; exact iv11_sI hI o_v0 (by decide) (nu_free (by decide))
                      have hI := hIn
                      have f0 := fr_I eS126 g0 f0 o_v0 (by decide)
                      have d_kv2 := rd_Ij eS126 (by decide) d_kv2
                      have d_x25 := rd_Ik eS126 o_v0 o_a3 (by decide) d_x25
                      have d_x51 := rd_Ik eS126 o_v0 o_a3 (by decide) d_x51
                      have d_x99 := rd_Ik eS126 o_v0 o_a3 (by decide) d_x99
                      have d_kv125 := rd_Ij eS126 (by decide) d_kv125
                      obtain ⟨kv127, hkv127⟩ : ∃ z : Int32, z = (-1 : Int32) := ⟨_, rfl⟩
                      have d_kv127 := rd_Is eS126 hkv127
                      have ea3 := rf_I eS126 ea3
                      have ea113 := rf_I eS126 ea113
                      have ea116 := rf_I eS126 ea116
                      have l_a113 := ln_I eS126 l_a113
                      have l_a116 := ln_I eS126 l_a116
                      have g0 := gr_I eS126 g0
                      have o_a113 := ob_I eS126 o_a113
                      have o_a116 := ob_I eS126 o_a116
                      have o_a3 := ob_I eS126 o_a3
                      have o_v0 := ob_I eS126 o_v0
                      intro _
                      exact hq _ _ hI g0 f0
                    · refine ⟨fun c129 => ?_, fun c129 => ?_⟩
                      · intro _ _
                        refine ⟨(Or.inl rfl), ?_⟩
                        intro _ _
                        refine ⟨fun c132 => ?_, fun c132 => absurd (show ¬ (0 : Int32) = 0 from c132) (by decide)⟩
                        intro _
                        refine ⟨fun c134 => absurd (show (2 : Int32) ≤ 0 from c134) (by decide), fun c134 => ?_⟩
                        refine u_X11_refused ?_
                        refine u_X11_refused_0 ?_
                        refine ⟨o_v0, ?_⟩
                        intro S135 eS135
                        have hIn : IV S135 := by rw [eS135]; exact iv11_sI hI o_v0 (by decide) (nu_free (by decide))
                        have hI := hIn
                        have f0 := fr_I eS135 g0 f0 o_v0 (by decide)
                        have d_kv2 := rd_Ij eS135 (by decide) d_kv2
                        have d_x25 := rd_Ik eS135 o_v0 o_a3 (by decide) d_x25
                        have d_x51 := rd_Ik eS135 o_v0 o_a3 (by decide) d_x51
                        have d_x99 := rd_Ik eS135 o_v0 o_a3 (by decide) d_x99
                        obtain ⟨kv136, hkv136⟩ : ∃ z : Int32, z = (2 : Int32) := ⟨_, rfl⟩
                        have d_kv136 := rd_Is eS135 hkv136
                        have ea3 := rf_I eS135 ea3
                        have ea113 := rf_I eS135 ea113
                        have ea116 := rf_I eS135 ea116
                        have l_a113 := ln_I eS135 l_a113
                        have l_a116 := ln_I eS135 l_a116
                        have g0 := gr_I eS135 g0
                        have o_a113 := ob_I eS135 o_a113
                        have o_a116 := ob_I eS135 o_a116
                        have o_a3 := ob_I eS135 o_a3
                        have o_v0 := ob_I eS135 o_v0
                        intro S137 eS137
                        have hIn : IV S137 := by rw [eS137]; exact iv11_sI hI o_v0 (by decide) (nu_free (by decide))
                        have hI := hIn
                        have f0 := fr_I eS137 g0 f0 o_v0 (by decide)
                        have d_kv2 := rd_Ij eS137 (by decide) d_kv2
                        have d_x25 := rd_Ik eS137 o_v0 o_a3 (by decide) d_x25
                        have d_x51 := rd_Ik eS137 o_v0 o_a3 (by decide) d_x51
                        have d_x99 := rd_Ik eS137 o_v0 o_a3 (by decide) d_x99
                        have d_kv136 := rd_Ij eS137 (by decide) d_kv136
                        obtain ⟨kv138, hkv138⟩ : ∃ z : Int32, z = (-1 : Int32) := ⟨_, rfl⟩
                        have d_kv138 := rd_Is eS137 hkv138
                        have ea3 := rf_I eS137 ea3
                        have ea113 := rf_I eS137 ea113
                        have ea116 := rf_I eS137 ea116
                        have l_a113 := ln_I eS137 l_a113
                        have l_a116 := ln_I eS137 l_a116
                        have g0 := gr_I eS137 g0
                        have o_a113 := ob_I eS137 o_a113
                        have o_a116 := ob_I eS137 o_a116
                        have o_a3 := ob_I eS137 o_a3
                        have o_v0 := ob_I eS137 o_v0
                        intro _
                        exact hq _ _ hI g0 f0
                      · intro _ _
                        refine ⟨(Or.inr rfl), ?_⟩
                        intro _ _
                        refine ⟨fun c142 => absurd (show (1 : Int32) = 0 from c142) (by decide), fun c142 => ?_⟩
                        intro _
                        refine ⟨fun c144 => ?_, fun c144 => absurd (show ¬ (0 : Int32) ≤ 0 from c144) (by decide)⟩
                        refine ⟨a3, ea3, ?_⟩
                        refine ⟨o_a3, ?_⟩
                        obtain ⟨a146, ea146, o_a146, l_a146⟩ := shl 41 rfl hI o_a3
                        refine ⟨a146, ea146, ?_⟩
                        refine ⟨o_a146, ?_⟩
                        refine ⟨(vin l_a146 (m := 4) (by decide) (qm700 c14 r_x25 c26 c40 r_x51 c52 c64 c74 c88 r_x99 c100 g_x114 g_x117 c118 c129)), ?_⟩
                        intro x147 ex147
                        refine ⟨fun c148 => ?_, fun c148 => ?_⟩
                        · refine m_X11_isForward hI o_v0 (qm701 c14 r_x25 c26 c40 r_x51 c52 c64 c74 c88 r_x99 c100 g_x114 g_x117 c118 c129 c148) (qm702 c14 r_x25 c26 c40 r_x51 c52 c64 c74 c88 r_x99 c100 g_x114 g_x117 c118 c129 c148) (qm703 c14 r_x25 c26 c40 r_x51 c52 c64 c74 c88 r_x99 c100 g_x114 g_x117 c118 c129 c148) ⟨_, ea3⟩ (fun x149 S150 hI2 g151 b_x149 p_x149 => ?_)
                          subst p_x149
                          intro _ _
                          have bb_x149 : x149 = 0 ∨ x149 = 1 := b_x149
                          refine ⟨fun c153 => ?_, fun c153 => ?_⟩
                          · refine u_X11_held_68 ?_
                            refine ⟨o_v0, ?_⟩
                            refine u_X11_good ?_
                            refine u_X11_good_0 ?_
                            refine ⟨o_v0, ?_⟩
                            intro S154 eS154
                            have hIn : IV S154 := by rw [eS154]; exact iv11_sI hI o_v0 (by decide) (nu_free (by decide))
                            have hI := hIn
                            have f0 := fr_I eS154 g0 f0 o_v0 (by decide)
                            have d_kv2 := rd_Ij eS154 (by decide) d_kv2
                            have d_x25 := rd_Ik eS154 o_v0 o_a3 (by decide) d_x25
                            have d_x51 := rd_Ik eS154 o_v0 o_a3 (by decide) d_x51
                            have d_x99 := rd_Ik eS154 o_v0 o_a3 (by decide) d_x99
                            obtain ⟨kv155, hkv155⟩ : ∃ z : Int32, z = (0 : Int32) := ⟨_, rfl⟩
                            have d_kv155 := rd_Is eS154 hkv155
                            have ea3 := rf_I eS154 ea3
                            have ea113 := rf_I eS154 ea113
                            have ea116 := rf_I eS154 ea116
                            have ea146 := rf_I eS154 ea146
                            have l_a113 := ln_I eS154 l_a113
                            have l_a116 := ln_I eS154 l_a116
                            have l_a146 := ln_I eS154 l_a146
                            have g0 := gr_I eS154 g0
                            have o_a113 := ob_I eS154 o_a113
                            have o_a116 := ob_I eS154 o_a116
                            have o_a146 := ob_I eS154 o_a146
                            have o_a3 := ob_I eS154 o_a3
                            have o_v0 := ob_I eS154 o_v0
                            intro S156 eS156
                            have hIn : IV S156 := by rw [eS156]; exact iv11_sI hI o_v0 (by decide) (nu_free (by decide))
                            have hI := hIn
                            have f0 := fr_I eS156 g0 f0 o_v0 (by decide)
                            have d_kv2 := rd_Ij eS156 (by decide) d_kv2
                            have d_x25 := rd_Ik eS156 o_v0 o_a3 (by decide) d_x25
                            have d_x51 := rd_Ik eS156 o_v0 o_a3 (by decide) d_x51
                            have d_x99 := rd_Ik eS156 o_v0 o_a3 (by decide) d_x99
                            have d_kv155 := rd_Ij eS156 (by decide) d_kv155
                            obtain ⟨kv157, hkv157⟩ : ∃ z : Int32, z = (-1 : Int32) := ⟨_, rfl⟩
                            have d_kv157 := rd_Is eS156 hkv157
                            have ea3 := rf_I eS156 ea3
                            have ea113 := rf_I eS156 ea113
                            have ea116 := rf_I eS156 ea116
                            have ea146 := rf_I eS156 ea146
                            have l_a113 := ln_I eS156 l_a113
                            have l_a116 := ln_I eS156 l_a116
                            have l_a146 := ln_I eS156 l_a146
                            have g0 := gr_I eS156 g0
                            have o_a113 := ob_I eS156 o_a113
                            have o_a116 := ob_I eS156 o_a116
                            have o_a146 := ob_I eS156 o_a146
                            have o_a3 := ob_I eS156 o_a3
                            have o_v0 := ob_I eS156 o_v0
                            intro _
                            exact hq _ _ hI g0 f0
                          · refine u_X11_held_68 ?_
                            refine ⟨o_v0, ?_⟩
                            refine u_X11_good ?_
                            refine u_X11_good_0 ?_
                            refine ⟨o_v0, ?_⟩
                            intro S159 eS159
                            have hIn : IV S159 := by rw [eS159]; exact iv11_sI hI o_v0 (by decide) (nu_free (by decide))
                            have hI := hIn
                            have f0 := fr_I eS159 g0 f0 o_v0 (by decide)
                            have d_kv2 := rd_Ij eS159 (by decide) d_kv2
                            have d_x25 := rd_Ik eS159 o_v0 o_a3 (by decide) d_x25
                            have d_x51 := rd_Ik eS159 o_v0 o_a3 (by decide) d_x51
                            have d_x99 := rd_Ik eS159 o_v0 o_a3 (by decide) d_x99
                            obtain ⟨kv160, hkv160⟩ : ∃ z : Int32, z = (0 : Int32) := ⟨_, rfl⟩
                            have d_kv160 := rd_Is eS159 hkv160
                            have ea3 := rf_I eS159 ea3
                            have ea113 := rf_I eS159 ea113
                            have ea116 := rf_I eS159 ea116
                            have ea146 := rf_I eS159 ea146
                            have l_a113 := ln_I eS159 l_a113
                            have l_a116 := ln_I eS159 l_a116
                            have l_a146 := ln_I eS159 l_a146
                            have g0 := gr_I eS159 g0
                            have o_a113 := ob_I eS159 o_a113
                            have o_a116 := ob_I eS159 o_a116
                            have o_a146 := ob_I eS159 o_a146
                            have o_a3 := ob_I eS159 o_a3
                            have o_v0 := ob_I eS159 o_v0
                            intro S161 eS161
                            have hIn : IV S161 := by rw [eS161]; exact iv11_sI hI o_v0 (by decide) (nu_free (by decide))
                            have hI := hIn
                            have f0 := fr_I eS161 g0 f0 o_v0 (by decide)
                            have d_kv2 := rd_Ij eS161 (by decide) d_kv2
                            have d_x25 := rd_Ik eS161 o_v0 o_a3 (by decide) d_x25
                            have d_x51 := rd_Ik eS161 o_v0 o_a3 (by decide) d_x51
                            have d_x99 := rd_Ik eS161 o_v0 o_a3 (by decide) d_x99
                            have d_kv160 := rd_Ij eS161 (by decide) d_kv160
                            obtain ⟨kv162, hkv162⟩ : ∃ z : Int32, z = (-1 : Int32) := ⟨_, rfl⟩
                            have d_kv162 := rd_Is eS161 hkv162
                            have ea3 := rf_I eS161 ea3
                            have ea113 := rf_I eS161 ea113
                            have ea116 := rf_I eS161 ea116
                            have ea146 := rf_I eS161 ea146
                            have l_a113 := ln_I eS161 l_a113
                            have l_a116 := ln_I eS161 l_a116
                            have l_a146 := ln_I eS161 l_a146
                            have g0 := gr_I eS161 g0
                            have o_a113 := ob_I eS161 o_a113
                            have o_a116 := ob_I eS161 o_a116
                            have o_a146 := ob_I eS161 o_a146
                            have o_a3 := ob_I eS161 o_a3
                            have o_v0 := ob_I eS161 o_v0
                            intro _
                            exact hq _ _ hI g0 f0
                        · refine u_X11_held_68 ?_
                          refine ⟨o_v0, ?_⟩
                          refine u_X11_good ?_
                          refine u_X11_good_0 ?_
                          refine ⟨o_v0, ?_⟩
                          intro S164 eS164
                          have hIn : IV S164 := by rw [eS164]; exact iv11_sI hI o_v0 (by decide) (nu_free (by decide))
                          have hI := hIn
                          have f0 := fr_I eS164 g0 f0 o_v0 (by decide)
                          have d_kv2 := rd_Ij eS164 (by decide) d_kv2
                          have d_x25 := rd_Ik eS164 o_v0 o_a3 (by decide) d_x25
                          have d_x51 := rd_Ik eS164 o_v0 o_a3 (by decide) d_x51
                          have d_x99 := rd_Ik eS164 o_v0 o_a3 (by decide) d_x99
                          obtain ⟨kv165, hkv165⟩ : ∃ z : Int32, z = (0 : Int32) := ⟨_, rfl⟩
                          have d_kv165 := rd_Is eS164 hkv165
                          have ea3 := rf_I eS164 ea3
                          have ea113 := rf_I eS164 ea113
                          have ea116 := rf_I eS164 ea116
                          have ea146 := rf_I eS164 ea146
                          have l_a113 := ln_I eS164 l_a113
                          have l_a116 := ln_I eS164 l_a116
                          have l_a146 := ln_I eS164 l_a146
                          have g0 := gr_I eS164 g0
                          have o_a113 := ob_I eS164 o_a113
                          have o_a116 := ob_I eS164 o_a116
                          have o_a146 := ob_I eS164 o_a146
                          have o_a3 := ob_I eS164 o_a3
                          have o_v0 := ob_I eS164 o_v0
                          intro S166 eS166
                          have hIn : IV S166 := by rw [eS166]; exact iv11_sI hI o_v0 (by decide) (nu_free (by decide))
                          have hI := hIn
                          have f0 := fr_I eS166 g0 f0 o_v0 (by decide)
                          have d_kv2 := rd_Ij eS166 (by decide) d_kv2
                          have d_x25 := rd_Ik eS166 o_v0 o_a3 (by decide) d_x25
                          have d_x51 := rd_Ik eS166 o_v0 o_a3 (by decide) d_x51
                          have d_x99 := rd_Ik eS166 o_v0 o_a3 (by decide) d_x99
                          have d_kv165 := rd_Ij eS166 (by decide) d_kv165
                          obtain ⟨kv167, hkv167⟩ : ∃ z : Int32, z = (-1 : Int32) := ⟨_, rfl⟩
                          have d_kv167 := rd_Is eS166 hkv167
                          have ea3 := rf_I eS166 ea3
                          have ea113 := rf_I eS166 ea113
                          have ea116 := rf_I eS166 ea116
                          have ea146 := rf_I eS166 ea146
                          have l_a113 := ln_I eS166 l_a113
                          have l_a116 := ln_I eS166 l_a116
                          have l_a146 := ln_I eS166 l_a146
                          have g0 := gr_I eS166 g0
                          have o_a113 := ob_I eS166 o_a113
                          have o_a116 := ob_I eS166 o_a116
                          have o_a146 := ob_I eS166 o_a146
                          have o_a3 := ob_I eS166 o_a3
                          have o_v0 := ob_I eS166 o_v0
                          intro _
                          exact hq _ _ hI g0 f0
end
section
set_option maxHeartbeats 4000000 in
set_option maxRecDepth 20000 in
theorem m_X11_meanOf {v0 : Nat} {v1 : Int32} {v2 : Int32} {v3 : Int32} {v4 : Int32} {v5 : Int32} {Q : Int64 → HS → Prop} {S : HS} (hI : IV S) (o_v0 : ob S v0 11)   (h0 : 0 ≤ v1 ∧ v1 < 4) (h1 : 0 ≤ v2 ∧ v2 < 12) (h2 : 0 ≤ v4) (h3 : 1 ≤ v5)  (hw : WN S v0) (hq : ∀ (r : Int64) (T : HS), IV T → Gr S T → (S = T) → Q r T) : P_X11_meanOf v0 v1 v2 v3 v4 v5 Q S := by
  have g0 := gr_rf S
  obtain ⟨a1, ea1⟩ := hw
  have o_a1 := ml_ob hI o_v0 ea1
  refine u_X11_meanOf ?_
  refine u_X11_meanOf_0 ?_
  refine ⟨o_v0, ?_⟩
  refine u_X11_hourOf ?_
  refine u_X11_hourOf_0 ?_
  refine ⟨o_v0, ?_⟩
  refine ⟨a1, ea1, ?_⟩
  refine ⟨o_a1, ?_⟩
  intro x3 ex3
  have r_x3 : (0 : Int32) ≤ x3 ∧ x3 ≤ (60 : Int32) := by rw [ex3]; exact nu 16 rfl hI o_a1
  have d_x3 := ex3
  have hh_x3 : 1 ≤ x3 := by rw [ex3]; exact ml_hour hI o_v0 ea1
  refine ⟨(qm0 r_x3 hh_x3), ?_⟩
  intro x4 ex4
  have dv_x4 : 0 ≤ x4 ∧ x4 ≤ v4 := by rw [ex4]; exact dv0 (qm1 h2 r_x3 hh_x3 ex4) (i32pos (qm2 h2 r_x3 hh_x3 ex4))
  intro _
  refine ⟨a1, ea1, ?_⟩
  refine ⟨o_a1, ?_⟩
  intro x7 ex7
  have r_x7 : (0 : Int32) ≤ x7 ∧ x7 ≤ (6 : Int32) := by rw [ex7]; exact nu 17 rfl hI o_a1
  have d_x7 := ex7
  refine ⟨fun c8 => ?_, fun c8 => ?_⟩
  · exact hq _ _ hI g0 rfl
  · refine m_X11_wetOf hI o_v0 (qm3 h0 h2 r_x3 hh_x3 ex4 dv_x4 r_x7 c8) (qm4 h1 h2 r_x3 hh_x3 ex4 dv_x4 r_x7 c8) (qm5 h2 r_x3 hh_x3 ex4 dv_x4 r_x7 c8) (qm6 h2 h3 r_x3 hh_x3 ex4 dv_x4 r_x7 c8) ⟨_, ea1⟩ (fun x9 S10 hI2 g11 p_x9 => ?_)
    subst p_x9
    intro _
    refine ⟨a1, ea1, ?_⟩
    refine ⟨o_a1, ?_⟩
    obtain ⟨a14, ea14, o_a14, l_a14⟩ := shl 33 rfl hI o_a1
    refine ⟨a14, ea14, ?_⟩
    refine ⟨o_a14, ?_⟩
    refine ⟨(vin l_a14 (m := 6) (by decide) (qm7 h2 r_x3 hh_x3 ex4 dv_x4 r_x7 c8)), ?_⟩
    intro x15 ex15
    exact hq _ _ hI g0 rfl
set_option maxHeartbeats 4000000 in
set_option maxRecDepth 20000 in
theorem m_X11_led {v0 : Nat} {v1 : Int32} {Q : Int32 → HS → Prop} {S : HS} (hI : IV S) (o_v0 : ob S v0 11)     (hq : ∀ (r : Int32) (T : HS), IV T → Gr S T → FRI [(11, 0)] [] S T → Q r T) : P_X11_led v0 v1 Q S := by
  have g0 := gr_rf S
  have f0 := fri_rf [(11, 0)] [] S
  refine u_X11_led ?_
  refine u_X11_led_0 ?_
  refine ⟨o_v0, ?_⟩
  intro S1 eS1
  have hIn : IV S1 := by rw [eS1]; exact iv11_sI hI o_v0 (by decide) (nu_free (by decide))
  have hI := hIn
  have f0 := fr_I eS1 g0 f0 o_v0 (by decide)
  obtain ⟨kv2, hkv2⟩ : ∃ z : Int32, z = (0 : Int32) := ⟨_, rfl⟩
  have d_kv2 := rd_Is eS1 hkv2
  have g0 := gr_I eS1 g0
  have o_v0 := ob_I eS1 o_v0
  refine i_X11_led_9 (fun (y0 : Nat) (y1 : Int32) (y2 : Int32) (y3 : Int32) (Z : HS) => ((2147483647 : Int32).toInt - y3.toInt).toNat) (fun (y0 : Nat) (y1 : Int32) (y2 : Int32) (y3 : Int32) (Z : HS) => (S1 = Z) ∧ (v0 = y0) ∧ (v1 = y1) ∧ (0 ≤ y3)) ?_ _ _ _ _ _ ⟨rfl, rfl, rfl, (qm8)⟩
  intro w7 w9 w11 w12 S4 X13 ⟨eS4, q8, q10, i1u3⟩ ih14
  subst q8
  subst q10
  subst eS4
  refine u_X11_led_9 ?_
  refine ⟨o_v0, ?_⟩
  refine u_X11_isDay ?_
  refine u_X11_isDay_0 ?_
  refine ⟨o_v0, ?_⟩
  refine ⟨fun e16 => ?_, fun a15 ea15 => ?_⟩
  · intro _ _
    refine ⟨fun c18 => ?_, fun c18 => absurd (show ¬ (0 : Int32) = 0 from c18) (by decide)⟩
    intro S19 eS19
    have hIn : IV S19 := by rw [eS19]; exact iv11_sI hI o_v0 (by decide) (nu_free (by decide))
    have hI := hIn
    have f0 := fr_I eS19 g0 f0 o_v0 (by decide)
    obtain ⟨kv20, hkv20⟩ : ∃ z : Int32, z = (1 : Int32) := ⟨_, rfl⟩
    have d_kv20 := rd_Is eS19 hkv20
    have g0 := gr_I eS19 g0
    have o_v0 := ob_I eS19 o_v0
    exact hq _ _ hI g0 f0
  · have o_a15 := ml_ob hI o_v0 ea15
    intro x21 ex21
    have r_x21 : (-2 : Int32) ≤ x21 ∧ x21 ≤ (3 : Int32) := by rw [ex21]; exact nu 26 rfl hI o_v0
    have d_x21 := ex21
    obtain ⟨kv22, d_kv22⟩ : ∃ z : Int32, z = fI S1 a15 4 := ⟨_, rfl⟩
    have r_kv22 : (0 : Int32) ≤ kv22 ∧ kv22 ≤ (4 : Int32) := by rw [d_kv22]; exact nu 20 rfl hI o_a15
    have wh_x21 : x21 = -2 ∨ (0 ≤ x21 ∧ x21 < kv22) := by rw [ex21, d_kv22]; exact ml_who hI o_v0 ea15
    refine ⟨fun c23 => ?_, fun c23 => ?_⟩
    · intro _ _
      refine ⟨fun c25 => ?_, fun c25 => absurd (show ¬ (0 : Int32) = 0 from c25) (by decide)⟩
      intro S26 eS26
      have hIn : IV S26 := by rw [eS26]; exact iv11_sI hI o_v0 (by decide) (nu_free (by decide))
      have hI := hIn
      have f0 := fr_I eS26 g0 f0 o_v0 (by decide)
      have d_x21 := rd_Ij eS26 (by decide) d_x21
      have d_kv22 := rd_Ik eS26 o_v0 o_a15 (by decide) d_kv22
      obtain ⟨kv27, hkv27⟩ : ∃ z : Int32, z = (1 : Int32) := ⟨_, rfl⟩
      have d_kv27 := rd_Is eS26 hkv27
      have ea15 := rf_I eS26 ea15
      have g0 := gr_I eS26 g0
      have o_a15 := ob_I eS26 o_a15
      have o_v0 := ob_I eS26 o_v0
      exact hq _ _ hI g0 f0
    · intro _ _
      refine ⟨fun c29 => absurd (show (1 : Int32) = 0 from c29) (by decide), fun c29 => ?_⟩
      refine ⟨a15, ea15, ?_⟩
      refine ⟨o_a15, ?_⟩
      intro x31 ex31
      have r_x31 : (0 : Int32) ≤ x31 ∧ x31 ≤ (12 : Int32) := by rw [ex31]; exact nu 19 rfl hI o_a15
      have d_x31 := ex31
      refine ⟨fun c32 => ?_, fun c32 => ?_⟩
      · intro S33 eS33
        have hIn : IV S33 := by rw [eS33]; exact iv11_sI hI o_v0 (by decide) (nu_free (by decide))
        have hI := hIn
        have f0 := fr_I eS33 g0 f0 o_v0 (by decide)
        have d_x21 := rd_Ij eS33 (by decide) d_x21
        have d_kv22 := rd_Ik eS33 o_v0 o_a15 (by decide) d_kv22
        have d_x31 := rd_Ik eS33 o_v0 o_a15 (by decide) d_x31
        obtain ⟨kv34, hkv34⟩ : ∃ z : Int32, z = (1 : Int32) := ⟨_, rfl⟩
        have d_kv34 := rd_Is eS33 hkv34
        have ea15 := rf_I eS33 ea15
        have g0 := gr_I eS33 g0
        have o_a15 := ob_I eS33 o_a15
        have o_v0 := ob_I eS33 o_v0
        exact hq _ _ hI g0 f0
      · refine ⟨a15, ea15, ?_⟩
        refine ⟨o_a15, ?_⟩
        obtain ⟨a36, ea36, o_a36, l_a36⟩ := shl 35 rfl hI o_a15
        refine ⟨a36, ea36, ?_⟩
        refine ⟨o_a36, ?_⟩
        refine ⟨(vin l_a36 (m := 12) (by decide) (qm474 i1u3 r_x21 r_kv22 wh_x21 c23 r_x31 c32)), ?_⟩
        intro x37 ex37
        obtain ⟨a38, ea38, o_a38, l_a38⟩ := shl 57 rfl hI o_v0
        refine ⟨a38, ea38, ?_⟩
        refine ⟨o_a38, ?_⟩
        refine ⟨(vin l_a38 (m := 7) (by decide) (qm475 i1u3 r_x21 r_kv22 wh_x21 c23 r_x31 c32)), ?_⟩
        intro x39 ex39
        have de_x39 := ml_de hI o_v0 (j := 21) (by decide) ea38 (0 : Int32).toNatClampNeg
        rw [← ex39] at de_x39
        have dr_x39 : (0 : Int64) ≤ x39 ∧ x39 ≤ (7 : Int64) := de_x39.1 (by decide)
        refine ⟨fun c40 => ?_, fun c40 => ?_⟩
        · refine u_X11_led_70 ?_
          refine ⟨fun c41 => ?_, fun c41 => ?_⟩
          · intro x42 ex42
            refine u_X11_led_80 ?_
            intro x43 ex43
            exact ih14 _ _ _ _ _ ⟨rfl, rfl, rfl, (qm476 i1u3 r_x21 r_kv22 wh_x21 c23 r_x31 c32 dr_x39 c40 c41 ex42 ex43)⟩ (mu_up (qm477 i1u3 r_x21 r_kv22 wh_x21 c23 r_x31 c32 dr_x39 c40 c41 ex42 ex43) (qm478 i1u3 r_x21 r_kv22 wh_x21 c23 r_x31 c32 dr_x39 c40 c41 ex42 ex43))
          · exact hq _ _ hI g0 f0
        · refine ⟨a15, ea15, ?_⟩
          refine ⟨o_a15, ?_⟩
          obtain ⟨a45, ea45, o_a45, l_a45⟩ := shl 36 rfl hI o_a15
          refine ⟨a45, ea45, ?_⟩
          refine ⟨o_a45, ?_⟩
          refine ⟨(vin l_a45 (m := 12) (by decide) (qm479 i1u3 r_x21 r_kv22 wh_x21 c23 r_x31 c32 dr_x39 c40)), ?_⟩
          intro x46 ex46
          refine ⟨a38, ea38, ?_⟩
          refine ⟨o_a38, ?_⟩
          refine ⟨(vin l_a38 (m := 7) (by decide) (qm480 i1u3 r_x21 r_kv22 wh_x21 c23 r_x31 c32 dr_x39 c40)), ?_⟩
          intro x48 ex48
          have de_x48 := ml_de hI o_v0 (j := 21) (by decide) ea38 (0 : Int32).toNatClampNeg
          rw [← ex48] at de_x48
          have dr_x48 : (0 : Int64) ≤ x48 ∧ x48 ≤ (7 : Int64) := de_x48.1 (by decide)
          refine ⟨fun c49 => ?_, fun c49 => ?_⟩
          · refine u_X11_led_70 ?_
            refine ⟨fun c50 => ?_, fun c50 => ?_⟩
            · intro x51 ex51
              refine u_X11_led_80 ?_
              intro x52 ex52
              exact ih14 _ _ _ _ _ ⟨rfl, rfl, rfl, (qm481 i1u3 r_x21 r_kv22 wh_x21 c23 r_x31 c32 dr_x39 c40 dr_x48 c49 c50 ex51 ex52)⟩ (mu_up (qm482 i1u3 r_x21 r_kv22 wh_x21 c23 r_x31 c32 dr_x39 c40 dr_x48 c49 c50 ex51 ex52) (qm483 i1u3 r_x21 r_kv22 wh_x21 c23 r_x31 c32 dr_x39 c40 dr_x48 c49 c50 ex51 ex52))
            · exact hq _ _ hI g0 f0
          · refine u_X11_led_80 ?_
            intro x53 ex53
            exact ih14 _ _ _ _ _ ⟨rfl, rfl, rfl, (qm484 i1u3 r_x21 r_kv22 wh_x21 c23 r_x31 c32 dr_x39 c40 dr_x48 c49 ex53)⟩ (mu_up (qm485 i1u3 r_x21 r_kv22 wh_x21 c23 r_x31 c32 dr_x39 c40 dr_x48 c49 ex53) (qm486 i1u3 r_x21 r_kv22 wh_x21 c23 r_x31 c32 dr_x39 c40 dr_x48 c49 ex53))
set_option maxHeartbeats 4000000 in
set_option maxRecDepth 20000 in
theorem m_X11_lee {v0 : Nat} {v1 : Int32} {v2 : Int32} {v3 : Int32} {v4 : Int32} {v5 : Int32} {v6 : Int32} {v7 : Int32} {Q : Int64 → HS → Prop} {S : HS} (hI : IV S) (o_v0 : ob S v0 11)     (hq : ∀ (r : Int64) (T : HS), IV T → Gr S T → FRI [(11, 0), (11, 1), (11, 2)] [] S T → Q r T) : P_X11_lee v0 v1 v2 v3 v4 v5 v6 v7 Q S := by
  have g0 := gr_rf S
  have f0 := fri_rf [(11, 0), (11, 1), (11, 2)] [] S
  refine u_X11_lee ?_
  refine u_X11_lee_0 ?_
  refine ⟨o_v0, ?_⟩
  intro S1 eS1
  have hIn : IV S1 := by rw [eS1]; exact iv11_sI hI o_v0 (by decide) (nu_free (by decide))
  have hI := hIn
  have f0 := fr_I eS1 g0 f0 o_v0 (by decide)
  obtain ⟨kv2, hkv2⟩ : ∃ z : Int32, z = (0 : Int32) := ⟨_, rfl⟩
  have d_kv2 := rd_Is eS1 hkv2
  have g0 := gr_I eS1 g0
  have o_v0 := ob_I eS1 o_v0
  refine u_X11_refusesTwo ?_
  refine u_X11_refusesTwo_0 ?_
  refine ⟨fun c3 => ?_, fun c3 => ?_⟩
  · intro _
    refine ⟨fun c5 => absurd (show (1 : Int32) ≤ 0 from c5) (by decide), fun c5 => ?_⟩
    refine u_X11_refused ?_
    refine u_X11_refused_0 ?_
    refine ⟨o_v0, ?_⟩
    intro S6 eS6
    have hIn : IV S6 := by rw [eS6]; exact iv11_sI hI o_v0 (by decide) (nu_free (by decide))
    have hI := hIn
    have f0 := fr_I eS6 g0 f0 o_v0 (by decide)
    have d_kv2 := rd_Ij eS6 (by decide) d_kv2
    obtain ⟨kv7, hkv7⟩ : ∃ z : Int32, z = (1 : Int32) := ⟨_, rfl⟩
    have d_kv7 := rd_Is eS6 hkv7
    have g0 := gr_I eS6 g0
    have o_v0 := ob_I eS6 o_v0
    intro S8 eS8
    have hIn : IV S8 := by rw [eS8]; exact iv11_sI hI o_v0 (by decide) (nu_free (by decide))
    have hI := hIn
    have f0 := fr_I eS8 g0 f0 o_v0 (by decide)
    have d_kv2 := rd_Ij eS8 (by decide) d_kv2
    have d_kv7 := rd_Ij eS8 (by decide) d_kv7
    obtain ⟨kv9, hkv9⟩ : ∃ z : Int32, z = (-1 : Int32) := ⟨_, rfl⟩
    have d_kv9 := rd_Is eS8 hkv9
    have g0 := gr_I eS8 g0
    have o_v0 := ob_I eS8 o_v0
    intro _
    exact hq _ _ hI g0 f0
  · refine ⟨o_v0, ?_⟩
    refine u_X11_isWalker ?_
    refine u_X11_isWalker_0 ?_
    refine ⟨o_v0, ?_⟩
    refine ⟨fun e12 => ?_, fun a11 ea11 => ?_⟩
    · intro _ _
      refine ⟨fun c14 => absurd (show ¬ (0 : Int32) = 0 from c14) (by decide), fun c14 => ?_⟩
      intro _
      refine ⟨fun c16 => absurd (show (1 : Int32) ≤ 0 from c16) (by decide), fun c16 => ?_⟩
      refine u_X11_refused ?_
      refine u_X11_refused_0 ?_
      refine ⟨o_v0, ?_⟩
      intro S17 eS17
      have hIn : IV S17 := by rw [eS17]; exact iv11_sI hI o_v0 (by decide) (nu_free (by decide))
      have hI := hIn
      have f0 := fr_I eS17 g0 f0 o_v0 (by decide)
      have d_kv2 := rd_Ij eS17 (by decide) d_kv2
      obtain ⟨kv18, hkv18⟩ : ∃ z : Int32, z = (1 : Int32) := ⟨_, rfl⟩
      have d_kv18 := rd_Is eS17 hkv18
      have g0 := gr_I eS17 g0
      have o_v0 := ob_I eS17 o_v0
      intro S19 eS19
      have hIn : IV S19 := by rw [eS19]; exact iv11_sI hI o_v0 (by decide) (nu_free (by decide))
      have hI := hIn
      have f0 := fr_I eS19 g0 f0 o_v0 (by decide)
      have d_kv2 := rd_Ij eS19 (by decide) d_kv2
      have d_kv18 := rd_Ij eS19 (by decide) d_kv18
      obtain ⟨kv20, hkv20⟩ : ∃ z : Int32, z = (-1 : Int32) := ⟨_, rfl⟩
      have d_kv20 := rd_Is eS19 hkv20
      have g0 := gr_I eS19 g0
      have o_v0 := ob_I eS19 o_v0
      intro _
      exact hq _ _ hI g0 f0
    · have o_a11 := ml_ob hI o_v0 ea11
      refine ⟨fun c22 => ?_, fun c22 => ?_⟩
      · intro _ _
        refine ⟨fun c24 => absurd (show ¬ (0 : Int32) = 0 from c24) (by decide), fun c24 => ?_⟩
        intro _
        refine ⟨fun c26 => absurd (show (1 : Int32) ≤ 0 from c26) (by decide), fun c26 => ?_⟩
        refine u_X11_refused ?_
        refine u_X11_refused_0 ?_
        refine ⟨o_v0, ?_⟩
        intro S27 eS27
        have hIn : IV S27 := by rw [eS27]; exact iv11_sI hI o_v0 (by decide) (nu_free (by decide))
        have hI := hIn
        have f0 := fr_I eS27 g0 f0 o_v0 (by decide)
        have d_kv2 := rd_Ij eS27 (by decide) d_kv2
        obtain ⟨kv28, hkv28⟩ : ∃ z : Int32, z = (1 : Int32) := ⟨_, rfl⟩
        have d_kv28 := rd_Is eS27 hkv28
        have ea11 := rf_I eS27 ea11
        have g0 := gr_I eS27 g0
        have o_a11 := ob_I eS27 o_a11
        have o_v0 := ob_I eS27 o_v0
        intro S29 eS29
        have hIn : IV S29 := by rw [eS29]; exact iv11_sI hI o_v0 (by decide) (nu_free (by decide))
        have hI := hIn
        have f0 := fr_I eS29 g0 f0 o_v0 (by decide)
        have d_kv2 := rd_Ij eS29 (by decide) d_kv2
        have d_kv28 := rd_Ij eS29 (by decide) d_kv28
        obtain ⟨kv30, hkv30⟩ : ∃ z : Int32, z = (-1 : Int32) := ⟨_, rfl⟩
        have d_kv30 := rd_Is eS29 hkv30
        have ea11 := rf_I eS29 ea11
        have g0 := gr_I eS29 g0
        have o_a11 := ob_I eS29 o_a11
        have o_v0 := ob_I eS29 o_v0
        intro _
        exact hq _ _ hI g0 f0
      · refine ⟨a11, ea11, ?_⟩
        refine ⟨o_a11, ?_⟩
        intro x33 ex33
        have r_x33 : (0 : Int32) ≤ x33 ∧ x33 ≤ (4 : Int32) := by rw [ex33]; exact nu 20 rfl hI o_a11
        have d_x33 := ex33
        refine ⟨fun c34 => ?_, fun c34 => ?_⟩
        · intro _ _
          refine ⟨fun c36 => absurd (show ¬ (0 : Int32) = 0 from c36) (by decide), fun c36 => ?_⟩
          intro _
          refine ⟨fun c38 => absurd (show (1 : Int32) ≤ 0 from c38) (by decide), fun c38 => ?_⟩
          refine u_X11_refused ?_
          refine u_X11_refused_0 ?_
          refine ⟨o_v0, ?_⟩
          intro S39 eS39
          have hIn : IV S39 := by rw [eS39]; exact iv11_sI hI o_v0 (by decide) (nu_free (by decide))
          have hI := hIn
          have f0 := fr_I eS39 g0 f0 o_v0 (by decide)
          have d_kv2 := rd_Ij eS39 (by decide) d_kv2
          have d_x33 := rd_Ik eS39 o_v0 o_a11 (by decide) d_x33
          obtain ⟨kv40, hkv40⟩ : ∃ z : Int32, z = (1 : Int32) := ⟨_, rfl⟩
          have d_kv40 := rd_Is eS39 hkv40
          have ea11 := rf_I eS39 ea11
          have g0 := gr_I eS39 g0
          have o_a11 := ob_I eS39 o_a11
          have o_v0 := ob_I eS39 o_v0
          intro S41 eS41
          have hIn : IV S41 := by rw [eS41]; exact iv11_sI hI o_v0 (by decide) (nu_free (by decide))
          have hI := hIn
          have f0 := fr_I eS41 g0 f0 o_v0 (by decide)
          have d_kv2 := rd_Ij eS41 (by decide) d_kv2
          have d_x33 := rd_Ik eS41 o_v0 o_a11 (by decide) d_x33
          have d_kv40 := rd_Ij eS41 (by decide) d_kv40
          obtain ⟨kv42, hkv42⟩ : ∃ z : Int32, z = (-1 : Int32) := ⟨_, rfl⟩
          have d_kv42 := rd_Is eS41 hkv42
          have ea11 := rf_I eS41 ea11
          have g0 := gr_I eS41 g0
          have o_a11 := ob_I eS41 o_a11
          have o_v0 := ob_I eS41 o_v0
          intro _
          exact hq _ _ hI g0 f0
        · intro _ _
          refine ⟨fun c45 => ?_, fun c45 => absurd (show (1 : Int32) = 0 from c45) (by decide)⟩
          refine u_X11_refuses ?_
          refine u_X11_refuses_0 ?_
          refine ⟨o_v0, ?_⟩
          refine u_X11_isWalker ?_
          refine u_X11_isWalker_0 ?_
          refine ⟨o_v0, ?_⟩
          refine ⟨fun e47 => (nomatch (e47.symm.trans ea11)), fun a46 ea46 => ?_⟩
          obtain rfl : a11 = a46 := Option.some.inj (ea11.symm.trans ea46)
          refine ⟨fun c48 => ?_, fun c48 => ?_⟩
          · intro _ _
            refine ⟨fun c50 => ?_, fun c50 => absurd (show ¬ (0 : Int32) = 0 from c50) (by decide)⟩
            intro _
            refine ⟨fun c52 => absurd (show (1 : Int32) ≤ 0 from c52) (by decide), fun c52 => ?_⟩
            intro _
            refine ⟨fun c54 => absurd (show (1 : Int32) ≤ 0 from c54) (by decide), fun c54 => ?_⟩
            refine u_X11_refused ?_
            refine u_X11_refused_0 ?_
            refine ⟨o_v0, ?_⟩
            intro S55 eS55
            have hIn : IV S55 := by rw [eS55]; exact iv11_sI hI o_v0 (by decide) (nu_free (by decide))
            have hI := hIn
            have f0 := fr_I eS55 g0 f0 o_v0 (by decide)
            have d_kv2 := rd_Ij eS55 (by decide) d_kv2
            have d_x33 := rd_Ik eS55 o_v0 o_a11 (by decide) d_x33
            obtain ⟨kv56, hkv56⟩ : ∃ z : Int32, z = (1 : Int32) := ⟨_, rfl⟩
            have d_kv56 := rd_Is eS55 hkv56
            have ea11 := rf_I eS55 ea11
            have g0 := gr_I eS55 g0
            have o_a11 := ob_I eS55 o_a11
            have o_v0 := ob_I eS55 o_v0
            intro S57 eS57
            have hIn : IV S57 := by rw [eS57]; exact iv11_sI hI o_v0 (by decide) (nu_free (by decide))
            have hI := hIn
            have f0 := fr_I eS57 g0 f0 o_v0 (by decide)
            have d_kv2 := rd_Ij eS57 (by decide) d_kv2
            have d_x33 := rd_Ik eS57 o_v0 o_a11 (by decide) d_x33
            have d_kv56 := rd_Ij eS57 (by decide) d_kv56
            obtain ⟨kv58, hkv58⟩ : ∃ z : Int32, z = (-1 : Int32) := ⟨_, rfl⟩
            have d_kv58 := rd_Is eS57 hkv58
            have ea11 := rf_I eS57 ea11
            have g0 := gr_I eS57 g0
            have o_a11 := ob_I eS57 o_a11
            have o_v0 := ob_I eS57 o_v0
            intro _
            exact hq _ _ hI g0 f0
          · refine ⟨a11, ea11, ?_⟩
            refine ⟨o_a11, ?_⟩
            intro x61 ex61
            have r_x61 : (0 : Int32) ≤ x61 ∧ x61 ≤ (4 : Int32) := by rw [ex61]; exact nu 20 rfl hI o_a11
            have q_x61 : x61 = x33 := ex61.trans d_x33.symm
            have d_x61 := ex61
            refine ⟨fun c62 => ?_, fun c62 => ?_⟩
            · intro _ _
              refine ⟨fun c64 => ?_, fun c64 => absurd (show ¬ (0 : Int32) = 0 from c64) (by decide)⟩
              intro _
              refine ⟨fun c66 => absurd (show (1 : Int32) ≤ 0 from c66) (by decide), fun c66 => ?_⟩
              intro _
              refine ⟨fun c68 => absurd (show (1 : Int32) ≤ 0 from c68) (by decide), fun c68 => ?_⟩
              refine u_X11_refused ?_
              refine u_X11_refused_0 ?_
              refine ⟨o_v0, ?_⟩
              intro S69 eS69
              have hIn : IV S69 := by rw [eS69]; exact iv11_sI hI o_v0 (by decide) (nu_free (by decide))
              have hI := hIn
              have f0 := fr_I eS69 g0 f0 o_v0 (by decide)
              have d_kv2 := rd_Ij eS69 (by decide) d_kv2
              have d_x61 := rd_Ik eS69 o_v0 o_a11 (by decide) d_x61
              obtain ⟨kv70, hkv70⟩ : ∃ z : Int32, z = (1 : Int32) := ⟨_, rfl⟩
              have d_kv70 := rd_Is eS69 hkv70
              have ea11 := rf_I eS69 ea11
              have g0 := gr_I eS69 g0
              have o_a11 := ob_I eS69 o_a11
              have o_v0 := ob_I eS69 o_v0
              intro S71 eS71
              have hIn : IV S71 := by rw [eS71]; exact iv11_sI hI o_v0 (by decide) (nu_free (by decide))
              have hI := hIn
              have f0 := fr_I eS71 g0 f0 o_v0 (by decide)
              have d_kv2 := rd_Ij eS71 (by decide) d_kv2
              have d_x61 := rd_Ik eS71 o_v0 o_a11 (by decide) d_x61
              have d_kv70 := rd_Ij eS71 (by decide) d_kv70
              obtain ⟨kv72, hkv72⟩ : ∃ z : Int32, z = (-1 : Int32) := ⟨_, rfl⟩
              have d_kv72 := rd_Is eS71 hkv72
              have ea11 := rf_I eS71 ea11
              have g0 := gr_I eS71 g0
              have o_a11 := ob_I eS71 o_a11
              have o_v0 := ob_I eS71 o_v0
              intro _
              exact hq _ _ hI g0 f0
            · intro _ _
              refine ⟨fun c75 => absurd (show (1 : Int32) = 0 from c75) (by decide), fun c75 => ?_⟩
              refine u_X11_isRoad ?_
              refine u_X11_isRoad_0 ?_
              refine ⟨o_v0, ?_⟩
              refine ⟨fun e77 => (nomatch (e77.symm.trans ea11)), fun a76 ea76 => ?_⟩
              obtain rfl : a11 = a76 := Option.some.inj (ea11.symm.trans ea76)
              refine ⟨fun c78 => ?_, fun c78 => ?_⟩
              · intro _ _
                refine ⟨fun c80 => ?_, fun c80 => absurd (show ¬ (0 : Int32) = 0 from c80) (by decide)⟩
                intro _
                refine ⟨fun c82 => absurd (show (1 : Int32) ≤ 0 from c82) (by decide), fun c82 => ?_⟩
                intro _
                refine ⟨fun c84 => absurd (show (1 : Int32) ≤ 0 from c84) (by decide), fun c84 => ?_⟩
                refine u_X11_refused ?_
                refine u_X11_refused_0 ?_
                refine ⟨o_v0, ?_⟩
                intro S85 eS85
                have hIn : IV S85 := by rw [eS85]; exact iv11_sI hI o_v0 (by decide) (nu_free (by decide))
                have hI := hIn
                have f0 := fr_I eS85 g0 f0 o_v0 (by decide)
                have d_kv2 := rd_Ij eS85 (by decide) d_kv2
                have d_x61 := rd_Ik eS85 o_v0 o_a11 (by decide) d_x61
                obtain ⟨kv86, hkv86⟩ : ∃ z : Int32, z = (1 : Int32) := ⟨_, rfl⟩
                have d_kv86 := rd_Is eS85 hkv86
                have ea11 := rf_I eS85 ea11
                have g0 := gr_I eS85 g0
                have o_a11 := ob_I eS85 o_a11
                have o_v0 := ob_I eS85 o_v0
                intro S87 eS87
                have hIn : IV S87 := by rw [eS87]; exact iv11_sI hI o_v0 (by decide) (nu_free (by decide))
                have hI := hIn
                have f0 := fr_I eS87 g0 f0 o_v0 (by decide)
                have d_kv2 := rd_Ij eS87 (by decide) d_kv2
                have d_x61 := rd_Ik eS87 o_v0 o_a11 (by decide) d_x61
                have d_kv86 := rd_Ij eS87 (by decide) d_kv86
                obtain ⟨kv88, hkv88⟩ : ∃ z : Int32, z = (-1 : Int32) := ⟨_, rfl⟩
                have d_kv88 := rd_Is eS87 hkv88
                have ea11 := rf_I eS87 ea11
                have g0 := gr_I eS87 g0
                have o_a11 := ob_I eS87 o_a11
                have o_v0 := ob_I eS87 o_v0
                intro _
                exact hq _ _ hI g0 f0
              · refine ⟨a11, ea11, ?_⟩
                refine ⟨o_a11, ?_⟩
                intro x91 ex91
                have r_x91 : (0 : Int32) ≤ x91 ∧ x91 ≤ (12 : Int32) := by rw [ex91]; exact nu 19 rfl hI o_a11
                have d_x91 := ex91
                refine ⟨fun c92 => ?_, fun c92 => ?_⟩
                · intro _ _
                  refine ⟨fun c94 => ?_, fun c94 => absurd (show ¬ (0 : Int32) = 0 from c94) (by decide)⟩
                  intro _
                  refine ⟨fun c96 => absurd (show (1 : Int32) ≤ 0 from c96) (by decide), fun c96 => ?_⟩
                  intro _
                  refine ⟨fun c98 => absurd (show (1 : Int32) ≤ 0 from c98) (by decide), fun c98 => ?_⟩
                  refine u_X11_refused ?_
                  refine u_X11_refused_0 ?_
                  refine ⟨o_v0, ?_⟩
                  intro S99 eS99
                  have hIn : IV S99 := by rw [eS99]; exact iv11_sI hI o_v0 (by decide) (nu_free (by decide))
                  have hI := hIn
                  have f0 := fr_I eS99 g0 f0 o_v0 (by decide)
                  have d_kv2 := rd_Ij eS99 (by decide) d_kv2
                  have d_x61 := rd_Ik eS99 o_v0 o_a11 (by decide) d_x61
                  have d_x91 := rd_Ik eS99 o_v0 o_a11 (by decide) d_x91
                  obtain ⟨kv100, hkv100⟩ : ∃ z : Int32, z = (1 : Int32) := ⟨_, rfl⟩
                  have d_kv100 := rd_Is eS99 hkv100
                  have ea11 := rf_I eS99 ea11
                  have g0 := gr_I eS99 g0
                  have o_a11 := ob_I eS99 o_a11
                  have o_v0 := ob_I eS99 o_v0
                  intro S101 eS101
                  have hIn : IV S101 := by rw [eS101]; exact iv11_sI hI o_v0 (by decide) (nu_free (by decide))
                  have hI := hIn
                  have f0 := fr_I eS101 g0 f0 o_v0 (by decide)
                  have d_kv2 := rd_Ij eS101 (by decide) d_kv2
                  have d_x61 := rd_Ik eS101 o_v0 o_a11 (by decide) d_x61
                  have d_x91 := rd_Ik eS101 o_v0 o_a11 (by decide) d_x91
                  have d_kv100 := rd_Ij eS101 (by decide) d_kv100
                  obtain ⟨kv102, hkv102⟩ : ∃ z : Int32, z = (-1 : Int32) := ⟨_, rfl⟩
                  have d_kv102 := rd_Is eS101 hkv102
                  have ea11 := rf_I eS101 ea11
                  have g0 := gr_I eS101 g0
                  have o_a11 := ob_I eS101 o_a11
                  have o_v0 := ob_I eS101 o_v0
                  intro _
                  exact hq _ _ hI g0 f0
                · intro _ _
                  refine ⟨fun c105 => absurd (show (1 : Int32) = 0 from c105) (by decide), fun c105 => ?_⟩
                  refine u_X11_in ?_
                  refine u_X11_in_0 ?_
                  refine ⟨fun c106 => ?_, fun c106 => ?_⟩
                  · intro _ _
                    refine ⟨fun c108 => ?_, fun c108 => absurd (show ¬ (0 : Int32) = 0 from c108) (by decide)⟩
                    intro _
                    refine ⟨fun c110 => absurd (show (1 : Int32) ≤ 0 from c110) (by decide), fun c110 => ?_⟩
                    intro _
                    refine ⟨fun c112 => absurd (show (1 : Int32) ≤ 0 from c112) (by decide), fun c112 => ?_⟩
                    refine u_X11_refused ?_
                    refine u_X11_refused_0 ?_
                    refine ⟨o_v0, ?_⟩
                    intro S113 eS113
                    have hIn : IV S113 := by rw [eS113]; exact iv11_sI hI o_v0 (by decide) (nu_free (by decide))
                    have hI := hIn
                    have f0 := fr_I eS113 g0 f0 o_v0 (by decide)
                    have d_kv2 := rd_Ij eS113 (by decide) d_kv2
                    have d_x61 := rd_Ik eS113 o_v0 o_a11 (by decide) d_x61
                    have d_x91 := rd_Ik eS113 o_v0 o_a11 (by decide) d_x91
                    obtain ⟨kv114, hkv114⟩ : ∃ z : Int32, z = (1 : Int32) := ⟨_, rfl⟩
                    have d_kv114 := rd_Is eS113 hkv114
                    have ea11 := rf_I eS113 ea11
                    have g0 := gr_I eS113 g0
                    have o_a11 := ob_I eS113 o_a11
                    have o_v0 := ob_I eS113 o_v0
                    intro S115 eS115
                    have hIn : IV S115 := by rw [eS115]; exact iv11_sI hI o_v0 (by decide) (nu_free (by decide))
                    have hI := hIn
                    have f0 := fr_I eS115 g0 f0 o_v0 (by decide)
                    have d_kv2 := rd_Ij eS115 (by decide) d_kv2
                    have d_x61 := rd_Ik eS115 o_v0 o_a11 (by decide) d_x61
                    have d_x91 := rd_Ik eS115 o_v0 o_a11 (by decide) d_x91
                    have d_kv114 := rd_Ij eS115 (by decide) d_kv114
                    obtain ⟨kv116, hkv116⟩ : ∃ z : Int32, z = (-1 : Int32) := ⟨_, rfl⟩
                    have d_kv116 := rd_Is eS115 hkv116
                    have ea11 := rf_I eS115 ea11
                    have g0 := gr_I eS115 g0
                    have o_a11 := ob_I eS115 o_a11
                    have o_v0 := ob_I eS115 o_v0
                    intro _
                    exact hq _ _ hI g0 f0
                  · refine ⟨fun c118 => ?_, fun c118 => ?_⟩
                    · intro _ _
                      refine ⟨fun c120 => ?_, fun c120 => absurd (show ¬ (0 : Int32) = 0 from c120) (by decide)⟩
                      intro _
                      refine ⟨fun c122 => absurd (show (1 : Int32) ≤ 0 from c122) (by decide), fun c122 => ?_⟩
                      intro _
                      refine ⟨fun c124 => absurd (show (1 : Int32) ≤ 0 from c124) (by decide), fun c124 => ?_⟩
                      refine u_X11_refused ?_
                      refine u_X11_refused_0 ?_
                      refine ⟨o_v0, ?_⟩
                      intro S125 eS125
                      have hIn : IV S125 := by rw [eS125]; exact iv11_sI hI o_v0 (by decide) (nu_free (by decide))
                      have hI := hIn
                      have f0 := fr_I eS125 g0 f0 o_v0 (by decide)
                      have d_kv2 := rd_Ij eS125 (by decide) d_kv2
                      have d_x61 := rd_Ik eS125 o_v0 o_a11 (by decide) d_x61
                      have d_x91 := rd_Ik eS125 o_v0 o_a11 (by decide) d_x91
                      obtain ⟨kv126, hkv126⟩ : ∃ z : Int32, z = (1 : Int32) := ⟨_, rfl⟩
                      have d_kv126 := rd_Is eS125 hkv126
                      have ea11 := rf_I eS125 ea11
                      have g0 := gr_I eS125 g0
                      have o_a11 := ob_I eS125 o_a11
                      have o_v0 := ob_I eS125 o_v0
                      intro S127 eS127
                      have hIn : IV S127 := by rw [eS127]; exact iv11_sI hI o_v0 (by decide) (nu_free (by decide))
                      have hI := hIn
                      have f0 := fr_I eS127 g0 f0 o_v0 (by decide)
                      have d_kv2 := rd_Ij eS127 (by decide) d_kv2
                      have d_x61 := rd_Ik eS127 o_v0 o_a11 (by decide) d_x61
                      have d_x91 := rd_Ik eS127 o_v0 o_a11 (by decide) d_x91
                      have d_kv126 := rd_Ij eS127 (by decide) d_kv126
                      obtain ⟨kv128, hkv128⟩ : ∃ z : Int32, z = (-1 : Int32) := ⟨_, rfl⟩
                      have d_kv128 := rd_Is eS127 hkv128
                      have ea11 := rf_I eS127 ea11
                      have g0 := gr_I eS127 g0
                      have o_a11 := ob_I eS127 o_a11
                      have o_v0 := ob_I eS127 o_v0
                      intro _
                      exact hq _ _ hI g0 f0
                    · intro _ _
                      refine ⟨fun c131 => absurd (show (1 : Int32) = 0 from c131) (by decide), fun c131 => ?_⟩
                      refine u_X11_isHour ?_
                      refine u_X11_isHour_0 ?_
                      refine ⟨o_v0, ?_⟩
                      refine ⟨fun e133 => (nomatch (e133.symm.trans ea11)), fun a132 ea132 => ?_⟩
                      obtain rfl : a11 = a132 := Option.some.inj (ea11.symm.trans ea132)
                      refine ⟨fun c134 => ?_, fun c134 => ?_⟩
                      · intro _ _
                        refine ⟨fun c136 => absurd (show ¬ (0 : Int32) = 0 from c136) (by decide), fun c136 => ?_⟩
                        intro _
                        refine ⟨fun c138 => absurd (show (1 : Int32) ≤ 0 from c138) (by decide), fun c138 => ?_⟩
                        intro _
                        refine ⟨fun c140 => absurd (show (1 : Int32) ≤ 0 from c140) (by decide), fun c140 => ?_⟩
                        refine u_X11_refused ?_
                        refine u_X11_refused_0 ?_
                        refine ⟨o_v0, ?_⟩
                        intro S141 eS141
                        have hIn : IV S141 := by rw [eS141]; exact iv11_sI hI o_v0 (by decide) (nu_free (by decide))
                        have hI := hIn
                        have f0 := fr_I eS141 g0 f0 o_v0 (by decide)
                        have d_kv2 := rd_Ij eS141 (by decide) d_kv2
                        have d_x61 := rd_Ik eS141 o_v0 o_a11 (by decide) d_x61
                        have d_x91 := rd_Ik eS141 o_v0 o_a11 (by decide) d_x91
                        obtain ⟨kv142, hkv142⟩ : ∃ z : Int32, z = (1 : Int32) := ⟨_, rfl⟩
                        have d_kv142 := rd_Is eS141 hkv142
                        have ea11 := rf_I eS141 ea11
                        have g0 := gr_I eS141 g0
                        have o_a11 := ob_I eS141 o_a11
                        have o_v0 := ob_I eS141 o_v0
                        intro S143 eS143
                        have hIn : IV S143 := by rw [eS143]; exact iv11_sI hI o_v0 (by decide) (nu_free (by decide))
                        have hI := hIn
                        have f0 := fr_I eS143 g0 f0 o_v0 (by decide)
                        have d_kv2 := rd_Ij eS143 (by decide) d_kv2
                        have d_x61 := rd_Ik eS143 o_v0 o_a11 (by decide) d_x61
                        have d_x91 := rd_Ik eS143 o_v0 o_a11 (by decide) d_x91
                        have d_kv142 := rd_Ij eS143 (by decide) d_kv142
                        obtain ⟨kv144, hkv144⟩ : ∃ z : Int32, z = (-1 : Int32) := ⟨_, rfl⟩
                        have d_kv144 := rd_Is eS143 hkv144
                        have ea11 := rf_I eS143 ea11
                        have g0 := gr_I eS143 g0
                        have o_a11 := ob_I eS143 o_a11
                        have o_v0 := ob_I eS143 o_v0
                        intro _
                        exact hq _ _ hI g0 f0
                      · refine ⟨a11, ea11, ?_⟩
                        refine ⟨o_a11, ?_⟩
                        intro x147 ex147
                        have r_x147 : (0 : Int32) ≤ x147 ∧ x147 ≤ (6 : Int32) := by rw [ex147]; exact nu 17 rfl hI o_a11
                        have d_x147 := ex147
                        refine ⟨fun c148 => ?_, fun c148 => ?_⟩
                        · intro _ _
                          refine ⟨fun c150 => absurd (show ¬ (0 : Int32) = 0 from c150) (by decide), fun c150 => ?_⟩
                          intro _
                          refine ⟨fun c152 => absurd (show (1 : Int32) ≤ 0 from c152) (by decide), fun c152 => ?_⟩
                          intro _
                          refine ⟨fun c154 => absurd (show (1 : Int32) ≤ 0 from c154) (by decide), fun c154 => ?_⟩
                          refine u_X11_refused ?_
                          refine u_X11_refused_0 ?_
                          refine ⟨o_v0, ?_⟩
                          intro S155 eS155
                          have hIn : IV S155 := by rw [eS155]; exact iv11_sI hI o_v0 (by decide) (nu_free (by decide))
                          have hI := hIn
                          have f0 := fr_I eS155 g0 f0 o_v0 (by decide)
                          have d_kv2 := rd_Ij eS155 (by decide) d_kv2
                          have d_x61 := rd_Ik eS155 o_v0 o_a11 (by decide) d_x61
                          have d_x91 := rd_Ik eS155 o_v0 o_a11 (by decide) d_x91
                          have d_x147 := rd_Ik eS155 o_v0 o_a11 (by decide) d_x147
                          obtain ⟨kv156, hkv156⟩ : ∃ z : Int32, z = (1 : Int32) := ⟨_, rfl⟩
                          have d_kv156 := rd_Is eS155 hkv156
                          have ea11 := rf_I eS155 ea11
                          have g0 := gr_I eS155 g0
                          have o_a11 := ob_I eS155 o_a11
                          have o_v0 := ob_I eS155 o_v0
                          intro S157 eS157
                          have hIn : IV S157 := by rw [eS157]; exact iv11_sI hI o_v0 (by decide) (nu_free (by decide))
                          have hI := hIn
                          have f0 := fr_I eS157 g0 f0 o_v0 (by decide)
                          have d_kv2 := rd_Ij eS157 (by decide) d_kv2
                          have d_x61 := rd_Ik eS157 o_v0 o_a11 (by decide) d_x61
                          have d_x91 := rd_Ik eS157 o_v0 o_a11 (by decide) d_x91
                          have d_x147 := rd_Ik eS157 o_v0 o_a11 (by decide) d_x147
                          have d_kv156 := rd_Ij eS157 (by decide) d_kv156
                          obtain ⟨kv158, hkv158⟩ : ∃ z : Int32, z = (-1 : Int32) := ⟨_, rfl⟩
                          have d_kv158 := rd_Is eS157 hkv158
                          have ea11 := rf_I eS157 ea11
                          have g0 := gr_I eS157 g0
                          have o_a11 := ob_I eS157 o_a11
                          have o_v0 := ob_I eS157 o_v0
                          intro _
                          exact hq _ _ hI g0 f0
                        · intro _ _
                          refine ⟨fun c161 => ?_, fun c161 => absurd (show (1 : Int32) = 0 from c161) (by decide)⟩
                          refine u_X11_isSpeed ?_
                          refine u_X11_isSpeed_0 ?_
                          refine ⟨o_v0, ?_⟩
                          refine ⟨a11, ea11, ?_⟩
                          refine ⟨o_a11, ?_⟩
                          obtain ⟨a163, ea163, o_a163, l_a163⟩ := shl 46 rfl hI o_a11
                          refine ⟨a163, ea163, ?_⟩
                          refine ⟨o_a163, ?_⟩
                          refine ⟨(vin l_a163 (m := 4) (by decide) (qm614 c3 c22 r_x33 c34 c48 r_x61 q_x61 c62 c78 r_x91 c92 c106 c118 c134 r_x147 c148)), ?_⟩
                          intro x164 ex164
                          have gy_x164 : 0 ≤ v1 ∧ v1 < fI S1 a11 4 := by rw [← d_x61]; exact (qm615 c3 c22 r_x33 c34 c48 r_x61 q_x61 c62 c78 r_x91 c92 c106 c118 c134 r_x147 c148)
                          have g_x164 : (1 : Int32) ≤ x164 ∧ x164 ≤ (9 : Int32) := by rw [ex164]; exact wg_at (ml_wg hI o_v0 ea11) 3 rfl gy_x164 ea163
                          refine ⟨a11, ea11, ?_⟩
                          refine ⟨o_a11, ?_⟩
                          obtain ⟨a166, ea166, o_a166, l_a166⟩ := shl 47 rfl hI o_a11
                          refine ⟨a166, ea166, ?_⟩
                          refine ⟨o_a166, ?_⟩
                          refine ⟨(vin l_a166 (m := 4) (by decide) (qm614 c3 c22 r_x33 c34 c48 r_x61 q_x61 c62 c78 r_x91 c92 c106 c118 c134 r_x147 c148)), ?_⟩
                          intro x167 ex167
                          have gy_x167 : 0 ≤ v1 ∧ v1 < fI S1 a11 4 := by rw [← d_x61]; exact (qm615 c3 c22 r_x33 c34 c48 r_x61 q_x61 c62 c78 r_x91 c92 c106 c118 c134 r_x147 c148)
                          have g_x167 : (0 : Int32) ≤ x167 ∧ x167 ≤ (9 : Int32) := by rw [ex167]; exact wg_at (ml_wg hI o_v0 ea11) 4 rfl gy_x167 ea166
                          refine u_X11_in ?_
                          refine u_X11_in_0 ?_
                          refine ⟨fun c168 => ?_, fun c168 => ?_⟩
                          · intro _ _
                            refine ⟨(Or.inl rfl), ?_⟩
                            intro _ _
                            refine ⟨fun c171 => ?_, fun c171 => absurd (show ¬ (0 : Int32) = 0 from c171) (by decide)⟩
                            intro _
                            refine ⟨fun c173 => absurd (show (2 : Int32) ≤ 0 from c173) (by decide), fun c173 => ?_⟩
                            intro _
                            refine ⟨fun c175 => absurd (show (2 : Int32) ≤ 0 from c175) (by decide), fun c175 => ?_⟩
                            refine u_X11_refused ?_
                            refine u_X11_refused_0 ?_
                            refine ⟨o_v0, ?_⟩
                            intro S176 eS176
                            have hIn : IV S176 := by rw [eS176]; exact iv11_sI hI o_v0 (by decide) (nu_free (by decide))
                            have hI := hIn
                            have f0 := fr_I eS176 g0 f0 o_v0 (by decide)
                            have d_kv2 := rd_Ij eS176 (by decide) d_kv2
                            have d_x61 := rd_Ik eS176 o_v0 o_a11 (by decide) d_x61
                            have d_x91 := rd_Ik eS176 o_v0 o_a11 (by decide) d_x91
                            have d_x147 := rd_Ik eS176 o_v0 o_a11 (by decide) d_x147
                            obtain ⟨kv177, hkv177⟩ : ∃ z : Int32, z = (2 : Int32) := ⟨_, rfl⟩
                            have d_kv177 := rd_Is eS176 hkv177
                            have ea11 := rf_I eS176 ea11
                            have ea163 := rf_I eS176 ea163
                            have ea166 := rf_I eS176 ea166
                            have l_a163 := ln_I eS176 l_a163
                            have l_a166 := ln_I eS176 l_a166
                            have g0 := gr_I eS176 g0
                            have o_a11 := ob_I eS176 o_a11
                            have o_a163 := ob_I eS176 o_a163
                            have o_a166 := ob_I eS176 o_a166
                            have o_v0 := ob_I eS176 o_v0
                            intro S178 eS178
                            have hIn : IV S178 := by rw [eS178]; exact iv11_sI hI o_v0 (by decide) (nu_free (by decide))
                            have hI := hIn
                            have f0 := fr_I eS178 g0 f0 o_v0 (by decide)
                            have d_kv2 := rd_Ij eS178 (by decide) d_kv2
                            have d_x61 := rd_Ik eS178 o_v0 o_a11 (by decide) d_x61
                            have d_x91 := rd_Ik eS178 o_v0 o_a11 (by decide) d_x91
                            have d_x147 := rd_Ik eS178 o_v0 o_a11 (by decide) d_x147
                            have d_kv177 := rd_Ij eS178 (by decide) d_kv177
                            obtain ⟨kv179, hkv179⟩ : ∃ z : Int32, z = (-1 : Int32) := ⟨_, rfl⟩
                            have d_kv179 := rd_Is eS178 hkv179
                            have ea11 := rf_I eS178 ea11
                            have ea163 := rf_I eS178 ea163
                            have ea166 := rf_I eS178 ea166
                            have l_a163 := ln_I eS178 l_a163
                            have l_a166 := ln_I eS178 l_a166
                            have g0 := gr_I eS178 g0
                            have o_a11 := ob_I eS178 o_a11
                            have o_a163 := ob_I eS178 o_a163
                            have o_a166 := ob_I eS178 o_a166
                            have o_v0 := ob_I eS178 o_v0
                            intro _
                            exact hq _ _ hI g0 f0
                          · refine ⟨fun c181 => ?_, fun c181 => ?_⟩
                            · intro _ _
                              refine ⟨(Or.inl rfl), ?_⟩
                              intro _ _
                              refine ⟨fun c184 => ?_, fun c184 => absurd (show ¬ (0 : Int32) = 0 from c184) (by decide)⟩
                              intro _
                              refine ⟨fun c186 => absurd (show (2 : Int32) ≤ 0 from c186) (by decide), fun c186 => ?_⟩
                              intro _
                              refine ⟨fun c188 => absurd (show (2 : Int32) ≤ 0 from c188) (by decide), fun c188 => ?_⟩
                              refine u_X11_refused ?_
                              refine u_X11_refused_0 ?_
                              refine ⟨o_v0, ?_⟩
                              intro S189 eS189
                              have hIn : IV S189 := by rw [eS189]; exact iv11_sI hI o_v0 (by decide) (nu_free (by decide))
                              have hI := hIn
                              have f0 := fr_I eS189 g0 f0 o_v0 (by decide)
                              have d_kv2 := rd_Ij eS189 (by decide) d_kv2
                              have d_x61 := rd_Ik eS189 o_v0 o_a11 (by decide) d_x61
                              have d_x91 := rd_Ik eS189 o_v0 o_a11 (by decide) d_x91
                              have d_x147 := rd_Ik eS189 o_v0 o_a11 (by decide) d_x147
                              obtain ⟨kv190, hkv190⟩ : ∃ z : Int32, z = (2 : Int32) := ⟨_, rfl⟩
                              have d_kv190 := rd_Is eS189 hkv190
                              have ea11 := rf_I eS189 ea11
                              have ea163 := rf_I eS189 ea163
                              have ea166 := rf_I eS189 ea166
                              have l_a163 := ln_I eS189 l_a163
                              have l_a166 := ln_I eS189 l_a166
                              have g0 := gr_I eS189 g0
                              have o_a11 := ob_I eS189 o_a11
                              have o_a163 := ob_I eS189 o_a163
                              have o_a166 := ob_I eS189 o_a166
                              have o_v0 := ob_I eS189 o_v0
                              intro S191 eS191
                              have hIn : IV S191 := by rw [eS191]; exact iv11_sI hI o_v0 (by decide) (nu_free (by decide))
                              have hI := hIn
                              have f0 := fr_I eS191 g0 f0 o_v0 (by decide)
                              have d_kv2 := rd_Ij eS191 (by decide) d_kv2
                              have d_x61 := rd_Ik eS191 o_v0 o_a11 (by decide) d_x61
                              have d_x91 := rd_Ik eS191 o_v0 o_a11 (by decide) d_x91
                              have d_x147 := rd_Ik eS191 o_v0 o_a11 (by decide) d_x147
                              have d_kv190 := rd_Ij eS191 (by decide) d_kv190
                              obtain ⟨kv192, hkv192⟩ : ∃ z : Int32, z = (-1 : Int32) := ⟨_, rfl⟩
                              have d_kv192 := rd_Is eS191 hkv192
                              have ea11 := rf_I eS191 ea11
                              have ea163 := rf_I eS191 ea163
                              have ea166 := rf_I eS191 ea166
                              have l_a163 := ln_I eS191 l_a163
                              have l_a166 := ln_I eS191 l_a166
                              have g0 := gr_I eS191 g0
                              have o_a11 := ob_I eS191 o_a11
                              have o_a163 := ob_I eS191 o_a163
                              have o_a166 := ob_I eS191 o_a166
                              have o_v0 := ob_I eS191 o_v0
                              intro _
                              exact hq _ _ hI g0 f0
                            · intro _ _
                              refine ⟨(Or.inr rfl), ?_⟩
                              intro _ _
                              refine ⟨fun c196 => absurd (show (1 : Int32) = 0 from c196) (by decide), fun c196 => ?_⟩
                              intro _
                              refine ⟨fun c198 => ?_, fun c198 => absurd (show ¬ (0 : Int32) ≤ 0 from c198) (by decide)⟩
                              refine u_X11_isSpeed ?_
                              refine u_X11_isSpeed_0 ?_
                              refine ⟨o_v0, ?_⟩
                              refine ⟨a11, ea11, ?_⟩
                              refine ⟨o_a11, ?_⟩
                              refine ⟨a163, ea163, ?_⟩
                              refine ⟨o_a163, ?_⟩
                              refine ⟨(vin l_a163 (m := 4) (by decide) (qm616 c3 c22 r_x33 c34 c48 r_x61 q_x61 c62 c78 r_x91 c92 c106 c118 c134 r_x147 c148 g_x164 g_x167 c168 c181)), ?_⟩
                              intro x201 ex201
                              have gy_x201 : 0 ≤ v2 ∧ v2 < fI S1 a11 4 := by rw [← d_x61]; exact (qm617 c3 c22 r_x33 c34 c48 r_x61 q_x61 c62 c78 r_x91 c92 c106 c118 c134 r_x147 c148 g_x164 g_x167 c168 c181)
                              have g_x201 : (1 : Int32) ≤ x201 ∧ x201 ≤ (9 : Int32) := by rw [ex201]; exact wg_at (ml_wg hI o_v0 ea11) 3 rfl gy_x201 ea163
                              refine ⟨a11, ea11, ?_⟩
                              refine ⟨o_a11, ?_⟩
                              refine ⟨a166, ea166, ?_⟩
                              refine ⟨o_a166, ?_⟩
                              refine ⟨(vin l_a166 (m := 4) (by decide) (qm616 c3 c22 r_x33 c34 c48 r_x61 q_x61 c62 c78 r_x91 c92 c106 c118 c134 r_x147 c148 g_x164 g_x167 c168 c181)), ?_⟩
                              intro x204 ex204
                              have gy_x204 : 0 ≤ v2 ∧ v2 < fI S1 a11 4 := by rw [← d_x61]; exact (qm617 c3 c22 r_x33 c34 c48 r_x61 q_x61 c62 c78 r_x91 c92 c106 c118 c134 r_x147 c148 g_x164 g_x167 c168 c181)
                              have g_x204 : (0 : Int32) ≤ x204 ∧ x204 ≤ (9 : Int32) := by rw [ex204]; exact wg_at (ml_wg hI o_v0 ea11) 4 rfl gy_x204 ea166
                              refine u_X11_in ?_
                              refine u_X11_in_0 ?_
                              refine ⟨fun c205 => ?_, fun c205 => ?_⟩
                              · intro _ _
                                refine ⟨(Or.inl rfl), ?_⟩
                                intro _ _
                                refine ⟨fun c208 => ?_, fun c208 => absurd (show ¬ (0 : Int32) = 0 from c208) (by decide)⟩
                                intro _
                                refine ⟨fun c210 => absurd (show (2 : Int32) ≤ 0 from c210) (by decide), fun c210 => ?_⟩
                                refine u_X11_refused ?_
                                refine u_X11_refused_0 ?_
                                refine ⟨o_v0, ?_⟩
                                intro S211 eS211
                                have hIn : IV S211 := by rw [eS211]; exact iv11_sI hI o_v0 (by decide) (nu_free (by decide))
                                have hI := hIn
                                have f0 := fr_I eS211 g0 f0 o_v0 (by decide)
                                have d_kv2 := rd_Ij eS211 (by decide) d_kv2
                                have d_x61 := rd_Ik eS211 o_v0 o_a11 (by decide) d_x61
                                have d_x91 := rd_Ik eS211 o_v0 o_a11 (by decide) d_x91
                                have d_x147 := rd_Ik eS211 o_v0 o_a11 (by decide) d_x147
                                obtain ⟨kv212, hkv212⟩ : ∃ z : Int32, z = (2 : Int32) := ⟨_, rfl⟩
                                have d_kv212 := rd_Is eS211 hkv212
                                have ea11 := rf_I eS211 ea11
                                have ea163 := rf_I eS211 ea163
                                have ea166 := rf_I eS211 ea166
                                have l_a163 := ln_I eS211 l_a163
                                have l_a166 := ln_I eS211 l_a166
                                have g0 := gr_I eS211 g0
                                have o_a11 := ob_I eS211 o_a11
                                have o_a163 := ob_I eS211 o_a163
                                have o_a166 := ob_I eS211 o_a166
                                have o_v0 := ob_I eS211 o_v0
                                intro S213 eS213
                                have hIn : IV S213 := by rw [eS213]; exact iv11_sI hI o_v0 (by decide) (nu_free (by decide))
                                have hI := hIn
                                have f0 := fr_I eS213 g0 f0 o_v0 (by decide)
                                have d_kv2 := rd_Ij eS213 (by decide) d_kv2
                                have d_x61 := rd_Ik eS213 o_v0 o_a11 (by decide) d_x61
                                have d_x91 := rd_Ik eS213 o_v0 o_a11 (by decide) d_x91
                                have d_x147 := rd_Ik eS213 o_v0 o_a11 (by decide) d_x147
                                have d_kv212 := rd_Ij eS213 (by decide) d_kv212
                                obtain ⟨kv214, hkv214⟩ : ∃ z : Int32, z = (-1 : Int32) := ⟨_, rfl⟩
                                have d_kv214 := rd_Is eS213 hkv214
                                have ea11 := rf_I eS213 ea11
                                have ea163 := rf_I eS213 ea163
                                have ea166 := rf_I eS213 ea166
                                have l_a163 := ln_I eS213 l_a163
                                have l_a166 := ln_I eS213 l_a166
                                have g0 := gr_I eS213 g0
                                have o_a11 := ob_I eS213 o_a11
                                have o_a163 := ob_I eS213 o_a163
                                have o_a166 := ob_I eS213 o_a166
                                have o_v0 := ob_I eS213 o_v0
                                intro _
                                exact hq _ _ hI g0 f0
                              · refine ⟨fun c216 => ?_, fun c216 => ?_⟩
                                · intro _ _
                                  refine ⟨(Or.inl rfl), ?_⟩
                                  intro _ _
                                  refine ⟨fun c219 => ?_, fun c219 => absurd (show ¬ (0 : Int32) = 0 from c219) (by decide)⟩
                                  intro _
                                  refine ⟨fun c221 => absurd (show (2 : Int32) ≤ 0 from c221) (by decide), fun c221 => ?_⟩
                                  refine u_X11_refused ?_
                                  refine u_X11_refused_0 ?_
                                  refine ⟨o_v0, ?_⟩
                                  intro S222 eS222
                                  have hIn : IV S222 := by rw [eS222]; exact iv11_sI hI o_v0 (by decide) (nu_free (by decide))
                                  have hI := hIn
                                  have f0 := fr_I eS222 g0 f0 o_v0 (by decide)
                                  have d_kv2 := rd_Ij eS222 (by decide) d_kv2
                                  have d_x61 := rd_Ik eS222 o_v0 o_a11 (by decide) d_x61
                                  have d_x91 := rd_Ik eS222 o_v0 o_a11 (by decide) d_x91
                                  have d_x147 := rd_Ik eS222 o_v0 o_a11 (by decide) d_x147
                                  obtain ⟨kv223, hkv223⟩ : ∃ z : Int32, z = (2 : Int32) := ⟨_, rfl⟩
                                  have d_kv223 := rd_Is eS222 hkv223
                                  have ea11 := rf_I eS222 ea11
                                  have ea163 := rf_I eS222 ea163
                                  have ea166 := rf_I eS222 ea166
                                  have l_a163 := ln_I eS222 l_a163
                                  have l_a166 := ln_I eS222 l_a166
                                  have g0 := gr_I eS222 g0
                                  have o_a11 := ob_I eS222 o_a11
                                  have o_a163 := ob_I eS222 o_a163
                                  have o_a166 := ob_I eS222 o_a166
                                  have o_v0 := ob_I eS222 o_v0
                                  intro S224 eS224
                                  have hIn : IV S224 := by rw [eS224]; exact iv11_sI hI o_v0 (by decide) (nu_free (by decide))
                                  have hI := hIn
                                  have f0 := fr_I eS224 g0 f0 o_v0 (by decide)
                                  have d_kv2 := rd_Ij eS224 (by decide) d_kv2
                                  have d_x61 := rd_Ik eS224 o_v0 o_a11 (by decide) d_x61
                                  have d_x91 := rd_Ik eS224 o_v0 o_a11 (by decide) d_x91
                                  have d_x147 := rd_Ik eS224 o_v0 o_a11 (by decide) d_x147
                                  have d_kv223 := rd_Ij eS224 (by decide) d_kv223
                                  obtain ⟨kv225, hkv225⟩ : ∃ z : Int32, z = (-1 : Int32) := ⟨_, rfl⟩
                                  have d_kv225 := rd_Is eS224 hkv225
                                  have ea11 := rf_I eS224 ea11
                                  have ea163 := rf_I eS224 ea163
                                  have ea166 := rf_I eS224 ea166
                                  have l_a163 := ln_I eS224 l_a163
                                  have l_a166 := ln_I eS224 l_a166
                                  have g0 := gr_I eS224 g0
                                  have o_a11 := ob_I eS224 o_a11
                                  have o_a163 := ob_I eS224 o_a163
                                  have o_a166 := ob_I eS224 o_a166
                                  have o_v0 := ob_I eS224 o_v0
                                  intro _
                                  exact hq _ _ hI g0 f0
                                · intro _ _
                                  refine ⟨(Or.inr rfl), ?_⟩
                                  intro _ _
                                  refine ⟨fun c229 => absurd (show (1 : Int32) = 0 from c229) (by decide), fun c229 => ?_⟩
                                  intro _
                                  refine ⟨fun c231 => ?_, fun c231 => absurd (show ¬ (0 : Int32) ≤ 0 from c231) (by decide)⟩
                                  refine m_X11_together hI o_v0 (qm618 c3 c22 r_x33 c34 c48 r_x61 q_x61 c62 c78 r_x91 c92 c106 c118 c134 r_x147 c148 g_x164 g_x167 c168 c181 g_x201 g_x204 c205 c216) (qm619 c3 c22 r_x33 c34 c48 r_x61 q_x61 c62 c78 r_x91 c92 c106 c118 c134 r_x147 c148 g_x164 g_x167 c168 c181 g_x201 g_x204 c205 c216) (qm620 c3 c22 r_x33 c34 c48 r_x61 q_x61 c62 c78 r_x91 c92 c106 c118 c134 r_x147 c148 g_x164 g_x167 c168 c181 g_x201 g_x204 c205 c216) (qm621 c3 c22 r_x33 c34 c48 r_x61 q_x61 c62 c78 r_x91 c92 c106 c118 c134 r_x147 c148 g_x164 g_x167 c168 c181 g_x201 g_x204 c205 c216) (qm622 c3 c22 r_x33 c34 c48 r_x61 q_x61 c62 c78 r_x91 c92 c106 c118 c134 r_x147 c148 g_x164 g_x167 c168 c181 g_x201 g_x204 c205 c216) ⟨_, ea11⟩ (fun x232 S233 hI2 g234 p_x232 => ?_)
                                  subst p_x232
                                  intro _
                                  refine m_X11_told hI o_v0 (qm626 c3 c22 r_x33 c34 c48 r_x61 q_x61 c62 c78 r_x91 c92 c106 c118 c134 r_x147 c148 g_x164 g_x167 c168 c181 g_x201 g_x204 c205 c216) (fun x236 S237 hJ g238 fc239 => ?_)
                                  have hI := hJ
                                  have l_a163 := (gr_len g238 o_a163).trans l_a163
                                  have l_a166 := (gr_len g238 o_a166).trans l_a166
                                  have d_kv2 := d_kv2.trans (fri_at fc239 (by decide) (by decide) o_v0).symm
                                  have d_x61 := d_x61.trans (fri_at fc239 (by decide) (by decide) o_a11).symm
                                  have d_x91 := d_x91.trans (fri_at fc239 (by decide) (by decide) o_a11).symm
                                  have d_x147 := d_x147.trans (fri_at fc239 (by decide) (by decide) o_a11).symm
                                  have ea11 := (frr_at fc239 (by decide) (by decide) o_v0).trans ea11
                                  have ea163 := (frr_at fc239 (by decide) (by decide) o_a11).trans ea163
                                  have ea166 := (frr_at fc239 (by decide) (by decide) o_a11).trans ea166
                                  have f0 := fri_tr (S := S1) g0 f0 fc239 (by decide) (by decide)
                                  have o_a11 := gr_ob g238 o_a11
                                  have o_a163 := gr_ob g238 o_a163
                                  have o_a166 := gr_ob g238 o_a166
                                  have o_v0 := gr_ob g238 o_v0
                                  have g0 := gr_tr (T := S1) g0 g238
                                  intro _
                                  exact hq _ _ hI g0 f0
end
section
set_option maxHeartbeats 4000000 in
set_option maxRecDepth 20000 in
theorem m_X11_lies {v0 : Nat} {Q : Int32 → HS → Prop} {S : HS} (hI : IV S) (o_v0 : ob S v0 11)     (hq : ∀ (r : Int32) (T : HS), IV T → Gr S T → FRI [(11, 0), (11, 1), (11, 2)] [] S T → Q r T) : P_X11_lies v0 Q S := by
  have g0 := gr_rf S
  have f0 := fri_rf [(11, 0), (11, 1), (11, 2)] [] S
  refine u_X11_lies ?_
  refine u_X11_lies_0 ?_
  refine ⟨o_v0, ?_⟩
  intro S1 eS1
  have hIn : IV S1 := by rw [eS1]; exact iv11_sI hI o_v0 (by decide) (nu_free (by decide))
  have hI := hIn
  have f0 := fr_I eS1 g0 f0 o_v0 (by decide)
  obtain ⟨kv2, hkv2⟩ : ∃ z : Int32, z = (0 : Int32) := ⟨_, rfl⟩
  have d_kv2 := rd_Is eS1 hkv2
  have g0 := gr_I eS1 g0
  have o_v0 := ob_I eS1 o_v0
  refine ⟨fun e4 => ?_, fun a3 ea3 => ?_⟩
  · refine u_X11_refused ?_
    refine u_X11_refused_0 ?_
    refine ⟨o_v0, ?_⟩
    intro S5 eS5
    have hIn : IV S5 := by rw [eS5]; exact iv11_sI hI o_v0 (by decide) (nu_free (by decide))
    have hI := hIn
    have f0 := fr_I eS5 g0 f0 o_v0 (by decide)
    have d_kv2 := rd_Ij eS5 (by decide) d_kv2
    obtain ⟨kv6, hkv6⟩ : ∃ z : Int32, z = (1 : Int32) := ⟨_, rfl⟩
    have d_kv6 := rd_Is eS5 hkv6
    have g0 := gr_I eS5 g0
    have o_v0 := ob_I eS5 o_v0
    intro S7 eS7
    have hIn : IV S7 := by rw [eS7]; exact iv11_sI hI o_v0 (by decide) (nu_free (by decide))
    have hI := hIn
    have f0 := fr_I eS7 g0 f0 o_v0 (by decide)
    have d_kv2 := rd_Ij eS7 (by decide) d_kv2
    have d_kv6 := rd_Ij eS7 (by decide) d_kv6
    obtain ⟨kv8, hkv8⟩ : ∃ z : Int32, z = (-1 : Int32) := ⟨_, rfl⟩
    have d_kv8 := rd_Is eS7 hkv8
    have g0 := gr_I eS7 g0
    have o_v0 := ob_I eS7 o_v0
    intro _
    exact hq _ _ hI g0 f0
  · have o_a3 := ml_ob hI o_v0 ea3
    refine i_X11_lies_22 (fun (y0 : Nat) (y1 : Int32) (y2 : Int32) (Z : HS) => ((2147483647 : Int32).toInt - y2.toInt).toNat) (fun (y0 : Nat) (y1 : Int32) (y2 : Int32) (Z : HS) => (S1 = Z) ∧ (v0 = y0) ∧ (0 ≤ y2)) ?_ _ _ _ _ ⟨rfl, rfl, (qm8)⟩
    intro w14 w16 w17 S11 X18 ⟨eS11, q15, i1u10⟩ ih19
    subst q15
    subst eS11
    refine u_X11_lies_22 ?_
    refine ⟨o_v0, ?_⟩
    refine ⟨a3, ea3, ?_⟩
    refine ⟨o_a3, ?_⟩
    intro x21 ex21
    have r_x21 : (0 : Int32) ≤ x21 ∧ x21 ≤ (4 : Int32) := by rw [ex21]; exact nu 21 rfl hI o_a3
    have d_x21 := ex21
    refine ⟨fun c22 => ?_, fun c22 => ?_⟩
    · refine u_X11_good ?_
      refine u_X11_good_0 ?_
      refine ⟨o_v0, ?_⟩
      intro S23 eS23
      have hIn : IV S23 := by rw [eS23]; exact iv11_sI hI o_v0 (by decide) (nu_free (by decide))
      have hI := hIn
      have f0 := fr_I eS23 g0 f0 o_v0 (by decide)
      have d_kv2 := rd_Ij eS23 (by decide) d_kv2
      have d_x21 := rd_Ik eS23 o_v0 o_a3 (by decide) d_x21
      obtain ⟨kv24, hkv24⟩ : ∃ z : Int32, z = (0 : Int32) := ⟨_, rfl⟩
      have d_kv24 := rd_Is eS23 hkv24
      have ea3 := rf_I eS23 ea3
      have g0 := gr_I eS23 g0
      have o_a3 := ob_I eS23 o_a3
      have o_v0 := ob_I eS23 o_v0
      intro S25 eS25
      have hIn : IV S25 := by rw [eS25]; exact iv11_sI hI o_v0 (by decide) (nu_free (by decide))
      have hI := hIn
      have f0 := fr_I eS25 g0 f0 o_v0 (by decide)
      have d_kv2 := rd_Ij eS25 (by decide) d_kv2
      have d_x21 := rd_Ik eS25 o_v0 o_a3 (by decide) d_x21
      have d_kv24 := rd_Ij eS25 (by decide) d_kv24
      obtain ⟨kv26, hkv26⟩ : ∃ z : Int32, z = (-1 : Int32) := ⟨_, rfl⟩
      have d_kv26 := rd_Is eS25 hkv26
      have ea3 := rf_I eS25 ea3
      have g0 := gr_I eS25 g0
      have o_a3 := ob_I eS25 o_a3
      have o_v0 := ob_I eS25 o_v0
      intro _
      exact hq _ _ hI g0 f0
    · refine m_X11_fitOf hI o_v0 ⟨_, ea3, (qm558 i1u10 r_x21 c22), (by rw [← d_x21]; exact (qm559 i1u10 r_x21 c22))⟩ (fun x28 S29 hI2 g30 p_x28 => ?_)
      subst p_x28
      intro _
      refine ⟨fun c32 => ?_, fun c32 => ?_⟩
      · refine u_X11_lies_50 ?_
        intro x33 ex33
        intro x34 ex34
        exact ih19 _ _ _ _ ⟨rfl, rfl, (qm560 i1u10 r_x21 c22 c32 ex34)⟩ (mu_up (qm561 i1u10 r_x21 c22 c32 ex34) (qm562 i1u10 r_x21 c22 c32 ex34))
      · refine u_X11_lies_50 ?_
        intro x35 ex35
        intro x36 ex36
        exact ih19 _ _ _ _ ⟨rfl, rfl, (qm563 i1u10 r_x21 c22 c32 ex35 ex36)⟩ (mu_up (qm564 i1u10 r_x21 c22 c32 ex35 ex36) (qm565 i1u10 r_x21 c22 c32 ex35 ex36))
set_option maxHeartbeats 4000000 in
set_option maxRecDepth 20000 in
theorem m_X11_mark {v0 : Nat} {Q : Int32 → HS → Prop} {S : HS} (hI : IV S) (o_v0 : ob S v0 11)     (hq : ∀ (r : Int32) (T : HS), IV T → Gr S T → FRI [(11, 0), (11, 1), (11, 2), (11, 25)] [] S T → Q r T) : P_X11_mark v0 Q S := by
  have g0 := gr_rf S
  have f0 := fri_rf [(11, 0), (11, 1), (11, 2), (11, 25)] [] S
  refine u_X11_mark ?_
  refine u_X11_mark_0 ?_
  refine ⟨o_v0, ?_⟩
  intro S1 eS1
  have hIn : IV S1 := by rw [eS1]; exact iv11_sI hI o_v0 (by decide) (nu_free (by decide))
  have hI := hIn
  have f0 := fr_I eS1 g0 f0 o_v0 (by decide)
  obtain ⟨kv2, hkv2⟩ : ∃ z : Int32, z = (0 : Int32) := ⟨_, rfl⟩
  have d_kv2 := rd_Is eS1 hkv2
  have g0 := gr_I eS1 g0
  have o_v0 := ob_I eS1 o_v0
  refine u_X11_isDay ?_
  refine u_X11_isDay_0 ?_
  refine ⟨o_v0, ?_⟩
  refine ⟨fun e4 => ?_, fun a3 ea3 => ?_⟩
  · intro _ _
    refine ⟨fun c6 => absurd (show ¬ (0 : Int32) = 0 from c6) (by decide), fun c6 => ?_⟩
    refine u_X11_refused ?_
    refine u_X11_refused_0 ?_
    refine ⟨o_v0, ?_⟩
    intro S7 eS7
    have hIn : IV S7 := by rw [eS7]; exact iv11_sI hI o_v0 (by decide) (nu_free (by decide))
    have hI := hIn
    have f0 := fr_I eS7 g0 f0 o_v0 (by decide)
    have d_kv2 := rd_Ij eS7 (by decide) d_kv2
    obtain ⟨kv8, hkv8⟩ : ∃ z : Int32, z = (1 : Int32) := ⟨_, rfl⟩
    have d_kv8 := rd_Is eS7 hkv8
    have g0 := gr_I eS7 g0
    have o_v0 := ob_I eS7 o_v0
    intro S9 eS9
    have hIn : IV S9 := by rw [eS9]; exact iv11_sI hI o_v0 (by decide) (nu_free (by decide))
    have hI := hIn
    have f0 := fr_I eS9 g0 f0 o_v0 (by decide)
    have d_kv2 := rd_Ij eS9 (by decide) d_kv2
    have d_kv8 := rd_Ij eS9 (by decide) d_kv8
    obtain ⟨kv10, hkv10⟩ : ∃ z : Int32, z = (-1 : Int32) := ⟨_, rfl⟩
    have d_kv10 := rd_Is eS9 hkv10
    have g0 := gr_I eS9 g0
    have o_v0 := ob_I eS9 o_v0
    intro _
    exact hq _ _ hI g0 f0
  · have o_a3 := ml_ob hI o_v0 ea3
    intro x12 ex12
    have r_x12 : (-2 : Int32) ≤ x12 ∧ x12 ≤ (3 : Int32) := by rw [ex12]; exact nu 26 rfl hI o_v0
    have d_x12 := ex12
    obtain ⟨kv13, d_kv13⟩ : ∃ z : Int32, z = fI S1 a3 4 := ⟨_, rfl⟩
    have r_kv13 : (0 : Int32) ≤ kv13 ∧ kv13 ≤ (4 : Int32) := by rw [d_kv13]; exact nu 20 rfl hI o_a3
    have wh_x12 : x12 = -2 ∨ (0 ≤ x12 ∧ x12 < kv13) := by rw [ex12, d_kv13]; exact ml_who hI o_v0 ea3
    refine ⟨fun c14 => ?_, fun c14 => ?_⟩
    · intro _ _
      refine ⟨fun c16 => absurd (show ¬ (0 : Int32) = 0 from c16) (by decide), fun c16 => ?_⟩
      refine u_X11_refused ?_
      refine u_X11_refused_0 ?_
      refine ⟨o_v0, ?_⟩
      intro S17 eS17
      have hIn : IV S17 := by rw [eS17]; exact iv11_sI hI o_v0 (by decide) (nu_free (by decide))
      have hI := hIn
      have f0 := fr_I eS17 g0 f0 o_v0 (by decide)
      have d_kv2 := rd_Ij eS17 (by decide) d_kv2
      have d_x12 := rd_Ij eS17 (by decide) d_x12
      have d_kv13 := rd_Ik eS17 o_v0 o_a3 (by decide) d_kv13
      obtain ⟨kv18, hkv18⟩ : ∃ z : Int32, z = (1 : Int32) := ⟨_, rfl⟩
      have d_kv18 := rd_Is eS17 hkv18
      have ea3 := rf_I eS17 ea3
      have g0 := gr_I eS17 g0
      have o_a3 := ob_I eS17 o_a3
      have o_v0 := ob_I eS17 o_v0
      intro S19 eS19
      have hIn : IV S19 := by rw [eS19]; exact iv11_sI hI o_v0 (by decide) (nu_free (by decide))
      have hI := hIn
      have f0 := fr_I eS19 g0 f0 o_v0 (by decide)
      have d_kv2 := rd_Ij eS19 (by decide) d_kv2
      have d_x12 := rd_Ij eS19 (by decide) d_x12
      have d_kv13 := rd_Ik eS19 o_v0 o_a3 (by decide) d_kv13
      have d_kv18 := rd_Ij eS19 (by decide) d_kv18
      obtain ⟨kv20, hkv20⟩ : ∃ z : Int32, z = (-1 : Int32) := ⟨_, rfl⟩
      have d_kv20 := rd_Is eS19 hkv20
      have ea3 := rf_I eS19 ea3
      have g0 := gr_I eS19 g0
      have o_a3 := ob_I eS19 o_a3
      have o_v0 := ob_I eS19 o_v0
      intro _
      exact hq _ _ hI g0 f0
    · intro _ _
      refine ⟨fun c23 => ?_, fun c23 => absurd (show (1 : Int32) = 0 from c23) (by decide)⟩
      intro x24 ex24
      have r_x24 : (0 : Int32) ≤ x24 ∧ x24 ≤ (3 : Int32) := by rw [ex24]; exact nu 28 rfl hI o_v0
      have d_x24 := ex24
      refine ⟨fun c25 => ?_, fun c25 => ?_⟩
      · refine i_X11_mark_34 (fun (y0 : Nat) (y1 : Int32) (Z : HS) => ((7 : Int32).toInt - y1.toInt).toNat) (fun (y0 : Nat) (y1 : Int32) (Z : HS) => (IV Z) ∧ (Gr S1 Z) ∧ (FRI [] [] S1 Z) ∧ (v0 = y0) ∧ (0 ≤ y1 ∧ y1 ≤ 7)) ?_ _ _ _ ⟨hI, (gr_rf _), (fri_rf _ _ _), rfl, (qm518 r_x12 r_kv13 wh_x12 c14 r_x24 c25)⟩
        intro w30 w32 S27 X33 ⟨hI, gL28, fL29, q31, i1u26⟩ ih34
        subst q31
        have d_kv2 := d_kv2.trans (fri_at fL29 (by decide) (by decide) o_v0).symm
        have d_x12 := d_x12.trans (fri_at fL29 (by decide) (by decide) o_v0).symm
        have d_kv13 := d_kv13.trans (fri_at fL29 (by decide) (by decide) o_a3).symm
        have d_x24 := d_x24.trans (fri_at fL29 (by decide) (by decide) o_v0).symm
        have ea3 := (frr_at fL29 (by decide) (by decide) o_v0).trans ea3
        have f0 := fri_tr (S := S1) g0 f0 fL29 (by decide) (by decide)
        have o_a3 := gr_ob gL28 o_a3
        have o_v0 := gr_ob gL28 o_v0
        have g0 := gr_tr (T := S1) g0 gL28
        refine u_X11_mark_34 ?_
        refine ⟨fun c35 => ?_, fun c35 => ?_⟩
        · refine ⟨o_v0, ?_⟩
          intro x36 ex36
          have r_x36 : (0 : Int32) ≤ x36 ∧ x36 ≤ (3 : Int32) := by rw [ex36]; exact nu 28 rfl hI o_v0
          have q_x36 : x36 = x24 := ex36.trans d_x24.symm
          have d_x36 := ex36
          intro x37 ex37
          intro S38 eS38
          have hIn : IV S38 := by rw [eS38]; exact iv11_sI hI o_v0 (by decide) (nu_one (lo := (0 : Int32)) (hi := (3 : Int32)) (by decide) (qm519 r_x12 r_kv13 wh_x12 c14 r_x24 c25 i1u26 c35 r_x36 q_x36 ex37))
          have hI := hIn
          have f0 := fr_I eS38 g0 f0 o_v0 (by decide)
          have d_kv2 := rd_Ij eS38 (by decide) d_kv2
          have d_x12 := rd_Ij eS38 (by decide) d_x12
          have d_kv13 := rd_Ik eS38 o_v0 o_a3 (by decide) d_kv13
          have d_x37 := rd_Is eS38 (rfl : x37 = x37)
          have ea3 := rf_I eS38 ea3
          have g0 := gr_I eS38 g0
          have o_a3 := ob_I eS38 o_a3
          have o_v0 := ob_I eS38 o_v0
          intro x39 ex39
          have r_x39 : (0 : Int32) ≤ x39 ∧ x39 ≤ (3 : Int32) := by rw [ex39]; exact nu 28 rfl hI o_v0
          have q_x39 : x39 = x37 := ex39.trans d_x37.symm
          have d_x39 := ex39
          refine u_X11_good ?_
          refine u_X11_good_0 ?_
          refine ⟨o_v0, ?_⟩
          intro S40 eS40
          have hIn : IV S40 := by rw [eS40]; exact iv11_sI hI o_v0 (by decide) (nu_free (by decide))
          have hI := hIn
          have f0 := fr_I eS40 g0 f0 o_v0 (by decide)
          have d_kv2 := rd_Ij eS40 (by decide) d_kv2
          have d_x12 := rd_Ij eS40 (by decide) d_x12
          have d_kv13 := rd_Ik eS40 o_v0 o_a3 (by decide) d_kv13
          have d_x39 := rd_Ij eS40 (by decide) d_x39
          obtain ⟨kv41, hkv41⟩ : ∃ z : Int32, z = (0 : Int32) := ⟨_, rfl⟩
          have d_kv41 := rd_Is eS40 hkv41
          have ea3 := rf_I eS40 ea3
          have g0 := gr_I eS40 g0
          have o_a3 := ob_I eS40 o_a3
          have o_v0 := ob_I eS40 o_v0
          intro S42 eS42
          have hIn : IV S42 := by rw [eS42]; exact iv11_sI hI o_v0 (by decide) (nu_free (by decide))
          have hI := hIn
          have f0 := fr_I eS42 g0 f0 o_v0 (by decide)
          have d_kv2 := rd_Ij eS42 (by decide) d_kv2
          have d_x12 := rd_Ij eS42 (by decide) d_x12
          have d_kv13 := rd_Ik eS42 o_v0 o_a3 (by decide) d_kv13
          have d_x39 := rd_Ij eS42 (by decide) d_x39
          have d_kv41 := rd_Ij eS42 (by decide) d_kv41
          obtain ⟨kv43, hkv43⟩ : ∃ z : Int32, z = (-1 : Int32) := ⟨_, rfl⟩
          have d_kv43 := rd_Is eS42 hkv43
          have ea3 := rf_I eS42 ea3
          have g0 := gr_I eS42 g0
          have o_a3 := ob_I eS42 o_a3
          have o_v0 := ob_I eS42 o_v0
          intro _
          exact hq _ _ hI g0 f0
        · refine ⟨o_v0, ?_⟩
          obtain ⟨a45, ea45, o_a45, l_a45⟩ := shl 59 rfl hI o_v0
          refine ⟨a45, ea45, ?_⟩
          intro x46 ex46
          have r_x46 : (0 : Int32) ≤ x46 ∧ x46 ≤ (3 : Int32) := by rw [ex46]; exact nu 28 rfl hI o_v0
          have q_x46 : x46 = x24 := ex46.trans d_x24.symm
          have d_x46 := ex46
          obtain ⟨a47, ea47, o_a47, l_a47⟩ := shl 57 rfl hI o_v0
          refine ⟨a47, ea47, ?_⟩
          refine ⟨o_a47, ?_⟩
          refine ⟨(vin l_a47 (m := 7) (by decide) (qm520 r_x12 r_kv13 wh_x12 c14 r_x24 c25 i1u26 c35 r_x46 q_x46)), ?_⟩
          intro x48 ex48
          have de_x48 := ml_de hI o_v0 (j := 21) (by decide) ea47 w32.toNatClampNeg
          rw [← ex48] at de_x48
          refine ⟨o_a45, ?_⟩
          have i49 : vp_in (((7 : Int32) * x46) + w32) (hN _ a45) := (vin l_a45 (m := 21) (by decide) (qm521 r_x12 r_kv13 wh_x12 c14 r_x24 c25 i1u26 c35 r_x46 q_x46))
          refine ⟨i49, ?_⟩
          intro S50 eS50
          have hIn : IV S50 := by rw [eS50]; exact iv11_aD hI (de_tr de_x48 (md_mul (a := x46) (k := w32) rfl (qm522 r_x12 r_kv13 wh_x12 c14 r_x24 c25 i1u26 c35 r_x46 q_x46) (qm523 r_x12 r_kv13 wh_x12 c14 r_x24 c25 i1u26 c35 r_x46 q_x46)))
          have hI := hIn
          have f0 := fr_J eS50 f0
          have fL29 := fr_J eS50 fL29
          have d_kv2 := rd_J eS50 d_kv2
          have d_x12 := rd_J eS50 d_x12
          have d_kv13 := rd_J eS50 d_kv13
          have d_x46 := rd_J eS50 d_x46
          have ea3 := rf_J eS50 ea3
          have ea45 := rf_J eS50 ea45
          have ea47 := rf_J eS50 ea47
          have l_a45 := ln_J eS50 l_a45
          have l_a47 := ln_J eS50 l_a47
          have g0 := gr_J eS50 g0
          have gL28 := gr_J eS50 gL28
          have o_a3 := ob_J eS50 o_a3
          have o_a45 := ob_J eS50 o_a45
          have o_a47 := ob_J eS50 o_a47
          have o_v0 := ob_J eS50 o_v0
          intro x51 ex51
          exact ih34 _ _ _ ⟨hI, gL28, fL29, rfl, (qm524 r_x12 r_kv13 wh_x12 c14 r_x24 c25 i1u26 c35 r_x46 q_x46 ex51)⟩ (mu_up (qm525 r_x12 r_kv13 wh_x12 c14 r_x24 c25 i1u26 c35 r_x46 q_x46 ex51) (qm526 r_x12 r_kv13 wh_x12 c14 r_x24 c25 i1u26 c35 r_x46 q_x46 ex51))
      · refine u_X11_refused ?_
        refine u_X11_refused_0 ?_
        refine ⟨o_v0, ?_⟩
        intro S52 eS52
        have hIn : IV S52 := by rw [eS52]; exact iv11_sI hI o_v0 (by decide) (nu_free (by decide))
        have hI := hIn
        have f0 := fr_I eS52 g0 f0 o_v0 (by decide)
        have d_kv2 := rd_Ij eS52 (by decide) d_kv2
        have d_x12 := rd_Ij eS52 (by decide) d_x12
        have d_kv13 := rd_Ik eS52 o_v0 o_a3 (by decide) d_kv13
        have d_x24 := rd_Ij eS52 (by decide) d_x24
        obtain ⟨kv53, hkv53⟩ : ∃ z : Int32, z = (3 : Int32) := ⟨_, rfl⟩
        have d_kv53 := rd_Is eS52 hkv53
        have ea3 := rf_I eS52 ea3
        have g0 := gr_I eS52 g0
        have o_a3 := ob_I eS52 o_a3
        have o_v0 := ob_I eS52 o_v0
        intro S54 eS54
        have hIn : IV S54 := by rw [eS54]; exact iv11_sI hI o_v0 (by decide) (nu_free (by decide))
        have hI := hIn
        have f0 := fr_I eS54 g0 f0 o_v0 (by decide)
        have d_kv2 := rd_Ij eS54 (by decide) d_kv2
        have d_x12 := rd_Ij eS54 (by decide) d_x12
        have d_kv13 := rd_Ik eS54 o_v0 o_a3 (by decide) d_kv13
        have d_x24 := rd_Ij eS54 (by decide) d_x24
        have d_kv53 := rd_Ij eS54 (by decide) d_kv53
        obtain ⟨kv55, hkv55⟩ : ∃ z : Int32, z = (-1 : Int32) := ⟨_, rfl⟩
        have d_kv55 := rd_Is eS54 hkv55
        have ea3 := rf_I eS54 ea3
        have g0 := gr_I eS54 g0
        have o_a3 := ob_I eS54 o_a3
        have o_v0 := ob_I eS54 o_v0
        intro _
        exact hq _ _ hI g0 f0
set_option maxHeartbeats 4000000 in
set_option maxRecDepth 20000 in
theorem m_X11_mean {v0 : Nat} {v1 : Int32} {v2 : Int32} {v3 : Int32} {v4 : Int32} {v5 : Int32} {v6 : Int32} {Q : Int64 → HS → Prop} {S : HS} (hI : IV S) (o_v0 : ob S v0 11)     (hq : ∀ (r : Int64) (T : HS), IV T → Gr S T → FRI [(11, 0), (11, 1), (11, 2)] [] S T → Q r T) : P_X11_mean v0 v1 v2 v3 v4 v5 v6 Q S := by
  have g0 := gr_rf S
  have f0 := fri_rf [(11, 0), (11, 1), (11, 2)] [] S
  refine u_X11_mean ?_
  refine u_X11_mean_0 ?_
  refine ⟨o_v0, ?_⟩
  intro S1 eS1
  have hIn : IV S1 := by rw [eS1]; exact iv11_sI hI o_v0 (by decide) (nu_free (by decide))
  have hI := hIn
  have f0 := fr_I eS1 g0 f0 o_v0 (by decide)
  obtain ⟨kv2, hkv2⟩ : ∃ z : Int32, z = (0 : Int32) := ⟨_, rfl⟩
  have d_kv2 := rd_Is eS1 hkv2
  have g0 := gr_I eS1 g0
  have o_v0 := ob_I eS1 o_v0
  refine u_X11_refuses ?_
  refine u_X11_refuses_0 ?_
  refine ⟨o_v0, ?_⟩
  refine u_X11_isWalker ?_
  refine u_X11_isWalker_0 ?_
  refine ⟨o_v0, ?_⟩
  refine ⟨fun e4 => ?_, fun a3 ea3 => ?_⟩
  · intro _ _
    refine ⟨fun c6 => ?_, fun c6 => absurd (show ¬ (0 : Int32) = 0 from c6) (by decide)⟩
    intro _
    refine ⟨fun c8 => absurd (show (1 : Int32) ≤ 0 from c8) (by decide), fun c8 => ?_⟩
    refine u_X11_refused ?_
    refine u_X11_refused_0 ?_
    refine ⟨o_v0, ?_⟩
    intro S9 eS9
    have hIn : IV S9 := by rw [eS9]; exact iv11_sI hI o_v0 (by decide) (nu_free (by decide))
    have hI := hIn
    have f0 := fr_I eS9 g0 f0 o_v0 (by decide)
    have d_kv2 := rd_Ij eS9 (by decide) d_kv2
    obtain ⟨kv10, hkv10⟩ : ∃ z : Int32, z = (1 : Int32) := ⟨_, rfl⟩
    have d_kv10 := rd_Is eS9 hkv10
    have g0 := gr_I eS9 g0
    have o_v0 := ob_I eS9 o_v0
    intro S11 eS11
    have hIn : IV S11 := by rw [eS11]; exact iv11_sI hI o_v0 (by decide) (nu_free (by decide))
    have hI := hIn
    have f0 := fr_I eS11 g0 f0 o_v0 (by decide)
    have d_kv2 := rd_Ij eS11 (by decide) d_kv2
    have d_kv10 := rd_Ij eS11 (by decide) d_kv10
    obtain ⟨kv12, hkv12⟩ : ∃ z : Int32, z = (-1 : Int32) := ⟨_, rfl⟩
    have d_kv12 := rd_Is eS11 hkv12
    have g0 := gr_I eS11 g0
    have o_v0 := ob_I eS11 o_v0
    intro _
    exact hq _ _ hI g0 f0
  · have o_a3 := ml_ob hI o_v0 ea3
    refine ⟨fun c14 => ?_, fun c14 => ?_⟩
    · intro _ _
      refine ⟨fun c16 => ?_, fun c16 => absurd (show ¬ (0 : Int32) = 0 from c16) (by decide)⟩
      intro _
      refine ⟨fun c18 => absurd (show (1 : Int32) ≤ 0 from c18) (by decide), fun c18 => ?_⟩
      refine u_X11_refused ?_
      refine u_X11_refused_0 ?_
      refine ⟨o_v0, ?_⟩
      intro S19 eS19
      have hIn : IV S19 := by rw [eS19]; exact iv11_sI hI o_v0 (by decide) (nu_free (by decide))
      have hI := hIn
      have f0 := fr_I eS19 g0 f0 o_v0 (by decide)
      have d_kv2 := rd_Ij eS19 (by decide) d_kv2
      obtain ⟨kv20, hkv20⟩ : ∃ z : Int32, z = (1 : Int32) := ⟨_, rfl⟩
      have d_kv20 := rd_Is eS19 hkv20
      have ea3 := rf_I eS19 ea3
      have g0 := gr_I eS19 g0
      have o_a3 := ob_I eS19 o_a3
      have o_v0 := ob_I eS19 o_v0
      intro S21 eS21
      have hIn : IV S21 := by rw [eS21]; exact iv11_sI hI o_v0 (by decide) (nu_free (by decide))
      have hI := hIn
      have f0 := fr_I eS21 g0 f0 o_v0 (by decide)
      have d_kv2 := rd_Ij eS21 (by decide) d_kv2
      have d_kv20 := rd_Ij eS21 (by decide) d_kv20
      obtain ⟨kv22, hkv22⟩ : ∃ z : Int32, z = (-1 : Int32) := ⟨_, rfl⟩
      have d_kv22 := rd_Is eS21 hkv22
      have ea3 := rf_I eS21 ea3
      have g0 := gr_I eS21 g0
      have o_a3 := ob_I eS21 o_a3
      have o_v0 := ob_I eS21 o_v0
      intro _
      exact hq _ _ hI g0 f0
    · refine ⟨a3, ea3, ?_⟩
      refine ⟨o_a3, ?_⟩
      intro x25 ex25
      have r_x25 : (0 : Int32) ≤ x25 ∧ x25 ≤ (4 : Int32) := by rw [ex25]; exact nu 20 rfl hI o_a3
      have d_x25 := ex25
      refine ⟨fun c26 => ?_, fun c26 => ?_⟩
      · intro _ _
        refine ⟨fun c28 => ?_, fun c28 => absurd (show ¬ (0 : Int32) = 0 from c28) (by decide)⟩
        intro _
        refine ⟨fun c30 => absurd (show (1 : Int32) ≤ 0 from c30) (by decide), fun c30 => ?_⟩
        refine u_X11_refused ?_
        refine u_X11_refused_0 ?_
        refine ⟨o_v0, ?_⟩
        intro S31 eS31
        have hIn : IV S31 := by rw [eS31]; exact iv11_sI hI o_v0 (by decide) (nu_free (by decide))
        have hI := hIn
        have f0 := fr_I eS31 g0 f0 o_v0 (by decide)
        have d_kv2 := rd_Ij eS31 (by decide) d_kv2
        have d_x25 := rd_Ik eS31 o_v0 o_a3 (by decide) d_x25
        obtain ⟨kv32, hkv32⟩ : ∃ z : Int32, z = (1 : Int32) := ⟨_, rfl⟩
        have d_kv32 := rd_Is eS31 hkv32
        have ea3 := rf_I eS31 ea3
        have g0 := gr_I eS31 g0
        have o_a3 := ob_I eS31 o_a3
        have o_v0 := ob_I eS31 o_v0
        intro S33 eS33
        have hIn : IV S33 := by rw [eS33]; exact iv11_sI hI o_v0 (by decide) (nu_free (by decide))
        have hI := hIn
        have f0 := fr_I eS33 g0 f0 o_v0 (by decide)
        have d_kv2 := rd_Ij eS33 (by decide) d_kv2
        have d_x25 := rd_Ik eS33 o_v0 o_a3 (by decide) d_x25
        have d_kv32 := rd_Ij eS33 (by decide) d_kv32
        obtain ⟨kv34, hkv34⟩ : ∃ z : Int32, z = (-1 : Int32) := ⟨_, rfl⟩
        have d_kv34 := rd_Is eS33 hkv34
        have ea3 := rf_I eS33 ea3
        have g0 := gr_I eS33 g0
        have o_a3 := ob_I eS33 o_a3
        have o_v0 := ob_I eS33 o_v0
        intro _
        exact hq _ _ hI g0 f0
      · intro _ _
        refine ⟨fun c37 => absurd (show (1 : Int32) = 0 from c37) (by decide), fun c37 => ?_⟩
        refine u_X11_isRoad ?_
        refine u_X11_isRoad_0 ?_
        refine ⟨o_v0, ?_⟩
        refine ⟨fun e39 => (nomatch (e39.symm.trans ea3)), fun a38 ea38 => ?_⟩
        obtain rfl : a3 = a38 := Option.some.inj (ea3.symm.trans ea38)
        refine ⟨fun c40 => ?_, fun c40 => ?_⟩
        · intro _ _
          refine ⟨fun c42 => ?_, fun c42 => absurd (show ¬ (0 : Int32) = 0 from c42) (by decide)⟩
          intro _
          refine ⟨fun c44 => absurd (show (1 : Int32) ≤ 0 from c44) (by decide), fun c44 => ?_⟩
          refine u_X11_refused ?_
          refine u_X11_refused_0 ?_
          refine ⟨o_v0, ?_⟩
          intro S45 eS45
          have hIn : IV S45 := by rw [eS45]; exact iv11_sI hI o_v0 (by decide) (nu_free (by decide))
          have hI := hIn
          have f0 := fr_I eS45 g0 f0 o_v0 (by decide)
          have d_kv2 := rd_Ij eS45 (by decide) d_kv2
          have d_x25 := rd_Ik eS45 o_v0 o_a3 (by decide) d_x25
          obtain ⟨kv46, hkv46⟩ : ∃ z : Int32, z = (1 : Int32) := ⟨_, rfl⟩
          have d_kv46 := rd_Is eS45 hkv46
          have ea3 := rf_I eS45 ea3
          have g0 := gr_I eS45 g0
          have o_a3 := ob_I eS45 o_a3
          have o_v0 := ob_I eS45 o_v0
          intro S47 eS47
          have hIn : IV S47 := by rw [eS47]; exact iv11_sI hI o_v0 (by decide) (nu_free (by decide))
          have hI := hIn
          have f0 := fr_I eS47 g0 f0 o_v0 (by decide)
          have d_kv2 := rd_Ij eS47 (by decide) d_kv2
          have d_x25 := rd_Ik eS47 o_v0 o_a3 (by decide) d_x25
          have d_kv46 := rd_Ij eS47 (by decide) d_kv46
          obtain ⟨kv48, hkv48⟩ : ∃ z : Int32, z = (-1 : Int32) := ⟨_, rfl⟩
          have d_kv48 := rd_Is eS47 hkv48
          have ea3 := rf_I eS47 ea3
          have g0 := gr_I eS47 g0
          have o_a3 := ob_I eS47 o_a3
          have o_v0 := ob_I eS47 o_v0
          intro _
          exact hq _ _ hI g0 f0
        · refine ⟨a3, ea3, ?_⟩
          refine ⟨o_a3, ?_⟩
          intro x51 ex51
          have r_x51 : (0 : Int32) ≤ x51 ∧ x51 ≤ (12 : Int32) := by rw [ex51]; exact nu 19 rfl hI o_a3
          have d_x51 := ex51
          refine ⟨fun c52 => ?_, fun c52 => ?_⟩
          · intro _ _
            refine ⟨fun c54 => ?_, fun c54 => absurd (show ¬ (0 : Int32) = 0 from c54) (by decide)⟩
            intro _
            refine ⟨fun c56 => absurd (show (1 : Int32) ≤ 0 from c56) (by decide), fun c56 => ?_⟩
            refine u_X11_refused ?_
            refine u_X11_refused_0 ?_
            refine ⟨o_v0, ?_⟩
            intro S57 eS57
            have hIn : IV S57 := by rw [eS57]; exact iv11_sI hI o_v0 (by decide) (nu_free (by decide))
            have hI := hIn
            have f0 := fr_I eS57 g0 f0 o_v0 (by decide)
            have d_kv2 := rd_Ij eS57 (by decide) d_kv2
            have d_x25 := rd_Ik eS57 o_v0 o_a3 (by decide) d_x25
            have d_x51 := rd_Ik eS57 o_v0 o_a3 (by decide) d_x51
            obtain ⟨kv58, hkv58⟩ : ∃ z : Int32, z = (1 : Int32) := ⟨_, rfl⟩
            have d_kv58 := rd_Is eS57 hkv58
            have ea3 := rf_I eS57 ea3
            have g0 := gr_I eS57 g0
            have o_a3 := ob_I eS57 o_a3
            have o_v0 := ob_I eS57 o_v0
            intro S59 eS59
            have hIn : IV S59 := by rw [eS59]; exact iv11_sI hI o_v0 (by decide) (nu_free (by decide))
            have hI := hIn
            have f0 := fr_I eS59 g0 f0 o_v0 (by decide)
            have d_kv2 := rd_Ij eS59 (by decide) d_kv2
            have d_x25 := rd_Ik eS59 o_v0 o_a3 (by decide) d_x25
            have d_x51 := rd_Ik eS59 o_v0 o_a3 (by decide) d_x51
            have d_kv58 := rd_Ij eS59 (by decide) d_kv58
            obtain ⟨kv60, hkv60⟩ : ∃ z : Int32, z = (-1 : Int32) := ⟨_, rfl⟩
            have d_kv60 := rd_Is eS59 hkv60
            have ea3 := rf_I eS59 ea3
            have g0 := gr_I eS59 g0
            have o_a3 := ob_I eS59 o_a3
            have o_v0 := ob_I eS59 o_v0
            intro _
            exact hq _ _ hI g0 f0
          · intro _ _
            refine ⟨fun c63 => absurd (show (1 : Int32) = 0 from c63) (by decide), fun c63 => ?_⟩
            refine u_X11_in ?_
            refine u_X11_in_0 ?_
            refine ⟨fun c64 => ?_, fun c64 => ?_⟩
            · intro _ _
              refine ⟨fun c66 => ?_, fun c66 => absurd (show ¬ (0 : Int32) = 0 from c66) (by decide)⟩
              intro _
              refine ⟨fun c68 => absurd (show (1 : Int32) ≤ 0 from c68) (by decide), fun c68 => ?_⟩
              refine u_X11_refused ?_
              refine u_X11_refused_0 ?_
              refine ⟨o_v0, ?_⟩
              intro S69 eS69
              have hIn : IV S69 := by rw [eS69]; exact iv11_sI hI o_v0 (by decide) (nu_free (by decide))
              have hI := hIn
              have f0 := fr_I eS69 g0 f0 o_v0 (by decide)
              have d_kv2 := rd_Ij eS69 (by decide) d_kv2
              have d_x25 := rd_Ik eS69 o_v0 o_a3 (by decide) d_x25
              have d_x51 := rd_Ik eS69 o_v0 o_a3 (by decide) d_x51
              obtain ⟨kv70, hkv70⟩ : ∃ z : Int32, z = (1 : Int32) := ⟨_, rfl⟩
              have d_kv70 := rd_Is eS69 hkv70
              have ea3 := rf_I eS69 ea3
              have g0 := gr_I eS69 g0
              have o_a3 := ob_I eS69 o_a3
              have o_v0 := ob_I eS69 o_v0
              intro S71 eS71
              have hIn : IV S71 := by rw [eS71]; exact iv11_sI hI o_v0 (by decide) (nu_free (by decide))
              have hI := hIn
              have f0 := fr_I eS71 g0 f0 o_v0 (by decide)
              have d_kv2 := rd_Ij eS71 (by decide) d_kv2
              have d_x25 := rd_Ik eS71 o_v0 o_a3 (by decide) d_x25
              have d_x51 := rd_Ik eS71 o_v0 o_a3 (by decide) d_x51
              have d_kv70 := rd_Ij eS71 (by decide) d_kv70
              obtain ⟨kv72, hkv72⟩ : ∃ z : Int32, z = (-1 : Int32) := ⟨_, rfl⟩
              have d_kv72 := rd_Is eS71 hkv72
              have ea3 := rf_I eS71 ea3
              have g0 := gr_I eS71 g0
              have o_a3 := ob_I eS71 o_a3
              have o_v0 := ob_I eS71 o_v0
              intro _
              exact hq _ _ hI g0 f0
            · refine ⟨fun c74 => ?_, fun c74 => ?_⟩
              · intro _ _
                refine ⟨fun c76 => ?_, fun c76 => absurd (show ¬ (0 : Int32) = 0 from c76) (by decide)⟩
                intro _
                refine ⟨fun c78 => absurd (show (1 : Int32) ≤ 0 from c78) (by decide), fun c78 => ?_⟩
                refine u_X11_refused ?_
                refine u_X11_refused_0 ?_
                refine ⟨o_v0, ?_⟩
                intro S79 eS79
                have hIn : IV S79 := by rw [eS79]; exact iv11_sI hI o_v0 (by decide) (nu_free (by decide))
                have hI := hIn
                have f0 := fr_I eS79 g0 f0 o_v0 (by decide)
                have d_kv2 := rd_Ij eS79 (by decide) d_kv2
                have d_x25 := rd_Ik eS79 o_v0 o_a3 (by decide) d_x25
                have d_x51 := rd_Ik eS79 o_v0 o_a3 (by decide) d_x51
                obtain ⟨kv80, hkv80⟩ : ∃ z : Int32, z = (1 : Int32) := ⟨_, rfl⟩
                have d_kv80 := rd_Is eS79 hkv80
                have ea3 := rf_I eS79 ea3
                have g0 := gr_I eS79 g0
                have o_a3 := ob_I eS79 o_a3
                have o_v0 := ob_I eS79 o_v0
                intro S81 eS81
                have hIn : IV S81 := by rw [eS81]; exact iv11_sI hI o_v0 (by decide) (nu_free (by decide))
                have hI := hIn
                have f0 := fr_I eS81 g0 f0 o_v0 (by decide)
                have d_kv2 := rd_Ij eS81 (by decide) d_kv2
                have d_x25 := rd_Ik eS81 o_v0 o_a3 (by decide) d_x25
                have d_x51 := rd_Ik eS81 o_v0 o_a3 (by decide) d_x51
                have d_kv80 := rd_Ij eS81 (by decide) d_kv80
                obtain ⟨kv82, hkv82⟩ : ∃ z : Int32, z = (-1 : Int32) := ⟨_, rfl⟩
                have d_kv82 := rd_Is eS81 hkv82
                have ea3 := rf_I eS81 ea3
                have g0 := gr_I eS81 g0
                have o_a3 := ob_I eS81 o_a3
                have o_v0 := ob_I eS81 o_v0
                intro _
                exact hq _ _ hI g0 f0
              · intro _ _
                refine ⟨fun c85 => absurd (show (1 : Int32) = 0 from c85) (by decide), fun c85 => ?_⟩
                refine u_X11_isHour ?_
                refine u_X11_isHour_0 ?_
                refine ⟨o_v0, ?_⟩
                refine ⟨fun e87 => (nomatch (e87.symm.trans ea3)), fun a86 ea86 => ?_⟩
                obtain rfl : a3 = a86 := Option.some.inj (ea3.symm.trans ea86)
                refine ⟨fun c88 => ?_, fun c88 => ?_⟩
                · intro _ _
                  refine ⟨fun c90 => absurd (show ¬ (0 : Int32) = 0 from c90) (by decide), fun c90 => ?_⟩
                  intro _
                  refine ⟨fun c92 => absurd (show (1 : Int32) ≤ 0 from c92) (by decide), fun c92 => ?_⟩
                  refine u_X11_refused ?_
                  refine u_X11_refused_0 ?_
                  refine ⟨o_v0, ?_⟩
                  intro S93 eS93
                  have hIn : IV S93 := by rw [eS93]; exact iv11_sI hI o_v0 (by decide) (nu_free (by decide))
                  have hI := hIn
                  have f0 := fr_I eS93 g0 f0 o_v0 (by decide)
                  have d_kv2 := rd_Ij eS93 (by decide) d_kv2
                  have d_x25 := rd_Ik eS93 o_v0 o_a3 (by decide) d_x25
                  have d_x51 := rd_Ik eS93 o_v0 o_a3 (by decide) d_x51
                  obtain ⟨kv94, hkv94⟩ : ∃ z : Int32, z = (1 : Int32) := ⟨_, rfl⟩
                  have d_kv94 := rd_Is eS93 hkv94
                  have ea3 := rf_I eS93 ea3
                  have g0 := gr_I eS93 g0
                  have o_a3 := ob_I eS93 o_a3
                  have o_v0 := ob_I eS93 o_v0
                  intro S95 eS95
                  have hIn : IV S95 := by rw [eS95]; exact iv11_sI hI o_v0 (by decide) (nu_free (by decide))
                  have hI := hIn
                  have f0 := fr_I eS95 g0 f0 o_v0 (by decide)
                  have d_kv2 := rd_Ij eS95 (by decide) d_kv2
                  have d_x25 := rd_Ik eS95 o_v0 o_a3 (by decide) d_x25
                  have d_x51 := rd_Ik eS95 o_v0 o_a3 (by decide) d_x51
                  have d_kv94 := rd_Ij eS95 (by decide) d_kv94
                  obtain ⟨kv96, hkv96⟩ : ∃ z : Int32, z = (-1 : Int32) := ⟨_, rfl⟩
                  have d_kv96 := rd_Is eS95 hkv96
                  have ea3 := rf_I eS95 ea3
                  have g0 := gr_I eS95 g0
                  have o_a3 := ob_I eS95 o_a3
                  have o_v0 := ob_I eS95 o_v0
                  intro _
                  exact hq _ _ hI g0 f0
                · refine ⟨a3, ea3, ?_⟩
                  refine ⟨o_a3, ?_⟩
                  intro x99 ex99
                  have r_x99 : (0 : Int32) ≤ x99 ∧ x99 ≤ (6 : Int32) := by rw [ex99]; exact nu 17 rfl hI o_a3
                  have d_x99 := ex99
                  refine ⟨fun c100 => ?_, fun c100 => ?_⟩
                  · intro _ _
                    refine ⟨fun c102 => absurd (show ¬ (0 : Int32) = 0 from c102) (by decide), fun c102 => ?_⟩
                    intro _
                    refine ⟨fun c104 => absurd (show (1 : Int32) ≤ 0 from c104) (by decide), fun c104 => ?_⟩
                    refine u_X11_refused ?_
                    refine u_X11_refused_0 ?_
                    refine ⟨o_v0, ?_⟩
                    intro S105 eS105
                    have hIn : IV S105 := by rw [eS105]; exact iv11_sI hI o_v0 (by decide) (nu_free (by decide))
                    have hI := hIn
                    have f0 := fr_I eS105 g0 f0 o_v0 (by decide)
                    have d_kv2 := rd_Ij eS105 (by decide) d_kv2
                    have d_x25 := rd_Ik eS105 o_v0 o_a3 (by decide) d_x25
                    have d_x51 := rd_Ik eS105 o_v0 o_a3 (by decide) d_x51
                    have d_x99 := rd_Ik eS105 o_v0 o_a3 (by decide) d_x99
                    obtain ⟨kv106, hkv106⟩ : ∃ z : Int32, z = (1 : Int32) := ⟨_, rfl⟩
                    have d_kv106 := rd_Is eS105 hkv106
                    have ea3 := rf_I eS105 ea3
                    have g0 := gr_I eS105 g0
                    have o_a3 := ob_I eS105 o_a3
                    have o_v0 := ob_I eS105 o_v0
                    intro S107 eS107
                    have hIn : IV S107 := by rw [eS107]; exact iv11_sI hI o_v0 (by decide) (nu_free (by decide))
                    have hI := hIn
                    have f0 := fr_I eS107 g0 f0 o_v0 (by decide)
                    have d_kv2 := rd_Ij eS107 (by decide) d_kv2
                    have d_x25 := rd_Ik eS107 o_v0 o_a3 (by decide) d_x25
                    have d_x51 := rd_Ik eS107 o_v0 o_a3 (by decide) d_x51
                    have d_x99 := rd_Ik eS107 o_v0 o_a3 (by decide) d_x99
                    have d_kv106 := rd_Ij eS107 (by decide) d_kv106
                    obtain ⟨kv108, hkv108⟩ : ∃ z : Int32, z = (-1 : Int32) := ⟨_, rfl⟩
                    have d_kv108 := rd_Is eS107 hkv108
                    have ea3 := rf_I eS107 ea3
                    have g0 := gr_I eS107 g0
                    have o_a3 := ob_I eS107 o_a3
                    have o_v0 := ob_I eS107 o_v0
                    intro _
                    exact hq _ _ hI g0 f0
                  · intro _ _
                    refine ⟨fun c111 => ?_, fun c111 => absurd (show (1 : Int32) = 0 from c111) (by decide)⟩
                    refine u_X11_isSpeed ?_
                    refine u_X11_isSpeed_0 ?_
                    refine ⟨o_v0, ?_⟩
                    refine ⟨a3, ea3, ?_⟩
                    refine ⟨o_a3, ?_⟩
                    obtain ⟨a113, ea113, o_a113, l_a113⟩ := shl 46 rfl hI o_a3
                    refine ⟨a113, ea113, ?_⟩
                    refine ⟨o_a113, ?_⟩
                    refine ⟨(vin l_a113 (m := 4) (by decide) (qm664 c14 r_x25 c26 c40 r_x51 c52 c64 c74 c88 r_x99 c100)), ?_⟩
                    intro x114 ex114
                    have gy_x114 : 0 ≤ v1 ∧ v1 < fI S1 a3 4 := by rw [← d_x25]; exact (qm665 c14 r_x25 c26 c40 r_x51 c52 c64 c74 c88 r_x99 c100)
                    have g_x114 : (1 : Int32) ≤ x114 ∧ x114 ≤ (9 : Int32) := by rw [ex114]; exact wg_at (ml_wg hI o_v0 ea3) 3 rfl gy_x114 ea113
                    refine ⟨a3, ea3, ?_⟩
                    refine ⟨o_a3, ?_⟩
                    obtain ⟨a116, ea116, o_a116, l_a116⟩ := shl 47 rfl hI o_a3
                    refine ⟨a116, ea116, ?_⟩
                    refine ⟨o_a116, ?_⟩
                    refine ⟨(vin l_a116 (m := 4) (by decide) (qm664 c14 r_x25 c26 c40 r_x51 c52 c64 c74 c88 r_x99 c100)), ?_⟩
                    intro x117 ex117
                    have gy_x117 : 0 ≤ v1 ∧ v1 < fI S1 a3 4 := by rw [← d_x25]; exact (qm665 c14 r_x25 c26 c40 r_x51 c52 c64 c74 c88 r_x99 c100)
                    have g_x117 : (0 : Int32) ≤ x117 ∧ x117 ≤ (9 : Int32) := by rw [ex117]; exact wg_at (ml_wg hI o_v0 ea3) 4 rfl gy_x117 ea116
                    refine u_X11_in ?_
                    refine u_X11_in_0 ?_
                    refine ⟨fun c118 => ?_, fun c118 => ?_⟩
                    · intro _ _
                      refine ⟨(Or.inl rfl), ?_⟩
                      intro _ _
                      refine ⟨fun c121 => ?_, fun c121 => absurd (show ¬ (0 : Int32) = 0 from c121) (by decide)⟩
                      intro _
                      refine ⟨fun c123 => absurd (show (2 : Int32) ≤ 0 from c123) (by decide), fun c123 => ?_⟩
                      refine u_X11_refused ?_
                      refine u_X11_refused_0 ?_
                      refine ⟨o_v0, ?_⟩
                      intro S124 eS124
                      have hIn : IV S124 := by rw [eS124]; exact iv11_sI hI o_v0 (by decide) (nu_free (by decide))
                      have hI := hIn
                      have f0 := fr_I eS124 g0 f0 o_v0 (by decide)
                      have d_kv2 := rd_Ij eS124 (by decide) d_kv2
                      have d_x25 := rd_Ik eS124 o_v0 o_a3 (by decide) d_x25
                      have d_x51 := rd_Ik eS124 o_v0 o_a3 (by decide) d_x51
                      have d_x99 := rd_Ik eS124 o_v0 o_a3 (by decide) d_x99
                      obtain ⟨kv125, hkv125⟩ : ∃ z : Int32, z = (2 : Int32) := ⟨_, rfl⟩
                      have d_kv125 := rd_Is eS124 hkv125
                      have ea3 := rf_I eS124 ea3
                      have ea113 := rf_I eS124 ea113
                      have ea116 := rf_I eS124 ea116
                      have l_a113 := ln_I eS124 l_a113
                      have l_a116 := ln_I eS124 l_a116
                      have g0 := gr_I eS124 g0
                      have o_a113 := ob_I eS124 o_a113
                      have o_a116 := ob_I eS124 o_a116
                      have o_a3 := ob_I eS124 o_a3
                      have o_v0 := ob_I eS124 o_v0
                      intro S126 eS126
                      have hIn : IV S126 := by rw [eS126]; exact iv11_sI hI o_v0 (by decide) (nu_free (by decide))
                      have hI := hIn
                      have f0 := fr_I eS126 g0 f0 o_v0 (by decide)
                      have d_kv2 := rd_Ij eS126 (by decide) d_kv2
                      have d_x25 := rd_Ik eS126 o_v0 o_a3 (by decide) d_x25
                      have d_x51 := rd_Ik eS126 o_v0 o_a3 (by decide) d_x51
                      have d_x99 := rd_Ik eS126 o_v0 o_a3 (by decide) d_x99
                      have d_kv125 := rd_Ij eS126 (by decide) d_kv125
                      obtain ⟨kv127, hkv127⟩ : ∃ z : Int32, z = (-1 : Int32) := ⟨_, rfl⟩
                      have d_kv127 := rd_Is eS126 hkv127
                      have ea3 := rf_I eS126 ea3
                      have ea113 := rf_I eS126 ea113
                      have ea116 := rf_I eS126 ea116
                      have l_a113 := ln_I eS126 l_a113
                      have l_a116 := ln_I eS126 l_a116
                      have g0 := gr_I eS126 g0
                      have o_a113 := ob_I eS126 o_a113
                      have o_a116 := ob_I eS126 o_a116
                      have o_a3 := ob_I eS126 o_a3
                      have o_v0 := ob_I eS126 o_v0
                      intro _
                      exact hq _ _ hI g0 f0
                    · refine ⟨fun c129 => ?_, fun c129 => ?_⟩
                      · intro _ _
                        refine ⟨(Or.inl rfl), ?_⟩
                        intro _ _
                        refine ⟨fun c132 => ?_, fun c132 => absurd (show ¬ (0 : Int32) = 0 from c132) (by decide)⟩
                        intro _
                        refine ⟨fun c134 => absurd (show (2 : Int32) ≤ 0 from c134) (by decide), fun c134 => ?_⟩
                        refine u_X11_refused ?_
                        refine u_X11_refused_0 ?_
                        refine ⟨o_v0, ?_⟩
                        intro S135 eS135
                        have hIn : IV S135 := by rw [eS135]; exact iv11_sI hI o_v0 (by decide) (nu_free (by decide))
                        have hI := hIn
                        have f0 := fr_I eS135 g0 f0 o_v0 (by decide)
                        have d_kv2 := rd_Ij eS135 (by decide) d_kv2
                        have d_x25 := rd_Ik eS135 o_v0 o_a3 (by decide) d_x25
                        have d_x51 := rd_Ik eS135 o_v0 o_a3 (by decide) d_x51
                        have d_x99 := rd_Ik eS135 o_v0 o_a3 (by decide) d_x99
                        obtain ⟨kv136, hkv136⟩ : ∃ z : Int32, z = (2 : Int32) := ⟨_, rfl⟩
                        have d_kv136 := rd_Is eS135 hkv136
                        have ea3 := rf_I eS135 ea3
                        have ea113 := rf_I eS135 ea113
                        have ea116 := rf_I eS135 ea116
                        have l_a113 := ln_I eS135 l_a113
                        have l_a116 := ln_I eS135 l_a116
                        have g0 := gr_I eS135 g0
                        have o_a113 := ob_I eS135 o_a113
                        have o_a116 := ob_I eS135 o_a116
                        have o_a3 := ob_I eS135 o_a3
                        have o_v0 := ob_I eS135 o_v0
                        intro S137 eS137
                        have hIn : IV S137 := by rw [eS137]; exact iv11_sI hI o_v0 (by decide) (nu_free (by decide))
                        have hI := hIn
                        have f0 := fr_I eS137 g0 f0 o_v0 (by decide)
                        have d_kv2 := rd_Ij eS137 (by decide) d_kv2
                        have d_x25 := rd_Ik eS137 o_v0 o_a3 (by decide) d_x25
                        have d_x51 := rd_Ik eS137 o_v0 o_a3 (by decide) d_x51
                        have d_x99 := rd_Ik eS137 o_v0 o_a3 (by decide) d_x99
                        have d_kv136 := rd_Ij eS137 (by decide) d_kv136
                        obtain ⟨kv138, hkv138⟩ : ∃ z : Int32, z = (-1 : Int32) := ⟨_, rfl⟩
                        have d_kv138 := rd_Is eS137 hkv138
                        have ea3 := rf_I eS137 ea3
                        have ea113 := rf_I eS137 ea113
                        have ea116 := rf_I eS137 ea116
                        have l_a113 := ln_I eS137 l_a113
                        have l_a116 := ln_I eS137 l_a116
                        have g0 := gr_I eS137 g0
                        have o_a113 := ob_I eS137 o_a113
                        have o_a116 := ob_I eS137 o_a116
                        have o_a3 := ob_I eS137 o_a3
                        have o_v0 := ob_I eS137 o_v0
                        intro _
                        exact hq _ _ hI g0 f0
                      · intro _ _
                        refine ⟨(Or.inr rfl), ?_⟩
                        intro _ _
                        refine ⟨fun c142 => absurd (show (1 : Int32) = 0 from c142) (by decide), fun c142 => ?_⟩
                        intro _
                        refine ⟨fun c144 => ?_, fun c144 => absurd (show ¬ (0 : Int32) ≤ 0 from c144) (by decide)⟩
                        refine m_X11_wetOf hI o_v0 (qm715 c14 r_x25 c26 c40 r_x51 c52 c64 c74 c88 r_x99 c100 g_x114 g_x117 c118 c129) (qm716 c14 r_x25 c26 c40 r_x51 c52 c64 c74 c88 r_x99 c100 g_x114 g_x117 c118 c129) (qm717 c14 r_x25 c26 c40 r_x51 c52 c64 c74 c88 r_x99 c100 g_x114 g_x117 c118 c129) (qm718 c14 r_x25 c26 c40 r_x51 c52 c64 c74 c88 r_x99 c100 g_x114 g_x117 c118 c129) ⟨_, ea3⟩ (fun x145 S146 hI2 g147 p_x145 => ?_)
                        subst p_x145
                        intro _
                        refine ⟨a3, ea3, ?_⟩
                        refine ⟨o_a3, ?_⟩
                        obtain ⟨a150, ea150, o_a150, l_a150⟩ := shl 33 rfl hI o_a3
                        refine ⟨a150, ea150, ?_⟩
                        refine ⟨o_a150, ?_⟩
                        refine ⟨(vin l_a150 (m := 6) (by decide) (qm719 c14 r_x25 c26 c40 r_x51 c52 c64 c74 c88 r_x99 c100 g_x114 g_x117 c118 c129)), ?_⟩
                        intro x151 ex151
                        refine m_X11_told hI o_v0 (qm720 c14 r_x25 c26 c40 r_x51 c52 c64 c74 c88 r_x99 c100 g_x114 g_x117 c118 c129) (fun x152 S153 hJ g154 fc155 => ?_)
                        have hI := hJ
                        have l_a113 := (gr_len g154 o_a113).trans l_a113
                        have l_a116 := (gr_len g154 o_a116).trans l_a116
                        have l_a150 := (gr_len g154 o_a150).trans l_a150
                        have d_kv2 := d_kv2.trans (fri_at fc155 (by decide) (by decide) o_v0).symm
                        have d_x25 := d_x25.trans (fri_at fc155 (by decide) (by decide) o_a3).symm
                        have d_x51 := d_x51.trans (fri_at fc155 (by decide) (by decide) o_a3).symm
                        have d_x99 := d_x99.trans (fri_at fc155 (by decide) (by decide) o_a3).symm
                        have ea3 := (frr_at fc155 (by decide) (by decide) o_v0).trans ea3
                        have ea113 := (frr_at fc155 (by decide) (by decide) o_a3).trans ea113
                        have ea116 := (frr_at fc155 (by decide) (by decide) o_a3).trans ea116
                        have ea150 := (frr_at fc155 (by decide) (by decide) o_a3).trans ea150
                        have f0 := fri_tr (S := S1) g0 f0 fc155 (by decide) (by decide)
                        have o_a113 := gr_ob g154 o_a113
                        have o_a116 := gr_ob g154 o_a116
                        have o_a150 := gr_ob g154 o_a150
                        have o_a3 := gr_ob g154 o_a3
                        have o_v0 := gr_ob g154 o_v0
                        have g0 := gr_tr (T := S1) g0 g154
                        intro _
                        exact hq _ _ hI g0 f0
end
