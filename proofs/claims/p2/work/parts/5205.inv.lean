set_option maxHeartbeats 4000000 in
set_option maxRecDepth 20000 in
theorem m_X8_hourOf {v0 : Nat} {v1 : Int32} {Q : Int32 → HS → Prop} {S : HS} (hI : IV S) (o_v0 : ob S v0 8)     (hq : ∀ (r : Int32) (T : HS), IV T → Gr S T → (S = T) → Q r T) : P_X8_hourOf v0 v1 Q S := by
  have g0 := gr_rf S
  refine u_X8_hourOf ?_
  refine u_X8_hourOf_0 ?_
  refine ⟨o_v0, ?_⟩
  intro x1 ex1
  have r_x1 : (0 : Int32) ≤ x1 ∧ x1 ≤ (60 : Int32) := by rw [ex1]; exact nu 10 rfl hI o_v0
  refine ⟨fun c2 => ?_, fun c2 => ?_⟩
  · exact hq _ _ hI g0 rfl
  · intro x3 ex3
    have r_x3 : (0 : Int32) ≤ x3 ∧ x3 ≤ (60 : Int32) := by rw [ex3]; exact nu 10 rfl hI o_v0
    refine ⟨(q162 r_x3), ?_⟩
    intro x4 ex4
    exact hq _ _ hI g0 rfl
set_option maxHeartbeats 4000000 in
set_option maxRecDepth 20000 in
theorem m_X7_reckon {v0 : Nat} {v1 : Nat} {v2 : Nat} {v3 : Int32} {v4 : Int32} {v5 : Int32} {v6 : Int32} {Q : HS → Prop} {S : HS} (hI : IV S) (o_v0 : ob S v0 7) (o_v1 : ob S v1 8) (o_v2 : ob S v2 1)     (hq : ∀ (T : HS), IV T → Gr S T → Q T) : P_X7_reckon v0 v1 v2 v3 v4 v5 v6 Q S := by
  have g0 := gr_rf S
  refine u_X7_reckon ?_
  refine u_X7_reckon_0 ?_
  refine ⟨o_v0, ?_⟩
  obtain ⟨a1, ea1, o_a1, -⟩ := sh 22 rfl hI o_v0
  refine ⟨a1, ea1, ?_⟩
  refine ⟨o_a1, ?_⟩
  refine ⟨fun c2 => ?_, fun c2 => ?_⟩
  · refine u_X7_reckon_12 ?_
    refine ⟨o_v0, ?_⟩
    intro x3 ex3
    refine ⟨fun c4 => ?_, fun c4 => ?_⟩
    · refine u_X7_reckon_38 ?_
      refine ⟨o_v0, ?_⟩
      have hI := iv_sI (j := 10) (v := v3) hI o_v0 (by decide) (nu_free (by decide))
      have hI := iv_sI (j := 11) (v := v4) hI o_v0 (by decide) (nu_free (by decide))
      have hI := iv_sI (j := 12) (v := v5) hI o_v0 (by decide) (nu_free (by decide))
      intro x5 ex5
      have hI := iv_sI (j := 13) (v := x5) hI o_v0 (by decide) (nu_free (by decide))
      have hI := iv_sI (j := 9) (v := (-1 : Int32)) hI o_v0 (by decide) (nu_free (by decide))
      refine u_X7_reckon_68 ?_
      refine ⟨o_v0, ?_⟩
      intro x6 ex6
      intro x7 ex7
      refine i_X7_reckon_76 (fun (y0 : Nat) (y1 : Nat) (y2 : Nat) (y6 : Int32) (y7 : Int32) (Z : HS) => (y7.toInt - (-2147483648 : Int32).toInt).toNat) (fun (y0 : Nat) (y1 : Nat) (y2 : Nat) (y6 : Int32) (y7 : Int32) (Z : HS) => (IV Z) ∧ (Gr (sI (sI (sI (sI (sI S v0 10 v3) v0 11 v4) v0 12 v5) v0 13 x5) v0 9 (-1 : Int32)) Z) ∧ (v0 = y0) ∧ (v1 = y1) ∧ (v2 = y2) ∧ (v6 = y6)) ?_ _ _ _ _ _ _ ⟨hI, (gr_rf _), rfl, rfl, rfl, rfl⟩
      intro w10 w12 w14 w16 w18 S8 X19 ⟨hI, gL9, q11, q13, q15, q17⟩ ih20
      subst q11
      subst q13
      subst q15
      subst q17
      have o_a1 := gr_ob gL9 o_a1
      have o_v0 := gr_ob gL9 o_v0
      have o_v1 := gr_ob gL9 o_v1
      have o_v2 := gr_ob gL9 o_v2
      have g0 := gr_tr g0 gL9
      refine u_X7_reckon_76 ?_
      refine ⟨fun c21 => ?_, fun c21 => ?_⟩
      · exact hq _ hI g0
      · refine ⟨fun c22 => ?_, fun c22 => ?_⟩
        · exact hq _ hI g0
        · refine ⟨o_v1, ?_⟩
          refine m_X8_hourOf hI o_v1 (fun x23 S24 hI2 g25 p_x23 => ?_)
          subst p_x23
          intro _
          intro x26 ex26
          have r_x26 : (0 : Int32) ≤ x26 ∧ x26 ≤ (6 : Int32) := by rw [ex26]; exact nu 11 rfl hI o_v1
          intro x27 ex27
          refine ⟨o_v0, ?_⟩
          intro x28 ex28
          refine ⟨fun c29 => ?_, fun c29 => ?_⟩
          · refine u_X7_reckon_120 ?_
            refine ⟨o_v1, ?_⟩
            intro x30 ex30
            have r_x30 : (0 : Int32) ≤ x30 ∧ x30 ≤ (8 : Int32) := by rw [ex30]; exact nu 12 rfl hI o_v1
            refine ⟨o_v0, ?_⟩
            refine m_X7_reckonMinute hI o_v0 (fun S32 hI g33 => ?_)
            have o_a1 := gr_ob g33 o_a1
            have o_v0 := gr_ob g33 o_v0
            have o_v1 := gr_ob g33 o_v1
            have o_v2 := gr_ob g33 o_v2
            have g0 := gr_tr g0 g33
            have gL9 := gr_tr gL9 g33
            intro _
            have hI := iv_sI (j := 13) (v := w18) hI o_v0 (by decide) (nu_free (by decide))
            intro x34 ex34
            exact ih20 _ _ _ _ _ _ ⟨hI, gL9, rfl, rfl, rfl, rfl⟩ (mu_down (q160 c21 c22 ex34) (q161 c21 c22 ex34))
          · refine m_X7_price hI o_v0 o_v1 o_v2 (fun S36 hI g37 => ?_)
            have o_a1 := gr_ob g37 o_a1
            have o_v0 := gr_ob g37 o_v0
            have o_v1 := gr_ob g37 o_v1
            have o_v2 := gr_ob g37 o_v2
            have g0 := gr_tr g0 g37
            have gL9 := gr_tr gL9 g37
            intro _
            refine u_X7_reckon_120 ?_
            refine ⟨o_v1, ?_⟩
            intro x38 ex38
            have r_x38 : (0 : Int32) ≤ x38 ∧ x38 ≤ (8 : Int32) := by rw [ex38]; exact nu 12 rfl hI o_v1
            refine ⟨o_v0, ?_⟩
            refine m_X7_reckonMinute hI o_v0 (fun S40 hI g41 => ?_)
            have o_a1 := gr_ob g41 o_a1
            have o_v0 := gr_ob g41 o_v0
            have o_v1 := gr_ob g41 o_v1
            have o_v2 := gr_ob g41 o_v2
            have g0 := gr_tr g0 g41
            have gL9 := gr_tr gL9 g41
            intro _
            have hI := iv_sI (j := 13) (v := w18) hI o_v0 (by decide) (nu_free (by decide))
            intro x42 ex42
            exact ih20 _ _ _ _ _ _ ⟨hI, gL9, rfl, rfl, rfl, rfl⟩ (mu_down (q160 c21 c22 ex42) (q161 c21 c22 ex42))
    · intro x43 ex43
      refine ⟨fun c44 => ?_, fun c44 => ?_⟩
      · refine u_X7_reckon_38 ?_
        refine ⟨o_v0, ?_⟩
        have hI := iv_sI (j := 10) (v := v3) hI o_v0 (by decide) (nu_free (by decide))
        have hI := iv_sI (j := 11) (v := v4) hI o_v0 (by decide) (nu_free (by decide))
        have hI := iv_sI (j := 12) (v := v5) hI o_v0 (by decide) (nu_free (by decide))
        intro x45 ex45
        have hI := iv_sI (j := 13) (v := x45) hI o_v0 (by decide) (nu_free (by decide))
        have hI := iv_sI (j := 9) (v := (-1 : Int32)) hI o_v0 (by decide) (nu_free (by decide))
        refine u_X7_reckon_68 ?_
        refine ⟨o_v0, ?_⟩
        intro x46 ex46
        intro x47 ex47
        refine i_X7_reckon_76 (fun (y0 : Nat) (y1 : Nat) (y2 : Nat) (y6 : Int32) (y7 : Int32) (Z : HS) => (y7.toInt - (-2147483648 : Int32).toInt).toNat) (fun (y0 : Nat) (y1 : Nat) (y2 : Nat) (y6 : Int32) (y7 : Int32) (Z : HS) => (IV Z) ∧ (Gr (sI (sI (sI (sI (sI S v0 10 v3) v0 11 v4) v0 12 v5) v0 13 x45) v0 9 (-1 : Int32)) Z) ∧ (v0 = y0) ∧ (v1 = y1) ∧ (v2 = y2) ∧ (v6 = y6)) ?_ _ _ _ _ _ _ ⟨hI, (gr_rf _), rfl, rfl, rfl, rfl⟩
        intro w50 w52 w54 w56 w58 S48 X59 ⟨hI, gL49, q51, q53, q55, q57⟩ ih60
        subst q51
        subst q53
        subst q55
        subst q57
        have o_a1 := gr_ob gL49 o_a1
        have o_v0 := gr_ob gL49 o_v0
        have o_v1 := gr_ob gL49 o_v1
        have o_v2 := gr_ob gL49 o_v2
        have g0 := gr_tr g0 gL49
        refine u_X7_reckon_76 ?_
        refine ⟨fun c61 => ?_, fun c61 => ?_⟩
        · exact hq _ hI g0
        · refine ⟨fun c62 => ?_, fun c62 => ?_⟩
          · exact hq _ hI g0
          · refine ⟨o_v1, ?_⟩
            refine m_X8_hourOf hI o_v1 (fun x63 S64 hI2 g65 p_x63 => ?_)
            subst p_x63
            intro _
            intro x66 ex66
            have r_x66 : (0 : Int32) ≤ x66 ∧ x66 ≤ (6 : Int32) := by rw [ex66]; exact nu 11 rfl hI o_v1
            intro x67 ex67
            refine ⟨o_v0, ?_⟩
            intro x68 ex68
            refine ⟨fun c69 => ?_, fun c69 => ?_⟩
            · refine u_X7_reckon_120 ?_
              refine ⟨o_v1, ?_⟩
              intro x70 ex70
              have r_x70 : (0 : Int32) ≤ x70 ∧ x70 ≤ (8 : Int32) := by rw [ex70]; exact nu 12 rfl hI o_v1
              refine ⟨o_v0, ?_⟩
              refine m_X7_reckonMinute hI o_v0 (fun S72 hI g73 => ?_)
              have o_a1 := gr_ob g73 o_a1
              have o_v0 := gr_ob g73 o_v0
              have o_v1 := gr_ob g73 o_v1
              have o_v2 := gr_ob g73 o_v2
              have g0 := gr_tr g0 g73
              have gL49 := gr_tr gL49 g73
              intro _
              have hI := iv_sI (j := 13) (v := w58) hI o_v0 (by decide) (nu_free (by decide))
              intro x74 ex74
              exact ih60 _ _ _ _ _ _ ⟨hI, gL49, rfl, rfl, rfl, rfl⟩ (mu_down (q160 c61 c62 ex74) (q161 c61 c62 ex74))
            · refine m_X7_price hI o_v0 o_v1 o_v2 (fun S76 hI g77 => ?_)
              have o_a1 := gr_ob g77 o_a1
              have o_v0 := gr_ob g77 o_v0
              have o_v1 := gr_ob g77 o_v1
              have o_v2 := gr_ob g77 o_v2
              have g0 := gr_tr g0 g77
              have gL49 := gr_tr gL49 g77
              intro _
              refine u_X7_reckon_120 ?_
              refine ⟨o_v1, ?_⟩
              intro x78 ex78
              have r_x78 : (0 : Int32) ≤ x78 ∧ x78 ≤ (8 : Int32) := by rw [ex78]; exact nu 12 rfl hI o_v1
              refine ⟨o_v0, ?_⟩
              refine m_X7_reckonMinute hI o_v0 (fun S80 hI g81 => ?_)
              have o_a1 := gr_ob g81 o_a1
              have o_v0 := gr_ob g81 o_v0
              have o_v1 := gr_ob g81 o_v1
              have o_v2 := gr_ob g81 o_v2
              have g0 := gr_tr g0 g81
              have gL49 := gr_tr gL49 g81
              intro _
              have hI := iv_sI (j := 13) (v := w58) hI o_v0 (by decide) (nu_free (by decide))
              intro x82 ex82
              exact ih60 _ _ _ _ _ _ ⟨hI, gL49, rfl, rfl, rfl, rfl⟩ (mu_down (q160 c61 c62 ex82) (q161 c61 c62 ex82))
      · intro x83 ex83
        refine ⟨fun c84 => ?_, fun c84 => ?_⟩
        · refine u_X7_reckon_68 ?_
          refine ⟨o_v0, ?_⟩
          intro x85 ex85
          intro x86 ex86
          refine i_X7_reckon_76 (fun (y0 : Nat) (y1 : Nat) (y2 : Nat) (y6 : Int32) (y7 : Int32) (Z : HS) => (y7.toInt - (-2147483648 : Int32).toInt).toNat) (fun (y0 : Nat) (y1 : Nat) (y2 : Nat) (y6 : Int32) (y7 : Int32) (Z : HS) => (IV Z) ∧ (Gr S Z) ∧ (v0 = y0) ∧ (v1 = y1) ∧ (v2 = y2) ∧ (v6 = y6)) ?_ _ _ _ _ _ _ ⟨hI, (gr_rf _), rfl, rfl, rfl, rfl⟩
          intro w89 w91 w93 w95 w97 S87 X98 ⟨hI, gL88, q90, q92, q94, q96⟩ ih99
          subst q90
          subst q92
          subst q94
          subst q96
          have o_a1 := gr_ob gL88 o_a1
          have o_v0 := gr_ob gL88 o_v0
          have o_v1 := gr_ob gL88 o_v1
          have o_v2 := gr_ob gL88 o_v2
          have g0 := gr_tr g0 gL88
          refine u_X7_reckon_76 ?_
          refine ⟨fun c100 => ?_, fun c100 => ?_⟩
          · exact hq _ hI g0
          · refine ⟨fun c101 => ?_, fun c101 => ?_⟩
            · exact hq _ hI g0
            · refine ⟨o_v1, ?_⟩
              refine m_X8_hourOf hI o_v1 (fun x102 S103 hI2 g104 p_x102 => ?_)
              subst p_x102
              intro _
              intro x105 ex105
              have r_x105 : (0 : Int32) ≤ x105 ∧ x105 ≤ (6 : Int32) := by rw [ex105]; exact nu 11 rfl hI o_v1
              intro x106 ex106
              refine ⟨o_v0, ?_⟩
              intro x107 ex107
              refine ⟨fun c108 => ?_, fun c108 => ?_⟩
              · refine u_X7_reckon_120 ?_
                refine ⟨o_v1, ?_⟩
                intro x109 ex109
                have r_x109 : (0 : Int32) ≤ x109 ∧ x109 ≤ (8 : Int32) := by rw [ex109]; exact nu 12 rfl hI o_v1
                refine ⟨o_v0, ?_⟩
                refine m_X7_reckonMinute hI o_v0 (fun S111 hI g112 => ?_)
                have o_a1 := gr_ob g112 o_a1
                have o_v0 := gr_ob g112 o_v0
                have o_v1 := gr_ob g112 o_v1
                have o_v2 := gr_ob g112 o_v2
                have g0 := gr_tr g0 g112
                have gL88 := gr_tr gL88 g112
                intro _
                have hI := iv_sI (j := 13) (v := w97) hI o_v0 (by decide) (nu_free (by decide))
                intro x113 ex113
                exact ih99 _ _ _ _ _ _ ⟨hI, gL88, rfl, rfl, rfl, rfl⟩ (mu_down (q160 c100 c101 ex113) (q161 c100 c101 ex113))
              · refine m_X7_price hI o_v0 o_v1 o_v2 (fun S115 hI g116 => ?_)
                have o_a1 := gr_ob g116 o_a1
                have o_v0 := gr_ob g116 o_v0
                have o_v1 := gr_ob g116 o_v1
                have o_v2 := gr_ob g116 o_v2
                have g0 := gr_tr g0 g116
                have gL88 := gr_tr gL88 g116
                intro _
                refine u_X7_reckon_120 ?_
                refine ⟨o_v1, ?_⟩
                intro x117 ex117
                have r_x117 : (0 : Int32) ≤ x117 ∧ x117 ≤ (8 : Int32) := by rw [ex117]; exact nu 12 rfl hI o_v1
                refine ⟨o_v0, ?_⟩
                refine m_X7_reckonMinute hI o_v0 (fun S119 hI g120 => ?_)
                have o_a1 := gr_ob g120 o_a1
                have o_v0 := gr_ob g120 o_v0
                have o_v1 := gr_ob g120 o_v1
                have o_v2 := gr_ob g120 o_v2
                have g0 := gr_tr g0 g120
                have gL88 := gr_tr gL88 g120
                intro _
                have hI := iv_sI (j := 13) (v := w97) hI o_v0 (by decide) (nu_free (by decide))
                intro x121 ex121
                exact ih99 _ _ _ _ _ _ ⟨hI, gL88, rfl, rfl, rfl, rfl⟩ (mu_down (q160 c100 c101 ex121) (q161 c100 c101 ex121))
        · refine u_X7_reckon_38 ?_
          refine ⟨o_v0, ?_⟩
          have hI := iv_sI (j := 10) (v := v3) hI o_v0 (by decide) (nu_free (by decide))
          have hI := iv_sI (j := 11) (v := v4) hI o_v0 (by decide) (nu_free (by decide))
          have hI := iv_sI (j := 12) (v := v5) hI o_v0 (by decide) (nu_free (by decide))
          intro x122 ex122
          have hI := iv_sI (j := 13) (v := x122) hI o_v0 (by decide) (nu_free (by decide))
          have hI := iv_sI (j := 9) (v := (-1 : Int32)) hI o_v0 (by decide) (nu_free (by decide))
          refine u_X7_reckon_68 ?_
          refine ⟨o_v0, ?_⟩
          intro x123 ex123
          intro x124 ex124
          refine i_X7_reckon_76 (fun (y0 : Nat) (y1 : Nat) (y2 : Nat) (y6 : Int32) (y7 : Int32) (Z : HS) => (y7.toInt - (-2147483648 : Int32).toInt).toNat) (fun (y0 : Nat) (y1 : Nat) (y2 : Nat) (y6 : Int32) (y7 : Int32) (Z : HS) => (IV Z) ∧ (Gr (sI (sI (sI (sI (sI S v0 10 v3) v0 11 v4) v0 12 v5) v0 13 x122) v0 9 (-1 : Int32)) Z) ∧ (v0 = y0) ∧ (v1 = y1) ∧ (v2 = y2) ∧ (v6 = y6)) ?_ _ _ _ _ _ _ ⟨hI, (gr_rf _), rfl, rfl, rfl, rfl⟩
          intro w127 w129 w131 w133 w135 S125 X136 ⟨hI, gL126, q128, q130, q132, q134⟩ ih137
          subst q128
          subst q130
          subst q132
          subst q134
          have o_a1 := gr_ob gL126 o_a1
          have o_v0 := gr_ob gL126 o_v0
          have o_v1 := gr_ob gL126 o_v1
          have o_v2 := gr_ob gL126 o_v2
          have g0 := gr_tr g0 gL126
          refine u_X7_reckon_76 ?_
          refine ⟨fun c138 => ?_, fun c138 => ?_⟩
          · exact hq _ hI g0
          · refine ⟨fun c139 => ?_, fun c139 => ?_⟩
            · exact hq _ hI g0
            · refine ⟨o_v1, ?_⟩
              refine m_X8_hourOf hI o_v1 (fun x140 S141 hI2 g142 p_x140 => ?_)
              subst p_x140
              intro _
              intro x143 ex143
              have r_x143 : (0 : Int32) ≤ x143 ∧ x143 ≤ (6 : Int32) := by rw [ex143]; exact nu 11 rfl hI o_v1
              intro x144 ex144
              refine ⟨o_v0, ?_⟩
              intro x145 ex145
              refine ⟨fun c146 => ?_, fun c146 => ?_⟩
              · refine u_X7_reckon_120 ?_
                refine ⟨o_v1, ?_⟩
                intro x147 ex147
                have r_x147 : (0 : Int32) ≤ x147 ∧ x147 ≤ (8 : Int32) := by rw [ex147]; exact nu 12 rfl hI o_v1
                refine ⟨o_v0, ?_⟩
                refine m_X7_reckonMinute hI o_v0 (fun S149 hI g150 => ?_)
                have o_a1 := gr_ob g150 o_a1
                have o_v0 := gr_ob g150 o_v0
                have o_v1 := gr_ob g150 o_v1
                have o_v2 := gr_ob g150 o_v2
                have g0 := gr_tr g0 g150
                have gL126 := gr_tr gL126 g150
                intro _
                have hI := iv_sI (j := 13) (v := w135) hI o_v0 (by decide) (nu_free (by decide))
                intro x151 ex151
                exact ih137 _ _ _ _ _ _ ⟨hI, gL126, rfl, rfl, rfl, rfl⟩ (mu_down (q160 c138 c139 ex151) (q161 c138 c139 ex151))
              · refine m_X7_price hI o_v0 o_v1 o_v2 (fun S153 hI g154 => ?_)
                have o_a1 := gr_ob g154 o_a1
                have o_v0 := gr_ob g154 o_v0
                have o_v1 := gr_ob g154 o_v1
                have o_v2 := gr_ob g154 o_v2
                have g0 := gr_tr g0 g154
                have gL126 := gr_tr gL126 g154
                intro _
                refine u_X7_reckon_120 ?_
                refine ⟨o_v1, ?_⟩
                intro x155 ex155
                have r_x155 : (0 : Int32) ≤ x155 ∧ x155 ≤ (8 : Int32) := by rw [ex155]; exact nu 12 rfl hI o_v1
                refine ⟨o_v0, ?_⟩
                refine m_X7_reckonMinute hI o_v0 (fun S157 hI g158 => ?_)
                have o_a1 := gr_ob g158 o_a1
                have o_v0 := gr_ob g158 o_v0
                have o_v1 := gr_ob g158 o_v1
                have o_v2 := gr_ob g158 o_v2
                have g0 := gr_tr g0 g158
                have gL126 := gr_tr gL126 g158
                intro _
                have hI := iv_sI (j := 13) (v := w135) hI o_v0 (by decide) (nu_free (by decide))
                intro x159 ex159
                exact ih137 _ _ _ _ _ _ ⟨hI, gL126, rfl, rfl, rfl, rfl⟩ (mu_down (q160 c138 c139 ex159) (q161 c138 c139 ex159))
  · refine m_X7_makeRows hI o_v0 (fun S161 hI g162 => ?_)
    have o_a1 := gr_ob g162 o_a1
    have o_v0 := gr_ob g162 o_v0
    have o_v1 := gr_ob g162 o_v1
    have o_v2 := gr_ob g162 o_v2
    have g0 := gr_tr g0 g162
    intro _
    refine u_X7_reckon_12 ?_
    refine ⟨o_v0, ?_⟩
    intro x163 ex163
    refine ⟨fun c164 => ?_, fun c164 => ?_⟩
    · refine u_X7_reckon_38 ?_
      refine ⟨o_v0, ?_⟩
      have hI := iv_sI (j := 10) (v := v3) hI o_v0 (by decide) (nu_free (by decide))
      have hI := iv_sI (j := 11) (v := v4) hI o_v0 (by decide) (nu_free (by decide))
      have hI := iv_sI (j := 12) (v := v5) hI o_v0 (by decide) (nu_free (by decide))
      intro x165 ex165
      have hI := iv_sI (j := 13) (v := x165) hI o_v0 (by decide) (nu_free (by decide))
      have hI := iv_sI (j := 9) (v := (-1 : Int32)) hI o_v0 (by decide) (nu_free (by decide))
      refine u_X7_reckon_68 ?_
      refine ⟨o_v0, ?_⟩
      intro x166 ex166
      intro x167 ex167
      refine i_X7_reckon_76 (fun (y0 : Nat) (y1 : Nat) (y2 : Nat) (y6 : Int32) (y7 : Int32) (Z : HS) => (y7.toInt - (-2147483648 : Int32).toInt).toNat) (fun (y0 : Nat) (y1 : Nat) (y2 : Nat) (y6 : Int32) (y7 : Int32) (Z : HS) => (IV Z) ∧ (Gr (sI (sI (sI (sI (sI S161 v0 10 v3) v0 11 v4) v0 12 v5) v0 13 x165) v0 9 (-1 : Int32)) Z) ∧ (v0 = y0) ∧ (v1 = y1) ∧ (v2 = y2) ∧ (v6 = y6)) ?_ _ _ _ _ _ _ ⟨hI, (gr_rf _), rfl, rfl, rfl, rfl⟩
      intro w170 w172 w174 w176 w178 S168 X179 ⟨hI, gL169, q171, q173, q175, q177⟩ ih180
      subst q171
      subst q173
      subst q175
      subst q177
      have o_a1 := gr_ob gL169 o_a1
      have o_v0 := gr_ob gL169 o_v0
      have o_v1 := gr_ob gL169 o_v1
      have o_v2 := gr_ob gL169 o_v2
      have g0 := gr_tr g0 gL169
      refine u_X7_reckon_76 ?_
      refine ⟨fun c181 => ?_, fun c181 => ?_⟩
      · exact hq _ hI g0
      · refine ⟨fun c182 => ?_, fun c182 => ?_⟩
        · exact hq _ hI g0
        · refine ⟨o_v1, ?_⟩
          refine m_X8_hourOf hI o_v1 (fun x183 S184 hI2 g185 p_x183 => ?_)
          subst p_x183
          intro _
          intro x186 ex186
          have r_x186 : (0 : Int32) ≤ x186 ∧ x186 ≤ (6 : Int32) := by rw [ex186]; exact nu 11 rfl hI o_v1
          intro x187 ex187
          refine ⟨o_v0, ?_⟩
          intro x188 ex188
          refine ⟨fun c189 => ?_, fun c189 => ?_⟩
          · refine u_X7_reckon_120 ?_
            refine ⟨o_v1, ?_⟩
            intro x190 ex190
            have r_x190 : (0 : Int32) ≤ x190 ∧ x190 ≤ (8 : Int32) := by rw [ex190]; exact nu 12 rfl hI o_v1
            refine ⟨o_v0, ?_⟩
            refine m_X7_reckonMinute hI o_v0 (fun S192 hI g193 => ?_)
            have o_a1 := gr_ob g193 o_a1
            have o_v0 := gr_ob g193 o_v0
            have o_v1 := gr_ob g193 o_v1
            have o_v2 := gr_ob g193 o_v2
            have g0 := gr_tr g0 g193
            have gL169 := gr_tr gL169 g193
            intro _
            have hI := iv_sI (j := 13) (v := w178) hI o_v0 (by decide) (nu_free (by decide))
            intro x194 ex194
            exact ih180 _ _ _ _ _ _ ⟨hI, gL169, rfl, rfl, rfl, rfl⟩ (mu_down (q160 c181 c182 ex194) (q161 c181 c182 ex194))
          · refine m_X7_price hI o_v0 o_v1 o_v2 (fun S196 hI g197 => ?_)
            have o_a1 := gr_ob g197 o_a1
            have o_v0 := gr_ob g197 o_v0
            have o_v1 := gr_ob g197 o_v1
            have o_v2 := gr_ob g197 o_v2
            have g0 := gr_tr g0 g197
            have gL169 := gr_tr gL169 g197
            intro _
            refine u_X7_reckon_120 ?_
            refine ⟨o_v1, ?_⟩
            intro x198 ex198
            have r_x198 : (0 : Int32) ≤ x198 ∧ x198 ≤ (8 : Int32) := by rw [ex198]; exact nu 12 rfl hI o_v1
            refine ⟨o_v0, ?_⟩
            refine m_X7_reckonMinute hI o_v0 (fun S200 hI g201 => ?_)
            have o_a1 := gr_ob g201 o_a1
            have o_v0 := gr_ob g201 o_v0
            have o_v1 := gr_ob g201 o_v1
            have o_v2 := gr_ob g201 o_v2
            have g0 := gr_tr g0 g201
            have gL169 := gr_tr gL169 g201
            intro _
            have hI := iv_sI (j := 13) (v := w178) hI o_v0 (by decide) (nu_free (by decide))
            intro x202 ex202
            exact ih180 _ _ _ _ _ _ ⟨hI, gL169, rfl, rfl, rfl, rfl⟩ (mu_down (q160 c181 c182 ex202) (q161 c181 c182 ex202))
    · intro x203 ex203
      refine ⟨fun c204 => ?_, fun c204 => ?_⟩
      · refine u_X7_reckon_38 ?_
        refine ⟨o_v0, ?_⟩
        have hI := iv_sI (j := 10) (v := v3) hI o_v0 (by decide) (nu_free (by decide))
        have hI := iv_sI (j := 11) (v := v4) hI o_v0 (by decide) (nu_free (by decide))
        have hI := iv_sI (j := 12) (v := v5) hI o_v0 (by decide) (nu_free (by decide))
        intro x205 ex205
        have hI := iv_sI (j := 13) (v := x205) hI o_v0 (by decide) (nu_free (by decide))
        have hI := iv_sI (j := 9) (v := (-1 : Int32)) hI o_v0 (by decide) (nu_free (by decide))
        refine u_X7_reckon_68 ?_
        refine ⟨o_v0, ?_⟩
        intro x206 ex206
        intro x207 ex207
        refine i_X7_reckon_76 (fun (y0 : Nat) (y1 : Nat) (y2 : Nat) (y6 : Int32) (y7 : Int32) (Z : HS) => (y7.toInt - (-2147483648 : Int32).toInt).toNat) (fun (y0 : Nat) (y1 : Nat) (y2 : Nat) (y6 : Int32) (y7 : Int32) (Z : HS) => (IV Z) ∧ (Gr (sI (sI (sI (sI (sI S161 v0 10 v3) v0 11 v4) v0 12 v5) v0 13 x205) v0 9 (-1 : Int32)) Z) ∧ (v0 = y0) ∧ (v1 = y1) ∧ (v2 = y2) ∧ (v6 = y6)) ?_ _ _ _ _ _ _ ⟨hI, (gr_rf _), rfl, rfl, rfl, rfl⟩
        intro w210 w212 w214 w216 w218 S208 X219 ⟨hI, gL209, q211, q213, q215, q217⟩ ih220
        subst q211
        subst q213
        subst q215
        subst q217
        have o_a1 := gr_ob gL209 o_a1
        have o_v0 := gr_ob gL209 o_v0
        have o_v1 := gr_ob gL209 o_v1
        have o_v2 := gr_ob gL209 o_v2
        have g0 := gr_tr g0 gL209
        refine u_X7_reckon_76 ?_
        refine ⟨fun c221 => ?_, fun c221 => ?_⟩
        · exact hq _ hI g0
        · refine ⟨fun c222 => ?_, fun c222 => ?_⟩
          · exact hq _ hI g0
          · refine ⟨o_v1, ?_⟩
            refine m_X8_hourOf hI o_v1 (fun x223 S224 hI2 g225 p_x223 => ?_)
            subst p_x223
            intro _
            intro x226 ex226
            have r_x226 : (0 : Int32) ≤ x226 ∧ x226 ≤ (6 : Int32) := by rw [ex226]; exact nu 11 rfl hI o_v1
            intro x227 ex227
            refine ⟨o_v0, ?_⟩
            intro x228 ex228
            refine ⟨fun c229 => ?_, fun c229 => ?_⟩
            · refine u_X7_reckon_120 ?_
              refine ⟨o_v1, ?_⟩
              intro x230 ex230
              have r_x230 : (0 : Int32) ≤ x230 ∧ x230 ≤ (8 : Int32) := by rw [ex230]; exact nu 12 rfl hI o_v1
              refine ⟨o_v0, ?_⟩
              refine m_X7_reckonMinute hI o_v0 (fun S232 hI g233 => ?_)
              have o_a1 := gr_ob g233 o_a1
              have o_v0 := gr_ob g233 o_v0
              have o_v1 := gr_ob g233 o_v1
              have o_v2 := gr_ob g233 o_v2
              have g0 := gr_tr g0 g233
              have gL209 := gr_tr gL209 g233
              intro _
              have hI := iv_sI (j := 13) (v := w218) hI o_v0 (by decide) (nu_free (by decide))
              intro x234 ex234
              exact ih220 _ _ _ _ _ _ ⟨hI, gL209, rfl, rfl, rfl, rfl⟩ (mu_down (q160 c221 c222 ex234) (q161 c221 c222 ex234))
            · refine m_X7_price hI o_v0 o_v1 o_v2 (fun S236 hI g237 => ?_)
              have o_a1 := gr_ob g237 o_a1
              have o_v0 := gr_ob g237 o_v0
              have o_v1 := gr_ob g237 o_v1
              have o_v2 := gr_ob g237 o_v2
              have g0 := gr_tr g0 g237
              have gL209 := gr_tr gL209 g237
              intro _
              refine u_X7_reckon_120 ?_
              refine ⟨o_v1, ?_⟩
              intro x238 ex238
              have r_x238 : (0 : Int32) ≤ x238 ∧ x238 ≤ (8 : Int32) := by rw [ex238]; exact nu 12 rfl hI o_v1
              refine ⟨o_v0, ?_⟩
              refine m_X7_reckonMinute hI o_v0 (fun S240 hI g241 => ?_)
              have o_a1 := gr_ob g241 o_a1
              have o_v0 := gr_ob g241 o_v0
              have o_v1 := gr_ob g241 o_v1
              have o_v2 := gr_ob g241 o_v2
              have g0 := gr_tr g0 g241
              have gL209 := gr_tr gL209 g241
              intro _
              have hI := iv_sI (j := 13) (v := w218) hI o_v0 (by decide) (nu_free (by decide))
              intro x242 ex242
              exact ih220 _ _ _ _ _ _ ⟨hI, gL209, rfl, rfl, rfl, rfl⟩ (mu_down (q160 c221 c222 ex242) (q161 c221 c222 ex242))
      · intro x243 ex243
        refine ⟨fun c244 => ?_, fun c244 => ?_⟩
        · refine u_X7_reckon_68 ?_
          refine ⟨o_v0, ?_⟩
          intro x245 ex245
          intro x246 ex246
          refine i_X7_reckon_76 (fun (y0 : Nat) (y1 : Nat) (y2 : Nat) (y6 : Int32) (y7 : Int32) (Z : HS) => (y7.toInt - (-2147483648 : Int32).toInt).toNat) (fun (y0 : Nat) (y1 : Nat) (y2 : Nat) (y6 : Int32) (y7 : Int32) (Z : HS) => (IV Z) ∧ (Gr S161 Z) ∧ (v0 = y0) ∧ (v1 = y1) ∧ (v2 = y2) ∧ (v6 = y6)) ?_ _ _ _ _ _ _ ⟨hI, (gr_rf _), rfl, rfl, rfl, rfl⟩
          intro w249 w251 w253 w255 w257 S247 X258 ⟨hI, gL248, q250, q252, q254, q256⟩ ih259
          subst q250
          subst q252
          subst q254
          subst q256
          have o_a1 := gr_ob gL248 o_a1
          have o_v0 := gr_ob gL248 o_v0
          have o_v1 := gr_ob gL248 o_v1
          have o_v2 := gr_ob gL248 o_v2
          have g0 := gr_tr g0 gL248
          refine u_X7_reckon_76 ?_
          refine ⟨fun c260 => ?_, fun c260 => ?_⟩
          · exact hq _ hI g0
          · refine ⟨fun c261 => ?_, fun c261 => ?_⟩
            · exact hq _ hI g0
            · refine ⟨o_v1, ?_⟩
              refine m_X8_hourOf hI o_v1 (fun x262 S263 hI2 g264 p_x262 => ?_)
              subst p_x262
              intro _
              intro x265 ex265
              have r_x265 : (0 : Int32) ≤ x265 ∧ x265 ≤ (6 : Int32) := by rw [ex265]; exact nu 11 rfl hI o_v1
              intro x266 ex266
              refine ⟨o_v0, ?_⟩
              intro x267 ex267
              refine ⟨fun c268 => ?_, fun c268 => ?_⟩
              · refine u_X7_reckon_120 ?_
                refine ⟨o_v1, ?_⟩
                intro x269 ex269
                have r_x269 : (0 : Int32) ≤ x269 ∧ x269 ≤ (8 : Int32) := by rw [ex269]; exact nu 12 rfl hI o_v1
                refine ⟨o_v0, ?_⟩
                refine m_X7_reckonMinute hI o_v0 (fun S271 hI g272 => ?_)
                have o_a1 := gr_ob g272 o_a1
                have o_v0 := gr_ob g272 o_v0
                have o_v1 := gr_ob g272 o_v1
                have o_v2 := gr_ob g272 o_v2
                have g0 := gr_tr g0 g272
                have gL248 := gr_tr gL248 g272
                intro _
                have hI := iv_sI (j := 13) (v := w257) hI o_v0 (by decide) (nu_free (by decide))
                intro x273 ex273
                exact ih259 _ _ _ _ _ _ ⟨hI, gL248, rfl, rfl, rfl, rfl⟩ (mu_down (q160 c260 c261 ex273) (q161 c260 c261 ex273))
              · refine m_X7_price hI o_v0 o_v1 o_v2 (fun S275 hI g276 => ?_)
                have o_a1 := gr_ob g276 o_a1
                have o_v0 := gr_ob g276 o_v0
                have o_v1 := gr_ob g276 o_v1
                have o_v2 := gr_ob g276 o_v2
                have g0 := gr_tr g0 g276
                have gL248 := gr_tr gL248 g276
                intro _
                refine u_X7_reckon_120 ?_
                refine ⟨o_v1, ?_⟩
                intro x277 ex277
                have r_x277 : (0 : Int32) ≤ x277 ∧ x277 ≤ (8 : Int32) := by rw [ex277]; exact nu 12 rfl hI o_v1
                refine ⟨o_v0, ?_⟩
                refine m_X7_reckonMinute hI o_v0 (fun S279 hI g280 => ?_)
                have o_a1 := gr_ob g280 o_a1
                have o_v0 := gr_ob g280 o_v0
                have o_v1 := gr_ob g280 o_v1
                have o_v2 := gr_ob g280 o_v2
                have g0 := gr_tr g0 g280
                have gL248 := gr_tr gL248 g280
                intro _
                have hI := iv_sI (j := 13) (v := w257) hI o_v0 (by decide) (nu_free (by decide))
                intro x281 ex281
                exact ih259 _ _ _ _ _ _ ⟨hI, gL248, rfl, rfl, rfl, rfl⟩ (mu_down (q160 c260 c261 ex281) (q161 c260 c261 ex281))
        · refine u_X7_reckon_38 ?_
          refine ⟨o_v0, ?_⟩
          have hI := iv_sI (j := 10) (v := v3) hI o_v0 (by decide) (nu_free (by decide))
          have hI := iv_sI (j := 11) (v := v4) hI o_v0 (by decide) (nu_free (by decide))
          have hI := iv_sI (j := 12) (v := v5) hI o_v0 (by decide) (nu_free (by decide))
          intro x282 ex282
          have hI := iv_sI (j := 13) (v := x282) hI o_v0 (by decide) (nu_free (by decide))
          have hI := iv_sI (j := 9) (v := (-1 : Int32)) hI o_v0 (by decide) (nu_free (by decide))
          refine u_X7_reckon_68 ?_
          refine ⟨o_v0, ?_⟩
          intro x283 ex283
          intro x284 ex284
          refine i_X7_reckon_76 (fun (y0 : Nat) (y1 : Nat) (y2 : Nat) (y6 : Int32) (y7 : Int32) (Z : HS) => (y7.toInt - (-2147483648 : Int32).toInt).toNat) (fun (y0 : Nat) (y1 : Nat) (y2 : Nat) (y6 : Int32) (y7 : Int32) (Z : HS) => (IV Z) ∧ (Gr (sI (sI (sI (sI (sI S161 v0 10 v3) v0 11 v4) v0 12 v5) v0 13 x282) v0 9 (-1 : Int32)) Z) ∧ (v0 = y0) ∧ (v1 = y1) ∧ (v2 = y2) ∧ (v6 = y6)) ?_ _ _ _ _ _ _ ⟨hI, (gr_rf _), rfl, rfl, rfl, rfl⟩
          intro w287 w289 w291 w293 w295 S285 X296 ⟨hI, gL286, q288, q290, q292, q294⟩ ih297
          subst q288
          subst q290
          subst q292
          subst q294
          have o_a1 := gr_ob gL286 o_a1
          have o_v0 := gr_ob gL286 o_v0
          have o_v1 := gr_ob gL286 o_v1
          have o_v2 := gr_ob gL286 o_v2
          have g0 := gr_tr g0 gL286
          refine u_X7_reckon_76 ?_
          refine ⟨fun c298 => ?_, fun c298 => ?_⟩
          · exact hq _ hI g0
          · refine ⟨fun c299 => ?_, fun c299 => ?_⟩
            · exact hq _ hI g0
            · refine ⟨o_v1, ?_⟩
              refine m_X8_hourOf hI o_v1 (fun x300 S301 hI2 g302 p_x300 => ?_)
              subst p_x300
              intro _
              intro x303 ex303
              have r_x303 : (0 : Int32) ≤ x303 ∧ x303 ≤ (6 : Int32) := by rw [ex303]; exact nu 11 rfl hI o_v1
              intro x304 ex304
              refine ⟨o_v0, ?_⟩
              intro x305 ex305
              refine ⟨fun c306 => ?_, fun c306 => ?_⟩
              · refine u_X7_reckon_120 ?_
                refine ⟨o_v1, ?_⟩
                intro x307 ex307
                have r_x307 : (0 : Int32) ≤ x307 ∧ x307 ≤ (8 : Int32) := by rw [ex307]; exact nu 12 rfl hI o_v1
                refine ⟨o_v0, ?_⟩
                refine m_X7_reckonMinute hI o_v0 (fun S309 hI g310 => ?_)
                have o_a1 := gr_ob g310 o_a1
                have o_v0 := gr_ob g310 o_v0
                have o_v1 := gr_ob g310 o_v1
                have o_v2 := gr_ob g310 o_v2
                have g0 := gr_tr g0 g310
                have gL286 := gr_tr gL286 g310
                intro _
                have hI := iv_sI (j := 13) (v := w295) hI o_v0 (by decide) (nu_free (by decide))
                intro x311 ex311
                exact ih297 _ _ _ _ _ _ ⟨hI, gL286, rfl, rfl, rfl, rfl⟩ (mu_down (q160 c298 c299 ex311) (q161 c298 c299 ex311))
              · refine m_X7_price hI o_v0 o_v1 o_v2 (fun S313 hI g314 => ?_)
                have o_a1 := gr_ob g314 o_a1
                have o_v0 := gr_ob g314 o_v0
                have o_v1 := gr_ob g314 o_v1
                have o_v2 := gr_ob g314 o_v2
                have g0 := gr_tr g0 g314
                have gL286 := gr_tr gL286 g314
                intro _
                refine u_X7_reckon_120 ?_
                refine ⟨o_v1, ?_⟩
                intro x315 ex315
                have r_x315 : (0 : Int32) ≤ x315 ∧ x315 ≤ (8 : Int32) := by rw [ex315]; exact nu 12 rfl hI o_v1
                refine ⟨o_v0, ?_⟩
                refine m_X7_reckonMinute hI o_v0 (fun S317 hI g318 => ?_)
                have o_a1 := gr_ob g318 o_a1
                have o_v0 := gr_ob g318 o_v0
                have o_v1 := gr_ob g318 o_v1
                have o_v2 := gr_ob g318 o_v2
                have g0 := gr_tr g0 g318
                have gL286 := gr_tr gL286 g318
                intro _
                have hI := iv_sI (j := 13) (v := w295) hI o_v0 (by decide) (nu_free (by decide))
                intro x319 ex319
                exact ih297 _ _ _ _ _ _ ⟨hI, gL286, rfl, rfl, rfl, rfl⟩ (mu_down (q160 c298 c299 ex319) (q161 c298 c299 ex319))
set_option maxHeartbeats 4000000 in
set_option maxRecDepth 20000 in
theorem m_X7_trace {v0 : Nat} {v1 : Nat} {v2 : Int32} {v3 : Int32} {Q : Int32 → HS → Prop} {S : HS} (hI : IV S) (o_v0 : ob S v0 7) (o_v1 : ob S v1 8)     (hq : ∀ (r : Int32) (T : HS), IV T → Gr S T → Q r T) : P_X7_trace v0 v1 v2 v3 Q S := by
  have g0 := gr_rf S
  refine u_X7_trace ?_
  refine u_X7_trace_0 ?_
  refine i_X7_trace_9 (fun (y0 : Nat) (y1 : Nat) (y4 : Int32) (y5 : Int32) (y6 : Int32) (Z : HS) => ((2147483647 : Int32).toInt - y6.toInt).toNat) (fun (y0 : Nat) (y1 : Nat) (y4 : Int32) (y5 : Int32) (y6 : Int32) (Z : HS) => (IV Z) ∧ (Gr S Z) ∧ (v0 = y0) ∧ (v1 = y1) ∧ (0 ≤ y6)) ?_ _ _ _ _ _ _ ⟨hI, (gr_rf _), rfl, rfl, (q43)⟩
  intro w3 w5 w7 w8 w9 S1 X10 ⟨hI, gL2, q4, q6, i1⟩ ih11
  subst q4
  subst q6
  have o_v0 := gr_ob gL2 o_v0
  have o_v1 := gr_ob gL2 o_v1
  have g0 := gr_tr g0 gL2
  refine u_X7_trace_9 ?_
  refine ⟨o_v0, ?_⟩
  obtain ⟨a12, ea12, o_a12, -⟩ := sh 21 rfl hI o_v0
  refine ⟨a12, ea12, ?_⟩
  refine ⟨o_a12, ?_⟩
  refine ⟨fun c13 => ?_, fun c13 => ?_⟩
  · obtain ⟨a14, ea14, o_a14, -⟩ := sh 21 rfl hI o_v0
    refine ⟨a14, ea14, ?_⟩
    refine ⟨o_a14, ?_⟩
    exact hq _ _ hI g0
  · intro x15 ex15
    refine ⟨fun c16 => ?_, fun c16 => ?_⟩
    · refine u_X7_trace_55 ?_
      refine u_X7_trace_56 ?_
      refine ⟨fun c17 => ?_, fun c17 => ?_⟩
      · refine ⟨o_v0, ?_⟩
        obtain ⟨a18, ea18, o_a18, -⟩ := sh 21 rfl hI o_v0
        refine ⟨a18, ea18, ?_⟩
        refine ⟨o_a18, ?_⟩
        have i19 : vp_in w9 (hN _ a18) := (vinL hl_a18 (q238 i1 c13 c17))
        refine ⟨i19, ?_⟩
        have hI := iv_aI (i := w9.toNatClampNeg) (v := (-1 : Int32)) hI o_v0 (by decide) ea18 o_a18 (by decide)
        refine ⟨fun c20 => ?_, fun c20 => ?_⟩
        · intro x21 ex21
          refine ⟨o_v1, ?_⟩
          refine m_X8_hasRoad hI o_v1 (fun x22 S23 hI2 g24 b_x22 p_x22 => ?_)
          obtain ⟨z_S23, p_x22⟩ := p_x22
          subst z_S23
          intro _ _
          have bb_x22 : x22 = 0 ∨ x22 = 1 := b_x22
          refine ⟨fun c25 => ?_, fun c25 => ?_⟩
          · refine u_X7_trace_143 ?_
            intro x26 ex26
            exact ih11 _ _ _ _ _ _ ⟨hI, gL2, rfl, rfl, (q239 i1 c13 c17 c20 ex26)⟩ (mu_up (q240 i1 c13 c17 c20 ex26) (q241 i1 c13 c17 c20 ex26))
          · obtain ⟨a27, ea27, o_a27, l_a27⟩ := shl 17 rfl hI o_v1
            refine ⟨a27, ea27, ?_⟩
            intro x28 ex28
            refine ⟨o_a27, ?_⟩
            have i30 : vp_in x28 (hN _ a27) := (vin l_a27 (m := 12) (by decide) (q242 c17 c20 ex28))
            obtain ⟨a29, ea29, o_a29⟩ := ae hI o_a27 (by decide) (by decide) i30
            replace o_a29 : ob _ a29 5 := o_a29
            refine ⟨i30, a29, ea29, ?_⟩
            intro x31 ex31
            intro x32 ex32
            refine ⟨o_a29, ?_⟩
            refine m_X5_endOf hI o_a29 (fun x33 S34 hI2 g35 p_x33 => ?_)
            subst p_x33
            intro _
            intro x36 ex36
            refine m_X5_minutesAt hI o_a29 (fun x37 S38 hI2 g39 p_x37 => ?_)
            subst p_x37
            intro _
            intro x40 ex40
            refine u_X7_trace_143 ?_
            intro x41 ex41
            exact ih11 _ _ _ _ _ _ ⟨hI, gL2, rfl, rfl, (q239 i1 c13 c17 c20 ex41)⟩ (mu_up (q240 i1 c13 c17 c20 ex41) (q241 i1 c13 c17 c20 ex41))
        · intro x42 ex42
          refine u_X7_trace_143 ?_
          intro x43 ex43
          exact ih11 _ _ _ _ _ _ ⟨hI, gL2, rfl, rfl, (q243 i1 c13 c17 c20 ex43)⟩ (mu_up (q244 i1 c13 c17 c20 ex43) (q245 i1 c13 c17 c20 ex43))
      · exact hq _ _ hI g0
    · obtain ⟨a44, ea44, o_a44, -⟩ := sh 23 rfl hI o_v0
      refine ⟨a44, ea44, ?_⟩
      refine ⟨o_a44, ?_⟩
      refine ⟨fun c45 => ?_, fun c45 => ?_⟩
      · refine u_X7_trace_55 ?_
        refine u_X7_trace_56 ?_
        refine ⟨fun c46 => ?_, fun c46 => ?_⟩
        · refine ⟨o_v0, ?_⟩
          obtain ⟨a47, ea47, o_a47, -⟩ := sh 21 rfl hI o_v0
          refine ⟨a47, ea47, ?_⟩
          refine ⟨o_a47, ?_⟩
          have i48 : vp_in w9 (hN _ a47) := (vinL hl_a47 (q238 i1 c13 c46))
          refine ⟨i48, ?_⟩
          have hI := iv_aI (i := w9.toNatClampNeg) (v := (-1 : Int32)) hI o_v0 (by decide) ea47 o_a47 (by decide)
          refine ⟨fun c49 => ?_, fun c49 => ?_⟩
          · intro x50 ex50
            refine ⟨o_v1, ?_⟩
            refine m_X8_hasRoad hI o_v1 (fun x51 S52 hI2 g53 b_x51 p_x51 => ?_)
            obtain ⟨z_S52, p_x51⟩ := p_x51
            subst z_S52
            intro _ _
            have bb_x51 : x51 = 0 ∨ x51 = 1 := b_x51
            refine ⟨fun c54 => ?_, fun c54 => ?_⟩
            · refine u_X7_trace_143 ?_
              intro x55 ex55
              exact ih11 _ _ _ _ _ _ ⟨hI, gL2, rfl, rfl, (q239 i1 c13 c46 c49 ex55)⟩ (mu_up (q240 i1 c13 c46 c49 ex55) (q241 i1 c13 c46 c49 ex55))
            · obtain ⟨a56, ea56, o_a56, l_a56⟩ := shl 17 rfl hI o_v1
              refine ⟨a56, ea56, ?_⟩
              intro x57 ex57
              refine ⟨o_a56, ?_⟩
              have i59 : vp_in x57 (hN _ a56) := (vin l_a56 (m := 12) (by decide) (q242 c46 c49 ex57))
              obtain ⟨a58, ea58, o_a58⟩ := ae hI o_a56 (by decide) (by decide) i59
              replace o_a58 : ob _ a58 5 := o_a58
              refine ⟨i59, a58, ea58, ?_⟩
              intro x60 ex60
              intro x61 ex61
              refine ⟨o_a58, ?_⟩
              refine m_X5_endOf hI o_a58 (fun x62 S63 hI2 g64 p_x62 => ?_)
              subst p_x62
              intro _
              intro x65 ex65
              refine m_X5_minutesAt hI o_a58 (fun x66 S67 hI2 g68 p_x66 => ?_)
              subst p_x66
              intro _
              intro x69 ex69
              refine u_X7_trace_143 ?_
              intro x70 ex70
              exact ih11 _ _ _ _ _ _ ⟨hI, gL2, rfl, rfl, (q239 i1 c13 c46 c49 ex70)⟩ (mu_up (q240 i1 c13 c46 c49 ex70) (q241 i1 c13 c46 c49 ex70))
          · intro x71 ex71
            refine u_X7_trace_143 ?_
            intro x72 ex72
            exact ih11 _ _ _ _ _ _ ⟨hI, gL2, rfl, rfl, (q243 i1 c13 c46 c49 ex72)⟩ (mu_up (q244 i1 c13 c46 c49 ex72) (q245 i1 c13 c46 c49 ex72))
        · exact hq _ _ hI g0
      · obtain ⟨a73, ea73, o_a73, -⟩ := sh 23 rfl hI o_v0
        refine ⟨a73, ea73, ?_⟩
        refine ⟨o_a73, ?_⟩
        refine ⟨(vinL hl_a73 (q225 ex15 c16 c45)), ?_⟩
        intro x74 ex74
        refine u_X7_trace_56 ?_
        refine ⟨fun c75 => ?_, fun c75 => ?_⟩
        · refine ⟨o_v0, ?_⟩
          obtain ⟨a76, ea76, o_a76, -⟩ := sh 21 rfl hI o_v0
          refine ⟨a76, ea76, ?_⟩
          refine ⟨o_a76, ?_⟩
          have i77 : vp_in w9 (hN _ a76) := (vinL hl_a76 (q246 i1 c13))
          refine ⟨i77, ?_⟩
          have hI := iv_aI (i := w9.toNatClampNeg) (v := x74) hI o_v0 (by decide) ea76 o_a76 (by decide)
          refine ⟨fun c78 => ?_, fun c78 => ?_⟩
          · intro x79 ex79
            refine ⟨o_v1, ?_⟩
            refine m_X8_hasRoad hI o_v1 (fun x80 S81 hI2 g82 b_x80 p_x80 => ?_)
            obtain ⟨z_S81, p_x80⟩ := p_x80
            subst z_S81
            intro _ _
            have bb_x80 : x80 = 0 ∨ x80 = 1 := b_x80
            refine ⟨fun c83 => ?_, fun c83 => ?_⟩
            · refine u_X7_trace_143 ?_
              intro x84 ex84
              exact ih11 _ _ _ _ _ _ ⟨hI, gL2, rfl, rfl, (q247 i1 c13 ex84)⟩ (mu_up (q248 i1 c13 ex84) (q249 i1 c13 ex84))
            · obtain ⟨a85, ea85, o_a85, l_a85⟩ := shl 17 rfl hI o_v1
              refine ⟨a85, ea85, ?_⟩
              intro x86 ex86
              refine ⟨o_a85, ?_⟩
              have i88 : vp_in x86 (hN _ a85) := (vin l_a85 (m := 12) (by decide) (q250 c75 c78 ex79 p_x80 bb_x80 c83 ex86))
              obtain ⟨a87, ea87, o_a87⟩ := ae hI o_a85 (by decide) (by decide) i88
              replace o_a87 : ob _ a87 5 := o_a87
              refine ⟨i88, a87, ea87, ?_⟩
              intro x89 ex89
              intro x90 ex90
              refine ⟨o_a87, ?_⟩
              refine m_X5_endOf hI o_a87 (fun x91 S92 hI2 g93 p_x91 => ?_)
              subst p_x91
              intro _
              intro x94 ex94
              refine m_X5_minutesAt hI o_a87 (fun x95 S96 hI2 g97 p_x95 => ?_)
              subst p_x95
              intro _
              intro x98 ex98
              refine u_X7_trace_143 ?_
              intro x99 ex99
              exact ih11 _ _ _ _ _ _ ⟨hI, gL2, rfl, rfl, (q247 i1 c13 ex99)⟩ (mu_up (q248 i1 c13 ex99) (q249 i1 c13 ex99))
          · intro x100 ex100
            refine u_X7_trace_143 ?_
            intro x101 ex101
            exact ih11 _ _ _ _ _ _ ⟨hI, gL2, rfl, rfl, (q247 i1 c13 ex101)⟩ (mu_up (q248 i1 c13 ex101) (q249 i1 c13 ex101))
        · exact hq _ _ hI g0
set_option maxHeartbeats 4000000 in
set_option maxRecDepth 20000 in
theorem m_X9_grant {v0 : Nat} {v1 : Int32} {Q : Int32 → HS → Prop} {S : HS} (hI : IV S) (o_v0 : ob S v0 9)     (hq : ∀ (r : Int32) (T : HS), IV T → Gr S T → Q r T) : P_X9_grant v0 v1 Q S := by
  have g0 := gr_rf S
  refine u_X9_grant ?_
  refine u_X9_grant_0 ?_
  refine ⟨o_v0, ?_⟩
  have hI := iv_sI (j := 9) (v := (0 : Int32)) hI o_v0 (by decide) (nu_free (by decide))
  exact hq _ _ hI g0
set_option maxHeartbeats 4000000 in
set_option maxRecDepth 20000 in
theorem m_X9_isWay {v0 : Int32} {Q : Int32 → HS → Prop} {S : HS} (hI : IV S)      (hq : ∀ (r : Int32) (T : HS), IV T → Gr S T → bl r → (S = T) ∧ (r = 1 → 0 ≤ v0 ∧ v0 ≤ 1) → Q r T) : P_X9_isWay v0 Q S := by
  have g0 := gr_rf S
  refine u_X9_isWay ?_
  refine u_X9_isWay_0 ?_
  refine ⟨fun c1 => ?_, fun c1 => ?_⟩
  · exact hq _ _ hI g0 (Or.inr rfl) ⟨rfl, (q16 c1)⟩
  · refine ⟨fun c2 => ?_, fun c2 => ?_⟩
    · exact hq _ _ hI g0 (Or.inl rfl) ⟨rfl, (q17 c1 c2)⟩
    · exact hq _ _ hI g0 (Or.inr rfl) ⟨rfl, (q18 c1 c2)⟩
set_option maxHeartbeats 4000000 in
set_option maxRecDepth 20000 in
theorem m_X9_air {v0 : Nat} {v1 : Int32} {v2 : Int32} {v3 : Int32} {Q : Int32 → HS → Prop} {S : HS} (hI : IV S) (o_v0 : ob S v0 9)     (hq : ∀ (r : Int32) (T : HS), IV T → Gr S T → Q r T) : P_X9_air v0 v1 v2 v3 Q S := by
  have g0 := gr_rf S
  refine u_X9_air ?_
  refine u_X9_air_0 ?_
  refine ⟨o_v0, ?_⟩
  obtain ⟨a1, ea1, o_a1, -⟩ := sh 1 rfl hI o_v0
  refine ⟨a1, ea1, ?_⟩
  refine ⟨o_a1, ?_⟩
  refine m_X8_hasRoad hI o_a1 (fun x2 S3 hI2 g4 b_x2 p_x2 => ?_)
  obtain ⟨z_S3, p_x2⟩ := p_x2
  subst z_S3
  intro _ _
  have bb_x2 : x2 = 0 ∨ x2 = 1 := b_x2
  refine ⟨fun c5 => ?_, fun c5 => ?_⟩
  · have hI := iv_sI (j := 9) (v := (1 : Int32)) hI o_v0 (by decide) (nu_free (by decide))
    exact hq _ _ hI g0
  · refine m_X9_isWay hI (fun x6 S7 hI2 g8 b_x6 p_x6 => ?_)
    obtain ⟨z_S7, p_x6⟩ := p_x6
    subst z_S7
    intro _ _
    have bb_x6 : x6 = 0 ∨ x6 = 1 := b_x6
    refine ⟨fun c9 => ?_, fun c9 => ?_⟩
    · have hI := iv_sI (j := 9) (v := (1 : Int32)) hI o_v0 (by decide) (nu_free (by decide))
      exact hq _ _ hI g0
    · obtain ⟨a10, ea10, o_a10, -⟩ := sh 1 rfl hI o_v0
      refine ⟨a10, ea10, ?_⟩
      refine ⟨o_a10, ?_⟩
      refine m_X8_hasHour hI o_a10 (fun x11 S12 hI2 g13 b_x11 p_x11 => ?_)
      obtain ⟨z_S12, p_x11⟩ := p_x11
      subst z_S12
      intro _ _
      have bb_x11 : x11 = 0 ∨ x11 = 1 := b_x11
      refine ⟨fun c14 => ?_, fun c14 => ?_⟩
      · obtain ⟨a15, ea15, o_a15, -⟩ := sh 1 rfl hI o_v0
        refine ⟨a15, ea15, ?_⟩
        refine ⟨o_a15, ?_⟩
        obtain ⟨a16, ea16, o_a16, l_a16⟩ := shl 17 rfl hI o_a15
        refine ⟨a16, ea16, ?_⟩
        refine ⟨o_a16, ?_⟩
        have i18 : vp_in v1 (hN _ a16) := (vin l_a16 (m := 12) (by decide) (q275 p_x2 bb_x2 c5))
        obtain ⟨a17, ea17, o_a17⟩ := ae hI o_a16 (by decide) (by decide) i18
        replace o_a17 : ob _ a17 5 := o_a17
        refine ⟨i18, a17, ea17, ?_⟩
        obtain ⟨a19, ea19, o_a19, -⟩ := sh 1 rfl hI o_v0
        refine ⟨a19, ea19, ?_⟩
        refine ⟨o_a19, ?_⟩
        obtain ⟨a20, ea20, o_a20, l_a20⟩ := shl 15 rfl hI o_a19
        refine ⟨a20, ea20, ?_⟩
        refine ⟨o_a20, ?_⟩
        have i22 : vp_in v3 (hN _ a20) := (vin l_a20 (m := 6) (by decide) (q410 p_x11 bb_x11 c14))
        obtain ⟨a21, ea21, o_a21⟩ := ae hI o_a20 (by decide) (by decide) i22
        replace o_a21 : ob _ a21 3 := o_a21
        refine ⟨i22, a21, ea21, ?_⟩
        refine ⟨o_a17, ?_⟩
        refine m_X5_airAlong hI o_a17 o_a21 (fun x23 S24 hI2 g25 p_x23 => ?_)
        subst p_x23
        intro _
        refine u_X9_grant ?_
        refine u_X9_grant_0 ?_
        refine ⟨o_v0, ?_⟩
        have hI := iv_sI (j := 9) (v := (0 : Int32)) hI o_v0 (by decide) (nu_free (by decide))
        intro _
        exact hq _ _ hI g0
      · have hI := iv_sI (j := 9) (v := (1 : Int32)) hI o_v0 (by decide) (nu_free (by decide))
        exact hq _ _ hI g0
set_option maxHeartbeats 4000000 in
set_option maxRecDepth 20000 in
theorem m_X9_refusedBy {v0 : Nat} {v1 : Int32} {Q : Int32 → HS → Prop} {S : HS} (hI : IV S) (o_v0 : ob S v0 9)     (hq : ∀ (r : Int32) (T : HS), IV T → Gr S T → bl r → Q r T) : P_X9_refusedBy v0 v1 Q S := by
  have g0 := gr_rf S
  refine u_X9_refusedBy ?_
  refine u_X9_refusedBy_0 ?_
  refine ⟨o_v0, ?_⟩
  have hI := iv_sI (j := 9) (v := v1) hI o_v0 (by decide) (nu_free (by decide))
  refine ⟨fun c1 => ?_, fun c1 => ?_⟩
  · exact hq _ _ hI g0 (Or.inl rfl)
  · exact hq _ _ hI g0 (Or.inr rfl)
set_option maxHeartbeats 4000000 in
set_option maxRecDepth 20000 in
theorem m_X9_back {v0 : Nat} {v1 : Int32} {Q : Int32 → HS → Prop} {S : HS} (hI : IV S) (o_v0 : ob S v0 9)     (hq : ∀ (r : Int32) (T : HS), IV T → Gr S T → bl r → Q r T) : P_X9_back v0 v1 Q S := by
  have g0 := gr_rf S
  refine u_X9_back ?_
  refine u_X9_back_0 ?_
  refine ⟨o_v0, ?_⟩
  obtain ⟨a1, ea1, o_a1, -⟩ := sh 5 rfl hI o_v0
  refine ⟨a1, ea1, ?_⟩
  refine ⟨o_a1, ?_⟩
  refine m_X0_returnTo hI o_a1 (fun x2 S3 hI g4 b_x2 => ?_)
  have o_a1 := gr_ob g4 o_a1
  have o_v0 := gr_ob g4 o_v0
  have g0 := gr_tr g0 g4
  intro _ _
  have bb_x2 : x2 = 0 ∨ x2 = 1 := b_x2
  refine ⟨fun c5 => ?_, fun c5 => ?_⟩
  · refine u_X9_back_17 ?_
    refine ⟨o_v0, ?_⟩
    refine u_X9_refusedBy ?_
    refine u_X9_refusedBy_0 ?_
    refine ⟨o_v0, ?_⟩
    have hI := iv_sI (j := 9) (v := (1 : Int32)) hI o_v0 (by decide) (nu_free (by decide))
    refine ⟨fun c6 => ?_, fun c6 => ?_⟩
    · intro _ _
      refine ⟨fun c7 => ?_, fun c7 => ?_⟩
      · exact hq _ _ hI g0 (Or.inl rfl)
      · exact hq _ _ hI g0 (Or.inr rfl)
    · intro _ _
      refine ⟨fun c8 => ?_, fun c8 => ?_⟩
      · exact hq _ _ hI g0 (Or.inl rfl)
      · exact hq _ _ hI g0 (Or.inr rfl)
  · refine u_X9_back_17 ?_
    refine ⟨o_v0, ?_⟩
    refine u_X9_refusedBy ?_
    refine u_X9_refusedBy_0 ?_
    refine ⟨o_v0, ?_⟩
    have hI := iv_sI (j := 9) (v := (0 : Int32)) hI o_v0 (by decide) (nu_free (by decide))
    refine ⟨fun c9 => ?_, fun c9 => ?_⟩
    · intro _ _
      refine ⟨fun c10 => ?_, fun c10 => ?_⟩
      · exact hq _ _ hI g0 (Or.inl rfl)
      · exact hq _ _ hI g0 (Or.inr rfl)
    · intro _ _
      refine ⟨fun c11 => ?_, fun c11 => ?_⟩
      · exact hq _ _ hI g0 (Or.inl rfl)
      · exact hq _ _ hI g0 (Or.inr rfl)
set_option maxHeartbeats 4000000 in
set_option maxRecDepth 20000 in
theorem m_X9_tripTrouble {v0 : Nat} {v1 : Int32} {v2 : Int32} {v3 : Int32} {v4 : Int32} {Q : Int32 → HS → Prop} {S : HS} (hI : IV S) (o_v0 : ob S v0 9)     (hq : ∀ (r : Int32) (T : HS), IV T → Gr S T → (S = T) ∧ (r = 0 → 0 ≤ v1 ∧ v1 < 4 ∧ 0 ≤ v2 ∧ v2 < 12 ∧ 0 ≤ v4 ∧ v4 < 6) → Q r T) : P_X9_tripTrouble v0 v1 v2 v3 v4 Q S := by
  have g0 := gr_rf S
  refine u_X9_tripTrouble ?_
  refine u_X9_tripTrouble_0 ?_
  refine ⟨o_v0, ?_⟩
  obtain ⟨a1, ea1, o_a1, -⟩ := sh 1 rfl hI o_v0
  refine ⟨a1, ea1, ?_⟩
  refine ⟨o_a1, ?_⟩
  refine m_X8_hasWalker hI o_a1 (fun x2 S3 hI2 g4 b_x2 p_x2 => ?_)
  obtain ⟨z_S3, p_x2⟩ := p_x2
  subst z_S3
  intro _ _
  have bb_x2 : x2 = 0 ∨ x2 = 1 := b_x2
  refine ⟨fun c5 => ?_, fun c5 => ?_⟩
  · refine u_X9_tripTrouble_45 ?_
    refine u_X9_tripTrouble_46 ?_
    refine ⟨fun c6 => ?_, fun c6 => ?_⟩
    · exact hq _ _ hI g0 ⟨rfl, (q6 p_x2 bb_x2 c5 c6)⟩
    · exact hq _ _ hI g0 ⟨rfl, (q7 p_x2 bb_x2 c5 c6)⟩
  · obtain ⟨a7, ea7, o_a7, -⟩ := sh 1 rfl hI o_v0
    refine ⟨a7, ea7, ?_⟩
    refine ⟨o_a7, ?_⟩
    refine m_X8_hasRoad hI o_a7 (fun x8 S9 hI2 g10 b_x8 p_x8 => ?_)
    obtain ⟨z_S9, p_x8⟩ := p_x8
    subst z_S9
    intro _ _
    have bb_x8 : x8 = 0 ∨ x8 = 1 := b_x8
    refine ⟨fun c11 => ?_, fun c11 => ?_⟩
    · refine u_X9_tripTrouble_45 ?_
      refine u_X9_tripTrouble_46 ?_
      refine ⟨fun c12 => ?_, fun c12 => ?_⟩
      · exact hq _ _ hI g0 ⟨rfl, (q8 p_x2 bb_x2 c5 p_x8 bb_x8 c11 c12)⟩
      · exact hq _ _ hI g0 ⟨rfl, (q9 p_x2 bb_x2 c5 p_x8 bb_x8 c11 c12)⟩
    · refine m_X9_isWay hI (fun x13 S14 hI2 g15 b_x13 p_x13 => ?_)
      obtain ⟨z_S14, p_x13⟩ := p_x13
      subst z_S14
      intro _ _
      have bb_x13 : x13 = 0 ∨ x13 = 1 := b_x13
      refine ⟨fun c16 => ?_, fun c16 => ?_⟩
      · refine u_X9_tripTrouble_45 ?_
        refine u_X9_tripTrouble_46 ?_
        refine ⟨fun c17 => ?_, fun c17 => ?_⟩
        · exact hq _ _ hI g0 ⟨rfl, (q10 p_x2 bb_x2 c5 p_x8 bb_x8 c11 c17)⟩
        · exact hq _ _ hI g0 ⟨rfl, (q11 p_x2 bb_x2 c5 p_x8 bb_x8 c11 c17)⟩
      · obtain ⟨a18, ea18, o_a18, -⟩ := sh 1 rfl hI o_v0
        refine ⟨a18, ea18, ?_⟩
        refine ⟨o_a18, ?_⟩
        refine m_X8_hasHour hI o_a18 (fun x19 S20 hI2 g21 b_x19 p_x19 => ?_)
        obtain ⟨z_S20, p_x19⟩ := p_x19
        subst z_S20
        intro _ _
        have bb_x19 : x19 = 0 ∨ x19 = 1 := b_x19
        refine ⟨fun c22 => ?_, fun c22 => ?_⟩
        · refine u_X9_tripTrouble_45 ?_
          refine u_X9_tripTrouble_46 ?_
          refine ⟨fun c23 => ?_, fun c23 => ?_⟩
          · exact hq _ _ hI g0 ⟨rfl, (q12 p_x2 bb_x2 c5 p_x8 bb_x8 c11 p_x19 bb_x19 c22 c23)⟩
          · exact hq _ _ hI g0 ⟨rfl, (q13 p_x2 bb_x2 c5 p_x8 bb_x8 c11 p_x19 bb_x19 c22 c23)⟩
        · refine u_X9_tripTrouble_46 ?_
          refine ⟨fun c24 => ?_, fun c24 => ?_⟩
          · exact hq _ _ hI g0 ⟨rfl, (q14 p_x2 bb_x2 c5 p_x8 bb_x8 c11 p_x19 bb_x19 c22 c24)⟩
          · exact hq _ _ hI g0 ⟨rfl, (q15 p_x2 bb_x2 c5 p_x8 bb_x8 c11 p_x19 bb_x19 c22 c24)⟩
set_option maxHeartbeats 4000000 in
set_option maxRecDepth 20000 in
theorem m_X9_best {v0 : Nat} {v1 : Int32} {v2 : Int32} {v3 : Int32} {v4 : Int32} {Q : Int32 → HS → Prop} {S : HS} (hI : IV S) (o_v0 : ob S v0 9)     (hq : ∀ (r : Int32) (T : HS), IV T → Gr S T → Q r T) : P_X9_best v0 v1 v2 v3 v4 Q S := by
  have g0 := gr_rf S
  refine u_X9_best ?_
  refine u_X9_best_0 ?_
  refine ⟨o_v0, ?_⟩
  refine m_X9_tripTrouble hI o_v0 (fun x1 S2 hI2 g3 p_x1 => ?_)
  obtain ⟨z_S2, p_x1⟩ := p_x1
  subst z_S2
  intro _
  refine u_X9_refusedBy ?_
  refine u_X9_refusedBy_0 ?_
  refine ⟨o_v0, ?_⟩
  have hI := iv_sI (j := 9) (v := x1) hI o_v0 (by decide) (nu_free (by decide))
  refine ⟨fun c4 => ?_, fun c4 => ?_⟩
  · intro _ _
    refine ⟨fun c5 => ?_, fun c5 => ?_⟩
    · obtain ⟨a6, ea6, o_a6, -⟩ := sh 3 rfl hI o_v0
      refine ⟨a6, ea6, ?_⟩
      obtain ⟨a7, ea7, o_a7, -⟩ := sh 1 rfl hI o_v0
      refine ⟨a7, ea7, ?_⟩
      refine ⟨o_a7, ?_⟩
      obtain ⟨a8, ea8, o_a8, l_a8⟩ := shl 18 rfl hI o_a7
      refine ⟨a8, ea8, ?_⟩
      refine ⟨o_a8, ?_⟩
      have i10 : vp_in v1 (hN _ a8) := (vin l_a8 (m := 4) (by decide) (q0 p_x1 c4 c5))
      obtain ⟨a9, ea9, o_a9⟩ := ae hI o_a8 (by decide) (by decide) i10
      replace o_a9 : ob _ a9 6 := o_a9
      refine ⟨i10, a9, ea9, ?_⟩
      obtain ⟨a11, ea11, o_a11, -⟩ := sh 1 rfl hI o_v0
      refine ⟨a11, ea11, ?_⟩
      refine ⟨o_a11, ?_⟩
      obtain ⟨a12, ea12, o_a12, l_a12⟩ := shl 17 rfl hI o_a11
      refine ⟨a12, ea12, ?_⟩
      refine ⟨o_a12, ?_⟩
      have i14 : vp_in v2 (hN _ a12) := (vin l_a12 (m := 12) (by decide) (q1 p_x1 c4 c5))
      obtain ⟨a13, ea13, o_a13⟩ := ae hI o_a12 (by decide) (by decide) i14
      replace o_a13 : ob _ a13 5 := o_a13
      refine ⟨i14, a13, ea13, ?_⟩
      obtain ⟨a15, ea15, o_a15, -⟩ := sh 1 rfl hI o_v0
      refine ⟨a15, ea15, ?_⟩
      refine ⟨o_a15, ?_⟩
      obtain ⟨a16, ea16, o_a16, l_a16⟩ := shl 15 rfl hI o_a15
      refine ⟨a16, ea16, ?_⟩
      refine ⟨o_a16, ?_⟩
      have i18 : vp_in v4 (hN _ a16) := (vin l_a16 (m := 6) (by decide) (q2 p_x1 c4 c5))
      obtain ⟨a17, ea17, o_a17⟩ := ae hI o_a16 (by decide) (by decide) i18
      replace o_a17 : ob _ a17 3 := o_a17
      refine ⟨i18, a17, ea17, ?_⟩
      refine ⟨o_a6, ?_⟩
      refine m_X1_bestSpeed hI o_a6 o_a9 o_a13 o_a17 (fun x19 S20 hI g21 => ?_)
      have l_a12 := (gr_len g21 o_a12).trans l_a12
      have l_a16 := (gr_len g21 o_a16).trans l_a16
      have l_a8 := (gr_len g21 o_a8).trans l_a8
      have o_a11 := gr_ob g21 o_a11
      have o_a12 := gr_ob g21 o_a12
      have o_a13 := gr_ob g21 o_a13
      have o_a15 := gr_ob g21 o_a15
      have o_a16 := gr_ob g21 o_a16
      have o_a17 := gr_ob g21 o_a17
      have o_a6 := gr_ob g21 o_a6
      have o_a7 := gr_ob g21 o_a7
      have o_a8 := gr_ob g21 o_a8
      have o_a9 := gr_ob g21 o_a9
      have o_v0 := gr_ob g21 o_v0
      have g0 := gr_tr g0 g21
      intro _
      exact hq _ _ hI g0
    · exact hq _ _ hI g0
  · intro _ _
    refine ⟨fun c22 => ?_, fun c22 => ?_⟩
    · obtain ⟨a23, ea23, o_a23, -⟩ := sh 3 rfl hI o_v0
      refine ⟨a23, ea23, ?_⟩
      obtain ⟨a24, ea24, o_a24, -⟩ := sh 1 rfl hI o_v0
      refine ⟨a24, ea24, ?_⟩
      refine ⟨o_a24, ?_⟩
      obtain ⟨a25, ea25, o_a25, l_a25⟩ := shl 18 rfl hI o_a24
      refine ⟨a25, ea25, ?_⟩
      refine ⟨o_a25, ?_⟩
      have i27 : vp_in v1 (hN _ a25) := (vin l_a25 (m := 4) (by decide) (q3 p_x1 c4 c22))
      obtain ⟨a26, ea26, o_a26⟩ := ae hI o_a25 (by decide) (by decide) i27
      replace o_a26 : ob _ a26 6 := o_a26
      refine ⟨i27, a26, ea26, ?_⟩
      obtain ⟨a28, ea28, o_a28, -⟩ := sh 1 rfl hI o_v0
      refine ⟨a28, ea28, ?_⟩
      refine ⟨o_a28, ?_⟩
      obtain ⟨a29, ea29, o_a29, l_a29⟩ := shl 17 rfl hI o_a28
      refine ⟨a29, ea29, ?_⟩
      refine ⟨o_a29, ?_⟩
      have i31 : vp_in v2 (hN _ a29) := (vin l_a29 (m := 12) (by decide) (q4 p_x1 c4 c22))
      obtain ⟨a30, ea30, o_a30⟩ := ae hI o_a29 (by decide) (by decide) i31
      replace o_a30 : ob _ a30 5 := o_a30
      refine ⟨i31, a30, ea30, ?_⟩
      obtain ⟨a32, ea32, o_a32, -⟩ := sh 1 rfl hI o_v0
      refine ⟨a32, ea32, ?_⟩
      refine ⟨o_a32, ?_⟩
      obtain ⟨a33, ea33, o_a33, l_a33⟩ := shl 15 rfl hI o_a32
      refine ⟨a33, ea33, ?_⟩
      refine ⟨o_a33, ?_⟩
      have i35 : vp_in v4 (hN _ a33) := (vin l_a33 (m := 6) (by decide) (q5 p_x1 c4 c22))
      obtain ⟨a34, ea34, o_a34⟩ := ae hI o_a33 (by decide) (by decide) i35
      replace o_a34 : ob _ a34 3 := o_a34
      refine ⟨i35, a34, ea34, ?_⟩
      refine ⟨o_a23, ?_⟩
      refine m_X1_bestSpeed hI o_a23 o_a26 o_a30 o_a34 (fun x36 S37 hI g38 => ?_)
      have l_a25 := (gr_len g38 o_a25).trans l_a25
      have l_a29 := (gr_len g38 o_a29).trans l_a29
      have l_a33 := (gr_len g38 o_a33).trans l_a33
      have o_a23 := gr_ob g38 o_a23
      have o_a24 := gr_ob g38 o_a24
      have o_a25 := gr_ob g38 o_a25
      have o_a26 := gr_ob g38 o_a26
      have o_a28 := gr_ob g38 o_a28
      have o_a29 := gr_ob g38 o_a29
      have o_a30 := gr_ob g38 o_a30
      have o_a32 := gr_ob g38 o_a32
      have o_a33 := gr_ob g38 o_a33
      have o_a34 := gr_ob g38 o_a34
      have o_v0 := gr_ob g38 o_v0
      have g0 := gr_tr g0 g38
      intro _
      exact hq _ _ hI g0
    · exact hq _ _ hI g0
set_option maxHeartbeats 4000000 in
set_option maxRecDepth 20000 in
theorem m_X9_coatParts {v0 : Nat} {Q : Int64 → HS → Prop} {S : HS} (hI : IV S) (o_v0 : ob S v0 6)     (hq : ∀ (r : Int64) (T : HS), IV T → Gr S T → (S = T) → Q r T) : P_X9_coatParts v0 Q S := by
  have g0 := gr_rf S
  refine u_X9_coatParts ?_
  refine u_X9_coatParts_0 ?_
  refine ⟨o_v0, ?_⟩
  intro x1 ex1
  refine ⟨fun c2 => ?_, fun c2 => ?_⟩
  · exact hq _ _ hI g0 rfl
  · intro x3 ex3
    exact hq _ _ hI g0 rfl
set_option maxHeartbeats 4000000 in
set_option maxRecDepth 20000 in
theorem m_X9_commonDivisor {v0 : Int64} {v2 : Int64} {Q : Int64 → HS → Prop} {S : HS} (hI : IV S)      (hq : ∀ (r : Int64) (T : HS), IV T → Gr S T → (S = T) → Q r T) : P_X9_commonDivisor v0 v2 Q S := by
  have g0 := gr_rf S
  refine u_X9_commonDivisor ?_
  refine u_X9_commonDivisor_0 ?_
  refine i_X9_commonDivisor_9 (fun (y4 : Int64) (y6 : Int64) (y8 : Int32) (Z : HS) => ((2147483647 : Int32).toInt - y8.toInt).toNat) (fun (y4 : Int64) (y6 : Int64) (y8 : Int32) (Z : HS) => (S = Z) ∧ (0 ≤ y8)) ?_ _ _ _ _ ⟨rfl, (q43)⟩
  intro w3 w4 w5 S1 X6 ⟨eS1, i1⟩ ih7
  subst eS1
  refine u_X9_commonDivisor_9 ?_
  refine ⟨fun c8 => ?_, fun c8 => ?_⟩
  · exact hq _ _ hI g0 rfl
  · refine ⟨fun c9 => ?_, fun c9 => ?_⟩
    · exact hq _ _ hI g0 rfl
    · refine ⟨(q133 c9), ?_⟩
      intro x10 ex10
      intro x11 ex11
      exact ih7 _ _ _ _ ⟨rfl, (q134 i1 c8 ex11)⟩ (mu_up (q135 i1 c8 ex11) (q136 i1 c8 ex11))
set_option maxHeartbeats 4000000 in
set_option maxRecDepth 20000 in
theorem m_X9_refuse {v0 : Nat} {v1 : Int32} {Q : Int32 → HS → Prop} {S : HS} (hI : IV S) (o_v0 : ob S v0 9)     (hq : ∀ (r : Int32) (T : HS), IV T → Gr S T → Q r T) : P_X9_refuse v0 v1 Q S := by
  have g0 := gr_rf S
  refine u_X9_refuse ?_
  refine u_X9_refuse_0 ?_
  refine ⟨o_v0, ?_⟩
  have hI := iv_sI (j := 9) (v := v1) hI o_v0 (by decide) (nu_free (by decide))
  exact hq _ _ hI g0
set_option maxHeartbeats 4000000 in
set_option maxRecDepth 20000 in
theorem m_X9_day {v0 : Nat} {v1 : Int32} {v2 : Int32} {v3 : Int32} {v4 : Int32} {Q : Int32 → HS → Prop} {S : HS} (hI : IV S) (o_v0 : ob S v0 9)     (hq : ∀ (r : Int32) (T : HS), IV T → Gr S T → Q r T) : P_X9_day v0 v1 v2 v3 v4 Q S := by
  have g0 := gr_rf S
  refine u_X9_day ?_
  refine u_X9_day_0 ?_
  refine ⟨o_v0, ?_⟩
  obtain ⟨a1, ea1, o_a1, -⟩ := sh 1 rfl hI o_v0
  refine ⟨a1, ea1, ?_⟩
  refine ⟨o_a1, ?_⟩
  refine m_X8_hasWalker hI o_a1 (fun x2 S3 hI2 g4 b_x2 p_x2 => ?_)
  obtain ⟨z_S3, p_x2⟩ := p_x2
  subst z_S3
  intro _ _
  have bb_x2 : x2 = 0 ∨ x2 = 1 := b_x2
  refine ⟨fun c5 => ?_, fun c5 => ?_⟩
  · refine u_X9_day_22 ?_
    refine ⟨o_v0, ?_⟩
    refine u_X9_refuse ?_
    refine u_X9_refuse_0 ?_
    refine ⟨o_v0, ?_⟩
    have hI := iv_sI (j := 9) (v := (1 : Int32)) hI o_v0 (by decide) (nu_free (by decide))
    intro _
    exact hq _ _ hI g0
  · obtain ⟨a6, ea6, o_a6, -⟩ := sh 1 rfl hI o_v0
    refine ⟨a6, ea6, ?_⟩
    refine ⟨o_a6, ?_⟩
    refine m_X8_hasPlace hI o_a6 (fun x7 S8 hI2 g9 b_x7 p_x7 => ?_)
    obtain ⟨z_S8, p_x7⟩ := p_x7
    subst z_S8
    intro _ _
    have bb_x7 : x7 = 0 ∨ x7 = 1 := b_x7
    refine ⟨fun c10 => ?_, fun c10 => ?_⟩
    · refine ⟨fun c11 => ?_, fun c11 => ?_⟩
      · refine u_X9_day_52 ?_
        refine ⟨o_v0, ?_⟩
        refine u_X9_refuse ?_
        refine u_X9_refuse_0 ?_
        refine ⟨o_v0, ?_⟩
        have hI := iv_sI (j := 9) (v := (2 : Int32)) hI o_v0 (by decide) (nu_free (by decide))
        intro _
        exact hq _ _ hI g0
      · refine ⟨fun c12 => ?_, fun c12 => ?_⟩
        · refine u_X9_day_52 ?_
          refine ⟨o_v0, ?_⟩
          refine u_X9_refuse ?_
          refine u_X9_refuse_0 ?_
          refine ⟨o_v0, ?_⟩
          have hI := iv_sI (j := 9) (v := (2 : Int32)) hI o_v0 (by decide) (nu_free (by decide))
          intro _
          exact hq _ _ hI g0
        · refine ⟨fun c13 => ?_, fun c13 => ?_⟩
          · refine u_X9_day_52 ?_
            refine ⟨o_v0, ?_⟩
            refine u_X9_refuse ?_
            refine u_X9_refuse_0 ?_
            refine ⟨o_v0, ?_⟩
            have hI := iv_sI (j := 9) (v := (2 : Int32)) hI o_v0 (by decide) (nu_free (by decide))
            intro _
            exact hq _ _ hI g0
          · refine ⟨fun c14 => ?_, fun c14 => ?_⟩
            · obtain ⟨a15, ea15, o_a15, -⟩ := sh 5 rfl hI o_v0
              refine ⟨a15, ea15, ?_⟩
              refine ⟨o_a15, ?_⟩
              refine m_X0_begin hI o_a15 (fun S17 hI g18 => ?_)
              have o_a1 := gr_ob g18 o_a1
              have o_a15 := gr_ob g18 o_a15
              have o_a6 := gr_ob g18 o_a6
              have o_v0 := gr_ob g18 o_v0
              have g0 := gr_tr g0 g18
              intro _
              obtain ⟨a19, ea19, o_a19, -⟩ := sh 5 rfl hI o_v0
              refine ⟨a19, ea19, ?_⟩
              obtain ⟨a20, ea20, o_a20, -⟩ := sh 1 rfl hI o_v0
              refine ⟨a20, ea20, ?_⟩
              refine ⟨o_a19, ?_⟩
              refine m_X0_draw hI o_a19 o_a20 (fun S22 hI g23 => ?_)
              have o_a1 := gr_ob g23 o_a1
              have o_a15 := gr_ob g23 o_a15
              have o_a19 := gr_ob g23 o_a19
              have o_a20 := gr_ob g23 o_a20
              have o_a6 := gr_ob g23 o_a6
              have o_v0 := gr_ob g23 o_v0
              have g0 := gr_tr g0 g23
              intro _
              obtain ⟨a24, ea24, o_a24, -⟩ := sh 5 rfl hI o_v0
              refine ⟨a24, ea24, ?_⟩
              refine ⟨o_a24, ?_⟩
              intro x25 ex25
              refine u_X9_grant ?_
              refine u_X9_grant_0 ?_
              refine ⟨o_v0, ?_⟩
              have hI := iv_sI (j := 9) (v := (0 : Int32)) hI o_v0 (by decide) (nu_free (by decide))
              intro _
              exact hq _ _ hI g0
            · refine u_X9_day_52 ?_
              refine ⟨o_v0, ?_⟩
              refine u_X9_refuse ?_
              refine u_X9_refuse_0 ?_
              refine ⟨o_v0, ?_⟩
              have hI := iv_sI (j := 9) (v := (2 : Int32)) hI o_v0 (by decide) (nu_free (by decide))
              intro _
              exact hq _ _ hI g0
    · refine u_X9_day_22 ?_
      refine ⟨o_v0, ?_⟩
      refine u_X9_refuse ?_
      refine u_X9_refuse_0 ?_
      refine ⟨o_v0, ?_⟩
      have hI := iv_sI (j := 9) (v := (1 : Int32)) hI o_v0 (by decide) (nu_free (by decide))
      intro _
      exact hq _ _ hI g0
