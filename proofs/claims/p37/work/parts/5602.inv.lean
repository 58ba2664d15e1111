set_option maxHeartbeats 4000000 in
set_option maxRecDepth 20000 in
theorem m_X11_wetAtBest {v0 : Nat} {v1 : Int32} {v2 : Int32} {v3 : Int32} {v4 : Int32} {Q : Int64 → HS → Prop} {S : HS} (hI : IV S) (o_v0 : ob S v0 11)   (h0 : 0 ≤ v2 ∧ v2 < 12) (h1 : 0 ≤ v4 ∧ v4 < 6)  (hwi1 : WI S v0 4 v1) (hq : ∀ (r : Int64) (T : HS), IV T → Gr S T → (S = T) → Q r T) : P_X11_wetAtBest v0 v1 v2 v3 v4 Q S := by
  have g0 := gr_rf S
  obtain ⟨a1, ea1, hx1⟩ := hwi1
  have o_a1 := ml_ob hI o_v0 ea1
  obtain ⟨kv2, d_kv2⟩ : ∃ z : Int32, z = fI S a1 4 := ⟨_, rfl⟩
  have r_kv2 : (0 : Int32) ≤ kv2 ∧ kv2 ≤ (4 : Int32) := by rw [d_kv2]; exact nu 20 rfl hI o_a1
  have hwi1 : 0 ≤ v1 ∧ v1 < kv2 := by rw [d_kv2]; exact hx1
  refine u_X11_wetAtBest ?_
  refine u_X11_wetAtBest_0 ?_
  refine ⟨o_v0, ?_⟩
  refine m_X11_bestOf hI o_v0 (qm17 h0) (qm18 h1) ⟨_, ea1, (qm642 r_kv2 hwi1), (by rw [← d_kv2]; exact (qm643 r_kv2 hwi1))⟩ (fun x3 S4 hI2 g5 p_x3 => ?_)
  obtain ⟨z_S4, p_x3⟩ := p_x3
  subst z_S4
  intro _
  refine m_X11_wetOf hI o_v0 (qm644 r_kv2 hwi1) (qm17 h0) (qm18 h1) (qm645 p_x3) ⟨_, ea1⟩ (fun x7 S8 hI2 g9 p_x7 => ?_)
  subst p_x7
  intro _
  exact hq _ _ hI g0 rfl
set_option maxHeartbeats 4000000 in
set_option maxRecDepth 20000 in
theorem m_X11_driest {v0 : Nat} {v1 : Int32} {v2 : Int32} {v3 : Int32} {Q : Int32 → HS → Prop} {S : HS} (hI : IV S) (o_v0 : ob S v0 11)     (hq : ∀ (r : Int32) (T : HS), IV T → Gr S T → FRI [(11, 0), (11, 1), (11, 2)] [] S T → Q r T) : P_X11_driest v0 v1 v2 v3 Q S := by
  have g0 := gr_rf S
  have f0 := fri_rf [(11, 0), (11, 1), (11, 2)] [] S
  refine u_X11_driest ?_
  refine u_X11_driest_0 ?_
  refine ⟨o_v0, ?_⟩
  intro S1 eS1
  have hIn : IV S1 := by rw [eS1]; exact iv11_sI hI o_v0 (by decide) (nu_free (by decide))
  have hI := hIn
  have f0 := fr_I eS1 g0 f0 o_v0 (by decide)
  obtain ⟨kv2, hkv2⟩ : ∃ z : Int32, z = (0 : Int32) := ⟨_, rfl⟩
  have d_kv2 := rd_Is eS1 hkv2
  have g0 := gr_I eS1 g0
  have o_v0 := ob_I eS1 o_v0
  refine u_X11_isWalker ?_
  refine u_X11_isWalker_0 ?_
  refine ⟨o_v0, ?_⟩
  refine ⟨fun e4 => ?_, fun a3 ea3 => ?_⟩
  · intro _ _
    refine ⟨fun c6 => ?_, fun c6 => absurd (show ¬ (0 : Int32) = 0 from c6) (by decide)⟩
    refine u_X11_driest_30 ?_
    refine ⟨o_v0, ?_⟩
    refine u_X11_refused ?_
    refine u_X11_refused_0 ?_
    refine ⟨o_v0, ?_⟩
    intro S7 eS7
    have hIn : IV S7 := by rw [eS7]; exact iv11_sI hI o_v0 (by decide) (nu_free (by decide))
    have hI := hIn
    have f0 := fr_I eS7 g0 f0 o_v0 (by decide)
    have d_kv2 := rd_Ij eS7 (by decide) d_kv2
    obtain ⟨kv8, hkv8⟩ : ∃ z : Int32, z = (1 : Int32) := ⟨_, rfl⟩
    have d_kv8 := rd_Is eS7 hkv8
    have g0 := gr_I eS7 g0
    have o_v0 := ob_I eS7 o_v0
    intro S9 eS9
    have hIn : IV S9 := by rw [eS9]; exact iv11_sI hI o_v0 (by decide) (nu_free (by decide))
    have hI := hIn
    have f0 := fr_I eS9 g0 f0 o_v0 (by decide)
    have d_kv2 := rd_Ij eS9 (by decide) d_kv2
    have d_kv8 := rd_Ij eS9 (by decide) d_kv8
    obtain ⟨kv10, hkv10⟩ : ∃ z : Int32, z = (-1 : Int32) := ⟨_, rfl⟩
    have d_kv10 := rd_Is eS9 hkv10
    have g0 := gr_I eS9 g0
    have o_v0 := ob_I eS9 o_v0
    intro _
    exact hq _ _ hI g0 f0
  · have o_a3 := ml_ob hI o_v0 ea3
    refine ⟨fun c12 => ?_, fun c12 => ?_⟩
    · intro _ _
      refine ⟨fun c14 => ?_, fun c14 => absurd (show ¬ (0 : Int32) = 0 from c14) (by decide)⟩
      refine u_X11_driest_30 ?_
      refine ⟨o_v0, ?_⟩
      refine u_X11_refused ?_
      refine u_X11_refused_0 ?_
      refine ⟨o_v0, ?_⟩
      intro S15 eS15
      have hIn : IV S15 := by rw [eS15]; exact iv11_sI hI o_v0 (by decide) (nu_free (by decide))
      have hI := hIn
      have f0 := fr_I eS15 g0 f0 o_v0 (by decide)
      have d_kv2 := rd_Ij eS15 (by decide) d_kv2
      obtain ⟨kv16, hkv16⟩ : ∃ z : Int32, z = (1 : Int32) := ⟨_, rfl⟩
      have d_kv16 := rd_Is eS15 hkv16
      have ea3 := rf_I eS15 ea3
      have g0 := gr_I eS15 g0
      have o_a3 := ob_I eS15 o_a3
      have o_v0 := ob_I eS15 o_v0
      intro S17 eS17
      have hIn : IV S17 := by rw [eS17]; exact iv11_sI hI o_v0 (by decide) (nu_free (by decide))
      have hI := hIn
      have f0 := fr_I eS17 g0 f0 o_v0 (by decide)
      have d_kv2 := rd_Ij eS17 (by decide) d_kv2
      have d_kv16 := rd_Ij eS17 (by decide) d_kv16
      obtain ⟨kv18, hkv18⟩ : ∃ z : Int32, z = (-1 : Int32) := ⟨_, rfl⟩
      have d_kv18 := rd_Is eS17 hkv18
      have ea3 := rf_I eS17 ea3
      have g0 := gr_I eS17 g0
      have o_a3 := ob_I eS17 o_a3
      have o_v0 := ob_I eS17 o_v0
      intro _
      exact hq _ _ hI g0 f0
    · refine ⟨a3, ea3, ?_⟩
      refine ⟨o_a3, ?_⟩
      intro x21 ex21
      have r_x21 : (0 : Int32) ≤ x21 ∧ x21 ≤ (4 : Int32) := by rw [ex21]; exact nu 20 rfl hI o_a3
      have d_x21 := ex21
      refine ⟨fun c22 => ?_, fun c22 => ?_⟩
      · intro _ _
        refine ⟨fun c24 => ?_, fun c24 => absurd (show ¬ (0 : Int32) = 0 from c24) (by decide)⟩
        refine u_X11_driest_30 ?_
        refine ⟨o_v0, ?_⟩
        refine u_X11_refused ?_
        refine u_X11_refused_0 ?_
        refine ⟨o_v0, ?_⟩
        intro S25 eS25
        have hIn : IV S25 := by rw [eS25]; exact iv11_sI hI o_v0 (by decide) (nu_free (by decide))
        have hI := hIn
        have f0 := fr_I eS25 g0 f0 o_v0 (by decide)
        have d_kv2 := rd_Ij eS25 (by decide) d_kv2
        have d_x21 := rd_Ik eS25 o_v0 o_a3 (by decide) d_x21
        obtain ⟨kv26, hkv26⟩ : ∃ z : Int32, z = (1 : Int32) := ⟨_, rfl⟩
        have d_kv26 := rd_Is eS25 hkv26
        have ea3 := rf_I eS25 ea3
        have g0 := gr_I eS25 g0
        have o_a3 := ob_I eS25 o_a3
        have o_v0 := ob_I eS25 o_v0
        intro S27 eS27
        have hIn : IV S27 := by rw [eS27]; exact iv11_sI hI o_v0 (by decide) (nu_free (by decide))
        have hI := hIn
        have f0 := fr_I eS27 g0 f0 o_v0 (by decide)
        have d_kv2 := rd_Ij eS27 (by decide) d_kv2
        have d_x21 := rd_Ik eS27 o_v0 o_a3 (by decide) d_x21
        have d_kv26 := rd_Ij eS27 (by decide) d_kv26
        obtain ⟨kv28, hkv28⟩ : ∃ z : Int32, z = (-1 : Int32) := ⟨_, rfl⟩
        have d_kv28 := rd_Is eS27 hkv28
        have ea3 := rf_I eS27 ea3
        have g0 := gr_I eS27 g0
        have o_a3 := ob_I eS27 o_a3
        have o_v0 := ob_I eS27 o_v0
        intro _
        exact hq _ _ hI g0 f0
      · intro _ _
        refine ⟨fun c31 => absurd (show (1 : Int32) = 0 from c31) (by decide), fun c31 => ?_⟩
        refine u_X11_isRoad ?_
        refine u_X11_isRoad_0 ?_
        refine ⟨o_v0, ?_⟩
        refine ⟨fun e33 => (nomatch (e33.symm.trans ea3)), fun a32 ea32 => ?_⟩
        obtain rfl : a3 = a32 := Option.some.inj (ea3.symm.trans ea32)
        refine ⟨fun c34 => ?_, fun c34 => ?_⟩
        · intro _ _
          refine ⟨fun c36 => ?_, fun c36 => absurd (show ¬ (0 : Int32) = 0 from c36) (by decide)⟩
          refine u_X11_driest_30 ?_
          refine ⟨o_v0, ?_⟩
          refine u_X11_refused ?_
          refine u_X11_refused_0 ?_
          refine ⟨o_v0, ?_⟩
          intro S37 eS37
          have hIn : IV S37 := by rw [eS37]; exact iv11_sI hI o_v0 (by decide) (nu_free (by decide))
          have hI := hIn
          have f0 := fr_I eS37 g0 f0 o_v0 (by decide)
          have d_kv2 := rd_Ij eS37 (by decide) d_kv2
          have d_x21 := rd_Ik eS37 o_v0 o_a3 (by decide) d_x21
          obtain ⟨kv38, hkv38⟩ : ∃ z : Int32, z = (1 : Int32) := ⟨_, rfl⟩
          have d_kv38 := rd_Is eS37 hkv38
          have ea3 := rf_I eS37 ea3
          have g0 := gr_I eS37 g0
          have o_a3 := ob_I eS37 o_a3
          have o_v0 := ob_I eS37 o_v0
          intro S39 eS39
          have hIn : IV S39 := by rw [eS39]; exact iv11_sI hI o_v0 (by decide) (nu_free (by decide))
          have hI := hIn
          have f0 := fr_I eS39 g0 f0 o_v0 (by decide)
          have d_kv2 := rd_Ij eS39 (by decide) d_kv2
          have d_x21 := rd_Ik eS39 o_v0 o_a3 (by decide) d_x21
          have d_kv38 := rd_Ij eS39 (by decide) d_kv38
          obtain ⟨kv40, hkv40⟩ : ∃ z : Int32, z = (-1 : Int32) := ⟨_, rfl⟩
          have d_kv40 := rd_Is eS39 hkv40
          have ea3 := rf_I eS39 ea3
          have g0 := gr_I eS39 g0
          have o_a3 := ob_I eS39 o_a3
          have o_v0 := ob_I eS39 o_v0
          intro _
          exact hq _ _ hI g0 f0
        · refine ⟨a3, ea3, ?_⟩
          refine ⟨o_a3, ?_⟩
          intro x43 ex43
          have r_x43 : (0 : Int32) ≤ x43 ∧ x43 ≤ (12 : Int32) := by rw [ex43]; exact nu 19 rfl hI o_a3
          have d_x43 := ex43
          refine ⟨fun c44 => ?_, fun c44 => ?_⟩
          · intro _ _
            refine ⟨fun c46 => ?_, fun c46 => absurd (show ¬ (0 : Int32) = 0 from c46) (by decide)⟩
            refine u_X11_driest_30 ?_
            refine ⟨o_v0, ?_⟩
            refine u_X11_refused ?_
            refine u_X11_refused_0 ?_
            refine ⟨o_v0, ?_⟩
            intro S47 eS47
            have hIn : IV S47 := by rw [eS47]; exact iv11_sI hI o_v0 (by decide) (nu_free (by decide))
            have hI := hIn
            have f0 := fr_I eS47 g0 f0 o_v0 (by decide)
            have d_kv2 := rd_Ij eS47 (by decide) d_kv2
            have d_x21 := rd_Ik eS47 o_v0 o_a3 (by decide) d_x21
            have d_x43 := rd_Ik eS47 o_v0 o_a3 (by decide) d_x43
            obtain ⟨kv48, hkv48⟩ : ∃ z : Int32, z = (1 : Int32) := ⟨_, rfl⟩
            have d_kv48 := rd_Is eS47 hkv48
            have ea3 := rf_I eS47 ea3
            have g0 := gr_I eS47 g0
            have o_a3 := ob_I eS47 o_a3
            have o_v0 := ob_I eS47 o_v0
            intro S49 eS49
            have hIn : IV S49 := by rw [eS49]; exact iv11_sI hI o_v0 (by decide) (nu_free (by decide))
            have hI := hIn
            have f0 := fr_I eS49 g0 f0 o_v0 (by decide)
            have d_kv2 := rd_Ij eS49 (by decide) d_kv2
            have d_x21 := rd_Ik eS49 o_v0 o_a3 (by decide) d_x21
            have d_x43 := rd_Ik eS49 o_v0 o_a3 (by decide) d_x43
            have d_kv48 := rd_Ij eS49 (by decide) d_kv48
            obtain ⟨kv50, hkv50⟩ : ∃ z : Int32, z = (-1 : Int32) := ⟨_, rfl⟩
            have d_kv50 := rd_Is eS49 hkv50
            have ea3 := rf_I eS49 ea3
            have g0 := gr_I eS49 g0
            have o_a3 := ob_I eS49 o_a3
            have o_v0 := ob_I eS49 o_v0
            intro _
            exact hq _ _ hI g0 f0
          · intro _ _
            refine ⟨fun c53 => absurd (show (1 : Int32) = 0 from c53) (by decide), fun c53 => ?_⟩
            refine u_X11_in ?_
            refine u_X11_in_0 ?_
            refine ⟨fun c54 => ?_, fun c54 => ?_⟩
            · intro _ _
              refine ⟨fun c56 => absurd (show ¬ (0 : Int32) = 0 from c56) (by decide), fun c56 => ?_⟩
              refine u_X11_driest_30 ?_
              refine ⟨o_v0, ?_⟩
              refine u_X11_refused ?_
              refine u_X11_refused_0 ?_
              refine ⟨o_v0, ?_⟩
              intro S57 eS57
              have hIn : IV S57 := by rw [eS57]; exact iv11_sI hI o_v0 (by decide) (nu_free (by decide))
              have hI := hIn
              have f0 := fr_I eS57 g0 f0 o_v0 (by decide)
              have d_kv2 := rd_Ij eS57 (by decide) d_kv2
              have d_x21 := rd_Ik eS57 o_v0 o_a3 (by decide) d_x21
              have d_x43 := rd_Ik eS57 o_v0 o_a3 (by decide) d_x43
              obtain ⟨kv58, hkv58⟩ : ∃ z : Int32, z = (1 : Int32) := ⟨_, rfl⟩
              have d_kv58 := rd_Is eS57 hkv58
              have ea3 := rf_I eS57 ea3
              have g0 := gr_I eS57 g0
              have o_a3 := ob_I eS57 o_a3
              have o_v0 := ob_I eS57 o_v0
              intro S59 eS59
              have hIn : IV S59 := by rw [eS59]; exact iv11_sI hI o_v0 (by decide) (nu_free (by decide))
              have hI := hIn
              have f0 := fr_I eS59 g0 f0 o_v0 (by decide)
              have d_kv2 := rd_Ij eS59 (by decide) d_kv2
              have d_x21 := rd_Ik eS59 o_v0 o_a3 (by decide) d_x21
              have d_x43 := rd_Ik eS59 o_v0 o_a3 (by decide) d_x43
              have d_kv58 := rd_Ij eS59 (by decide) d_kv58
              obtain ⟨kv60, hkv60⟩ : ∃ z : Int32, z = (-1 : Int32) := ⟨_, rfl⟩
              have d_kv60 := rd_Is eS59 hkv60
              have ea3 := rf_I eS59 ea3
              have g0 := gr_I eS59 g0
              have o_a3 := ob_I eS59 o_a3
              have o_v0 := ob_I eS59 o_v0
              intro _
              exact hq _ _ hI g0 f0
            · refine ⟨fun c62 => ?_, fun c62 => ?_⟩
              · intro _ _
                refine ⟨fun c64 => absurd (show ¬ (0 : Int32) = 0 from c64) (by decide), fun c64 => ?_⟩
                refine u_X11_driest_30 ?_
                refine ⟨o_v0, ?_⟩
                refine u_X11_refused ?_
                refine u_X11_refused_0 ?_
                refine ⟨o_v0, ?_⟩
                intro S65 eS65
                have hIn : IV S65 := by rw [eS65]; exact iv11_sI hI o_v0 (by decide) (nu_free (by decide))
                have hI := hIn
                have f0 := fr_I eS65 g0 f0 o_v0 (by decide)
                have d_kv2 := rd_Ij eS65 (by decide) d_kv2
                have d_x21 := rd_Ik eS65 o_v0 o_a3 (by decide) d_x21
                have d_x43 := rd_Ik eS65 o_v0 o_a3 (by decide) d_x43
                obtain ⟨kv66, hkv66⟩ : ∃ z : Int32, z = (1 : Int32) := ⟨_, rfl⟩
                have d_kv66 := rd_Is eS65 hkv66
                have ea3 := rf_I eS65 ea3
                have g0 := gr_I eS65 g0
                have o_a3 := ob_I eS65 o_a3
                have o_v0 := ob_I eS65 o_v0
                intro S67 eS67
                have hIn : IV S67 := by rw [eS67]; exact iv11_sI hI o_v0 (by decide) (nu_free (by decide))
                have hI := hIn
                have f0 := fr_I eS67 g0 f0 o_v0 (by decide)
                have d_kv2 := rd_Ij eS67 (by decide) d_kv2
                have d_x21 := rd_Ik eS67 o_v0 o_a3 (by decide) d_x21
                have d_x43 := rd_Ik eS67 o_v0 o_a3 (by decide) d_x43
                have d_kv66 := rd_Ij eS67 (by decide) d_kv66
                obtain ⟨kv68, hkv68⟩ : ∃ z : Int32, z = (-1 : Int32) := ⟨_, rfl⟩
                have d_kv68 := rd_Is eS67 hkv68
                have ea3 := rf_I eS67 ea3
                have g0 := gr_I eS67 g0
                have o_a3 := ob_I eS67 o_a3
                have o_v0 := ob_I eS67 o_v0
                intro _
                exact hq _ _ hI g0 f0
              · intro _ _
                refine ⟨fun c71 => ?_, fun c71 => absurd (show (1 : Int32) = 0 from c71) (by decide)⟩
                refine i_X11_driest_45 (fun (y0 : Nat) (y1 : Int32) (y2 : Int32) (y3 : Int32) (y4 : Int32) (y5 : Int64) (y7 : Int32) (Z : HS) => ((2147483647 : Int32).toInt - y7.toInt).toNat) (fun (y0 : Nat) (y1 : Int32) (y2 : Int32) (y3 : Int32) (y4 : Int32) (y5 : Int64) (y7 : Int32) (Z : HS) => (S1 = Z) ∧ (v0 = y0) ∧ (v1 = y1) ∧ (v2 = y2) ∧ (v3 = y3) ∧ (0 ≤ y7)) ?_ _ _ _ _ _ _ _ _ ⟨rfl, rfl, rfl, rfl, rfl, (qm627 c12 r_x21 c22 c34 r_x43 c44 c54 c62)⟩
                intro w76 w78 w80 w82 w84 w85 w86 S73 X87 ⟨eS73, q77, q79, q81, q83, i1u72⟩ ih88
                subst q77
                subst q79
                subst q81
                subst q83
                subst eS73
                refine u_X11_driest_45 ?_
                refine ⟨o_v0, ?_⟩
                refine ⟨a3, ea3, ?_⟩
                refine ⟨o_a3, ?_⟩
                intro x90 ex90
                have r_x90 : (0 : Int32) ≤ x90 ∧ x90 ≤ (6 : Int32) := by rw [ex90]; exact nu 17 rfl hI o_a3
                have d_x90 := ex90
                refine ⟨fun c91 => ?_, fun c91 => ?_⟩
                · refine ⟨fun c92 => ?_, fun c92 => ?_⟩
                  · refine u_X11_good ?_
                    refine u_X11_good_0 ?_
                    refine ⟨o_v0, ?_⟩
                    intro S93 eS93
                    have hIn : IV S93 := by rw [eS93]; exact iv11_sI hI o_v0 (by decide) (nu_free (by decide))
                    have hI := hIn
                    have f0 := fr_I eS93 g0 f0 o_v0 (by decide)
                    have d_kv2 := rd_Ij eS93 (by decide) d_kv2
                    have d_x21 := rd_Ik eS93 o_v0 o_a3 (by decide) d_x21
                    have d_x43 := rd_Ik eS93 o_v0 o_a3 (by decide) d_x43
                    have d_x90 := rd_Ik eS93 o_v0 o_a3 (by decide) d_x90
                    obtain ⟨kv94, hkv94⟩ : ∃ z : Int32, z = (0 : Int32) := ⟨_, rfl⟩
                    have d_kv94 := rd_Is eS93 hkv94
                    have ea3 := rf_I eS93 ea3
                    have g0 := gr_I eS93 g0
                    have o_a3 := ob_I eS93 o_a3
                    have o_v0 := ob_I eS93 o_v0
                    intro S95 eS95
                    have hIn : IV S95 := by rw [eS95]; exact iv11_sI hI o_v0 (by decide) (nu_free (by decide))
                    have hI := hIn
                    have f0 := fr_I eS95 g0 f0 o_v0 (by decide)
                    have d_kv2 := rd_Ij eS95 (by decide) d_kv2
                    have d_x21 := rd_Ik eS95 o_v0 o_a3 (by decide) d_x21
                    have d_x43 := rd_Ik eS95 o_v0 o_a3 (by decide) d_x43
                    have d_x90 := rd_Ik eS95 o_v0 o_a3 (by decide) d_x90
                    have d_kv94 := rd_Ij eS95 (by decide) d_kv94
                    obtain ⟨kv96, hkv96⟩ : ∃ z : Int32, z = (-1 : Int32) := ⟨_, rfl⟩
                    have d_kv96 := rd_Is eS95 hkv96
                    have ea3 := rf_I eS95 ea3
                    have g0 := gr_I eS95 g0
                    have o_a3 := ob_I eS95 o_a3
                    have o_v0 := ob_I eS95 o_v0
                    intro _
                    exact hq _ _ hI g0 f0
                  · refine u_X11_refused ?_
                    refine u_X11_refused_0 ?_
                    refine ⟨o_v0, ?_⟩
                    intro S98 eS98
                    have hIn : IV S98 := by rw [eS98]; exact iv11_sI hI o_v0 (by decide) (nu_free (by decide))
                    have hI := hIn
                    have f0 := fr_I eS98 g0 f0 o_v0 (by decide)
                    have d_kv2 := rd_Ij eS98 (by decide) d_kv2
                    have d_x21 := rd_Ik eS98 o_v0 o_a3 (by decide) d_x21
                    have d_x43 := rd_Ik eS98 o_v0 o_a3 (by decide) d_x43
                    have d_x90 := rd_Ik eS98 o_v0 o_a3 (by decide) d_x90
                    obtain ⟨kv99, hkv99⟩ : ∃ z : Int32, z = (6 : Int32) := ⟨_, rfl⟩
                    have d_kv99 := rd_Is eS98 hkv99
                    have ea3 := rf_I eS98 ea3
                    have g0 := gr_I eS98 g0
                    have o_a3 := ob_I eS98 o_a3
                    have o_v0 := ob_I eS98 o_v0
                    intro S100 eS100
                    have hIn : IV S100 := by rw [eS100]; exact iv11_sI hI o_v0 (by decide) (nu_free (by decide))
                    have hI := hIn
                    have f0 := fr_I eS100 g0 f0 o_v0 (by decide)
                    have d_kv2 := rd_Ij eS100 (by decide) d_kv2
                    have d_x21 := rd_Ik eS100 o_v0 o_a3 (by decide) d_x21
                    have d_x43 := rd_Ik eS100 o_v0 o_a3 (by decide) d_x43
                    have d_x90 := rd_Ik eS100 o_v0 o_a3 (by decide) d_x90
                    have d_kv99 := rd_Ij eS100 (by decide) d_kv99
                    obtain ⟨kv101, hkv101⟩ : ∃ z : Int32, z = (-1 : Int32) := ⟨_, rfl⟩
                    have d_kv101 := rd_Is eS100 hkv101
                    have ea3 := rf_I eS100 ea3
                    have g0 := gr_I eS100 g0
                    have o_a3 := ob_I eS100 o_a3
                    have o_v0 := ob_I eS100 o_v0
                    intro _
                    exact hq _ _ hI g0 f0
                · refine m_X11_wetAtBest hI o_v0 (qm628 c12 r_x21 c22 c34 r_x43 c44 c54 c62 i1u72 r_x90 c91) (qm629 c12 r_x21 c22 c34 r_x43 c44 c54 c62 i1u72 r_x90 c91) ⟨_, ea3, (qm630 c12 r_x21 c22 c34 r_x43 c44 c54 c62 i1u72 r_x90 c91), (by rw [← d_x21]; exact (qm631 c12 r_x21 c22 c34 r_x43 c44 c54 c62 i1u72 r_x90 c91))⟩ (fun x103 S104 hI2 g105 p_x103 => ?_)
                  subst p_x103
                  intro _
                  refine ⟨a3, ea3, ?_⟩
                  refine ⟨o_a3, ?_⟩
                  obtain ⟨a108, ea108, o_a108, l_a108⟩ := shl 33 rfl hI o_a3
                  refine ⟨a108, ea108, ?_⟩
                  refine ⟨o_a108, ?_⟩
                  refine ⟨(vin l_a108 (m := 6) (by decide) (qm632 c12 r_x21 c22 c34 r_x43 c44 c54 c62 i1u72 r_x90 c91)), ?_⟩
                  intro x109 ex109
                  intro x110 ex110
                  refine ⟨fun c111 => ?_, fun c111 => ?_⟩
                  · refine u_X11_driest_97 ?_
                    refine u_X11_driest_105 ?_
                    intro x112 ex112
                    exact ih88 _ _ _ _ _ _ _ _ ⟨rfl, rfl, rfl, rfl, rfl, (qm633 c12 r_x21 c22 c34 r_x43 c44 c54 c62 i1u72 r_x90 c91 c111 ex112)⟩ (mu_up (qm634 c12 r_x21 c22 c34 r_x43 c44 c54 c62 i1u72 r_x90 c91 c111 ex112) (qm635 c12 r_x21 c22 c34 r_x43 c44 c54 c62 i1u72 r_x90 c91 c111 ex112))
                  · refine ⟨fun c113 => ?_, fun c113 => ?_⟩
                    · refine u_X11_driest_97 ?_
                      refine u_X11_driest_105 ?_
                      intro x114 ex114
                      exact ih88 _ _ _ _ _ _ _ _ ⟨rfl, rfl, rfl, rfl, rfl, (qm636 c12 r_x21 c22 c34 r_x43 c44 c54 c62 i1u72 r_x90 c91 c111 c113 ex114)⟩ (mu_up (qm637 c12 r_x21 c22 c34 r_x43 c44 c54 c62 i1u72 r_x90 c91 c111 c113 ex114) (qm638 c12 r_x21 c22 c34 r_x43 c44 c54 c62 i1u72 r_x90 c91 c111 c113 ex114))
                    · refine u_X11_driest_105 ?_
                      intro x115 ex115
                      exact ih88 _ _ _ _ _ _ _ _ ⟨rfl, rfl, rfl, rfl, rfl, (qm639 c12 r_x21 c22 c34 r_x43 c44 c54 c62 i1u72 r_x90 c91 c111 c113 ex115)⟩ (mu_up (qm640 c12 r_x21 c22 c34 r_x43 c44 c54 c62 i1u72 r_x90 c91 c111 c113 ex115) (qm641 c12 r_x21 c22 c34 r_x43 c44 c54 c62 i1u72 r_x90 c91 c111 c113 ex115))
set_option maxHeartbeats 4000000 in
set_option maxRecDepth 20000 in
theorem m_X11_even {v0 : Nat} {v1 : Int32} {v2 : Int32} {v3 : Int32} {v4 : Int32} {Q : Int32 → HS → Prop} {S : HS} (hI : IV S) (o_v0 : ob S v0 11)     (hq : ∀ (r : Int32) (T : HS), IV T → Gr S T → FRI [(11, 0), (11, 1), (11, 2)] [] S T → Q r T) : P_X11_even v0 v1 v2 v3 v4 Q S := by
  have g0 := gr_rf S
  have f0 := fri_rf [(11, 0), (11, 1), (11, 2)] [] S
  refine u_X11_even ?_
  refine u_X11_even_0 ?_
  refine ⟨o_v0, ?_⟩
  intro S1 eS1
  have hIn : IV S1 := by rw [eS1]; exact iv11_sI hI o_v0 (by decide) (nu_free (by decide))
  have hI := hIn
  have f0 := fr_I eS1 g0 f0 o_v0 (by decide)
  obtain ⟨kv2, hkv2⟩ : ∃ z : Int32, z = (0 : Int32) := ⟨_, rfl⟩
  have d_kv2 := rd_Is eS1 hkv2
  have g0 := gr_I eS1 g0
  have o_v0 := ob_I eS1 o_v0
  refine u_X11_isWalker ?_
  refine u_X11_isWalker_0 ?_
  refine ⟨o_v0, ?_⟩
  refine ⟨fun e4 => ?_, fun a3 ea3 => ?_⟩
  · intro _ _
    refine ⟨fun c6 => ?_, fun c6 => absurd (show ¬ (0 : Int32) = 0 from c6) (by decide)⟩
    refine u_X11_even_39 ?_
    refine ⟨o_v0, ?_⟩
    refine u_X11_refused ?_
    refine u_X11_refused_0 ?_
    refine ⟨o_v0, ?_⟩
    intro S7 eS7
    have hIn : IV S7 := by rw [eS7]; exact iv11_sI hI o_v0 (by decide) (nu_free (by decide))
    have hI := hIn
    have f0 := fr_I eS7 g0 f0 o_v0 (by decide)
    have d_kv2 := rd_Ij eS7 (by decide) d_kv2
    obtain ⟨kv8, hkv8⟩ : ∃ z : Int32, z = (1 : Int32) := ⟨_, rfl⟩
    have d_kv8 := rd_Is eS7 hkv8
    have g0 := gr_I eS7 g0
    have o_v0 := ob_I eS7 o_v0
    intro S9 eS9
    have hIn : IV S9 := by rw [eS9]; exact iv11_sI hI o_v0 (by decide) (nu_free (by decide))
    have hI := hIn
    have f0 := fr_I eS9 g0 f0 o_v0 (by decide)
    have d_kv2 := rd_Ij eS9 (by decide) d_kv2
    have d_kv8 := rd_Ij eS9 (by decide) d_kv8
    obtain ⟨kv10, hkv10⟩ : ∃ z : Int32, z = (-1 : Int32) := ⟨_, rfl⟩
    have d_kv10 := rd_Is eS9 hkv10
    have g0 := gr_I eS9 g0
    have o_v0 := ob_I eS9 o_v0
    intro _
    exact hq _ _ hI g0 f0
  · have o_a3 := ml_ob hI o_v0 ea3
    refine ⟨fun c12 => ?_, fun c12 => ?_⟩
    · intro _ _
      refine ⟨fun c14 => ?_, fun c14 => absurd (show ¬ (0 : Int32) = 0 from c14) (by decide)⟩
      refine u_X11_even_39 ?_
      refine ⟨o_v0, ?_⟩
      refine u_X11_refused ?_
      refine u_X11_refused_0 ?_
      refine ⟨o_v0, ?_⟩
      intro S15 eS15
      have hIn : IV S15 := by rw [eS15]; exact iv11_sI hI o_v0 (by decide) (nu_free (by decide))
      have hI := hIn
      have f0 := fr_I eS15 g0 f0 o_v0 (by decide)
      have d_kv2 := rd_Ij eS15 (by decide) d_kv2
      obtain ⟨kv16, hkv16⟩ : ∃ z : Int32, z = (1 : Int32) := ⟨_, rfl⟩
      have d_kv16 := rd_Is eS15 hkv16
      have ea3 := rf_I eS15 ea3
      have g0 := gr_I eS15 g0
      have o_a3 := ob_I eS15 o_a3
      have o_v0 := ob_I eS15 o_v0
      intro S17 eS17
      have hIn : IV S17 := by rw [eS17]; exact iv11_sI hI o_v0 (by decide) (nu_free (by decide))
      have hI := hIn
      have f0 := fr_I eS17 g0 f0 o_v0 (by decide)
      have d_kv2 := rd_Ij eS17 (by decide) d_kv2
      have d_kv16 := rd_Ij eS17 (by decide) d_kv16
      obtain ⟨kv18, hkv18⟩ : ∃ z : Int32, z = (-1 : Int32) := ⟨_, rfl⟩
      have d_kv18 := rd_Is eS17 hkv18
      have ea3 := rf_I eS17 ea3
      have g0 := gr_I eS17 g0
      have o_a3 := ob_I eS17 o_a3
      have o_v0 := ob_I eS17 o_v0
      intro _
      exact hq _ _ hI g0 f0
    · refine ⟨a3, ea3, ?_⟩
      refine ⟨o_a3, ?_⟩
      intro x21 ex21
      have r_x21 : (0 : Int32) ≤ x21 ∧ x21 ≤ (4 : Int32) := by rw [ex21]; exact nu 20 rfl hI o_a3
      have d_x21 := ex21
      refine ⟨fun c22 => ?_, fun c22 => ?_⟩
      · intro _ _
        refine ⟨fun c24 => ?_, fun c24 => absurd (show ¬ (0 : Int32) = 0 from c24) (by decide)⟩
        refine u_X11_even_39 ?_
        refine ⟨o_v0, ?_⟩
        refine u_X11_refused ?_
        refine u_X11_refused_0 ?_
        refine ⟨o_v0, ?_⟩
        intro S25 eS25
        have hIn : IV S25 := by rw [eS25]; exact iv11_sI hI o_v0 (by decide) (nu_free (by decide))
        have hI := hIn
        have f0 := fr_I eS25 g0 f0 o_v0 (by decide)
        have d_kv2 := rd_Ij eS25 (by decide) d_kv2
        have d_x21 := rd_Ik eS25 o_v0 o_a3 (by decide) d_x21
        obtain ⟨kv26, hkv26⟩ : ∃ z : Int32, z = (1 : Int32) := ⟨_, rfl⟩
        have d_kv26 := rd_Is eS25 hkv26
        have ea3 := rf_I eS25 ea3
        have g0 := gr_I eS25 g0
        have o_a3 := ob_I eS25 o_a3
        have o_v0 := ob_I eS25 o_v0
        intro S27 eS27
        have hIn : IV S27 := by rw [eS27]; exact iv11_sI hI o_v0 (by decide) (nu_free (by decide))
        have hI := hIn
        have f0 := fr_I eS27 g0 f0 o_v0 (by decide)
        have d_kv2 := rd_Ij eS27 (by decide) d_kv2
        have d_x21 := rd_Ik eS27 o_v0 o_a3 (by decide) d_x21
        have d_kv26 := rd_Ij eS27 (by decide) d_kv26
        obtain ⟨kv28, hkv28⟩ : ∃ z : Int32, z = (-1 : Int32) := ⟨_, rfl⟩
        have d_kv28 := rd_Is eS27 hkv28
        have ea3 := rf_I eS27 ea3
        have g0 := gr_I eS27 g0
        have o_a3 := ob_I eS27 o_a3
        have o_v0 := ob_I eS27 o_v0
        intro _
        exact hq _ _ hI g0 f0
      · intro _ _
        refine ⟨fun c31 => absurd (show (1 : Int32) = 0 from c31) (by decide), fun c31 => ?_⟩
        refine u_X11_isRoad ?_
        refine u_X11_isRoad_0 ?_
        refine ⟨o_v0, ?_⟩
        refine ⟨fun e33 => (nomatch (e33.symm.trans ea3)), fun a32 ea32 => ?_⟩
        obtain rfl : a3 = a32 := Option.some.inj (ea3.symm.trans ea32)
        refine ⟨fun c34 => ?_, fun c34 => ?_⟩
        · intro _ _
          refine ⟨fun c36 => ?_, fun c36 => absurd (show ¬ (0 : Int32) = 0 from c36) (by decide)⟩
          refine u_X11_even_39 ?_
          refine ⟨o_v0, ?_⟩
          refine u_X11_refused ?_
          refine u_X11_refused_0 ?_
          refine ⟨o_v0, ?_⟩
          intro S37 eS37
          have hIn : IV S37 := by rw [eS37]; exact iv11_sI hI o_v0 (by decide) (nu_free (by decide))
          have hI := hIn
          have f0 := fr_I eS37 g0 f0 o_v0 (by decide)
          have d_kv2 := rd_Ij eS37 (by decide) d_kv2
          have d_x21 := rd_Ik eS37 o_v0 o_a3 (by decide) d_x21
          obtain ⟨kv38, hkv38⟩ : ∃ z : Int32, z = (1 : Int32) := ⟨_, rfl⟩
          have d_kv38 := rd_Is eS37 hkv38
          have ea3 := rf_I eS37 ea3
          have g0 := gr_I eS37 g0
          have o_a3 := ob_I eS37 o_a3
          have o_v0 := ob_I eS37 o_v0
          intro S39 eS39
          have hIn : IV S39 := by rw [eS39]; exact iv11_sI hI o_v0 (by decide) (nu_free (by decide))
          have hI := hIn
          have f0 := fr_I eS39 g0 f0 o_v0 (by decide)
          have d_kv2 := rd_Ij eS39 (by decide) d_kv2
          have d_x21 := rd_Ik eS39 o_v0 o_a3 (by decide) d_x21
          have d_kv38 := rd_Ij eS39 (by decide) d_kv38
          obtain ⟨kv40, hkv40⟩ : ∃ z : Int32, z = (-1 : Int32) := ⟨_, rfl⟩
          have d_kv40 := rd_Is eS39 hkv40
          have ea3 := rf_I eS39 ea3
          have g0 := gr_I eS39 g0
          have o_a3 := ob_I eS39 o_a3
          have o_v0 := ob_I eS39 o_v0
          intro _
          exact hq _ _ hI g0 f0
        · refine ⟨a3, ea3, ?_⟩
          refine ⟨o_a3, ?_⟩
          intro x43 ex43
          have r_x43 : (0 : Int32) ≤ x43 ∧ x43 ≤ (12 : Int32) := by rw [ex43]; exact nu 19 rfl hI o_a3
          have d_x43 := ex43
          refine ⟨fun c44 => ?_, fun c44 => ?_⟩
          · intro _ _
            refine ⟨fun c46 => ?_, fun c46 => absurd (show ¬ (0 : Int32) = 0 from c46) (by decide)⟩
            refine u_X11_even_39 ?_
            refine ⟨o_v0, ?_⟩
            refine u_X11_refused ?_
            refine u_X11_refused_0 ?_
            refine ⟨o_v0, ?_⟩
            intro S47 eS47
            have hIn : IV S47 := by rw [eS47]; exact iv11_sI hI o_v0 (by decide) (nu_free (by decide))
            have hI := hIn
            have f0 := fr_I eS47 g0 f0 o_v0 (by decide)
            have d_kv2 := rd_Ij eS47 (by decide) d_kv2
            have d_x21 := rd_Ik eS47 o_v0 o_a3 (by decide) d_x21
            have d_x43 := rd_Ik eS47 o_v0 o_a3 (by decide) d_x43
            obtain ⟨kv48, hkv48⟩ : ∃ z : Int32, z = (1 : Int32) := ⟨_, rfl⟩
            have d_kv48 := rd_Is eS47 hkv48
            have ea3 := rf_I eS47 ea3
            have g0 := gr_I eS47 g0
            have o_a3 := ob_I eS47 o_a3
            have o_v0 := ob_I eS47 o_v0
            intro S49 eS49
            have hIn : IV S49 := by rw [eS49]; exact iv11_sI hI o_v0 (by decide) (nu_free (by decide))
            have hI := hIn
            have f0 := fr_I eS49 g0 f0 o_v0 (by decide)
            have d_kv2 := rd_Ij eS49 (by decide) d_kv2
            have d_x21 := rd_Ik eS49 o_v0 o_a3 (by decide) d_x21
            have d_x43 := rd_Ik eS49 o_v0 o_a3 (by decide) d_x43
            have d_kv48 := rd_Ij eS49 (by decide) d_kv48
            obtain ⟨kv50, hkv50⟩ : ∃ z : Int32, z = (-1 : Int32) := ⟨_, rfl⟩
            have d_kv50 := rd_Is eS49 hkv50
            have ea3 := rf_I eS49 ea3
            have g0 := gr_I eS49 g0
            have o_a3 := ob_I eS49 o_a3
            have o_v0 := ob_I eS49 o_v0
            intro _
            exact hq _ _ hI g0 f0
          · intro _ _
            refine ⟨fun c53 => absurd (show (1 : Int32) = 0 from c53) (by decide), fun c53 => ?_⟩
            refine u_X11_in ?_
            refine u_X11_in_0 ?_
            refine ⟨fun c54 => ?_, fun c54 => ?_⟩
            · intro _ _
              refine ⟨fun c56 => ?_, fun c56 => absurd (show ¬ (0 : Int32) = 0 from c56) (by decide)⟩
              refine u_X11_even_39 ?_
              refine ⟨o_v0, ?_⟩
              refine u_X11_refused ?_
              refine u_X11_refused_0 ?_
              refine ⟨o_v0, ?_⟩
              intro S57 eS57
              have hIn : IV S57 := by rw [eS57]; exact iv11_sI hI o_v0 (by decide) (nu_free (by decide))
              have hI := hIn
              have f0 := fr_I eS57 g0 f0 o_v0 (by decide)
              have d_kv2 := rd_Ij eS57 (by decide) d_kv2
              have d_x21 := rd_Ik eS57 o_v0 o_a3 (by decide) d_x21
              have d_x43 := rd_Ik eS57 o_v0 o_a3 (by decide) d_x43
              obtain ⟨kv58, hkv58⟩ : ∃ z : Int32, z = (1 : Int32) := ⟨_, rfl⟩
              have d_kv58 := rd_Is eS57 hkv58
              have ea3 := rf_I eS57 ea3
              have g0 := gr_I eS57 g0
              have o_a3 := ob_I eS57 o_a3
              have o_v0 := ob_I eS57 o_v0
              intro S59 eS59
              have hIn : IV S59 := by rw [eS59]; exact iv11_sI hI o_v0 (by decide) (nu_free (by decide))
              have hI := hIn
              have f0 := fr_I eS59 g0 f0 o_v0 (by decide)
              have d_kv2 := rd_Ij eS59 (by decide) d_kv2
              have d_x21 := rd_Ik eS59 o_v0 o_a3 (by decide) d_x21
              have d_x43 := rd_Ik eS59 o_v0 o_a3 (by decide) d_x43
              have d_kv58 := rd_Ij eS59 (by decide) d_kv58
              obtain ⟨kv60, hkv60⟩ : ∃ z : Int32, z = (-1 : Int32) := ⟨_, rfl⟩
              have d_kv60 := rd_Is eS59 hkv60
              have ea3 := rf_I eS59 ea3
              have g0 := gr_I eS59 g0
              have o_a3 := ob_I eS59 o_a3
              have o_v0 := ob_I eS59 o_v0
              intro _
              exact hq _ _ hI g0 f0
            · refine ⟨fun c62 => ?_, fun c62 => ?_⟩
              · intro _ _
                refine ⟨fun c64 => ?_, fun c64 => absurd (show ¬ (0 : Int32) = 0 from c64) (by decide)⟩
                refine u_X11_even_39 ?_
                refine ⟨o_v0, ?_⟩
                refine u_X11_refused ?_
                refine u_X11_refused_0 ?_
                refine ⟨o_v0, ?_⟩
                intro S65 eS65
                have hIn : IV S65 := by rw [eS65]; exact iv11_sI hI o_v0 (by decide) (nu_free (by decide))
                have hI := hIn
                have f0 := fr_I eS65 g0 f0 o_v0 (by decide)
                have d_kv2 := rd_Ij eS65 (by decide) d_kv2
                have d_x21 := rd_Ik eS65 o_v0 o_a3 (by decide) d_x21
                have d_x43 := rd_Ik eS65 o_v0 o_a3 (by decide) d_x43
                obtain ⟨kv66, hkv66⟩ : ∃ z : Int32, z = (1 : Int32) := ⟨_, rfl⟩
                have d_kv66 := rd_Is eS65 hkv66
                have ea3 := rf_I eS65 ea3
                have g0 := gr_I eS65 g0
                have o_a3 := ob_I eS65 o_a3
                have o_v0 := ob_I eS65 o_v0
                intro S67 eS67
                have hIn : IV S67 := by rw [eS67]; exact iv11_sI hI o_v0 (by decide) (nu_free (by decide))
                have hI := hIn
                have f0 := fr_I eS67 g0 f0 o_v0 (by decide)
                have d_kv2 := rd_Ij eS67 (by decide) d_kv2
                have d_x21 := rd_Ik eS67 o_v0 o_a3 (by decide) d_x21
                have d_x43 := rd_Ik eS67 o_v0 o_a3 (by decide) d_x43
                have d_kv66 := rd_Ij eS67 (by decide) d_kv66
                obtain ⟨kv68, hkv68⟩ : ∃ z : Int32, z = (-1 : Int32) := ⟨_, rfl⟩
                have d_kv68 := rd_Is eS67 hkv68
                have ea3 := rf_I eS67 ea3
                have g0 := gr_I eS67 g0
                have o_a3 := ob_I eS67 o_a3
                have o_v0 := ob_I eS67 o_v0
                intro _
                exact hq _ _ hI g0 f0
              · intro _ _
                refine ⟨fun c71 => absurd (show (1 : Int32) = 0 from c71) (by decide), fun c71 => ?_⟩
                refine u_X11_isHour ?_
                refine u_X11_isHour_0 ?_
                refine ⟨o_v0, ?_⟩
                refine ⟨fun e73 => (nomatch (e73.symm.trans ea3)), fun a72 ea72 => ?_⟩
                obtain rfl : a3 = a72 := Option.some.inj (ea3.symm.trans ea72)
                refine ⟨fun c74 => ?_, fun c74 => ?_⟩
                · intro _ _
                  refine ⟨fun c76 => absurd (show ¬ (0 : Int32) = 0 from c76) (by decide), fun c76 => ?_⟩
                  refine u_X11_even_39 ?_
                  refine ⟨o_v0, ?_⟩
                  refine u_X11_refused ?_
                  refine u_X11_refused_0 ?_
                  refine ⟨o_v0, ?_⟩
                  intro S77 eS77
                  have hIn : IV S77 := by rw [eS77]; exact iv11_sI hI o_v0 (by decide) (nu_free (by decide))
                  have hI := hIn
                  have f0 := fr_I eS77 g0 f0 o_v0 (by decide)
                  have d_kv2 := rd_Ij eS77 (by decide) d_kv2
                  have d_x21 := rd_Ik eS77 o_v0 o_a3 (by decide) d_x21
                  have d_x43 := rd_Ik eS77 o_v0 o_a3 (by decide) d_x43
                  obtain ⟨kv78, hkv78⟩ : ∃ z : Int32, z = (1 : Int32) := ⟨_, rfl⟩
                  have d_kv78 := rd_Is eS77 hkv78
                  have ea3 := rf_I eS77 ea3
                  have g0 := gr_I eS77 g0
                  have o_a3 := ob_I eS77 o_a3
                  have o_v0 := ob_I eS77 o_v0
                  intro S79 eS79
                  have hIn : IV S79 := by rw [eS79]; exact iv11_sI hI o_v0 (by decide) (nu_free (by decide))
                  have hI := hIn
                  have f0 := fr_I eS79 g0 f0 o_v0 (by decide)
                  have d_kv2 := rd_Ij eS79 (by decide) d_kv2
                  have d_x21 := rd_Ik eS79 o_v0 o_a3 (by decide) d_x21
                  have d_x43 := rd_Ik eS79 o_v0 o_a3 (by decide) d_x43
                  have d_kv78 := rd_Ij eS79 (by decide) d_kv78
                  obtain ⟨kv80, hkv80⟩ : ∃ z : Int32, z = (-1 : Int32) := ⟨_, rfl⟩
                  have d_kv80 := rd_Is eS79 hkv80
                  have ea3 := rf_I eS79 ea3
                  have g0 := gr_I eS79 g0
                  have o_a3 := ob_I eS79 o_a3
                  have o_v0 := ob_I eS79 o_v0
                  intro _
                  exact hq _ _ hI g0 f0
                · refine ⟨a3, ea3, ?_⟩
                  refine ⟨o_a3, ?_⟩
                  intro x83 ex83
                  have r_x83 : (0 : Int32) ≤ x83 ∧ x83 ≤ (6 : Int32) := by rw [ex83]; exact nu 17 rfl hI o_a3
                  have d_x83 := ex83
                  refine ⟨fun c84 => ?_, fun c84 => ?_⟩
                  · intro _ _
                    refine ⟨fun c86 => absurd (show ¬ (0 : Int32) = 0 from c86) (by decide), fun c86 => ?_⟩
                    refine u_X11_even_39 ?_
                    refine ⟨o_v0, ?_⟩
                    refine u_X11_refused ?_
                    refine u_X11_refused_0 ?_
                    refine ⟨o_v0, ?_⟩
                    intro S87 eS87
                    have hIn : IV S87 := by rw [eS87]; exact iv11_sI hI o_v0 (by decide) (nu_free (by decide))
                    have hI := hIn
                    have f0 := fr_I eS87 g0 f0 o_v0 (by decide)
                    have d_kv2 := rd_Ij eS87 (by decide) d_kv2
                    have d_x21 := rd_Ik eS87 o_v0 o_a3 (by decide) d_x21
                    have d_x43 := rd_Ik eS87 o_v0 o_a3 (by decide) d_x43
                    have d_x83 := rd_Ik eS87 o_v0 o_a3 (by decide) d_x83
                    obtain ⟨kv88, hkv88⟩ : ∃ z : Int32, z = (1 : Int32) := ⟨_, rfl⟩
                    have d_kv88 := rd_Is eS87 hkv88
                    have ea3 := rf_I eS87 ea3
                    have g0 := gr_I eS87 g0
                    have o_a3 := ob_I eS87 o_a3
                    have o_v0 := ob_I eS87 o_v0
                    intro S89 eS89
                    have hIn : IV S89 := by rw [eS89]; exact iv11_sI hI o_v0 (by decide) (nu_free (by decide))
                    have hI := hIn
                    have f0 := fr_I eS89 g0 f0 o_v0 (by decide)
                    have d_kv2 := rd_Ij eS89 (by decide) d_kv2
                    have d_x21 := rd_Ik eS89 o_v0 o_a3 (by decide) d_x21
                    have d_x43 := rd_Ik eS89 o_v0 o_a3 (by decide) d_x43
                    have d_x83 := rd_Ik eS89 o_v0 o_a3 (by decide) d_x83
                    have d_kv88 := rd_Ij eS89 (by decide) d_kv88
                    obtain ⟨kv90, hkv90⟩ : ∃ z : Int32, z = (-1 : Int32) := ⟨_, rfl⟩
                    have d_kv90 := rd_Is eS89 hkv90
                    have ea3 := rf_I eS89 ea3
                    have g0 := gr_I eS89 g0
                    have o_a3 := ob_I eS89 o_a3
                    have o_v0 := ob_I eS89 o_v0
                    intro _
                    exact hq _ _ hI g0 f0
                  · intro _ _
                    refine ⟨fun c93 => ?_, fun c93 => absurd (show (1 : Int32) = 0 from c93) (by decide)⟩
                    refine ⟨a3, ea3, ?_⟩
                    refine ⟨o_a3, ?_⟩
                    obtain ⟨a95, ea95, o_a95, l_a95⟩ := shl 46 rfl hI o_a3
                    refine ⟨a95, ea95, ?_⟩
                    refine ⟨o_a95, ?_⟩
                    refine ⟨(vin l_a95 (m := 4) (by decide) (qm664 c12 r_x21 c22 c34 r_x43 c44 c54 c62 c74 r_x83 c84)), ?_⟩
                    intro x96 ex96
                    have gy_x96 : 0 ≤ v1 ∧ v1 < fI S1 a3 4 := by rw [← d_x21]; exact (qm665 c12 r_x21 c22 c34 r_x43 c44 c54 c62 c74 r_x83 c84)
                    have g_x96 : (1 : Int32) ≤ x96 ∧ x96 ≤ (9 : Int32) := by rw [ex96]; exact wg_at (ml_wg hI o_v0 ea3) 3 rfl gy_x96 ea95
                    refine i_X11_even_59 (fun (y0 : Nat) (y1 : Int32) (y2 : Int32) (y3 : Int32) (y4 : Int32) (y5 : Int32) (y6 : Int32) (Z : HS) => ((2147483647 : Int32).toInt - y6.toInt).toNat) (fun (y0 : Nat) (y1 : Int32) (y2 : Int32) (y3 : Int32) (y4 : Int32) (y5 : Int32) (y6 : Int32) (Z : HS) => (S1 = Z) ∧ (v0 = y0) ∧ (v1 = y1) ∧ (v2 = y2) ∧ (v3 = y3) ∧ (v4 = y4) ∧ (1 ≤ y6)) ?_ _ _ _ _ _ _ _ _ ⟨rfl, rfl, rfl, rfl, rfl, rfl, (qm666 c12 r_x21 c22 c34 r_x43 c44 c54 c62 c74 r_x83 c84 g_x96)⟩
                    intro w101 w103 w105 w107 w109 w111 w112 S98 X113 ⟨eS98, q102, q104, q106, q108, q110, i1u97⟩ ih114
                    subst q102
                    subst q104
                    subst q106
                    subst q108
                    subst q110
                    subst eS98
                    refine u_X11_even_59 ?_
                    refine ⟨o_v0, ?_⟩
                    refine ⟨a3, ea3, ?_⟩
                    refine ⟨o_a3, ?_⟩
                    obtain ⟨a116, ea116, o_a116, l_a116⟩ := shl 47 rfl hI o_a3
                    refine ⟨a116, ea116, ?_⟩
                    refine ⟨o_a116, ?_⟩
                    refine ⟨(vin l_a116 (m := 4) (by decide) (qm664 c12 r_x21 c22 c34 r_x43 c44 c54 c62 c74 r_x83 c84)), ?_⟩
                    intro x117 ex117
                    have gy_x117 : 0 ≤ v1 ∧ v1 < fI S1 a3 4 := by rw [← d_x21]; exact (qm665 c12 r_x21 c22 c34 r_x43 c44 c54 c62 c74 r_x83 c84)
                    have g_x117 : (0 : Int32) ≤ x117 ∧ x117 ≤ (9 : Int32) := by rw [ex117]; exact wg_at (ml_wg hI o_v0 ea3) 4 rfl gy_x117 ea116
                    refine ⟨fun c118 => ?_, fun c118 => ?_⟩
                    · refine ⟨fun c119 => ?_, fun c119 => ?_⟩
                      · refine u_X11_even_130 ?_
                        refine ⟨o_v0, ?_⟩
                        refine u_X11_good ?_
                        refine u_X11_good_0 ?_
                        refine ⟨o_v0, ?_⟩
                        intro S120 eS120
                        have hIn : IV S120 := by rw [eS120]; exact iv11_sI hI o_v0 (by decide) (nu_free (by decide))
                        have hI := hIn
                        have f0 := fr_I eS120 g0 f0 o_v0 (by decide)
                        have d_kv2 := rd_Ij eS120 (by decide) d_kv2
                        have d_x21 := rd_Ik eS120 o_v0 o_a3 (by decide) d_x21
                        have d_x43 := rd_Ik eS120 o_v0 o_a3 (by decide) d_x43
                        have d_x83 := rd_Ik eS120 o_v0 o_a3 (by decide) d_x83
                        obtain ⟨kv121, hkv121⟩ : ∃ z : Int32, z = (0 : Int32) := ⟨_, rfl⟩
                        have d_kv121 := rd_Is eS120 hkv121
                        have ea3 := rf_I eS120 ea3
                        have ea95 := rf_I eS120 ea95
                        have ea116 := rf_I eS120 ea116
                        have l_a116 := ln_I eS120 l_a116
                        have l_a95 := ln_I eS120 l_a95
                        have g0 := gr_I eS120 g0
                        have o_a116 := ob_I eS120 o_a116
                        have o_a3 := ob_I eS120 o_a3
                        have o_a95 := ob_I eS120 o_a95
                        have o_v0 := ob_I eS120 o_v0
                        intro S122 eS122
                        have hIn : IV S122 := by rw [eS122]; exact iv11_sI hI o_v0 (by decide) (nu_free (by decide))
                        have hI := hIn
                        have f0 := fr_I eS122 g0 f0 o_v0 (by decide)
                        have d_kv2 := rd_Ij eS122 (by decide) d_kv2
                        have d_x21 := rd_Ik eS122 o_v0 o_a3 (by decide) d_x21
                        have d_x43 := rd_Ik eS122 o_v0 o_a3 (by decide) d_x43
                        have d_x83 := rd_Ik eS122 o_v0 o_a3 (by decide) d_x83
                        have d_kv121 := rd_Ij eS122 (by decide) d_kv121
                        obtain ⟨kv123, hkv123⟩ : ∃ z : Int32, z = (-1 : Int32) := ⟨_, rfl⟩
                        have d_kv123 := rd_Is eS122 hkv123
                        have ea3 := rf_I eS122 ea3
                        have ea95 := rf_I eS122 ea95
                        have ea116 := rf_I eS122 ea116
                        have l_a116 := ln_I eS122 l_a116
                        have l_a95 := ln_I eS122 l_a95
                        have g0 := gr_I eS122 g0
                        have o_a116 := ob_I eS122 o_a116
                        have o_a3 := ob_I eS122 o_a3
                        have o_a95 := ob_I eS122 o_a95
                        have o_v0 := ob_I eS122 o_v0
                        intro _
                        exact hq _ _ hI g0 f0
                      · refine u_X11_even_130 ?_
                        refine ⟨o_v0, ?_⟩
                        refine u_X11_good ?_
                        refine u_X11_good_0 ?_
                        refine ⟨o_v0, ?_⟩
                        intro S125 eS125
                        have hIn : IV S125 := by rw [eS125]; exact iv11_sI hI o_v0 (by decide) (nu_free (by decide))
                        have hI := hIn
                        have f0 := fr_I eS125 g0 f0 o_v0 (by decide)
                        have d_kv2 := rd_Ij eS125 (by decide) d_kv2
                        have d_x21 := rd_Ik eS125 o_v0 o_a3 (by decide) d_x21
                        have d_x43 := rd_Ik eS125 o_v0 o_a3 (by decide) d_x43
                        have d_x83 := rd_Ik eS125 o_v0 o_a3 (by decide) d_x83
                        obtain ⟨kv126, hkv126⟩ : ∃ z : Int32, z = (0 : Int32) := ⟨_, rfl⟩
                        have d_kv126 := rd_Is eS125 hkv126
                        have ea3 := rf_I eS125 ea3
                        have ea95 := rf_I eS125 ea95
                        have ea116 := rf_I eS125 ea116
                        have l_a116 := ln_I eS125 l_a116
                        have l_a95 := ln_I eS125 l_a95
                        have g0 := gr_I eS125 g0
                        have o_a116 := ob_I eS125 o_a116
                        have o_a3 := ob_I eS125 o_a3
                        have o_a95 := ob_I eS125 o_a95
                        have o_v0 := ob_I eS125 o_v0
                        intro S127 eS127
                        have hIn : IV S127 := by rw [eS127]; exact iv11_sI hI o_v0 (by decide) (nu_free (by decide))
                        have hI := hIn
                        have f0 := fr_I eS127 g0 f0 o_v0 (by decide)
                        have d_kv2 := rd_Ij eS127 (by decide) d_kv2
                        have d_x21 := rd_Ik eS127 o_v0 o_a3 (by decide) d_x21
                        have d_x43 := rd_Ik eS127 o_v0 o_a3 (by decide) d_x43
                        have d_x83 := rd_Ik eS127 o_v0 o_a3 (by decide) d_x83
                        have d_kv126 := rd_Ij eS127 (by decide) d_kv126
                        obtain ⟨kv128, hkv128⟩ : ∃ z : Int32, z = (-1 : Int32) := ⟨_, rfl⟩
                        have d_kv128 := rd_Is eS127 hkv128
                        have ea3 := rf_I eS127 ea3
                        have ea95 := rf_I eS127 ea95
                        have ea116 := rf_I eS127 ea116
                        have l_a116 := ln_I eS127 l_a116
                        have l_a95 := ln_I eS127 l_a95
                        have g0 := gr_I eS127 g0
                        have o_a116 := ob_I eS127 o_a116
                        have o_a3 := ob_I eS127 o_a3
                        have o_a95 := ob_I eS127 o_a95
                        have o_v0 := ob_I eS127 o_v0
                        intro _
                        exact hq _ _ hI g0 f0
                    · refine ⟨fun c130 => ?_, fun c130 => ?_⟩
                      · refine u_X11_even_110 ?_
                        refine u_X11_even_111 ?_
                        intro x131 ex131
                        exact ih114 _ _ _ _ _ _ _ _ ⟨rfl, rfl, rfl, rfl, rfl, rfl, (qm667 c12 r_x21 c22 c34 r_x43 c44 c54 c62 c74 r_x83 c84 i1u97 g_x117 c118 c130 ex131)⟩ (mu_up (qm668 c12 r_x21 c22 c34 r_x43 c44 c54 c62 c74 r_x83 c84 i1u97 g_x117 c118 c130 ex131) (qm669 c12 r_x21 c22 c34 r_x43 c44 c54 c62 c74 r_x83 c84 i1u97 g_x117 c118 c130 ex131))
                      · refine m_X11_wetOf hI o_v0 (qm670 c12 r_x21 c22 c34 r_x43 c44 c54 c62 c74 r_x83 c84 i1u97 g_x117 c118 c130) (qm671 c12 r_x21 c22 c34 r_x43 c44 c54 c62 c74 r_x83 c84 i1u97 g_x117 c118 c130) (qm672 c12 r_x21 c22 c34 r_x43 c44 c54 c62 c74 r_x83 c84 i1u97 g_x117 c118 c130) (qm673 c12 r_x21 c22 c34 r_x43 c44 c54 c62 c74 r_x83 c84 i1u97 g_x117 c118 c130) ⟨_, ea3⟩ (fun x132 S133 hI2 g134 p_x132 => ?_)
                        subst p_x132
                        intro _
                        refine m_X11_wetOf hI o_v0 (qm670 c12 r_x21 c22 c34 r_x43 c44 c54 c62 c74 r_x83 c84 i1u97 g_x117 c118 c130) (qm671 c12 r_x21 c22 c34 r_x43 c44 c54 c62 c74 r_x83 c84 i1u97 g_x117 c118 c130) (qm672 c12 r_x21 c22 c34 r_x43 c44 c54 c62 c74 r_x83 c84 i1u97 g_x117 c118 c130) (qm674 c12 r_x21 c22 c34 r_x43 c44 c54 c62 c74 r_x83 c84 i1u97 g_x117 c118 c130) ⟨_, ea3⟩ (fun x136 S137 hI2 g138 p_x136 => ?_)
                        subst p_x136
                        intro _
                        refine ⟨fun c140 => ?_, fun c140 => ?_⟩
                        · refine u_X11_even_110 ?_
                          refine u_X11_even_111 ?_
                          intro x141 ex141
                          exact ih114 _ _ _ _ _ _ _ _ ⟨rfl, rfl, rfl, rfl, rfl, rfl, (qm675 c12 r_x21 c22 c34 r_x43 c44 c54 c62 c74 r_x83 c84 i1u97 g_x117 c118 c130 c140 ex141)⟩ (mu_up (qm676 c12 r_x21 c22 c34 r_x43 c44 c54 c62 c74 r_x83 c84 i1u97 g_x117 c118 c130 c140 ex141) (qm677 c12 r_x21 c22 c34 r_x43 c44 c54 c62 c74 r_x83 c84 i1u97 g_x117 c118 c130 c140 ex141))
                        · refine u_X11_even_111 ?_
                          intro x142 ex142
                          exact ih114 _ _ _ _ _ _ _ _ ⟨rfl, rfl, rfl, rfl, rfl, rfl, (qm678 c12 r_x21 c22 c34 r_x43 c44 c54 c62 c74 r_x83 c84 i1u97 g_x117 c118 c130 c140 ex142)⟩ (mu_up (qm679 c12 r_x21 c22 c34 r_x43 c44 c54 c62 c74 r_x83 c84 i1u97 g_x117 c118 c130 c140 ex142) (qm680 c12 r_x21 c22 c34 r_x43 c44 c54 c62 c74 r_x83 c84 i1u97 g_x117 c118 c130 c140 ex142))
