set_option maxHeartbeats 4000000 in
set_option maxRecDepth 20000 in
theorem m_X11_laysWays {v0 : Nat} {v1 : Int32} {v2 : Int32} {v3 : Int32} {Q : HS → Prop} {S : HS} (hI : IV S) (o_v0 : ob S v0 11)   (h3 : 0 ≤ v3 ∧ v3 ≤ 400)  (hwi1 : WI S v0 4 v1) (hq : ∀ (T : HS), IV T → Gr S T → FRI [] [] S T → (SBD T v0 v3 (-1) (-1)) → Q T) : P_X11_laysWays v0 v1 v2 v3 Q S := by
  have g0 := gr_rf S
  have f0 := fri_rf [] [] S
  obtain ⟨a1, ea1, hx1⟩ := hwi1
  have o_a1 := ml_ob hI o_v0 ea1
  obtain ⟨kv2, d_kv2⟩ : ∃ z : Int32, z = fI S a1 4 := ⟨_, rfl⟩
  have r_kv2 : (0 : Int32) ≤ kv2 ∧ kv2 ≤ (4 : Int32) := by rw [d_kv2]; exact nu 20 rfl hI o_a1
  have hwi1 : 0 ≤ v1 ∧ v1 < kv2 := by rw [d_kv2]; exact hx1
  refine u_X11_laysWays ?_
  refine u_X11_laysWays_0 ?_
  refine i_X11_laysWays_3 (fun (y0 : Nat) (y1 : Int32) (y2 : Int32) (y3 : Int32) (y4 : Int32) (Z : HS) => (y4.toInt - (-1 : Int32).toInt).toNat) (fun (y0 : Nat) (y1 : Int32) (y2 : Int32) (y3 : Int32) (y4 : Int32) (Z : HS) => (IV Z) ∧ (Gr S Z) ∧ (FRI [] [] S Z) ∧ (v0 = y0) ∧ (v1 = y1) ∧ (v2 = y2) ∧ (v3 = y3) ∧ (-1 ≤ y4 ∧ y4 ≤ y3) ∧ (SBD Z v0 y3 y4 (-1))) ?_ _ _ _ _ _ _ ⟨hI, (gr_rf _), (fri_rf _ _ _), rfl, rfl, rfl, rfl, (qw21 h3), sb_init⟩
  intro w7 w9 w11 w13 w15 S4 X16 ⟨hI, gL5, fL6, q8, q10, q12, q14, i1u3, hS⟩ ih17
  subst q8
  subst q10
  subst q12
  subst q14
  have d_kv2 := d_kv2.trans (fri_at fL6 (by decide) (by decide) o_a1).symm
  have ea1 := (frr_at fL6 (by decide) (by decide) o_v0).trans ea1
  have f0 := fri_tr (S := S) g0 f0 fL6 (by decide) (by decide)
  have o_a1 := gr_ob gL5 o_a1
  have o_v0 := gr_ob gL5 o_v0
  have g0 := gr_tr (T := S) g0 gL5
  refine u_X11_laysWays_3 ?_
  refine ⟨fun c18 => ?_, fun c18 => ?_⟩
  · exact hq _ hI g0 f0 (by rw [show w15 = -1 from (qw22 h3 i1u3 c18)] at hS; exact hS)
  · refine i_X11_laysWays_11 (fun (y0 : Nat) (y1 : Int32) (y2 : Int32) (y3 : Int32) (y4 : Int32) (y5 : Int32) (Z : HS) => ((8 : Int32).toInt - y5.toInt).toNat) (fun (y0 : Nat) (y1 : Int32) (y2 : Int32) (y3 : Int32) (y4 : Int32) (y5 : Int32) (Z : HS) => (IV Z) ∧ (Gr S4 Z) ∧ (FRI [] [] S4 Z) ∧ (v0 = y0) ∧ (v1 = y1) ∧ (v2 = y2) ∧ (v3 = y3) ∧ (w15 = y4) ∧ (0 ≤ y5 ∧ y5 ≤ 8) ∧ (SBD Z v0 y3 y4 (y5 - 1))) ?_ _ _ _ _ _ _ _ ⟨hI, (gr_rf _), (fri_rf _ _ _), rfl, rfl, rfl, rfl, rfl, (qw23 h3 i1u3 c18), (sb_0 hS)⟩
    intro w23 w25 w27 w29 w31 w33 S20 X34 ⟨hI, gL21, fL22, q24, q26, q28, q30, q32, i1u19, hS⟩ ih35
    subst q24
    subst q26
    subst q28
    subst q30
    subst q32
    have d_kv2 := d_kv2.trans (fri_at fL22 (by decide) (by decide) o_a1).symm
    have ea1 := (frr_at fL22 (by decide) (by decide) o_v0).trans ea1
    have f0 := fri_tr (S := S4) g0 f0 fL22 (by decide) (by decide)
    have fL6 := fri_tr (S := S4) gL5 fL6 fL22 (by decide) (by decide)
    have o_a1 := gr_ob gL21 o_a1
    have o_v0 := gr_ob gL21 o_v0
    have g0 := gr_tr (T := S4) g0 gL21
    have gL5 := gr_tr (T := S4) gL5 gL21
    refine u_X11_laysWays_11 ?_
    refine ⟨o_v0, ?_⟩
    refine ⟨a1, ea1, ?_⟩
    refine ⟨o_a1, ?_⟩
    intro x37 ex37
    have r_x37 : (0 : Int32) ≤ x37 ∧ x37 ≤ (8 : Int32) := by rw [ex37]; exact nu 18 rfl hI o_a1
    have d_x37 := ex37
    refine ⟨fun c38 => ?_, fun c38 => ?_⟩
    · intro x39 ex39
      exact ih17 _ _ _ _ _ _ ⟨hI, gL5, fL6, rfl, rfl, rfl, rfl, (qw24 h3 i1u3 c18 i1u19 r_x37 c38 ex39), (sb_next hS ea1 (by rw [← d_x37]; exact (qw25 h3 i1u3 c18 i1u19 r_x37 c38 ex39)) (qw26 h3 i1u3 c18 i1u19 r_x37 c38 ex39) (qw27 h3 i1u3 c18 i1u19 r_x37 c38 ex39) (qw28 h3 i1u3 c18 i1u19 r_x37 c38 ex39))⟩ (mu_down (qw29 h3 i1u3 c18 i1u19 r_x37 c38 ex39) (qw30 h3 i1u3 c18 i1u19 r_x37 c38 ex39))
    · refine u_X11_spotOf ?_
      refine u_X11_spotOf_0 ?_
      intro _
      obtain ⟨a41, ea41, o_a41, l_a41⟩ := shl 54 rfl hI o_v0
      refine ⟨a41, ea41, ?_⟩
      refine ⟨fun c42 => ?_, fun c42 => ?_⟩
      · refine u_X11_laysWays_51 ?_
        refine ⟨o_a41, ?_⟩
        have i43 : vp_in (((8 : Int32) * w15) + w33) (hN _ a41) := (vin l_a41 (m := 3208) (by decide) (sp_rng (qw31 h3 i1u3 c18 i1u19 r_x37 c38 c42) (qw32 h3 i1u3 c18 i1u19 r_x37 c38 c42)))
        refine ⟨i43, ?_⟩
        intro S44 eS44
        have hIn : IV S44 := by rw [eS44]; exact iv11_aJ hI o_v0 (by decide) ea41
        have hS := sb_J eS44 hS
        have hI := hIn
        have f0 := fr_J eS44 f0
        have fL6 := fr_J eS44 fL6
        have fL22 := fr_J eS44 fL22
        have d_kv2 := rd_J eS44 d_kv2
        have d_x37 := rd_J eS44 d_x37
        have ea1 := rf_J eS44 ea1
        have ea41 := rf_J eS44 ea41
        have l_a41 := ln_J eS44 l_a41
        have g0 := gr_J eS44 g0
        have gL5 := gr_J eS44 gL5
        have gL21 := gr_J eS44 gL21
        have o_a1 := ob_J eS44 o_a1
        have o_a41 := ob_J eS44 o_a41
        have o_v0 := ob_J eS44 o_v0
        refine ⟨o_v0, ?_⟩
        obtain ⟨a45, ea45, o_a45, l_a45⟩ := shl 55 rfl hI o_v0
        refine ⟨a45, ea45, ?_⟩
        refine ⟨o_a45, ?_⟩
        have i46 : vp_in (((8 : Int32) * w15) + w33) (hN _ a45) := (vin l_a45 (m := 3208) (by decide) (sp_rng (qw31 h3 i1u3 c18 i1u19 r_x37 c38 c42) (qw32 h3 i1u3 c18 i1u19 r_x37 c38 c42)))
        refine ⟨i46, ?_⟩
        intro S47 eS47
        have hIn : IV S47 := by rw [eS47]; exact iv11_aI hI o_v0 ea45 o_a45 (by decide)
        have hS := sb_17 eS47 hI o_v0 ea45 hS
        have hI := hIn
        have f0 := fr_A eS47 g0 f0 o_a45 (by decide)
        have fL6 := fr_A eS47 gL5 fL6 o_a45 (by decide)
        have fL22 := fr_A eS47 gL21 fL22 o_a45 (by decide)
        have d_kv2 := rd_Ik eS47 o_a45 o_a1 (by decide) d_kv2
        have d_x37 := rd_Ik eS47 o_a45 o_a1 (by decide) d_x37
        have ea1 := rf_I eS47 ea1
        have ea41 := rf_I eS47 ea41
        have ea45 := rf_I eS47 ea45
        have l_a41 := ln_I eS47 l_a41
        have l_a45 := ln_I eS47 l_a45
        have g0 := gr_I eS47 g0
        have gL5 := gr_I eS47 gL5
        have gL21 := gr_I eS47 gL21
        have o_a1 := ob_I eS47 o_a1
        have o_a41 := ob_I eS47 o_a41
        have o_a45 := ob_I eS47 o_a45
        have o_v0 := ob_I eS47 o_v0
        obtain ⟨a48, ea48, o_a48, l_a48⟩ := shl 56 rfl hI o_v0
        refine ⟨a48, ea48, ?_⟩
        refine ⟨o_a48, ?_⟩
        have i49 : vp_in (((8 : Int32) * w15) + w33) (hN _ a48) := (vin l_a48 (m := 3208) (by decide) (sp_rng (qw31 h3 i1u3 c18 i1u19 r_x37 c38 c42) (qw32 h3 i1u3 c18 i1u19 r_x37 c38 c42)))
        refine ⟨i49, ?_⟩
        intro S50 eS50
        have hIn : IV S50 := by rw [eS50]; exact iv11_aI hI o_v0 ea48 o_a48 (by decide)
        have hS := sb_18 (p := w33) (m := w15) eS50 hI o_v0 ea48 (qw33 h3 i1u3 c18 i1u19 r_x37 c38 c42) (qw31 h3 i1u3 c18 i1u19 r_x37 c38 c42) (qw32 h3 i1u3 c18 i1u19 r_x37 c38 c42) (qw34 h3 i1u3 c18 i1u19 r_x37 c38 c42) rfl hS
        have hI := hIn
        have f0 := fr_A eS50 g0 f0 o_a48 (by decide)
        have fL6 := fr_A eS50 gL5 fL6 o_a48 (by decide)
        have fL22 := fr_A eS50 gL21 fL22 o_a48 (by decide)
        have d_kv2 := rd_Ik eS50 o_a48 o_a1 (by decide) d_kv2
        have d_x37 := rd_Ik eS50 o_a48 o_a1 (by decide) d_x37
        have ea1 := rf_I eS50 ea1
        have ea41 := rf_I eS50 ea41
        have ea45 := rf_I eS50 ea45
        have ea48 := rf_I eS50 ea48
        have l_a41 := ln_I eS50 l_a41
        have l_a45 := ln_I eS50 l_a45
        have l_a48 := ln_I eS50 l_a48
        have g0 := gr_I eS50 g0
        have gL5 := gr_I eS50 gL5
        have gL21 := gr_I eS50 gL21
        have o_a1 := ob_I eS50 o_a1
        have o_a41 := ob_I eS50 o_a41
        have o_a45 := ob_I eS50 o_a45
        have o_a48 := ob_I eS50 o_a48
        have o_v0 := ob_I eS50 o_v0
        refine ⟨fun c51 => ?_, fun c51 => ?_⟩
        · refine u_X11_laysWays_85 ?_
          intro x52 ex52
          exact ih35 _ _ _ _ _ _ _ ⟨hI, gL21, fL22, rfl, rfl, rfl, rfl, rfl, (qw35 h3 i1u3 c18 i1u19 r_x37 c38 c42 c51 ex52), (by rw [show x52 - 1 = w33 from (qw36 h3 i1u3 c18 i1u19 r_x37 c38 c42 c51 ex52)]; exact hS)⟩ (mu_up (qw37 h3 i1u3 c18 i1u19 r_x37 c38 c42 c51 ex52) (qw38 h3 i1u3 c18 i1u19 r_x37 c38 c42 c51 ex52))
        · refine m_X11_tries hI o_v0 (qw39 h3 i1u3 c18 i1u19 r_x37 c38 c42 c51) (qw40 h3 i1u3 c18 i1u19 r_x37 c38 c42 c51) (qw41 h3 i1u3 c18 i1u19 r_x37 c38 c42 c51) (qw42 h3 i1u3 c18 i1u19 r_x37 c38 c42 c51) hS ⟨_, ea1, (qw43 h3 r_kv2 hwi1 i1u3 c18 i1u19 r_x37 c38 c42 c51), (by rw [← d_kv2]; exact (qw44 h3 r_kv2 hwi1 i1u3 c18 i1u19 r_x37 c38 c42 c51))⟩ (fun S54 hJ g55 fc56 p_S54 => ?_)
          have hS := p_S54
          have hI := hJ
          have l_a41 := (gr_len g55 o_a41).trans l_a41
          have l_a45 := (gr_len g55 o_a45).trans l_a45
          have l_a48 := (gr_len g55 o_a48).trans l_a48
          have d_kv2 := d_kv2.trans (fri_at fc56 (by decide) (by decide) o_a1).symm
          have d_x37 := d_x37.trans (fri_at fc56 (by decide) (by decide) o_a1).symm
          have ea1 := (frr_at fc56 (by decide) (by decide) o_v0).trans ea1
          have ea41 := (frr_at fc56 (by decide) (by decide) o_v0).trans ea41
          have ea45 := (frr_at fc56 (by decide) (by decide) o_v0).trans ea45
          have ea48 := (frr_at fc56 (by decide) (by decide) o_v0).trans ea48
          have f0 := fri_tr (S := S50) g0 f0 fc56 (by decide) (by decide)
          have fL6 := fri_tr (S := S50) gL5 fL6 fc56 (by decide) (by decide)
          have fL22 := fri_tr (S := S50) gL21 fL22 fc56 (by decide) (by decide)
          have o_a1 := gr_ob g55 o_a1
          have o_a41 := gr_ob g55 o_a41
          have o_a45 := gr_ob g55 o_a45
          have o_a48 := gr_ob g55 o_a48
          have o_v0 := gr_ob g55 o_v0
          have g0 := gr_tr (T := S50) g0 g55
          have gL5 := gr_tr (T := S50) gL5 g55
          have gL21 := gr_tr (T := S50) gL21 g55
          intro _
          refine u_X11_laysWays_85 ?_
          intro x57 ex57
          exact ih35 _ _ _ _ _ _ _ ⟨hI, gL21, fL22, rfl, rfl, rfl, rfl, rfl, (qw45 h3 i1u3 c18 i1u19 r_x37 c38 c42 c51 ex57), (by rw [show x57 - 1 = w33 from (qw46 h3 i1u3 c18 i1u19 r_x37 c38 c42 c51 ex57)]; exact hS)⟩ (mu_up (qw47 h3 i1u3 c18 i1u19 r_x37 c38 c42 c51 ex57) (qw48 h3 i1u3 c18 i1u19 r_x37 c38 c42 c51 ex57))
      · refine u_X11_laysWays_51 ?_
        refine ⟨o_a41, ?_⟩
        have i58 : vp_in (((8 : Int32) * w15) + w33) (hN _ a41) := (vin l_a41 (m := 3208) (by decide) (sp_rng (qw49 h3 i1u3 c18 i1u19 r_x37 c38 c42) (qw50 h3 i1u3 c18 i1u19 r_x37 c38 c42)))
        refine ⟨i58, ?_⟩
        intro S59 eS59
        have hIn : IV S59 := by rw [eS59]; exact iv11_aJ hI o_v0 (by decide) ea41
        have hS := sb_J eS59 hS
        have hI := hIn
        have f0 := fr_J eS59 f0
        have fL6 := fr_J eS59 fL6
        have fL22 := fr_J eS59 fL22
        have d_kv2 := rd_J eS59 d_kv2
        have d_x37 := rd_J eS59 d_x37
        have ea1 := rf_J eS59 ea1
        have ea41 := rf_J eS59 ea41
        have l_a41 := ln_J eS59 l_a41
        have g0 := gr_J eS59 g0
        have gL5 := gr_J eS59 gL5
        have gL21 := gr_J eS59 gL21
        have o_a1 := ob_J eS59 o_a1
        have o_a41 := ob_J eS59 o_a41
        have o_v0 := ob_J eS59 o_v0
        refine ⟨o_v0, ?_⟩
        obtain ⟨a60, ea60, o_a60, l_a60⟩ := shl 55 rfl hI o_v0
        refine ⟨a60, ea60, ?_⟩
        refine ⟨o_a60, ?_⟩
        have i61 : vp_in (((8 : Int32) * w15) + w33) (hN _ a60) := (vin l_a60 (m := 3208) (by decide) (sp_rng (qw49 h3 i1u3 c18 i1u19 r_x37 c38 c42) (qw50 h3 i1u3 c18 i1u19 r_x37 c38 c42)))
        refine ⟨i61, ?_⟩
        intro S62 eS62
        have hIn : IV S62 := by rw [eS62]; exact iv11_aI hI o_v0 ea60 o_a60 (by decide)
        have hS := sb_17 eS62 hI o_v0 ea60 hS
        have hI := hIn
        have f0 := fr_A eS62 g0 f0 o_a60 (by decide)
        have fL6 := fr_A eS62 gL5 fL6 o_a60 (by decide)
        have fL22 := fr_A eS62 gL21 fL22 o_a60 (by decide)
        have d_kv2 := rd_Ik eS62 o_a60 o_a1 (by decide) d_kv2
        have d_x37 := rd_Ik eS62 o_a60 o_a1 (by decide) d_x37
        have ea1 := rf_I eS62 ea1
        have ea41 := rf_I eS62 ea41
        have ea60 := rf_I eS62 ea60
        have l_a41 := ln_I eS62 l_a41
        have l_a60 := ln_I eS62 l_a60
        have g0 := gr_I eS62 g0
        have gL5 := gr_I eS62 gL5
        have gL21 := gr_I eS62 gL21
        have o_a1 := ob_I eS62 o_a1
        have o_a41 := ob_I eS62 o_a41
        have o_a60 := ob_I eS62 o_a60
        have o_v0 := ob_I eS62 o_v0
        obtain ⟨a63, ea63, o_a63, l_a63⟩ := shl 56 rfl hI o_v0
        refine ⟨a63, ea63, ?_⟩
        refine ⟨o_a63, ?_⟩
        have i64 : vp_in (((8 : Int32) * w15) + w33) (hN _ a63) := (vin l_a63 (m := 3208) (by decide) (sp_rng (qw49 h3 i1u3 c18 i1u19 r_x37 c38 c42) (qw50 h3 i1u3 c18 i1u19 r_x37 c38 c42)))
        refine ⟨i64, ?_⟩
        intro S65 eS65
        have hIn : IV S65 := by rw [eS65]; exact iv11_aI hI o_v0 ea63 o_a63 (by decide)
        have hS := sb_18 (p := w33) (m := w15) eS65 hI o_v0 ea63 (qw51 h3 i1u3 c18 i1u19 r_x37 c38 c42) (qw49 h3 i1u3 c18 i1u19 r_x37 c38 c42) (qw50 h3 i1u3 c18 i1u19 r_x37 c38 c42) (qw52 h3 i1u3 c18 i1u19 r_x37 c38 c42) rfl hS
        have hI := hIn
        have f0 := fr_A eS65 g0 f0 o_a63 (by decide)
        have fL6 := fr_A eS65 gL5 fL6 o_a63 (by decide)
        have fL22 := fr_A eS65 gL21 fL22 o_a63 (by decide)
        have d_kv2 := rd_Ik eS65 o_a63 o_a1 (by decide) d_kv2
        have d_x37 := rd_Ik eS65 o_a63 o_a1 (by decide) d_x37
        have ea1 := rf_I eS65 ea1
        have ea41 := rf_I eS65 ea41
        have ea60 := rf_I eS65 ea60
        have ea63 := rf_I eS65 ea63
        have l_a41 := ln_I eS65 l_a41
        have l_a60 := ln_I eS65 l_a60
        have l_a63 := ln_I eS65 l_a63
        have g0 := gr_I eS65 g0
        have gL5 := gr_I eS65 gL5
        have gL21 := gr_I eS65 gL21
        have o_a1 := ob_I eS65 o_a1
        have o_a41 := ob_I eS65 o_a41
        have o_a60 := ob_I eS65 o_a60
        have o_a63 := ob_I eS65 o_a63
        have o_v0 := ob_I eS65 o_v0
        refine ⟨fun c66 => ?_, fun c66 => ?_⟩
        · refine u_X11_laysWays_85 ?_
          intro x67 ex67
          exact ih35 _ _ _ _ _ _ _ ⟨hI, gL21, fL22, rfl, rfl, rfl, rfl, rfl, (qw53 h3 i1u3 c18 i1u19 r_x37 c38 c42 c66 ex67), (by rw [show x67 - 1 = w33 from (qw54 h3 i1u3 c18 i1u19 r_x37 c38 c42 c66 ex67)]; exact hS)⟩ (mu_up (qw55 h3 i1u3 c18 i1u19 r_x37 c38 c42 c66 ex67) (qw56 h3 i1u3 c18 i1u19 r_x37 c38 c42 c66 ex67))
        · refine m_X11_tries hI o_v0 (qw57 h3 i1u3 c18 i1u19 r_x37 c38 c42 c66) (qw58 h3 i1u3 c18 i1u19 r_x37 c38 c42 c66) (qw59 h3 i1u3 c18 i1u19 r_x37 c38 c42 c66) (qw60 h3 i1u3 c18 i1u19 r_x37 c38 c42 c66) hS ⟨_, ea1, (qw61 h3 r_kv2 hwi1 i1u3 c18 i1u19 r_x37 c38 c42 c66), (by rw [← d_kv2]; exact (qw62 h3 r_kv2 hwi1 i1u3 c18 i1u19 r_x37 c38 c42 c66))⟩ (fun S69 hJ g70 fc71 p_S69 => ?_)
          have hS := p_S69
          have hI := hJ
          have l_a41 := (gr_len g70 o_a41).trans l_a41
          have l_a60 := (gr_len g70 o_a60).trans l_a60
          have l_a63 := (gr_len g70 o_a63).trans l_a63
          have d_kv2 := d_kv2.trans (fri_at fc71 (by decide) (by decide) o_a1).symm
          have d_x37 := d_x37.trans (fri_at fc71 (by decide) (by decide) o_a1).symm
          have ea1 := (frr_at fc71 (by decide) (by decide) o_v0).trans ea1
          have ea41 := (frr_at fc71 (by decide) (by decide) o_v0).trans ea41
          have ea60 := (frr_at fc71 (by decide) (by decide) o_v0).trans ea60
          have ea63 := (frr_at fc71 (by decide) (by decide) o_v0).trans ea63
          have f0 := fri_tr (S := S65) g0 f0 fc71 (by decide) (by decide)
          have fL6 := fri_tr (S := S65) gL5 fL6 fc71 (by decide) (by decide)
          have fL22 := fri_tr (S := S65) gL21 fL22 fc71 (by decide) (by decide)
          have o_a1 := gr_ob g70 o_a1
          have o_a41 := gr_ob g70 o_a41
          have o_a60 := gr_ob g70 o_a60
          have o_a63 := gr_ob g70 o_a63
          have o_v0 := gr_ob g70 o_v0
          have g0 := gr_tr (T := S65) g0 g70
          have gL5 := gr_tr (T := S65) gL5 g70
          have gL21 := gr_tr (T := S65) gL21 g70
          intro _
          refine u_X11_laysWays_85 ?_
          intro x72 ex72
          exact ih35 _ _ _ _ _ _ _ ⟨hI, gL21, fL22, rfl, rfl, rfl, rfl, rfl, (qw63 h3 i1u3 c18 i1u19 r_x37 c38 c42 c66 ex72), (by rw [show x72 - 1 = w33 from (qw64 h3 i1u3 c18 i1u19 r_x37 c38 c42 c66 ex72)]; exact hS)⟩ (mu_up (qw65 h3 i1u3 c18 i1u19 r_x37 c38 c42 c66 ex72) (qw66 h3 i1u3 c18 i1u19 r_x37 c38 c42 c66 ex72))
set_option maxHeartbeats 4000000 in
set_option maxRecDepth 20000 in
theorem m_X11_refusesWay {v0 : Nat} {v1 : Int32} {v2 : Int32} {v3 : Int32} {v4 : Int32} {v5 : Int32} {Q : Int32 → HS → Prop} {S : HS} (hI : IV S) (o_v0 : ob S v0 11)     (hq : ∀ (r : Int32) (T : HS), IV T → Gr S T → FRI [] [] S T → (r = 0 → WYQ T v0 v2 v4) ∧ (r = 0 ∨ r = 1 ∨ r = 2 ∨ r = 6) → Q r T) : P_X11_refusesWay v0 v1 v2 v3 v4 v5 Q S := by
  have g0 := gr_rf S
  have f0 := fri_rf [] [] S
  refine u_X11_refusesWay ?_
  refine u_X11_refusesWay_0 ?_
  refine ⟨o_v0, ?_⟩
  refine u_X11_isWalker ?_
  refine u_X11_isWalker_0 ?_
  refine ⟨o_v0, ?_⟩
  refine ⟨fun e2 => ?_, fun a1 ea1 => ?_⟩
  · intro _ _
    refine ⟨fun c4 => ?_, fun c4 => absurd (show ¬ (0 : Int32) = 0 from c4) (by decide)⟩
    exact hq _ _ hI g0 f0 ⟨(fun z => absurd z (by decide)), (by have t : (1 : Int32) = 0 ∨ (1 : Int32) = 1 ∨ (1 : Int32) = 2 ∨ (1 : Int32) = 6 := (qw361); rw [] at t; exact t)⟩
  · have o_a1 := ml_ob hI o_v0 ea1
    refine ⟨fun c5 => ?_, fun c5 => ?_⟩
    · intro _ _
      refine ⟨fun c7 => ?_, fun c7 => absurd (show ¬ (0 : Int32) = 0 from c7) (by decide)⟩
      exact hq _ _ hI g0 f0 ⟨(fun z => absurd z (by decide)), (by have t : (1 : Int32) = 0 ∨ (1 : Int32) = 1 ∨ (1 : Int32) = 2 ∨ (1 : Int32) = 6 := (qw362 c5); rw [] at t; exact t)⟩
    · refine ⟨a1, ea1, ?_⟩
      refine ⟨o_a1, ?_⟩
      intro x9 ex9
      have r_x9 : (0 : Int32) ≤ x9 ∧ x9 ≤ (4 : Int32) := by rw [ex9]; exact nu 20 rfl hI o_a1
      have d_x9 := ex9
      refine ⟨fun c10 => ?_, fun c10 => ?_⟩
      · intro _ _
        refine ⟨fun c12 => ?_, fun c12 => absurd (show ¬ (0 : Int32) = 0 from c12) (by decide)⟩
        exact hq _ _ hI g0 f0 ⟨(fun z => absurd z (by decide)), (by have t : (1 : Int32) = 0 ∨ (1 : Int32) = 1 ∨ (1 : Int32) = 2 ∨ (1 : Int32) = 6 := (qw363 c5 r_x9 c10); rw [] at t; exact t)⟩
      · intro _ _
        refine ⟨fun c14 => absurd (show (1 : Int32) = 0 from c14) (by decide), fun c14 => ?_⟩
        refine u_X11_isPlace ?_
        refine u_X11_isPlace_0 ?_
        refine ⟨o_v0, ?_⟩
        refine ⟨fun e16 => (nomatch (e16.symm.trans ea1)), fun a15 ea15 => ?_⟩
        obtain rfl : a1 = a15 := Option.some.inj (ea1.symm.trans ea15)
        refine ⟨fun c17 => ?_, fun c17 => ?_⟩
        · intro _ _
          refine ⟨fun c19 => ?_, fun c19 => absurd (show ¬ (0 : Int32) = 0 from c19) (by decide)⟩
          exact hq _ _ hI g0 f0 ⟨(fun z => absurd z (by decide)), (by have t : (1 : Int32) = 0 ∨ (1 : Int32) = 1 ∨ (1 : Int32) = 2 ∨ (1 : Int32) = 6 := (qw364 c5 r_x9 c10 c17); rw [] at t; exact t)⟩
        · refine ⟨a1, ea1, ?_⟩
          refine ⟨o_a1, ?_⟩
          intro x21 ex21
          have r_x21 : (0 : Int32) ≤ x21 ∧ x21 ≤ (8 : Int32) := by rw [ex21]; exact nu 18 rfl hI o_a1
          have d_x21 := ex21
          refine ⟨fun c22 => ?_, fun c22 => ?_⟩
          · intro _ _
            refine ⟨fun c24 => ?_, fun c24 => absurd (show ¬ (0 : Int32) = 0 from c24) (by decide)⟩
            exact hq _ _ hI g0 f0 ⟨(fun z => absurd z (by decide)), (by have t : (1 : Int32) = 0 ∨ (1 : Int32) = 1 ∨ (1 : Int32) = 2 ∨ (1 : Int32) = 6 := (qw365 c5 r_x9 c10 c17 r_x21 c22); rw [] at t; exact t)⟩
          · intro _ _
            refine ⟨fun c26 => absurd (show (1 : Int32) = 0 from c26) (by decide), fun c26 => ?_⟩
            refine u_X11_isPlace ?_
            refine u_X11_isPlace_0 ?_
            refine ⟨o_v0, ?_⟩
            refine ⟨fun e28 => (nomatch (e28.symm.trans ea1)), fun a27 ea27 => ?_⟩
            obtain rfl : a1 = a27 := Option.some.inj (ea1.symm.trans ea27)
            refine ⟨fun c29 => ?_, fun c29 => ?_⟩
            · intro _ _
              refine ⟨fun c31 => absurd (show ¬ (0 : Int32) = 0 from c31) (by decide), fun c31 => ?_⟩
              exact hq _ _ hI g0 f0 ⟨(fun z => absurd z (by decide)), (by have t : (1 : Int32) = 0 ∨ (1 : Int32) = 1 ∨ (1 : Int32) = 2 ∨ (1 : Int32) = 6 := (qw366 c5 r_x9 c10 c17 r_x21 c22 c29); rw [] at t; exact t)⟩
            · refine ⟨a1, ea1, ?_⟩
              refine ⟨o_a1, ?_⟩
              intro x33 ex33
              have r_x33 : (0 : Int32) ≤ x33 ∧ x33 ≤ (8 : Int32) := by rw [ex33]; exact nu 18 rfl hI o_a1
              have q_x33 : x33 = x21 := ex33.trans d_x21.symm
              have d_x33 := ex33
              refine ⟨fun c34 => ?_, fun c34 => ?_⟩
              · intro _ _
                refine ⟨fun c36 => absurd (show ¬ (0 : Int32) = 0 from c36) (by decide), fun c36 => ?_⟩
                exact hq _ _ hI g0 f0 ⟨(fun z => absurd z (by decide)), (by have t : (1 : Int32) = 0 ∨ (1 : Int32) = 1 ∨ (1 : Int32) = 2 ∨ (1 : Int32) = 6 := (qw367 c5 r_x9 c10 c17 r_x21 c22 c29 r_x33 q_x33 c34); rw [] at t; exact t)⟩
              · intro _ _
                refine ⟨fun c38 => ?_, fun c38 => absurd (show (1 : Int32) = 0 from c38) (by decide)⟩
                refine u_X11_in ?_
                refine u_X11_in_0 ?_
                refine ⟨fun c39 => ?_, fun c39 => ?_⟩
                · intro _ _
                  refine ⟨fun c41 => ?_, fun c41 => absurd (show ¬ (0 : Int32) = 0 from c41) (by decide)⟩
                  exact hq _ _ hI g0 f0 ⟨(fun z => absurd z (by decide)), (by have t : (2 : Int32) = 0 ∨ (2 : Int32) = 1 ∨ (2 : Int32) = 2 ∨ (2 : Int32) = 6 := (qw368 c5 r_x9 c10 c17 r_x21 c22 c29 r_x33 q_x33 c34 c39); rw [] at t; exact t)⟩
                · refine ⟨fun c42 => ?_, fun c42 => ?_⟩
                  · intro _ _
                    refine ⟨fun c44 => ?_, fun c44 => absurd (show ¬ (0 : Int32) = 0 from c44) (by decide)⟩
                    exact hq _ _ hI g0 f0 ⟨(fun z => absurd z (by decide)), (by have t : (2 : Int32) = 0 ∨ (2 : Int32) = 1 ∨ (2 : Int32) = 2 ∨ (2 : Int32) = 6 := (qw369 c5 r_x9 c10 c17 r_x21 c22 c29 r_x33 q_x33 c34 c39 c42); rw [] at t; exact t)⟩
                  · intro _ _
                    refine ⟨fun c46 => absurd (show (1 : Int32) = 0 from c46) (by decide), fun c46 => ?_⟩
                    refine u_X11_in ?_
                    refine u_X11_in_0 ?_
                    refine ⟨fun c47 => ?_, fun c47 => ?_⟩
                    · intro _ _
                      refine ⟨fun c49 => absurd (show ¬ (0 : Int32) = 0 from c49) (by decide), fun c49 => ?_⟩
                      exact hq _ _ hI g0 f0 ⟨(fun z => absurd z (by decide)), (by have t : (2 : Int32) = 0 ∨ (2 : Int32) = 1 ∨ (2 : Int32) = 2 ∨ (2 : Int32) = 6 := (qw370 c5 r_x9 c10 c17 r_x21 c22 c29 r_x33 q_x33 c34 c39 c42 c47); rw [] at t; exact t)⟩
                    · refine ⟨fun c50 => ?_, fun c50 => ?_⟩
                      · intro _ _
                        refine ⟨fun c52 => absurd (show ¬ (0 : Int32) = 0 from c52) (by decide), fun c52 => ?_⟩
                        exact hq _ _ hI g0 f0 ⟨(fun z => absurd z (by decide)), (by have t : (2 : Int32) = 0 ∨ (2 : Int32) = 1 ∨ (2 : Int32) = 2 ∨ (2 : Int32) = 6 := (qw371 c5 r_x9 c10 c17 r_x21 c22 c29 r_x33 q_x33 c34 c39 c42 c47 c50); rw [] at t; exact t)⟩
                      · intro _ _
                        refine ⟨fun c54 => ?_, fun c54 => absurd (show (1 : Int32) = 0 from c54) (by decide)⟩
                        refine m_X11_laysWays hI o_v0 (qw372 c5 r_x9 c10 c17 r_x21 c22 c29 r_x33 q_x33 c34 c39 c42 c47 c50) ⟨_, ea1, (qw373 c5 r_x9 c10 c17 r_x21 c22 c29 r_x33 q_x33 c34 c39 c42 c47 c50), (by rw [← d_x9]; exact (qw374 c5 r_x9 c10 c17 r_x21 c22 c29 r_x33 q_x33 c34 c39 c42 c47 c50))⟩ (fun S56 hJ g57 fc58 p_S56 => ?_)
                        have hI := hJ
                        have d_x9 := d_x9.trans (fri_at fc58 (by decide) (by decide) o_a1).symm
                        have d_x33 := d_x33.trans (fri_at fc58 (by decide) (by decide) o_a1).symm
                        have ea1 := (frr_at fc58 (by decide) (by decide) o_v0).trans ea1
                        have f0 := fri_tr (S := S) g0 f0 fc58 (by decide) (by decide)
                        have o_a1 := gr_ob g57 o_a1
                        have o_v0 := gr_ob g57 o_v0
                        have g0 := gr_tr (T := S) g0 g57
                        intro _
                        obtain ⟨a59, ea59, o_a59, l_a59⟩ := shl 54 rfl hI o_v0
                        refine ⟨a59, ea59, ?_⟩
                        refine u_X11_spotOf ?_
                        refine u_X11_spotOf_0 ?_
                        intro _
                        refine ⟨o_a59, ?_⟩
                        refine ⟨(vin l_a59 (m := 3208) (by decide) (sp_rng (qw375 c5 r_x9 c10 c17 r_x21 c22 c29 r_x33 q_x33 c34 c39 c42 c47 c50) (qw376 c5 r_x9 c10 c17 r_x21 c22 c29 r_x33 q_x33 c34 c39 c42 c47 c50))), ?_⟩
                        intro x61 ex61
                        refine ⟨fun c62 => ?_, fun c62 => ?_⟩
                        · exact hq _ _ hI g0 f0 ⟨(fun _ => ⟨v5, a1, p_S56, (qw377 c5 r_x9 c10 c17 r_x21 c22 c29 r_x33 q_x33 c34 c39 c42 c47 c50 c62), (qw378 c5 r_x9 c10 c17 r_x21 c22 c29 r_x33 q_x33 c34 c39 c42 c47 c50 c62), (qw379 c5 r_x9 c10 c17 r_x21 c22 c29 r_x33 q_x33 c34 c39 c42 c47 c50 c62), ea1, (qw380 c5 r_x9 c10 c17 r_x21 c22 c29 r_x33 q_x33 c34 c39 c42 c47 c50 c62), by rw [← d_x33]; exact (qw381 c5 r_x9 c10 c17 r_x21 c22 c29 r_x33 q_x33 c34 c39 c42 c47 c50 c62)⟩), (by have t : (0 : Int32) = 0 ∨ (0 : Int32) = 1 ∨ (0 : Int32) = 2 ∨ (0 : Int32) = 6 := (qw382 c5 r_x9 c10 c17 r_x21 c22 c29 r_x33 q_x33 c34 c39 c42 c47 c50 c62); rw [] at t; exact t)⟩
                        · exact hq _ _ hI g0 f0 ⟨(fun z => absurd z (by decide)), (by have t : (6 : Int32) = 0 ∨ (6 : Int32) = 1 ∨ (6 : Int32) = 2 ∨ (6 : Int32) = 6 := (qw383 c5 r_x9 c10 c17 r_x21 c22 c29 r_x33 q_x33 c34 c39 c42 c47 c50 c62); rw [] at t; exact t)⟩
set_option maxHeartbeats 4000000 in
set_option maxRecDepth 20000 in
theorem m_X11_least {v0 : Nat} {v1 : Int32} {v2 : Int32} {v3 : Int32} {v4 : Int32} {v5 : Int32} {v6 : Int32} {Q : Int64 → HS → Prop} {S : HS} (hI : IV S) (o_v0 : ob S v0 11)     (hq : ∀ (r : Int64) (T : HS), IV T → Gr S T → FRI [(11, 0), (11, 1), (11, 2)] [] S T → Q r T) : P_X11_least v0 v1 v2 v3 v4 v5 v6 Q S := by
  have g0 := gr_rf S
  have f0 := fri_rf [(11, 0), (11, 1), (11, 2)] [] S
  refine u_X11_least ?_
  refine u_X11_least_0 ?_
  refine ⟨o_v0, ?_⟩
  intro S1 eS1
  have hIn : IV S1 := by rw [eS1]; exact iv11_sI hI o_v0 (by decide) (nu_free (by decide))
  have hI := hIn
  have f0 := fr_I eS1 g0 f0 o_v0 (by decide)
  obtain ⟨kv2, hkv2⟩ : ∃ z : Int32, z = (0 : Int32) := ⟨_, rfl⟩
  have d_kv2 := rd_Is eS1 hkv2
  have g0 := gr_I eS1 g0
  have o_v0 := ob_I eS1 o_v0
  refine m_X11_refusesWay hI o_v0 (fun x3 S4 hJ g5 fc6 p_x3 => ?_)
  obtain ⟨p_x3, pg0_S4⟩ := p_x3
  have hI := hJ
  have d_kv2 := d_kv2.trans (fri_at fc6 (by decide) (by decide) o_v0).symm
  have f0 := fri_tr (S := S1) g0 f0 fc6 (by decide) (by decide)
  have o_v0 := gr_ob g5 o_v0
  have g0 := gr_tr (T := S1) g0 g5
  have ph0_S4 : x3 = 0 ∨ x3 = 1 ∨ x3 = 2 ∨ x3 = 6 := by rw []; exact pg0_S4
  intro _
  have wn_x3 : x3 = 0 → 0 ≤ v2 ∧ v2 < 8 ∧ 0 ≤ v4 ∧ v4 ≤ 400 := fun z => wyq_num hI o_v0 (p_x3 z)
  refine ⟨fun c7 => ?_, fun c7 => ?_⟩
  · obtain ⟨a8, ea8, o_a8, l_a8⟩ := shl 54 rfl hI o_v0
    refine ⟨a8, ea8, ?_⟩
    refine u_X11_spotOf ?_
    refine u_X11_spotOf_0 ?_
    intro _
    refine ⟨o_a8, ?_⟩
    refine ⟨(vin l_a8 (m := 3208) (by decide) (sp_rng (qw385 ph0_S4 wn_x3 c7) (qw386 ph0_S4 wn_x3 c7))), ?_⟩
    intro x10 ex10
    refine m_X11_told hI o_v0 (qw387 ph0_S4 wn_x3 c7) (fun x11 S12 hJ g13 fc14 => ?_)
    have hI := hJ
    have l_a8 := (gr_len g13 o_a8).trans l_a8
    have d_kv2 := d_kv2.trans (fri_at fc14 (by decide) (by decide) o_v0).symm
    have ea8 := (frr_at fc14 (by decide) (by decide) o_v0).trans ea8
    have f0 := fri_tr (S := S4) g0 f0 fc14 (by decide) (by decide)
    have o_a8 := gr_ob g13 o_a8
    have o_v0 := gr_ob g13 o_v0
    have g0 := gr_tr (T := S4) g0 g13
    intro _
    exact hq _ _ hI g0 f0
  · refine u_X11_refused ?_
    refine u_X11_refused_0 ?_
    refine ⟨o_v0, ?_⟩
    intro S15 eS15
    have hIn : IV S15 := by rw [eS15]; exact iv11_sI hI o_v0 (by decide) (nu_free (by decide))
    have hI := hIn
    have f0 := fr_I eS15 g0 f0 o_v0 (by decide)
    have d_kv2 := rd_Ij eS15 (by decide) d_kv2
    have d_x3 := rd_Is eS15 (rfl : x3 = x3)
    have g0 := gr_I eS15 g0
    have o_v0 := ob_I eS15 o_v0
    intro S16 eS16
    have hIn : IV S16 := by rw [eS16]; exact iv11_sI hI o_v0 (by decide) (nu_free (by decide))
    have hI := hIn
    have f0 := fr_I eS16 g0 f0 o_v0 (by decide)
    have d_kv2 := rd_Ij eS16 (by decide) d_kv2
    have d_x3 := rd_Ij eS16 (by decide) d_x3
    obtain ⟨kv17, hkv17⟩ : ∃ z : Int32, z = (-1 : Int32) := ⟨_, rfl⟩
    have d_kv17 := rd_Is eS16 hkv17
    have g0 := gr_I eS16 g0
    have o_v0 := ob_I eS16 o_v0
    intro _
    exact hq _ _ hI g0 f0
set_option maxHeartbeats 4000000 in
set_option maxRecDepth 20000 in
theorem m_X11_off {v0 : Nat} {v1 : Int32} {v2 : Int32} {v3 : Int32} {v4 : Int32} {Q : Int32 → HS → Prop} {S : HS} (hI : IV S) (o_v0 : ob S v0 11)     (hq : ∀ (r : Int32) (T : HS), IV T → Gr S T → FRI [(11, 0), (11, 1), (11, 2)] [] S T → Q r T) : P_X11_off v0 v1 v2 v3 v4 Q S := by
  have g0 := gr_rf S
  have f0 := fri_rf [(11, 0), (11, 1), (11, 2)] [] S
  refine u_X11_off ?_
  refine u_X11_off_0 ?_
  refine ⟨o_v0, ?_⟩
  intro S1 eS1
  have hIn : IV S1 := by rw [eS1]; exact iv11_sI hI o_v0 (by decide) (nu_free (by decide))
  have hI := hIn
  have f0 := fr_I eS1 g0 f0 o_v0 (by decide)
  obtain ⟨kv2, hkv2⟩ : ∃ z : Int32, z = (0 : Int32) := ⟨_, rfl⟩
  have d_kv2 := rd_Is eS1 hkv2
  have g0 := gr_I eS1 g0
  have o_v0 := ob_I eS1 o_v0
  refine u_X11_isWalker ?_
  refine u_X11_isWalker_0 ?_
  refine ⟨o_v0, ?_⟩
  refine ⟨fun e4 => ?_, fun a3 ea3 => ?_⟩
  · intro _ _
    refine ⟨fun c6 => ?_, fun c6 => absurd (show ¬ (0 : Int32) = 0 from c6) (by decide)⟩
    refine u_X11_off_29 ?_
    refine ⟨o_v0, ?_⟩
    refine u_X11_refused ?_
    refine u_X11_refused_0 ?_
    refine ⟨o_v0, ?_⟩
    intro S7 eS7
    have hIn : IV S7 := by rw [eS7]; exact iv11_sI hI o_v0 (by decide) (nu_free (by decide))
    have hI := hIn
    have f0 := fr_I eS7 g0 f0 o_v0 (by decide)
    have d_kv2 := rd_Ij eS7 (by decide) d_kv2
    obtain ⟨kv8, hkv8⟩ : ∃ z : Int32, z = (1 : Int32) := ⟨_, rfl⟩
    have d_kv8 := rd_Is eS7 hkv8
    have g0 := gr_I eS7 g0
    have o_v0 := ob_I eS7 o_v0
    intro S9 eS9
    have hIn : IV S9 := by rw [eS9]; exact iv11_sI hI o_v0 (by decide) (nu_free (by decide))
    have hI := hIn
    have f0 := fr_I eS9 g0 f0 o_v0 (by decide)
    have d_kv2 := rd_Ij eS9 (by decide) d_kv2
    have d_kv8 := rd_Ij eS9 (by decide) d_kv8
    obtain ⟨kv10, hkv10⟩ : ∃ z : Int32, z = (-1 : Int32) := ⟨_, rfl⟩
    have d_kv10 := rd_Is eS9 hkv10
    have g0 := gr_I eS9 g0
    have o_v0 := ob_I eS9 o_v0
    intro _
    exact hq _ _ hI g0 f0
  · have o_a3 := ml_ob hI o_v0 ea3
    refine ⟨fun c12 => ?_, fun c12 => ?_⟩
    · intro _ _
      refine ⟨fun c14 => ?_, fun c14 => absurd (show ¬ (0 : Int32) = 0 from c14) (by decide)⟩
      refine u_X11_off_29 ?_
      refine ⟨o_v0, ?_⟩
      refine u_X11_refused ?_
      refine u_X11_refused_0 ?_
      refine ⟨o_v0, ?_⟩
      intro S15 eS15
      have hIn : IV S15 := by rw [eS15]; exact iv11_sI hI o_v0 (by decide) (nu_free (by decide))
      have hI := hIn
      have f0 := fr_I eS15 g0 f0 o_v0 (by decide)
      have d_kv2 := rd_Ij eS15 (by decide) d_kv2
      obtain ⟨kv16, hkv16⟩ : ∃ z : Int32, z = (1 : Int32) := ⟨_, rfl⟩
      have d_kv16 := rd_Is eS15 hkv16
      have ea3 := rf_I eS15 ea3
      have g0 := gr_I eS15 g0
      have o_a3 := ob_I eS15 o_a3
      have o_v0 := ob_I eS15 o_v0
      intro S17 eS17
      have hIn : IV S17 := by rw [eS17]; exact iv11_sI hI o_v0 (by decide) (nu_free (by decide))
      have hI := hIn
      have f0 := fr_I eS17 g0 f0 o_v0 (by decide)
      have d_kv2 := rd_Ij eS17 (by decide) d_kv2
      have d_kv16 := rd_Ij eS17 (by decide) d_kv16
      obtain ⟨kv18, hkv18⟩ : ∃ z : Int32, z = (-1 : Int32) := ⟨_, rfl⟩
      have d_kv18 := rd_Is eS17 hkv18
      have ea3 := rf_I eS17 ea3
      have g0 := gr_I eS17 g0
      have o_a3 := ob_I eS17 o_a3
      have o_v0 := ob_I eS17 o_v0
      intro _
      exact hq _ _ hI g0 f0
    · refine ⟨a3, ea3, ?_⟩
      refine ⟨o_a3, ?_⟩
      intro x21 ex21
      have r_x21 : (0 : Int32) ≤ x21 ∧ x21 ≤ (4 : Int32) := by rw [ex21]; exact nu 20 rfl hI o_a3
      have d_x21 := ex21
      refine ⟨fun c22 => ?_, fun c22 => ?_⟩
      · intro _ _
        refine ⟨fun c24 => ?_, fun c24 => absurd (show ¬ (0 : Int32) = 0 from c24) (by decide)⟩
        refine u_X11_off_29 ?_
        refine ⟨o_v0, ?_⟩
        refine u_X11_refused ?_
        refine u_X11_refused_0 ?_
        refine ⟨o_v0, ?_⟩
        intro S25 eS25
        have hIn : IV S25 := by rw [eS25]; exact iv11_sI hI o_v0 (by decide) (nu_free (by decide))
        have hI := hIn
        have f0 := fr_I eS25 g0 f0 o_v0 (by decide)
        have d_kv2 := rd_Ij eS25 (by decide) d_kv2
        have d_x21 := rd_Ik eS25 o_v0 o_a3 (by decide) d_x21
        obtain ⟨kv26, hkv26⟩ : ∃ z : Int32, z = (1 : Int32) := ⟨_, rfl⟩
        have d_kv26 := rd_Is eS25 hkv26
        have ea3 := rf_I eS25 ea3
        have g0 := gr_I eS25 g0
        have o_a3 := ob_I eS25 o_a3
        have o_v0 := ob_I eS25 o_v0
        intro S27 eS27
        have hIn : IV S27 := by rw [eS27]; exact iv11_sI hI o_v0 (by decide) (nu_free (by decide))
        have hI := hIn
        have f0 := fr_I eS27 g0 f0 o_v0 (by decide)
        have d_kv2 := rd_Ij eS27 (by decide) d_kv2
        have d_x21 := rd_Ik eS27 o_v0 o_a3 (by decide) d_x21
        have d_kv26 := rd_Ij eS27 (by decide) d_kv26
        obtain ⟨kv28, hkv28⟩ : ∃ z : Int32, z = (-1 : Int32) := ⟨_, rfl⟩
        have d_kv28 := rd_Is eS27 hkv28
        have ea3 := rf_I eS27 ea3
        have g0 := gr_I eS27 g0
        have o_a3 := ob_I eS27 o_a3
        have o_v0 := ob_I eS27 o_v0
        intro _
        exact hq _ _ hI g0 f0
      · intro _ _
        refine ⟨fun c31 => absurd (show (1 : Int32) = 0 from c31) (by decide), fun c31 => ?_⟩
        refine u_X11_isPlace ?_
        refine u_X11_isPlace_0 ?_
        refine ⟨o_v0, ?_⟩
        refine ⟨fun e33 => (nomatch (e33.symm.trans ea3)), fun a32 ea32 => ?_⟩
        obtain rfl : a3 = a32 := Option.some.inj (ea3.symm.trans ea32)
        refine ⟨fun c34 => ?_, fun c34 => ?_⟩
        · intro _ _
          refine ⟨fun c36 => ?_, fun c36 => absurd (show ¬ (0 : Int32) = 0 from c36) (by decide)⟩
          refine u_X11_off_29 ?_
          refine ⟨o_v0, ?_⟩
          refine u_X11_refused ?_
          refine u_X11_refused_0 ?_
          refine ⟨o_v0, ?_⟩
          intro S37 eS37
          have hIn : IV S37 := by rw [eS37]; exact iv11_sI hI o_v0 (by decide) (nu_free (by decide))
          have hI := hIn
          have f0 := fr_I eS37 g0 f0 o_v0 (by decide)
          have d_kv2 := rd_Ij eS37 (by decide) d_kv2
          have d_x21 := rd_Ik eS37 o_v0 o_a3 (by decide) d_x21
          obtain ⟨kv38, hkv38⟩ : ∃ z : Int32, z = (1 : Int32) := ⟨_, rfl⟩
          have d_kv38 := rd_Is eS37 hkv38
          have ea3 := rf_I eS37 ea3
          have g0 := gr_I eS37 g0
          have o_a3 := ob_I eS37 o_a3
          have o_v0 := ob_I eS37 o_v0
          intro S39 eS39
          have hIn : IV S39 := by rw [eS39]; exact iv11_sI hI o_v0 (by decide) (nu_free (by decide))
          have hI := hIn
          have f0 := fr_I eS39 g0 f0 o_v0 (by decide)
          have d_kv2 := rd_Ij eS39 (by decide) d_kv2
          have d_x21 := rd_Ik eS39 o_v0 o_a3 (by decide) d_x21
          have d_kv38 := rd_Ij eS39 (by decide) d_kv38
          obtain ⟨kv40, hkv40⟩ : ∃ z : Int32, z = (-1 : Int32) := ⟨_, rfl⟩
          have d_kv40 := rd_Is eS39 hkv40
          have ea3 := rf_I eS39 ea3
          have g0 := gr_I eS39 g0
          have o_a3 := ob_I eS39 o_a3
          have o_v0 := ob_I eS39 o_v0
          intro _
          exact hq _ _ hI g0 f0
        · refine ⟨a3, ea3, ?_⟩
          refine ⟨o_a3, ?_⟩
          intro x43 ex43
          have r_x43 : (0 : Int32) ≤ x43 ∧ x43 ≤ (8 : Int32) := by rw [ex43]; exact nu 18 rfl hI o_a3
          have d_x43 := ex43
          refine ⟨fun c44 => ?_, fun c44 => ?_⟩
          · intro _ _
            refine ⟨fun c46 => ?_, fun c46 => absurd (show ¬ (0 : Int32) = 0 from c46) (by decide)⟩
            refine u_X11_off_29 ?_
            refine ⟨o_v0, ?_⟩
            refine u_X11_refused ?_
            refine u_X11_refused_0 ?_
            refine ⟨o_v0, ?_⟩
            intro S47 eS47
            have hIn : IV S47 := by rw [eS47]; exact iv11_sI hI o_v0 (by decide) (nu_free (by decide))
            have hI := hIn
            have f0 := fr_I eS47 g0 f0 o_v0 (by decide)
            have d_kv2 := rd_Ij eS47 (by decide) d_kv2
            have d_x21 := rd_Ik eS47 o_v0 o_a3 (by decide) d_x21
            have d_x43 := rd_Ik eS47 o_v0 o_a3 (by decide) d_x43
            obtain ⟨kv48, hkv48⟩ : ∃ z : Int32, z = (1 : Int32) := ⟨_, rfl⟩
            have d_kv48 := rd_Is eS47 hkv48
            have ea3 := rf_I eS47 ea3
            have g0 := gr_I eS47 g0
            have o_a3 := ob_I eS47 o_a3
            have o_v0 := ob_I eS47 o_v0
            intro S49 eS49
            have hIn : IV S49 := by rw [eS49]; exact iv11_sI hI o_v0 (by decide) (nu_free (by decide))
            have hI := hIn
            have f0 := fr_I eS49 g0 f0 o_v0 (by decide)
            have d_kv2 := rd_Ij eS49 (by decide) d_kv2
            have d_x21 := rd_Ik eS49 o_v0 o_a3 (by decide) d_x21
            have d_x43 := rd_Ik eS49 o_v0 o_a3 (by decide) d_x43
            have d_kv48 := rd_Ij eS49 (by decide) d_kv48
            obtain ⟨kv50, hkv50⟩ : ∃ z : Int32, z = (-1 : Int32) := ⟨_, rfl⟩
            have d_kv50 := rd_Is eS49 hkv50
            have ea3 := rf_I eS49 ea3
            have g0 := gr_I eS49 g0
            have o_a3 := ob_I eS49 o_a3
            have o_v0 := ob_I eS49 o_v0
            intro _
            exact hq _ _ hI g0 f0
          · intro _ _
            refine ⟨fun c53 => absurd (show (1 : Int32) = 0 from c53) (by decide), fun c53 => ?_⟩
            refine u_X11_isPlace ?_
            refine u_X11_isPlace_0 ?_
            refine ⟨o_v0, ?_⟩
            refine ⟨fun e55 => (nomatch (e55.symm.trans ea3)), fun a54 ea54 => ?_⟩
            obtain rfl : a3 = a54 := Option.some.inj (ea3.symm.trans ea54)
            refine ⟨fun c56 => ?_, fun c56 => ?_⟩
            · intro _ _
              refine ⟨fun c58 => absurd (show ¬ (0 : Int32) = 0 from c58) (by decide), fun c58 => ?_⟩
              refine u_X11_off_29 ?_
              refine ⟨o_v0, ?_⟩
              refine u_X11_refused ?_
              refine u_X11_refused_0 ?_
              refine ⟨o_v0, ?_⟩
              intro S59 eS59
              have hIn : IV S59 := by rw [eS59]; exact iv11_sI hI o_v0 (by decide) (nu_free (by decide))
              have hI := hIn
              have f0 := fr_I eS59 g0 f0 o_v0 (by decide)
              have d_kv2 := rd_Ij eS59 (by decide) d_kv2
              have d_x21 := rd_Ik eS59 o_v0 o_a3 (by decide) d_x21
              have d_x43 := rd_Ik eS59 o_v0 o_a3 (by decide) d_x43
              obtain ⟨kv60, hkv60⟩ : ∃ z : Int32, z = (1 : Int32) := ⟨_, rfl⟩
              have d_kv60 := rd_Is eS59 hkv60
              have ea3 := rf_I eS59 ea3
              have g0 := gr_I eS59 g0
              have o_a3 := ob_I eS59 o_a3
              have o_v0 := ob_I eS59 o_v0
              intro S61 eS61
              have hIn : IV S61 := by rw [eS61]; exact iv11_sI hI o_v0 (by decide) (nu_free (by decide))
              have hI := hIn
              have f0 := fr_I eS61 g0 f0 o_v0 (by decide)
              have d_kv2 := rd_Ij eS61 (by decide) d_kv2
              have d_x21 := rd_Ik eS61 o_v0 o_a3 (by decide) d_x21
              have d_x43 := rd_Ik eS61 o_v0 o_a3 (by decide) d_x43
              have d_kv60 := rd_Ij eS61 (by decide) d_kv60
              obtain ⟨kv62, hkv62⟩ : ∃ z : Int32, z = (-1 : Int32) := ⟨_, rfl⟩
              have d_kv62 := rd_Is eS61 hkv62
              have ea3 := rf_I eS61 ea3
              have g0 := gr_I eS61 g0
              have o_a3 := ob_I eS61 o_a3
              have o_v0 := ob_I eS61 o_v0
              intro _
              exact hq _ _ hI g0 f0
            · refine ⟨a3, ea3, ?_⟩
              refine ⟨o_a3, ?_⟩
              intro x65 ex65
              have r_x65 : (0 : Int32) ≤ x65 ∧ x65 ≤ (8 : Int32) := by rw [ex65]; exact nu 18 rfl hI o_a3
              have q_x65 : x65 = x43 := ex65.trans d_x43.symm
              have d_x65 := ex65
              refine ⟨fun c66 => ?_, fun c66 => ?_⟩
              · intro _ _
                refine ⟨fun c68 => absurd (show ¬ (0 : Int32) = 0 from c68) (by decide), fun c68 => ?_⟩
                refine u_X11_off_29 ?_
                refine ⟨o_v0, ?_⟩
                refine u_X11_refused ?_
                refine u_X11_refused_0 ?_
                refine ⟨o_v0, ?_⟩
                intro S69 eS69
                have hIn : IV S69 := by rw [eS69]; exact iv11_sI hI o_v0 (by decide) (nu_free (by decide))
                have hI := hIn
                have f0 := fr_I eS69 g0 f0 o_v0 (by decide)
                have d_kv2 := rd_Ij eS69 (by decide) d_kv2
                have d_x21 := rd_Ik eS69 o_v0 o_a3 (by decide) d_x21
                have d_x65 := rd_Ik eS69 o_v0 o_a3 (by decide) d_x65
                obtain ⟨kv70, hkv70⟩ : ∃ z : Int32, z = (1 : Int32) := ⟨_, rfl⟩
                have d_kv70 := rd_Is eS69 hkv70
                have ea3 := rf_I eS69 ea3
                have g0 := gr_I eS69 g0
                have o_a3 := ob_I eS69 o_a3
                have o_v0 := ob_I eS69 o_v0
                intro S71 eS71
                have hIn : IV S71 := by rw [eS71]; exact iv11_sI hI o_v0 (by decide) (nu_free (by decide))
                have hI := hIn
                have f0 := fr_I eS71 g0 f0 o_v0 (by decide)
                have d_kv2 := rd_Ij eS71 (by decide) d_kv2
                have d_x21 := rd_Ik eS71 o_v0 o_a3 (by decide) d_x21
                have d_x65 := rd_Ik eS71 o_v0 o_a3 (by decide) d_x65
                have d_kv70 := rd_Ij eS71 (by decide) d_kv70
                obtain ⟨kv72, hkv72⟩ : ∃ z : Int32, z = (-1 : Int32) := ⟨_, rfl⟩
                have d_kv72 := rd_Is eS71 hkv72
                have ea3 := rf_I eS71 ea3
                have g0 := gr_I eS71 g0
                have o_a3 := ob_I eS71 o_a3
                have o_v0 := ob_I eS71 o_v0
                intro _
                exact hq _ _ hI g0 f0
              · intro _ _
                refine ⟨fun c75 => ?_, fun c75 => absurd (show (1 : Int32) = 0 from c75) (by decide)⟩
                refine u_X11_in ?_
                refine u_X11_in_0 ?_
                refine ⟨fun c76 => ?_, fun c76 => ?_⟩
                · intro _ _
                  refine ⟨fun c78 => absurd (show ¬ (0 : Int32) = 0 from c78) (by decide), fun c78 => ?_⟩
                  refine u_X11_refused ?_
                  refine u_X11_refused_0 ?_
                  refine ⟨o_v0, ?_⟩
                  intro S79 eS79
                  have hIn : IV S79 := by rw [eS79]; exact iv11_sI hI o_v0 (by decide) (nu_free (by decide))
                  have hI := hIn
                  have f0 := fr_I eS79 g0 f0 o_v0 (by decide)
                  have d_kv2 := rd_Ij eS79 (by decide) d_kv2
                  have d_x21 := rd_Ik eS79 o_v0 o_a3 (by decide) d_x21
                  have d_x65 := rd_Ik eS79 o_v0 o_a3 (by decide) d_x65
                  obtain ⟨kv80, hkv80⟩ : ∃ z : Int32, z = (2 : Int32) := ⟨_, rfl⟩
                  have d_kv80 := rd_Is eS79 hkv80
                  have ea3 := rf_I eS79 ea3
                  have g0 := gr_I eS79 g0
                  have o_a3 := ob_I eS79 o_a3
                  have o_v0 := ob_I eS79 o_v0
                  intro S81 eS81
                  have hIn : IV S81 := by rw [eS81]; exact iv11_sI hI o_v0 (by decide) (nu_free (by decide))
                  have hI := hIn
                  have f0 := fr_I eS81 g0 f0 o_v0 (by decide)
                  have d_kv2 := rd_Ij eS81 (by decide) d_kv2
                  have d_x21 := rd_Ik eS81 o_v0 o_a3 (by decide) d_x21
                  have d_x65 := rd_Ik eS81 o_v0 o_a3 (by decide) d_x65
                  have d_kv80 := rd_Ij eS81 (by decide) d_kv80
                  obtain ⟨kv82, hkv82⟩ : ∃ z : Int32, z = (-1 : Int32) := ⟨_, rfl⟩
                  have d_kv82 := rd_Is eS81 hkv82
                  have ea3 := rf_I eS81 ea3
                  have g0 := gr_I eS81 g0
                  have o_a3 := ob_I eS81 o_a3
                  have o_v0 := ob_I eS81 o_v0
                  intro _
                  exact hq _ _ hI g0 f0
                · refine ⟨fun c84 => ?_, fun c84 => ?_⟩
                  · intro _ _
                    refine ⟨fun c86 => absurd (show ¬ (0 : Int32) = 0 from c86) (by decide), fun c86 => ?_⟩
                    refine u_X11_refused ?_
                    refine u_X11_refused_0 ?_
                    refine ⟨o_v0, ?_⟩
                    intro S87 eS87
                    have hIn : IV S87 := by rw [eS87]; exact iv11_sI hI o_v0 (by decide) (nu_free (by decide))
                    have hI := hIn
                    have f0 := fr_I eS87 g0 f0 o_v0 (by decide)
                    have d_kv2 := rd_Ij eS87 (by decide) d_kv2
                    have d_x21 := rd_Ik eS87 o_v0 o_a3 (by decide) d_x21
                    have d_x65 := rd_Ik eS87 o_v0 o_a3 (by decide) d_x65
                    obtain ⟨kv88, hkv88⟩ : ∃ z : Int32, z = (2 : Int32) := ⟨_, rfl⟩
                    have d_kv88 := rd_Is eS87 hkv88
                    have ea3 := rf_I eS87 ea3
                    have g0 := gr_I eS87 g0
                    have o_a3 := ob_I eS87 o_a3
                    have o_v0 := ob_I eS87 o_v0
                    intro S89 eS89
                    have hIn : IV S89 := by rw [eS89]; exact iv11_sI hI o_v0 (by decide) (nu_free (by decide))
                    have hI := hIn
                    have f0 := fr_I eS89 g0 f0 o_v0 (by decide)
                    have d_kv2 := rd_Ij eS89 (by decide) d_kv2
                    have d_x21 := rd_Ik eS89 o_v0 o_a3 (by decide) d_x21
                    have d_x65 := rd_Ik eS89 o_v0 o_a3 (by decide) d_x65
                    have d_kv88 := rd_Ij eS89 (by decide) d_kv88
                    obtain ⟨kv90, hkv90⟩ : ∃ z : Int32, z = (-1 : Int32) := ⟨_, rfl⟩
                    have d_kv90 := rd_Is eS89 hkv90
                    have ea3 := rf_I eS89 ea3
                    have g0 := gr_I eS89 g0
                    have o_a3 := ob_I eS89 o_a3
                    have o_v0 := ob_I eS89 o_v0
                    intro _
                    exact hq _ _ hI g0 f0
                  · intro _ _
                    refine ⟨fun c93 => ?_, fun c93 => absurd (show (1 : Int32) = 0 from c93) (by decide)⟩
                    refine m_X11_laysWays hI o_v0 (qw0 c12 r_x21 c22 c34 r_x43 c44 c56 r_x65 q_x65 c66 c76 c84) ⟨_, ea3, (qw1 c12 r_x21 c22 c34 r_x43 c44 c56 r_x65 q_x65 c66 c76 c84), (by rw [← d_x21]; exact (qw2 c12 r_x21 c22 c34 r_x43 c44 c56 r_x65 q_x65 c66 c76 c84))⟩ (fun S95 hJ g96 fc97 p_S95 => ?_)
                    have hI := hJ
                    have d_kv2 := d_kv2.trans (fri_at fc97 (by decide) (by decide) o_v0).symm
                    have d_x21 := d_x21.trans (fri_at fc97 (by decide) (by decide) o_a3).symm
                    have d_x65 := d_x65.trans (fri_at fc97 (by decide) (by decide) o_a3).symm
                    have ea3 := (frr_at fc97 (by decide) (by decide) o_v0).trans ea3
                    have f0 := fri_tr (S := S1) g0 f0 fc97 (by decide) (by decide)
                    have o_a3 := gr_ob g96 o_a3
                    have o_v0 := gr_ob g96 o_v0
                    have g0 := gr_tr (T := S1) g0 g96
                    intro _
                    refine i_X11_off_67 (fun (y0 : Nat) (y2 : Int32) (y4 : Int32) (y5 : Int32) (y6 : Int32) (Z : HS) => ((2147483647 : Int32).toInt - y6.toInt).toNat) (fun (y0 : Nat) (y2 : Int32) (y4 : Int32) (y5 : Int32) (y6 : Int32) (Z : HS) => (S95 = Z) ∧ (v0 = y0) ∧ (v2 = y2) ∧ (v4 = y4) ∧ (-1 ≤ y5 ∧ y5 ≤ 400 ∧ 0 ≤ y6)) ?_ _ _ _ _ _ _ ⟨rfl, rfl, rfl, rfl, (qw3 c12 r_x21 c22 c34 r_x43 c44 c56 r_x65 q_x65 c66 c76 c84)⟩
                    intro w102 w104 w106 w108 w109 S99 X110 ⟨eS99, q103, q105, q107, i1u98⟩ ih111
                    subst q103
                    subst q105
                    subst q107
                    subst eS99
                    refine u_X11_off_67 ?_
                    refine ⟨fun c112 => ?_, fun c112 => ?_⟩
                    · refine ⟨fun c113 => ?_, fun c113 => ?_⟩
                      · refine ⟨o_v0, ?_⟩
                        refine u_X11_good ?_
                        refine u_X11_good_0 ?_
                        refine ⟨o_v0, ?_⟩
                        intro S114 eS114
                        have hIn : IV S114 := by rw [eS114]; exact iv11_sI hI o_v0 (by decide) (nu_free (by decide))
                        have hI := hIn
                        have f0 := fr_I eS114 g0 f0 o_v0 (by decide)
                        have d_kv2 := rd_Ij eS114 (by decide) d_kv2
                        have d_x21 := rd_Ik eS114 o_v0 o_a3 (by decide) d_x21
                        have d_x65 := rd_Ik eS114 o_v0 o_a3 (by decide) d_x65
                        obtain ⟨kv115, hkv115⟩ : ∃ z : Int32, z = (0 : Int32) := ⟨_, rfl⟩
                        have d_kv115 := rd_Is eS114 hkv115
                        have ea3 := rf_I eS114 ea3
                        have g0 := gr_I eS114 g0
                        have o_a3 := ob_I eS114 o_a3
                        have o_v0 := ob_I eS114 o_v0
                        intro S116 eS116
                        have hIn : IV S116 := by rw [eS116]; exact iv11_sI hI o_v0 (by decide) (nu_free (by decide))
                        have hI := hIn
                        have f0 := fr_I eS116 g0 f0 o_v0 (by decide)
                        have d_kv2 := rd_Ij eS116 (by decide) d_kv2
                        have d_x21 := rd_Ik eS116 o_v0 o_a3 (by decide) d_x21
                        have d_x65 := rd_Ik eS116 o_v0 o_a3 (by decide) d_x65
                        have d_kv115 := rd_Ij eS116 (by decide) d_kv115
                        obtain ⟨kv117, hkv117⟩ : ∃ z : Int32, z = (-1 : Int32) := ⟨_, rfl⟩
                        have d_kv117 := rd_Is eS116 hkv117
                        have ea3 := rf_I eS116 ea3
                        have g0 := gr_I eS116 g0
                        have o_a3 := ob_I eS116 o_a3
                        have o_v0 := ob_I eS116 o_v0
                        intro _
                        exact hq _ _ hI g0 f0
                      · refine ⟨o_v0, ?_⟩
                        refine u_X11_refused ?_
                        refine u_X11_refused_0 ?_
                        refine ⟨o_v0, ?_⟩
                        intro S119 eS119
                        have hIn : IV S119 := by rw [eS119]; exact iv11_sI hI o_v0 (by decide) (nu_free (by decide))
                        have hI := hIn
                        have f0 := fr_I eS119 g0 f0 o_v0 (by decide)
                        have d_kv2 := rd_Ij eS119 (by decide) d_kv2
                        have d_x21 := rd_Ik eS119 o_v0 o_a3 (by decide) d_x21
                        have d_x65 := rd_Ik eS119 o_v0 o_a3 (by decide) d_x65
                        obtain ⟨kv120, hkv120⟩ : ∃ z : Int32, z = (6 : Int32) := ⟨_, rfl⟩
                        have d_kv120 := rd_Is eS119 hkv120
                        have ea3 := rf_I eS119 ea3
                        have g0 := gr_I eS119 g0
                        have o_a3 := ob_I eS119 o_a3
                        have o_v0 := ob_I eS119 o_v0
                        intro S121 eS121
                        have hIn : IV S121 := by rw [eS121]; exact iv11_sI hI o_v0 (by decide) (nu_free (by decide))
                        have hI := hIn
                        have f0 := fr_I eS121 g0 f0 o_v0 (by decide)
                        have d_kv2 := rd_Ij eS121 (by decide) d_kv2
                        have d_x21 := rd_Ik eS121 o_v0 o_a3 (by decide) d_x21
                        have d_x65 := rd_Ik eS121 o_v0 o_a3 (by decide) d_x65
                        have d_kv120 := rd_Ij eS121 (by decide) d_kv120
                        obtain ⟨kv122, hkv122⟩ : ∃ z : Int32, z = (-1 : Int32) := ⟨_, rfl⟩
                        have d_kv122 := rd_Is eS121 hkv122
                        have ea3 := rf_I eS121 ea3
                        have g0 := gr_I eS121 g0
                        have o_a3 := ob_I eS121 o_a3
                        have o_v0 := ob_I eS121 o_v0
                        intro _
                        exact hq _ _ hI g0 f0
                    · refine ⟨o_v0, ?_⟩
                      obtain ⟨a124, ea124, o_a124, l_a124⟩ := shl 54 rfl hI o_v0
                      refine ⟨a124, ea124, ?_⟩
                      refine u_X11_spotOf ?_
                      refine u_X11_spotOf_0 ?_
                      intro _
                      refine ⟨o_a124, ?_⟩
                      refine ⟨(vin l_a124 (m := 3208) (by decide) (sp_rng (qw4 c12 r_x21 c22 c34 r_x43 c44 c56 r_x65 q_x65 c66 c76 c84 i1u98 c112) (qw5 c12 r_x21 c22 c34 r_x43 c44 c56 r_x65 q_x65 c66 c76 c84 i1u98 c112))), ?_⟩
                      intro x126 ex126
                      refine ⟨fun c127 => ?_, fun c127 => ?_⟩
                      · refine u_X11_off_128 ?_
                        intro x128 ex128
                        exact ih111 _ _ _ _ _ _ ⟨rfl, rfl, rfl, rfl, (qw6 c12 r_x21 c22 c34 r_x43 c44 c56 r_x65 q_x65 c66 c76 c84 i1u98 c112 c127 ex128)⟩ (mu_up (qw7 c12 r_x21 c22 c34 r_x43 c44 c56 r_x65 q_x65 c66 c76 c84 i1u98 c112 c127 ex128) (qw8 c12 r_x21 c22 c34 r_x43 c44 c56 r_x65 q_x65 c66 c76 c84 i1u98 c112 c127 ex128))
                      · refine ⟨fun c129 => ?_, fun c129 => ?_⟩
                        · refine u_X11_off_124 ?_
                          refine u_X11_off_128 ?_
                          intro x130 ex130
                          exact ih111 _ _ _ _ _ _ ⟨rfl, rfl, rfl, rfl, (qw9 c12 r_x21 c22 c34 r_x43 c44 c56 r_x65 q_x65 c66 c76 c84 i1u98 c112 c127 c129 ex130)⟩ (mu_up (qw10 c12 r_x21 c22 c34 r_x43 c44 c56 r_x65 q_x65 c66 c76 c84 i1u98 c112 c127 c129 ex130) (qw11 c12 r_x21 c22 c34 r_x43 c44 c56 r_x65 q_x65 c66 c76 c84 i1u98 c112 c127 c129 ex130))
                        · refine ⟨a124, ea124, ?_⟩
                          refine u_X11_spotOf ?_
                          refine u_X11_spotOf_0 ?_
                          intro _
                          refine ⟨o_a124, ?_⟩
                          refine ⟨(vin l_a124 (m := 3208) (by decide) (sp_rng (qw12 c12 r_x21 c22 c34 r_x43 c44 c56 r_x65 q_x65 c66 c76 c84 i1u98 c112 c127 c129) (qw13 c12 r_x21 c22 c34 r_x43 c44 c56 r_x65 q_x65 c66 c76 c84 i1u98 c112 c127 c129))), ?_⟩
                          intro x133 ex133
                          refine ⟨a124, ea124, ?_⟩
                          refine u_X11_spotOf ?_
                          refine u_X11_spotOf_0 ?_
                          intro _
                          refine ⟨o_a124, ?_⟩
                          refine ⟨(vin l_a124 (m := 3208) (by decide) (sp_rng (qw14 c12 r_x21 c22 c34 r_x43 c44 c56 r_x65 q_x65 c66 c76 c84 i1u98 c112 c127 c129) (qw13 c12 r_x21 c22 c34 r_x43 c44 c56 r_x65 q_x65 c66 c76 c84 i1u98 c112 c127 c129))), ?_⟩
                          intro x136 ex136
                          refine ⟨fun c137 => ?_, fun c137 => ?_⟩
                          · refine u_X11_off_128 ?_
                            intro x138 ex138
                            exact ih111 _ _ _ _ _ _ ⟨rfl, rfl, rfl, rfl, (qw15 c12 r_x21 c22 c34 r_x43 c44 c56 r_x65 q_x65 c66 c76 c84 i1u98 c112 c127 c129 c137 ex138)⟩ (mu_up (qw16 c12 r_x21 c22 c34 r_x43 c44 c56 r_x65 q_x65 c66 c76 c84 i1u98 c112 c127 c129 c137 ex138) (qw17 c12 r_x21 c22 c34 r_x43 c44 c56 r_x65 q_x65 c66 c76 c84 i1u98 c112 c127 c129 c137 ex138))
                          · refine u_X11_off_124 ?_
                            refine u_X11_off_128 ?_
                            intro x139 ex139
                            exact ih111 _ _ _ _ _ _ ⟨rfl, rfl, rfl, rfl, (qw18 c12 r_x21 c22 c34 r_x43 c44 c56 r_x65 q_x65 c66 c76 c84 i1u98 c112 c127 c129 c137 ex139)⟩ (mu_up (qw19 c12 r_x21 c22 c34 r_x43 c44 c56 r_x65 q_x65 c66 c76 c84 i1u98 c112 c127 c129 c137 ex139) (qw20 c12 r_x21 c22 c34 r_x43 c44 c56 r_x65 q_x65 c66 c76 c84 i1u98 c112 c127 c129 c137 ex139))
