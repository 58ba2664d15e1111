set_option maxHeartbeats 4000000 in
set_option maxRecDepth 20000 in
theorem m_X11_takes {v0 : Nat} {v1 : Int32} {v2 : Int32} {v3 : Int64} {v5 : Int32} {Q : HS → Prop} {S : HS} (hI : IV S) (o_v0 : ob S v0 11)   (h0 : 0 ≤ v1 ∧ v1 < 3208) (h1 : 0 ≤ v2 ∧ v2 < 3208)  (hq : ∀ (T : HS), IV T → Gr S T → FRI [] [] S T → (TK S T v0 v1 v5) → Q T) : P_X11_takes v0 v1 v2 v3 v5 Q S := by
  have g0 := gr_rf S
  have f0 := fri_rf [] [] S
  have hK : TK S S v0 v1 v5 := tk_rf S v0 v1 v5
  refine u_X11_takes ?_
  refine u_X11_takes_0 ?_
  refine ⟨o_v0, ?_⟩
  obtain ⟨a1, ea1, o_a1, l_a1⟩ := shl 54 rfl hI o_v0
  refine ⟨a1, ea1, ?_⟩
  refine ⟨o_a1, ?_⟩
  refine ⟨(vin l_a1 (m := 3208) (by decide) (qw270 h1)), ?_⟩
  intro x2 ex2
  refine ⟨fun c3 => ?_, fun c3 => ?_⟩
  · refine ⟨a1, ea1, ?_⟩
    refine ⟨o_a1, ?_⟩
    refine ⟨(vin l_a1 (m := 3208) (by decide) (qw271 h1 c3)), ?_⟩
    intro x5 ex5
    intro x6 ex6
    refine ⟨a1, ea1, ?_⟩
    refine ⟨o_a1, ?_⟩
    refine ⟨(vin l_a1 (m := 3208) (by decide) (qw271 h0 c3)), ?_⟩
    intro x8 ex8
    refine ⟨fun c9 => ?_, fun c9 => ?_⟩
    · refine u_X11_takes_77 ?_
      refine ⟨o_v0, ?_⟩
      refine ⟨a1, ea1, ?_⟩
      refine ⟨o_a1, ?_⟩
      have i11 : vp_in v1 (hN _ a1) := (vin l_a1 (m := 3208) (by decide) (qw272 h0 c3 c9))
      refine ⟨i11, ?_⟩
      intro S12 eS12
      have hIn : IV S12 := by rw [eS12]; exact iv11_aJ hI o_v0 (by decide) ea1
      have hK := tk_J eS12 hK
      have hI := hIn
      have f0 := fr_J eS12 f0
      have ea1 := rf_J eS12 ea1
      have l_a1 := ln_J eS12 l_a1
      have g0 := gr_J eS12 g0
      have o_a1 := ob_J eS12 o_a1
      have o_v0 := ob_J eS12 o_v0
      obtain ⟨a13, ea13, o_a13, l_a13⟩ := shl 55 rfl hI o_v0
      refine ⟨a13, ea13, ?_⟩
      refine ⟨a13, ea13, ?_⟩
      refine ⟨o_a13, ?_⟩
      refine ⟨(vin l_a13 (m := 3208) (by decide) (qw272 h1 c3 c9)), ?_⟩
      intro x15 ex15
      refine ⟨o_a13, ?_⟩
      have i16 : vp_in v1 (hN _ a13) := (vin l_a13 (m := 3208) (by decide) (qw272 h0 c3 c9))
      refine ⟨i16, ?_⟩
      intro S17 eS17
      have hIn : IV S17 := by rw [eS17]; exact iv11_aI hI o_v0 ea13 o_a13 (by decide)
      have hK := tk_17 eS17 hI o_v0 ea13 hK
      have hI := hIn
      have f0 := fr_A eS17 g0 f0 o_a13 (by decide)
      have ea1 := rf_I eS17 ea1
      have ea13 := rf_I eS17 ea13
      have l_a1 := ln_I eS17 l_a1
      have l_a13 := ln_I eS17 l_a13
      have g0 := gr_I eS17 g0
      have o_a1 := ob_I eS17 o_a1
      have o_a13 := ob_I eS17 o_a13
      have o_v0 := ob_I eS17 o_v0
      obtain ⟨a18, ea18, o_a18, l_a18⟩ := shl 56 rfl hI o_v0
      refine ⟨a18, ea18, ?_⟩
      refine ⟨o_a18, ?_⟩
      have i19 : vp_in v1 (hN _ a18) := (vin l_a18 (m := 3208) (by decide) (qw272 h0 c3 c9))
      refine ⟨i19, ?_⟩
      intro S20 eS20
      have hIn : IV S20 := by rw [eS20]; exact iv11_aI hI o_v0 ea18 o_a18 (by decide)
      have hK := tk_18 eS20 hI o_v0 ea18 hK
      have hI := hIn
      have f0 := fr_A eS20 g0 f0 o_a18 (by decide)
      have ea1 := rf_I eS20 ea1
      have ea13 := rf_I eS20 ea13
      have ea18 := rf_I eS20 ea18
      have l_a1 := ln_I eS20 l_a1
      have l_a13 := ln_I eS20 l_a13
      have l_a18 := ln_I eS20 l_a18
      have g0 := gr_I eS20 g0
      have o_a1 := ob_I eS20 o_a1
      have o_a13 := ob_I eS20 o_a13
      have o_a18 := ob_I eS20 o_a18
      have o_v0 := ob_I eS20 o_v0
      exact hq _ hI g0 f0 hK
    · refine ⟨a1, ea1, ?_⟩
      refine ⟨o_a1, ?_⟩
      refine ⟨(vin l_a1 (m := 3208) (by decide) (qw273 h0 c3 c9)), ?_⟩
      intro x22 ex22
      refine ⟨fun c23 => ?_, fun c23 => ?_⟩
      · exact hq _ hI g0 f0 hK
      · refine ⟨a1, ea1, ?_⟩
        refine ⟨o_a1, ?_⟩
        refine ⟨(vin l_a1 (m := 3208) (by decide) (qw274 h0 c3 ex6 c9 c23)), ?_⟩
        intro x25 ex25
        refine ⟨fun c26 => ?_, fun c26 => ?_⟩
        · refine u_X11_takes_77 ?_
          refine ⟨o_v0, ?_⟩
          refine ⟨a1, ea1, ?_⟩
          refine ⟨o_a1, ?_⟩
          have i28 : vp_in v1 (hN _ a1) := (vin l_a1 (m := 3208) (by decide) (qw275 h0 c3 ex6 c9 c23 c26))
          refine ⟨i28, ?_⟩
          intro S29 eS29
          have hIn : IV S29 := by rw [eS29]; exact iv11_aJ hI o_v0 (by decide) ea1
          have hK := tk_J eS29 hK
          have hI := hIn
          have f0 := fr_J eS29 f0
          have ea1 := rf_J eS29 ea1
          have l_a1 := ln_J eS29 l_a1
          have g0 := gr_J eS29 g0
          have o_a1 := ob_J eS29 o_a1
          have o_v0 := ob_J eS29 o_v0
          obtain ⟨a30, ea30, o_a30, l_a30⟩ := shl 55 rfl hI o_v0
          refine ⟨a30, ea30, ?_⟩
          refine ⟨a30, ea30, ?_⟩
          refine ⟨o_a30, ?_⟩
          refine ⟨(vin l_a30 (m := 3208) (by decide) (qw275 h1 c3 ex6 c9 c23 c26)), ?_⟩
          intro x32 ex32
          refine ⟨o_a30, ?_⟩
          have i33 : vp_in v1 (hN _ a30) := (vin l_a30 (m := 3208) (by decide) (qw275 h0 c3 ex6 c9 c23 c26))
          refine ⟨i33, ?_⟩
          intro S34 eS34
          have hIn : IV S34 := by rw [eS34]; exact iv11_aI hI o_v0 ea30 o_a30 (by decide)
          have hK := tk_17 eS34 hI o_v0 ea30 hK
          have hI := hIn
          have f0 := fr_A eS34 g0 f0 o_a30 (by decide)
          have ea1 := rf_I eS34 ea1
          have ea30 := rf_I eS34 ea30
          have l_a1 := ln_I eS34 l_a1
          have l_a30 := ln_I eS34 l_a30
          have g0 := gr_I eS34 g0
          have o_a1 := ob_I eS34 o_a1
          have o_a30 := ob_I eS34 o_a30
          have o_v0 := ob_I eS34 o_v0
          obtain ⟨a35, ea35, o_a35, l_a35⟩ := shl 56 rfl hI o_v0
          refine ⟨a35, ea35, ?_⟩
          refine ⟨o_a35, ?_⟩
          have i36 : vp_in v1 (hN _ a35) := (vin l_a35 (m := 3208) (by decide) (qw275 h0 c3 ex6 c9 c23 c26))
          refine ⟨i36, ?_⟩
          intro S37 eS37
          have hIn : IV S37 := by rw [eS37]; exact iv11_aI hI o_v0 ea35 o_a35 (by decide)
          have hK := tk_18 eS37 hI o_v0 ea35 hK
          have hI := hIn
          have f0 := fr_A eS37 g0 f0 o_a35 (by decide)
          have ea1 := rf_I eS37 ea1
          have ea30 := rf_I eS37 ea30
          have ea35 := rf_I eS37 ea35
          have l_a1 := ln_I eS37 l_a1
          have l_a30 := ln_I eS37 l_a30
          have l_a35 := ln_I eS37 l_a35
          have g0 := gr_I eS37 g0
          have o_a1 := ob_I eS37 o_a1
          have o_a30 := ob_I eS37 o_a30
          have o_a35 := ob_I eS37 o_a35
          have o_v0 := ob_I eS37 o_v0
          exact hq _ hI g0 f0 hK
        · obtain ⟨a38, ea38, o_a38, l_a38⟩ := shl 55 rfl hI o_v0
          refine ⟨a38, ea38, ?_⟩
          refine ⟨o_a38, ?_⟩
          refine ⟨(vin l_a38 (m := 3208) (by decide) (qw276 h1 c3 ex6 c9 c23 c26)), ?_⟩
          intro x39 ex39
          refine ⟨a38, ea38, ?_⟩
          refine ⟨o_a38, ?_⟩
          refine ⟨(vin l_a38 (m := 3208) (by decide) (qw276 h0 c3 ex6 c9 c23 c26)), ?_⟩
          intro x41 ex41
          refine ⟨fun c42 => ?_, fun c42 => ?_⟩
          · refine u_X11_takes_77 ?_
            refine ⟨o_v0, ?_⟩
            refine ⟨a1, ea1, ?_⟩
            refine ⟨o_a1, ?_⟩
            have i44 : vp_in v1 (hN _ a1) := (vin l_a1 (m := 3208) (by decide) (qw277 h0 c3 ex6 c9 c23 c26 c42))
            refine ⟨i44, ?_⟩
            intro S45 eS45
            have hIn : IV S45 := by rw [eS45]; exact iv11_aJ hI o_v0 (by decide) ea1
            have hK := tk_J eS45 hK
            have hI := hIn
            have f0 := fr_J eS45 f0
            have ea1 := rf_J eS45 ea1
            have ea38 := rf_J eS45 ea38
            have l_a1 := ln_J eS45 l_a1
            have l_a38 := ln_J eS45 l_a38
            have g0 := gr_J eS45 g0
            have o_a1 := ob_J eS45 o_a1
            have o_a38 := ob_J eS45 o_a38
            have o_v0 := ob_J eS45 o_v0
            refine ⟨a38, ea38, ?_⟩
            refine ⟨a38, ea38, ?_⟩
            refine ⟨o_a38, ?_⟩
            refine ⟨(vin l_a38 (m := 3208) (by decide) (qw277 h1 c3 ex6 c9 c23 c26 c42)), ?_⟩
            intro x48 ex48
            refine ⟨o_a38, ?_⟩
            have i49 : vp_in v1 (hN _ a38) := (vin l_a38 (m := 3208) (by decide) (qw277 h0 c3 ex6 c9 c23 c26 c42))
            refine ⟨i49, ?_⟩
            intro S50 eS50
            have hIn : IV S50 := by rw [eS50]; exact iv11_aI hI o_v0 ea38 o_a38 (by decide)
            have hK := tk_17 eS50 hI o_v0 ea38 hK
            have hI := hIn
            have f0 := fr_A eS50 g0 f0 o_a38 (by decide)
            have ea1 := rf_I eS50 ea1
            have ea38 := rf_I eS50 ea38
            have l_a1 := ln_I eS50 l_a1
            have l_a38 := ln_I eS50 l_a38
            have g0 := gr_I eS50 g0
            have o_a1 := ob_I eS50 o_a1
            have o_a38 := ob_I eS50 o_a38
            have o_v0 := ob_I eS50 o_v0
            obtain ⟨a51, ea51, o_a51, l_a51⟩ := shl 56 rfl hI o_v0
            refine ⟨a51, ea51, ?_⟩
            refine ⟨o_a51, ?_⟩
            have i52 : vp_in v1 (hN _ a51) := (vin l_a51 (m := 3208) (by decide) (qw277 h0 c3 ex6 c9 c23 c26 c42))
            refine ⟨i52, ?_⟩
            intro S53 eS53
            have hIn : IV S53 := by rw [eS53]; exact iv11_aI hI o_v0 ea51 o_a51 (by decide)
            have hK := tk_18 eS53 hI o_v0 ea51 hK
            have hI := hIn
            have f0 := fr_A eS53 g0 f0 o_a51 (by decide)
            have ea1 := rf_I eS53 ea1
            have ea38 := rf_I eS53 ea38
            have ea51 := rf_I eS53 ea51
            have l_a1 := ln_I eS53 l_a1
            have l_a38 := ln_I eS53 l_a38
            have l_a51 := ln_I eS53 l_a51
            have g0 := gr_I eS53 g0
            have o_a1 := ob_I eS53 o_a1
            have o_a38 := ob_I eS53 o_a38
            have o_a51 := ob_I eS53 o_a51
            have o_v0 := ob_I eS53 o_v0
            exact hq _ hI g0 f0 hK
          · exact hq _ hI g0 f0 hK
  · exact hq _ hI g0 f0 hK
set_option maxHeartbeats 4000000 in
set_option maxRecDepth 20000 in
theorem m_X11_tries {v0 : Nat} {v1 : Int32} {v2 : Int32} {v3 : Int32} {v4 : Int32} {Q : HS → Prop} {S : HS} (hI : IV S) (o_v0 : ob S v0 11)   (h0 : 0 ≤ v2 ∧ v2 < 8) (h1 : 0 ≤ v3) (h2 : v4 ≤ 400) (h3 : v3 ≤ v4) (hS : SBD S v0 v4 v3 v2) (hwi1 : WI S v0 4 v1) (hq : ∀ (T : HS), IV T → Gr S T → FRI [] [] S T → (SBD T v0 v4 v3 v2) → Q T) : P_X11_tries v0 v1 v2 v3 v4 Q S := by
  have g0 := gr_rf S
  have f0 := fri_rf [] [] S
  obtain ⟨a1, ea1, hx1⟩ := hwi1
  have o_a1 := ml_ob hI o_v0 ea1
  obtain ⟨kv2, d_kv2⟩ : ∃ z : Int32, z = fI S a1 4 := ⟨_, rfl⟩
  have r_kv2 : (0 : Int32) ≤ kv2 ∧ kv2 ≤ (4 : Int32) := by rw [d_kv2]; exact nu 20 rfl hI o_a1
  have hwi1 : 0 ≤ v1 ∧ v1 < kv2 := by rw [d_kv2]; exact hx1
  refine u_X11_tries ?_
  refine u_X11_tries_0 ?_
  refine i_X11_tries_3 (fun (y0 : Nat) (y1 : Int32) (y2 : Int32) (y3 : Int32) (y4 : Int32) (y5 : Int32) (Z : HS) => ((2147483647 : Int32).toInt - y5.toInt).toNat) (fun (y0 : Nat) (y1 : Int32) (y2 : Int32) (y3 : Int32) (y4 : Int32) (y5 : Int32) (Z : HS) => (IV Z) ∧ (Gr S Z) ∧ (FRI [] [] S Z) ∧ (v0 = y0) ∧ (v1 = y1) ∧ (v2 = y2) ∧ (v3 = y3) ∧ (v4 = y4) ∧ (SBD Z v0 v4 v3 v2) ∧ (0 ≤ y5)) ?_ _ _ _ _ _ _ _ ⟨hI, (gr_rf _), (fri_rf _ _ _), rfl, rfl, rfl, rfl, rfl, hS, (qw67)⟩
  intro w7 w9 w11 w13 w15 w17 S4 X18 ⟨hI, gL5, fL6, q8, q10, q12, q14, q16, hS, i1u3⟩ ih19
  subst q8
  subst q10
  subst q12
  subst q14
  subst q16
  have d_kv2 := d_kv2.trans (fri_at fL6 (by decide) (by decide) o_a1).symm
  have ea1 := (frr_at fL6 (by decide) (by decide) o_v0).trans ea1
  have f0 := fri_tr (S := S) g0 f0 fL6 (by decide) (by decide)
  have o_a1 := gr_ob gL5 o_a1
  have o_v0 := gr_ob gL5 o_v0
  have g0 := gr_tr (T := S) g0 gL5
  refine u_X11_tries_3 ?_
  refine ⟨o_v0, ?_⟩
  refine ⟨a1, ea1, ?_⟩
  refine ⟨o_a1, ?_⟩
  intro x21 ex21
  have r_x21 : (0 : Int32) ≤ x21 ∧ x21 ≤ (12 : Int32) := by rw [ex21]; exact nu 19 rfl hI o_a1
  have d_x21 := ex21
  refine ⟨fun c22 => ?_, fun c22 => ?_⟩
  · refine u_X11_canWait ?_
    refine u_X11_canWait_0 ?_
    refine ⟨o_v0, ?_⟩
    refine ⟨a1, ea1, ?_⟩
    refine ⟨o_a1, ?_⟩
    obtain ⟨a24, ea24, o_a24, l_a24⟩ := shl 40 rfl hI o_a1
    refine ⟨a24, ea24, ?_⟩
    refine ⟨o_a24, ?_⟩
    refine ⟨(vin l_a24 (m := 8) (by decide) (qw68 h0 i1u3 r_x21 c22)), ?_⟩
    intro x25 ex25
    refine ⟨fun c26 => ?_, fun c26 => ?_⟩
    · intro _ _
      refine ⟨fun c28 => absurd (show (1 : Int32) = 0 from c28) (by decide), fun c28 => ?_⟩
      refine ⟨fun c29 => ?_, fun c29 => ?_⟩
      · exact hq _ hI g0 f0 hS
      · refine u_X11_spotOf ?_
        refine u_X11_spotOf_0 ?_
        intro _
        refine u_X11_spotOf ?_
        refine u_X11_spotOf_0 ?_
        intro _
        refine u_X11_waitsOf ?_
        refine u_X11_waitsOf_0 ?_
        refine ⟨o_v0, ?_⟩
        refine u_X11_hourOf ?_
        refine u_X11_hourOf_0 ?_
        refine ⟨o_v0, ?_⟩
        refine ⟨a1, ea1, ?_⟩
        refine ⟨o_a1, ?_⟩
        intro x33 ex33
        have r_x33 : (0 : Int32) ≤ x33 ∧ x33 ≤ (60 : Int32) := by rw [ex33]; exact nu 16 rfl hI o_a1
        have d_x33 := ex33
        have hh_x33 : 1 ≤ x33 := by rw [ex33]; exact ml_hour hI o_v0 ea1
        refine ⟨(qw69 h1 h2 h3 i1u3 r_x21 c22 c26 c29 r_x33 hh_x33), ?_⟩
        intro x34 ex34
        have dv_x34 : 0 ≤ x34 ∧ x34 ≤ v3 := by rw [ex34]; exact dv0 (qw70 h1 h2 h3 i1u3 r_x21 c22 c26 c29) (i32pos (qw71 h1 h2 h3 i1u3 r_x21 c22 c26 c29 r_x33 hh_x33))
        intro _
        refine ⟨a1, ea1, ?_⟩
        refine ⟨o_a1, ?_⟩
        refine ⟨a24, ea24, ?_⟩
        refine ⟨o_a24, ?_⟩
        refine ⟨(vin l_a24 (m := 8) (by decide) (qw72 h0 h1 h2 h3 i1u3 r_x21 c22 c26 c29 dv_x34)), ?_⟩
        intro x38 ex38
        refine ⟨fun c39 => ?_, fun c39 => ?_⟩
        · intro _
          obtain ⟨a41, ea41, o_a41, -⟩ := sh 38 rfl hI o_a1
          have gp42 : gs (fI S4 a1 3) (fI S4 a41) v4 v3 ((-2 : Int32)) := gs_wait (roads := fI S4 a1 3) (L := fI S4 a41) (t := v4) (m := v3) (qw73 h1 h2 h3 i1u3 r_x21 c22 c26 c29 dv_x34 c39)
          have hIo := hI
          have o0_v0 := o_v0
          have ew0 := ea1
          have ec0 := ea41
          refine m_X11_takes hI o_v0 (sp_rng (qw74 h1 h2 h3 i1u3 r_x21 c22 c26 c29 dv_x34 c39) (qw75 h0 h1 h2 h3 i1u3 r_x21 c22 c26 c29 dv_x34 c39)) (sp_rng (qw77 h1 h2 h3 i1u3 r_x21 c22 c26 c29 dv_x34 c39) (qw75 h0 h1 h2 h3 i1u3 r_x21 c22 c26 c29 dv_x34 c39)) (fun S44 hJ g45 fc46 p_S44 => ?_)
          have hI := hJ
          have l_a24 := (gr_len g45 o_a24).trans l_a24
          have d_kv2 := d_kv2.trans (fri_at fc46 (by decide) (by decide) o_a1).symm
          have d_x21 := d_x21.trans (fri_at fc46 (by decide) (by decide) o_a1).symm
          have d_x33 := d_x33.trans (fri_at fc46 (by decide) (by decide) o_a1).symm
          have ea1 := (frr_at fc46 (by decide) (by decide) o_v0).trans ea1
          have ea24 := (frr_at fc46 (by decide) (by decide) o_a1).trans ea24
          have ea41 := (frr_at fc46 (by decide) (by decide) o_a1).trans ea41
          have f0 := fri_tr (S := S4) g0 f0 fc46 (by decide) (by decide)
          have o_a1 := gr_ob g45 o_a1
          have o_a24 := gr_ob g45 o_a24
          have o_a41 := gr_ob g45 o_a41
          have o_v0 := gr_ob g45 o_v0
          have g0 := gr_tr (T := S4) g0 g45
          intro _
          have hS := sb_tk hIo o0_v0 fc46 g45 (by decide) p_S44 rfl (qw74 h1 h2 h3 i1u3 r_x21 c22 c26 c29 dv_x34 c39) (qw75 h0 h1 h2 h3 i1u3 r_x21 c22 c26 c29 dv_x34 c39) (qw76 h1 h2 h3 i1u3 r_x21 c22 c26 c29 dv_x34 c39) ew0 ec0 gp42 hS
          exact hq _ hI g0 f0 hS
        · refine ⟨a1, ea1, ?_⟩
          refine ⟨o_a1, ?_⟩
          intro x48 ex48
          have r_x48 : (0 : Int32) ≤ x48 ∧ x48 ≤ (6 : Int32) := by rw [ex48]; exact nu 17 rfl hI o_a1
          have d_x48 := ex48
          refine ⟨fun c49 => ?_, fun c49 => ?_⟩
          · refine u_X11_drips ?_
            refine u_X11_drips_0 ?_
            refine ⟨o_v0, ?_⟩
            refine ⟨a1, ea1, ?_⟩
            refine ⟨o_a1, ?_⟩
            obtain ⟨a51, ea51, o_a51, l_a51⟩ := shl 34 rfl hI o_a1
            refine ⟨a51, ea51, ?_⟩
            refine ⟨o_a51, ?_⟩
            refine ⟨(vin l_a51 (m := 8) (by decide) (qw78 h0 h1 h2 h3 i1u3 r_x21 c22 c26 c29 dv_x34 c39 r_x48 c49)), ?_⟩
            intro x52 ex52
            refine ⟨a1, ea1, ?_⟩
            refine ⟨o_a1, ?_⟩
            obtain ⟨a54, ea54, o_a54, l_a54⟩ := shl 43 rfl hI o_a1
            refine ⟨a54, ea54, ?_⟩
            refine ⟨o_a54, ?_⟩
            refine ⟨(vin l_a54 (m := 4) (by decide) (qw79 h1 h2 h3 r_kv2 hwi1 i1u3 r_x21 c22 c26 c29 dv_x34 c39 r_x48 c49)), ?_⟩
            intro x55 ex55
            refine ⟨a1, ea1, ?_⟩
            refine ⟨o_a1, ?_⟩
            refine u_X10_shield ?_
            refine u_X10_shield_0 ?_
            refine ⟨o_a1, ?_⟩
            obtain ⟨a57, ea57, o_a57, l_a57⟩ := shl 41 rfl hI o_a1
            refine ⟨a57, ea57, ?_⟩
            refine ⟨o_a57, ?_⟩
            refine ⟨(vin l_a57 (m := 4) (by decide) (qw79 h1 h2 h3 r_kv2 hwi1 i1u3 r_x21 c22 c26 c29 dv_x34 c39 r_x48 c49)), ?_⟩
            intro x58 ex58
            refine ⟨fun c59 => ?_, fun c59 => ?_⟩
            · intro _
              refine u_X11_less ?_
              refine u_X11_less_0 ?_
              refine ⟨fun c61 => ?_, fun c61 => ?_⟩
              · intro _
                intro _
                refine ⟨a1, ea1, ?_⟩
                refine ⟨o_a1, ?_⟩
                obtain ⟨a65, ea65, o_a65, l_a65⟩ := shl 33 rfl hI o_a1
                refine ⟨a65, ea65, ?_⟩
                refine ⟨o_a65, ?_⟩
                refine ⟨(vin l_a65 (m := 6) (by decide) (qw80 h1 h2 h3 i1u3 r_x21 c22 c26 c29 dv_x34 c39 r_x48 c49 c59 c61)), ?_⟩
                intro x66 ex66
                intro _
                obtain ⟨a68, ea68, o_a68, -⟩ := sh 38 rfl hI o_a1
                have gp69 : gs (fI S4 a1 3) (fI S4 a68) v4 v3 ((-2 : Int32)) := gs_wait (roads := fI S4 a1 3) (L := fI S4 a68) (t := v4) (m := v3) (qw81 h1 h2 h3 i1u3 r_x21 c22 c26 c29 dv_x34 c39 r_x48 c49 c59 c61)
                have hIo := hI
                have o0_v0 := o_v0
                have ew0 := ea1
                have ec0 := ea68
                refine m_X11_takes hI o_v0 (sp_rng (qw82 h1 h2 h3 i1u3 r_x21 c22 c26 c29 dv_x34 c39 r_x48 c49 c59 c61) (qw83 h0 h1 h2 h3 i1u3 r_x21 c22 c26 c29 dv_x34 c39 r_x48 c49 c59 c61)) (sp_rng (qw85 h1 h2 h3 i1u3 r_x21 c22 c26 c29 dv_x34 c39 r_x48 c49 c59 c61) (qw83 h0 h1 h2 h3 i1u3 r_x21 c22 c26 c29 dv_x34 c39 r_x48 c49 c59 c61)) (fun S71 hJ g72 fc73 p_S71 => ?_)
                have hI := hJ
                have l_a24 := (gr_len g72 o_a24).trans l_a24
                have l_a51 := (gr_len g72 o_a51).trans l_a51
                have l_a54 := (gr_len g72 o_a54).trans l_a54
                have l_a57 := (gr_len g72 o_a57).trans l_a57
                have l_a65 := (gr_len g72 o_a65).trans l_a65
                have d_kv2 := d_kv2.trans (fri_at fc73 (by decide) (by decide) o_a1).symm
                have d_x21 := d_x21.trans (fri_at fc73 (by decide) (by decide) o_a1).symm
                have d_x33 := d_x33.trans (fri_at fc73 (by decide) (by decide) o_a1).symm
                have d_x48 := d_x48.trans (fri_at fc73 (by decide) (by decide) o_a1).symm
                have ea1 := (frr_at fc73 (by decide) (by decide) o_v0).trans ea1
                have ea24 := (frr_at fc73 (by decide) (by decide) o_a1).trans ea24
                have ea51 := (frr_at fc73 (by decide) (by decide) o_a1).trans ea51
                have ea54 := (frr_at fc73 (by decide) (by decide) o_a1).trans ea54
                have ea57 := (frr_at fc73 (by decide) (by decide) o_a1).trans ea57
                have ea65 := (frr_at fc73 (by decide) (by decide) o_a1).trans ea65
                have ea68 := (frr_at fc73 (by decide) (by decide) o_a1).trans ea68
                have f0 := fri_tr (S := S4) g0 f0 fc73 (by decide) (by decide)
                have o_a1 := gr_ob g72 o_a1
                have o_a24 := gr_ob g72 o_a24
                have o_a51 := gr_ob g72 o_a51
                have o_a54 := gr_ob g72 o_a54
                have o_a57 := gr_ob g72 o_a57
                have o_a65 := gr_ob g72 o_a65
                have o_a68 := gr_ob g72 o_a68
                have o_v0 := gr_ob g72 o_v0
                have g0 := gr_tr (T := S4) g0 g72
                intro _
                have hS := sb_tk hIo o0_v0 fc73 g72 (by decide) p_S71 rfl (qw82 h1 h2 h3 i1u3 r_x21 c22 c26 c29 dv_x34 c39 r_x48 c49 c59 c61) (qw83 h0 h1 h2 h3 i1u3 r_x21 c22 c26 c29 dv_x34 c39 r_x48 c49 c59 c61) (qw84 h1 h2 h3 i1u3 r_x21 c22 c26 c29 dv_x34 c39 r_x48 c49 c59 c61) ew0 ec0 gp69 hS
                exact hq _ hI g0 f0 hS
              · intro _
                intro _
                refine ⟨a1, ea1, ?_⟩
                refine ⟨o_a1, ?_⟩
                obtain ⟨a77, ea77, o_a77, l_a77⟩ := shl 33 rfl hI o_a1
                refine ⟨a77, ea77, ?_⟩
                refine ⟨o_a77, ?_⟩
                refine ⟨(vin l_a77 (m := 6) (by decide) (qw86 h1 h2 h3 i1u3 r_x21 c22 c26 c29 dv_x34 c39 r_x48 c49 c59 c61)), ?_⟩
                intro x78 ex78
                intro _
                obtain ⟨a80, ea80, o_a80, -⟩ := sh 38 rfl hI o_a1
                have gp81 : gs (fI S4 a1 3) (fI S4 a80) v4 v3 ((-2 : Int32)) := gs_wait (roads := fI S4 a1 3) (L := fI S4 a80) (t := v4) (m := v3) (qw87 h1 h2 h3 i1u3 r_x21 c22 c26 c29 dv_x34 c39 r_x48 c49 c59 c61)
                have hIo := hI
                have o0_v0 := o_v0
                have ew0 := ea1
                have ec0 := ea80
                refine m_X11_takes hI o_v0 (sp_rng (qw88 h1 h2 h3 i1u3 r_x21 c22 c26 c29 dv_x34 c39 r_x48 c49 c59 c61) (qw89 h0 h1 h2 h3 i1u3 r_x21 c22 c26 c29 dv_x34 c39 r_x48 c49 c59 c61)) (sp_rng (qw91 h1 h2 h3 i1u3 r_x21 c22 c26 c29 dv_x34 c39 r_x48 c49 c59 c61) (qw89 h0 h1 h2 h3 i1u3 r_x21 c22 c26 c29 dv_x34 c39 r_x48 c49 c59 c61)) (fun S83 hJ g84 fc85 p_S83 => ?_)
                have hI := hJ
                have l_a24 := (gr_len g84 o_a24).trans l_a24
                have l_a51 := (gr_len g84 o_a51).trans l_a51
                have l_a54 := (gr_len g84 o_a54).trans l_a54
                have l_a57 := (gr_len g84 o_a57).trans l_a57
                have l_a77 := (gr_len g84 o_a77).trans l_a77
                have d_kv2 := d_kv2.trans (fri_at fc85 (by decide) (by decide) o_a1).symm
                have d_x21 := d_x21.trans (fri_at fc85 (by decide) (by decide) o_a1).symm
                have d_x33 := d_x33.trans (fri_at fc85 (by decide) (by decide) o_a1).symm
                have d_x48 := d_x48.trans (fri_at fc85 (by decide) (by decide) o_a1).symm
                have ea1 := (frr_at fc85 (by decide) (by decide) o_v0).trans ea1
                have ea24 := (frr_at fc85 (by decide) (by decide) o_a1).trans ea24
                have ea51 := (frr_at fc85 (by decide) (by decide) o_a1).trans ea51
                have ea54 := (frr_at fc85 (by decide) (by decide) o_a1).trans ea54
                have ea57 := (frr_at fc85 (by decide) (by decide) o_a1).trans ea57
                have ea77 := (frr_at fc85 (by decide) (by decide) o_a1).trans ea77
                have ea80 := (frr_at fc85 (by decide) (by decide) o_a1).trans ea80
                have f0 := fri_tr (S := S4) g0 f0 fc85 (by decide) (by decide)
                have o_a1 := gr_ob g84 o_a1
                have o_a24 := gr_ob g84 o_a24
                have o_a51 := gr_ob g84 o_a51
                have o_a54 := gr_ob g84 o_a54
                have o_a57 := gr_ob g84 o_a57
                have o_a77 := gr_ob g84 o_a77
                have o_a80 := gr_ob g84 o_a80
                have o_v0 := gr_ob g84 o_v0
                have g0 := gr_tr (T := S4) g0 g84
                intro _
                have hS := sb_tk hIo o0_v0 fc85 g84 (by decide) p_S83 rfl (qw88 h1 h2 h3 i1u3 r_x21 c22 c26 c29 dv_x34 c39 r_x48 c49 c59 c61) (qw89 h0 h1 h2 h3 i1u3 r_x21 c22 c26 c29 dv_x34 c39 r_x48 c49 c59 c61) (qw90 h1 h2 h3 i1u3 r_x21 c22 c26 c29 dv_x34 c39 r_x48 c49 c59 c61) ew0 ec0 gp81 hS
                exact hq _ hI g0 f0 hS
            · obtain ⟨a86, ea86, o_a86, l_a86⟩ := shl 42 rfl hI o_a1
              refine ⟨a86, ea86, ?_⟩
              refine ⟨o_a86, ?_⟩
              refine ⟨(vin l_a86 (m := 4) (by decide) (qw92 h1 h2 h3 r_kv2 hwi1 i1u3 r_x21 c22 c26 c29 dv_x34 c39 r_x48 c49 c59)), ?_⟩
              intro x87 ex87
              intro _
              refine u_X11_less ?_
              refine u_X11_less_0 ?_
              refine ⟨fun c89 => ?_, fun c89 => ?_⟩
              · intro _
                intro _
                refine ⟨a1, ea1, ?_⟩
                refine ⟨o_a1, ?_⟩
                obtain ⟨a93, ea93, o_a93, l_a93⟩ := shl 33 rfl hI o_a1
                refine ⟨a93, ea93, ?_⟩
                refine ⟨o_a93, ?_⟩
                refine ⟨(vin l_a93 (m := 6) (by decide) (qw93 h1 h2 h3 i1u3 r_x21 c22 c26 c29 dv_x34 c39 r_x48 c49 c59 c89)), ?_⟩
                intro x94 ex94
                intro _
                obtain ⟨a96, ea96, o_a96, -⟩ := sh 38 rfl hI o_a1
                have gp97 : gs (fI S4 a1 3) (fI S4 a96) v4 v3 ((-2 : Int32)) := gs_wait (roads := fI S4 a1 3) (L := fI S4 a96) (t := v4) (m := v3) (qw94 h1 h2 h3 i1u3 r_x21 c22 c26 c29 dv_x34 c39 r_x48 c49 c59 c89)
                have hIo := hI
                have o0_v0 := o_v0
                have ew0 := ea1
                have ec0 := ea96
                refine m_X11_takes hI o_v0 (sp_rng (qw95 h1 h2 h3 i1u3 r_x21 c22 c26 c29 dv_x34 c39 r_x48 c49 c59 c89) (qw96 h0 h1 h2 h3 i1u3 r_x21 c22 c26 c29 dv_x34 c39 r_x48 c49 c59 c89)) (sp_rng (qw98 h1 h2 h3 i1u3 r_x21 c22 c26 c29 dv_x34 c39 r_x48 c49 c59 c89) (qw96 h0 h1 h2 h3 i1u3 r_x21 c22 c26 c29 dv_x34 c39 r_x48 c49 c59 c89)) (fun S99 hJ g100 fc101 p_S99 => ?_)
                have hI := hJ
                have l_a24 := (gr_len g100 o_a24).trans l_a24
                have l_a51 := (gr_len g100 o_a51).trans l_a51
                have l_a54 := (gr_len g100 o_a54).trans l_a54
                have l_a57 := (gr_len g100 o_a57).trans l_a57
                have l_a86 := (gr_len g100 o_a86).trans l_a86
                have l_a93 := (gr_len g100 o_a93).trans l_a93
                have d_kv2 := d_kv2.trans (fri_at fc101 (by decide) (by decide) o_a1).symm
                have d_x21 := d_x21.trans (fri_at fc101 (by decide) (by decide) o_a1).symm
                have d_x33 := d_x33.trans (fri_at fc101 (by decide) (by decide) o_a1).symm
                have d_x48 := d_x48.trans (fri_at fc101 (by decide) (by decide) o_a1).symm
                have ea1 := (frr_at fc101 (by decide) (by decide) o_v0).trans ea1
                have ea24 := (frr_at fc101 (by decide) (by decide) o_a1).trans ea24
                have ea51 := (frr_at fc101 (by decide) (by decide) o_a1).trans ea51
                have ea54 := (frr_at fc101 (by decide) (by decide) o_a1).trans ea54
                have ea57 := (frr_at fc101 (by decide) (by decide) o_a1).trans ea57
                have ea86 := (frr_at fc101 (by decide) (by decide) o_a1).trans ea86
                have ea93 := (frr_at fc101 (by decide) (by decide) o_a1).trans ea93
                have ea96 := (frr_at fc101 (by decide) (by decide) o_a1).trans ea96
                have f0 := fri_tr (S := S4) g0 f0 fc101 (by decide) (by decide)
                have o_a1 := gr_ob g100 o_a1
                have o_a24 := gr_ob g100 o_a24
                have o_a51 := gr_ob g100 o_a51
                have o_a54 := gr_ob g100 o_a54
                have o_a57 := gr_ob g100 o_a57
                have o_a86 := gr_ob g100 o_a86
                have o_a93 := gr_ob g100 o_a93
                have o_a96 := gr_ob g100 o_a96
                have o_v0 := gr_ob g100 o_v0
                have g0 := gr_tr (T := S4) g0 g100
                intro _
                have hS := sb_tk hIo o0_v0 fc101 g100 (by decide) p_S99 rfl (qw95 h1 h2 h3 i1u3 r_x21 c22 c26 c29 dv_x34 c39 r_x48 c49 c59 c89) (qw96 h0 h1 h2 h3 i1u3 r_x21 c22 c26 c29 dv_x34 c39 r_x48 c49 c59 c89) (qw97 h1 h2 h3 i1u3 r_x21 c22 c26 c29 dv_x34 c39 r_x48 c49 c59 c89) ew0 ec0 gp97 hS
                exact hq _ hI g0 f0 hS
              · intro _
                intro _
                refine ⟨a1, ea1, ?_⟩
                refine ⟨o_a1, ?_⟩
                obtain ⟨a105, ea105, o_a105, l_a105⟩ := shl 33 rfl hI o_a1
                refine ⟨a105, ea105, ?_⟩
                refine ⟨o_a105, ?_⟩
                refine ⟨(vin l_a105 (m := 6) (by decide) (qw99 h1 h2 h3 i1u3 r_x21 c22 c26 c29 dv_x34 c39 r_x48 c49 c59 c89)), ?_⟩
                intro x106 ex106
                intro _
                obtain ⟨a108, ea108, o_a108, -⟩ := sh 38 rfl hI o_a1
                have gp109 : gs (fI S4 a1 3) (fI S4 a108) v4 v3 ((-2 : Int32)) := gs_wait (roads := fI S4 a1 3) (L := fI S4 a108) (t := v4) (m := v3) (qw100 h1 h2 h3 i1u3 r_x21 c22 c26 c29 dv_x34 c39 r_x48 c49 c59 c89)
                have hIo := hI
                have o0_v0 := o_v0
                have ew0 := ea1
                have ec0 := ea108
                refine m_X11_takes hI o_v0 (sp_rng (qw101 h1 h2 h3 i1u3 r_x21 c22 c26 c29 dv_x34 c39 r_x48 c49 c59 c89) (qw102 h0 h1 h2 h3 i1u3 r_x21 c22 c26 c29 dv_x34 c39 r_x48 c49 c59 c89)) (sp_rng (qw104 h1 h2 h3 i1u3 r_x21 c22 c26 c29 dv_x34 c39 r_x48 c49 c59 c89) (qw102 h0 h1 h2 h3 i1u3 r_x21 c22 c26 c29 dv_x34 c39 r_x48 c49 c59 c89)) (fun S111 hJ g112 fc113 p_S111 => ?_)
                have hI := hJ
                have l_a105 := (gr_len g112 o_a105).trans l_a105
                have l_a24 := (gr_len g112 o_a24).trans l_a24
                have l_a51 := (gr_len g112 o_a51).trans l_a51
                have l_a54 := (gr_len g112 o_a54).trans l_a54
                have l_a57 := (gr_len g112 o_a57).trans l_a57
                have l_a86 := (gr_len g112 o_a86).trans l_a86
                have d_kv2 := d_kv2.trans (fri_at fc113 (by decide) (by decide) o_a1).symm
                have d_x21 := d_x21.trans (fri_at fc113 (by decide) (by decide) o_a1).symm
                have d_x33 := d_x33.trans (fri_at fc113 (by decide) (by decide) o_a1).symm
                have d_x48 := d_x48.trans (fri_at fc113 (by decide) (by decide) o_a1).symm
                have ea1 := (frr_at fc113 (by decide) (by decide) o_v0).trans ea1
                have ea24 := (frr_at fc113 (by decide) (by decide) o_a1).trans ea24
                have ea51 := (frr_at fc113 (by decide) (by decide) o_a1).trans ea51
                have ea54 := (frr_at fc113 (by decide) (by decide) o_a1).trans ea54
                have ea57 := (frr_at fc113 (by decide) (by decide) o_a1).trans ea57
                have ea86 := (frr_at fc113 (by decide) (by decide) o_a1).trans ea86
                have ea105 := (frr_at fc113 (by decide) (by decide) o_a1).trans ea105
                have ea108 := (frr_at fc113 (by decide) (by decide) o_a1).trans ea108
                have f0 := fri_tr (S := S4) g0 f0 fc113 (by decide) (by decide)
                have o_a1 := gr_ob g112 o_a1
                have o_a105 := gr_ob g112 o_a105
                have o_a108 := gr_ob g112 o_a108
                have o_a24 := gr_ob g112 o_a24
                have o_a51 := gr_ob g112 o_a51
                have o_a54 := gr_ob g112 o_a54
                have o_a57 := gr_ob g112 o_a57
                have o_a86 := gr_ob g112 o_a86
                have o_v0 := gr_ob g112 o_v0
                have g0 := gr_tr (T := S4) g0 g112
                intro _
                have hS := sb_tk hIo o0_v0 fc113 g112 (by decide) p_S111 rfl (qw101 h1 h2 h3 i1u3 r_x21 c22 c26 c29 dv_x34 c39 r_x48 c49 c59 c89) (qw102 h0 h1 h2 h3 i1u3 r_x21 c22 c26 c29 dv_x34 c39 r_x48 c49 c59 c89) (qw103 h1 h2 h3 i1u3 r_x21 c22 c26 c29 dv_x34 c39 r_x48 c49 c59 c89) ew0 ec0 gp109 hS
                exact hq _ hI g0 f0 hS
          · intro _
            obtain ⟨a115, ea115, o_a115, -⟩ := sh 38 rfl hI o_a1
            have gp116 : gs (fI S4 a1 3) (fI S4 a115) v4 v3 ((-2 : Int32)) := gs_wait (roads := fI S4 a1 3) (L := fI S4 a115) (t := v4) (m := v3) (qw105 h1 h2 h3 i1u3 r_x21 c22 c26 c29 dv_x34 c39 r_x48 c49)
            have hIo := hI
            have o0_v0 := o_v0
            have ew0 := ea1
            have ec0 := ea115
            refine m_X11_takes hI o_v0 (sp_rng (qw106 h1 h2 h3 i1u3 r_x21 c22 c26 c29 dv_x34 c39 r_x48 c49) (qw107 h0 h1 h2 h3 i1u3 r_x21 c22 c26 c29 dv_x34 c39 r_x48 c49)) (sp_rng (qw109 h1 h2 h3 i1u3 r_x21 c22 c26 c29 dv_x34 c39 r_x48 c49) (qw107 h0 h1 h2 h3 i1u3 r_x21 c22 c26 c29 dv_x34 c39 r_x48 c49)) (fun S118 hJ g119 fc120 p_S118 => ?_)
            have hI := hJ
            have l_a24 := (gr_len g119 o_a24).trans l_a24
            have d_kv2 := d_kv2.trans (fri_at fc120 (by decide) (by decide) o_a1).symm
            have d_x21 := d_x21.trans (fri_at fc120 (by decide) (by decide) o_a1).symm
            have d_x33 := d_x33.trans (fri_at fc120 (by decide) (by decide) o_a1).symm
            have d_x48 := d_x48.trans (fri_at fc120 (by decide) (by decide) o_a1).symm
            have ea1 := (frr_at fc120 (by decide) (by decide) o_v0).trans ea1
            have ea24 := (frr_at fc120 (by decide) (by decide) o_a1).trans ea24
            have ea115 := (frr_at fc120 (by decide) (by decide) o_a1).trans ea115
            have f0 := fri_tr (S := S4) g0 f0 fc120 (by decide) (by decide)
            have o_a1 := gr_ob g119 o_a1
            have o_a115 := gr_ob g119 o_a115
            have o_a24 := gr_ob g119 o_a24
            have o_v0 := gr_ob g119 o_v0
            have g0 := gr_tr (T := S4) g0 g119
            intro _
            have hS := sb_tk hIo o0_v0 fc120 g119 (by decide) p_S118 rfl (qw106 h1 h2 h3 i1u3 r_x21 c22 c26 c29 dv_x34 c39 r_x48 c49) (qw107 h0 h1 h2 h3 i1u3 r_x21 c22 c26 c29 dv_x34 c39 r_x48 c49) (qw108 h1 h2 h3 i1u3 r_x21 c22 c26 c29 dv_x34 c39 r_x48 c49) ew0 ec0 gp116 hS
            exact hq _ hI g0 f0 hS
    · refine ⟨a1, ea1, ?_⟩
      refine ⟨o_a1, ?_⟩
      obtain ⟨a122, ea122, o_a122, l_a122⟩ := shl 34 rfl hI o_a1
      refine ⟨a122, ea122, ?_⟩
      refine ⟨o_a122, ?_⟩
      refine ⟨(vin l_a122 (m := 8) (by decide) (qw110 h0 i1u3 r_x21 c22 c26)), ?_⟩
      intro x123 ex123
      refine ⟨fun c124 => ?_, fun c124 => ?_⟩
      · intro _ _
        refine ⟨fun c126 => ?_, fun c126 => absurd (show ¬ (0 : Int32) = 0 from c126) (by decide)⟩
        exact hq _ hI g0 f0 hS
      · intro _ _
        refine ⟨fun c128 => absurd (show (1 : Int32) = 0 from c128) (by decide), fun c128 => ?_⟩
        refine ⟨fun c129 => ?_, fun c129 => ?_⟩
        · exact hq _ hI g0 f0 hS
        · refine u_X11_spotOf ?_
          refine u_X11_spotOf_0 ?_
          intro _
          refine u_X11_spotOf ?_
          refine u_X11_spotOf_0 ?_
          intro _
          refine u_X11_waitsOf ?_
          refine u_X11_waitsOf_0 ?_
          refine ⟨o_v0, ?_⟩
          refine u_X11_hourOf ?_
          refine u_X11_hourOf_0 ?_
          refine ⟨o_v0, ?_⟩
          refine ⟨a1, ea1, ?_⟩
          refine ⟨o_a1, ?_⟩
          intro x133 ex133
          have r_x133 : (0 : Int32) ≤ x133 ∧ x133 ≤ (60 : Int32) := by rw [ex133]; exact nu 16 rfl hI o_a1
          have d_x133 := ex133
          have hh_x133 : 1 ≤ x133 := by rw [ex133]; exact ml_hour hI o_v0 ea1
          refine ⟨(qw111 h1 h2 h3 i1u3 r_x21 c22 c26 c124 c129 r_x133 hh_x133), ?_⟩
          intro x134 ex134
          have dv_x134 : 0 ≤ x134 ∧ x134 ≤ v3 := by rw [ex134]; exact dv0 (qw112 h1 h2 h3 i1u3 r_x21 c22 c26 c124 c129) (i32pos (qw113 h1 h2 h3 i1u3 r_x21 c22 c26 c124 c129 r_x133 hh_x133))
          intro _
          refine ⟨a1, ea1, ?_⟩
          refine ⟨o_a1, ?_⟩
          refine ⟨a24, ea24, ?_⟩
          refine ⟨o_a24, ?_⟩
          refine ⟨(vin l_a24 (m := 8) (by decide) (qw114 h0 h1 h2 h3 i1u3 r_x21 c22 c26 c124 c129 dv_x134)), ?_⟩
          intro x138 ex138
          refine ⟨fun c139 => ?_, fun c139 => ?_⟩
          · intro _
            obtain ⟨a141, ea141, o_a141, -⟩ := sh 38 rfl hI o_a1
            have gp142 : gs (fI S4 a1 3) (fI S4 a141) v4 v3 ((-2 : Int32)) := gs_wait (roads := fI S4 a1 3) (L := fI S4 a141) (t := v4) (m := v3) (qw115 h1 h2 h3 i1u3 r_x21 c22 c26 c124 c129 dv_x134 c139)
            have hIo := hI
            have o0_v0 := o_v0
            have ew0 := ea1
            have ec0 := ea141
            refine m_X11_takes hI o_v0 (sp_rng (qw116 h1 h2 h3 i1u3 r_x21 c22 c26 c124 c129 dv_x134 c139) (qw117 h0 h1 h2 h3 i1u3 r_x21 c22 c26 c124 c129 dv_x134 c139)) (sp_rng (qw119 h1 h2 h3 i1u3 r_x21 c22 c26 c124 c129 dv_x134 c139) (qw117 h0 h1 h2 h3 i1u3 r_x21 c22 c26 c124 c129 dv_x134 c139)) (fun S144 hJ g145 fc146 p_S144 => ?_)
            have hI := hJ
            have l_a122 := (gr_len g145 o_a122).trans l_a122
            have l_a24 := (gr_len g145 o_a24).trans l_a24
            have d_kv2 := d_kv2.trans (fri_at fc146 (by decide) (by decide) o_a1).symm
            have d_x21 := d_x21.trans (fri_at fc146 (by decide) (by decide) o_a1).symm
            have d_x133 := d_x133.trans (fri_at fc146 (by decide) (by decide) o_a1).symm
            have ea1 := (frr_at fc146 (by decide) (by decide) o_v0).trans ea1
            have ea24 := (frr_at fc146 (by decide) (by decide) o_a1).trans ea24
            have ea122 := (frr_at fc146 (by decide) (by decide) o_a1).trans ea122
            have ea141 := (frr_at fc146 (by decide) (by decide) o_a1).trans ea141
            have f0 := fri_tr (S := S4) g0 f0 fc146 (by decide) (by decide)
            have o_a1 := gr_ob g145 o_a1
            have o_a122 := gr_ob g145 o_a122
            have o_a141 := gr_ob g145 o_a141
            have o_a24 := gr_ob g145 o_a24
            have o_v0 := gr_ob g145 o_v0
            have g0 := gr_tr (T := S4) g0 g145
            intro _
            have hS := sb_tk hIo o0_v0 fc146 g145 (by decide) p_S144 rfl (qw116 h1 h2 h3 i1u3 r_x21 c22 c26 c124 c129 dv_x134 c139) (qw117 h0 h1 h2 h3 i1u3 r_x21 c22 c26 c124 c129 dv_x134 c139) (qw118 h1 h2 h3 i1u3 r_x21 c22 c26 c124 c129 dv_x134 c139) ew0 ec0 gp142 hS
            exact hq _ hI g0 f0 hS
          · refine ⟨a1, ea1, ?_⟩
            refine ⟨o_a1, ?_⟩
            intro x148 ex148
            have r_x148 : (0 : Int32) ≤ x148 ∧ x148 ≤ (6 : Int32) := by rw [ex148]; exact nu 17 rfl hI o_a1
            have d_x148 := ex148
            refine ⟨fun c149 => ?_, fun c149 => ?_⟩
            · refine u_X11_drips ?_
              refine u_X11_drips_0 ?_
              refine ⟨o_v0, ?_⟩
              refine ⟨a1, ea1, ?_⟩
              refine ⟨o_a1, ?_⟩
              refine ⟨a122, ea122, ?_⟩
              refine ⟨o_a122, ?_⟩
              refine ⟨(vin l_a122 (m := 8) (by decide) (qw120 h0 h1 h2 h3 i1u3 r_x21 c22 c26 c124 c129 dv_x134 c139 r_x148 c149)), ?_⟩
              intro x152 ex152
              refine ⟨a1, ea1, ?_⟩
              refine ⟨o_a1, ?_⟩
              obtain ⟨a154, ea154, o_a154, l_a154⟩ := shl 43 rfl hI o_a1
              refine ⟨a154, ea154, ?_⟩
              refine ⟨o_a154, ?_⟩
              refine ⟨(vin l_a154 (m := 4) (by decide) (qw121 h1 h2 h3 r_kv2 hwi1 i1u3 r_x21 c22 c26 c124 c129 dv_x134 c139 r_x148 c149)), ?_⟩
              intro x155 ex155
              refine ⟨a1, ea1, ?_⟩
              refine ⟨o_a1, ?_⟩
              refine u_X10_shield ?_
              refine u_X10_shield_0 ?_
              refine ⟨o_a1, ?_⟩
              obtain ⟨a157, ea157, o_a157, l_a157⟩ := shl 41 rfl hI o_a1
              refine ⟨a157, ea157, ?_⟩
              refine ⟨o_a157, ?_⟩
              refine ⟨(vin l_a157 (m := 4) (by decide) (qw121 h1 h2 h3 r_kv2 hwi1 i1u3 r_x21 c22 c26 c124 c129 dv_x134 c139 r_x148 c149)), ?_⟩
              intro x158 ex158
              refine ⟨fun c159 => ?_, fun c159 => ?_⟩
              · intro _
                refine u_X11_less ?_
                refine u_X11_less_0 ?_
                refine ⟨fun c161 => ?_, fun c161 => ?_⟩
                · intro _
                  intro _
                  refine ⟨a1, ea1, ?_⟩
                  refine ⟨o_a1, ?_⟩
                  obtain ⟨a165, ea165, o_a165, l_a165⟩ := shl 33 rfl hI o_a1
                  refine ⟨a165, ea165, ?_⟩
                  refine ⟨o_a165, ?_⟩
                  refine ⟨(vin l_a165 (m := 6) (by decide) (qw122 h1 h2 h3 i1u3 r_x21 c22 c26 c124 c129 dv_x134 c139 r_x148 c149 c159 c161)), ?_⟩
                  intro x166 ex166
                  intro _
                  obtain ⟨a168, ea168, o_a168, -⟩ := sh 38 rfl hI o_a1
                  have gp169 : gs (fI S4 a1 3) (fI S4 a168) v4 v3 ((-2 : Int32)) := gs_wait (roads := fI S4 a1 3) (L := fI S4 a168) (t := v4) (m := v3) (qw123 h1 h2 h3 i1u3 r_x21 c22 c26 c124 c129 dv_x134 c139 r_x148 c149 c159 c161)
                  have hIo := hI
                  have o0_v0 := o_v0
                  have ew0 := ea1
                  have ec0 := ea168
                  refine m_X11_takes hI o_v0 (sp_rng (qw124 h1 h2 h3 i1u3 r_x21 c22 c26 c124 c129 dv_x134 c139 r_x148 c149 c159 c161) (qw125 h0 h1 h2 h3 i1u3 r_x21 c22 c26 c124 c129 dv_x134 c139 r_x148 c149 c159 c161)) (sp_rng (qw127 h1 h2 h3 i1u3 r_x21 c22 c26 c124 c129 dv_x134 c139 r_x148 c149 c159 c161) (qw125 h0 h1 h2 h3 i1u3 r_x21 c22 c26 c124 c129 dv_x134 c139 r_x148 c149 c159 c161)) (fun S171 hJ g172 fc173 p_S171 => ?_)
                  have hI := hJ
                  have l_a122 := (gr_len g172 o_a122).trans l_a122
                  have l_a154 := (gr_len g172 o_a154).trans l_a154
                  have l_a157 := (gr_len g172 o_a157).trans l_a157
                  have l_a165 := (gr_len g172 o_a165).trans l_a165
                  have l_a24 := (gr_len g172 o_a24).trans l_a24
                  have d_kv2 := d_kv2.trans (fri_at fc173 (by decide) (by decide) o_a1).symm
                  have d_x21 := d_x21.trans (fri_at fc173 (by decide) (by decide) o_a1).symm
                  have d_x133 := d_x133.trans (fri_at fc173 (by decide) (by decide) o_a1).symm
                  have d_x148 := d_x148.trans (fri_at fc173 (by decide) (by decide) o_a1).symm
                  have ea1 := (frr_at fc173 (by decide) (by decide) o_v0).trans ea1
                  have ea24 := (frr_at fc173 (by decide) (by decide) o_a1).trans ea24
                  have ea122 := (frr_at fc173 (by decide) (by decide) o_a1).trans ea122
                  have ea154 := (frr_at fc173 (by decide) (by decide) o_a1).trans ea154
                  have ea157 := (frr_at fc173 (by decide) (by decide) o_a1).trans ea157
                  have ea165 := (frr_at fc173 (by decide) (by decide) o_a1).trans ea165
                  have ea168 := (frr_at fc173 (by decide) (by decide) o_a1).trans ea168
                  have f0 := fri_tr (S := S4) g0 f0 fc173 (by decide) (by decide)
                  have o_a1 := gr_ob g172 o_a1
                  have o_a122 := gr_ob g172 o_a122
                  have o_a154 := gr_ob g172 o_a154
                  have o_a157 := gr_ob g172 o_a157
                  have o_a165 := gr_ob g172 o_a165
                  have o_a168 := gr_ob g172 o_a168
                  have o_a24 := gr_ob g172 o_a24
                  have o_v0 := gr_ob g172 o_v0
                  have g0 := gr_tr (T := S4) g0 g172
                  intro _
                  have hS := sb_tk hIo o0_v0 fc173 g172 (by decide) p_S171 rfl (qw124 h1 h2 h3 i1u3 r_x21 c22 c26 c124 c129 dv_x134 c139 r_x148 c149 c159 c161) (qw125 h0 h1 h2 h3 i1u3 r_x21 c22 c26 c124 c129 dv_x134 c139 r_x148 c149 c159 c161) (qw126 h1 h2 h3 i1u3 r_x21 c22 c26 c124 c129 dv_x134 c139 r_x148 c149 c159 c161) ew0 ec0 gp169 hS
                  exact hq _ hI g0 f0 hS
                · intro _
                  intro _
                  refine ⟨a1, ea1, ?_⟩
                  refine ⟨o_a1, ?_⟩
                  obtain ⟨a177, ea177, o_a177, l_a177⟩ := shl 33 rfl hI o_a1
                  refine ⟨a177, ea177, ?_⟩
                  refine ⟨o_a177, ?_⟩
                  refine ⟨(vin l_a177 (m := 6) (by decide) (qw128 h1 h2 h3 i1u3 r_x21 c22 c26 c124 c129 dv_x134 c139 r_x148 c149 c159 c161)), ?_⟩
                  intro x178 ex178
                  intro _
                  obtain ⟨a180, ea180, o_a180, -⟩ := sh 38 rfl hI o_a1
                  have gp181 : gs (fI S4 a1 3) (fI S4 a180) v4 v3 ((-2 : Int32)) := gs_wait (roads := fI S4 a1 3) (L := fI S4 a180) (t := v4) (m := v3) (qw129 h1 h2 h3 i1u3 r_x21 c22 c26 c124 c129 dv_x134 c139 r_x148 c149 c159 c161)
                  have hIo := hI
                  have o0_v0 := o_v0
                  have ew0 := ea1
                  have ec0 := ea180
                  refine m_X11_takes hI o_v0 (sp_rng (qw130 h1 h2 h3 i1u3 r_x21 c22 c26 c124 c129 dv_x134 c139 r_x148 c149 c159 c161) (qw131 h0 h1 h2 h3 i1u3 r_x21 c22 c26 c124 c129 dv_x134 c139 r_x148 c149 c159 c161)) (sp_rng (qw133 h1 h2 h3 i1u3 r_x21 c22 c26 c124 c129 dv_x134 c139 r_x148 c149 c159 c161) (qw131 h0 h1 h2 h3 i1u3 r_x21 c22 c26 c124 c129 dv_x134 c139 r_x148 c149 c159 c161)) (fun S183 hJ g184 fc185 p_S183 => ?_)
                  have hI := hJ
                  have l_a122 := (gr_len g184 o_a122).trans l_a122
                  have l_a154 := (gr_len g184 o_a154).trans l_a154
                  have l_a157 := (gr_len g184 o_a157).trans l_a157
                  have l_a177 := (gr_len g184 o_a177).trans l_a177
                  have l_a24 := (gr_len g184 o_a24).trans l_a24
                  have d_kv2 := d_kv2.trans (fri_at fc185 (by decide) (by decide) o_a1).symm
                  have d_x21 := d_x21.trans (fri_at fc185 (by decide) (by decide) o_a1).symm
                  have d_x133 := d_x133.trans (fri_at fc185 (by decide) (by decide) o_a1).symm
                  have d_x148 := d_x148.trans (fri_at fc185 (by decide) (by decide) o_a1).symm
                  have ea1 := (frr_at fc185 (by decide) (by decide) o_v0).trans ea1
                  have ea24 := (frr_at fc185 (by decide) (by decide) o_a1).trans ea24
                  have ea122 := (frr_at fc185 (by decide) (by decide) o_a1).trans ea122
                  have ea154 := (frr_at fc185 (by decide) (by decide) o_a1).trans ea154
                  have ea157 := (frr_at fc185 (by decide) (by decide) o_a1).trans ea157
                  have ea177 := (frr_at fc185 (by decide) (by decide) o_a1).trans ea177
                  have ea180 := (frr_at fc185 (by decide) (by decide) o_a1).trans ea180
                  have f0 := fri_tr (S := S4) g0 f0 fc185 (by decide) (by decide)
                  have o_a1 := gr_ob g184 o_a1
                  have o_a122 := gr_ob g184 o_a122
                  have o_a154 := gr_ob g184 o_a154
                  have o_a157 := gr_ob g184 o_a157
                  have o_a177 := gr_ob g184 o_a177
                  have o_a180 := gr_ob g184 o_a180
                  have o_a24 := gr_ob g184 o_a24
                  have o_v0 := gr_ob g184 o_v0
                  have g0 := gr_tr (T := S4) g0 g184
                  intro _
                  have hS := sb_tk hIo o0_v0 fc185 g184 (by decide) p_S183 rfl (qw130 h1 h2 h3 i1u3 r_x21 c22 c26 c124 c129 dv_x134 c139 r_x148 c149 c159 c161) (qw131 h0 h1 h2 h3 i1u3 r_x21 c22 c26 c124 c129 dv_x134 c139 r_x148 c149 c159 c161) (qw132 h1 h2 h3 i1u3 r_x21 c22 c26 c124 c129 dv_x134 c139 r_x148 c149 c159 c161) ew0 ec0 gp181 hS
                  exact hq _ hI g0 f0 hS
              · obtain ⟨a186, ea186, o_a186, l_a186⟩ := shl 42 rfl hI o_a1
                refine ⟨a186, ea186, ?_⟩
                refine ⟨o_a186, ?_⟩
                refine ⟨(vin l_a186 (m := 4) (by decide) (qw134 h1 h2 h3 r_kv2 hwi1 i1u3 r_x21 c22 c26 c124 c129 dv_x134 c139 r_x148 c149 c159)), ?_⟩
                intro x187 ex187
                intro _
                refine u_X11_less ?_
                refine u_X11_less_0 ?_
                refine ⟨fun c189 => ?_, fun c189 => ?_⟩
                · intro _
                  intro _
                  refine ⟨a1, ea1, ?_⟩
                  refine ⟨o_a1, ?_⟩
                  obtain ⟨a193, ea193, o_a193, l_a193⟩ := shl 33 rfl hI o_a1
                  refine ⟨a193, ea193, ?_⟩
                  refine ⟨o_a193, ?_⟩
                  refine ⟨(vin l_a193 (m := 6) (by decide) (qw135 h1 h2 h3 i1u3 r_x21 c22 c26 c124 c129 dv_x134 c139 r_x148 c149 c159 c189)), ?_⟩
                  intro x194 ex194
                  intro _
                  obtain ⟨a196, ea196, o_a196, -⟩ := sh 38 rfl hI o_a1
                  have gp197 : gs (fI S4 a1 3) (fI S4 a196) v4 v3 ((-2 : Int32)) := gs_wait (roads := fI S4 a1 3) (L := fI S4 a196) (t := v4) (m := v3) (qw136 h1 h2 h3 i1u3 r_x21 c22 c26 c124 c129 dv_x134 c139 r_x148 c149 c159 c189)
                  have hIo := hI
                  have o0_v0 := o_v0
                  have ew0 := ea1
                  have ec0 := ea196
                  refine m_X11_takes hI o_v0 (sp_rng (qw137 h1 h2 h3 i1u3 r_x21 c22 c26 c124 c129 dv_x134 c139 r_x148 c149 c159 c189) (qw138 h0 h1 h2 h3 i1u3 r_x21 c22 c26 c124 c129 dv_x134 c139 r_x148 c149 c159 c189)) (sp_rng (qw140 h1 h2 h3 i1u3 r_x21 c22 c26 c124 c129 dv_x134 c139 r_x148 c149 c159 c189) (qw138 h0 h1 h2 h3 i1u3 r_x21 c22 c26 c124 c129 dv_x134 c139 r_x148 c149 c159 c189)) (fun S199 hJ g200 fc201 p_S199 => ?_)
                  have hI := hJ
                  have l_a122 := (gr_len g200 o_a122).trans l_a122
                  have l_a154 := (gr_len g200 o_a154).trans l_a154
                  have l_a157 := (gr_len g200 o_a157).trans l_a157
                  have l_a186 := (gr_len g200 o_a186).trans l_a186
                  have l_a193 := (gr_len g200 o_a193).trans l_a193
                  have l_a24 := (gr_len g200 o_a24).trans l_a24
                  have d_kv2 := d_kv2.trans (fri_at fc201 (by decide) (by decide) o_a1).symm
                  have d_x21 := d_x21.trans (fri_at fc201 (by decide) (by decide) o_a1).symm
                  have d_x133 := d_x133.trans (fri_at fc201 (by decide) (by decide) o_a1).symm
                  have d_x148 := d_x148.trans (fri_at fc201 (by decide) (by decide) o_a1).symm
                  have ea1 := (frr_at fc201 (by decide) (by decide) o_v0).trans ea1
                  have ea24 := (frr_at fc201 (by decide) (by decide) o_a1).trans ea24
                  have ea122 := (frr_at fc201 (by decide) (by decide) o_a1).trans ea122
                  have ea154 := (frr_at fc201 (by decide) (by decide) o_a1).trans ea154
                  have ea157 := (frr_at fc201 (by decide) (by decide) o_a1).trans ea157
                  have ea186 := (frr_at fc201 (by decide) (by decide) o_a1).trans ea186
                  have ea193 := (frr_at fc201 (by decide) (by decide) o_a1).trans ea193
                  have ea196 := (frr_at fc201 (by decide) (by decide) o_a1).trans ea196
                  have f0 := fri_tr (S := S4) g0 f0 fc201 (by decide) (by decide)
                  have o_a1 := gr_ob g200 o_a1
                  have o_a122 := gr_ob g200 o_a122
                  have o_a154 := gr_ob g200 o_a154
                  have o_a157 := gr_ob g200 o_a157
                  have o_a186 := gr_ob g200 o_a186
                  have o_a193 := gr_ob g200 o_a193
                  have o_a196 := gr_ob g200 o_a196
                  have o_a24 := gr_ob g200 o_a24
                  have o_v0 := gr_ob g200 o_v0
                  have g0 := gr_tr (T := S4) g0 g200
                  intro _
                  have hS := sb_tk hIo o0_v0 fc201 g200 (by decide) p_S199 rfl (qw137 h1 h2 h3 i1u3 r_x21 c22 c26 c124 c129 dv_x134 c139 r_x148 c149 c159 c189) (qw138 h0 h1 h2 h3 i1u3 r_x21 c22 c26 c124 c129 dv_x134 c139 r_x148 c149 c159 c189) (qw139 h1 h2 h3 i1u3 r_x21 c22 c26 c124 c129 dv_x134 c139 r_x148 c149 c159 c189) ew0 ec0 gp197 hS
                  exact hq _ hI g0 f0 hS
                · intro _
                  intro _
                  refine ⟨a1, ea1, ?_⟩
                  refine ⟨o_a1, ?_⟩
                  obtain ⟨a205, ea205, o_a205, l_a205⟩ := shl 33 rfl hI o_a1
                  refine ⟨a205, ea205, ?_⟩
                  refine ⟨o_a205, ?_⟩
                  refine ⟨(vin l_a205 (m := 6) (by decide) (qw141 h1 h2 h3 i1u3 r_x21 c22 c26 c124 c129 dv_x134 c139 r_x148 c149 c159 c189)), ?_⟩
                  intro x206 ex206
                  intro _
                  obtain ⟨a208, ea208, o_a208, -⟩ := sh 38 rfl hI o_a1
                  have gp209 : gs (fI S4 a1 3) (fI S4 a208) v4 v3 ((-2 : Int32)) := gs_wait (roads := fI S4 a1 3) (L := fI S4 a208) (t := v4) (m := v3) (qw142 h1 h2 h3 i1u3 r_x21 c22 c26 c124 c129 dv_x134 c139 r_x148 c149 c159 c189)
                  have hIo := hI
                  have o0_v0 := o_v0
                  have ew0 := ea1
                  have ec0 := ea208
                  refine m_X11_takes hI o_v0 (sp_rng (qw143 h1 h2 h3 i1u3 r_x21 c22 c26 c124 c129 dv_x134 c139 r_x148 c149 c159 c189) (qw144 h0 h1 h2 h3 i1u3 r_x21 c22 c26 c124 c129 dv_x134 c139 r_x148 c149 c159 c189)) (sp_rng (qw146 h1 h2 h3 i1u3 r_x21 c22 c26 c124 c129 dv_x134 c139 r_x148 c149 c159 c189) (qw144 h0 h1 h2 h3 i1u3 r_x21 c22 c26 c124 c129 dv_x134 c139 r_x148 c149 c159 c189)) (fun S211 hJ g212 fc213 p_S211 => ?_)
                  have hI := hJ
                  have l_a122 := (gr_len g212 o_a122).trans l_a122
                  have l_a154 := (gr_len g212 o_a154).trans l_a154
                  have l_a157 := (gr_len g212 o_a157).trans l_a157
                  have l_a186 := (gr_len g212 o_a186).trans l_a186
                  have l_a205 := (gr_len g212 o_a205).trans l_a205
                  have l_a24 := (gr_len g212 o_a24).trans l_a24
                  have d_kv2 := d_kv2.trans (fri_at fc213 (by decide) (by decide) o_a1).symm
                  have d_x21 := d_x21.trans (fri_at fc213 (by decide) (by decide) o_a1).symm
                  have d_x133 := d_x133.trans (fri_at fc213 (by decide) (by decide) o_a1).symm
                  have d_x148 := d_x148.trans (fri_at fc213 (by decide) (by decide) o_a1).symm
                  have ea1 := (frr_at fc213 (by decide) (by decide) o_v0).trans ea1
                  have ea24 := (frr_at fc213 (by decide) (by decide) o_a1).trans ea24
                  have ea122 := (frr_at fc213 (by decide) (by decide) o_a1).trans ea122
                  have ea154 := (frr_at fc213 (by decide) (by decide) o_a1).trans ea154
                  have ea157 := (frr_at fc213 (by decide) (by decide) o_a1).trans ea157
                  have ea186 := (frr_at fc213 (by decide) (by decide) o_a1).trans ea186
                  have ea205 := (frr_at fc213 (by decide) (by decide) o_a1).trans ea205
                  have ea208 := (frr_at fc213 (by decide) (by decide) o_a1).trans ea208
                  have f0 := fri_tr (S := S4) g0 f0 fc213 (by decide) (by decide)
                  have o_a1 := gr_ob g212 o_a1
                  have o_a122 := gr_ob g212 o_a122
                  have o_a154 := gr_ob g212 o_a154
                  have o_a157 := gr_ob g212 o_a157
                  have o_a186 := gr_ob g212 o_a186
                  have o_a205 := gr_ob g212 o_a205
                  have o_a208 := gr_ob g212 o_a208
                  have o_a24 := gr_ob g212 o_a24
                  have o_v0 := gr_ob g212 o_v0
                  have g0 := gr_tr (T := S4) g0 g212
                  intro _
                  have hS := sb_tk hIo o0_v0 fc213 g212 (by decide) p_S211 rfl (qw143 h1 h2 h3 i1u3 r_x21 c22 c26 c124 c129 dv_x134 c139 r_x148 c149 c159 c189) (qw144 h0 h1 h2 h3 i1u3 r_x21 c22 c26 c124 c129 dv_x134 c139 r_x148 c149 c159 c189) (qw145 h1 h2 h3 i1u3 r_x21 c22 c26 c124 c129 dv_x134 c139 r_x148 c149 c159 c189) ew0 ec0 gp209 hS
                  exact hq _ hI g0 f0 hS
            · intro _
              obtain ⟨a215, ea215, o_a215, -⟩ := sh 38 rfl hI o_a1
              have gp216 : gs (fI S4 a1 3) (fI S4 a215) v4 v3 ((-2 : Int32)) := gs_wait (roads := fI S4 a1 3) (L := fI S4 a215) (t := v4) (m := v3) (qw147 h1 h2 h3 i1u3 r_x21 c22 c26 c124 c129 dv_x134 c139 r_x148 c149)
              have hIo := hI
              have o0_v0 := o_v0
              have ew0 := ea1
              have ec0 := ea215
              refine m_X11_takes hI o_v0 (sp_rng (qw148 h1 h2 h3 i1u3 r_x21 c22 c26 c124 c129 dv_x134 c139 r_x148 c149) (qw149 h0 h1 h2 h3 i1u3 r_x21 c22 c26 c124 c129 dv_x134 c139 r_x148 c149)) (sp_rng (qw151 h1 h2 h3 i1u3 r_x21 c22 c26 c124 c129 dv_x134 c139 r_x148 c149) (qw149 h0 h1 h2 h3 i1u3 r_x21 c22 c26 c124 c129 dv_x134 c139 r_x148 c149)) (fun S218 hJ g219 fc220 p_S218 => ?_)
              have hI := hJ
              have l_a122 := (gr_len g219 o_a122).trans l_a122
              have l_a24 := (gr_len g219 o_a24).trans l_a24
              have d_kv2 := d_kv2.trans (fri_at fc220 (by decide) (by decide) o_a1).symm
              have d_x21 := d_x21.trans (fri_at fc220 (by decide) (by decide) o_a1).symm
              have d_x133 := d_x133.trans (fri_at fc220 (by decide) (by decide) o_a1).symm
              have d_x148 := d_x148.trans (fri_at fc220 (by decide) (by decide) o_a1).symm
              have ea1 := (frr_at fc220 (by decide) (by decide) o_v0).trans ea1
              have ea24 := (frr_at fc220 (by decide) (by decide) o_a1).trans ea24
              have ea122 := (frr_at fc220 (by decide) (by decide) o_a1).trans ea122
              have ea215 := (frr_at fc220 (by decide) (by decide) o_a1).trans ea215
              have f0 := fri_tr (S := S4) g0 f0 fc220 (by decide) (by decide)
              have o_a1 := gr_ob g219 o_a1
              have o_a122 := gr_ob g219 o_a122
              have o_a215 := gr_ob g219 o_a215
              have o_a24 := gr_ob g219 o_a24
              have o_v0 := gr_ob g219 o_v0
              have g0 := gr_tr (T := S4) g0 g219
              intro _
              have hS := sb_tk hIo o0_v0 fc220 g219 (by decide) p_S218 rfl (qw148 h1 h2 h3 i1u3 r_x21 c22 c26 c124 c129 dv_x134 c139 r_x148 c149) (qw149 h0 h1 h2 h3 i1u3 r_x21 c22 c26 c124 c129 dv_x134 c139 r_x148 c149) (qw150 h1 h2 h3 i1u3 r_x21 c22 c26 c124 c129 dv_x134 c139 r_x148 c149) ew0 ec0 gp216 hS
              exact hq _ hI g0 f0 hS
  · refine i_X11_tries_18 (fun (y0 : Nat) (y1 : Int32) (y2 : Int32) (y3 : Int32) (y4 : Int32) (y5 : Int32) (y6 : Int32) (Z : HS) => ((2147483647 : Int32).toInt - y6.toInt).toNat) (fun (y0 : Nat) (y1 : Int32) (y2 : Int32) (y3 : Int32) (y4 : Int32) (y5 : Int32) (y6 : Int32) (Z : HS) => (IV Z) ∧ (Gr S4 Z) ∧ (FRI [] [] S4 Z) ∧ (v0 = y0) ∧ (v1 = y1) ∧ (v2 = y2) ∧ (v3 = y3) ∧ (v4 = y4) ∧ (w17 = y5) ∧ (SBD Z v0 v4 v3 v2) ∧ (0 ≤ y6)) ?_ _ _ _ _ _ _ _ _ ⟨hI, (gr_rf _), (fri_rf _ _ _), rfl, rfl, rfl, rfl, rfl, rfl, hS, (qw152 i1u3 r_x21 c22)⟩
    intro w225 w227 w229 w231 w233 w235 w237 S222 X238 ⟨hI, gL223, fL224, q226, q228, q230, q232, q234, q236, hS, i1u221⟩ ih239
    subst q226
    subst q228
    subst q230
    subst q232
    subst q234
    subst q236
    have d_kv2 := d_kv2.trans (fri_at fL224 (by decide) (by decide) o_a1).symm
    have d_x21 := d_x21.trans (fri_at fL224 (by decide) (by decide) o_a1).symm
    have ea1 := (frr_at fL224 (by decide) (by decide) o_v0).trans ea1
    have f0 := fri_tr (S := S4) g0 f0 fL224 (by decide) (by decide)
    have fL6 := fri_tr (S := S4) gL5 fL6 fL224 (by decide) (by decide)
    have o_a1 := gr_ob gL223 o_a1
    have o_v0 := gr_ob gL223 o_v0
    have g0 := gr_tr (T := S4) g0 gL223
    have gL5 := gr_tr (T := S4) gL5 gL223
    refine u_X11_tries_18 ?_
    refine ⟨fun c240 => ?_, fun c240 => ?_⟩
    · intro x241 ex241
      exact ih19 _ _ _ _ _ _ _ ⟨hI, gL5, fL6, rfl, rfl, rfl, rfl, rfl, hS, (qw153 i1u3 r_x21 c22 i1u221 c240 ex241)⟩ (mu_up (qw154 i1u3 r_x21 c22 i1u221 c240 ex241) (qw155 i1u3 r_x21 c22 i1u221 c240 ex241))
    · refine ⟨o_v0, ?_⟩
      refine ⟨a1, ea1, ?_⟩
      refine ⟨o_a1, ?_⟩
      refine u_X10_begins ?_
      refine u_X10_begins_0 ?_
      refine ⟨fun c243 => ?_, fun c243 => ?_⟩
      · refine ⟨o_a1, ?_⟩
        obtain ⟨a244, ea244, o_a244, l_a244⟩ := shl 36 rfl hI o_a1
        refine ⟨a244, ea244, ?_⟩
        refine ⟨o_a244, ?_⟩
        refine ⟨(vin l_a244 (m := 12) (by decide) (qw156 i1u3 r_x21 c22 i1u221 c240 c243)), ?_⟩
        intro x245 ex245
        have gy_x245 : 0 ≤ w17 ∧ w17 < fI S222 a1 3 := by rw [← d_x21]; exact (qw157 i1u3 r_x21 c22 i1u221 c240 c243)
        have g_x245 : (0 : Int32) ≤ x245 ∧ x245 ≤ (7 : Int32) := by rw [ex245]; exact wg_at (ml_wg hI o_v0 ea1) 1 rfl gy_x245 ea244
        obtain ⟨kv246, d_kv246⟩ : ∃ z : Int32, z = fI S222 a1 2 := ⟨_, rfl⟩
        have r_kv246 : (0 : Int32) ≤ kv246 ∧ kv246 ≤ (8 : Int32) := by rw [d_kv246]; exact nu 18 rfl hI o_a1
        have gl_x245 : x245 < kv246 := by rw [ex245, d_kv246]; exact wg_lt (ml_wg hI o_v0 ea1) 1 rfl (by decide) gy_x245 ea244
        intro _
        refine ⟨fun c248 => ?_, fun c248 => ?_⟩
        · refine ⟨a1, ea1, ?_⟩
          refine ⟨o_a1, ?_⟩
          obtain ⟨a250, ea250, o_a250, l_a250⟩ := shl 46 rfl hI o_a1
          refine ⟨a250, ea250, ?_⟩
          refine ⟨o_a250, ?_⟩
          refine ⟨(vin l_a250 (m := 4) (by decide) (qw158 h0 r_kv2 hwi1 i1u3 r_x21 c22 i1u221 c240 c243 g_x245 r_kv246 gl_x245 c248)), ?_⟩
          intro x251 ex251
          have gy_x251 : 0 ≤ v1 ∧ v1 < fI S222 a1 4 := by rw [← d_kv2]; exact (qw159 h0 r_kv2 hwi1 i1u3 r_x21 c22 i1u221 c240 c243 g_x245 r_kv246 gl_x245 c248)
          have g_x251 : (1 : Int32) ≤ x251 ∧ x251 ≤ (9 : Int32) := by rw [ex251]; exact wg_at (ml_wg hI o_v0 ea1) 3 rfl gy_x251 ea250
          refine i_X11_tries_53 (fun (y0 : Nat) (y1 : Int32) (y2 : Int32) (y3 : Int32) (y4 : Int32) (y5 : Int32) (y6 : Int32) (y7 : Int32) (Z : HS) => ((2147483647 : Int32).toInt - y7.toInt).toNat) (fun (y0 : Nat) (y1 : Int32) (y2 : Int32) (y3 : Int32) (y4 : Int32) (y5 : Int32) (y6 : Int32) (y7 : Int32) (Z : HS) => (IV Z) ∧ (Gr S222 Z) ∧ (FRI [] [] S222 Z) ∧ (v0 = y0) ∧ (v1 = y1) ∧ (v2 = y2) ∧ (v3 = y3) ∧ (v4 = y4) ∧ (w17 = y5) ∧ (w237 = y6) ∧ (SBD Z v0 v4 v3 v2) ∧ (1 ≤ y7)) ?_ _ _ _ _ _ _ _ _ _ ⟨hI, (gr_rf _), (fri_rf _ _ _), rfl, rfl, rfl, rfl, rfl, rfl, rfl, hS, (qw160 h0 i1u3 r_x21 c22 i1u221 c240 c243 g_x245 r_kv246 gl_x245 c248 g_x251)⟩
          intro w256 w258 w260 w262 w264 w266 w268 w270 S253 X271 ⟨hI, gL254, fL255, q257, q259, q261, q263, q265, q267, q269, hS, i1u252⟩ ih272
          subst q257
          subst q259
          subst q261
          subst q263
          subst q265
          subst q267
          subst q269
          have l_a244 := (gr_len gL254 o_a244).trans l_a244
          have l_a250 := (gr_len gL254 o_a250).trans l_a250
          have d_kv2 := d_kv2.trans (fri_at fL255 (by decide) (by decide) o_a1).symm
          have d_x21 := d_x21.trans (fri_at fL255 (by decide) (by decide) o_a1).symm
          have d_kv246 := d_kv246.trans (fri_at fL255 (by decide) (by decide) o_a1).symm
          have ea1 := (frr_at fL255 (by decide) (by decide) o_v0).trans ea1
          have ea244 := (frr_at fL255 (by decide) (by decide) o_a1).trans ea244
          have ea250 := (frr_at fL255 (by decide) (by decide) o_a1).trans ea250
          have f0 := fri_tr (S := S222) g0 f0 fL255 (by decide) (by decide)
          have fL6 := fri_tr (S := S222) gL5 fL6 fL255 (by decide) (by decide)
          have fL224 := fri_tr (S := S222) gL223 fL224 fL255 (by decide) (by decide)
          have o_a1 := gr_ob gL254 o_a1
          have o_a244 := gr_ob gL254 o_a244
          have o_a250 := gr_ob gL254 o_a250
          have o_v0 := gr_ob gL254 o_v0
          have g0 := gr_tr (T := S222) g0 gL254
          have gL5 := gr_tr (T := S222) gL5 gL254
          have gL223 := gr_tr (T := S222) gL223 gL254
          refine u_X11_tries_53 ?_
          refine ⟨o_v0, ?_⟩
          refine ⟨a1, ea1, ?_⟩
          refine ⟨o_a1, ?_⟩
          obtain ⟨a274, ea274, o_a274, l_a274⟩ := shl 47 rfl hI o_a1
          refine ⟨a274, ea274, ?_⟩
          refine ⟨o_a274, ?_⟩
          refine ⟨(vin l_a274 (m := 4) (by decide) (qw158 h0 r_kv2 hwi1 i1u3 r_x21 c22 i1u221 c240 c243 g_x245 r_kv246 gl_x245 c248)), ?_⟩
          intro x275 ex275
          have gy_x275 : 0 ≤ v1 ∧ v1 < fI S253 a1 4 := by rw [← d_kv2]; exact (qw159 h0 r_kv2 hwi1 i1u3 r_x21 c22 i1u221 c240 c243 g_x245 r_kv246 gl_x245 c248)
          have g_x275 : (0 : Int32) ≤ x275 ∧ x275 ≤ (9 : Int32) := by rw [ex275]; exact wg_at (ml_wg hI o_v0 ea1) 4 rfl gy_x275 ea274
          refine ⟨fun c276 => ?_, fun c276 => ?_⟩
          · refine u_X11_tries_146 ?_
            intro x277 ex277
            exact ih239 _ _ _ _ _ _ _ _ ⟨hI, gL223, fL224, rfl, rfl, rfl, rfl, rfl, rfl, hS, (qw161 h0 i1u3 r_x21 c22 i1u221 c240 c243 g_x245 r_kv246 gl_x245 c248 i1u252 g_x275 c276 ex277)⟩ (mu_up (qw162 h0 i1u3 r_x21 c22 i1u221 c240 c243 g_x245 r_kv246 gl_x245 c248 i1u252 g_x275 c276 ex277) (qw163 h0 i1u3 r_x21 c22 i1u221 c240 c243 g_x245 r_kv246 gl_x245 c248 i1u252 g_x275 c276 ex277))
          · refine ⟨a1, ea1, ?_⟩
            refine ⟨o_a1, ?_⟩
            refine u_X10_minutes ?_
            refine u_X10_minutes_0 ?_
            refine ⟨o_a1, ?_⟩
            obtain ⟨a279, ea279, o_a279, l_a279⟩ := shl 38 rfl hI o_a1
            refine ⟨a279, ea279, ?_⟩
            refine ⟨o_a279, ?_⟩
            refine ⟨(vin l_a279 (m := 12) (by decide) (qw164 h0 i1u3 r_x21 c22 i1u221 c240 c243 g_x245 r_kv246 gl_x245 c248 i1u252 g_x275 c276)), ?_⟩
            intro x280 ex280
            have gy_x280 : 0 ≤ w17 ∧ w17 < fI S253 a1 3 := by rw [← d_x21]; exact (qw165 h0 i1u3 r_x21 c22 i1u221 c240 c243 g_x245 r_kv246 gl_x245 c248 i1u252 g_x275 c276)
            have g_x280 : (1 : Int32) ≤ x280 ∧ x280 ≤ (60 : Int32) := by rw [ex280]; exact wg_at (ml_wg hI o_v0 ea1) 2 rfl gy_x280 ea279
            refine ⟨(qw166 h0 i1u3 r_x21 c22 i1u221 c240 c243 g_x245 r_kv246 gl_x245 c248 i1u252 g_x275 c276), ?_⟩
            intro x281 ex281
            have dv_x281 : 0 ≤ x281 ∧ x281 ≤ ((x280 + w270) - (1 : Int32)) := by rw [ex281]; exact dv0 (qw167 h0 i1u3 r_x21 c22 i1u221 c240 c243 g_x245 r_kv246 gl_x245 c248 i1u252 g_x275 c276 g_x280) (i32pos (qw168 h0 i1u3 r_x21 c22 i1u221 c240 c243 g_x245 r_kv246 gl_x245 c248 i1u252 g_x275 c276))
            have dw_x281 : (1 : Int32) ≤ x281 := by rw [ex281]; exact dv1 (qw169 h0 i1u3 r_x21 c22 i1u221 c240 c243 g_x245 r_kv246 gl_x245 c248 i1u252 g_x275 c276) (qw170 h0 i1u3 r_x21 c22 i1u221 c240 c243 g_x245 r_kv246 gl_x245 c248 i1u252 g_x275 c276 g_x280)
            intro _
            intro x283 ex283
            refine ⟨fun c284 => ?_, fun c284 => ?_⟩
            · refine u_X11_tries_140 ?_
              intro x285 ex285
              exact ih272 _ _ _ _ _ _ _ _ _ ⟨hI, gL254, fL255, rfl, rfl, rfl, rfl, rfl, rfl, rfl, hS, (qw171 h0 h1 h2 h3 i1u3 r_x21 c22 i1u221 c240 c243 g_x245 r_kv246 gl_x245 c248 i1u252 g_x275 c276 g_x280 dv_x281 dw_x281 ex283 c284 ex285)⟩ (mu_up (qw172 h0 h1 h2 h3 i1u3 r_x21 c22 i1u221 c240 c243 g_x245 r_kv246 gl_x245 c248 i1u252 g_x275 c276 g_x280 dv_x281 dw_x281 ex283 c284 ex285) (qw173 h0 h1 h2 h3 i1u3 r_x21 c22 i1u221 c240 c243 g_x245 r_kv246 gl_x245 c248 i1u252 g_x275 c276 g_x280 dv_x281 dw_x281 ex283 c284 ex285))
            · refine u_X11_spotOf ?_
              refine u_X11_spotOf_0 ?_
              intro _
              refine ⟨a1, ea1, ?_⟩
              refine ⟨o_a1, ?_⟩
              refine u_X10_ends ?_
              refine u_X10_ends_0 ?_
              refine ⟨fun c288 => ?_, fun c288 => ?_⟩
              · refine ⟨o_a1, ?_⟩
                obtain ⟨a289, ea289, o_a289, l_a289⟩ := shl 35 rfl hI o_a1
                refine ⟨a289, ea289, ?_⟩
                refine ⟨o_a289, ?_⟩
                refine ⟨(vin l_a289 (m := 12) (by decide) (qw174 h0 h1 h2 h3 i1u3 r_x21 c22 i1u221 c240 c243 g_x245 r_kv246 gl_x245 c248 i1u252 g_x275 c276 g_x280 dv_x281 dw_x281 ex283 c284 c288)), ?_⟩
                intro x290 ex290
                have gy_x290 : 0 ≤ w17 ∧ w17 < fI S253 a1 3 := by rw [← d_x21]; exact (qw175 h0 h1 h2 h3 i1u3 r_x21 c22 i1u221 c240 c243 g_x245 r_kv246 gl_x245 c248 i1u252 g_x275 c276 g_x280 dv_x281 dw_x281 ex283 c284 c288)
                have g_x290 : (0 : Int32) ≤ x290 ∧ x290 ≤ (7 : Int32) := by rw [ex290]; exact wg_at (ml_wg hI o_v0 ea1) 0 rfl gy_x290 ea289
                have gl_x290 : x290 < kv246 := by rw [ex290, d_kv246]; exact wg_lt (ml_wg hI o_v0 ea1) 0 rfl (by decide) gy_x290 ea289
                intro _
                refine u_X11_spotOf ?_
                refine u_X11_spotOf_0 ?_
                intro _
                refine m_X11_meanOf hI o_v0 (qw176 h0 h1 h2 h3 r_kv2 hwi1 i1u3 r_x21 c22 i1u221 c240 c243 g_x245 r_kv246 gl_x245 c248 i1u252 g_x275 c276 g_x280 dv_x281 dw_x281 ex283 c284 c288 g_x290 gl_x290) (qw177 h0 h1 h2 h3 i1u3 r_x21 c22 i1u221 c240 c243 g_x245 r_kv246 gl_x245 c248 i1u252 g_x275 c276 g_x280 dv_x281 dw_x281 ex283 c284 c288 g_x290 gl_x290) (qw178 h0 h1 h2 h3 i1u3 r_x21 c22 i1u221 c240 c243 g_x245 r_kv246 gl_x245 c248 i1u252 g_x275 c276 g_x280 dv_x281 dw_x281 ex283 c284 c288 g_x290 gl_x290) (qw179 h0 h1 h2 h3 i1u3 r_x21 c22 i1u221 c240 c243 g_x245 r_kv246 gl_x245 c248 i1u252 g_x275 c276 g_x280 dv_x281 dw_x281 ex283 c284 c288 g_x290 gl_x290) ⟨_, ea1⟩ (fun x293 S294 hI2 g295 p_x293 => ?_)
                subst p_x293
                intro _
                have gp297 : gs (fI S253 a1 3) (fI S253 a279) v4 v3 ((((100 : Int32) * w17) + ((10 : Int32) * w237)) + w270) := gs_go (roads := fI S253 a1 3) (L := fI S253 a279) (r := w17) (d := w237) (v := w270) (u := x281) (by rw [← d_x21]; exact (qw180 h0 h1 h2 h3 i1u3 r_x21 c22 i1u221 c240 c243 g_x245 r_kv246 gl_x245 c248 i1u252 g_x275 c276 g_x280 dv_x281 dw_x281 ex283 c284 c288 g_x290 gl_x290)) (qw181 h0 h1 h2 h3 i1u3 r_x21 c22 i1u221 c240 c243 g_x245 r_kv246 gl_x245 c248 i1u252 g_x275 c276 g_x280 dv_x281 dw_x281 ex283 c284 c288 g_x290 gl_x290) (qw182 h0 h1 h2 h3 i1u3 r_x21 c22 i1u221 c240 c243 g_x245 r_kv246 gl_x245 c248 i1u252 g_x275 c276 g_x280 dv_x281 dw_x281 ex283 c284 c288 g_x290 gl_x290) rfl (by rw [ex281, ex280]) (qw183 h0 h1 h2 h3 i1u3 r_x21 c22 i1u221 c240 c243 g_x245 r_kv246 gl_x245 c248 i1u252 g_x275 c276 g_x280 dv_x281 dw_x281 ex283 c284 c288 g_x290 gl_x290)
                have hIo := hI
                have o0_v0 := o_v0
                have ew0 := ea1
                have ec0 := ea279
                refine m_X11_takes hI o_v0 (sp_rng (qw184 h0 h1 h2 h3 i1u3 r_x21 c22 i1u221 c240 c243 g_x245 r_kv246 gl_x245 c248 i1u252 g_x275 c276 g_x280 dv_x281 dw_x281 ex283 c284 c288 g_x290 gl_x290) (qw185 h0 h1 h2 h3 i1u3 r_x21 c22 i1u221 c240 c243 g_x245 r_kv246 gl_x245 c248 i1u252 g_x275 c276 g_x280 dv_x281 dw_x281 ex283 c284 c288 g_x290 gl_x290)) (sp_rng (qw187 h0 h1 h2 h3 i1u3 r_x21 c22 i1u221 c240 c243 g_x245 r_kv246 gl_x245 c248 i1u252 g_x275 c276 g_x280 dv_x281 dw_x281 ex283 c284 c288 g_x290 gl_x290) (qw188 h0 h1 h2 h3 i1u3 r_x21 c22 i1u221 c240 c243 g_x245 r_kv246 gl_x245 c248 i1u252 g_x275 c276 g_x280 dv_x281 dw_x281 ex283 c284 c288 g_x290 gl_x290)) (fun S299 hJ g300 fc301 p_S299 => ?_)
                have hI := hJ
                have l_a244 := (gr_len g300 o_a244).trans l_a244
                have l_a250 := (gr_len g300 o_a250).trans l_a250
                have l_a274 := (gr_len g300 o_a274).trans l_a274
                have l_a279 := (gr_len g300 o_a279).trans l_a279
                have l_a289 := (gr_len g300 o_a289).trans l_a289
                have d_kv2 := d_kv2.trans (fri_at fc301 (by decide) (by decide) o_a1).symm
                have d_x21 := d_x21.trans (fri_at fc301 (by decide) (by decide) o_a1).symm
                have d_kv246 := d_kv246.trans (fri_at fc301 (by decide) (by decide) o_a1).symm
                have ea1 := (frr_at fc301 (by decide) (by decide) o_v0).trans ea1
                have ea244 := (frr_at fc301 (by decide) (by decide) o_a1).trans ea244
                have ea250 := (frr_at fc301 (by decide) (by decide) o_a1).trans ea250
                have ea274 := (frr_at fc301 (by decide) (by decide) o_a1).trans ea274
                have ea279 := (frr_at fc301 (by decide) (by decide) o_a1).trans ea279
                have ea289 := (frr_at fc301 (by decide) (by decide) o_a1).trans ea289
                have f0 := fri_tr (S := S253) g0 f0 fc301 (by decide) (by decide)
                have fL6 := fri_tr (S := S253) gL5 fL6 fc301 (by decide) (by decide)
                have fL224 := fri_tr (S := S253) gL223 fL224 fc301 (by decide) (by decide)
                have fL255 := fri_tr (S := S253) gL254 fL255 fc301 (by decide) (by decide)
                have o_a1 := gr_ob g300 o_a1
                have o_a244 := gr_ob g300 o_a244
                have o_a250 := gr_ob g300 o_a250
                have o_a274 := gr_ob g300 o_a274
                have o_a279 := gr_ob g300 o_a279
                have o_a289 := gr_ob g300 o_a289
                have o_v0 := gr_ob g300 o_v0
                have g0 := gr_tr (T := S253) g0 g300
                have gL5 := gr_tr (T := S253) gL5 g300
                have gL223 := gr_tr (T := S253) gL223 g300
                have gL254 := gr_tr (T := S253) gL254 g300
                intro _
                have hS := sb_tk hIo o0_v0 fc301 g300 (by decide) p_S299 rfl (qw184 h0 h1 h2 h3 i1u3 r_x21 c22 i1u221 c240 c243 g_x245 r_kv246 gl_x245 c248 i1u252 g_x275 c276 g_x280 dv_x281 dw_x281 ex283 c284 c288 g_x290 gl_x290) (qw185 h0 h1 h2 h3 i1u3 r_x21 c22 i1u221 c240 c243 g_x245 r_kv246 gl_x245 c248 i1u252 g_x275 c276 g_x280 dv_x281 dw_x281 ex283 c284 c288 g_x290 gl_x290) (qw186 h0 h1 h2 h3 i1u3 r_x21 c22 i1u221 c240 c243 g_x245 r_kv246 gl_x245 c248 i1u252 g_x275 c276 g_x280 dv_x281 dw_x281 ex283 c284 c288 g_x290 gl_x290) ew0 ec0 gp297 hS
                refine u_X11_tries_140 ?_
                intro x302 ex302
                exact ih272 _ _ _ _ _ _ _ _ _ ⟨hI, gL254, fL255, rfl, rfl, rfl, rfl, rfl, rfl, rfl, hS, (qw189 h0 h1 h2 h3 i1u3 r_x21 c22 i1u221 c240 c243 g_x245 r_kv246 gl_x245 c248 i1u252 g_x275 c276 g_x280 dv_x281 dw_x281 ex283 c284 c288 g_x290 gl_x290 ex302)⟩ (mu_up (qw190 h0 h1 h2 h3 i1u3 r_x21 c22 i1u221 c240 c243 g_x245 r_kv246 gl_x245 c248 i1u252 g_x275 c276 g_x280 dv_x281 dw_x281 ex283 c284 c288 g_x290 gl_x290 ex302) (qw191 h0 h1 h2 h3 i1u3 r_x21 c22 i1u221 c240 c243 g_x245 r_kv246 gl_x245 c248 i1u252 g_x275 c276 g_x280 dv_x281 dw_x281 ex283 c284 c288 g_x290 gl_x290 ex302))
              · refine ⟨o_a1, ?_⟩
                refine ⟨a244, ea244, ?_⟩
                refine ⟨o_a244, ?_⟩
                refine ⟨(vin l_a244 (m := 12) (by decide) (qw192 h0 h1 h2 h3 i1u3 r_x21 c22 i1u221 c240 c243 g_x245 r_kv246 gl_x245 c248 i1u252 g_x275 c276 g_x280 dv_x281 dw_x281 ex283 c284 c288)), ?_⟩
                intro x304 ex304
                have gy_x304 : 0 ≤ w17 ∧ w17 < fI S253 a1 3 := by rw [← d_x21]; exact (qw193 h0 h1 h2 h3 i1u3 r_x21 c22 i1u221 c240 c243 g_x245 r_kv246 gl_x245 c248 i1u252 g_x275 c276 g_x280 dv_x281 dw_x281 ex283 c284 c288)
                have g_x304 : (0 : Int32) ≤ x304 ∧ x304 ≤ (7 : Int32) := by rw [ex304]; exact wg_at (ml_wg hI o_v0 ea1) 1 rfl gy_x304 ea244
                have gl_x304 : x304 < kv246 := by rw [ex304, d_kv246]; exact wg_lt (ml_wg hI o_v0 ea1) 1 rfl (by decide) gy_x304 ea244
                intro _
                refine u_X11_spotOf ?_
                refine u_X11_spotOf_0 ?_
                intro _
                refine m_X11_meanOf hI o_v0 (qw194 h0 h1 h2 h3 r_kv2 hwi1 i1u3 r_x21 c22 i1u221 c240 c243 g_x245 r_kv246 gl_x245 c248 i1u252 g_x275 c276 g_x280 dv_x281 dw_x281 ex283 c284 c288 g_x304 gl_x304) (qw195 h0 h1 h2 h3 i1u3 r_x21 c22 i1u221 c240 c243 g_x245 r_kv246 gl_x245 c248 i1u252 g_x275 c276 g_x280 dv_x281 dw_x281 ex283 c284 c288 g_x304 gl_x304) (qw196 h0 h1 h2 h3 i1u3 r_x21 c22 i1u221 c240 c243 g_x245 r_kv246 gl_x245 c248 i1u252 g_x275 c276 g_x280 dv_x281 dw_x281 ex283 c284 c288 g_x304 gl_x304) (qw197 h0 h1 h2 h3 i1u3 r_x21 c22 i1u221 c240 c243 g_x245 r_kv246 gl_x245 c248 i1u252 g_x275 c276 g_x280 dv_x281 dw_x281 ex283 c284 c288 g_x304 gl_x304) ⟨_, ea1⟩ (fun x307 S308 hI2 g309 p_x307 => ?_)
                subst p_x307
                intro _
                have gp311 : gs (fI S253 a1 3) (fI S253 a279) v4 v3 ((((100 : Int32) * w17) + ((10 : Int32) * w237)) + w270) := gs_go (roads := fI S253 a1 3) (L := fI S253 a279) (r := w17) (d := w237) (v := w270) (u := x281) (by rw [← d_x21]; exact (qw198 h0 h1 h2 h3 i1u3 r_x21 c22 i1u221 c240 c243 g_x245 r_kv246 gl_x245 c248 i1u252 g_x275 c276 g_x280 dv_x281 dw_x281 ex283 c284 c288 g_x304 gl_x304)) (qw199 h0 h1 h2 h3 i1u3 r_x21 c22 i1u221 c240 c243 g_x245 r_kv246 gl_x245 c248 i1u252 g_x275 c276 g_x280 dv_x281 dw_x281 ex283 c284 c288 g_x304 gl_x304) (qw200 h0 h1 h2 h3 i1u3 r_x21 c22 i1u221 c240 c243 g_x245 r_kv246 gl_x245 c248 i1u252 g_x275 c276 g_x280 dv_x281 dw_x281 ex283 c284 c288 g_x304 gl_x304) rfl (by rw [ex281, ex280]) (qw201 h0 h1 h2 h3 i1u3 r_x21 c22 i1u221 c240 c243 g_x245 r_kv246 gl_x245 c248 i1u252 g_x275 c276 g_x280 dv_x281 dw_x281 ex283 c284 c288 g_x304 gl_x304)
                have hIo := hI
                have o0_v0 := o_v0
                have ew0 := ea1
                have ec0 := ea279
                refine m_X11_takes hI o_v0 (sp_rng (qw202 h0 h1 h2 h3 i1u3 r_x21 c22 i1u221 c240 c243 g_x245 r_kv246 gl_x245 c248 i1u252 g_x275 c276 g_x280 dv_x281 dw_x281 ex283 c284 c288 g_x304 gl_x304) (qw203 h0 h1 h2 h3 i1u3 r_x21 c22 i1u221 c240 c243 g_x245 r_kv246 gl_x245 c248 i1u252 g_x275 c276 g_x280 dv_x281 dw_x281 ex283 c284 c288 g_x304 gl_x304)) (sp_rng (qw205 h0 h1 h2 h3 i1u3 r_x21 c22 i1u221 c240 c243 g_x245 r_kv246 gl_x245 c248 i1u252 g_x275 c276 g_x280 dv_x281 dw_x281 ex283 c284 c288 g_x304 gl_x304) (qw206 h0 h1 h2 h3 i1u3 r_x21 c22 i1u221 c240 c243 g_x245 r_kv246 gl_x245 c248 i1u252 g_x275 c276 g_x280 dv_x281 dw_x281 ex283 c284 c288 g_x304 gl_x304)) (fun S313 hJ g314 fc315 p_S313 => ?_)
                have hI := hJ
                have l_a244 := (gr_len g314 o_a244).trans l_a244
                have l_a250 := (gr_len g314 o_a250).trans l_a250
                have l_a274 := (gr_len g314 o_a274).trans l_a274
                have l_a279 := (gr_len g314 o_a279).trans l_a279
                have d_kv2 := d_kv2.trans (fri_at fc315 (by decide) (by decide) o_a1).symm
                have d_x21 := d_x21.trans (fri_at fc315 (by decide) (by decide) o_a1).symm
                have d_kv246 := d_kv246.trans (fri_at fc315 (by decide) (by decide) o_a1).symm
                have ea1 := (frr_at fc315 (by decide) (by decide) o_v0).trans ea1
                have ea244 := (frr_at fc315 (by decide) (by decide) o_a1).trans ea244
                have ea250 := (frr_at fc315 (by decide) (by decide) o_a1).trans ea250
                have ea274 := (frr_at fc315 (by decide) (by decide) o_a1).trans ea274
                have ea279 := (frr_at fc315 (by decide) (by decide) o_a1).trans ea279
                have f0 := fri_tr (S := S253) g0 f0 fc315 (by decide) (by decide)
                have fL6 := fri_tr (S := S253) gL5 fL6 fc315 (by decide) (by decide)
                have fL224 := fri_tr (S := S253) gL223 fL224 fc315 (by decide) (by decide)
                have fL255 := fri_tr (S := S253) gL254 fL255 fc315 (by decide) (by decide)
                have o_a1 := gr_ob g314 o_a1
                have o_a244 := gr_ob g314 o_a244
                have o_a250 := gr_ob g314 o_a250
                have o_a274 := gr_ob g314 o_a274
                have o_a279 := gr_ob g314 o_a279
                have o_v0 := gr_ob g314 o_v0
                have g0 := gr_tr (T := S253) g0 g314
                have gL5 := gr_tr (T := S253) gL5 g314
                have gL223 := gr_tr (T := S253) gL223 g314
                have gL254 := gr_tr (T := S253) gL254 g314
                intro _
                have hS := sb_tk hIo o0_v0 fc315 g314 (by decide) p_S313 rfl (qw202 h0 h1 h2 h3 i1u3 r_x21 c22 i1u221 c240 c243 g_x245 r_kv246 gl_x245 c248 i1u252 g_x275 c276 g_x280 dv_x281 dw_x281 ex283 c284 c288 g_x304 gl_x304) (qw203 h0 h1 h2 h3 i1u3 r_x21 c22 i1u221 c240 c243 g_x245 r_kv246 gl_x245 c248 i1u252 g_x275 c276 g_x280 dv_x281 dw_x281 ex283 c284 c288 g_x304 gl_x304) (qw204 h0 h1 h2 h3 i1u3 r_x21 c22 i1u221 c240 c243 g_x245 r_kv246 gl_x245 c248 i1u252 g_x275 c276 g_x280 dv_x281 dw_x281 ex283 c284 c288 g_x304 gl_x304) ew0 ec0 gp311 hS
                refine u_X11_tries_140 ?_
                intro x316 ex316
                exact ih272 _ _ _ _ _ _ _ _ _ ⟨hI, gL254, fL255, rfl, rfl, rfl, rfl, rfl, rfl, rfl, hS, (qw207 h0 h1 h2 h3 i1u3 r_x21 c22 i1u221 c240 c243 g_x245 r_kv246 gl_x245 c248 i1u252 g_x275 c276 g_x280 dv_x281 dw_x281 ex283 c284 c288 g_x304 gl_x304 ex316)⟩ (mu_up (qw208 h0 h1 h2 h3 i1u3 r_x21 c22 i1u221 c240 c243 g_x245 r_kv246 gl_x245 c248 i1u252 g_x275 c276 g_x280 dv_x281 dw_x281 ex283 c284 c288 g_x304 gl_x304 ex316) (qw209 h0 h1 h2 h3 i1u3 r_x21 c22 i1u221 c240 c243 g_x245 r_kv246 gl_x245 c248 i1u252 g_x275 c276 g_x280 dv_x281 dw_x281 ex283 c284 c288 g_x304 gl_x304 ex316))
        · refine u_X11_tries_146 ?_
          intro x317 ex317
          exact ih239 _ _ _ _ _ _ _ _ ⟨hI, gL223, fL224, rfl, rfl, rfl, rfl, rfl, rfl, hS, (qw210 h0 i1u3 r_x21 c22 i1u221 c240 c243 g_x245 r_kv246 gl_x245 c248 ex317)⟩ (mu_up (qw211 h0 i1u3 r_x21 c22 i1u221 c240 c243 g_x245 r_kv246 gl_x245 c248 ex317) (qw212 h0 i1u3 r_x21 c22 i1u221 c240 c243 g_x245 r_kv246 gl_x245 c248 ex317))
      · refine ⟨o_a1, ?_⟩
        obtain ⟨a318, ea318, o_a318, l_a318⟩ := shl 35 rfl hI o_a1
        refine ⟨a318, ea318, ?_⟩
        refine ⟨o_a318, ?_⟩
        refine ⟨(vin l_a318 (m := 12) (by decide) (qw213 i1u3 r_x21 c22 i1u221 c240 c243)), ?_⟩
        intro x319 ex319
        have gy_x319 : 0 ≤ w17 ∧ w17 < fI S222 a1 3 := by rw [← d_x21]; exact (qw214 i1u3 r_x21 c22 i1u221 c240 c243)
        have g_x319 : (0 : Int32) ≤ x319 ∧ x319 ≤ (7 : Int32) := by rw [ex319]; exact wg_at (ml_wg hI o_v0 ea1) 0 rfl gy_x319 ea318
        obtain ⟨kv320, d_kv320⟩ : ∃ z : Int32, z = fI S222 a1 2 := ⟨_, rfl⟩
        have r_kv320 : (0 : Int32) ≤ kv320 ∧ kv320 ≤ (8 : Int32) := by rw [d_kv320]; exact nu 18 rfl hI o_a1
        have gl_x319 : x319 < kv320 := by rw [ex319, d_kv320]; exact wg_lt (ml_wg hI o_v0 ea1) 0 rfl (by decide) gy_x319 ea318
        intro _
        refine ⟨fun c322 => ?_, fun c322 => ?_⟩
        · refine ⟨a1, ea1, ?_⟩
          refine ⟨o_a1, ?_⟩
          obtain ⟨a324, ea324, o_a324, l_a324⟩ := shl 46 rfl hI o_a1
          refine ⟨a324, ea324, ?_⟩
          refine ⟨o_a324, ?_⟩
          refine ⟨(vin l_a324 (m := 4) (by decide) (qw215 h0 r_kv2 hwi1 i1u3 r_x21 c22 i1u221 c240 c243 g_x319 r_kv320 gl_x319 c322)), ?_⟩
          intro x325 ex325
          have gy_x325 : 0 ≤ v1 ∧ v1 < fI S222 a1 4 := by rw [← d_kv2]; exact (qw216 h0 r_kv2 hwi1 i1u3 r_x21 c22 i1u221 c240 c243 g_x319 r_kv320 gl_x319 c322)
          have g_x325 : (1 : Int32) ≤ x325 ∧ x325 ≤ (9 : Int32) := by rw [ex325]; exact wg_at (ml_wg hI o_v0 ea1) 3 rfl gy_x325 ea324
          refine i_X11_tries_53 (fun (y0 : Nat) (y1 : Int32) (y2 : Int32) (y3 : Int32) (y4 : Int32) (y5 : Int32) (y6 : Int32) (y7 : Int32) (Z : HS) => ((2147483647 : Int32).toInt - y7.toInt).toNat) (fun (y0 : Nat) (y1 : Int32) (y2 : Int32) (y3 : Int32) (y4 : Int32) (y5 : Int32) (y6 : Int32) (y7 : Int32) (Z : HS) => (IV Z) ∧ (Gr S222 Z) ∧ (FRI [] [] S222 Z) ∧ (v0 = y0) ∧ (v1 = y1) ∧ (v2 = y2) ∧ (v3 = y3) ∧ (v4 = y4) ∧ (w17 = y5) ∧ (w237 = y6) ∧ (SBD Z v0 v4 v3 v2) ∧ (1 ≤ y7)) ?_ _ _ _ _ _ _ _ _ _ ⟨hI, (gr_rf _), (fri_rf _ _ _), rfl, rfl, rfl, rfl, rfl, rfl, rfl, hS, (qw217 h0 i1u3 r_x21 c22 i1u221 c240 c243 g_x319 r_kv320 gl_x319 c322 g_x325)⟩
          intro w330 w332 w334 w336 w338 w340 w342 w344 S327 X345 ⟨hI, gL328, fL329, q331, q333, q335, q337, q339, q341, q343, hS, i1u326⟩ ih346
          subst q331
          subst q333
          subst q335
          subst q337
          subst q339
          subst q341
          subst q343
          have l_a318 := (gr_len gL328 o_a318).trans l_a318
          have l_a324 := (gr_len gL328 o_a324).trans l_a324
          have d_kv2 := d_kv2.trans (fri_at fL329 (by decide) (by decide) o_a1).symm
          have d_x21 := d_x21.trans (fri_at fL329 (by decide) (by decide) o_a1).symm
          have d_kv320 := d_kv320.trans (fri_at fL329 (by decide) (by decide) o_a1).symm
          have ea1 := (frr_at fL329 (by decide) (by decide) o_v0).trans ea1
          have ea318 := (frr_at fL329 (by decide) (by decide) o_a1).trans ea318
          have ea324 := (frr_at fL329 (by decide) (by decide) o_a1).trans ea324
          have f0 := fri_tr (S := S222) g0 f0 fL329 (by decide) (by decide)
          have fL6 := fri_tr (S := S222) gL5 fL6 fL329 (by decide) (by decide)
          have fL224 := fri_tr (S := S222) gL223 fL224 fL329 (by decide) (by decide)
          have o_a1 := gr_ob gL328 o_a1
          have o_a318 := gr_ob gL328 o_a318
          have o_a324 := gr_ob gL328 o_a324
          have o_v0 := gr_ob gL328 o_v0
          have g0 := gr_tr (T := S222) g0 gL328
          have gL5 := gr_tr (T := S222) gL5 gL328
          have gL223 := gr_tr (T := S222) gL223 gL328
          refine u_X11_tries_53 ?_
          refine ⟨o_v0, ?_⟩
          refine ⟨a1, ea1, ?_⟩
          refine ⟨o_a1, ?_⟩
          obtain ⟨a348, ea348, o_a348, l_a348⟩ := shl 47 rfl hI o_a1
          refine ⟨a348, ea348, ?_⟩
          refine ⟨o_a348, ?_⟩
          refine ⟨(vin l_a348 (m := 4) (by decide) (qw215 h0 r_kv2 hwi1 i1u3 r_x21 c22 i1u221 c240 c243 g_x319 r_kv320 gl_x319 c322)), ?_⟩
          intro x349 ex349
          have gy_x349 : 0 ≤ v1 ∧ v1 < fI S327 a1 4 := by rw [← d_kv2]; exact (qw216 h0 r_kv2 hwi1 i1u3 r_x21 c22 i1u221 c240 c243 g_x319 r_kv320 gl_x319 c322)
          have g_x349 : (0 : Int32) ≤ x349 ∧ x349 ≤ (9 : Int32) := by rw [ex349]; exact wg_at (ml_wg hI o_v0 ea1) 4 rfl gy_x349 ea348
          refine ⟨fun c350 => ?_, fun c350 => ?_⟩
          · refine u_X11_tries_146 ?_
            intro x351 ex351
            exact ih239 _ _ _ _ _ _ _ _ ⟨hI, gL223, fL224, rfl, rfl, rfl, rfl, rfl, rfl, hS, (qw218 h0 i1u3 r_x21 c22 i1u221 c240 c243 g_x319 r_kv320 gl_x319 c322 i1u326 g_x349 c350 ex351)⟩ (mu_up (qw219 h0 i1u3 r_x21 c22 i1u221 c240 c243 g_x319 r_kv320 gl_x319 c322 i1u326 g_x349 c350 ex351) (qw220 h0 i1u3 r_x21 c22 i1u221 c240 c243 g_x319 r_kv320 gl_x319 c322 i1u326 g_x349 c350 ex351))
          · refine ⟨a1, ea1, ?_⟩
            refine ⟨o_a1, ?_⟩
            refine u_X10_minutes ?_
            refine u_X10_minutes_0 ?_
            refine ⟨o_a1, ?_⟩
            obtain ⟨a353, ea353, o_a353, l_a353⟩ := shl 38 rfl hI o_a1
            refine ⟨a353, ea353, ?_⟩
            refine ⟨o_a353, ?_⟩
            refine ⟨(vin l_a353 (m := 12) (by decide) (qw221 h0 i1u3 r_x21 c22 i1u221 c240 c243 g_x319 r_kv320 gl_x319 c322 i1u326 g_x349 c350)), ?_⟩
            intro x354 ex354
            have gy_x354 : 0 ≤ w17 ∧ w17 < fI S327 a1 3 := by rw [← d_x21]; exact (qw222 h0 i1u3 r_x21 c22 i1u221 c240 c243 g_x319 r_kv320 gl_x319 c322 i1u326 g_x349 c350)
            have g_x354 : (1 : Int32) ≤ x354 ∧ x354 ≤ (60 : Int32) := by rw [ex354]; exact wg_at (ml_wg hI o_v0 ea1) 2 rfl gy_x354 ea353
            refine ⟨(qw223 h0 i1u3 r_x21 c22 i1u221 c240 c243 g_x319 r_kv320 gl_x319 c322 i1u326 g_x349 c350), ?_⟩
            intro x355 ex355
            have dv_x355 : 0 ≤ x355 ∧ x355 ≤ ((x354 + w344) - (1 : Int32)) := by rw [ex355]; exact dv0 (qw224 h0 i1u3 r_x21 c22 i1u221 c240 c243 g_x319 r_kv320 gl_x319 c322 i1u326 g_x349 c350 g_x354) (i32pos (qw225 h0 i1u3 r_x21 c22 i1u221 c240 c243 g_x319 r_kv320 gl_x319 c322 i1u326 g_x349 c350))
            have dw_x355 : (1 : Int32) ≤ x355 := by rw [ex355]; exact dv1 (qw226 h0 i1u3 r_x21 c22 i1u221 c240 c243 g_x319 r_kv320 gl_x319 c322 i1u326 g_x349 c350) (qw227 h0 i1u3 r_x21 c22 i1u221 c240 c243 g_x319 r_kv320 gl_x319 c322 i1u326 g_x349 c350 g_x354)
            intro _
            intro x357 ex357
            refine ⟨fun c358 => ?_, fun c358 => ?_⟩
            · refine u_X11_tries_140 ?_
              intro x359 ex359
              exact ih346 _ _ _ _ _ _ _ _ _ ⟨hI, gL328, fL329, rfl, rfl, rfl, rfl, rfl, rfl, rfl, hS, (qw228 h0 h1 h2 h3 i1u3 r_x21 c22 i1u221 c240 c243 g_x319 r_kv320 gl_x319 c322 i1u326 g_x349 c350 g_x354 dv_x355 dw_x355 ex357 c358 ex359)⟩ (mu_up (qw229 h0 h1 h2 h3 i1u3 r_x21 c22 i1u221 c240 c243 g_x319 r_kv320 gl_x319 c322 i1u326 g_x349 c350 g_x354 dv_x355 dw_x355 ex357 c358 ex359) (qw230 h0 h1 h2 h3 i1u3 r_x21 c22 i1u221 c240 c243 g_x319 r_kv320 gl_x319 c322 i1u326 g_x349 c350 g_x354 dv_x355 dw_x355 ex357 c358 ex359))
            · refine u_X11_spotOf ?_
              refine u_X11_spotOf_0 ?_
              intro _
              refine ⟨a1, ea1, ?_⟩
              refine ⟨o_a1, ?_⟩
              refine u_X10_ends ?_
              refine u_X10_ends_0 ?_
              refine ⟨fun c362 => ?_, fun c362 => ?_⟩
              · refine ⟨o_a1, ?_⟩
                refine ⟨a318, ea318, ?_⟩
                refine ⟨o_a318, ?_⟩
                refine ⟨(vin l_a318 (m := 12) (by decide) (qw231 h0 h1 h2 h3 i1u3 r_x21 c22 i1u221 c240 c243 g_x319 r_kv320 gl_x319 c322 i1u326 g_x349 c350 g_x354 dv_x355 dw_x355 ex357 c358 c362)), ?_⟩
                intro x364 ex364
                have gy_x364 : 0 ≤ w17 ∧ w17 < fI S327 a1 3 := by rw [← d_x21]; exact (qw232 h0 h1 h2 h3 i1u3 r_x21 c22 i1u221 c240 c243 g_x319 r_kv320 gl_x319 c322 i1u326 g_x349 c350 g_x354 dv_x355 dw_x355 ex357 c358 c362)
                have g_x364 : (0 : Int32) ≤ x364 ∧ x364 ≤ (7 : Int32) := by rw [ex364]; exact wg_at (ml_wg hI o_v0 ea1) 0 rfl gy_x364 ea318
                have gl_x364 : x364 < kv320 := by rw [ex364, d_kv320]; exact wg_lt (ml_wg hI o_v0 ea1) 0 rfl (by decide) gy_x364 ea318
                intro _
                refine u_X11_spotOf ?_
                refine u_X11_spotOf_0 ?_
                intro _
                refine m_X11_meanOf hI o_v0 (qw233 h0 h1 h2 h3 r_kv2 hwi1 i1u3 r_x21 c22 i1u221 c240 c243 g_x319 r_kv320 gl_x319 c322 i1u326 g_x349 c350 g_x354 dv_x355 dw_x355 ex357 c358 c362 g_x364 gl_x364) (qw234 h0 h1 h2 h3 i1u3 r_x21 c22 i1u221 c240 c243 g_x319 r_kv320 gl_x319 c322 i1u326 g_x349 c350 g_x354 dv_x355 dw_x355 ex357 c358 c362 g_x364 gl_x364) (qw235 h0 h1 h2 h3 i1u3 r_x21 c22 i1u221 c240 c243 g_x319 r_kv320 gl_x319 c322 i1u326 g_x349 c350 g_x354 dv_x355 dw_x355 ex357 c358 c362 g_x364 gl_x364) (qw236 h0 h1 h2 h3 i1u3 r_x21 c22 i1u221 c240 c243 g_x319 r_kv320 gl_x319 c322 i1u326 g_x349 c350 g_x354 dv_x355 dw_x355 ex357 c358 c362 g_x364 gl_x364) ⟨_, ea1⟩ (fun x367 S368 hI2 g369 p_x367 => ?_)
                subst p_x367
                intro _
                have gp371 : gs (fI S327 a1 3) (fI S327 a353) v4 v3 ((((100 : Int32) * w17) + ((10 : Int32) * w237)) + w344) := gs_go (roads := fI S327 a1 3) (L := fI S327 a353) (r := w17) (d := w237) (v := w344) (u := x355) (by rw [← d_x21]; exact (qw237 h0 h1 h2 h3 i1u3 r_x21 c22 i1u221 c240 c243 g_x319 r_kv320 gl_x319 c322 i1u326 g_x349 c350 g_x354 dv_x355 dw_x355 ex357 c358 c362 g_x364 gl_x364)) (qw238 h0 h1 h2 h3 i1u3 r_x21 c22 i1u221 c240 c243 g_x319 r_kv320 gl_x319 c322 i1u326 g_x349 c350 g_x354 dv_x355 dw_x355 ex357 c358 c362 g_x364 gl_x364) (qw239 h0 h1 h2 h3 i1u3 r_x21 c22 i1u221 c240 c243 g_x319 r_kv320 gl_x319 c322 i1u326 g_x349 c350 g_x354 dv_x355 dw_x355 ex357 c358 c362 g_x364 gl_x364) rfl (by rw [ex355, ex354]) (qw240 h0 h1 h2 h3 i1u3 r_x21 c22 i1u221 c240 c243 g_x319 r_kv320 gl_x319 c322 i1u326 g_x349 c350 g_x354 dv_x355 dw_x355 ex357 c358 c362 g_x364 gl_x364)
                have hIo := hI
                have o0_v0 := o_v0
                have ew0 := ea1
                have ec0 := ea353
                refine m_X11_takes hI o_v0 (sp_rng (qw241 h0 h1 h2 h3 i1u3 r_x21 c22 i1u221 c240 c243 g_x319 r_kv320 gl_x319 c322 i1u326 g_x349 c350 g_x354 dv_x355 dw_x355 ex357 c358 c362 g_x364 gl_x364) (qw242 h0 h1 h2 h3 i1u3 r_x21 c22 i1u221 c240 c243 g_x319 r_kv320 gl_x319 c322 i1u326 g_x349 c350 g_x354 dv_x355 dw_x355 ex357 c358 c362 g_x364 gl_x364)) (sp_rng (qw244 h0 h1 h2 h3 i1u3 r_x21 c22 i1u221 c240 c243 g_x319 r_kv320 gl_x319 c322 i1u326 g_x349 c350 g_x354 dv_x355 dw_x355 ex357 c358 c362 g_x364 gl_x364) (qw245 h0 h1 h2 h3 i1u3 r_x21 c22 i1u221 c240 c243 g_x319 r_kv320 gl_x319 c322 i1u326 g_x349 c350 g_x354 dv_x355 dw_x355 ex357 c358 c362 g_x364 gl_x364)) (fun S373 hJ g374 fc375 p_S373 => ?_)
                have hI := hJ
                have l_a318 := (gr_len g374 o_a318).trans l_a318
                have l_a324 := (gr_len g374 o_a324).trans l_a324
                have l_a348 := (gr_len g374 o_a348).trans l_a348
                have l_a353 := (gr_len g374 o_a353).trans l_a353
                have d_kv2 := d_kv2.trans (fri_at fc375 (by decide) (by decide) o_a1).symm
                have d_x21 := d_x21.trans (fri_at fc375 (by decide) (by decide) o_a1).symm
                have d_kv320 := d_kv320.trans (fri_at fc375 (by decide) (by decide) o_a1).symm
                have ea1 := (frr_at fc375 (by decide) (by decide) o_v0).trans ea1
                have ea318 := (frr_at fc375 (by decide) (by decide) o_a1).trans ea318
                have ea324 := (frr_at fc375 (by decide) (by decide) o_a1).trans ea324
                have ea348 := (frr_at fc375 (by decide) (by decide) o_a1).trans ea348
                have ea353 := (frr_at fc375 (by decide) (by decide) o_a1).trans ea353
                have f0 := fri_tr (S := S327) g0 f0 fc375 (by decide) (by decide)
                have fL6 := fri_tr (S := S327) gL5 fL6 fc375 (by decide) (by decide)
                have fL224 := fri_tr (S := S327) gL223 fL224 fc375 (by decide) (by decide)
                have fL329 := fri_tr (S := S327) gL328 fL329 fc375 (by decide) (by decide)
                have o_a1 := gr_ob g374 o_a1
                have o_a318 := gr_ob g374 o_a318
                have o_a324 := gr_ob g374 o_a324
                have o_a348 := gr_ob g374 o_a348
                have o_a353 := gr_ob g374 o_a353
                have o_v0 := gr_ob g374 o_v0
                have g0 := gr_tr (T := S327) g0 g374
                have gL5 := gr_tr (T := S327) gL5 g374
                have gL223 := gr_tr (T := S327) gL223 g374
                have gL328 := gr_tr (T := S327) gL328 g374
                intro _
                have hS := sb_tk hIo o0_v0 fc375 g374 (by decide) p_S373 rfl (qw241 h0 h1 h2 h3 i1u3 r_x21 c22 i1u221 c240 c243 g_x319 r_kv320 gl_x319 c322 i1u326 g_x349 c350 g_x354 dv_x355 dw_x355 ex357 c358 c362 g_x364 gl_x364) (qw242 h0 h1 h2 h3 i1u3 r_x21 c22 i1u221 c240 c243 g_x319 r_kv320 gl_x319 c322 i1u326 g_x349 c350 g_x354 dv_x355 dw_x355 ex357 c358 c362 g_x364 gl_x364) (qw243 h0 h1 h2 h3 i1u3 r_x21 c22 i1u221 c240 c243 g_x319 r_kv320 gl_x319 c322 i1u326 g_x349 c350 g_x354 dv_x355 dw_x355 ex357 c358 c362 g_x364 gl_x364) ew0 ec0 gp371 hS
                refine u_X11_tries_140 ?_
                intro x376 ex376
                exact ih346 _ _ _ _ _ _ _ _ _ ⟨hI, gL328, fL329, rfl, rfl, rfl, rfl, rfl, rfl, rfl, hS, (qw246 h0 h1 h2 h3 i1u3 r_x21 c22 i1u221 c240 c243 g_x319 r_kv320 gl_x319 c322 i1u326 g_x349 c350 g_x354 dv_x355 dw_x355 ex357 c358 c362 g_x364 gl_x364 ex376)⟩ (mu_up (qw247 h0 h1 h2 h3 i1u3 r_x21 c22 i1u221 c240 c243 g_x319 r_kv320 gl_x319 c322 i1u326 g_x349 c350 g_x354 dv_x355 dw_x355 ex357 c358 c362 g_x364 gl_x364 ex376) (qw248 h0 h1 h2 h3 i1u3 r_x21 c22 i1u221 c240 c243 g_x319 r_kv320 gl_x319 c322 i1u326 g_x349 c350 g_x354 dv_x355 dw_x355 ex357 c358 c362 g_x364 gl_x364 ex376))
              · refine ⟨o_a1, ?_⟩
                obtain ⟨a377, ea377, o_a377, l_a377⟩ := shl 36 rfl hI o_a1
                refine ⟨a377, ea377, ?_⟩
                refine ⟨o_a377, ?_⟩
                refine ⟨(vin l_a377 (m := 12) (by decide) (qw249 h0 h1 h2 h3 i1u3 r_x21 c22 i1u221 c240 c243 g_x319 r_kv320 gl_x319 c322 i1u326 g_x349 c350 g_x354 dv_x355 dw_x355 ex357 c358 c362)), ?_⟩
                intro x378 ex378
                have gy_x378 : 0 ≤ w17 ∧ w17 < fI S327 a1 3 := by rw [← d_x21]; exact (qw250 h0 h1 h2 h3 i1u3 r_x21 c22 i1u221 c240 c243 g_x319 r_kv320 gl_x319 c322 i1u326 g_x349 c350 g_x354 dv_x355 dw_x355 ex357 c358 c362)
                have g_x378 : (0 : Int32) ≤ x378 ∧ x378 ≤ (7 : Int32) := by rw [ex378]; exact wg_at (ml_wg hI o_v0 ea1) 1 rfl gy_x378 ea377
                have gl_x378 : x378 < kv320 := by rw [ex378, d_kv320]; exact wg_lt (ml_wg hI o_v0 ea1) 1 rfl (by decide) gy_x378 ea377
                intro _
                refine u_X11_spotOf ?_
                refine u_X11_spotOf_0 ?_
                intro _
                refine m_X11_meanOf hI o_v0 (qw251 h0 h1 h2 h3 r_kv2 hwi1 i1u3 r_x21 c22 i1u221 c240 c243 g_x319 r_kv320 gl_x319 c322 i1u326 g_x349 c350 g_x354 dv_x355 dw_x355 ex357 c358 c362 g_x378 gl_x378) (qw252 h0 h1 h2 h3 i1u3 r_x21 c22 i1u221 c240 c243 g_x319 r_kv320 gl_x319 c322 i1u326 g_x349 c350 g_x354 dv_x355 dw_x355 ex357 c358 c362 g_x378 gl_x378) (qw253 h0 h1 h2 h3 i1u3 r_x21 c22 i1u221 c240 c243 g_x319 r_kv320 gl_x319 c322 i1u326 g_x349 c350 g_x354 dv_x355 dw_x355 ex357 c358 c362 g_x378 gl_x378) (qw254 h0 h1 h2 h3 i1u3 r_x21 c22 i1u221 c240 c243 g_x319 r_kv320 gl_x319 c322 i1u326 g_x349 c350 g_x354 dv_x355 dw_x355 ex357 c358 c362 g_x378 gl_x378) ⟨_, ea1⟩ (fun x381 S382 hI2 g383 p_x381 => ?_)
                subst p_x381
                intro _
                have gp385 : gs (fI S327 a1 3) (fI S327 a353) v4 v3 ((((100 : Int32) * w17) + ((10 : Int32) * w237)) + w344) := gs_go (roads := fI S327 a1 3) (L := fI S327 a353) (r := w17) (d := w237) (v := w344) (u := x355) (by rw [← d_x21]; exact (qw255 h0 h1 h2 h3 i1u3 r_x21 c22 i1u221 c240 c243 g_x319 r_kv320 gl_x319 c322 i1u326 g_x349 c350 g_x354 dv_x355 dw_x355 ex357 c358 c362 g_x378 gl_x378)) (qw256 h0 h1 h2 h3 i1u3 r_x21 c22 i1u221 c240 c243 g_x319 r_kv320 gl_x319 c322 i1u326 g_x349 c350 g_x354 dv_x355 dw_x355 ex357 c358 c362 g_x378 gl_x378) (qw257 h0 h1 h2 h3 i1u3 r_x21 c22 i1u221 c240 c243 g_x319 r_kv320 gl_x319 c322 i1u326 g_x349 c350 g_x354 dv_x355 dw_x355 ex357 c358 c362 g_x378 gl_x378) rfl (by rw [ex355, ex354]) (qw258 h0 h1 h2 h3 i1u3 r_x21 c22 i1u221 c240 c243 g_x319 r_kv320 gl_x319 c322 i1u326 g_x349 c350 g_x354 dv_x355 dw_x355 ex357 c358 c362 g_x378 gl_x378)
                have hIo := hI
                have o0_v0 := o_v0
                have ew0 := ea1
                have ec0 := ea353
                refine m_X11_takes hI o_v0 (sp_rng (qw259 h0 h1 h2 h3 i1u3 r_x21 c22 i1u221 c240 c243 g_x319 r_kv320 gl_x319 c322 i1u326 g_x349 c350 g_x354 dv_x355 dw_x355 ex357 c358 c362 g_x378 gl_x378) (qw260 h0 h1 h2 h3 i1u3 r_x21 c22 i1u221 c240 c243 g_x319 r_kv320 gl_x319 c322 i1u326 g_x349 c350 g_x354 dv_x355 dw_x355 ex357 c358 c362 g_x378 gl_x378)) (sp_rng (qw262 h0 h1 h2 h3 i1u3 r_x21 c22 i1u221 c240 c243 g_x319 r_kv320 gl_x319 c322 i1u326 g_x349 c350 g_x354 dv_x355 dw_x355 ex357 c358 c362 g_x378 gl_x378) (qw263 h0 h1 h2 h3 i1u3 r_x21 c22 i1u221 c240 c243 g_x319 r_kv320 gl_x319 c322 i1u326 g_x349 c350 g_x354 dv_x355 dw_x355 ex357 c358 c362 g_x378 gl_x378)) (fun S387 hJ g388 fc389 p_S387 => ?_)
                have hI := hJ
                have l_a318 := (gr_len g388 o_a318).trans l_a318
                have l_a324 := (gr_len g388 o_a324).trans l_a324
                have l_a348 := (gr_len g388 o_a348).trans l_a348
                have l_a353 := (gr_len g388 o_a353).trans l_a353
                have l_a377 := (gr_len g388 o_a377).trans l_a377
                have d_kv2 := d_kv2.trans (fri_at fc389 (by decide) (by decide) o_a1).symm
                have d_x21 := d_x21.trans (fri_at fc389 (by decide) (by decide) o_a1).symm
                have d_kv320 := d_kv320.trans (fri_at fc389 (by decide) (by decide) o_a1).symm
                have ea1 := (frr_at fc389 (by decide) (by decide) o_v0).trans ea1
                have ea318 := (frr_at fc389 (by decide) (by decide) o_a1).trans ea318
                have ea324 := (frr_at fc389 (by decide) (by decide) o_a1).trans ea324
                have ea348 := (frr_at fc389 (by decide) (by decide) o_a1).trans ea348
                have ea353 := (frr_at fc389 (by decide) (by decide) o_a1).trans ea353
                have ea377 := (frr_at fc389 (by decide) (by decide) o_a1).trans ea377
                have f0 := fri_tr (S := S327) g0 f0 fc389 (by decide) (by decide)
                have fL6 := fri_tr (S := S327) gL5 fL6 fc389 (by decide) (by decide)
                have fL224 := fri_tr (S := S327) gL223 fL224 fc389 (by decide) (by decide)
                have fL329 := fri_tr (S := S327) gL328 fL329 fc389 (by decide) (by decide)
                have o_a1 := gr_ob g388 o_a1
                have o_a318 := gr_ob g388 o_a318
                have o_a324 := gr_ob g388 o_a324
                have o_a348 := gr_ob g388 o_a348
                have o_a353 := gr_ob g388 o_a353
                have o_a377 := gr_ob g388 o_a377
                have o_v0 := gr_ob g388 o_v0
                have g0 := gr_tr (T := S327) g0 g388
                have gL5 := gr_tr (T := S327) gL5 g388
                have gL223 := gr_tr (T := S327) gL223 g388
                have gL328 := gr_tr (T := S327) gL328 g388
                intro _
                have hS := sb_tk hIo o0_v0 fc389 g388 (by decide) p_S387 rfl (qw259 h0 h1 h2 h3 i1u3 r_x21 c22 i1u221 c240 c243 g_x319 r_kv320 gl_x319 c322 i1u326 g_x349 c350 g_x354 dv_x355 dw_x355 ex357 c358 c362 g_x378 gl_x378) (qw260 h0 h1 h2 h3 i1u3 r_x21 c22 i1u221 c240 c243 g_x319 r_kv320 gl_x319 c322 i1u326 g_x349 c350 g_x354 dv_x355 dw_x355 ex357 c358 c362 g_x378 gl_x378) (qw261 h0 h1 h2 h3 i1u3 r_x21 c22 i1u221 c240 c243 g_x319 r_kv320 gl_x319 c322 i1u326 g_x349 c350 g_x354 dv_x355 dw_x355 ex357 c358 c362 g_x378 gl_x378) ew0 ec0 gp385 hS
                refine u_X11_tries_140 ?_
                intro x390 ex390
                exact ih346 _ _ _ _ _ _ _ _ _ ⟨hI, gL328, fL329, rfl, rfl, rfl, rfl, rfl, rfl, rfl, hS, (qw264 h0 h1 h2 h3 i1u3 r_x21 c22 i1u221 c240 c243 g_x319 r_kv320 gl_x319 c322 i1u326 g_x349 c350 g_x354 dv_x355 dw_x355 ex357 c358 c362 g_x378 gl_x378 ex390)⟩ (mu_up (qw265 h0 h1 h2 h3 i1u3 r_x21 c22 i1u221 c240 c243 g_x319 r_kv320 gl_x319 c322 i1u326 g_x349 c350 g_x354 dv_x355 dw_x355 ex357 c358 c362 g_x378 gl_x378 ex390) (qw266 h0 h1 h2 h3 i1u3 r_x21 c22 i1u221 c240 c243 g_x319 r_kv320 gl_x319 c322 i1u326 g_x349 c350 g_x354 dv_x355 dw_x355 ex357 c358 c362 g_x378 gl_x378 ex390))
        · refine u_X11_tries_146 ?_
          intro x391 ex391
          exact ih239 _ _ _ _ _ _ _ _ ⟨hI, gL223, fL224, rfl, rfl, rfl, rfl, rfl, rfl, hS, (qw267 h0 i1u3 r_x21 c22 i1u221 c240 c243 g_x319 r_kv320 gl_x319 c322 ex391)⟩ (mu_up (qw268 h0 i1u3 r_x21 c22 i1u221 c240 c243 g_x319 r_kv320 gl_x319 c322 ex391) (qw269 h0 i1u3 r_x21 c22 i1u221 c240 c243 g_x319 r_kv320 gl_x319 c322 ex391))
