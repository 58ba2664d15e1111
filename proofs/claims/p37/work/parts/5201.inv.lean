set_option maxHeartbeats 4000000 in
set_option maxRecDepth 20000 in
theorem m_X6_shield {v0 : Nat} {Q : Int32 → HS → Prop} {S : HS} (hI : IV S) (o_v0 : ob S v0 6)     (hq : ∀ (r : Int32) (T : HS), IV T → Gr S T → (S = T) → Q r T) : P_X6_shield v0 Q S := by
  have g0 := gr_rf S
  refine u_X6_shield ?_
  refine u_X6_shield_0 ?_
  refine ⟨o_v0, ?_⟩
  intro x1 ex1
  have d_x1 := ex1
  refine ⟨fun c2 => ?_, fun c2 => ?_⟩
  · exact hq _ _ hI g0 rfl
  · intro x3 ex3
    have d_x3 := ex3
    exact hq _ _ hI g0 rfl
set_option maxHeartbeats 4000000 in
set_option maxRecDepth 20000 in
theorem m_X1_isForward {v0 : Nat} {v1 : Nat} {Q : Int32 → HS → Prop} {S : HS} (hI : IV S) (o_v0 : ob S v0 1) (o_v1 : ob S v1 6)     (hq : ∀ (r : Int32) (T : HS), IV T → Gr S T → bl r → (S = T) → Q r T) : P_X1_isForward v0 v1 Q S := by
  have g0 := gr_rf S
  refine u_X1_isForward ?_
  refine u_X1_isForward_0 ?_
  refine ⟨o_v0, ?_⟩
  obtain ⟨a1, ea1, o_a1, l_a1⟩ := shl 10 rfl hI o_v0
  refine ⟨a1, ea1, ?_⟩
  refine ⟨o_a1, ?_⟩
  refine ⟨(vin l_a1 (m := 5) (by decide) (q74)), ?_⟩
  intro x2 ex2
  refine ⟨o_v1, ?_⟩
  refine m_X6_shield hI o_v1 (fun x3 S4 hI2 g5 p_x3 => ?_)
  subst p_x3
  intro _
  intro x7 ex7
  have d_x7 := ex7
  intro x8 ex8
  intro x9 ex9
  refine ⟨a1, ea1, ?_⟩
  refine ⟨o_a1, ?_⟩
  refine ⟨(vin l_a1 (m := 5) (by decide) (q75)), ?_⟩
  intro x11 ex11
  refine m_X6_shield hI o_v1 (fun x12 S13 hI2 g14 p_x12 => ?_)
  subst p_x12
  intro _
  intro x16 ex16
  have d_x16 := ex16
  intro x17 ex17
  intro x18 ex18
  refine ⟨fun c19 => ?_, fun c19 => ?_⟩
  · exact hq _ _ hI g0 (Or.inl rfl) rfl
  · exact hq _ _ hI g0 (Or.inr rfl) rfl
set_option maxHeartbeats 4000000 in
set_option maxRecDepth 20000 in
theorem m_X1_soak {v0 : Nat} {v1 : Nat} {v2 : Int32} {v3 : Int32} {Q : Int64 → HS → Prop} {S : HS} (hI : IV S) (o_v0 : ob S v0 1) (o_v1 : ob S v1 6)     (hq : ∀ (r : Int64) (T : HS), IV T → Gr S T → FRI [] [] S T → Q r T) : P_X1_soak v0 v1 v2 v3 Q S := by
  have g0 := gr_rf S
  have f0 := fri_rf [] [] S
  refine u_X1_soak ?_
  refine u_X1_soak_0 ?_
  refine ⟨o_v0, ?_⟩
  refine m_X1_isForward hI o_v0 o_v1 (fun x1 S2 hI2 g3 b_x1 p_x1 => ?_)
  subst p_x1
  intro _ _
  have bb_x1 : x1 = 0 ∨ x1 = 1 := b_x1
  refine ⟨fun c5 => ?_, fun c5 => ?_⟩
  · refine ⟨o_v1, ?_⟩
    refine m_X6_shield hI o_v1 (fun x6 S7 hI2 g8 p_x6 => ?_)
    subst p_x6
    intro _
    refine u_X1_soak_20 ?_
    refine ⟨fun c10 => ?_, fun c10 => ?_⟩
    · refine u_X1_soak_35 ?_
      refine ⟨o_v0, ?_⟩
      obtain ⟨a11, ea11, o_a11, l_a11⟩ := shl 9 rfl hI o_v0
      refine ⟨a11, ea11, ?_⟩
      obtain ⟨a12, ea12, o_a12, l_a12⟩ := shl 10 rfl hI o_v0
      refine ⟨a12, ea12, ?_⟩
      refine ⟨o_a12, ?_⟩
      refine ⟨(vin l_a12 (m := 5) (by decide) (q35 bb_x1 c5 c10)), ?_⟩
      intro x13 ex13
      refine ⟨o_v1, ?_⟩
      intro x14 ex14
      have d_x14 := ex14
      intro x15 ex15
      refine ⟨o_a11, ?_⟩
      intro x16 ex16
      have i17 : vp_in (0 : Int32) (hN _ a11) := (vin l_a11 (m := 5) (by decide) (q35 bb_x1 c5 c10))
      refine ⟨i17, ?_⟩
      intro S18 eS18
      have hI : IV S18 := by rw [eS18]; exact iv_aJ hI o_v0 (by decide) ea11 o_a11 (by decide)
      have f0 := fr_J eS18 f0
      have d_x14 := rd_J eS18 d_x14
      have ea11 := rf_J eS18 ea11
      have ea12 := rf_J eS18 ea12
      have l_a11 := ln_J eS18 l_a11
      have l_a12 := ln_J eS18 l_a12
      have g0 := gr_J eS18 g0
      have o_a11 := ob_J eS18 o_a11
      have o_a12 := ob_J eS18 o_a12
      have o_v0 := ob_J eS18 o_v0
      have o_v1 := ob_J eS18 o_v1
      refine ⟨a11, ea11, ?_⟩
      refine ⟨a12, ea12, ?_⟩
      refine ⟨o_a12, ?_⟩
      refine ⟨(vin l_a12 (m := 5) (by decide) (q36 bb_x1 c5 c10)), ?_⟩
      intro x21 ex21
      intro x22 ex22
      have d_x22 := ex22
      intro x23 ex23
      refine ⟨o_a11, ?_⟩
      intro x24 ex24
      have i25 : vp_in (1 : Int32) (hN _ a11) := (vin l_a11 (m := 5) (by decide) (q36 bb_x1 c5 c10))
      refine ⟨i25, ?_⟩
      intro S26 eS26
      have hI : IV S26 := by rw [eS26]; exact iv_aJ hI o_v0 (by decide) ea11 o_a11 (by decide)
      have f0 := fr_J eS26 f0
      have d_x14 := rd_J eS26 d_x14
      have d_x22 := rd_J eS26 d_x22
      have ea11 := rf_J eS26 ea11
      have ea12 := rf_J eS26 ea12
      have l_a11 := ln_J eS26 l_a11
      have l_a12 := ln_J eS26 l_a12
      have g0 := gr_J eS26 g0
      have o_a11 := ob_J eS26 o_a11
      have o_a12 := ob_J eS26 o_a12
      have o_v0 := ob_J eS26 o_v0
      have o_v1 := ob_J eS26 o_v1
      refine ⟨a11, ea11, ?_⟩
      refine ⟨a12, ea12, ?_⟩
      refine ⟨o_a12, ?_⟩
      refine ⟨(vin l_a12 (m := 5) (by decide) (q37 bb_x1 c5 c10)), ?_⟩
      intro x29 ex29
      intro x30 ex30
      have q_x30 : x30 = x22 := ex30.trans d_x22.symm
      have d_x30 := ex30
      intro x31 ex31
      refine ⟨o_a11, ?_⟩
      intro x32 ex32
      have i33 : vp_in (2 : Int32) (hN _ a11) := (vin l_a11 (m := 5) (by decide) (q37 bb_x1 c5 c10))
      refine ⟨i33, ?_⟩
      intro S34 eS34
      have hI : IV S34 := by rw [eS34]; exact iv_aJ hI o_v0 (by decide) ea11 o_a11 (by decide)
      have f0 := fr_J eS34 f0
      have d_x14 := rd_J eS34 d_x14
      have d_x30 := rd_J eS34 d_x30
      have ea11 := rf_J eS34 ea11
      have ea12 := rf_J eS34 ea12
      have l_a11 := ln_J eS34 l_a11
      have l_a12 := ln_J eS34 l_a12
      have g0 := gr_J eS34 g0
      have o_a11 := ob_J eS34 o_a11
      have o_a12 := ob_J eS34 o_a12
      have o_v0 := ob_J eS34 o_v0
      have o_v1 := ob_J eS34 o_v1
      refine ⟨a11, ea11, ?_⟩
      refine ⟨a12, ea12, ?_⟩
      refine ⟨o_a12, ?_⟩
      refine ⟨(vin l_a12 (m := 5) (by decide) (q38 bb_x1 c5 c10)), ?_⟩
      intro x37 ex37
      intro x38 ex38
      have d_x38 := ex38
      refine ⟨o_a11, ?_⟩
      intro x39 ex39
      have i40 : vp_in (3 : Int32) (hN _ a11) := (vin l_a11 (m := 5) (by decide) (q38 bb_x1 c5 c10))
      refine ⟨i40, ?_⟩
      intro S41 eS41
      have hI : IV S41 := by rw [eS41]; exact iv_aJ hI o_v0 (by decide) ea11 o_a11 (by decide)
      have f0 := fr_J eS41 f0
      have d_x14 := rd_J eS41 d_x14
      have d_x30 := rd_J eS41 d_x30
      have d_x38 := rd_J eS41 d_x38
      have ea11 := rf_J eS41 ea11
      have ea12 := rf_J eS41 ea12
      have l_a11 := ln_J eS41 l_a11
      have l_a12 := ln_J eS41 l_a12
      have g0 := gr_J eS41 g0
      have o_a11 := ob_J eS41 o_a11
      have o_a12 := ob_J eS41 o_a12
      have o_v0 := ob_J eS41 o_v0
      have o_v1 := ob_J eS41 o_v1
      refine ⟨a11, ea11, ?_⟩
      refine ⟨a12, ea12, ?_⟩
      refine ⟨o_a12, ?_⟩
      refine ⟨(vin l_a12 (m := 5) (by decide) (q39 bb_x1 c5 c10)), ?_⟩
      intro x44 ex44
      intro x45 ex45
      have q_x45 : x45 = x38 := ex45.trans d_x38.symm
      have d_x45 := ex45
      refine ⟨o_a11, ?_⟩
      intro x46 ex46
      have i47 : vp_in (4 : Int32) (hN _ a11) := (vin l_a11 (m := 5) (by decide) (q39 bb_x1 c5 c10))
      refine ⟨i47, ?_⟩
      intro S48 eS48
      have hI : IV S48 := by rw [eS48]; exact iv_aJ hI o_v0 (by decide) ea11 o_a11 (by decide)
      have f0 := fr_J eS48 f0
      have d_x14 := rd_J eS48 d_x14
      have d_x30 := rd_J eS48 d_x30
      have d_x45 := rd_J eS48 d_x45
      have ea11 := rf_J eS48 ea11
      have ea12 := rf_J eS48 ea12
      have l_a11 := ln_J eS48 l_a11
      have l_a12 := ln_J eS48 l_a12
      have g0 := gr_J eS48 g0
      have o_a11 := ob_J eS48 o_a11
      have o_a12 := ob_J eS48 o_a12
      have o_v0 := ob_J eS48 o_v0
      have o_v1 := ob_J eS48 o_v1
      refine ⟨a11, ea11, ?_⟩
      refine ⟨o_a11, ?_⟩
      refine ⟨(vin l_a11 (m := 5) (by decide) (q35 bb_x1 c5 c10)), ?_⟩
      intro x50 ex50
      refine ⟨a11, ea11, ?_⟩
      refine ⟨o_a11, ?_⟩
      refine ⟨(vin l_a11 (m := 5) (by decide) (q36 bb_x1 c5 c10)), ?_⟩
      intro x52 ex52
      refine ⟨a11, ea11, ?_⟩
      refine ⟨o_a11, ?_⟩
      refine ⟨(vin l_a11 (m := 5) (by decide) (q37 bb_x1 c5 c10)), ?_⟩
      intro x54 ex54
      refine ⟨a11, ea11, ?_⟩
      refine ⟨o_a11, ?_⟩
      refine ⟨(vin l_a11 (m := 5) (by decide) (q38 bb_x1 c5 c10)), ?_⟩
      intro x56 ex56
      refine ⟨a11, ea11, ?_⟩
      refine ⟨o_a11, ?_⟩
      refine ⟨(vin l_a11 (m := 5) (by decide) (q39 bb_x1 c5 c10)), ?_⟩
      intro x58 ex58
      exact hq _ _ hI g0 f0
    · refine ⟨o_v1, ?_⟩
      refine m_X6_shield hI o_v1 (fun x59 S60 hI2 g61 p_x59 => ?_)
      subst p_x59
      intro _
      refine u_X1_soak_35 ?_
      refine ⟨o_v0, ?_⟩
      obtain ⟨a63, ea63, o_a63, l_a63⟩ := shl 9 rfl hI o_v0
      refine ⟨a63, ea63, ?_⟩
      obtain ⟨a64, ea64, o_a64, l_a64⟩ := shl 10 rfl hI o_v0
      refine ⟨a64, ea64, ?_⟩
      refine ⟨o_a64, ?_⟩
      refine ⟨(vin l_a64 (m := 5) (by decide) (q40 bb_x1 c5 c10)), ?_⟩
      intro x65 ex65
      refine ⟨o_v1, ?_⟩
      intro x66 ex66
      have d_x66 := ex66
      intro x67 ex67
      refine ⟨o_a63, ?_⟩
      intro x68 ex68
      have i69 : vp_in (0 : Int32) (hN _ a63) := (vin l_a63 (m := 5) (by decide) (q40 bb_x1 c5 c10))
      refine ⟨i69, ?_⟩
      intro S70 eS70
      have hI : IV S70 := by rw [eS70]; exact iv_aJ hI o_v0 (by decide) ea63 o_a63 (by decide)
      have f0 := fr_J eS70 f0
      have d_x66 := rd_J eS70 d_x66
      have ea63 := rf_J eS70 ea63
      have ea64 := rf_J eS70 ea64
      have l_a63 := ln_J eS70 l_a63
      have l_a64 := ln_J eS70 l_a64
      have g0 := gr_J eS70 g0
      have o_a63 := ob_J eS70 o_a63
      have o_a64 := ob_J eS70 o_a64
      have o_v0 := ob_J eS70 o_v0
      have o_v1 := ob_J eS70 o_v1
      refine ⟨a63, ea63, ?_⟩
      refine ⟨a64, ea64, ?_⟩
      refine ⟨o_a64, ?_⟩
      refine ⟨(vin l_a64 (m := 5) (by decide) (q41 bb_x1 c5 c10)), ?_⟩
      intro x73 ex73
      intro x74 ex74
      have d_x74 := ex74
      intro x75 ex75
      refine ⟨o_a63, ?_⟩
      intro x76 ex76
      have i77 : vp_in (1 : Int32) (hN _ a63) := (vin l_a63 (m := 5) (by decide) (q41 bb_x1 c5 c10))
      refine ⟨i77, ?_⟩
      intro S78 eS78
      have hI : IV S78 := by rw [eS78]; exact iv_aJ hI o_v0 (by decide) ea63 o_a63 (by decide)
      have f0 := fr_J eS78 f0
      have d_x66 := rd_J eS78 d_x66
      have d_x74 := rd_J eS78 d_x74
      have ea63 := rf_J eS78 ea63
      have ea64 := rf_J eS78 ea64
      have l_a63 := ln_J eS78 l_a63
      have l_a64 := ln_J eS78 l_a64
      have g0 := gr_J eS78 g0
      have o_a63 := ob_J eS78 o_a63
      have o_a64 := ob_J eS78 o_a64
      have o_v0 := ob_J eS78 o_v0
      have o_v1 := ob_J eS78 o_v1
      refine ⟨a63, ea63, ?_⟩
      refine ⟨a64, ea64, ?_⟩
      refine ⟨o_a64, ?_⟩
      refine ⟨(vin l_a64 (m := 5) (by decide) (q42 bb_x1 c5 c10)), ?_⟩
      intro x81 ex81
      intro x82 ex82
      have q_x82 : x82 = x74 := ex82.trans d_x74.symm
      have d_x82 := ex82
      intro x83 ex83
      refine ⟨o_a63, ?_⟩
      intro x84 ex84
      have i85 : vp_in (2 : Int32) (hN _ a63) := (vin l_a63 (m := 5) (by decide) (q42 bb_x1 c5 c10))
      refine ⟨i85, ?_⟩
      intro S86 eS86
      have hI : IV S86 := by rw [eS86]; exact iv_aJ hI o_v0 (by decide) ea63 o_a63 (by decide)
      have f0 := fr_J eS86 f0
      have d_x66 := rd_J eS86 d_x66
      have d_x82 := rd_J eS86 d_x82
      have ea63 := rf_J eS86 ea63
      have ea64 := rf_J eS86 ea64
      have l_a63 := ln_J eS86 l_a63
      have l_a64 := ln_J eS86 l_a64
      have g0 := gr_J eS86 g0
      have o_a63 := ob_J eS86 o_a63
      have o_a64 := ob_J eS86 o_a64
      have o_v0 := ob_J eS86 o_v0
      have o_v1 := ob_J eS86 o_v1
      refine ⟨a63, ea63, ?_⟩
      refine ⟨a64, ea64, ?_⟩
      refine ⟨o_a64, ?_⟩
      refine ⟨(vin l_a64 (m := 5) (by decide) (q43 bb_x1 c5 c10)), ?_⟩
      intro x89 ex89
      intro x90 ex90
      have d_x90 := ex90
      refine ⟨o_a63, ?_⟩
      intro x91 ex91
      have i92 : vp_in (3 : Int32) (hN _ a63) := (vin l_a63 (m := 5) (by decide) (q43 bb_x1 c5 c10))
      refine ⟨i92, ?_⟩
      intro S93 eS93
      have hI : IV S93 := by rw [eS93]; exact iv_aJ hI o_v0 (by decide) ea63 o_a63 (by decide)
      have f0 := fr_J eS93 f0
      have d_x66 := rd_J eS93 d_x66
      have d_x82 := rd_J eS93 d_x82
      have d_x90 := rd_J eS93 d_x90
      have ea63 := rf_J eS93 ea63
      have ea64 := rf_J eS93 ea64
      have l_a63 := ln_J eS93 l_a63
      have l_a64 := ln_J eS93 l_a64
      have g0 := gr_J eS93 g0
      have o_a63 := ob_J eS93 o_a63
      have o_a64 := ob_J eS93 o_a64
      have o_v0 := ob_J eS93 o_v0
      have o_v1 := ob_J eS93 o_v1
      refine ⟨a63, ea63, ?_⟩
      refine ⟨a64, ea64, ?_⟩
      refine ⟨o_a64, ?_⟩
      refine ⟨(vin l_a64 (m := 5) (by decide) (q44 bb_x1 c5 c10)), ?_⟩
      intro x96 ex96
      intro x97 ex97
      have q_x97 : x97 = x90 := ex97.trans d_x90.symm
      have d_x97 := ex97
      refine ⟨o_a63, ?_⟩
      intro x98 ex98
      have i99 : vp_in (4 : Int32) (hN _ a63) := (vin l_a63 (m := 5) (by decide) (q44 bb_x1 c5 c10))
      refine ⟨i99, ?_⟩
      intro S100 eS100
      have hI : IV S100 := by rw [eS100]; exact iv_aJ hI o_v0 (by decide) ea63 o_a63 (by decide)
      have f0 := fr_J eS100 f0
      have d_x66 := rd_J eS100 d_x66
      have d_x82 := rd_J eS100 d_x82
      have d_x97 := rd_J eS100 d_x97
      have ea63 := rf_J eS100 ea63
      have ea64 := rf_J eS100 ea64
      have l_a63 := ln_J eS100 l_a63
      have l_a64 := ln_J eS100 l_a64
      have g0 := gr_J eS100 g0
      have o_a63 := ob_J eS100 o_a63
      have o_a64 := ob_J eS100 o_a64
      have o_v0 := ob_J eS100 o_v0
      have o_v1 := ob_J eS100 o_v1
      refine ⟨a63, ea63, ?_⟩
      refine ⟨o_a63, ?_⟩
      refine ⟨(vin l_a63 (m := 5) (by decide) (q40 bb_x1 c5 c10)), ?_⟩
      intro x102 ex102
      refine ⟨a63, ea63, ?_⟩
      refine ⟨o_a63, ?_⟩
      refine ⟨(vin l_a63 (m := 5) (by decide) (q41 bb_x1 c5 c10)), ?_⟩
      intro x104 ex104
      refine ⟨a63, ea63, ?_⟩
      refine ⟨o_a63, ?_⟩
      refine ⟨(vin l_a63 (m := 5) (by decide) (q42 bb_x1 c5 c10)), ?_⟩
      intro x106 ex106
      refine ⟨a63, ea63, ?_⟩
      refine ⟨o_a63, ?_⟩
      refine ⟨(vin l_a63 (m := 5) (by decide) (q43 bb_x1 c5 c10)), ?_⟩
      intro x108 ex108
      refine ⟨a63, ea63, ?_⟩
      refine ⟨o_a63, ?_⟩
      refine ⟨(vin l_a63 (m := 5) (by decide) (q44 bb_x1 c5 c10)), ?_⟩
      intro x110 ex110
      exact hq _ _ hI g0 f0
  · refine u_X1_soak_20 ?_
    refine ⟨fun c111 => ?_, fun c111 => ?_⟩
    · refine u_X1_soak_35 ?_
      refine ⟨o_v0, ?_⟩
      obtain ⟨a112, ea112, o_a112, l_a112⟩ := shl 9 rfl hI o_v0
      refine ⟨a112, ea112, ?_⟩
      obtain ⟨a113, ea113, o_a113, l_a113⟩ := shl 10 rfl hI o_v0
      refine ⟨a113, ea113, ?_⟩
      refine ⟨o_a113, ?_⟩
      refine ⟨(vin l_a113 (m := 5) (by decide) (q45 bb_x1 c5 c111)), ?_⟩
      intro x114 ex114
      refine ⟨o_v1, ?_⟩
      intro x115 ex115
      have d_x115 := ex115
      intro x116 ex116
      refine ⟨o_a112, ?_⟩
      intro x117 ex117
      have i118 : vp_in (0 : Int32) (hN _ a112) := (vin l_a112 (m := 5) (by decide) (q45 bb_x1 c5 c111))
      refine ⟨i118, ?_⟩
      intro S119 eS119
      have hI : IV S119 := by rw [eS119]; exact iv_aJ hI o_v0 (by decide) ea112 o_a112 (by decide)
      have f0 := fr_J eS119 f0
      have d_x115 := rd_J eS119 d_x115
      have ea112 := rf_J eS119 ea112
      have ea113 := rf_J eS119 ea113
      have l_a112 := ln_J eS119 l_a112
      have l_a113 := ln_J eS119 l_a113
      have g0 := gr_J eS119 g0
      have o_a112 := ob_J eS119 o_a112
      have o_a113 := ob_J eS119 o_a113
      have o_v0 := ob_J eS119 o_v0
      have o_v1 := ob_J eS119 o_v1
      refine ⟨a112, ea112, ?_⟩
      refine ⟨a113, ea113, ?_⟩
      refine ⟨o_a113, ?_⟩
      refine ⟨(vin l_a113 (m := 5) (by decide) (q46 bb_x1 c5 c111)), ?_⟩
      intro x122 ex122
      intro x123 ex123
      have d_x123 := ex123
      intro x124 ex124
      refine ⟨o_a112, ?_⟩
      intro x125 ex125
      have i126 : vp_in (1 : Int32) (hN _ a112) := (vin l_a112 (m := 5) (by decide) (q46 bb_x1 c5 c111))
      refine ⟨i126, ?_⟩
      intro S127 eS127
      have hI : IV S127 := by rw [eS127]; exact iv_aJ hI o_v0 (by decide) ea112 o_a112 (by decide)
      have f0 := fr_J eS127 f0
      have d_x115 := rd_J eS127 d_x115
      have d_x123 := rd_J eS127 d_x123
      have ea112 := rf_J eS127 ea112
      have ea113 := rf_J eS127 ea113
      have l_a112 := ln_J eS127 l_a112
      have l_a113 := ln_J eS127 l_a113
      have g0 := gr_J eS127 g0
      have o_a112 := ob_J eS127 o_a112
      have o_a113 := ob_J eS127 o_a113
      have o_v0 := ob_J eS127 o_v0
      have o_v1 := ob_J eS127 o_v1
      refine ⟨a112, ea112, ?_⟩
      refine ⟨a113, ea113, ?_⟩
      refine ⟨o_a113, ?_⟩
      refine ⟨(vin l_a113 (m := 5) (by decide) (q47 bb_x1 c5 c111)), ?_⟩
      intro x130 ex130
      intro x131 ex131
      have q_x131 : x131 = x123 := ex131.trans d_x123.symm
      have d_x131 := ex131
      intro x132 ex132
      refine ⟨o_a112, ?_⟩
      intro x133 ex133
      have i134 : vp_in (2 : Int32) (hN _ a112) := (vin l_a112 (m := 5) (by decide) (q47 bb_x1 c5 c111))
      refine ⟨i134, ?_⟩
      intro S135 eS135
      have hI : IV S135 := by rw [eS135]; exact iv_aJ hI o_v0 (by decide) ea112 o_a112 (by decide)
      have f0 := fr_J eS135 f0
      have d_x115 := rd_J eS135 d_x115
      have d_x131 := rd_J eS135 d_x131
      have ea112 := rf_J eS135 ea112
      have ea113 := rf_J eS135 ea113
      have l_a112 := ln_J eS135 l_a112
      have l_a113 := ln_J eS135 l_a113
      have g0 := gr_J eS135 g0
      have o_a112 := ob_J eS135 o_a112
      have o_a113 := ob_J eS135 o_a113
      have o_v0 := ob_J eS135 o_v0
      have o_v1 := ob_J eS135 o_v1
      refine ⟨a112, ea112, ?_⟩
      refine ⟨a113, ea113, ?_⟩
      refine ⟨o_a113, ?_⟩
      refine ⟨(vin l_a113 (m := 5) (by decide) (q48 bb_x1 c5 c111)), ?_⟩
      intro x138 ex138
      intro x139 ex139
      have d_x139 := ex139
      refine ⟨o_a112, ?_⟩
      intro x140 ex140
      have i141 : vp_in (3 : Int32) (hN _ a112) := (vin l_a112 (m := 5) (by decide) (q48 bb_x1 c5 c111))
      refine ⟨i141, ?_⟩
      intro S142 eS142
      have hI : IV S142 := by rw [eS142]; exact iv_aJ hI o_v0 (by decide) ea112 o_a112 (by decide)
      have f0 := fr_J eS142 f0
      have d_x115 := rd_J eS142 d_x115
      have d_x131 := rd_J eS142 d_x131
      have d_x139 := rd_J eS142 d_x139
      have ea112 := rf_J eS142 ea112
      have ea113 := rf_J eS142 ea113
      have l_a112 := ln_J eS142 l_a112
      have l_a113 := ln_J eS142 l_a113
      have g0 := gr_J eS142 g0
      have o_a112 := ob_J eS142 o_a112
      have o_a113 := ob_J eS142 o_a113
      have o_v0 := ob_J eS142 o_v0
      have o_v1 := ob_J eS142 o_v1
      refine ⟨a112, ea112, ?_⟩
      refine ⟨a113, ea113, ?_⟩
      refine ⟨o_a113, ?_⟩
      refine ⟨(vin l_a113 (m := 5) (by decide) (q49 bb_x1 c5 c111)), ?_⟩
      intro x145 ex145
      intro x146 ex146
      have q_x146 : x146 = x139 := ex146.trans d_x139.symm
      have d_x146 := ex146
      refine ⟨o_a112, ?_⟩
      intro x147 ex147
      have i148 : vp_in (4 : Int32) (hN _ a112) := (vin l_a112 (m := 5) (by decide) (q49 bb_x1 c5 c111))
      refine ⟨i148, ?_⟩
      intro S149 eS149
      have hI : IV S149 := by rw [eS149]; exact iv_aJ hI o_v0 (by decide) ea112 o_a112 (by decide)
      have f0 := fr_J eS149 f0
      have d_x115 := rd_J eS149 d_x115
      have d_x131 := rd_J eS149 d_x131
      have d_x146 := rd_J eS149 d_x146
      have ea112 := rf_J eS149 ea112
      have ea113 := rf_J eS149 ea113
      have l_a112 := ln_J eS149 l_a112
      have l_a113 := ln_J eS149 l_a113
      have g0 := gr_J eS149 g0
      have o_a112 := ob_J eS149 o_a112
      have o_a113 := ob_J eS149 o_a113
      have o_v0 := ob_J eS149 o_v0
      have o_v1 := ob_J eS149 o_v1
      refine ⟨a112, ea112, ?_⟩
      refine ⟨o_a112, ?_⟩
      refine ⟨(vin l_a112 (m := 5) (by decide) (q45 bb_x1 c5 c111)), ?_⟩
      intro x151 ex151
      refine ⟨a112, ea112, ?_⟩
      refine ⟨o_a112, ?_⟩
      refine ⟨(vin l_a112 (m := 5) (by decide) (q46 bb_x1 c5 c111)), ?_⟩
      intro x153 ex153
      refine ⟨a112, ea112, ?_⟩
      refine ⟨o_a112, ?_⟩
      refine ⟨(vin l_a112 (m := 5) (by decide) (q47 bb_x1 c5 c111)), ?_⟩
      intro x155 ex155
      refine ⟨a112, ea112, ?_⟩
      refine ⟨o_a112, ?_⟩
      refine ⟨(vin l_a112 (m := 5) (by decide) (q48 bb_x1 c5 c111)), ?_⟩
      intro x157 ex157
      refine ⟨a112, ea112, ?_⟩
      refine ⟨o_a112, ?_⟩
      refine ⟨(vin l_a112 (m := 5) (by decide) (q49 bb_x1 c5 c111)), ?_⟩
      intro x159 ex159
      exact hq _ _ hI g0 f0
    · refine ⟨o_v1, ?_⟩
      refine m_X6_shield hI o_v1 (fun x160 S161 hI2 g162 p_x160 => ?_)
      subst p_x160
      intro _
      refine u_X1_soak_35 ?_
      refine ⟨o_v0, ?_⟩
      obtain ⟨a164, ea164, o_a164, l_a164⟩ := shl 9 rfl hI o_v0
      refine ⟨a164, ea164, ?_⟩
      obtain ⟨a165, ea165, o_a165, l_a165⟩ := shl 10 rfl hI o_v0
      refine ⟨a165, ea165, ?_⟩
      refine ⟨o_a165, ?_⟩
      refine ⟨(vin l_a165 (m := 5) (by decide) (q50 bb_x1 c5 c111)), ?_⟩
      intro x166 ex166
      refine ⟨o_v1, ?_⟩
      intro x167 ex167
      have d_x167 := ex167
      intro x168 ex168
      refine ⟨o_a164, ?_⟩
      intro x169 ex169
      have i170 : vp_in (0 : Int32) (hN _ a164) := (vin l_a164 (m := 5) (by decide) (q50 bb_x1 c5 c111))
      refine ⟨i170, ?_⟩
      intro S171 eS171
      have hI : IV S171 := by rw [eS171]; exact iv_aJ hI o_v0 (by decide) ea164 o_a164 (by decide)
      have f0 := fr_J eS171 f0
      have d_x167 := rd_J eS171 d_x167
      have ea164 := rf_J eS171 ea164
      have ea165 := rf_J eS171 ea165
      have l_a164 := ln_J eS171 l_a164
      have l_a165 := ln_J eS171 l_a165
      have g0 := gr_J eS171 g0
      have o_a164 := ob_J eS171 o_a164
      have o_a165 := ob_J eS171 o_a165
      have o_v0 := ob_J eS171 o_v0
      have o_v1 := ob_J eS171 o_v1
      refine ⟨a164, ea164, ?_⟩
      refine ⟨a165, ea165, ?_⟩
      refine ⟨o_a165, ?_⟩
      refine ⟨(vin l_a165 (m := 5) (by decide) (q51 bb_x1 c5 c111)), ?_⟩
      intro x174 ex174
      intro x175 ex175
      have d_x175 := ex175
      intro x176 ex176
      refine ⟨o_a164, ?_⟩
      intro x177 ex177
      have i178 : vp_in (1 : Int32) (hN _ a164) := (vin l_a164 (m := 5) (by decide) (q51 bb_x1 c5 c111))
      refine ⟨i178, ?_⟩
      intro S179 eS179
      have hI : IV S179 := by rw [eS179]; exact iv_aJ hI o_v0 (by decide) ea164 o_a164 (by decide)
      have f0 := fr_J eS179 f0
      have d_x167 := rd_J eS179 d_x167
      have d_x175 := rd_J eS179 d_x175
      have ea164 := rf_J eS179 ea164
      have ea165 := rf_J eS179 ea165
      have l_a164 := ln_J eS179 l_a164
      have l_a165 := ln_J eS179 l_a165
      have g0 := gr_J eS179 g0
      have o_a164 := ob_J eS179 o_a164
      have o_a165 := ob_J eS179 o_a165
      have o_v0 := ob_J eS179 o_v0
      have o_v1 := ob_J eS179 o_v1
      refine ⟨a164, ea164, ?_⟩
      refine ⟨a165, ea165, ?_⟩
      refine ⟨o_a165, ?_⟩
      refine ⟨(vin l_a165 (m := 5) (by decide) (q52 bb_x1 c5 c111)), ?_⟩
      intro x182 ex182
      intro x183 ex183
      have q_x183 : x183 = x175 := ex183.trans d_x175.symm
      have d_x183 := ex183
      intro x184 ex184
      refine ⟨o_a164, ?_⟩
      intro x185 ex185
      have i186 : vp_in (2 : Int32) (hN _ a164) := (vin l_a164 (m := 5) (by decide) (q52 bb_x1 c5 c111))
      refine ⟨i186, ?_⟩
      intro S187 eS187
      have hI : IV S187 := by rw [eS187]; exact iv_aJ hI o_v0 (by decide) ea164 o_a164 (by decide)
      have f0 := fr_J eS187 f0
      have d_x167 := rd_J eS187 d_x167
      have d_x183 := rd_J eS187 d_x183
      have ea164 := rf_J eS187 ea164
      have ea165 := rf_J eS187 ea165
      have l_a164 := ln_J eS187 l_a164
      have l_a165 := ln_J eS187 l_a165
      have g0 := gr_J eS187 g0
      have o_a164 := ob_J eS187 o_a164
      have o_a165 := ob_J eS187 o_a165
      have o_v0 := ob_J eS187 o_v0
      have o_v1 := ob_J eS187 o_v1
      refine ⟨a164, ea164, ?_⟩
      refine ⟨a165, ea165, ?_⟩
      refine ⟨o_a165, ?_⟩
      refine ⟨(vin l_a165 (m := 5) (by decide) (q53 bb_x1 c5 c111)), ?_⟩
      intro x190 ex190
      intro x191 ex191
      have d_x191 := ex191
      refine ⟨o_a164, ?_⟩
      intro x192 ex192
      have i193 : vp_in (3 : Int32) (hN _ a164) := (vin l_a164 (m := 5) (by decide) (q53 bb_x1 c5 c111))
      refine ⟨i193, ?_⟩
      intro S194 eS194
      have hI : IV S194 := by rw [eS194]; exact iv_aJ hI o_v0 (by decide) ea164 o_a164 (by decide)
      have f0 := fr_J eS194 f0
      have d_x167 := rd_J eS194 d_x167
      have d_x183 := rd_J eS194 d_x183
      have d_x191 := rd_J eS194 d_x191
      have ea164 := rf_J eS194 ea164
      have ea165 := rf_J eS194 ea165
      have l_a164 := ln_J eS194 l_a164
      have l_a165 := ln_J eS194 l_a165
      have g0 := gr_J eS194 g0
      have o_a164 := ob_J eS194 o_a164
      have o_a165 := ob_J eS194 o_a165
      have o_v0 := ob_J eS194 o_v0
      have o_v1 := ob_J eS194 o_v1
      refine ⟨a164, ea164, ?_⟩
      refine ⟨a165, ea165, ?_⟩
      refine ⟨o_a165, ?_⟩
      refine ⟨(vin l_a165 (m := 5) (by decide) (q54 bb_x1 c5 c111)), ?_⟩
      intro x197 ex197
      intro x198 ex198
      have q_x198 : x198 = x191 := ex198.trans d_x191.symm
      have d_x198 := ex198
      refine ⟨o_a164, ?_⟩
      intro x199 ex199
      have i200 : vp_in (4 : Int32) (hN _ a164) := (vin l_a164 (m := 5) (by decide) (q54 bb_x1 c5 c111))
      refine ⟨i200, ?_⟩
      intro S201 eS201
      have hI : IV S201 := by rw [eS201]; exact iv_aJ hI o_v0 (by decide) ea164 o_a164 (by decide)
      have f0 := fr_J eS201 f0
      have d_x167 := rd_J eS201 d_x167
      have d_x183 := rd_J eS201 d_x183
      have d_x198 := rd_J eS201 d_x198
      have ea164 := rf_J eS201 ea164
      have ea165 := rf_J eS201 ea165
      have l_a164 := ln_J eS201 l_a164
      have l_a165 := ln_J eS201 l_a165
      have g0 := gr_J eS201 g0
      have o_a164 := ob_J eS201 o_a164
      have o_a165 := ob_J eS201 o_a165
      have o_v0 := ob_J eS201 o_v0
      have o_v1 := ob_J eS201 o_v1
      refine ⟨a164, ea164, ?_⟩
      refine ⟨o_a164, ?_⟩
      refine ⟨(vin l_a164 (m := 5) (by decide) (q50 bb_x1 c5 c111)), ?_⟩
      intro x203 ex203
      refine ⟨a164, ea164, ?_⟩
      refine ⟨o_a164, ?_⟩
      refine ⟨(vin l_a164 (m := 5) (by decide) (q51 bb_x1 c5 c111)), ?_⟩
      intro x205 ex205
      refine ⟨a164, ea164, ?_⟩
      refine ⟨o_a164, ?_⟩
      refine ⟨(vin l_a164 (m := 5) (by decide) (q52 bb_x1 c5 c111)), ?_⟩
      intro x207 ex207
      refine ⟨a164, ea164, ?_⟩
      refine ⟨o_a164, ?_⟩
      refine ⟨(vin l_a164 (m := 5) (by decide) (q53 bb_x1 c5 c111)), ?_⟩
      intro x209 ex209
      refine ⟨a164, ea164, ?_⟩
      refine ⟨o_a164, ?_⟩
      refine ⟨(vin l_a164 (m := 5) (by decide) (q54 bb_x1 c5 c111)), ?_⟩
      intro x211 ex211
      exact hq _ _ hI g0 f0
set_option maxHeartbeats 4000000 in
set_option maxRecDepth 20000 in
theorem m_X1_wetOf {v0 : Nat} {v1 : Nat} {v2 : Nat} {v3 : Int32} {v4 : Nat} {v5 : Int32} {Q : Int64 → HS → Prop} {S : HS} (hI : IV S) (o_v0 : ob S v0 1) (o_v1 : ob S v1 6) (o_v2 : ob S v2 5) (o_v4 : ob S v4 3)     (hq : ∀ (r : Int64) (T : HS), IV T → Gr S T → FRI [] [] S T → Q r T) : P_X1_wetOf v0 v1 v2 v3 v4 v5 Q S := by
  have g0 := gr_rf S
  have f0 := fri_rf [] [] S
  refine u_X1_wetOf ?_
  refine u_X1_wetOf_0 ?_
  refine ⟨o_v0, ?_⟩
  refine m_X1_lay hI o_v0 o_v2 o_v4 (fun S2 hJ g3 fc4 => ?_)
  have hI := hJ
  have f0 := fri_tr (S := S) g0 f0 fc4 (by decide) (by decide)
  have o_v0 := gr_ob g3 o_v0
  have o_v1 := gr_ob g3 o_v1
  have o_v2 := gr_ob g3 o_v2
  have o_v4 := gr_ob g3 o_v4
  have g0 := gr_tr (T := S) g0 g3
  intro _
  refine m_X1_soak hI o_v0 o_v1 (fun x5 S6 hJ g7 fc8 => ?_)
  have hI := hJ
  have f0 := fri_tr (S := S2) g0 f0 fc8 (by decide) (by decide)
  have o_v0 := gr_ob g7 o_v0
  have o_v1 := gr_ob g7 o_v1
  have o_v2 := gr_ob g7 o_v2
  have o_v4 := gr_ob g7 o_v4
  have g0 := gr_tr (T := S2) g0 g7
  intro _
  exact hq _ _ hI g0 f0
set_option maxHeartbeats 4000000 in
set_option maxRecDepth 20000 in
theorem m_X1_bestSpeed {v0 : Nat} {v1 : Nat} {v2 : Nat} {v3 : Int32} {v4 : Nat} {Q : Int32 → HS → Prop} {S : HS} (hI : IV S) (o_v0 : ob S v0 1) (o_v1 : ob S v1 6) (o_v2 : ob S v2 5) (o_v4 : ob S v4 3)     (hq : ∀ (r : Int32) (T : HS), IV T → Gr S T → FRI [] [] S T → Q r T) : P_X1_bestSpeed v0 v1 v2 v3 v4 Q S := by
  have g0 := gr_rf S
  have f0 := fri_rf [] [] S
  refine u_X1_bestSpeed ?_
  refine u_X1_bestSpeed_0 ?_
  refine ⟨o_v1, ?_⟩
  intro x1 ex1
  have r_x1 : (0 : Int32) ≤ x1 ∧ x1 ≤ (9 : Int32) := by rw [ex1]; exact nu 4 rfl hI o_v1
  have d_x1 := ex1
  intro x2 ex2
  have r_x2 : (0 : Int32) ≤ x2 ∧ x2 ≤ (9 : Int32) := by rw [ex2]; exact nu 4 rfl hI o_v1
  have q_x2 : x2 = x1 := ex2.trans d_x1.symm
  have d_x2 := ex2
  refine i_X1_bestSpeed_17 (fun (y0 : Nat) (y1 : Nat) (y2 : Nat) (y3 : Int32) (y4 : Nat) (y5 : Int32) (y6 : Int64) (y8 : Int32) (Z : HS) => ((2147483647 : Int32).toInt - y8.toInt).toNat) (fun (y0 : Nat) (y1 : Nat) (y2 : Nat) (y3 : Int32) (y4 : Nat) (y5 : Int32) (y6 : Int64) (y8 : Int32) (Z : HS) => (IV Z) ∧ (Gr S Z) ∧ (FRI [] [] S Z) ∧ (v0 = y0) ∧ (v1 = y1) ∧ (v2 = y2) ∧ (v3 = y3) ∧ (v4 = y4)) ?_ _ _ _ _ _ _ _ _ _ ⟨hI, (gr_rf _), (fri_rf _ _ _), rfl, rfl, rfl, rfl, rfl⟩
  intro w7 w9 w11 w13 w15 w17 w18 w19 S4 X20 ⟨hI, gL5, fL6, q8, q10, q12, q14, q16⟩ ih21
  subst q8
  subst q10
  subst q12
  subst q14
  subst q16
  have d_x2 := d_x2.trans (fri_at fL6 (by decide) (by decide) o_v1).symm
  have f0 := fri_tr (S := S) g0 f0 fL6 (by decide) (by decide)
  have o_v0 := gr_ob gL5 o_v0
  have o_v1 := gr_ob gL5 o_v1
  have o_v2 := gr_ob gL5 o_v2
  have o_v4 := gr_ob gL5 o_v4
  have g0 := gr_tr (T := S) g0 gL5
  refine u_X1_bestSpeed_17 ?_
  refine ⟨o_v1, ?_⟩
  intro x22 ex22
  have r_x22 : (0 : Int32) ≤ x22 ∧ x22 ≤ (9 : Int32) := by rw [ex22]; exact nu 5 rfl hI o_v1
  have d_x22 := ex22
  refine ⟨fun c23 => ?_, fun c23 => ?_⟩
  · exact hq _ _ hI g0 f0
  · refine ⟨o_v0, ?_⟩
    refine m_X1_wetOf hI o_v0 o_v1 o_v2 o_v4 (fun x24 S25 hJ g26 fc27 => ?_)
    have hI := hJ
    have d_x2 := d_x2.trans (fri_at fc27 (by decide) (by decide) o_v1).symm
    have d_x22 := d_x22.trans (fri_at fc27 (by decide) (by decide) o_v1).symm
    have f0 := fri_tr (S := S4) g0 f0 fc27 (by decide) (by decide)
    have fL6 := fri_tr (S := S4) gL5 fL6 fc27 (by decide) (by decide)
    have o_v0 := gr_ob g26 o_v0
    have o_v1 := gr_ob g26 o_v1
    have o_v2 := gr_ob g26 o_v2
    have o_v4 := gr_ob g26 o_v4
    have g0 := gr_tr (T := S4) g0 g26
    have gL5 := gr_tr (T := S4) gL5 g26
    intro _
    refine ⟨fun c28 => ?_, fun c28 => ?_⟩
    · refine u_X1_bestSpeed_55 ?_
      intro x29 ex29
      exact ih21 _ _ _ _ _ _ _ _ _ ⟨hI, gL5, fL6, rfl, rfl, rfl, rfl, rfl⟩ (mu_up (q1120 r_x22 c23 c28 ex29) (q1121 r_x22 c23 c28 ex29))
    · refine u_X1_bestSpeed_55 ?_
      intro x30 ex30
      exact ih21 _ _ _ _ _ _ _ _ _ ⟨hI, gL5, fL6, rfl, rfl, rfl, rfl, rfl⟩ (mu_up (q1122 r_x22 c23 c28 ex30) (q1123 r_x22 c23 c28 ex30))
set_option maxHeartbeats 4000000 in
set_option maxRecDepth 20000 in
theorem m_X1_legsOf {v0 : Nat} {Q : Int32 → HS → Prop} {S : HS} (hI : IV S) (o_v0 : ob S v0 8)     (hq : ∀ (r : Int32) (T : HS), IV T → Gr S T → (S = T) → Q r T) : P_X1_legsOf v0 Q S := by
  have g0 := gr_rf S
  refine u_X1_legsOf ?_
  refine u_X1_legsOf_0 ?_
  refine ⟨o_v0, ?_⟩
  intro x1 ex1
  have r_x1 : (0 : Int32) ≤ x1 ∧ x1 ≤ (12 : Int32) := by rw [ex1]; exact nu 13 rfl hI o_v0
  have d_x1 := ex1
  intro x2 ex2
  have r_x2 : (0 : Int32) ≤ x2 ∧ x2 ≤ (6 : Int32) := by rw [ex2]; exact nu 11 rfl hI o_v0
  have d_x2 := ex2
  exact hq _ _ hI g0 rfl
set_option maxHeartbeats 4000000 in
set_option maxRecDepth 20000 in
theorem m_X6_canGo {v0 : Nat} {v1 : Int32} {Q : Int32 → HS → Prop} {S : HS} (hI : IV S) (o_v0 : ob S v0 6)     (hq : ∀ (r : Int32) (T : HS), IV T → Gr S T → bl r → (S = T) → Q r T) : P_X6_canGo v0 v1 Q S := by
  have g0 := gr_rf S
  refine u_X6_canGo ?_
  refine u_X6_canGo_0 ?_
  refine ⟨o_v0, ?_⟩
  intro x1 ex1
  have r_x1 : (0 : Int32) ≤ x1 ∧ x1 ≤ (9 : Int32) := by rw [ex1]; exact nu 4 rfl hI o_v0
  have d_x1 := ex1
  refine ⟨fun c2 => ?_, fun c2 => ?_⟩
  · exact hq _ _ hI g0 (Or.inl rfl) rfl
  · intro x3 ex3
    have r_x3 : (0 : Int32) ≤ x3 ∧ x3 ≤ (9 : Int32) := by rw [ex3]; exact nu 5 rfl hI o_v0
    have d_x3 := ex3
    refine ⟨fun c4 => ?_, fun c4 => ?_⟩
    · exact hq _ _ hI g0 (Or.inl rfl) rfl
    · refine ⟨fun c5 => ?_, fun c5 => ?_⟩
      · exact hq _ _ hI g0 (Or.inl rfl) rfl
      · refine ⟨fun c6 => ?_, fun c6 => ?_⟩
        · exact hq _ _ hI g0 (Or.inl rfl) rfl
        · exact hq _ _ hI g0 (Or.inr rfl) rfl
set_option maxHeartbeats 4000000 in
set_option maxRecDepth 20000 in
theorem m_X8_hasRoad {v0 : Nat} {v1 : Int32} {Q : Int32 → HS → Prop} {S : HS} (hI : IV S) (o_v0 : ob S v0 8)     (hq : ∀ (r : Int32) (T : HS), IV T → Gr S T → bl r → (S = T) ∧ (r = 1 → 0 ≤ v1 ∧ v1 < 12) → Q r T) : P_X8_hasRoad v0 v1 Q S := by
  have g0 := gr_rf S
  refine u_X8_hasRoad ?_
  refine u_X8_hasRoad_0 ?_
  refine ⟨fun c1 => ?_, fun c1 => ?_⟩
  · exact hq _ _ hI g0 (Or.inl rfl) ⟨rfl, (q23 c1)⟩
  · refine ⟨o_v0, ?_⟩
    intro x2 ex2
    have r_x2 : (0 : Int32) ≤ x2 ∧ x2 ≤ (12 : Int32) := by rw [ex2]; exact nu 13 rfl hI o_v0
    have d_x2 := ex2
    refine ⟨fun c3 => ?_, fun c3 => ?_⟩
    · exact hq _ _ hI g0 (Or.inl rfl) ⟨rfl, (q24 c1 r_x2 c3)⟩
    · obtain ⟨a4, ea4, o_a4, l_a4⟩ := shl 17 rfl hI o_v0
      refine ⟨a4, ea4, ?_⟩
      refine ⟨o_a4, ?_⟩
      have n_a4 : nI (hN S a4) = 12 := by rw [show hN S a4 = 12 from l_a4]; decide
      refine ⟨fun c5 => ?_, fun c5 => ?_⟩
      · rw [n_a4] at c5
        exact hq _ _ hI g0 (Or.inl rfl) ⟨rfl, (q25 c1 r_x2 c3 c5)⟩
      · rw [n_a4] at c5
        exact hq _ _ hI g0 (Or.inr rfl) ⟨rfl, (q26 c1 r_x2 c3 c5)⟩
set_option maxHeartbeats 4000000 in
set_option maxRecDepth 20000 in
theorem m_X8_hasSeen {v0 : Nat} {v1 : Int32} {Q : Int32 → HS → Prop} {S : HS} (hI : IV S) (o_v0 : ob S v0 8)     (hq : ∀ (r : Int32) (T : HS), IV T → Gr S T → bl r → (S = T) ∧ (r = 1 → 0 ≤ v1 ∧ v1 < 4) → Q r T) : P_X8_hasSeen v0 v1 Q S := by
  have g0 := gr_rf S
  refine u_X8_hasSeen ?_
  refine u_X8_hasSeen_0 ?_
  refine ⟨fun c1 => ?_, fun c1 => ?_⟩
  · exact hq _ _ hI g0 (Or.inl rfl) ⟨rfl, (q19 c1)⟩
  · refine ⟨o_v0, ?_⟩
    intro x2 ex2
    have r_x2 : (0 : Int32) ≤ x2 ∧ x2 ≤ (4 : Int32) := by rw [ex2]; exact nu 15 rfl hI o_v0
    have d_x2 := ex2
    refine ⟨fun c3 => ?_, fun c3 => ?_⟩
    · exact hq _ _ hI g0 (Or.inl rfl) ⟨rfl, (q20 c1 r_x2 c3)⟩
    · obtain ⟨a4, ea4, o_a4, l_a4⟩ := shl 19 rfl hI o_v0
      refine ⟨a4, ea4, ?_⟩
      refine ⟨o_a4, ?_⟩
      have n_a4 : nI (hN S a4) = 4 := by rw [show hN S a4 = 4 from l_a4]; decide
      refine ⟨fun c5 => ?_, fun c5 => ?_⟩
      · rw [n_a4] at c5
        exact hq _ _ hI g0 (Or.inl rfl) ⟨rfl, (q21 c1 r_x2 c3 c5)⟩
      · rw [n_a4] at c5
        exact hq _ _ hI g0 (Or.inr rfl) ⟨rfl, (q22 c1 r_x2 c3 c5)⟩
set_option maxHeartbeats 4000000 in
set_option maxRecDepth 20000 in
theorem m_X8_hasWalker {v0 : Nat} {v1 : Int32} {Q : Int32 → HS → Prop} {S : HS} (hI : IV S) (o_v0 : ob S v0 8)     (hq : ∀ (r : Int32) (T : HS), IV T → Gr S T → bl r → (S = T) ∧ (r = 1 → 0 ≤ v1 ∧ v1 < 4) → Q r T) : P_X8_hasWalker v0 v1 Q S := by
  have g0 := gr_rf S
  refine u_X8_hasWalker ?_
  refine u_X8_hasWalker_0 ?_
  refine ⟨fun c1 => ?_, fun c1 => ?_⟩
  · exact hq _ _ hI g0 (Or.inl rfl) ⟨rfl, (q19 c1)⟩
  · refine ⟨o_v0, ?_⟩
    intro x2 ex2
    have r_x2 : (0 : Int32) ≤ x2 ∧ x2 ≤ (4 : Int32) := by rw [ex2]; exact nu 14 rfl hI o_v0
    have d_x2 := ex2
    refine ⟨fun c3 => ?_, fun c3 => ?_⟩
    · exact hq _ _ hI g0 (Or.inl rfl) ⟨rfl, (q20 c1 r_x2 c3)⟩
    · obtain ⟨a4, ea4, o_a4, l_a4⟩ := shl 18 rfl hI o_v0
      refine ⟨a4, ea4, ?_⟩
      refine ⟨o_a4, ?_⟩
      have n_a4 : nI (hN S a4) = 4 := by rw [show hN S a4 = 4 from l_a4]; decide
      refine ⟨fun c5 => ?_, fun c5 => ?_⟩
      · rw [n_a4] at c5
        exact hq _ _ hI g0 (Or.inl rfl) ⟨rfl, (q21 c1 r_x2 c3 c5)⟩
      · rw [n_a4] at c5
        exact hq _ _ hI g0 (Or.inr rfl) ⟨rfl, (q22 c1 r_x2 c3 c5)⟩
set_option maxHeartbeats 4000000 in
set_option maxRecDepth 20000 in
theorem m_X1_fitCode {v0 : Nat} {v1 : Nat} {v2 : Int32} {v3 : Int32} {Q : Int32 → HS → Prop} {S : HS} (hI : IV S) (o_v0 : ob S v0 1) (o_v1 : ob S v1 8)     (hq : ∀ (r : Int32) (T : HS), IV T → Gr S T → FRI [] [] S T → Q r T) : P_X1_fitCode v0 v1 v2 v3 Q S := by
  have g0 := gr_rf S
  have f0 := fri_rf [] [] S
  refine u_X1_fitCode ?_
  refine u_X1_fitCode_0 ?_
  refine ⟨fun c1 => ?_, fun c1 => ?_⟩
  · exact hq _ _ hI g0 f0
  · refine u_X1_legsOf ?_
    refine u_X1_legsOf_0 ?_
    refine ⟨o_v1, ?_⟩
    intro x2 ex2
    have r_x2 : (0 : Int32) ≤ x2 ∧ x2 ≤ (12 : Int32) := by rw [ex2]; exact nu 13 rfl hI o_v1
    have d_x2 := ex2
    intro x3 ex3
    have r_x3 : (0 : Int32) ≤ x3 ∧ x3 ≤ (6 : Int32) := by rw [ex3]; exact nu 11 rfl hI o_v1
    have d_x3 := ex3
    intro _
    refine ⟨fun c5 => ?_, fun c5 => ?_⟩
    · exact hq _ _ hI g0 f0
    · refine ⟨o_v1, ?_⟩
      refine m_X8_hasSeen hI o_v1 (fun x6 S7 hI2 g8 b_x6 p_x6 => ?_)
      obtain ⟨z_S7, p_x6⟩ := p_x6
      subst z_S7
      intro _ _
      have bb_x6 : x6 = 0 ∨ x6 = 1 := b_x6
      refine ⟨fun c10 => ?_, fun c10 => ?_⟩
      · exact hq _ _ hI g0 f0
      · intro x11 ex11
        have r_x11 : (0 : Int32) ≤ x11 ∧ x11 ≤ (6 : Int32) := by rw [ex11]; exact nu 11 rfl hI o_v1
        have q_x11 : x11 = x3 := ex11.trans d_x3.symm
        have d_x11 := ex11
        refine ⟨fun c12 => ?_, fun c12 => ?_⟩
        · intro x13 ex13
          intro x14 ex14
          intro x15 ex15
          have dv_x15 : 0 ≤ x15 ∧ x15 ≤ v3 := by rw [ex15]; exact dv0 (q1329 c1 r_x3 c5 p_x6 bb_x6 c10 r_x11 q_x11 c12 ex13 ex14 ex15) (by decide)
          intro x16 ex16
          have r_x16 : (0 : Int32) ≤ x16 ∧ x16 ≤ (6 : Int32) := by rw [ex16]; exact nu 11 rfl hI o_v1
          have q_x16 : x16 = x11 := ex16.trans d_x11.symm
          have d_x16 := ex16
          refine ⟨(q1330 c1 r_x3 c5 p_x6 bb_x6 c10 r_x11 q_x11 c12 ex13 ex14 ex15 dv_x15 r_x16 q_x16), ?_⟩
          intro x17 ex17
          have dv_x17 : 0 ≤ x17 ∧ x17 < x16 := by rw [ex17]; exact rm_rng (q1331 c1 r_x3 c5 p_x6 bb_x6 c10 r_x11 q_x11 c12 ex13 ex14 ex15 dv_x15 r_x16 q_x16) (q1332 c1 r_x3 c5 p_x6 bb_x6 c10 r_x11 q_x11 c12 ex13 ex14 ex15 dv_x15 r_x16 q_x16)
          intro x18 ex18
          intro x19 ex19
          have r_x19 : (0 : Int32) ≤ x19 ∧ x19 ≤ (6 : Int32) := by rw [ex19]; exact nu 11 rfl hI o_v1
          have q_x19 : x19 = x16 := ex19.trans d_x16.symm
          have d_x19 := ex19
          refine ⟨(q1333 c1 r_x3 c5 p_x6 bb_x6 c10 r_x11 q_x11 c12 ex13 ex14 ex15 dv_x15 r_x16 q_x16 dv_x17 ex18 r_x19 q_x19), ?_⟩
          intro x20 ex20
          obtain ⟨a21, ea21, o_a21, l_a21⟩ := shl 19 rfl hI o_v1
          refine ⟨a21, ea21, ?_⟩
          refine ⟨o_a21, ?_⟩
          refine ⟨(vin l_a21 (m := 4) (by decide) (q1334 c1 r_x3 c5 p_x6 bb_x6 c10 r_x11 q_x11 c12 ex13 ex14 ex15 dv_x15 r_x16 q_x16 dv_x17 ex18 r_x19 q_x19 ex20)), ?_⟩
          intro x22 ex22
          refine m_X8_hasWalker hI o_v1 (fun x23 S24 hI2 g25 b_x23 p_x23 => ?_)
          obtain ⟨z_S24, p_x23⟩ := p_x23
          subst z_S24
          intro _ _
          have bb_x23 : x23 = 0 ∨ x23 = 1 := b_x23
          refine ⟨fun c27 => ?_, fun c27 => ?_⟩
          · exact hq _ _ hI g0 f0
          · intro x28 ex28
            refine m_X8_hasRoad hI o_v1 (fun x29 S30 hI2 g31 b_x29 p_x29 => ?_)
            obtain ⟨z_S30, p_x29⟩ := p_x29
            subst z_S30
            intro _ _
            have bb_x29 : x29 = 0 ∨ x29 = 1 := b_x29
            refine ⟨fun c33 => ?_, fun c33 => ?_⟩
            · exact hq _ _ hI g0 f0
            · obtain ⟨a34, ea34, o_a34, l_a34⟩ := shl 18 rfl hI o_v1
              refine ⟨a34, ea34, ?_⟩
              refine ⟨o_a34, ?_⟩
              have i36 : vp_in x22 (hN _ a34) := (vin l_a34 (m := 4) (by decide) (q1335 c1 r_x3 c5 p_x6 bb_x6 c10 r_x11 q_x11 c12 ex13 ex14 ex15 dv_x15 r_x16 q_x16 dv_x17 ex18 r_x19 q_x19 ex20 p_x23 bb_x23 c27 ex28 p_x29 bb_x29 c33))
              obtain ⟨a35, ea35, o_a35⟩ := ae hI o_a34 (by decide) (by decide) i36
              replace o_a35 : ob _ a35 6 := o_a35
              refine ⟨i36, a35, ea35, ?_⟩
              refine ⟨o_a35, ?_⟩
              refine m_X6_canGo hI o_a35 (fun x37 S38 hI2 g39 b_x37 p_x37 => ?_)
              subst p_x37
              intro _ _
              have bb_x37 : x37 = 0 ∨ x37 = 1 := b_x37
              refine ⟨fun c41 => ?_, fun c41 => ?_⟩
              · refine ⟨a34, ea34, ?_⟩
                refine ⟨o_a34, ?_⟩
                have i44 : vp_in x22 (hN _ a34) := (vin l_a34 (m := 4) (by decide) (q1336 c1 r_x3 c5 p_x6 bb_x6 c10 r_x11 q_x11 c12 ex13 ex14 ex15 dv_x15 r_x16 q_x16 dv_x17 ex18 r_x19 q_x19 ex20 p_x23 bb_x23 c27 ex28 p_x29 bb_x29 c33 bb_x37 c41))
                obtain ⟨a43, ea43, o_a43⟩ := ae hI o_a34 (by decide) (by decide) i44
                replace o_a43 : ob _ a43 6 := o_a43
                refine ⟨i44, a43, ea43, ?_⟩
                obtain ⟨a45, ea45, o_a45, l_a45⟩ := shl 17 rfl hI o_v1
                refine ⟨a45, ea45, ?_⟩
                intro x46 ex46
                refine ⟨o_a45, ?_⟩
                have i48 : vp_in x46 (hN _ a45) := (vin l_a45 (m := 12) (by decide) (q1337 c1 r_x3 c5 p_x6 bb_x6 c10 r_x11 q_x11 c12 ex13 ex14 ex15 dv_x15 r_x16 q_x16 dv_x17 ex18 r_x19 q_x19 ex20 p_x23 bb_x23 c27 ex28 p_x29 bb_x29 c33 bb_x37 c41 ex46))
                obtain ⟨a47, ea47, o_a47⟩ := ae hI o_a45 (by decide) (by decide) i48
                replace o_a47 : ob _ a47 5 := o_a47
                refine ⟨i48, a47, ea47, ?_⟩
                intro x49 ex49
                obtain ⟨a50, ea50, o_a50, l_a50⟩ := shl 15 rfl hI o_v1
                refine ⟨a50, ea50, ?_⟩
                refine ⟨o_a50, ?_⟩
                have i52 : vp_in x17 (hN _ a50) := (vin l_a50 (m := 6) (by decide) (q1338 c1 r_x3 c5 p_x6 bb_x6 c10 r_x11 q_x11 c12 ex13 ex14 ex15 dv_x15 r_x16 q_x16 dv_x17 ex18 r_x19 q_x19 ex20 p_x23 bb_x23 c27 ex28 p_x29 bb_x29 c33 bb_x37 c41 ex46 ex49))
                obtain ⟨a51, ea51, o_a51⟩ := ae hI o_a50 (by decide) (by decide) i52
                replace o_a51 : ob _ a51 3 := o_a51
                refine ⟨i52, a51, ea51, ?_⟩
                refine ⟨o_v0, ?_⟩
                refine m_X1_wetOf hI o_v0 o_a43 o_a47 o_a51 (fun x53 S54 hJ g55 fc56 => ?_)
                have hI := hJ
                have l_a21 := (gr_len g55 o_a21).trans l_a21
                have l_a34 := (gr_len g55 o_a34).trans l_a34
                have l_a45 := (gr_len g55 o_a45).trans l_a45
                have l_a50 := (gr_len g55 o_a50).trans l_a50
                have d_x2 := d_x2.trans (fri_at fc56 (by decide) (by decide) o_v1).symm
                have d_x19 := d_x19.trans (fri_at fc56 (by decide) (by decide) o_v1).symm
                have ea21 := (frr_at fc56 (by decide) (by decide) o_v1).trans ea21
                have ea34 := (frr_at fc56 (by decide) (by decide) o_v1).trans ea34
                have ea45 := (frr_at fc56 (by decide) (by decide) o_v1).trans ea45
                have ea50 := (frr_at fc56 (by decide) (by decide) o_v1).trans ea50
                have f0 := fri_tr (S := S) g0 f0 fc56 (by decide) (by decide)
                have o_a21 := gr_ob g55 o_a21
                have o_a34 := gr_ob g55 o_a34
                have o_a35 := gr_ob g55 o_a35
                have o_a43 := gr_ob g55 o_a43
                have o_a45 := gr_ob g55 o_a45
                have o_a47 := gr_ob g55 o_a47
                have o_a50 := gr_ob g55 o_a50
                have o_a51 := gr_ob g55 o_a51
                have o_v0 := gr_ob g55 o_v0
                have o_v1 := gr_ob g55 o_v1
                have g0 := gr_tr (T := S) g0 g55
                intro _
                refine i_X1_fitCode_141 (fun (y0 : Nat) (y1 : Nat) (y2 : Int32) (y4 : Int32) (y5 : Int32) (y6 : Int32) (y8 : Int32) (Z : HS) => ((2147483647 : Int32).toInt - y8.toInt).toNat) (fun (y0 : Nat) (y1 : Nat) (y2 : Int32) (y4 : Int32) (y5 : Int32) (y6 : Int32) (y8 : Int32) (Z : HS) => (S54 = Z) ∧ (v0 = y0) ∧ (v1 = y1) ∧ (v2 = y2) ∧ (x14 = y4) ∧ (x17 = y5) ∧ (x20 = y6) ∧ (0 ≤ y8)) ?_ _ _ _ _ _ _ _ _ ⟨rfl, rfl, rfl, rfl, rfl, rfl, rfl, (q1339 c1 r_x3 c5 p_x6 bb_x6 c10 r_x11 q_x11 c12 ex13 ex14 ex15 dv_x15 r_x16 q_x16 dv_x17 ex18 r_x19 q_x19 ex20 p_x23 bb_x23 c27 ex28 p_x29 bb_x29 c33 bb_x37 c41 ex46 ex49)⟩
                intro w61 w63 w65 w67 w69 w71 w73 S58 X74 ⟨eS58, q62, q64, q66, q68, q70, q72, i1u57⟩ ih75
                subst q62
                subst q64
                subst q66
                subst q68
                subst q70
                subst q72
                subst eS58
                refine u_X1_fitCode_141 ?_
                refine ⟨fun c76 => ?_, fun c76 => ?_⟩
                · intro x77 ex77
                  intro x78 ex78
                  exact hq _ _ hI g0 f0
                · refine ⟨o_v0, ?_⟩
                  obtain ⟨a79, ea79, o_a79, l_a79⟩ := shl 9 rfl hI o_v0
                  refine ⟨a79, ea79, ?_⟩
                  refine ⟨o_a79, ?_⟩
                  refine ⟨(vin l_a79 (m := 5) (by decide) (q1340 c1 r_x3 c5 p_x6 bb_x6 c10 r_x11 q_x11 c12 ex13 ex14 ex15 dv_x15 r_x16 q_x16 dv_x17 ex18 r_x19 q_x19 ex20 p_x23 bb_x23 c27 ex28 p_x29 bb_x29 c33 bb_x37 c41 ex46 ex49 i1u57 c76)), ?_⟩
                  intro x80 ex80
                  refine ⟨o_v1, ?_⟩
                  obtain ⟨a81, ea81, o_a81, l_a81⟩ := shl 20 rfl hI o_v1
                  refine ⟨a81, ea81, ?_⟩
                  refine ⟨o_a81, ?_⟩
                  intro x82 ex82
                  refine ⟨(vin l_a81 (m := 20) (by decide) (q1341 c1 r_x3 c5 p_x6 bb_x6 c10 r_x11 q_x11 c12 ex13 ex14 ex15 dv_x15 r_x16 q_x16 dv_x17 ex18 r_x19 q_x19 ex20 p_x23 bb_x23 c27 ex28 p_x29 bb_x29 c33 bb_x37 c41 ex46 ex49 i1u57 c76 ex82)), ?_⟩
                  intro x83 ex83
                  refine ⟨fun c84 => ?_, fun c84 => ?_⟩
                  · intro x85 ex85
                    exact ih75 _ _ _ _ _ _ _ _ ⟨rfl, rfl, rfl, rfl, rfl, rfl, rfl, (q1342 c1 r_x3 c5 p_x6 bb_x6 c10 r_x11 q_x11 c12 ex13 ex14 ex15 dv_x15 r_x16 q_x16 dv_x17 ex18 r_x19 q_x19 ex20 p_x23 bb_x23 c27 ex28 p_x29 bb_x29 c33 bb_x37 c41 ex46 ex49 i1u57 c76 ex82 c84 ex85)⟩ (mu_up (q1343 c1 r_x3 c5 p_x6 bb_x6 c10 r_x11 q_x11 c12 ex13 ex14 ex15 dv_x15 r_x16 q_x16 dv_x17 ex18 r_x19 q_x19 ex20 p_x23 bb_x23 c27 ex28 p_x29 bb_x29 c33 bb_x37 c41 ex46 ex49 i1u57 c76 ex82 c84 ex85) (q1344 c1 r_x3 c5 p_x6 bb_x6 c10 r_x11 q_x11 c12 ex13 ex14 ex15 dv_x15 r_x16 q_x16 dv_x17 ex18 r_x19 q_x19 ex20 p_x23 bb_x23 c27 ex28 p_x29 bb_x29 c33 bb_x37 c41 ex46 ex49 i1u57 c76 ex82 c84 ex85))
                  · exact hq _ _ hI g0 f0
              · exact hq _ _ hI g0 f0
        · exact hq _ _ hI g0 f0
