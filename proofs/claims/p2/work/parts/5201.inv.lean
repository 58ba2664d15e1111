set_option maxHeartbeats 4000000 in
set_option maxRecDepth 20000 in
theorem m_X6_shield {v0 : Nat} {Q : Int32 → HS → Prop} {S : HS} (hI : IV S) (o_v0 : ob S v0 6)     (hq : ∀ (r : Int32) (T : HS), IV T → Gr S T → (S = T) → Q r T) : P_X6_shield v0 Q S := by
  have g0 := gr_rf S
  refine u_X6_shield ?_
  refine u_X6_shield_0 ?_
  refine ⟨o_v0, ?_⟩
  intro x1 ex1
  have d_x1 := ex1
  refine ⟨fun c2 => ?_, fun c2 => ?_⟩
  · exact hq _ _ hI g0 rfl
  · intro x3 ex3
    have d_x3 := ex3
    exact hq _ _ hI g0 rfl
set_option maxHeartbeats 4000000 in
set_option maxRecDepth 20000 in
theorem m_X1_isForward {v0 : Nat} {v1 : Nat} {Q : Int32 → HS → Prop} {S : HS} (hI : IV S) (o_v0 : ob S v0 1) (o_v1 : ob S v1 6)     (hq : ∀ (r : Int32) (T : HS), IV T → Gr S T → bl r → (S = T) → Q r T) : P_X1_isForward v0 v1 Q S := by
  have g0 := gr_rf S
  refine u_X1_isForward ?_
  refine u_X1_isForward_0 ?_
  refine ⟨o_v0, ?_⟩
  obtain ⟨a1, ea1, o_a1, l_a1⟩ := shl 10 rfl hI o_v0
  refine ⟨a1, ea1, ?_⟩
  refine ⟨o_a1, ?_⟩
  refine ⟨(vin l_a1 (m := 5) (by decide) (q74)), ?_⟩
  intro x2 ex2
  refine ⟨o_v1, ?_⟩
  refine m_X6_shield hI o_v1 (fun x3 S4 hI2 g5 p_x3 => ?_)
  subst p_x3
  intro _
  intro x7 ex7
  have d_x7 := ex7
  intro x8 ex8
  intro x9 ex9
  refine ⟨a1, ea1, ?_⟩
  refine ⟨o_a1, ?_⟩
  refine ⟨(vin l_a1 (m := 5) (by decide) (q75)), ?_⟩
  intro x11 ex11
  refine m_X6_shield hI o_v1 (fun x12 S13 hI2 g14 p_x12 => ?_)
  subst p_x12
  intro _
  intro x16 ex16
  have d_x16 := ex16
  intro x17 ex17
  intro x18 ex18
  refine ⟨fun c19 => ?_, fun c19 => ?_⟩
  · exact hq _ _ hI g0 (Or.inl rfl) rfl
  · exact hq _ _ hI g0 (Or.inr rfl) rfl
set_option maxHeartbeats 4000000 in
set_option maxRecDepth 20000 in
theorem m_X1_soak {v0 : Nat} {v1 : Nat} {v2 : Int32} {v3 : Int32} {Q : Int64 → HS → Prop} {S : HS} (hI : IV S) (o_v0 : ob S v0 1) (o_v1 : ob S v1 6)     (hq : ∀ (r : Int64) (T : HS), IV T → Gr S T → FRI [] [] S T → Q r T) : P_X1_soak v0 v1 v2 v3 Q S := by
  have g0 := gr_rf S
  have f0 := fri_rf [] [] S
  refine u_X1_soak ?_
  refine u_X1_soak_0 ?_
  refine ⟨o_v0, ?_⟩
  refine m_X1_isForward hI o_v0 o_v1 (fun x1 S2 hI2 g3 b_x1 p_x1 => ?_)
  subst p_x1
  intro _ _
  have bb_x1 : x1 = 0 ∨ x1 = 1 := b_x1
  refine ⟨fun c5 => ?_, fun c5 => ?_⟩
  · refine ⟨o_v1, ?_⟩
    refine m_X6_shield hI o_v1 (fun x6 S7 hI2 g8 p_x6 => ?_)
    subst p_x6
    intro _
    refine u_X1_soak_20 ?_
    refine ⟨fun c10 => ?_, fun c10 => ?_⟩
    · refine u_X1_soak_35 ?_
      refine ⟨o_v0, ?_⟩
      obtain ⟨a11, ea11, o_a11, l_a11⟩ := shl 9 rfl hI o_v0
      refine ⟨a11, ea11, ?_⟩
      obtain ⟨a12, ea12, o_a12, l_a12⟩ := shl 10 rfl hI o_v0
      refine ⟨a12, ea12, ?_⟩
      refine ⟨o_a12, ?_⟩
      refine ⟨(vin l_a12 (m := 5) (by decide) (q35 bb_x1 c5 c10)), ?_⟩
      intro x13 ex13
      refine ⟨o_v1, ?_⟩
      intro x14 ex14
      have d_x14 := ex14
      intro x15 ex15
      refine ⟨o_a11, ?_⟩
      intro x16 ex16
      have i17 : vp_in (0 : Int32) (hN _ a11) := (vin l_a11 (m := 5) (by decide) (q35 bb_x1 c5 c10))
      refine ⟨i17, ?_⟩
      have hI := iv_aJ (i := (0 : Int32).toNatClampNeg) (v := x16) hI o_v0 (by decide) ea11 o_a11 (by decide)
      refine ⟨a11, ea11, ?_⟩
      refine ⟨a12, ea12, ?_⟩
      refine ⟨o_a12, ?_⟩
      refine ⟨(vin l_a12 (m := 5) (by decide) (q36 bb_x1 c5 c10)), ?_⟩
      intro x20 ex20
      intro x21 ex21
      have d_x21 := ex21
      intro x22 ex22
      refine ⟨o_a11, ?_⟩
      intro x23 ex23
      have i24 : vp_in (1 : Int32) (hN _ a11) := (vin l_a11 (m := 5) (by decide) (q36 bb_x1 c5 c10))
      refine ⟨i24, ?_⟩
      have hI := iv_aJ (i := (1 : Int32).toNatClampNeg) (v := x23) hI o_v0 (by decide) ea11 o_a11 (by decide)
      refine ⟨a11, ea11, ?_⟩
      refine ⟨a12, ea12, ?_⟩
      refine ⟨o_a12, ?_⟩
      refine ⟨(vin l_a12 (m := 5) (by decide) (q37 bb_x1 c5 c10)), ?_⟩
      intro x27 ex27
      intro x28 ex28
      have q_x28 : x28 = x21 := ex28.trans d_x21.symm
      have d_x28 := ex28
      intro x29 ex29
      refine ⟨o_a11, ?_⟩
      intro x30 ex30
      have i31 : vp_in (2 : Int32) (hN _ a11) := (vin l_a11 (m := 5) (by decide) (q37 bb_x1 c5 c10))
      refine ⟨i31, ?_⟩
      have hI := iv_aJ (i := (2 : Int32).toNatClampNeg) (v := x30) hI o_v0 (by decide) ea11 o_a11 (by decide)
      refine ⟨a11, ea11, ?_⟩
      refine ⟨a12, ea12, ?_⟩
      refine ⟨o_a12, ?_⟩
      refine ⟨(vin l_a12 (m := 5) (by decide) (q38 bb_x1 c5 c10)), ?_⟩
      intro x34 ex34
      intro x35 ex35
      have d_x35 := ex35
      refine ⟨o_a11, ?_⟩
      intro x36 ex36
      have i37 : vp_in (3 : Int32) (hN _ a11) := (vin l_a11 (m := 5) (by decide) (q38 bb_x1 c5 c10))
      refine ⟨i37, ?_⟩
      have hI := iv_aJ (i := (3 : Int32).toNatClampNeg) (v := x36) hI o_v0 (by decide) ea11 o_a11 (by decide)
      refine ⟨a11, ea11, ?_⟩
      refine ⟨a12, ea12, ?_⟩
      refine ⟨o_a12, ?_⟩
      refine ⟨(vin l_a12 (m := 5) (by decide) (q39 bb_x1 c5 c10)), ?_⟩
      intro x40 ex40
      intro x41 ex41
      have q_x41 : x41 = x35 := ex41.trans d_x35.symm
      have d_x41 := ex41
      refine ⟨o_a11, ?_⟩
      intro x42 ex42
      have i43 : vp_in (4 : Int32) (hN _ a11) := (vin l_a11 (m := 5) (by decide) (q39 bb_x1 c5 c10))
      refine ⟨i43, ?_⟩
      have hI := iv_aJ (i := (4 : Int32).toNatClampNeg) (v := x42) hI o_v0 (by decide) ea11 o_a11 (by decide)
      refine ⟨a11, ea11, ?_⟩
      refine ⟨o_a11, ?_⟩
      refine ⟨(vin l_a11 (m := 5) (by decide) (q35 bb_x1 c5 c10)), ?_⟩
      intro x45 ex45
      refine ⟨a11, ea11, ?_⟩
      refine ⟨o_a11, ?_⟩
      refine ⟨(vin l_a11 (m := 5) (by decide) (q36 bb_x1 c5 c10)), ?_⟩
      intro x47 ex47
      refine ⟨a11, ea11, ?_⟩
      refine ⟨o_a11, ?_⟩
      refine ⟨(vin l_a11 (m := 5) (by decide) (q37 bb_x1 c5 c10)), ?_⟩
      intro x49 ex49
      refine ⟨a11, ea11, ?_⟩
      refine ⟨o_a11, ?_⟩
      refine ⟨(vin l_a11 (m := 5) (by decide) (q38 bb_x1 c5 c10)), ?_⟩
      intro x51 ex51
      refine ⟨a11, ea11, ?_⟩
      refine ⟨o_a11, ?_⟩
      refine ⟨(vin l_a11 (m := 5) (by decide) (q39 bb_x1 c5 c10)), ?_⟩
      intro x53 ex53
      exact hq _ _ hI g0 f0
    · refine ⟨o_v1, ?_⟩
      refine m_X6_shield hI o_v1 (fun x54 S55 hI2 g56 p_x54 => ?_)
      subst p_x54
      intro _
      refine u_X1_soak_35 ?_
      refine ⟨o_v0, ?_⟩
      obtain ⟨a58, ea58, o_a58, l_a58⟩ := shl 9 rfl hI o_v0
      refine ⟨a58, ea58, ?_⟩
      obtain ⟨a59, ea59, o_a59, l_a59⟩ := shl 10 rfl hI o_v0
      refine ⟨a59, ea59, ?_⟩
      refine ⟨o_a59, ?_⟩
      refine ⟨(vin l_a59 (m := 5) (by decide) (q40 bb_x1 c5 c10)), ?_⟩
      intro x60 ex60
      refine ⟨o_v1, ?_⟩
      intro x61 ex61
      have d_x61 := ex61
      intro x62 ex62
      refine ⟨o_a58, ?_⟩
      intro x63 ex63
      have i64 : vp_in (0 : Int32) (hN _ a58) := (vin l_a58 (m := 5) (by decide) (q40 bb_x1 c5 c10))
      refine ⟨i64, ?_⟩
      have hI := iv_aJ (i := (0 : Int32).toNatClampNeg) (v := x63) hI o_v0 (by decide) ea58 o_a58 (by decide)
      refine ⟨a58, ea58, ?_⟩
      refine ⟨a59, ea59, ?_⟩
      refine ⟨o_a59, ?_⟩
      refine ⟨(vin l_a59 (m := 5) (by decide) (q41 bb_x1 c5 c10)), ?_⟩
      intro x67 ex67
      intro x68 ex68
      have d_x68 := ex68
      intro x69 ex69
      refine ⟨o_a58, ?_⟩
      intro x70 ex70
      have i71 : vp_in (1 : Int32) (hN _ a58) := (vin l_a58 (m := 5) (by decide) (q41 bb_x1 c5 c10))
      refine ⟨i71, ?_⟩
      have hI := iv_aJ (i := (1 : Int32).toNatClampNeg) (v := x70) hI o_v0 (by decide) ea58 o_a58 (by decide)
      refine ⟨a58, ea58, ?_⟩
      refine ⟨a59, ea59, ?_⟩
      refine ⟨o_a59, ?_⟩
      refine ⟨(vin l_a59 (m := 5) (by decide) (q42 bb_x1 c5 c10)), ?_⟩
      intro x74 ex74
      intro x75 ex75
      have q_x75 : x75 = x68 := ex75.trans d_x68.symm
      have d_x75 := ex75
      intro x76 ex76
      refine ⟨o_a58, ?_⟩
      intro x77 ex77
      have i78 : vp_in (2 : Int32) (hN _ a58) := (vin l_a58 (m := 5) (by decide) (q42 bb_x1 c5 c10))
      refine ⟨i78, ?_⟩
      have hI := iv_aJ (i := (2 : Int32).toNatClampNeg) (v := x77) hI o_v0 (by decide) ea58 o_a58 (by decide)
      refine ⟨a58, ea58, ?_⟩
      refine ⟨a59, ea59, ?_⟩
      refine ⟨o_a59, ?_⟩
      refine ⟨(vin l_a59 (m := 5) (by decide) (q43 bb_x1 c5 c10)), ?_⟩
      intro x81 ex81
      intro x82 ex82
      have d_x82 := ex82
      refine ⟨o_a58, ?_⟩
      intro x83 ex83
      have i84 : vp_in (3 : Int32) (hN _ a58) := (vin l_a58 (m := 5) (by decide) (q43 bb_x1 c5 c10))
      refine ⟨i84, ?_⟩
      have hI := iv_aJ (i := (3 : Int32).toNatClampNeg) (v := x83) hI o_v0 (by decide) ea58 o_a58 (by decide)
      refine ⟨a58, ea58, ?_⟩
      refine ⟨a59, ea59, ?_⟩
      refine ⟨o_a59, ?_⟩
      refine ⟨(vin l_a59 (m := 5) (by decide) (q44 bb_x1 c5 c10)), ?_⟩
      intro x87 ex87
      intro x88 ex88
      have q_x88 : x88 = x82 := ex88.trans d_x82.symm
      have d_x88 := ex88
      refine ⟨o_a58, ?_⟩
      intro x89 ex89
      have i90 : vp_in (4 : Int32) (hN _ a58) := (vin l_a58 (m := 5) (by decide) (q44 bb_x1 c5 c10))
      refine ⟨i90, ?_⟩
      have hI := iv_aJ (i := (4 : Int32).toNatClampNeg) (v := x89) hI o_v0 (by decide) ea58 o_a58 (by decide)
      refine ⟨a58, ea58, ?_⟩
      refine ⟨o_a58, ?_⟩
      refine ⟨(vin l_a58 (m := 5) (by decide) (q40 bb_x1 c5 c10)), ?_⟩
      intro x92 ex92
      refine ⟨a58, ea58, ?_⟩
      refine ⟨o_a58, ?_⟩
      refine ⟨(vin l_a58 (m := 5) (by decide) (q41 bb_x1 c5 c10)), ?_⟩
      intro x94 ex94
      refine ⟨a58, ea58, ?_⟩
      refine ⟨o_a58, ?_⟩
      refine ⟨(vin l_a58 (m := 5) (by decide) (q42 bb_x1 c5 c10)), ?_⟩
      intro x96 ex96
      refine ⟨a58, ea58, ?_⟩
      refine ⟨o_a58, ?_⟩
      refine ⟨(vin l_a58 (m := 5) (by decide) (q43 bb_x1 c5 c10)), ?_⟩
      intro x98 ex98
      refine ⟨a58, ea58, ?_⟩
      refine ⟨o_a58, ?_⟩
      refine ⟨(vin l_a58 (m := 5) (by decide) (q44 bb_x1 c5 c10)), ?_⟩
      intro x100 ex100
      exact hq _ _ hI g0 f0
  · refine u_X1_soak_20 ?_
    refine ⟨fun c101 => ?_, fun c101 => ?_⟩
    · refine u_X1_soak_35 ?_
      refine ⟨o_v0, ?_⟩
      obtain ⟨a102, ea102, o_a102, l_a102⟩ := shl 9 rfl hI o_v0
      refine ⟨a102, ea102, ?_⟩
      obtain ⟨a103, ea103, o_a103, l_a103⟩ := shl 10 rfl hI o_v0
      refine ⟨a103, ea103, ?_⟩
      refine ⟨o_a103, ?_⟩
      refine ⟨(vin l_a103 (m := 5) (by decide) (q45 bb_x1 c5 c101)), ?_⟩
      intro x104 ex104
      refine ⟨o_v1, ?_⟩
      intro x105 ex105
      have d_x105 := ex105
      intro x106 ex106
      refine ⟨o_a102, ?_⟩
      intro x107 ex107
      have i108 : vp_in (0 : Int32) (hN _ a102) := (vin l_a102 (m := 5) (by decide) (q45 bb_x1 c5 c101))
      refine ⟨i108, ?_⟩
      have hI := iv_aJ (i := (0 : Int32).toNatClampNeg) (v := x107) hI o_v0 (by decide) ea102 o_a102 (by decide)
      refine ⟨a102, ea102, ?_⟩
      refine ⟨a103, ea103, ?_⟩
      refine ⟨o_a103, ?_⟩
      refine ⟨(vin l_a103 (m := 5) (by decide) (q46 bb_x1 c5 c101)), ?_⟩
      intro x111 ex111
      intro x112 ex112
      have d_x112 := ex112
      intro x113 ex113
      refine ⟨o_a102, ?_⟩
      intro x114 ex114
      have i115 : vp_in (1 : Int32) (hN _ a102) := (vin l_a102 (m := 5) (by decide) (q46 bb_x1 c5 c101))
      refine ⟨i115, ?_⟩
      have hI := iv_aJ (i := (1 : Int32).toNatClampNeg) (v := x114) hI o_v0 (by decide) ea102 o_a102 (by decide)
      refine ⟨a102, ea102, ?_⟩
      refine ⟨a103, ea103, ?_⟩
      refine ⟨o_a103, ?_⟩
      refine ⟨(vin l_a103 (m := 5) (by decide) (q47 bb_x1 c5 c101)), ?_⟩
      intro x118 ex118
      intro x119 ex119
      have q_x119 : x119 = x112 := ex119.trans d_x112.symm
      have d_x119 := ex119
      intro x120 ex120
      refine ⟨o_a102, ?_⟩
      intro x121 ex121
      have i122 : vp_in (2 : Int32) (hN _ a102) := (vin l_a102 (m := 5) (by decide) (q47 bb_x1 c5 c101))
      refine ⟨i122, ?_⟩
      have hI := iv_aJ (i := (2 : Int32).toNatClampNeg) (v := x121) hI o_v0 (by decide) ea102 o_a102 (by decide)
      refine ⟨a102, ea102, ?_⟩
      refine ⟨a103, ea103, ?_⟩
      refine ⟨o_a103, ?_⟩
      refine ⟨(vin l_a103 (m := 5) (by decide) (q48 bb_x1 c5 c101)), ?_⟩
      intro x125 ex125
      intro x126 ex126
      have d_x126 := ex126
      refine ⟨o_a102, ?_⟩
      intro x127 ex127
      have i128 : vp_in (3 : Int32) (hN _ a102) := (vin l_a102 (m := 5) (by decide) (q48 bb_x1 c5 c101))
      refine ⟨i128, ?_⟩
      have hI := iv_aJ (i := (3 : Int32).toNatClampNeg) (v := x127) hI o_v0 (by decide) ea102 o_a102 (by decide)
      refine ⟨a102, ea102, ?_⟩
      refine ⟨a103, ea103, ?_⟩
      refine ⟨o_a103, ?_⟩
      refine ⟨(vin l_a103 (m := 5) (by decide) (q49 bb_x1 c5 c101)), ?_⟩
      intro x131 ex131
      intro x132 ex132
      have q_x132 : x132 = x126 := ex132.trans d_x126.symm
      have d_x132 := ex132
      refine ⟨o_a102, ?_⟩
      intro x133 ex133
      have i134 : vp_in (4 : Int32) (hN _ a102) := (vin l_a102 (m := 5) (by decide) (q49 bb_x1 c5 c101))
      refine ⟨i134, ?_⟩
      have hI := iv_aJ (i := (4 : Int32).toNatClampNeg) (v := x133) hI o_v0 (by decide) ea102 o_a102 (by decide)
      refine ⟨a102, ea102, ?_⟩
      refine ⟨o_a102, ?_⟩
      refine ⟨(vin l_a102 (m := 5) (by decide) (q45 bb_x1 c5 c101)), ?_⟩
      intro x136 ex136
      refine ⟨a102, ea102, ?_⟩
      refine ⟨o_a102, ?_⟩
      refine ⟨(vin l_a102 (m := 5) (by decide) (q46 bb_x1 c5 c101)), ?_⟩
      intro x138 ex138
      refine ⟨a102, ea102, ?_⟩
      refine ⟨o_a102, ?_⟩
      refine ⟨(vin l_a102 (m := 5) (by decide) (q47 bb_x1 c5 c101)), ?_⟩
      intro x140 ex140
      refine ⟨a102, ea102, ?_⟩
      refine ⟨o_a102, ?_⟩
      refine ⟨(vin l_a102 (m := 5) (by decide) (q48 bb_x1 c5 c101)), ?_⟩
      intro x142 ex142
      refine ⟨a102, ea102, ?_⟩
      refine ⟨o_a102, ?_⟩
      refine ⟨(vin l_a102 (m := 5) (by decide) (q49 bb_x1 c5 c101)), ?_⟩
      intro x144 ex144
      exact hq _ _ hI g0 f0
    · refine ⟨o_v1, ?_⟩
      refine m_X6_shield hI o_v1 (fun x145 S146 hI2 g147 p_x145 => ?_)
      subst p_x145
      intro _
      refine u_X1_soak_35 ?_
      refine ⟨o_v0, ?_⟩
      obtain ⟨a149, ea149, o_a149, l_a149⟩ := shl 9 rfl hI o_v0
      refine ⟨a149, ea149, ?_⟩
      obtain ⟨a150, ea150, o_a150, l_a150⟩ := shl 10 rfl hI o_v0
      refine ⟨a150, ea150, ?_⟩
      refine ⟨o_a150, ?_⟩
      refine ⟨(vin l_a150 (m := 5) (by decide) (q50 bb_x1 c5 c101)), ?_⟩
      intro x151 ex151
      refine ⟨o_v1, ?_⟩
      intro x152 ex152
      have d_x152 := ex152
      intro x153 ex153
      refine ⟨o_a149, ?_⟩
      intro x154 ex154
      have i155 : vp_in (0 : Int32) (hN _ a149) := (vin l_a149 (m := 5) (by decide) (q50 bb_x1 c5 c101))
      refine ⟨i155, ?_⟩
      have hI := iv_aJ (i := (0 : Int32).toNatClampNeg) (v := x154) hI o_v0 (by decide) ea149 o_a149 (by decide)
      refine ⟨a149, ea149, ?_⟩
      refine ⟨a150, ea150, ?_⟩
      refine ⟨o_a150, ?_⟩
      refine ⟨(vin l_a150 (m := 5) (by decide) (q51 bb_x1 c5 c101)), ?_⟩
      intro x158 ex158
      intro x159 ex159
      have d_x159 := ex159
      intro x160 ex160
      refine ⟨o_a149, ?_⟩
      intro x161 ex161
      have i162 : vp_in (1 : Int32) (hN _ a149) := (vin l_a149 (m := 5) (by decide) (q51 bb_x1 c5 c101))
      refine ⟨i162, ?_⟩
      have hI := iv_aJ (i := (1 : Int32).toNatClampNeg) (v := x161) hI o_v0 (by decide) ea149 o_a149 (by decide)
      refine ⟨a149, ea149, ?_⟩
      refine ⟨a150, ea150, ?_⟩
      refine ⟨o_a150, ?_⟩
      refine ⟨(vin l_a150 (m := 5) (by decide) (q52 bb_x1 c5 c101)), ?_⟩
      intro x165 ex165
      intro x166 ex166
      have q_x166 : x166 = x159 := ex166.trans d_x159.symm
      have d_x166 := ex166
      intro x167 ex167
      refine ⟨o_a149, ?_⟩
      intro x168 ex168
      have i169 : vp_in (2 : Int32) (hN _ a149) := (vin l_a149 (m := 5) (by decide) (q52 bb_x1 c5 c101))
      refine ⟨i169, ?_⟩
      have hI := iv_aJ (i := (2 : Int32).toNatClampNeg) (v := x168) hI o_v0 (by decide) ea149 o_a149 (by decide)
      refine ⟨a149, ea149, ?_⟩
      refine ⟨a150, ea150, ?_⟩
      refine ⟨o_a150, ?_⟩
      refine ⟨(vin l_a150 (m := 5) (by decide) (q53 bb_x1 c5 c101)), ?_⟩
      intro x172 ex172
      intro x173 ex173
      have d_x173 := ex173
      refine ⟨o_a149, ?_⟩
      intro x174 ex174
      have i175 : vp_in (3 : Int32) (hN _ a149) := (vin l_a149 (m := 5) (by decide) (q53 bb_x1 c5 c101))
      refine ⟨i175, ?_⟩
      have hI := iv_aJ (i := (3 : Int32).toNatClampNeg) (v := x174) hI o_v0 (by decide) ea149 o_a149 (by decide)
      refine ⟨a149, ea149, ?_⟩
      refine ⟨a150, ea150, ?_⟩
      refine ⟨o_a150, ?_⟩
      refine ⟨(vin l_a150 (m := 5) (by decide) (q54 bb_x1 c5 c101)), ?_⟩
      intro x178 ex178
      intro x179 ex179
      have q_x179 : x179 = x173 := ex179.trans d_x173.symm
      have d_x179 := ex179
      refine ⟨o_a149, ?_⟩
      intro x180 ex180
      have i181 : vp_in (4 : Int32) (hN _ a149) := (vin l_a149 (m := 5) (by decide) (q54 bb_x1 c5 c101))
      refine ⟨i181, ?_⟩
      have hI := iv_aJ (i := (4 : Int32).toNatClampNeg) (v := x180) hI o_v0 (by decide) ea149 o_a149 (by decide)
      refine ⟨a149, ea149, ?_⟩
      refine ⟨o_a149, ?_⟩
      refine ⟨(vin l_a149 (m := 5) (by decide) (q50 bb_x1 c5 c101)), ?_⟩
      intro x183 ex183
      refine ⟨a149, ea149, ?_⟩
      refine ⟨o_a149, ?_⟩
      refine ⟨(vin l_a149 (m := 5) (by decide) (q51 bb_x1 c5 c101)), ?_⟩
      intro x185 ex185
      refine ⟨a149, ea149, ?_⟩
      refine ⟨o_a149, ?_⟩
      refine ⟨(vin l_a149 (m := 5) (by decide) (q52 bb_x1 c5 c101)), ?_⟩
      intro x187 ex187
      refine ⟨a149, ea149, ?_⟩
      refine ⟨o_a149, ?_⟩
      refine ⟨(vin l_a149 (m := 5) (by decide) (q53 bb_x1 c5 c101)), ?_⟩
      intro x189 ex189
      refine ⟨a149, ea149, ?_⟩
      refine ⟨o_a149, ?_⟩
      refine ⟨(vin l_a149 (m := 5) (by decide) (q54 bb_x1 c5 c101)), ?_⟩
      intro x191 ex191
      exact hq _ _ hI g0 f0
set_option maxHeartbeats 4000000 in
set_option maxRecDepth 20000 in
theorem m_X1_wetOf {v0 : Nat} {v1 : Nat} {v2 : Nat} {v3 : Int32} {v4 : Nat} {v5 : Int32} {Q : Int64 → HS → Prop} {S : HS} (hI : IV S) (o_v0 : ob S v0 1) (o_v1 : ob S v1 6) (o_v2 : ob S v2 5) (o_v4 : ob S v4 3)     (hq : ∀ (r : Int64) (T : HS), IV T → Gr S T → FRI [] [] S T → Q r T) : P_X1_wetOf v0 v1 v2 v3 v4 v5 Q S := by
  have g0 := gr_rf S
  have f0 := fri_rf [] [] S
  refine u_X1_wetOf ?_
  refine u_X1_wetOf_0 ?_
  refine ⟨o_v0, ?_⟩
  refine m_X1_lay hI o_v0 o_v2 o_v4 (fun S2 hI g3 fc4 => ?_)
  have f0 := fri_tr (S := S) g0 f0 fc4 (by decide) (by decide)
  have o_v0 := gr_ob g3 o_v0
  have o_v1 := gr_ob g3 o_v1
  have o_v2 := gr_ob g3 o_v2
  have o_v4 := gr_ob g3 o_v4
  have g0 := gr_tr (T := S) g0 g3
  intro _
  refine m_X1_soak hI o_v0 o_v1 (fun x5 S6 hI g7 fc8 => ?_)
  have f0 := fri_tr (S := S2) g0 f0 fc8 (by decide) (by decide)
  have o_v0 := gr_ob g7 o_v0
  have o_v1 := gr_ob g7 o_v1
  have o_v2 := gr_ob g7 o_v2
  have o_v4 := gr_ob g7 o_v4
  have g0 := gr_tr (T := S2) g0 g7
  intro _
  exact hq _ _ hI g0 f0
set_option maxHeartbeats 4000000 in
set_option maxRecDepth 20000 in
theorem m_X1_bestSpeed {v0 : Nat} {v1 : Nat} {v2 : Nat} {v3 : Int32} {v4 : Nat} {Q : Int32 → HS → Prop} {S : HS} (hI : IV S) (o_v0 : ob S v0 1) (o_v1 : ob S v1 6) (o_v2 : ob S v2 5) (o_v4 : ob S v4 3)     (hq : ∀ (r : Int32) (T : HS), IV T → Gr S T → FRI [] [] S T → Q r T) : P_X1_bestSpeed v0 v1 v2 v3 v4 Q S := by
  have g0 := gr_rf S
  have f0 := fri_rf [] [] S
  refine u_X1_bestSpeed ?_
  refine u_X1_bestSpeed_0 ?_
  refine ⟨o_v1, ?_⟩
  intro x1 ex1
  have r_x1 : (0 : Int32) ≤ x1 ∧ x1 ≤ (9 : Int32) := by rw [ex1]; exact nu 4 rfl hI o_v1
  have d_x1 := ex1
  intro x2 ex2
  have r_x2 : (0 : Int32) ≤ x2 ∧ x2 ≤ (9 : Int32) := by rw [ex2]; exact nu 4 rfl hI o_v1
  have q_x2 : x2 = x1 := ex2.trans d_x1.symm
  have d_x2 := ex2
  refine i_X1_bestSpeed_17 (fun (y0 : Nat) (y1 : Nat) (y2 : Nat) (y3 : Int32) (y4 : Nat) (y5 : Int32) (y6 : Int64) (y8 : Int32) (Z : HS) => ((2147483647 : Int32).toInt - y8.toInt).toNat) (fun (y0 : Nat) (y1 : Nat) (y2 : Nat) (y3 : Int32) (y4 : Nat) (y5 : Int32) (y6 : Int64) (y8 : Int32) (Z : HS) => (IV Z) ∧ (Gr S Z) ∧ (FRI [] [] S Z) ∧ (v0 = y0) ∧ (v1 = y1) ∧ (v2 = y2) ∧ (v3 = y3) ∧ (v4 = y4)) ?_ _ _ _ _ _ _ _ _ _ ⟨hI, (gr_rf _), (fri_rf _ _ _), rfl, rfl, rfl, rfl, rfl⟩
  intro w6 w8 w10 w12 w14 w16 w17 w18 S3 X19 ⟨hI, gL4, fL5, q7, q9, q11, q13, q15⟩ ih20
  subst q7
  subst q9
  subst q11
  subst q13
  subst q15
  have d_x2 := d_x2.trans (fri_at fL5 (by decide) (by decide) o_v1).symm
  have f0 := fri_tr (S := S) g0 f0 fL5 (by decide) (by decide)
  have o_v0 := gr_ob gL4 o_v0
  have o_v1 := gr_ob gL4 o_v1
  have o_v2 := gr_ob gL4 o_v2
  have o_v4 := gr_ob gL4 o_v4
  have g0 := gr_tr (T := S) g0 gL4
  refine u_X1_bestSpeed_17 ?_
  refine ⟨o_v1, ?_⟩
  intro x21 ex21
  have r_x21 : (0 : Int32) ≤ x21 ∧ x21 ≤ (9 : Int32) := by rw [ex21]; exact nu 5 rfl hI o_v1
  have d_x21 := ex21
  refine ⟨fun c22 => ?_, fun c22 => ?_⟩
  · exact hq _ _ hI g0 f0
  · refine ⟨o_v0, ?_⟩
    refine m_X1_wetOf hI o_v0 o_v1 o_v2 o_v4 (fun x23 S24 hI g25 fc26 => ?_)
    have d_x2 := d_x2.trans (fri_at fc26 (by decide) (by decide) o_v1).symm
    have d_x21 := d_x21.trans (fri_at fc26 (by decide) (by decide) o_v1).symm
    have f0 := fri_tr (S := S3) g0 f0 fc26 (by decide) (by decide)
    have fL5 := fri_tr (S := S3) gL4 fL5 fc26 (by decide) (by decide)
    have o_v0 := gr_ob g25 o_v0
    have o_v1 := gr_ob g25 o_v1
    have o_v2 := gr_ob g25 o_v2
    have o_v4 := gr_ob g25 o_v4
    have g0 := gr_tr (T := S3) g0 g25
    have gL4 := gr_tr (T := S3) gL4 g25
    intro _
    refine ⟨fun c27 => ?_, fun c27 => ?_⟩
    · refine u_X1_bestSpeed_55 ?_
      intro x28 ex28
      exact ih20 _ _ _ _ _ _ _ _ _ ⟨hI, gL4, fL5, rfl, rfl, rfl, rfl, rfl⟩ (mu_up (q475 r_x21 c22 c27 ex28) (q476 r_x21 c22 c27 ex28))
    · refine u_X1_bestSpeed_55 ?_
      intro x29 ex29
      exact ih20 _ _ _ _ _ _ _ _ _ ⟨hI, gL4, fL5, rfl, rfl, rfl, rfl, rfl⟩ (mu_up (q477 r_x21 c22 c27 ex29) (q478 r_x21 c22 c27 ex29))
set_option maxHeartbeats 4000000 in
set_option maxRecDepth 20000 in
theorem m_X1_legsOf {v0 : Nat} {Q : Int32 → HS → Prop} {S : HS} (hI : IV S) (o_v0 : ob S v0 8)     (hq : ∀ (r : Int32) (T : HS), IV T → Gr S T → (S = T) → Q r T) : P_X1_legsOf v0 Q S := by
  have g0 := gr_rf S
  refine u_X1_legsOf ?_
  refine u_X1_legsOf_0 ?_
  refine ⟨o_v0, ?_⟩
  intro x1 ex1
  have r_x1 : (0 : Int32) ≤ x1 ∧ x1 ≤ (12 : Int32) := by rw [ex1]; exact nu 13 rfl hI o_v0
  have d_x1 := ex1
  intro x2 ex2
  have r_x2 : (0 : Int32) ≤ x2 ∧ x2 ≤ (6 : Int32) := by rw [ex2]; exact nu 11 rfl hI o_v0
  have d_x2 := ex2
  exact hq _ _ hI g0 rfl
set_option maxHeartbeats 4000000 in
set_option maxRecDepth 20000 in
theorem m_X6_canGo {v0 : Nat} {v1 : Int32} {Q : Int32 → HS → Prop} {S : HS} (hI : IV S) (o_v0 : ob S v0 6)     (hq : ∀ (r : Int32) (T : HS), IV T → Gr S T → bl r → (S = T) → Q r T) : P_X6_canGo v0 v1 Q S := by
  have g0 := gr_rf S
  refine u_X6_canGo ?_
  refine u_X6_canGo_0 ?_
  refine ⟨o_v0, ?_⟩
  intro x1 ex1
  have r_x1 : (0 : Int32) ≤ x1 ∧ x1 ≤ (9 : Int32) := by rw [ex1]; exact nu 4 rfl hI o_v0
  have d_x1 := ex1
  refine ⟨fun c2 => ?_, fun c2 => ?_⟩
  · exact hq _ _ hI g0 (Or.inl rfl) rfl
  · intro x3 ex3
    have r_x3 : (0 : Int32) ≤ x3 ∧ x3 ≤ (9 : Int32) := by rw [ex3]; exact nu 5 rfl hI o_v0
    have d_x3 := ex3
    refine ⟨fun c4 => ?_, fun c4 => ?_⟩
    · exact hq _ _ hI g0 (Or.inl rfl) rfl
    · refine ⟨fun c5 => ?_, fun c5 => ?_⟩
      · exact hq _ _ hI g0 (Or.inl rfl) rfl
      · refine ⟨fun c6 => ?_, fun c6 => ?_⟩
        · exact hq _ _ hI g0 (Or.inl rfl) rfl
        · exact hq _ _ hI g0 (Or.inr rfl) rfl
set_option maxHeartbeats 4000000 in
set_option maxRecDepth 20000 in
theorem m_X8_hasRoad {v0 : Nat} {v1 : Int32} {Q : Int32 → HS → Prop} {S : HS} (hI : IV S) (o_v0 : ob S v0 8)     (hq : ∀ (r : Int32) (T : HS), IV T → Gr S T → bl r → (S = T) ∧ (r = 1 → 0 ≤ v1 ∧ v1 < 12) → Q r T) : P_X8_hasRoad v0 v1 Q S := by
  have g0 := gr_rf S
  refine u_X8_hasRoad ?_
  refine u_X8_hasRoad_0 ?_
  refine ⟨fun c1 => ?_, fun c1 => ?_⟩
  · exact hq _ _ hI g0 (Or.inl rfl) ⟨rfl, (q23 c1)⟩
  · refine ⟨o_v0, ?_⟩
    intro x2 ex2
    have r_x2 : (0 : Int32) ≤ x2 ∧ x2 ≤ (12 : Int32) := by rw [ex2]; exact nu 13 rfl hI o_v0
    have d_x2 := ex2
    refine ⟨fun c3 => ?_, fun c3 => ?_⟩
    · exact hq _ _ hI g0 (Or.inl rfl) ⟨rfl, (q24 c1 r_x2 c3)⟩
    · obtain ⟨a4, ea4, o_a4, l_a4⟩ := shl 17 rfl hI o_v0
      refine ⟨a4, ea4, ?_⟩
      refine ⟨o_a4, ?_⟩
      have n_a4 : nI (hN S a4) = 12 := by rw [show hN S a4 = 12 from l_a4]; decide
      refine ⟨fun c5 => ?_, fun c5 => ?_⟩
      · rw [n_a4] at c5
        exact hq _ _ hI g0 (Or.inl rfl) ⟨rfl, (q25 c1 r_x2 c3 c5)⟩
      · rw [n_a4] at c5
        exact hq _ _ hI g0 (Or.inr rfl) ⟨rfl, (q26 c1 r_x2 c3 c5)⟩
set_option maxHeartbeats 4000000 in
set_option maxRecDepth 20000 in
theorem m_X8_hasSeen {v0 : Nat} {v1 : Int32} {Q : Int32 → HS → Prop} {S : HS} (hI : IV S) (o_v0 : ob S v0 8)     (hq : ∀ (r : Int32) (T : HS), IV T → Gr S T → bl r → (S = T) ∧ (r = 1 → 0 ≤ v1 ∧ v1 < 4) → Q r T) : P_X8_hasSeen v0 v1 Q S := by
  have g0 := gr_rf S
  refine u_X8_hasSeen ?_
  refine u_X8_hasSeen_0 ?_
  refine ⟨fun c1 => ?_, fun c1 => ?_⟩
  · exact hq _ _ hI g0 (Or.inl rfl) ⟨rfl, (q19 c1)⟩
  · refine ⟨o_v0, ?_⟩
    intro x2 ex2
    have r_x2 : (0 : Int32) ≤ x2 ∧ x2 ≤ (4 : Int32) := by rw [ex2]; exact nu 15 rfl hI o_v0
    have d_x2 := ex2
    refine ⟨fun c3 => ?_, fun c3 => ?_⟩
    · exact hq _ _ hI g0 (Or.inl rfl) ⟨rfl, (q20 c1 r_x2 c3)⟩
    · obtain ⟨a4, ea4, o_a4, l_a4⟩ := shl 19 rfl hI o_v0
      refine ⟨a4, ea4, ?_⟩
      refine ⟨o_a4, ?_⟩
      have n_a4 : nI (hN S a4) = 4 := by rw [show hN S a4 = 4 from l_a4]; decide
      refine ⟨fun c5 => ?_, fun c5 => ?_⟩
      · rw [n_a4] at c5
        exact hq _ _ hI g0 (Or.inl rfl) ⟨rfl, (q21 c1 r_x2 c3 c5)⟩
      · rw [n_a4] at c5
        exact hq _ _ hI g0 (Or.inr rfl) ⟨rfl, (q22 c1 r_x2 c3 c5)⟩
set_option maxHeartbeats 4000000 in
set_option maxRecDepth 20000 in
theorem m_X8_hasWalker {v0 : Nat} {v1 : Int32} {Q : Int32 → HS → Prop} {S : HS} (hI : IV S) (o_v0 : ob S v0 8)     (hq : ∀ (r : Int32) (T : HS), IV T → Gr S T → bl r → (S = T) ∧ (r = 1 → 0 ≤ v1 ∧ v1 < 4) → Q r T) : P_X8_hasWalker v0 v1 Q S := by
  have g0 := gr_rf S
  refine u_X8_hasWalker ?_
  refine u_X8_hasWalker_0 ?_
  refine ⟨fun c1 => ?_, fun c1 => ?_⟩
  · exact hq _ _ hI g0 (Or.inl rfl) ⟨rfl, (q19 c1)⟩
  · refine ⟨o_v0, ?_⟩
    intro x2 ex2
    have r_x2 : (0 : Int32) ≤ x2 ∧ x2 ≤ (4 : Int32) := by rw [ex2]; exact nu 14 rfl hI o_v0
    have d_x2 := ex2
    refine ⟨fun c3 => ?_, fun c3 => ?_⟩
    · exact hq _ _ hI g0 (Or.inl rfl) ⟨rfl, (q20 c1 r_x2 c3)⟩
    · obtain ⟨a4, ea4, o_a4, l_a4⟩ := shl 18 rfl hI o_v0
      refine ⟨a4, ea4, ?_⟩
      refine ⟨o_a4, ?_⟩
      have n_a4 : nI (hN S a4) = 4 := by rw [show hN S a4 = 4 from l_a4]; decide
      refine ⟨fun c5 => ?_, fun c5 => ?_⟩
      · rw [n_a4] at c5
        exact hq _ _ hI g0 (Or.inl rfl) ⟨rfl, (q21 c1 r_x2 c3 c5)⟩
      · rw [n_a4] at c5
        exact hq _ _ hI g0 (Or.inr rfl) ⟨rfl, (q22 c1 r_x2 c3 c5)⟩
set_option maxHeartbeats 4000000 in
set_option maxRecDepth 20000 in
theorem m_X1_fitCode {v0 : Nat} {v1 : Nat} {v2 : Int32} {v3 : Int32} {Q : Int32 → HS → Prop} {S : HS} (hI : IV S) (o_v0 : ob S v0 1) (o_v1 : ob S v1 8)     (hq : ∀ (r : Int32) (T : HS), IV T → Gr S T → FRI [] [] S T → Q r T) : P_X1_fitCode v0 v1 v2 v3 Q S := by
  have g0 := gr_rf S
  have f0 := fri_rf [] [] S
  refine u_X1_fitCode ?_
  refine u_X1_fitCode_0 ?_
  refine ⟨fun c1 => ?_, fun c1 => ?_⟩
  · exact hq _ _ hI g0 f0
  · refine u_X1_legsOf ?_
    refine u_X1_legsOf_0 ?_
    refine ⟨o_v1, ?_⟩
    intro x2 ex2
    have r_x2 : (0 : Int32) ≤ x2 ∧ x2 ≤ (12 : Int32) := by rw [ex2]; exact nu 13 rfl hI o_v1
    have d_x2 := ex2
    intro x3 ex3
    have r_x3 : (0 : Int32) ≤ x3 ∧ x3 ≤ (6 : Int32) := by rw [ex3]; exact nu 11 rfl hI o_v1
    have d_x3 := ex3
    intro _
    refine ⟨fun c4 => ?_, fun c4 => ?_⟩
    · exact hq _ _ hI g0 f0
    · refine ⟨o_v1, ?_⟩
      refine m_X8_hasSeen hI o_v1 (fun x5 S6 hI2 g7 b_x5 p_x5 => ?_)
      obtain ⟨z_S6, p_x5⟩ := p_x5
      subst z_S6
      intro _ _
      have bb_x5 : x5 = 0 ∨ x5 = 1 := b_x5
      refine ⟨fun c9 => ?_, fun c9 => ?_⟩
      · exact hq _ _ hI g0 f0
      · intro x10 ex10
        have r_x10 : (0 : Int32) ≤ x10 ∧ x10 ≤ (6 : Int32) := by rw [ex10]; exact nu 11 rfl hI o_v1
        have q_x10 : x10 = x3 := ex10.trans d_x3.symm
        have d_x10 := ex10
        refine ⟨fun c11 => ?_, fun c11 => ?_⟩
        · intro x12 ex12
          intro x13 ex13
          intro x14 ex14
          have dv_x14 : 0 ≤ x14 ∧ x14 ≤ v3 := by rw [ex14]; exact dv0 (q685 c1 r_x3 c4 p_x5 bb_x5 c9 r_x10 q_x10 c11 ex12 ex13 ex14) (by decide)
          intro x15 ex15
          have r_x15 : (0 : Int32) ≤ x15 ∧ x15 ≤ (6 : Int32) := by rw [ex15]; exact nu 11 rfl hI o_v1
          have q_x15 : x15 = x10 := ex15.trans d_x10.symm
          have d_x15 := ex15
          refine ⟨(q686 c1 r_x3 c4 p_x5 bb_x5 c9 r_x10 q_x10 c11 ex12 ex13 ex14 dv_x14 r_x15 q_x15), ?_⟩
          intro x16 ex16
          have dv_x16 : 0 ≤ x16 ∧ x16 < x15 := by rw [ex16]; exact rm_rng (q687 c1 r_x3 c4 p_x5 bb_x5 c9 r_x10 q_x10 c11 ex12 ex13 ex14 dv_x14 r_x15 q_x15) (q688 c1 r_x3 c4 p_x5 bb_x5 c9 r_x10 q_x10 c11 ex12 ex13 ex14 dv_x14 r_x15 q_x15)
          intro x17 ex17
          intro x18 ex18
          have r_x18 : (0 : Int32) ≤ x18 ∧ x18 ≤ (6 : Int32) := by rw [ex18]; exact nu 11 rfl hI o_v1
          have q_x18 : x18 = x15 := ex18.trans d_x15.symm
          have d_x18 := ex18
          refine ⟨(q689 c1 r_x3 c4 p_x5 bb_x5 c9 r_x10 q_x10 c11 ex12 ex13 ex14 dv_x14 r_x15 q_x15 dv_x16 ex17 r_x18 q_x18), ?_⟩
          intro x19 ex19
          obtain ⟨a20, ea20, o_a20, l_a20⟩ := shl 19 rfl hI o_v1
          refine ⟨a20, ea20, ?_⟩
          refine ⟨o_a20, ?_⟩
          refine ⟨(vin l_a20 (m := 4) (by decide) (q690 c1 r_x3 c4 p_x5 bb_x5 c9 r_x10 q_x10 c11 ex12 ex13 ex14 dv_x14 r_x15 q_x15 dv_x16 ex17 r_x18 q_x18 ex19)), ?_⟩
          intro x21 ex21
          refine m_X8_hasWalker hI o_v1 (fun x22 S23 hI2 g24 b_x22 p_x22 => ?_)
          obtain ⟨z_S23, p_x22⟩ := p_x22
          subst z_S23
          intro _ _
          have bb_x22 : x22 = 0 ∨ x22 = 1 := b_x22
          refine ⟨fun c26 => ?_, fun c26 => ?_⟩
          · exact hq _ _ hI g0 f0
          · intro x27 ex27
            refine m_X8_hasRoad hI o_v1 (fun x28 S29 hI2 g30 b_x28 p_x28 => ?_)
            obtain ⟨z_S29, p_x28⟩ := p_x28
            subst z_S29
            intro _ _
            have bb_x28 : x28 = 0 ∨ x28 = 1 := b_x28
            refine ⟨fun c32 => ?_, fun c32 => ?_⟩
            · exact hq _ _ hI g0 f0
            · obtain ⟨a33, ea33, o_a33, l_a33⟩ := shl 18 rfl hI o_v1
              refine ⟨a33, ea33, ?_⟩
              refine ⟨o_a33, ?_⟩
              have i35 : vp_in x21 (hN _ a33) := (vin l_a33 (m := 4) (by decide) (q691 c1 r_x3 c4 p_x5 bb_x5 c9 r_x10 q_x10 c11 ex12 ex13 ex14 dv_x14 r_x15 q_x15 dv_x16 ex17 r_x18 q_x18 ex19 p_x22 bb_x22 c26 ex27 p_x28 bb_x28 c32))
              obtain ⟨a34, ea34, o_a34⟩ := ae hI o_a33 (by decide) (by decide) i35
              replace o_a34 : ob _ a34 6 := o_a34
              refine ⟨i35, a34, ea34, ?_⟩
              refine ⟨o_a34, ?_⟩
              refine m_X6_canGo hI o_a34 (fun x36 S37 hI2 g38 b_x36 p_x36 => ?_)
              subst p_x36
              intro _ _
              have bb_x36 : x36 = 0 ∨ x36 = 1 := b_x36
              refine ⟨fun c40 => ?_, fun c40 => ?_⟩
              · refine ⟨a33, ea33, ?_⟩
                refine ⟨o_a33, ?_⟩
                have i43 : vp_in x21 (hN _ a33) := (vin l_a33 (m := 4) (by decide) (q692 c1 r_x3 c4 p_x5 bb_x5 c9 r_x10 q_x10 c11 ex12 ex13 ex14 dv_x14 r_x15 q_x15 dv_x16 ex17 r_x18 q_x18 ex19 p_x22 bb_x22 c26 ex27 p_x28 bb_x28 c32 bb_x36 c40))
                obtain ⟨a42, ea42, o_a42⟩ := ae hI o_a33 (by decide) (by decide) i43
                replace o_a42 : ob _ a42 6 := o_a42
                refine ⟨i43, a42, ea42, ?_⟩
                obtain ⟨a44, ea44, o_a44, l_a44⟩ := shl 17 rfl hI o_v1
                refine ⟨a44, ea44, ?_⟩
                intro x45 ex45
                refine ⟨o_a44, ?_⟩
                have i47 : vp_in x45 (hN _ a44) := (vin l_a44 (m := 12) (by decide) (q693 c1 r_x3 c4 p_x5 bb_x5 c9 r_x10 q_x10 c11 ex12 ex13 ex14 dv_x14 r_x15 q_x15 dv_x16 ex17 r_x18 q_x18 ex19 p_x22 bb_x22 c26 ex27 p_x28 bb_x28 c32 bb_x36 c40 ex45))
                obtain ⟨a46, ea46, o_a46⟩ := ae hI o_a44 (by decide) (by decide) i47
                replace o_a46 : ob _ a46 5 := o_a46
                refine ⟨i47, a46, ea46, ?_⟩
                intro x48 ex48
                obtain ⟨a49, ea49, o_a49, l_a49⟩ := shl 15 rfl hI o_v1
                refine ⟨a49, ea49, ?_⟩
                refine ⟨o_a49, ?_⟩
                have i51 : vp_in x16 (hN _ a49) := (vin l_a49 (m := 6) (by decide) (q694 c1 r_x3 c4 p_x5 bb_x5 c9 r_x10 q_x10 c11 ex12 ex13 ex14 dv_x14 r_x15 q_x15 dv_x16 ex17 r_x18 q_x18 ex19 p_x22 bb_x22 c26 ex27 p_x28 bb_x28 c32 bb_x36 c40 ex45 ex48))
                obtain ⟨a50, ea50, o_a50⟩ := ae hI o_a49 (by decide) (by decide) i51
                replace o_a50 : ob _ a50 3 := o_a50
                refine ⟨i51, a50, ea50, ?_⟩
                refine ⟨o_v0, ?_⟩
                refine m_X1_wetOf hI o_v0 o_a42 o_a46 o_a50 (fun x52 S53 hI g54 fc55 => ?_)
                have l_a20 := (gr_len g54 o_a20).trans l_a20
                have l_a33 := (gr_len g54 o_a33).trans l_a33
                have l_a44 := (gr_len g54 o_a44).trans l_a44
                have l_a49 := (gr_len g54 o_a49).trans l_a49
                have d_x2 := d_x2.trans (fri_at fc55 (by decide) (by decide) o_v1).symm
                have d_x18 := d_x18.trans (fri_at fc55 (by decide) (by decide) o_v1).symm
                have ea20 := (frr_at fc55 (by decide) (by decide) o_v1).trans ea20
                have ea33 := (frr_at fc55 (by decide) (by decide) o_v1).trans ea33
                have ea44 := (frr_at fc55 (by decide) (by decide) o_v1).trans ea44
                have ea49 := (frr_at fc55 (by decide) (by decide) o_v1).trans ea49
                have f0 := fri_tr (S := S) g0 f0 fc55 (by decide) (by decide)
                have o_a20 := gr_ob g54 o_a20
                have o_a33 := gr_ob g54 o_a33
                have o_a34 := gr_ob g54 o_a34
                have o_a42 := gr_ob g54 o_a42
                have o_a44 := gr_ob g54 o_a44
                have o_a46 := gr_ob g54 o_a46
                have o_a49 := gr_ob g54 o_a49
                have o_a50 := gr_ob g54 o_a50
                have o_v0 := gr_ob g54 o_v0
                have o_v1 := gr_ob g54 o_v1
                have g0 := gr_tr (T := S) g0 g54
                intro _
                refine i_X1_fitCode_141 (fun (y0 : Nat) (y1 : Nat) (y2 : Int32) (y4 : Int32) (y5 : Int32) (y6 : Int32) (y8 : Int32) (Z : HS) => ((2147483647 : Int32).toInt - y8.toInt).toNat) (fun (y0 : Nat) (y1 : Nat) (y2 : Int32) (y4 : Int32) (y5 : Int32) (y6 : Int32) (y8 : Int32) (Z : HS) => (S53 = Z) ∧ (v0 = y0) ∧ (v1 = y1) ∧ (v2 = y2) ∧ (x13 = y4) ∧ (x16 = y5) ∧ (x19 = y6) ∧ (0 ≤ y8)) ?_ _ _ _ _ _ _ _ _ ⟨rfl, rfl, rfl, rfl, rfl, rfl, rfl, (q695 c1 r_x3 c4 p_x5 bb_x5 c9 r_x10 q_x10 c11 ex12 ex13 ex14 dv_x14 r_x15 q_x15 dv_x16 ex17 r_x18 q_x18 ex19 p_x22 bb_x22 c26 ex27 p_x28 bb_x28 c32 bb_x36 c40 ex45 ex48)⟩
                intro w59 w61 w63 w65 w67 w69 w71 S56 X72 ⟨eS56, q60, q62, q64, q66, q68, q70, i1⟩ ih73
                subst q60
                subst q62
                subst q64
                subst q66
                subst q68
                subst q70
                subst eS56
                refine u_X1_fitCode_141 ?_
                refine ⟨fun c74 => ?_, fun c74 => ?_⟩
                · intro x75 ex75
                  intro x76 ex76
                  exact hq _ _ hI g0 f0
                · refine ⟨o_v0, ?_⟩
                  obtain ⟨a77, ea77, o_a77, l_a77⟩ := shl 9 rfl hI o_v0
                  refine ⟨a77, ea77, ?_⟩
                  refine ⟨o_a77, ?_⟩
                  refine ⟨(vin l_a77 (m := 5) (by decide) (q696 c1 r_x3 c4 p_x5 bb_x5 c9 r_x10 q_x10 c11 ex12 ex13 ex14 dv_x14 r_x15 q_x15 dv_x16 ex17 r_x18 q_x18 ex19 p_x22 bb_x22 c26 ex27 p_x28 bb_x28 c32 bb_x36 c40 ex45 ex48 i1 c74)), ?_⟩
                  intro x78 ex78
                  refine ⟨o_v1, ?_⟩
                  obtain ⟨a79, ea79, o_a79, l_a79⟩ := shl 20 rfl hI o_v1
                  refine ⟨a79, ea79, ?_⟩
                  refine ⟨o_a79, ?_⟩
                  intro x80 ex80
                  refine ⟨(vin l_a79 (m := 20) (by decide) (q697 c1 r_x3 c4 p_x5 bb_x5 c9 r_x10 q_x10 c11 ex12 ex13 ex14 dv_x14 r_x15 q_x15 dv_x16 ex17 r_x18 q_x18 ex19 p_x22 bb_x22 c26 ex27 p_x28 bb_x28 c32 bb_x36 c40 ex45 ex48 i1 c74 ex80)), ?_⟩
                  intro x81 ex81
                  refine ⟨fun c82 => ?_, fun c82 => ?_⟩
                  · intro x83 ex83
                    exact ih73 _ _ _ _ _ _ _ _ ⟨rfl, rfl, rfl, rfl, rfl, rfl, rfl, (q698 c1 r_x3 c4 p_x5 bb_x5 c9 r_x10 q_x10 c11 ex12 ex13 ex14 dv_x14 r_x15 q_x15 dv_x16 ex17 r_x18 q_x18 ex19 p_x22 bb_x22 c26 ex27 p_x28 bb_x28 c32 bb_x36 c40 ex45 ex48 i1 c74 ex80 c82 ex83)⟩ (mu_up (q699 c1 r_x3 c4 p_x5 bb_x5 c9 r_x10 q_x10 c11 ex12 ex13 ex14 dv_x14 r_x15 q_x15 dv_x16 ex17 r_x18 q_x18 ex19 p_x22 bb_x22 c26 ex27 p_x28 bb_x28 c32 bb_x36 c40 ex45 ex48 i1 c74 ex80 c82 ex83) (q700 c1 r_x3 c4 p_x5 bb_x5 c9 r_x10 q_x10 c11 ex12 ex13 ex14 dv_x14 r_x15 q_x15 dv_x16 ex17 r_x18 q_x18 ex19 p_x22 bb_x22 c26 ex27 p_x28 bb_x28 c32 bb_x36 c40 ex45 ex48 i1 c74 ex80 c82 ex83))
                  · exact hq _ _ hI g0 f0
              · exact hq _ _ hI g0 f0
        · exact hq _ _ hI g0 f0
set_option maxHeartbeats 4000000 in
set_option maxRecDepth 20000 in
theorem m_X1_countFits {v0 : Nat} {v1 : Nat} {v2 : Int32} {Q : Int32 → HS → Prop} {S : HS} (hI : IV S) (o_v0 : ob S v0 1) (o_v1 : ob S v1 8)     (hq : ∀ (r : Int32) (T : HS), IV T → Gr S T → FRI [] [] S T → Q r T) : P_X1_countFits v0 v1 v2 Q S := by
  have g0 := gr_rf S
  have f0 := fri_rf [] [] S
  refine u_X1_countFits ?_
  refine u_X1_countFits_0 ?_
  refine i_X1_countFits_5 (fun (y0 : Nat) (y1 : Nat) (y2 : Int32) (y3 : Int32) (y4 : Int32) (Z : HS) => ((2147483647 : Int32).toInt - y4.toInt).toNat) (fun (y0 : Nat) (y1 : Nat) (y2 : Int32) (y3 : Int32) (y4 : Int32) (Z : HS) => (IV Z) ∧ (Gr S Z) ∧ (FRI [] [] S Z) ∧ (v0 = y0) ∧ (v1 = y1) ∧ (v2 = y2) ∧ (0 ≤ y4)) ?_ _ _ _ _ _ _ ⟨hI, (gr_rf _), (fri_rf _ _ _), rfl, rfl, rfl, (q82)⟩
  intro w4 w6 w8 w10 w11 S1 X12 ⟨hI, gL2, fL3, q5, q7, q9, i1⟩ ih13
  subst q5
  subst q7
  subst q9
  have f0 := fri_tr (S := S) g0 f0 fL3 (by decide) (by decide)
  have o_v0 := gr_ob gL2 o_v0
  have o_v1 := gr_ob gL2 o_v1
  have g0 := gr_tr (T := S) g0 gL2
  refine u_X1_countFits_5 ?_
  refine u_X1_legsOf ?_
  refine u_X1_legsOf_0 ?_
  refine ⟨o_v1, ?_⟩
  intro x14 ex14
  have r_x14 : (0 : Int32) ≤ x14 ∧ x14 ≤ (12 : Int32) := by rw [ex14]; exact nu 13 rfl hI o_v1
  have d_x14 := ex14
  intro x15 ex15
  have r_x15 : (0 : Int32) ≤ x15 ∧ x15 ≤ (6 : Int32) := by rw [ex15]; exact nu 11 rfl hI o_v1
  have d_x15 := ex15
  intro _
  refine ⟨fun c16 => ?_, fun c16 => ?_⟩
  · exact hq _ _ hI g0 f0
  · refine ⟨o_v0, ?_⟩
    refine m_X1_fitCode hI o_v0 o_v1 (fun x17 S18 hI g19 fc20 => ?_)
    have d_x14 := d_x14.trans (fri_at fc20 (by decide) (by decide) o_v1).symm
    have d_x15 := d_x15.trans (fri_at fc20 (by decide) (by decide) o_v1).symm
    have f0 := fri_tr (S := S1) g0 f0 fc20 (by decide) (by decide)
    have fL3 := fri_tr (S := S1) gL2 fL3 fc20 (by decide) (by decide)
    have o_v0 := gr_ob g19 o_v0
    have o_v1 := gr_ob g19 o_v1
    have g0 := gr_tr (T := S1) g0 g19
    have gL2 := gr_tr (T := S1) gL2 g19
    intro _
    refine ⟨fun c21 => ?_, fun c21 => ?_⟩
    · refine u_X1_countFits_29 ?_
      intro x22 ex22
      exact ih13 _ _ _ _ _ _ ⟨hI, gL2, fL3, rfl, rfl, rfl, (q733 i1 c16 c21 ex22)⟩ (mu_up (q734 i1 c16 c21 ex22) (q735 i1 c16 c21 ex22))
    · intro x23 ex23
      refine u_X1_countFits_29 ?_
      intro x24 ex24
      exact ih13 _ _ _ _ _ _ ⟨hI, gL2, fL3, rfl, rfl, rfl, (q736 i1 c16 c21 ex24)⟩ (mu_up (q737 i1 c16 c21 ex24) (q738 i1 c16 c21 ex24))
set_option maxHeartbeats 4000000 in
set_option maxRecDepth 20000 in
theorem m_X1_findFit {v0 : Nat} {v1 : Nat} {v2 : Int32} {v3 : Int32} {Q : Int32 → HS → Prop} {S : HS} (hI : IV S) (o_v0 : ob S v0 1) (o_v1 : ob S v1 8)     (hq : ∀ (r : Int32) (T : HS), IV T → Gr S T → FRI [] [] S T → Q r T) : P_X1_findFit v0 v1 v2 v3 Q S := by
  have g0 := gr_rf S
  have f0 := fri_rf [] [] S
  refine u_X1_findFit ?_
  refine u_X1_findFit_0 ?_
  refine i_X1_findFit_6 (fun (y0 : Nat) (y1 : Nat) (y2 : Int32) (y4 : Int32) (y5 : Int32) (Z : HS) => ((2147483647 : Int32).toInt - y5.toInt).toNat) (fun (y0 : Nat) (y1 : Nat) (y2 : Int32) (y4 : Int32) (y5 : Int32) (Z : HS) => (IV Z) ∧ (Gr S Z) ∧ (FRI [] [] S Z) ∧ (v0 = y0) ∧ (v1 = y1) ∧ (v2 = y2) ∧ (0 ≤ y5)) ?_ _ _ _ _ _ _ ⟨hI, (gr_rf _), (fri_rf _ _ _), rfl, rfl, rfl, (q82)⟩
  intro w4 w6 w8 w10 w11 S1 X12 ⟨hI, gL2, fL3, q5, q7, q9, i1⟩ ih13
  subst q5
  subst q7
  subst q9
  have f0 := fri_tr (S := S) g0 f0 fL3 (by decide) (by decide)
  have o_v0 := gr_ob gL2 o_v0
  have o_v1 := gr_ob gL2 o_v1
  have g0 := gr_tr (T := S) g0 gL2
  refine u_X1_findFit_6 ?_
  refine u_X1_legsOf ?_
  refine u_X1_legsOf_0 ?_
  refine ⟨o_v1, ?_⟩
  intro x14 ex14
  have r_x14 : (0 : Int32) ≤ x14 ∧ x14 ≤ (12 : Int32) := by rw [ex14]; exact nu 13 rfl hI o_v1
  have d_x14 := ex14
  intro x15 ex15
  have r_x15 : (0 : Int32) ≤ x15 ∧ x15 ≤ (6 : Int32) := by rw [ex15]; exact nu 11 rfl hI o_v1
  have d_x15 := ex15
  intro _
  refine ⟨fun c16 => ?_, fun c16 => ?_⟩
  · exact hq _ _ hI g0 f0
  · refine ⟨o_v0, ?_⟩
    refine m_X1_fitCode hI o_v0 o_v1 (fun x17 S18 hI g19 fc20 => ?_)
    have d_x14 := d_x14.trans (fri_at fc20 (by decide) (by decide) o_v1).symm
    have d_x15 := d_x15.trans (fri_at fc20 (by decide) (by decide) o_v1).symm
    have f0 := fri_tr (S := S1) g0 f0 fc20 (by decide) (by decide)
    have fL3 := fri_tr (S := S1) gL2 fL3 fc20 (by decide) (by decide)
    have o_v0 := gr_ob g19 o_v0
    have o_v1 := gr_ob g19 o_v1
    have g0 := gr_tr (T := S1) g0 g19
    have gL2 := gr_tr (T := S1) gL2 g19
    intro _
    refine ⟨fun c21 => ?_, fun c21 => ?_⟩
    · refine u_X1_findFit_39 ?_
      refine ⟨fun c22 => ?_, fun c22 => ?_⟩
      · refine u_X1_findFit_48 ?_
        intro x23 ex23
        exact ih13 _ _ _ _ _ _ ⟨hI, gL2, fL3, rfl, rfl, rfl, (q673 i1 c16 c21 c22 ex23)⟩ (mu_up (q674 i1 c16 c21 c22 ex23) (q675 i1 c16 c21 c22 ex23))
      · intro x24 ex24
        refine u_X1_findFit_48 ?_
        intro x25 ex25
        exact ih13 _ _ _ _ _ _ ⟨hI, gL2, fL3, rfl, rfl, rfl, (q676 i1 c16 c21 c22 ex25)⟩ (mu_up (q677 i1 c16 c21 c22 ex25) (q678 i1 c16 c21 c22 ex25))
    · refine ⟨fun c26 => ?_, fun c26 => ?_⟩
      · refine u_X1_findFit_39 ?_
        refine ⟨fun c27 => ?_, fun c27 => ?_⟩
        · refine u_X1_findFit_48 ?_
          intro x28 ex28
          exact ih13 _ _ _ _ _ _ ⟨hI, gL2, fL3, rfl, rfl, rfl, (q679 i1 c16 c21 c26 c27 ex28)⟩ (mu_up (q680 i1 c16 c21 c26 c27 ex28) (q681 i1 c16 c21 c26 c27 ex28))
        · intro x29 ex29
          refine u_X1_findFit_48 ?_
          intro x30 ex30
          exact ih13 _ _ _ _ _ _ ⟨hI, gL2, fL3, rfl, rfl, rfl, (q682 i1 c16 c21 c26 c27 ex29 ex30)⟩ (mu_up (q683 i1 c16 c21 c26 c27 ex29 ex30) (q684 i1 c16 c21 c26 c27 ex29 ex30))
      · exact hq _ _ hI g0 f0
