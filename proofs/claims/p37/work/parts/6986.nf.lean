set_option maxRecDepth 20000 in
set_option maxHeartbeats 1000000 in
theorem nr_X9_legTrouble_0 {Q : Int32 → HS → Prop} {v0 : Nat} {v1 : Int32} {v2 : Int32} {v3 : Int32} {v4 : Int32} {v5 : Int32} {S : HS} (h : P_X9_legTrouble_0 Q v0 v1 v2 v3 v4 v5 S) : P_X9_legTrouble_0 (fun r T => Q r T ∧ c9 r) v0 v1 v2 v3 v4 v5 S := by
  delta P_X9_legTrouble_0 at h ⊢
  obtain ⟨c1, h⟩ := h
  refine ⟨c1, ?_⟩
  refine cm_X9_tripTrouble (kr_X9_tripTrouble h) h (fun x2 x3 p5 h g4 => ?_)
  have h := h g4
  refine ⟨?_, ?_⟩
  · intro c6
    have h := h.1 c6
    obtain ⟨b7, e8, h⟩ := h
    refine ⟨b7, e8, ?_⟩
    obtain ⟨c9, h⟩ := h
    refine ⟨c9, ?_⟩
    obtain ⟨b10, e11, h⟩ := h
    refine ⟨b10, e11, ?_⟩
    obtain ⟨c12, h⟩ := h
    refine ⟨c12, ?_⟩
    obtain ⟨c13, h⟩ := h
    refine ⟨c13, ?_⟩
    obtain ⟨b14, e15, h⟩ := h
    refine ⟨b14, e15, ?_⟩
    obtain ⟨c16, h⟩ := h
    refine ⟨c16, ?_⟩
    refine cm_X6_canGo h h (fun x17 x18 h _ g19 g20 => ?_)
    have h := h g19 g20
    refine ⟨?_, ?_⟩
    · intro c22
      have h := h.1 c22
      exact ⟨h, (by decide)⟩
    · intro c23
      have h := h.2 c23
      exact ⟨h, (by decide)⟩
  · intro c24
    have h := h.2 c24
    exact ⟨h, p5.2.2⟩
theorem nr_X9_legTrouble {Q : Int32 → HS → Prop} {v0 : Nat} {v1 : Int32} {v2 : Int32} {v3 : Int32} {v4 : Int32} {v5 : Int32} {S : HS} (h : P_X9_legTrouble v0 v1 v2 v3 v4 v5 Q S) : P_X9_legTrouble v0 v1 v2 v3 v4 v5 (fun r T => Q r T ∧ c9 r) S := nr_X9_legTrouble_0 h
theorem kr_X9_legTrouble {Q : Int32 → HS → Prop} {v0 : Nat} {v1 : Int32} {v2 : Int32} {v3 : Int32} {v4 : Int32} {v5 : Int32} {S : HS} (h : P_X9_legTrouble v0 v1 v2 v3 v4 v5 Q S) : P_X9_legTrouble v0 v1 v2 v3 v4 v5 (fun r T => Q r T ∧ K5 S T ∧ c9 r) S := cm_X9_legTrouble (kg_X9_legTrouble h) (nr_X9_legTrouble h) (fun _ _ a b => ⟨a.1, a.2, b.2⟩)
set_option maxRecDepth 20000 in
set_option maxHeartbeats 1000000 in
theorem nf_X9_face_23 {Q : Int64 → HS → Prop} {v0 : Nat} {v1 : Int32} {v2 : Int32} {v3 : Int32} {v4 : Int32} {v5 : Int32} {v6 : Int32} {v7 : Int32} {s0 : Int32} {S : HS} (h : P_X9_face_23 Q v0 v1 v2 v3 v4 v5 v6 v7 s0 S) (oc : ob S v0 9) (z_s0 : c9 s0) : P_X9_face_23 (fun r T => Q r T ∧ NFq 9 9 c9 v0 T) v0 v1 v2 v3 v4 v5 v6 v7 s0 S := by
  delta P_X9_face_23 at h ⊢
  obtain ⟨c1, h⟩ := h
  refine ⟨c1, ?_⟩
  refine cm_X9_refusedBy (nf_X9_refusedBy h oc z_s0) h (fun x2 x3 p6 h g4 g5 => ?_)
  have h := h g4 g5
  have N := p6.2
  have oc := N.1
  refine ⟨?_, ?_⟩
  · intro c7
    have h := h.1 c7
    obtain ⟨b8, e9, h⟩ := h
    refine ⟨b8, e9, ?_⟩
    obtain ⟨b10, e11, h⟩ := h
    refine ⟨b10, e11, ?_⟩
    obtain ⟨c12, h⟩ := h
    refine ⟨c12, ?_⟩
    have n13 := ob_nq oc c12 (by decide)
    obtain ⟨b14, e15, h⟩ := h
    refine ⟨b14, e15, ?_⟩
    obtain ⟨c16, h⟩ := h
    refine ⟨c16, ?_⟩
    have n17 := ob_nq oc c16 (by decide)
    obtain ⟨c18, h⟩ := h
    refine ⟨c18, ?_⟩
    obtain ⟨b19, e20, h⟩ := h
    refine ⟨b19, e20, ?_⟩
    obtain ⟨b21, e22, h⟩ := h
    refine ⟨b21, e22, ?_⟩
    obtain ⟨c23, h⟩ := h
    refine ⟨c23, ?_⟩
    have n24 := ob_nq oc c23 (by decide)
    obtain ⟨b25, e26, h⟩ := h
    refine ⟨b25, e26, ?_⟩
    obtain ⟨c27, h⟩ := h
    refine ⟨c27, ?_⟩
    have n28 := ob_nq oc c27 (by decide)
    obtain ⟨c29, h⟩ := h
    refine ⟨c29, ?_⟩
    obtain ⟨b30, e31, h⟩ := h
    refine ⟨b30, e31, ?_⟩
    obtain ⟨b32, e33, h⟩ := h
    refine ⟨b32, e33, ?_⟩
    obtain ⟨c34, h⟩ := h
    refine ⟨c34, ?_⟩
    have n35 := ob_nq oc c34 (by decide)
    obtain ⟨b36, e37, h⟩ := h
    refine ⟨b36, e37, ?_⟩
    obtain ⟨c38, h⟩ := h
    refine ⟨c38, ?_⟩
    have n39 := ob_nq oc c38 (by decide)
    obtain ⟨c40, h⟩ := h
    refine ⟨c40, ?_⟩
    obtain ⟨b41, e42, h⟩ := h
    refine ⟨b41, e42, ?_⟩
    obtain ⟨c43, h⟩ := h
    refine ⟨c43, ?_⟩
    have n44 := ob_nq oc c43 (by decide)
    refine cm_X1_wetOf (kg_X1_wetOf h) h (fun x45 x46 p48 h g47 => ?_)
    have h := h g47
    have oc := gr_ob p48.2.1 oc
    have N := nf_K N p48.2 (by decide)
    obtain ⟨b49, e50, h⟩ := h
    refine ⟨b49, e50, ?_⟩
    obtain ⟨c51, h⟩ := h
    refine ⟨c51, ?_⟩
    have n52 := ob_nq oc c51 (by decide)
    obtain ⟨b53, e54, h⟩ := h
    refine ⟨b53, e54, ?_⟩
    obtain ⟨c55, h⟩ := h
    refine ⟨c55, ?_⟩
    have n56 := ob_nq oc c55 (by decide)
    obtain ⟨c57, h⟩ := h
    refine ⟨c57, ?_⟩
    intro x59 e58
    have h := h x59 e58
    refine cm_X9_fraction (kg_X9_fraction h) h (fun x60 x61 p63 h g62 => ?_)
    have h := h g62
    have oc := gr_ob p63.2.1 oc
    have N := nf_K N p63.2 (by decide)
    exact ⟨h, N⟩
  · intro c64
    have h := h.2 c64
    exact ⟨h, N⟩
set_option maxRecDepth 20000 in
set_option maxHeartbeats 1000000 in
theorem nf_X9_face_0 {Q : Int64 → HS → Prop} {v0 : Nat} {v1 : Int32} {v2 : Int32} {v3 : Int32} {v4 : Int32} {v5 : Int32} {v6 : Int32} {v7 : Int32} {S : HS} (h : P_X9_face_0 Q v0 v1 v2 v3 v4 v5 v6 v7 S) (oc : ob S v0 9) : P_X9_face_0 (fun r T => Q r T ∧ NFq 9 9 c9 v0 T) v0 v1 v2 v3 v4 v5 v6 v7 S := by
  delta P_X9_face_0 at h ⊢
  refine cm_X9_isFace (kg_X9_isFace h) h (fun x1 x2 p5 h g3 g4 => ?_)
  have h := h g3 g4
  have oc := gr_ob p5.2.1 oc
  refine ⟨?_, ?_⟩
  · intro c6
    have h := h.1 c6
    exact nf_X9_face_23 h oc (by decide)
  · intro c7
    have h := h.2 c7
    obtain ⟨c8, h⟩ := h
    refine ⟨c8, ?_⟩
    refine cm_X9_legTrouble (kr_X9_legTrouble h) h (fun x9 x10 p12 h g11 => ?_)
    have h := h g11
    have oc := gr_ob p12.2.1.1 oc
    exact nf_X9_face_23 h oc p12.2.2
theorem nf_X9_face {Q : Int64 → HS → Prop} {v0 : Nat} {v1 : Int32} {v2 : Int32} {v3 : Int32} {v4 : Int32} {v5 : Int32} {v6 : Int32} {v7 : Int32} {S : HS} (h : P_X9_face v0 v1 v2 v3 v4 v5 v6 v7 Q S) (oc : ob S v0 9) : P_X9_face v0 v1 v2 v3 v4 v5 v6 v7 (fun r T => Q r T ∧ NFq 9 9 c9 v0 T) S := nf_X9_face_0 h oc
set_option maxRecDepth 20000 in
set_option maxHeartbeats 1000000 in
theorem nr_X9_leeTrouble_0 {Q : Int32 → HS → Prop} {v0 : Nat} {v1 : Int32} {v2 : Int32} {v3 : Int32} {v4 : Int32} {v5 : Int32} {v6 : Int32} {S : HS} (h : P_X9_leeTrouble_0 Q v0 v1 v2 v3 v4 v5 v6 S) : P_X9_leeTrouble_0 (fun r T => Q r T ∧ c9 r) v0 v1 v2 v3 v4 v5 v6 S := by
  delta P_X9_leeTrouble_0 at h ⊢
  refine ⟨?_, ?_⟩
  · intro c1
    have h := h.1 c1
    exact ⟨h, (by decide)⟩
  · intro c2
    have h := h.2 c2
    obtain ⟨c3, h⟩ := h
    refine ⟨c3, ?_⟩
    obtain ⟨b4, e5, h⟩ := h
    refine ⟨b4, e5, ?_⟩
    obtain ⟨c6, h⟩ := h
    refine ⟨c6, ?_⟩
    refine cm_X8_hasWalker h h (fun x7 x8 h _ g9 g10 => ?_)
    have h := h g9 g10
    refine ⟨?_, ?_⟩
    · intro c12
      have h := h.1 c12
      exact ⟨h, (by decide)⟩
    · intro c13
      have h := h.2 c13
      obtain ⟨b14, e15, h⟩ := h
      refine ⟨b14, e15, ?_⟩
      obtain ⟨c16, h⟩ := h
      refine ⟨c16, ?_⟩
      refine cm_X8_hasWalker h h (fun x17 x18 h _ g19 g20 => ?_)
      have h := h g19 g20
      refine ⟨?_, ?_⟩
      · intro c22
        have h := h.1 c22
        refine cm_X9_legTrouble (kr_X9_legTrouble h) h (fun x23 x24 p26 h g25 => ?_)
        have h := h g25
        refine ⟨?_, ?_⟩
        · intro c27
          have h := h.1 c27
          obtain ⟨b28, e29, h⟩ := h
          refine ⟨b28, e29, ?_⟩
          obtain ⟨c30, h⟩ := h
          refine ⟨c30, ?_⟩
          obtain ⟨b31, e32, h⟩ := h
          refine ⟨b31, e32, ?_⟩
          obtain ⟨c33, h⟩ := h
          refine ⟨c33, ?_⟩
          obtain ⟨c34, h⟩ := h
          refine ⟨c34, ?_⟩
          obtain ⟨b35, e36, h⟩ := h
          refine ⟨b35, e36, ?_⟩
          obtain ⟨c37, h⟩ := h
          refine ⟨c37, ?_⟩
          refine cm_X6_canGo h h (fun x38 x39 h _ g40 g41 => ?_)
          have h := h g40 g41
          refine ⟨?_, ?_⟩
          · intro c43
            have h := h.1 c43
            exact ⟨h, (by decide)⟩
          · intro c44
            have h := h.2 c44
            exact ⟨h, (by decide)⟩
        · intro c45
          have h := h.2 c45
          exact ⟨h, p26.2.2⟩
      · intro c46
        have h := h.2 c46
        exact ⟨h, (by decide)⟩
theorem nr_X9_leeTrouble {Q : Int32 → HS → Prop} {v0 : Nat} {v1 : Int32} {v2 : Int32} {v3 : Int32} {v4 : Int32} {v5 : Int32} {v6 : Int32} {S : HS} (h : P_X9_leeTrouble v0 v1 v2 v3 v4 v5 v6 Q S) : P_X9_leeTrouble v0 v1 v2 v3 v4 v5 v6 (fun r T => Q r T ∧ c9 r) S := nr_X9_leeTrouble_0 h
theorem kr_X9_leeTrouble {Q : Int32 → HS → Prop} {v0 : Nat} {v1 : Int32} {v2 : Int32} {v3 : Int32} {v4 : Int32} {v5 : Int32} {v6 : Int32} {S : HS} (h : P_X9_leeTrouble v0 v1 v2 v3 v4 v5 v6 Q S) : P_X9_leeTrouble v0 v1 v2 v3 v4 v5 v6 (fun r T => Q r T ∧ K5 S T ∧ c9 r) S := cm_X9_leeTrouble (kg_X9_leeTrouble h) (nr_X9_leeTrouble h) (fun _ _ a b => ⟨a.1, a.2, b.2⟩)
set_option maxRecDepth 20000 in
set_option maxHeartbeats 1000000 in
theorem nf_X9_first_0 {Q : Int32 → HS → Prop} {v0 : Nat} {v1 : Int32} {v2 : Int32} {v3 : Int32} {v4 : Int32} {v5 : Int32} {v6 : Int32} {S : HS} (h : P_X9_first_0 Q v0 v1 v2 v3 v4 v5 v6 S) (oc : ob S v0 9) : P_X9_first_0 (fun r T => Q r T ∧ NFq 9 9 c9 v0 T) v0 v1 v2 v3 v4 v5 v6 S := by
  delta P_X9_first_0 at h ⊢
  obtain ⟨c1, h⟩ := h
  refine ⟨c1, ?_⟩
  refine cm_X9_leeTrouble (kr_X9_leeTrouble h) h (fun x2 x3 p5 h g4 => ?_)
  have h := h g4
  have oc := gr_ob p5.2.1.1 oc
  refine cm_X9_refusedBy (nf_X9_refusedBy h oc p5.2.2) h (fun x6 x7 p10 h g8 g9 => ?_)
  have h := h g8 g9
  have N := p10.2
  have oc := N.1
  refine ⟨?_, ?_⟩
  · intro c11
    have h := h.1 c11
    obtain ⟨b12, e13, h⟩ := h
    refine ⟨b12, e13, ?_⟩
    obtain ⟨b14, e15, h⟩ := h
    refine ⟨b14, e15, ?_⟩
    obtain ⟨c16, h⟩ := h
    refine ⟨c16, ?_⟩
    have n17 := ob_nq oc c16 (by decide)
    obtain ⟨b18, e19, h⟩ := h
    refine ⟨b18, e19, ?_⟩
    obtain ⟨c20, h⟩ := h
    refine ⟨c20, ?_⟩
    have n21 := ob_nq oc c20 (by decide)
    obtain ⟨c22, h⟩ := h
    refine ⟨c22, ?_⟩
    obtain ⟨b23, e24, h⟩ := h
    refine ⟨b23, e24, ?_⟩
    obtain ⟨b25, e26, h⟩ := h
    refine ⟨b25, e26, ?_⟩
    obtain ⟨c27, h⟩ := h
    refine ⟨c27, ?_⟩
    have n28 := ob_nq oc c27 (by decide)
    obtain ⟨b29, e30, h⟩ := h
    refine ⟨b29, e30, ?_⟩
    obtain ⟨c31, h⟩ := h
    refine ⟨c31, ?_⟩
    have n32 := ob_nq oc c31 (by decide)
    obtain ⟨c33, h⟩ := h
    refine ⟨c33, ?_⟩
    obtain ⟨b34, e35, h⟩ := h
    refine ⟨b34, e35, ?_⟩
    obtain ⟨c36, h⟩ := h
    refine ⟨c36, ?_⟩
    have n37 := ob_nq oc c36 (by decide)
    refine cm_X1_lay (kg_X1_lay h) h (fun x38 p40 h g39 => ?_)
    have h := h g39
    have oc := gr_ob p40.2.1 oc
    have N := nf_K N p40.2 (by decide)
    obtain ⟨b41, e42, h⟩ := h
    refine ⟨b41, e42, ?_⟩
    obtain ⟨b43, e44, h⟩ := h
    refine ⟨b43, e44, ?_⟩
    obtain ⟨c45, h⟩ := h
    refine ⟨c45, ?_⟩
    have n46 := ob_nq oc c45 (by decide)
    obtain ⟨b47, e48, h⟩ := h
    refine ⟨b47, e48, ?_⟩
    obtain ⟨c49, h⟩ := h
    refine ⟨c49, ?_⟩
    have n50 := ob_nq oc c49 (by decide)
    obtain ⟨c51, h⟩ := h
    refine ⟨c51, ?_⟩
    obtain ⟨b52, e53, h⟩ := h
    refine ⟨b52, e53, ?_⟩
    obtain ⟨b54, e55, h⟩ := h
    refine ⟨b54, e55, ?_⟩
    obtain ⟨c56, h⟩ := h
    refine ⟨c56, ?_⟩
    have n57 := ob_nq oc c56 (by decide)
    obtain ⟨b58, e59, h⟩ := h
    refine ⟨b58, e59, ?_⟩
    obtain ⟨c60, h⟩ := h
    refine ⟨c60, ?_⟩
    have n61 := ob_nq oc c60 (by decide)
    obtain ⟨c62, h⟩ := h
    refine ⟨c62, ?_⟩
    obtain ⟨b63, e64, h⟩ := h
    refine ⟨b63, e64, ?_⟩
    obtain ⟨c65, h⟩ := h
    refine ⟨c65, ?_⟩
    have n66 := ob_nq oc c65 (by decide)
    refine cm_X1_wetInLee (kg_X1_wetInLee h) h (fun x67 x68 p70 h g69 => ?_)
    have h := h g69
    have oc := gr_ob p70.2.1 oc
    have N := nf_K N p70.2 (by decide)
    obtain ⟨b71, e72, h⟩ := h
    refine ⟨b71, e72, ?_⟩
    obtain ⟨b73, e74, h⟩ := h
    refine ⟨b73, e74, ?_⟩
    obtain ⟨c75, h⟩ := h
    refine ⟨c75, ?_⟩
    have n76 := ob_nq oc c75 (by decide)
    obtain ⟨b77, e78, h⟩ := h
    refine ⟨b77, e78, ?_⟩
    obtain ⟨c79, h⟩ := h
    refine ⟨c79, ?_⟩
    have n80 := ob_nq oc c79 (by decide)
    obtain ⟨c81, h⟩ := h
    refine ⟨c81, ?_⟩
    obtain ⟨b82, e83, h⟩ := h
    refine ⟨b82, e83, ?_⟩
    obtain ⟨b84, e85, h⟩ := h
    refine ⟨b84, e85, ?_⟩
    obtain ⟨c86, h⟩ := h
    refine ⟨c86, ?_⟩
    have n87 := ob_nq oc c86 (by decide)
    obtain ⟨b88, e89, h⟩ := h
    refine ⟨b88, e89, ?_⟩
    obtain ⟨c90, h⟩ := h
    refine ⟨c90, ?_⟩
    have n91 := ob_nq oc c90 (by decide)
    obtain ⟨c92, h⟩ := h
    refine ⟨c92, ?_⟩
    obtain ⟨b93, e94, h⟩ := h
    refine ⟨b93, e94, ?_⟩
    obtain ⟨c95, h⟩ := h
    refine ⟨c95, ?_⟩
    have n96 := ob_nq oc c95 (by decide)
    refine cm_X1_wetInLee (kg_X1_wetInLee h) h (fun x97 x98 p100 h g99 => ?_)
    have h := h g99
    have oc := gr_ob p100.2.1 oc
    have N := nf_K N p100.2 (by decide)
    refine ⟨?_, ?_⟩
    · intro c101
      have h := h.1 c101
      refine ⟨?_, ?_⟩
      · intro c102
        have h := h.1 c102
        exact ⟨h, N⟩
      · intro c103
        have h := h.2 c103
        exact ⟨h, N⟩
    · intro c104
      have h := h.2 c104
      exact ⟨h, N⟩
  · intro c105
    have h := h.2 c105
    exact ⟨h, N⟩
theorem nf_X9_first {Q : Int32 → HS → Prop} {v0 : Nat} {v1 : Int32} {v2 : Int32} {v3 : Int32} {v4 : Int32} {v5 : Int32} {v6 : Int32} {S : HS} (h : P_X9_first v0 v1 v2 v3 v4 v5 v6 Q S) (oc : ob S v0 9) : P_X9_first v0 v1 v2 v3 v4 v5 v6 (fun r T => Q r T ∧ NFq 9 9 c9 v0 T) S := nf_X9_first_0 h oc
set_option maxRecDepth 20000 in
set_option maxHeartbeats 1000000 in
theorem nf_X9_fit_15 {Q : Int32 → HS → Prop} {v0 : Nat} {S : HS} (h : P_X9_fit_15 Q v0 S) (oc : ob S v0 9) : P_X9_fit_15 (fun r T => Q r T ∧ NFq 9 9 c9 v0 T) v0 S := by
  delta P_X9_fit_15 at h ⊢
  obtain ⟨c1, h⟩ := h
  refine ⟨c1, ?_⟩
  refine cm_X9_refuse (nf_X9_refuse h oc (by decide)) h (fun x2 x3 p5 h g4 => ?_)
  have h := h g4
  have N := p5.2
  have oc := N.1
  exact ⟨h, N⟩
set_option maxRecDepth 20000 in
set_option maxHeartbeats 1000000 in
theorem nf_X9_fit_0 {Q : Int32 → HS → Prop} {v0 : Nat} {v1 : Int32} {v2 : Int32} {S : HS} (h : P_X9_fit_0 Q v0 v1 v2 S) (oc : ob S v0 9) : P_X9_fit_0 (fun r T => Q r T ∧ NFq 9 9 c9 v0 T) v0 v1 v2 S := by
  delta P_X9_fit_0 at h ⊢
  obtain ⟨c1, h⟩ := h
  refine ⟨c1, ?_⟩
  obtain ⟨b2, e3, h⟩ := h
  refine ⟨b2, e3, ?_⟩
  obtain ⟨c4, h⟩ := h
  refine ⟨c4, ?_⟩
  have n5 := ob_nq oc c4 (by decide)
  refine cm_X8_hasSeen (kg_X8_hasSeen h) h (fun x6 x7 p10 h g8 g9 => ?_)
  have h := h g8 g9
  have oc := gr_ob p10.2.1 oc
  refine ⟨?_, ?_⟩
  · intro c11
    have h := h.1 c11
    exact nf_X9_fit_15 h oc
  · intro c12
    have h := h.2 c12
    refine ⟨?_, ?_⟩
    · intro c13
      have h := h.1 c13
      obtain ⟨b14, e15, h⟩ := h
      refine ⟨b14, e15, ?_⟩
      obtain ⟨b16, e17, h⟩ := h
      refine ⟨b16, e17, ?_⟩
      obtain ⟨c18, h⟩ := h
      refine ⟨c18, ?_⟩
      have n19 := ob_nq oc c18 (by decide)
      refine cm_X1_findFit (kg_X1_findFit h) h (fun x20 x21 p23 h g22 => ?_)
      have h := h g22
      have oc := gr_ob p23.2.1 oc
      refine ⟨?_, ?_⟩
      · intro c24
        have h := h.1 c24
        refine cm_X9_grant (nf_X9_grant h oc) h (fun x25 x26 p28 h g27 => ?_)
        have h := h g27
        have N := p28.2
        have oc := N.1
        exact ⟨h, N⟩
      · intro c29
        have h := h.2 c29
        refine cm_X9_refuse (nf_X9_refuse h oc (by decide)) h (fun x30 x31 p33 h g32 => ?_)
        have h := h g32
        have N := p33.2
        have oc := N.1
        exact ⟨h, N⟩
    · intro c34
      have h := h.2 c34
      exact nf_X9_fit_15 h oc
theorem nf_X9_fit {Q : Int32 → HS → Prop} {v0 : Nat} {v1 : Int32} {v2 : Int32} {S : HS} (h : P_X9_fit v0 v1 v2 Q S) (oc : ob S v0 9) : P_X9_fit v0 v1 v2 (fun r T => Q r T ∧ NFq 9 9 c9 v0 T) S := nf_X9_fit_0 h oc
set_option maxRecDepth 20000 in
set_option maxHeartbeats 1000000 in
theorem nf_X9_fits_0 {Q : Int32 → HS → Prop} {v0 : Nat} {v1 : Int32} {S : HS} (h : P_X9_fits_0 Q v0 v1 S) (oc : ob S v0 9) : P_X9_fits_0 (fun r T => Q r T ∧ NFq 9 9 c9 v0 T) v0 v1 S := by
  delta P_X9_fits_0 at h ⊢
  obtain ⟨c1, h⟩ := h
  refine ⟨c1, ?_⟩
  obtain ⟨b2, e3, h⟩ := h
  refine ⟨b2, e3, ?_⟩
  obtain ⟨c4, h⟩ := h
  refine ⟨c4, ?_⟩
  have n5 := ob_nq oc c4 (by decide)
  refine cm_X8_hasSeen (kg_X8_hasSeen h) h (fun x6 x7 p10 h g8 g9 => ?_)
  have h := h g8 g9
  have oc := gr_ob p10.2.1 oc
  refine ⟨?_, ?_⟩
  · intro c11
    have h := h.1 c11
    obtain ⟨b12, e13, h⟩ := h
    refine ⟨b12, e13, ?_⟩
    obtain ⟨b14, e15, h⟩ := h
    refine ⟨b14, e15, ?_⟩
    obtain ⟨c16, h⟩ := h
    refine ⟨c16, ?_⟩
    have n17 := ob_nq oc c16 (by decide)
    refine cm_X1_countFits (kg_X1_countFits h) h (fun x18 x19 p21 h g20 => ?_)
    have h := h g20
    have oc := gr_ob p21.2.1 oc
    refine cm_X9_grant (nf_X9_grant h oc) h (fun x22 x23 p25 h g24 => ?_)
    have h := h g24
    have N := p25.2
    have oc := N.1
    exact ⟨h, N⟩
  · intro c26
    have h := h.2 c26
    refine cm_X9_refuse (nf_X9_refuse h oc (by decide)) h (fun x27 x28 p30 h g29 => ?_)
    have h := h g29
    have N := p30.2
    have oc := N.1
    exact ⟨h, N⟩
theorem nf_X9_fits {Q : Int32 → HS → Prop} {v0 : Nat} {v1 : Int32} {S : HS} (h : P_X9_fits v0 v1 Q S) (oc : ob S v0 9) : P_X9_fits v0 v1 (fun r T => Q r T ∧ NFq 9 9 c9 v0 T) S := nf_X9_fits_0 h oc
set_option maxRecDepth 20000 in
set_option maxHeartbeats 1000000 in
theorem nf_X9_go_45 {Q : Int32 → HS → Prop} {v0 : Nat} {S : HS} (h : P_X9_go_45 Q v0 S) (oc : ob S v0 9) : P_X9_go_45 (fun r T => Q r T ∧ NFq 9 9 c9 v0 T) v0 S := by
  delta P_X9_go_45 at h ⊢
  obtain ⟨c1, h⟩ := h
  refine ⟨c1, ?_⟩
  refine cm_X9_refuse (nf_X9_refuse h oc (by decide)) h (fun x2 x3 p5 h g4 => ?_)
  have h := h g4
  have N := p5.2
  have oc := N.1
  exact ⟨h, N⟩
set_option maxRecDepth 20000 in
set_option maxHeartbeats 1000000 in
theorem nf_X9_go_243 {Q : Int32 → HS → Prop} {v0 : Nat} {v2 : Int32} {v5 : Nat} {v6 : Int32} {S : HS} (h : P_X9_go_243 Q v0 v2 v5 v6 S) (oc : ob S v0 9) : P_X9_go_243 (fun r T => Q r T ∧ NFq 9 9 c9 v0 T) v0 v2 v5 v6 S := by
  delta P_X9_go_243 at h ⊢
  obtain ⟨c1, h⟩ := h
  refine ⟨c1, ?_⟩
  obtain ⟨b2, e3, h⟩ := h
  refine ⟨b2, e3, ?_⟩
  obtain ⟨c4, h⟩ := h
  refine ⟨c4, ?_⟩
  have n5 := ob_nq oc c4 (by decide)
  obtain ⟨b6, e7, h⟩ := h
  refine ⟨b6, e7, ?_⟩
  obtain ⟨c8, h⟩ := h
  refine ⟨c8, ?_⟩
  have n9 := ob_nq oc c8 (by decide)
  refine cm_X5_endOf (kg_X5_endOf h) h (fun x10 x11 p13 h g12 => ?_)
  have h := h g12
  have oc := gr_ob p13.2.1 oc
  obtain ⟨c14, h⟩ := h
  refine ⟨c14, ?_⟩
  have n15 := ob_nq oc c14 (by decide)
  intro x17 e16
  have h := h x17 e16
  have oc := ob_wI oc e16
  obtain ⟨b18, e19, h⟩ := h
  refine ⟨b18, e19, ?_⟩
  obtain ⟨c20, h⟩ := h
  refine ⟨c20, ?_⟩
  have n21 := ob_nq oc c20 (by decide)
  obtain ⟨b22, e23, h⟩ := h
  refine ⟨b22, e23, ?_⟩
  obtain ⟨c24, h⟩ := h
  refine ⟨c24, ?_⟩
  have n25 := ob_nq oc c24 (by decide)
  intro x27 e26
  have h := h x27 e26
  have oc := ob_wI oc e26
  refine cm_X9_grant (nf_X9_grant h oc) h (fun x28 x29 p31 h g30 => ?_)
  have h := h g30
  have N := p31.2
  have oc := N.1
  exact ⟨h, N⟩
set_option maxRecDepth 20000 in
set_option maxHeartbeats 1000000 in
theorem nf_X9_go_0 {Q : Int32 → HS → Prop} {v0 : Nat} {v1 : Int32} {v2 : Int32} {v3 : Int32} {S : HS} (h : P_X9_go_0 Q v0 v1 v2 v3 S) (oc : ob S v0 9) : P_X9_go_0 (fun r T => Q r T ∧ NFq 9 9 c9 v0 T) v0 v1 v2 v3 S := by
  delta P_X9_go_0 at h ⊢
  obtain ⟨c1, h⟩ := h
  refine ⟨c1, ?_⟩
  obtain ⟨b2, e3, h⟩ := h
  refine ⟨b2, e3, ?_⟩
  obtain ⟨c4, h⟩ := h
  refine ⟨c4, ?_⟩
  have n5 := ob_nq oc c4 (by decide)
  refine cm_X0_isOn (kg_X0_isOn h) h (fun x6 x7 p10 h g8 g9 => ?_)
  have h := h g8 g9
  have oc := gr_ob p10.2.1 oc
  refine ⟨?_, ?_⟩
  · intro c11
    have h := h.1 c11
    exact nf_X9_go_45 h oc
  · intro c12
    have h := h.2 c12
    obtain ⟨b13, e14, h⟩ := h
    refine ⟨b13, e14, ?_⟩
    obtain ⟨b15, e16, h⟩ := h
    refine ⟨b15, e16, ?_⟩
    obtain ⟨c17, h⟩ := h
    refine ⟨c17, ?_⟩
    have n18 := ob_nq oc c17 (by decide)
    intro x20 e19
    have h := h x20 e19
    obtain ⟨c21, h⟩ := h
    refine ⟨c21, ?_⟩
    have n22 := ob_nq oc c21 (by decide)
    refine cm_X8_hasWalker (kg_X8_hasWalker h) h (fun x23 x24 p27 h g25 g26 => ?_)
    have h := h g25 g26
    have oc := gr_ob p27.2.1 oc
    refine ⟨?_, ?_⟩
    · intro c28
      have h := h.1 c28
      exact nf_X9_go_45 h oc
    · intro c29
      have h := h.2 c29
      obtain ⟨b30, e31, h⟩ := h
      refine ⟨b30, e31, ?_⟩
      obtain ⟨c32, h⟩ := h
      refine ⟨c32, ?_⟩
      have n33 := ob_nq oc c32 (by decide)
      refine cm_X8_hasRoad (kg_X8_hasRoad h) h (fun x34 x35 p38 h g36 g37 => ?_)
      have h := h g36 g37
      have oc := gr_ob p38.2.1 oc
      refine ⟨?_, ?_⟩
      · intro c39
        have h := h.1 c39
        exact nf_X9_go_45 h oc
      · intro c40
        have h := h.2 c40
        refine cm_X9_isWay (kg_X9_isWay h) h (fun x41 x42 p45 h g43 g44 => ?_)
        have h := h g43 g44
        have oc := gr_ob p45.2.1 oc
        refine ⟨?_, ?_⟩
        · intro c46
          have h := h.1 c46
          obtain ⟨b47, e48, h⟩ := h
          refine ⟨b47, e48, ?_⟩
          obtain ⟨c49, h⟩ := h
          refine ⟨c49, ?_⟩
          have n50 := ob_nq oc c49 (by decide)
          obtain ⟨b51, e52, h⟩ := h
          refine ⟨b51, e52, ?_⟩
          obtain ⟨b53, e54, h⟩ := h
          refine ⟨b53, e54, ?_⟩
          obtain ⟨c55, h⟩ := h
          refine ⟨c55, ?_⟩
          have n56 := ob_nq oc c55 (by decide)
          intro x58 e57
          have h := h x58 e57
          obtain ⟨c59, h⟩ := h
          refine ⟨c59, ?_⟩
          have n60 := ob_nq oc c59 (by decide)
          obtain ⟨c61, h⟩ := h
          refine ⟨c61, ?_⟩
          obtain ⟨b62, e63, h⟩ := h
          refine ⟨b62, e63, ?_⟩
          obtain ⟨b64, e65, h⟩ := h
          refine ⟨b64, e65, ?_⟩
          obtain ⟨c66, h⟩ := h
          refine ⟨c66, ?_⟩
          have n67 := ob_nq oc c66 (by decide)
          obtain ⟨b68, e69, h⟩ := h
          refine ⟨b68, e69, ?_⟩
          obtain ⟨c70, h⟩ := h
          refine ⟨c70, ?_⟩
          have n71 := ob_nq oc c70 (by decide)
          obtain ⟨c72, h⟩ := h
          refine ⟨c72, ?_⟩
          obtain ⟨b73, e74, h⟩ := h
          refine ⟨b73, e74, ?_⟩
          obtain ⟨c75, h⟩ := h
          refine ⟨c75, ?_⟩
          have n76 := ob_nq oc c75 (by decide)
          refine cm_X6_canGo (kg_X6_canGo h) h (fun x77 x78 p81 h g79 g80 => ?_)
          have h := h g79 g80
          have oc := gr_ob p81.2.1 oc
          refine ⟨?_, ?_⟩
          · intro c82
            have h := h.1 c82
            obtain ⟨c83, h⟩ := h
            refine ⟨c83, ?_⟩
            have n84 := ob_nq oc c83 (by decide)
            refine cm_X5_startOf (kg_X5_startOf h) h (fun x85 x86 p88 h g87 => ?_)
            have h := h g87
            have oc := gr_ob p88.2.1 oc
            obtain ⟨b89, e90, h⟩ := h
            refine ⟨b89, e90, ?_⟩
            obtain ⟨c91, h⟩ := h
            refine ⟨c91, ?_⟩
            have n92 := ob_nq oc c91 (by decide)
            obtain ⟨b93, e94, h⟩ := h
            refine ⟨b93, e94, ?_⟩
            obtain ⟨c95, h⟩ := h
            refine ⟨c95, ?_⟩
            have n96 := ob_nq oc c95 (by decide)
            intro x98 e97
            have h := h x98 e97
            refine ⟨?_, ?_⟩
            · intro c99
              have h := h.1 c99
              obtain ⟨b100, e101, h⟩ := h
              refine ⟨b100, e101, ?_⟩
              obtain ⟨c102, h⟩ := h
              refine ⟨c102, ?_⟩
              have n103 := ob_nq oc c102 (by decide)
              obtain ⟨b104, e105, h⟩ := h
              refine ⟨b104, e105, ?_⟩
              obtain ⟨c106, h⟩ := h
              refine ⟨c106, ?_⟩
              have n107 := ob_nq oc c106 (by decide)
              intro x109 e108
              have h := h x109 e108
              refine cm_X5_minutesAt (kg_X5_minutesAt h) h (fun x110 x111 p113 h g112 => ?_)
              have h := h g112
              have oc := gr_ob p113.2.1 oc
              intro x115 e114
              have h := h x115 e114
              refine ⟨?_, ?_⟩
              · intro c116
                have h := h.1 c116
                obtain ⟨b117, e118, h⟩ := h
                refine ⟨b117, e118, ?_⟩
                obtain ⟨c119, h⟩ := h
                refine ⟨c119, ?_⟩
                have n120 := ob_nq oc c119 (by decide)
                refine cm_X0_keepForUndo (kg_X0_keepForUndo h) h (fun x121 p123 h g122 => ?_)
                have h := h g122
                have oc := gr_ob p123.2.1 oc
                obtain ⟨b124, e125, h⟩ := h
                refine ⟨b124, e125, ?_⟩
                obtain ⟨b126, e127, h⟩ := h
                refine ⟨b126, e127, ?_⟩
                obtain ⟨c128, h⟩ := h
                refine ⟨c128, ?_⟩
                have n129 := ob_nq oc c128 (by decide)
                obtain ⟨b130, e131, h⟩ := h
                refine ⟨b130, e131, ?_⟩
                obtain ⟨c132, h⟩ := h
                refine ⟨c132, ?_⟩
                have n133 := ob_nq oc c132 (by decide)
                intro x135 e134
                have h := h x135 e134
                obtain ⟨c136, h⟩ := h
                refine ⟨c136, ?_⟩
                have n137 := ob_nq oc c136 (by decide)
                refine cm_X8_hourOf (kg_X8_hourOf h) h (fun x138 x139 p141 h g140 => ?_)
                have h := h g140
                have oc := gr_ob p141.2.1 oc
                obtain ⟨b142, e143, h⟩ := h
                refine ⟨b142, e143, ?_⟩
                obtain ⟨c144, h⟩ := h
                refine ⟨c144, ?_⟩
                have n145 := ob_nq oc c144 (by decide)
                refine cm_X8_hasHour (kg_X8_hasHour h) h (fun x146 x147 p150 h g148 g149 => ?_)
                have h := h g148 g149
                have oc := gr_ob p150.2.1 oc
                refine ⟨?_, ?_⟩
                · intro c151
                  have h := h.1 c151
                  exact nf_X9_go_243 h oc
                · intro c152
                  have h := h.2 c152
                  obtain ⟨b153, e154, h⟩ := h
                  refine ⟨b153, e154, ?_⟩
                  obtain ⟨c155, h⟩ := h
                  refine ⟨c155, ?_⟩
                  have n156 := ob_nq oc c155 (by decide)
                  refine cm_X0_rainsIn (kg_X0_rainsIn h) h (fun x157 x158 p161 h g159 g160 => ?_)
                  have h := h g159 g160
                  have oc := gr_ob p161.2.1 oc
                  refine ⟨?_, ?_⟩
                  · intro c162
                    have h := h.1 c162
                    exact nf_X9_go_243 h oc
                  · intro c163
                    have h := h.2 c163
                    obtain ⟨b164, e165, h⟩ := h
                    refine ⟨b164, e165, ?_⟩
                    obtain ⟨b166, e167, h⟩ := h
                    refine ⟨b166, e167, ?_⟩
                    obtain ⟨c168, h⟩ := h
                    refine ⟨c168, ?_⟩
                    have n169 := ob_nq oc c168 (by decide)
                    obtain ⟨b170, e171, h⟩ := h
                    refine ⟨b170, e171, ?_⟩
                    obtain ⟨c172, h⟩ := h
                    refine ⟨c172, ?_⟩
                    have n173 := ob_nq oc c172 (by decide)
                    obtain ⟨c174, h⟩ := h
                    refine ⟨c174, ?_⟩
                    obtain ⟨b175, e176, h⟩ := h
                    refine ⟨b175, e176, ?_⟩
                    obtain ⟨c177, h⟩ := h
                    refine ⟨c177, ?_⟩
                    have n178 := ob_nq oc c177 (by decide)
                    refine cm_X1_wetOf (kg_X1_wetOf h) h (fun x179 x180 p182 h g181 => ?_)
                    have h := h g181
                    have oc := gr_ob p182.2.1 oc
                    obtain ⟨b183, e184, h⟩ := h
                    refine ⟨b183, e184, ?_⟩
                    obtain ⟨c185, h⟩ := h
                    refine ⟨c185, ?_⟩
                    have n186 := ob_nq oc c185 (by decide)
                    obtain ⟨b187, e188, h⟩ := h
                    refine ⟨b187, e188, ?_⟩
                    obtain ⟨b189, e190, h⟩ := h
                    refine ⟨b189, e190, ?_⟩
                    obtain ⟨c191, h⟩ := h
                    refine ⟨c191, ?_⟩
                    have n192 := ob_nq oc c191 (by decide)
                    obtain ⟨b193, e194, h⟩ := h
                    refine ⟨b193, e194, ?_⟩
                    obtain ⟨c195, h⟩ := h
                    refine ⟨c195, ?_⟩
                    have n196 := ob_nq oc c195 (by decide)
                    refine cm_X2_addFaces (kg_X2_addFaces h) h (fun x197 p199 h g198 => ?_)
                    have h := h g198
                    have oc := gr_ob p199.2.1 oc
                    exact nf_X9_go_243 h oc
              · intro c200
                have h := h.2 c200
                refine cm_X9_refuse (nf_X9_refuse h oc (by decide)) h (fun x201 x202 p204 h g203 => ?_)
                have h := h g203
                have N := p204.2
                have oc := N.1
                exact ⟨h, N⟩
            · intro c205
              have h := h.2 c205
              refine cm_X9_refuse (nf_X9_refuse h oc (by decide)) h (fun x206 x207 p209 h g208 => ?_)
              have h := h g208
              have N := p209.2
              have oc := N.1
              exact ⟨h, N⟩
          · intro c210
            have h := h.2 c210
            refine cm_X9_refuse (nf_X9_refuse h oc (by decide)) h (fun x211 x212 p214 h g213 => ?_)
            have h := h g213
            have N := p214.2
            have oc := N.1
            exact ⟨h, N⟩
        · intro c215
          have h := h.2 c215
          exact nf_X9_go_45 h oc
theorem nf_X9_go {Q : Int32 → HS → Prop} {v0 : Nat} {v1 : Int32} {v2 : Int32} {v3 : Int32} {S : HS} (h : P_X9_go v0 v1 v2 v3 Q S) (oc : ob S v0 9) : P_X9_go v0 v1 v2 v3 (fun r T => Q r T ∧ NFq 9 9 c9 v0 T) S := nf_X9_go_0 h oc
set_option maxRecDepth 20000 in
set_option maxHeartbeats 1000000 in
theorem nf_X9_got_17 {Q : Int64 → HS → Prop} {v0 : Nat} {S : HS} (h : P_X9_got_17 Q v0 S) (oc : ob S v0 9) : P_X9_got_17 (fun r T => Q r T ∧ NFq 9 9 c9 v0 T) v0 S := by
  delta P_X9_got_17 at h ⊢
  obtain ⟨c1, h⟩ := h
  refine ⟨c1, ?_⟩
  refine cm_X9_refuse (nf_X9_refuse h oc (by decide)) h (fun x2 x3 p5 h g4 => ?_)
  have h := h g4
  have N := p5.2
  have oc := N.1
  exact ⟨h, N⟩
set_option maxRecDepth 20000 in
set_option maxHeartbeats 1000000 in
theorem nf_X9_got_0 {Q : Int64 → HS → Prop} {v0 : Nat} {v1 : Int32} {v2 : Int32} {S : HS} (h : P_X9_got_0 Q v0 v1 v2 S) (oc : ob S v0 9) : P_X9_got_0 (fun r T => Q r T ∧ NFq 9 9 c9 v0 T) v0 v1 v2 S := by
  delta P_X9_got_0 at h ⊢
  obtain ⟨c1, h⟩ := h
  refine ⟨c1, ?_⟩
  obtain ⟨b2, e3, h⟩ := h
  refine ⟨b2, e3, ?_⟩
  obtain ⟨c4, h⟩ := h
  refine ⟨c4, ?_⟩
  have n5 := ob_nq oc c4 (by decide)
  refine cm_X0_isOn (kg_X0_isOn h) h (fun x6 x7 p10 h g8 g9 => ?_)
  have h := h g8 g9
  have oc := gr_ob p10.2.1 oc
  refine ⟨?_, ?_⟩
  · intro c11
    have h := h.1 c11
    exact nf_X9_got_17 h oc
  · intro c12
    have h := h.2 c12
    refine cm_X9_isFace (kg_X9_isFace h) h (fun x13 x14 p17 h g15 g16 => ?_)
    have h := h g15 g16
    have oc := gr_ob p17.2.1 oc
    refine ⟨?_, ?_⟩
    · intro c18
      have h := h.1 c18
      intro x20 e19
      have h := h x20 e19
      have N := nf_set (C := c9) oc e19 (by decide)
      have oc := N.1
      obtain ⟨b21, e22, h⟩ := h
      refine ⟨b21, e22, ?_⟩
      obtain ⟨c23, h⟩ := h
      refine ⟨c23, ?_⟩
      have n24 := ob_nq oc c23 (by decide)
      obtain ⟨b25, e26, h⟩ := h
      refine ⟨b25, e26, ?_⟩
      obtain ⟨c27, h⟩ := h
      refine ⟨c27, ?_⟩
      have n28 := ob_nq oc c27 (by decide)
      obtain ⟨b29, e30, h⟩ := h
      refine ⟨b29, e30, ?_⟩
      obtain ⟨c31, h⟩ := h
      refine ⟨c31, ?_⟩
      have n32 := ob_nq oc c31 (by decide)
      obtain ⟨c33, h⟩ := h
      refine ⟨c33, ?_⟩
      intro x35 e34
      have h := h x35 e34
      refine cm_X9_fraction (kg_X9_fraction h) h (fun x36 x37 p39 h g38 => ?_)
      have h := h g38
      have oc := gr_ob p39.2.1 oc
      have N := nf_K N p39.2 (by decide)
      exact ⟨h, N⟩
    · intro c40
      have h := h.2 c40
      exact nf_X9_got_17 h oc
theorem nf_X9_got {Q : Int64 → HS → Prop} {v0 : Nat} {v1 : Int32} {v2 : Int32} {S : HS} (h : P_X9_got v0 v1 v2 Q S) (oc : ob S v0 9) : P_X9_got v0 v1 v2 (fun r T => Q r T ∧ NFq 9 9 c9 v0 T) S := nf_X9_got_0 h oc
set_option maxRecDepth 20000 in
set_option maxHeartbeats 1000000 in
theorem nf_X9_held_0 {Q : Int32 → HS → Prop} {v0 : Nat} {v1 : Int32} {v2 : Int32} {v3 : Int32} {v4 : Int32} {v5 : Int32} {S : HS} (h : P_X9_held_0 Q v0 v1 v2 v3 v4 v5 S) (oc : ob S v0 9) : P_X9_held_0 (fun r T => Q r T ∧ NFq 9 9 c9 v0 T) v0 v1 v2 v3 v4 v5 S := by
  delta P_X9_held_0 at h ⊢
  obtain ⟨c1, h⟩ := h
  refine ⟨c1, ?_⟩
  refine cm_X9_legTrouble (kr_X9_legTrouble h) h (fun x2 x3 p5 h g4 => ?_)
  have h := h g4
  have oc := gr_ob p5.2.1.1 oc
  refine cm_X9_refusedBy (nf_X9_refusedBy h oc p5.2.2) h (fun x6 x7 p10 h g8 g9 => ?_)
  have h := h g8 g9
  have N := p10.2
  have oc := N.1
  refine ⟨?_, ?_⟩
  · intro c11
    have h := h.1 c11
    obtain ⟨b12, e13, h⟩ := h
    refine ⟨b12, e13, ?_⟩
    obtain ⟨c14, h⟩ := h
    refine ⟨c14, ?_⟩
    have n15 := ob_nq oc c14 (by decide)
    obtain ⟨b16, e17, h⟩ := h
    refine ⟨b16, e17, ?_⟩
    obtain ⟨c18, h⟩ := h
    refine ⟨c18, ?_⟩
    have n19 := ob_nq oc c18 (by decide)
    obtain ⟨c20, h⟩ := h
    refine ⟨c20, ?_⟩
    obtain ⟨b21, e22, h⟩ := h
    refine ⟨b21, e22, ?_⟩
    obtain ⟨c23, h⟩ := h
    refine ⟨c23, ?_⟩
    have n24 := ob_nq oc c23 (by decide)
    intro x26 e25
    have h := h x26 e25
    refine ⟨?_, ?_⟩
    · intro c27
      have h := h.1 c27
      obtain ⟨b28, e29, h⟩ := h
      refine ⟨b28, e29, ?_⟩
      obtain ⟨b30, e31, h⟩ := h
      refine ⟨b30, e31, ?_⟩
      obtain ⟨c32, h⟩ := h
      refine ⟨c32, ?_⟩
      have n33 := ob_nq oc c32 (by decide)
      obtain ⟨b34, e35, h⟩ := h
      refine ⟨b34, e35, ?_⟩
      obtain ⟨c36, h⟩ := h
      refine ⟨c36, ?_⟩
      have n37 := ob_nq oc c36 (by decide)
      obtain ⟨c38, h⟩ := h
      refine ⟨c38, ?_⟩
      obtain ⟨b39, e40, h⟩ := h
      refine ⟨b39, e40, ?_⟩
      obtain ⟨b41, e42, h⟩ := h
      refine ⟨b41, e42, ?_⟩
      obtain ⟨c43, h⟩ := h
      refine ⟨c43, ?_⟩
      have n44 := ob_nq oc c43 (by decide)
      obtain ⟨b45, e46, h⟩ := h
      refine ⟨b45, e46, ?_⟩
      obtain ⟨c47, h⟩ := h
      refine ⟨c47, ?_⟩
      have n48 := ob_nq oc c47 (by decide)
      obtain ⟨c49, h⟩ := h
      refine ⟨c49, ?_⟩
      obtain ⟨b50, e51, h⟩ := h
      refine ⟨b50, e51, ?_⟩
      obtain ⟨c52, h⟩ := h
      refine ⟨c52, ?_⟩
      have n53 := ob_nq oc c52 (by decide)
      refine cm_X1_lay (kg_X1_lay h) h (fun x54 p56 h g55 => ?_)
      have h := h g55
      have oc := gr_ob p56.2.1 oc
      have N := nf_K N p56.2 (by decide)
      obtain ⟨b57, e58, h⟩ := h
      refine ⟨b57, e58, ?_⟩
      obtain ⟨b59, e60, h⟩ := h
      refine ⟨b59, e60, ?_⟩
      obtain ⟨c61, h⟩ := h
      refine ⟨c61, ?_⟩
      have n62 := ob_nq oc c61 (by decide)
      obtain ⟨b63, e64, h⟩ := h
      refine ⟨b63, e64, ?_⟩
      obtain ⟨c65, h⟩ := h
      refine ⟨c65, ?_⟩
      have n66 := ob_nq oc c65 (by decide)
      obtain ⟨c67, h⟩ := h
      refine ⟨c67, ?_⟩
      obtain ⟨b68, e69, h⟩ := h
      refine ⟨b68, e69, ?_⟩
      obtain ⟨c70, h⟩ := h
      refine ⟨c70, ?_⟩
      have n71 := ob_nq oc c70 (by decide)
      refine cm_X1_isForward (kg_X1_isForward h) h (fun x72 x73 p76 h g74 g75 => ?_)
      have h := h g74 g75
      have oc := gr_ob p76.2.1 oc
      have N := nf_K N p76.2 (by decide)
      refine ⟨?_, ?_⟩
      · intro c77
        have h := h.1 c77
        exact ⟨h, N⟩
      · intro c78
        have h := h.2 c78
        exact ⟨h, N⟩
    · intro c79
      have h := h.2 c79
      exact ⟨h, N⟩
  · intro c80
    have h := h.2 c80
    exact ⟨h, N⟩
theorem nf_X9_held {Q : Int32 → HS → Prop} {v0 : Nat} {v1 : Int32} {v2 : Int32} {v3 : Int32} {v4 : Int32} {v5 : Int32} {S : HS} (h : P_X9_held v0 v1 v2 v3 v4 v5 Q S) (oc : ob S v0 9) : P_X9_held v0 v1 v2 v3 v4 v5 (fun r T => Q r T ∧ NFq 9 9 c9 v0 T) S := nf_X9_held_0 h oc
set_option maxRecDepth 20000 in
set_option maxHeartbeats 1000000 in
theorem nr_X9_placesTrouble_38 {Q : Int32 → HS → Prop} {s0 : Int32} {S : HS} (h : P_X9_placesTrouble_38 Q s0 S) : P_X9_placesTrouble_38 (fun r T => Q r T ∧ c9 r) s0 S := by
  delta P_X9_placesTrouble_38 at h ⊢
  refine ⟨?_, ?_⟩
  · intro c1
    have h := h.1 c1
    exact ⟨h, (by decide)⟩
  · intro c2
    have h := h.2 c2
    exact ⟨h, (by decide)⟩
set_option maxRecDepth 20000 in
set_option maxHeartbeats 1000000 in
theorem nr_X9_placesTrouble_37 {Q : Int32 → HS → Prop} {S : HS} (h : P_X9_placesTrouble_37 Q S) : P_X9_placesTrouble_37 (fun r T => Q r T ∧ c9 r) S := by
  delta P_X9_placesTrouble_37 at h ⊢
  exact nr_X9_placesTrouble_38 h
set_option maxRecDepth 20000 in
set_option maxHeartbeats 1000000 in
theorem nr_X9_placesTrouble_0 {Q : Int32 → HS → Prop} {v0 : Nat} {v1 : Int32} {v2 : Int32} {v3 : Int32} {S : HS} (h : P_X9_placesTrouble_0 Q v0 v1 v2 v3 S) : P_X9_placesTrouble_0 (fun r T => Q r T ∧ c9 r) v0 v1 v2 v3 S := by
  delta P_X9_placesTrouble_0 at h ⊢
  obtain ⟨c1, h⟩ := h
  refine ⟨c1, ?_⟩
  obtain ⟨b2, e3, h⟩ := h
  refine ⟨b2, e3, ?_⟩
  obtain ⟨c4, h⟩ := h
  refine ⟨c4, ?_⟩
  refine cm_X8_hasWalker h h (fun x5 x6 h _ g7 g8 => ?_)
  have h := h g7 g8
  refine ⟨?_, ?_⟩
  · intro c10
    have h := h.1 c10
    exact nr_X9_placesTrouble_37 h
  · intro c11
    have h := h.2 c11
    obtain ⟨b12, e13, h⟩ := h
    refine ⟨b12, e13, ?_⟩
    obtain ⟨c14, h⟩ := h
    refine ⟨c14, ?_⟩
    refine cm_X8_hasPlace h h (fun x15 x16 h _ g17 g18 => ?_)
    have h := h g17 g18
    refine ⟨?_, ?_⟩
    · intro c20
      have h := h.1 c20
      exact nr_X9_placesTrouble_37 h
    · intro c21
      have h := h.2 c21
      obtain ⟨b22, e23, h⟩ := h
      refine ⟨b22, e23, ?_⟩
      obtain ⟨c24, h⟩ := h
      refine ⟨c24, ?_⟩
      refine cm_X8_hasPlace h h (fun x25 x26 h _ g27 g28 => ?_)
      have h := h g27 g28
      refine ⟨?_, ?_⟩
      · intro c30
        have h := h.1 c30
        exact nr_X9_placesTrouble_37 h
      · intro c31
        have h := h.2 c31
        exact nr_X9_placesTrouble_38 h
theorem nr_X9_placesTrouble {Q : Int32 → HS → Prop} {v0 : Nat} {v1 : Int32} {v2 : Int32} {v3 : Int32} {S : HS} (h : P_X9_placesTrouble v0 v1 v2 v3 Q S) : P_X9_placesTrouble v0 v1 v2 v3 (fun r T => Q r T ∧ c9 r) S := nr_X9_placesTrouble_0 h
theorem kr_X9_placesTrouble {Q : Int32 → HS → Prop} {v0 : Nat} {v1 : Int32} {v2 : Int32} {v3 : Int32} {S : HS} (h : P_X9_placesTrouble v0 v1 v2 v3 Q S) : P_X9_placesTrouble v0 v1 v2 v3 (fun r T => Q r T ∧ K5 S T ∧ c9 r) S := cm_X9_placesTrouble (kg_X9_placesTrouble h) (nr_X9_placesTrouble h) (fun _ _ a b => ⟨a.1, a.2, b.2⟩)
set_option maxRecDepth 20000 in
set_option maxHeartbeats 1000000 in
theorem nr_X9_wayTrouble_0 {Q : Int32 → HS → Prop} {v0 : Nat} {v1 : Int32} {v2 : Int32} {v3 : Int32} {v4 : Int32} {v5 : Int32} {S : HS} (h : P_X9_wayTrouble_0 Q v0 v1 v2 v3 v4 v5 S) : P_X9_wayTrouble_0 (fun r T => Q r T ∧ c9 r) v0 v1 v2 v3 v4 v5 S := by
  delta P_X9_wayTrouble_0 at h ⊢
  obtain ⟨c1, h⟩ := h
  refine ⟨c1, ?_⟩
  refine cm_X9_placesTrouble (kr_X9_placesTrouble h) h (fun x2 x3 p5 h g4 => ?_)
  have h := h g4
  refine ⟨?_, ?_⟩
  · intro c6
    have h := h.1 c6
    refine cm_X9_isTill h h (fun x7 x8 h _ g9 g10 => ?_)
    have h := h g9 g10
    refine ⟨?_, ?_⟩
    · intro c12
      have h := h.1 c12
      exact ⟨h, (by decide)⟩
    · intro c13
      have h := h.2 c13
      refine ⟨?_, ?_⟩
      · intro c14
        have h := h.1 c14
        exact ⟨h, (by decide)⟩
      · intro c15
        have h := h.2 c15
        refine ⟨?_, ?_⟩
        · intro c16
          have h := h.1 c16
          obtain ⟨b17, e18, h⟩ := h
          refine ⟨b17, e18, ?_⟩
          obtain ⟨b19, e20, h⟩ := h
          refine ⟨b19, e20, ?_⟩
          obtain ⟨b21, e22, h⟩ := h
          refine ⟨b21, e22, ?_⟩
          obtain ⟨c23, h⟩ := h
          refine ⟨c23, ?_⟩
          refine cm_X7_reckon h h (fun x24 h _ g25 => ?_)
          have h := h g25
          obtain ⟨b27, e28, h⟩ := h
          refine ⟨b27, e28, ?_⟩
          obtain ⟨c29, h⟩ := h
          refine ⟨c29, ?_⟩
          refine cm_X7_isOpen h h (fun x30 x31 h _ g32 g33 => ?_)
          have h := h g32 g33
          refine ⟨?_, ?_⟩
          · intro c35
            have h := h.1 c35
            exact ⟨h, (by decide)⟩
          · intro c36
            have h := h.2 c36
            exact ⟨h, (by decide)⟩
        · intro c37
          have h := h.2 c37
          exact ⟨h, (by decide)⟩
  · intro c38
    have h := h.2 c38
    exact ⟨h, p5.2.2⟩
theorem nr_X9_wayTrouble {Q : Int32 → HS → Prop} {v0 : Nat} {v1 : Int32} {v2 : Int32} {v3 : Int32} {v4 : Int32} {v5 : Int32} {S : HS} (h : P_X9_wayTrouble v0 v1 v2 v3 v4 v5 Q S) : P_X9_wayTrouble v0 v1 v2 v3 v4 v5 (fun r T => Q r T ∧ c9 r) S := nr_X9_wayTrouble_0 h
theorem kr_X9_wayTrouble {Q : Int32 → HS → Prop} {v0 : Nat} {v1 : Int32} {v2 : Int32} {v3 : Int32} {v4 : Int32} {v5 : Int32} {S : HS} (h : P_X9_wayTrouble v0 v1 v2 v3 v4 v5 Q S) : P_X9_wayTrouble v0 v1 v2 v3 v4 v5 (fun r T => Q r T ∧ K5 S T ∧ c9 r) S := cm_X9_wayTrouble (kg_X9_wayTrouble h) (nr_X9_wayTrouble h) (fun _ _ a b => ⟨a.1, a.2, b.2⟩)
set_option maxRecDepth 20000 in
set_option maxHeartbeats 1000000 in
theorem nf_X9_least_0 {Q : Int64 → HS → Prop} {v0 : Nat} {v1 : Int32} {v2 : Int32} {v3 : Int32} {v4 : Int32} {v5 : Int32} {v6 : Int32} {S : HS} (h : P_X9_least_0 Q v0 v1 v2 v3 v4 v5 v6 S) (oc : ob S v0 9) : P_X9_least_0 (fun r T => Q r T ∧ NFq 9 9 c9 v0 T) v0 v1 v2 v3 v4 v5 v6 S := by
  delta P_X9_least_0 at h ⊢
  obtain ⟨c1, h⟩ := h
  refine ⟨c1, ?_⟩
  refine cm_X9_wayTrouble (kr_X9_wayTrouble h) h (fun x2 x3 p5 h g4 => ?_)
  have h := h g4
  have oc := gr_ob p5.2.1.1 oc
  refine cm_X9_refusedBy (nf_X9_refusedBy h oc p5.2.2) h (fun x6 x7 p10 h g8 g9 => ?_)
  have h := h g8 g9
  have N := p10.2
  have oc := N.1
  refine ⟨?_, ?_⟩
  · intro c11
    have h := h.1 c11
    obtain ⟨b12, e13, h⟩ := h
    refine ⟨b12, e13, ?_⟩
    obtain ⟨c14, h⟩ := h
    refine ⟨c14, ?_⟩
    have n15 := ob_nq oc c14 (by decide)
    refine cm_X7_meanFrom (kg_X7_meanFrom h) h (fun x16 x17 p19 h g18 => ?_)
    have h := h g18
    have oc := gr_ob p19.2.1 oc
    have N := nf_K N p19.2 (by decide)
    refine cm_X9_fraction (kg_X9_fraction h) h (fun x20 x21 p23 h g22 => ?_)
    have h := h g22
    have oc := gr_ob p23.2.1 oc
    have N := nf_K N p23.2 (by decide)
    exact ⟨h, N⟩
  · intro c24
    have h := h.2 c24
    exact ⟨h, N⟩
theorem nf_X9_least {Q : Int64 → HS → Prop} {v0 : Nat} {v1 : Int32} {v2 : Int32} {v3 : Int32} {v4 : Int32} {v5 : Int32} {v6 : Int32} {S : HS} (h : P_X9_least v0 v1 v2 v3 v4 v5 v6 Q S) (oc : ob S v0 9) : P_X9_least v0 v1 v2 v3 v4 v5 v6 (fun r T => Q r T ∧ NFq 9 9 c9 v0 T) S := nf_X9_least_0 h oc
set_option maxRecDepth 20000 in
set_option maxHeartbeats 1000000 in
theorem nf_X9_lee_0 {Q : Int64 → HS → Prop} {v0 : Nat} {v1 : Int32} {v2 : Int32} {v3 : Int32} {v4 : Int32} {v5 : Int32} {v6 : Int32} {v7 : Int32} {S : HS} (h : P_X9_lee_0 Q v0 v1 v2 v3 v4 v5 v6 v7 S) (oc : ob S v0 9) : P_X9_lee_0 (fun r T => Q r T ∧ NFq 9 9 c9 v0 T) v0 v1 v2 v3 v4 v5 v6 v7 S := by
  delta P_X9_lee_0 at h ⊢
  obtain ⟨c1, h⟩ := h
  refine ⟨c1, ?_⟩
  refine cm_X9_leeTrouble (kr_X9_leeTrouble h) h (fun x2 x3 p5 h g4 => ?_)
  have h := h g4
  have oc := gr_ob p5.2.1.1 oc
  refine cm_X9_refusedBy (nf_X9_refusedBy h oc p5.2.2) h (fun x6 x7 p10 h g8 g9 => ?_)
  have h := h g8 g9
  have N := p10.2
  have oc := N.1
  refine ⟨?_, ?_⟩
  · intro c11
    have h := h.1 c11
    obtain ⟨b12, e13, h⟩ := h
    refine ⟨b12, e13, ?_⟩
    obtain ⟨b14, e15, h⟩ := h
    refine ⟨b14, e15, ?_⟩
    obtain ⟨c16, h⟩ := h
    refine ⟨c16, ?_⟩
    have n17 := ob_nq oc c16 (by decide)
    obtain ⟨b18, e19, h⟩ := h
    refine ⟨b18, e19, ?_⟩
    obtain ⟨c20, h⟩ := h
    refine ⟨c20, ?_⟩
    have n21 := ob_nq oc c20 (by decide)
    obtain ⟨c22, h⟩ := h
    refine ⟨c22, ?_⟩
    obtain ⟨b23, e24, h⟩ := h
    refine ⟨b23, e24, ?_⟩
    obtain ⟨b25, e26, h⟩ := h
    refine ⟨b25, e26, ?_⟩
    obtain ⟨c27, h⟩ := h
    refine ⟨c27, ?_⟩
    have n28 := ob_nq oc c27 (by decide)
    obtain ⟨b29, e30, h⟩ := h
    refine ⟨b29, e30, ?_⟩
    obtain ⟨c31, h⟩ := h
    refine ⟨c31, ?_⟩
    have n32 := ob_nq oc c31 (by decide)
    obtain ⟨c33, h⟩ := h
    refine ⟨c33, ?_⟩
    obtain ⟨b34, e35, h⟩ := h
    refine ⟨b34, e35, ?_⟩
    obtain ⟨c36, h⟩ := h
    refine ⟨c36, ?_⟩
    have n37 := ob_nq oc c36 (by decide)
    refine cm_X1_lay (kg_X1_lay h) h (fun x38 p40 h g39 => ?_)
    have h := h g39
    have oc := gr_ob p40.2.1 oc
    have N := nf_K N p40.2 (by decide)
    obtain ⟨b41, e42, h⟩ := h
    refine ⟨b41, e42, ?_⟩
    obtain ⟨b43, e44, h⟩ := h
    refine ⟨b43, e44, ?_⟩
    obtain ⟨c45, h⟩ := h
    refine ⟨c45, ?_⟩
    have n46 := ob_nq oc c45 (by decide)
    obtain ⟨b47, e48, h⟩ := h
    refine ⟨b47, e48, ?_⟩
    obtain ⟨c49, h⟩ := h
    refine ⟨c49, ?_⟩
    have n50 := ob_nq oc c49 (by decide)
    obtain ⟨c51, h⟩ := h
    refine ⟨c51, ?_⟩
    obtain ⟨b52, e53, h⟩ := h
    refine ⟨b52, e53, ?_⟩
    obtain ⟨b54, e55, h⟩ := h
    refine ⟨b54, e55, ?_⟩
    obtain ⟨c56, h⟩ := h
    refine ⟨c56, ?_⟩
    have n57 := ob_nq oc c56 (by decide)
    obtain ⟨b58, e59, h⟩ := h
    refine ⟨b58, e59, ?_⟩
    obtain ⟨c60, h⟩ := h
    refine ⟨c60, ?_⟩
    have n61 := ob_nq oc c60 (by decide)
    obtain ⟨c62, h⟩ := h
    refine ⟨c62, ?_⟩
    obtain ⟨b63, e64, h⟩ := h
    refine ⟨b63, e64, ?_⟩
    obtain ⟨c65, h⟩ := h
    refine ⟨c65, ?_⟩
    have n66 := ob_nq oc c65 (by decide)
    refine cm_X1_wetInLee (kg_X1_wetInLee h) h (fun x67 x68 p70 h g69 => ?_)
    have h := h g69
    have oc := gr_ob p70.2.1 oc
    have N := nf_K N p70.2 (by decide)
    refine cm_X9_fraction (kg_X9_fraction h) h (fun x71 x72 p74 h g73 => ?_)
    have h := h g73
    have oc := gr_ob p74.2.1 oc
    have N := nf_K N p74.2 (by decide)
    exact ⟨h, N⟩
  · intro c75
    have h := h.2 c75
    exact ⟨h, N⟩
theorem nf_X9_lee {Q : Int64 → HS → Prop} {v0 : Nat} {v1 : Int32} {v2 : Int32} {v3 : Int32} {v4 : Int32} {v5 : Int32} {v6 : Int32} {v7 : Int32} {S : HS} (h : P_X9_lee v0 v1 v2 v3 v4 v5 v6 v7 Q S) (oc : ob S v0 9) : P_X9_lee v0 v1 v2 v3 v4 v5 v6 v7 (fun r T => Q r T ∧ NFq 9 9 c9 v0 T) S := nf_X9_lee_0 h oc
set_option maxRecDepth 20000 in
set_option maxHeartbeats 1000000 in
theorem nf_X9_lies_54 {Q : Int32 → HS → Prop} {X20 X20_2 : Nat → Int32 → Int32 → HS → Prop} {v0 : Nat} {v1 : Int32} {v2 : Int32} {S : HS} (h : P_X9_lies_54 Q X20 v0 v1 v2 S) (oc : ob S v0 9) (hX20 : ∀ (u0 : Nat) (u1 : Int32) (u2 : Int32) (u3 : HS), X20 u0 u1 u2 u3 → u0 = v0 → ob u3 v0 9 → X20_2 u0 u1 u2 u3) : P_X9_lies_54 (fun r T => Q r T ∧ NFq 9 9 c9 v0 T) X20_2 v0 v1 v2 S := by
  delta P_X9_lies_54 at h ⊢
  intro x2 e1
  have h := h x2 e1
  exact hX20 _ _ _ _ h rfl oc
set_option maxRecDepth 20000 in
set_option maxHeartbeats 1000000 in
theorem nfB_X9_lies_20 {Q : Int32 → HS → Prop} {X20 X20_2 : Nat → Int32 → Int32 → HS → Prop} {v0 : Nat} {v1 : Int32} {v2 : Int32} {S : HS} (h : B_X9_lies_20 Q X20 v0 v1 v2 S) (oc : ob S v0 9) (hX20 : ∀ (u0 : Nat) (u1 : Int32) (u2 : Int32) (u3 : HS), X20 u0 u1 u2 u3 → u0 = v0 → ob u3 v0 9 → X20_2 u0 u1 u2 u3) : B_X9_lies_20 (fun r T => Q r T ∧ NFq 9 9 c9 v0 T) X20_2 v0 v1 v2 S := by
  delta B_X9_lies_20 at h ⊢
  obtain ⟨c1, h⟩ := h
  refine ⟨c1, ?_⟩
  obtain ⟨b2, e3, h⟩ := h
  refine ⟨b2, e3, ?_⟩
  obtain ⟨c4, h⟩ := h
  refine ⟨c4, ?_⟩
  have n5 := ob_nq oc c4 (by decide)
  intro x7 e6
  have h := h x7 e6
  refine ⟨?_, ?_⟩
  · intro c8
    have h := h.1 c8
    refine cm_X9_grant (nf_X9_grant h oc) h (fun x9 x10 p12 h g11 => ?_)
    have h := h g11
    have N := p12.2
    have oc := N.1
    exact ⟨h, N⟩
  · intro c13
    have h := h.2 c13
    obtain ⟨b14, e15, h⟩ := h
    refine ⟨b14, e15, ?_⟩
    obtain ⟨b16, e17, h⟩ := h
    refine ⟨b16, e17, ?_⟩
    obtain ⟨c18, h⟩ := h
    refine ⟨c18, ?_⟩
    have n19 := ob_nq oc c18 (by decide)
    refine cm_X1_findFit (kg_X1_findFit h) h (fun x20 x21 p23 h g22 => ?_)
    have h := h g22
    have oc := gr_ob p23.2.1 oc
    refine ⟨?_, ?_⟩
    · intro c24
      have h := h.1 c24
      exact nf_X9_lies_54 h oc hX20
    · intro c25
      have h := h.2 c25
      intro x27 e26
      have h := h x27 e26
      exact nf_X9_lies_54 h oc hX20
theorem nf_X9_lies_20 {Q : Int32 → HS → Prop} {v0 : Nat} {v1 : Int32} {v2 : Int32} {S : HS} (h : P_X9_lies_20 Q v0 v1 v2 S) (oc : ob S v0 9) : P_X9_lies_20 (fun r T => Q r T ∧ NFq 9 9 c9 v0 T) v0 v1 v2 S := h (fun w0 v1 v2 S => w0 = v0 → ob S v0 9 → P_X9_lies_20 (fun r T => Q r T ∧ NFq 9 9 c9 v0 T) w0 v1 v2 S) (fun w0 v1 v2 S hB e oc => by
  subst e; exact fd_X9_lies_20 (nfB_X9_lies_20 hB oc (fun _ _ _ _ hx e oc => hx e oc))) rfl oc
set_option maxRecDepth 20000 in
set_option maxHeartbeats 1000000 in
theorem nf_X9_lies_0 {Q : Int32 → HS → Prop} {v0 : Nat} {S : HS} (h : P_X9_lies_0 Q v0 S) (oc : ob S v0 9) : P_X9_lies_0 (fun r T => Q r T ∧ NFq 9 9 c9 v0 T) v0 S := by
  delta P_X9_lies_0 at h ⊢
  obtain ⟨c1, h⟩ := h
  refine ⟨c1, ?_⟩
  obtain ⟨b2, e3, h⟩ := h
  refine ⟨b2, e3, ?_⟩
  obtain ⟨c4, h⟩ := h
  refine ⟨c4, ?_⟩
  have n5 := ob_nq oc c4 (by decide)
  refine cm_X8_isTold (kg_X8_isTold h) h (fun x6 x7 p10 h g8 g9 => ?_)
  have h := h g8 g9
  have oc := gr_ob p10.2.1 oc
  refine ⟨?_, ?_⟩
  · intro c11
    have h := h.1 c11
    exact nf_X9_lies_20 h oc
  · intro c12
    have h := h.2 c12
    refine cm_X9_refuse (nf_X9_refuse h oc (by decide)) h (fun x13 x14 p16 h g15 => ?_)
    have h := h g15
    have N := p16.2
    have oc := N.1
    exact ⟨h, N⟩
theorem nf_X9_lies {Q : Int32 → HS → Prop} {v0 : Nat} {S : HS} (h : P_X9_lies v0 Q S) (oc : ob S v0 9) : P_X9_lies v0 (fun r T => Q r T ∧ NFq 9 9 c9 v0 T) S := nf_X9_lies_0 h oc
set_option maxRecDepth 20000 in
set_option maxHeartbeats 1000000 in
theorem nf_X9_mark_0 {Q : Int32 → HS → Prop} {v0 : Nat} {S : HS} (h : P_X9_mark_0 Q v0 S) (oc : ob S v0 9) : P_X9_mark_0 (fun r T => Q r T ∧ NFq 9 9 c9 v0 T) v0 S := by
  delta P_X9_mark_0 at h ⊢
  obtain ⟨c1, h⟩ := h
  refine ⟨c1, ?_⟩
  obtain ⟨b2, e3, h⟩ := h
  refine ⟨b2, e3, ?_⟩
  obtain ⟨c4, h⟩ := h
  refine ⟨c4, ?_⟩
  have n5 := ob_nq oc c4 (by decide)
  refine cm_X0_isOn (kg_X0_isOn h) h (fun x6 x7 p10 h g8 g9 => ?_)
  have h := h g8 g9
  have oc := gr_ob p10.2.1 oc
  refine ⟨?_, ?_⟩
  · intro c11
    have h := h.1 c11
    obtain ⟨b12, e13, h⟩ := h
    refine ⟨b12, e13, ?_⟩
    obtain ⟨c14, h⟩ := h
    refine ⟨c14, ?_⟩
    have n15 := ob_nq oc c14 (by decide)
    refine cm_X0_setMark (kg_X0_setMark h) h (fun x16 x17 p19 h g18 => ?_)
    have h := h g18
    have oc := gr_ob p19.2.1 oc
    refine ⟨?_, ?_⟩
    · intro c20
      have h := h.1 c20
      refine cm_X9_grant (nf_X9_grant h oc) h (fun x21 x22 p24 h g23 => ?_)
      have h := h g23
      have N := p24.2
      have oc := N.1
      exact ⟨h, N⟩
    · intro c25
      have h := h.2 c25
      refine cm_X9_refuse (nf_X9_refuse h oc (by decide)) h (fun x26 x27 p29 h g28 => ?_)
      have h := h g28
      have N := p29.2
      have oc := N.1
      exact ⟨h, N⟩
  · intro c30
    have h := h.2 c30
    refine cm_X9_refuse (nf_X9_refuse h oc (by decide)) h (fun x31 x32 p34 h g33 => ?_)
    have h := h g33
    have N := p34.2
    have oc := N.1
    exact ⟨h, N⟩
theorem nf_X9_mark {Q : Int32 → HS → Prop} {v0 : Nat} {S : HS} (h : P_X9_mark v0 Q S) (oc : ob S v0 9) : P_X9_mark v0 (fun r T => Q r T ∧ NFq 9 9 c9 v0 T) S := nf_X9_mark_0 h oc
set_option maxRecDepth 20000 in
set_option maxHeartbeats 1000000 in
theorem nf_X9_mean_0 {Q : Int64 → HS → Prop} {v0 : Nat} {v1 : Int32} {v2 : Int32} {v3 : Int32} {v4 : Int32} {v5 : Int32} {v6 : Int32} {S : HS} (h : P_X9_mean_0 Q v0 v1 v2 v3 v4 v5 v6 S) (oc : ob S v0 9) : P_X9_mean_0 (fun r T => Q r T ∧ NFq 9 9 c9 v0 T) v0 v1 v2 v3 v4 v5 v6 S := by
  delta P_X9_mean_0 at h ⊢
  obtain ⟨c1, h⟩ := h
  refine ⟨c1, ?_⟩
  refine cm_X9_legTrouble (kr_X9_legTrouble h) h (fun x2 x3 p5 h g4 => ?_)
  have h := h g4
  have oc := gr_ob p5.2.1.1 oc
  refine cm_X9_refusedBy (nf_X9_refusedBy h oc p5.2.2) h (fun x6 x7 p10 h g8 g9 => ?_)
  have h := h g8 g9
  have N := p10.2
  have oc := N.1
  refine ⟨?_, ?_⟩
  · intro c11
    have h := h.1 c11
    obtain ⟨b12, e13, h⟩ := h
    refine ⟨b12, e13, ?_⟩
    obtain ⟨b14, e15, h⟩ := h
    refine ⟨b14, e15, ?_⟩
    obtain ⟨c16, h⟩ := h
    refine ⟨c16, ?_⟩
    have n17 := ob_nq oc c16 (by decide)
    obtain ⟨b18, e19, h⟩ := h
    refine ⟨b18, e19, ?_⟩
    obtain ⟨c20, h⟩ := h
    refine ⟨c20, ?_⟩
    have n21 := ob_nq oc c20 (by decide)
    obtain ⟨c22, h⟩ := h
    refine ⟨c22, ?_⟩
    obtain ⟨b23, e24, h⟩ := h
    refine ⟨b23, e24, ?_⟩
    obtain ⟨b25, e26, h⟩ := h
    refine ⟨b25, e26, ?_⟩
    obtain ⟨c27, h⟩ := h
    refine ⟨c27, ?_⟩
    have n28 := ob_nq oc c27 (by decide)
    obtain ⟨b29, e30, h⟩ := h
    refine ⟨b29, e30, ?_⟩
    obtain ⟨c31, h⟩ := h
    refine ⟨c31, ?_⟩
    have n32 := ob_nq oc c31 (by decide)
    obtain ⟨c33, h⟩ := h
    refine ⟨c33, ?_⟩
    obtain ⟨b34, e35, h⟩ := h
    refine ⟨b34, e35, ?_⟩
    obtain ⟨b36, e37, h⟩ := h
    refine ⟨b36, e37, ?_⟩
    obtain ⟨c38, h⟩ := h
    refine ⟨c38, ?_⟩
    have n39 := ob_nq oc c38 (by decide)
    obtain ⟨b40, e41, h⟩ := h
    refine ⟨b40, e41, ?_⟩
    obtain ⟨c42, h⟩ := h
    refine ⟨c42, ?_⟩
    have n43 := ob_nq oc c42 (by decide)
    obtain ⟨c44, h⟩ := h
    refine ⟨c44, ?_⟩
    obtain ⟨b45, e46, h⟩ := h
    refine ⟨b45, e46, ?_⟩
    obtain ⟨c47, h⟩ := h
    refine ⟨c47, ?_⟩
    have n48 := ob_nq oc c47 (by decide)
    refine cm_X1_wetOf (kg_X1_wetOf h) h (fun x49 x50 p52 h g51 => ?_)
    have h := h g51
    have oc := gr_ob p52.2.1 oc
    have N := nf_K N p52.2 (by decide)
    obtain ⟨b53, e54, h⟩ := h
    refine ⟨b53, e54, ?_⟩
    obtain ⟨c55, h⟩ := h
    refine ⟨c55, ?_⟩
    have n56 := ob_nq oc c55 (by decide)
    obtain ⟨b57, e58, h⟩ := h
    refine ⟨b57, e58, ?_⟩
    obtain ⟨c59, h⟩ := h
    refine ⟨c59, ?_⟩
    have n60 := ob_nq oc c59 (by decide)
    obtain ⟨c61, h⟩ := h
    refine ⟨c61, ?_⟩
    obtain ⟨b62, e63, h⟩ := h
    refine ⟨b62, e63, ?_⟩
    obtain ⟨c64, h⟩ := h
    refine ⟨c64, ?_⟩
    have n65 := ob_nq oc c64 (by decide)
    intro x67 e66
    have h := h x67 e66
    refine cm_X9_fraction (kg_X9_fraction h) h (fun x68 x69 p71 h g70 => ?_)
    have h := h g70
    have oc := gr_ob p71.2.1 oc
    have N := nf_K N p71.2 (by decide)
    exact ⟨h, N⟩
  · intro c72
    have h := h.2 c72
    exact ⟨h, N⟩
theorem nf_X9_mean {Q : Int64 → HS → Prop} {v0 : Nat} {v1 : Int32} {v2 : Int32} {v3 : Int32} {v4 : Int32} {v5 : Int32} {v6 : Int32} {S : HS} (h : P_X9_mean v0 v1 v2 v3 v4 v5 v6 Q S) (oc : ob S v0 9) : P_X9_mean v0 v1 v2 v3 v4 v5 v6 (fun r T => Q r T ∧ NFq 9 9 c9 v0 T) S := nf_X9_mean_0 h oc
set_option maxRecDepth 20000 in
set_option maxHeartbeats 1000000 in
theorem nf_X9_minutes_22 {Q : Int32 → HS → Prop} {v0 : Nat} {S : HS} (h : P_X9_minutes_22 Q v0 S) (oc : ob S v0 9) : P_X9_minutes_22 (fun r T => Q r T ∧ NFq 9 9 c9 v0 T) v0 S := by
  delta P_X9_minutes_22 at h ⊢
  obtain ⟨c1, h⟩ := h
  refine ⟨c1, ?_⟩
  refine cm_X9_refuse (nf_X9_refuse h oc (by decide)) h (fun x2 x3 p5 h g4 => ?_)
  have h := h g4
  have N := p5.2
  have oc := N.1
  exact ⟨h, N⟩
set_option maxRecDepth 20000 in
set_option maxHeartbeats 1000000 in
theorem nf_X9_minutes_0 {Q : Int32 → HS → Prop} {v0 : Nat} {v1 : Int32} {v2 : Int32} {v3 : Int32} {S : HS} (h : P_X9_minutes_0 Q v0 v1 v2 v3 S) (oc : ob S v0 9) : P_X9_minutes_0 (fun r T => Q r T ∧ NFq 9 9 c9 v0 T) v0 v1 v2 v3 S := by
  delta P_X9_minutes_0 at h ⊢
  obtain ⟨c1, h⟩ := h
  refine ⟨c1, ?_⟩
  obtain ⟨b2, e3, h⟩ := h
  refine ⟨b2, e3, ?_⟩
  obtain ⟨c4, h⟩ := h
  refine ⟨c4, ?_⟩
  have n5 := ob_nq oc c4 (by decide)
  refine cm_X8_hasWalker (kg_X8_hasWalker h) h (fun x6 x7 p10 h g8 g9 => ?_)
  have h := h g8 g9
  have oc := gr_ob p10.2.1 oc
  refine ⟨?_, ?_⟩
  · intro c11
    have h := h.1 c11
    exact nf_X9_minutes_22 h oc
  · intro c12
    have h := h.2 c12
    obtain ⟨b13, e14, h⟩ := h
    refine ⟨b13, e14, ?_⟩
    obtain ⟨c15, h⟩ := h
    refine ⟨c15, ?_⟩
    have n16 := ob_nq oc c15 (by decide)
    refine cm_X8_hasRoad (kg_X8_hasRoad h) h (fun x17 x18 p21 h g19 g20 => ?_)
    have h := h g19 g20
    have oc := gr_ob p21.2.1 oc
    refine ⟨?_, ?_⟩
    · intro c22
      have h := h.1 c22
      obtain ⟨b23, e24, h⟩ := h
      refine ⟨b23, e24, ?_⟩
      obtain ⟨c25, h⟩ := h
      refine ⟨c25, ?_⟩
      have n26 := ob_nq oc c25 (by decide)
      obtain ⟨b27, e28, h⟩ := h
      refine ⟨b27, e28, ?_⟩
      obtain ⟨c29, h⟩ := h
      refine ⟨c29, ?_⟩
      have n30 := ob_nq oc c29 (by decide)
      obtain ⟨c31, h⟩ := h
      refine ⟨c31, ?_⟩
      obtain ⟨b32, e33, h⟩ := h
      refine ⟨b32, e33, ?_⟩
      obtain ⟨c34, h⟩ := h
      refine ⟨c34, ?_⟩
      have n35 := ob_nq oc c34 (by decide)
      refine cm_X6_canGo (kg_X6_canGo h) h (fun x36 x37 p40 h g38 g39 => ?_)
      have h := h g38 g39
      have oc := gr_ob p40.2.1 oc
      refine ⟨?_, ?_⟩
      · intro c41
        have h := h.1 c41
        obtain ⟨b42, e43, h⟩ := h
        refine ⟨b42, e43, ?_⟩
        obtain ⟨c44, h⟩ := h
        refine ⟨c44, ?_⟩
        have n45 := ob_nq oc c44 (by decide)
        obtain ⟨b46, e47, h⟩ := h
        refine ⟨b46, e47, ?_⟩
        obtain ⟨c48, h⟩ := h
        refine ⟨c48, ?_⟩
        have n49 := ob_nq oc c48 (by decide)
        obtain ⟨c50, h⟩ := h
        refine ⟨c50, ?_⟩
        obtain ⟨b51, e52, h⟩ := h
        refine ⟨b51, e52, ?_⟩
        obtain ⟨c53, h⟩ := h
        refine ⟨c53, ?_⟩
        have n54 := ob_nq oc c53 (by decide)
        refine cm_X5_minutesAt (kg_X5_minutesAt h) h (fun x55 x56 p58 h g57 => ?_)
        have h := h g57
        have oc := gr_ob p58.2.1 oc
        refine cm_X9_grant (nf_X9_grant h oc) h (fun x59 x60 p62 h g61 => ?_)
        have h := h g61
        have N := p62.2
        have oc := N.1
        exact ⟨h, N⟩
      · intro c63
        have h := h.2 c63
        refine cm_X9_refuse (nf_X9_refuse h oc (by decide)) h (fun x64 x65 p67 h g66 => ?_)
        have h := h g66
        have N := p67.2
        have oc := N.1
        exact ⟨h, N⟩
    · intro c68
      have h := h.2 c68
      exact nf_X9_minutes_22 h oc
theorem nf_X9_minutes {Q : Int32 → HS → Prop} {v0 : Nat} {v1 : Int32} {v2 : Int32} {v3 : Int32} {S : HS} (h : P_X9_minutes v0 v1 v2 v3 Q S) (oc : ob S v0 9) : P_X9_minutes v0 v1 v2 v3 (fun r T => Q r T ∧ NFq 9 9 c9 v0 T) S := nf_X9_minutes_0 h oc
set_option maxRecDepth 20000 in
set_option maxHeartbeats 1000000 in
theorem nf_X9_off_128 {Q : Int32 → HS → Prop} {X62 X62_2 : Nat → Int32 → Int32 → Int32 → Int32 → HS → Prop} {v0 : Nat} {v2 : Int32} {v4 : Int32} {v6 : Int32} {v7 : Int32} {S : HS} (h : P_X9_off_128 Q X62 v0 v2 v4 v6 v7 S) (oc : ob S v0 9) (N : NFq 9 9 c9 v0 S) (hX62 : ∀ (u0 : Nat) (u1 : Int32) (u2 : Int32) (u3 : Int32) (u4 : Int32) (u5 : HS), X62 u0 u1 u2 u3 u4 u5 → u0 = v0 → ob u5 v0 9 → NFq 9 9 c9 v0 u5 → X62_2 u0 u1 u2 u3 u4 u5) : P_X9_off_128 (fun r T => Q r T ∧ NFq 9 9 c9 v0 T) X62_2 v0 v2 v4 v6 v7 S := by
  delta P_X9_off_128 at h ⊢
  intro x2 e1
  have h := h x2 e1
  exact hX62 _ _ _ _ _ _ h rfl oc N
set_option maxRecDepth 20000 in
set_option maxHeartbeats 1000000 in
theorem nf_X9_off_104 {Q : Int32 → HS → Prop} {X62 X62_2 : Nat → Int32 → Int32 → Int32 → Int32 → HS → Prop} {v0 : Nat} {v2 : Int32} {v4 : Int32} {v6 : Int32} {v7 : Int32} {s0 : Int32} {S : HS} (h : P_X9_off_104 Q X62 v0 v2 v4 v6 v7 s0 S) (oc : ob S v0 9) (N : NFq 9 9 c9 v0 S) (hX62 : ∀ (u0 : Nat) (u1 : Int32) (u2 : Int32) (u3 : Int32) (u4 : Int32) (u5 : HS), X62 u0 u1 u2 u3 u4 u5 → u0 = v0 → ob u5 v0 9 → NFq 9 9 c9 v0 u5 → X62_2 u0 u1 u2 u3 u4 u5) : P_X9_off_104 (fun r T => Q r T ∧ NFq 9 9 c9 v0 T) X62_2 v0 v2 v4 v6 v7 s0 S := by
  delta P_X9_off_104 at h ⊢
  obtain ⟨c1, h⟩ := h
  refine ⟨c1, ?_⟩
  obtain ⟨b2, e3, h⟩ := h
  refine ⟨b2, e3, ?_⟩
  obtain ⟨c4, h⟩ := h
  refine ⟨c4, ?_⟩
  have n5 := ob_nq oc c4 (by decide)
  refine cm_X7_isOpen (kg_X7_isOpen h) h (fun x6 x7 p10 h g8 g9 => ?_)
  have h := h g8 g9
  have oc := gr_ob p10.2.1 oc
  have N := nf_K N p10.2 (by decide)
  refine ⟨?_, ?_⟩
  · intro c11
    have h := h.1 c11
    exact nf_X9_off_128 h oc N hX62
  · intro c12
    have h := h.2 c12
    refine ⟨?_, ?_⟩
    · intro c13
      have h := h.1 c13
      exact nf_X9_off_128 h oc N hX62
    · intro c14
      have h := h.2 c14
      exact nf_X9_off_128 h oc N hX62
set_option maxRecDepth 20000 in
set_option maxHeartbeats 1000000 in
theorem nf_X9_off_99 {Q : Int32 → HS → Prop} {X62 X62_2 : Nat → Int32 → Int32 → Int32 → Int32 → HS → Prop} {v0 : Nat} {v2 : Int32} {v4 : Int32} {v6 : Int32} {v7 : Int32} {S : HS} (h : P_X9_off_99 Q X62 v0 v2 v4 v6 v7 S) (oc : ob S v0 9) (N : NFq 9 9 c9 v0 S) (hX62 : ∀ (u0 : Nat) (u1 : Int32) (u2 : Int32) (u3 : Int32) (u4 : Int32) (u5 : HS), X62 u0 u1 u2 u3 u4 u5 → u0 = v0 → ob u5 v0 9 → NFq 9 9 c9 v0 u5 → X62_2 u0 u1 u2 u3 u4 u5) : P_X9_off_99 (fun r T => Q r T ∧ NFq 9 9 c9 v0 T) X62_2 v0 v2 v4 v6 v7 S := by
  delta P_X9_off_99 at h ⊢
  exact nf_X9_off_104 h oc N hX62
set_option maxRecDepth 20000 in
set_option maxHeartbeats 1000000 in
theorem nfB_X9_off_62 {Q : Int32 → HS → Prop} {X62 X62_2 : Nat → Int32 → Int32 → Int32 → Int32 → HS → Prop} {v0 : Nat} {v2 : Int32} {v4 : Int32} {v6 : Int32} {v7 : Int32} {S : HS} (h : B_X9_off_62 Q X62 v0 v2 v4 v6 v7 S) (oc : ob S v0 9) (N : NFq 9 9 c9 v0 S) (hX62 : ∀ (u0 : Nat) (u1 : Int32) (u2 : Int32) (u3 : Int32) (u4 : Int32) (u5 : HS), X62 u0 u1 u2 u3 u4 u5 → u0 = v0 → ob u5 v0 9 → NFq 9 9 c9 v0 u5 → X62_2 u0 u1 u2 u3 u4 u5) : B_X9_off_62 (fun r T => Q r T ∧ NFq 9 9 c9 v0 T) X62_2 v0 v2 v4 v6 v7 S := by
  delta B_X9_off_62 at h ⊢
  refine ⟨?_, ?_⟩
  · intro c1
    have h := h.1 c1
    refine ⟨?_, ?_⟩
    · intro c2
      have h := h.1 c2
      exact ⟨h, N⟩
    · intro c3
      have h := h.2 c3
      obtain ⟨c4, h⟩ := h
      refine ⟨c4, ?_⟩
      refine cm_X9_refuse (nf_X9_refuse h oc (by decide)) h (fun x5 x6 p8 h g7 => ?_)
      have h := h g7
      have N := p8.2
      have oc := N.1
      exact ⟨h, N⟩
  · intro c9
    have h := h.2 c9
    refine ⟨?_, ?_⟩
    · intro c10
      have h := h.1 c10
      exact nf_X9_off_99 h oc N hX62
    · intro c11
      have h := h.2 c11
      obtain ⟨c12, h⟩ := h
      refine ⟨c12, ?_⟩
      obtain ⟨b13, e14, h⟩ := h
      refine ⟨b13, e14, ?_⟩
      obtain ⟨c15, h⟩ := h
      refine ⟨c15, ?_⟩
      have n16 := ob_nq oc c15 (by decide)
      refine cm_X7_meanFrom (kg_X7_meanFrom h) h (fun x17 x18 p20 h g19 => ?_)
      have h := h g19
      have oc := gr_ob p20.2.1 oc
      have N := nf_K N p20.2 (by decide)
      obtain ⟨b21, e22, h⟩ := h
      refine ⟨b21, e22, ?_⟩
      obtain ⟨c23, h⟩ := h
      refine ⟨c23, ?_⟩
      have n24 := ob_nq oc c23 (by decide)
      refine cm_X7_meanFrom (kg_X7_meanFrom h) h (fun x25 x26 p28 h g27 => ?_)
      have h := h g27
      have oc := gr_ob p28.2.1 oc
      have N := nf_K N p28.2 (by decide)
      refine ⟨?_, ?_⟩
      · intro c29
        have h := h.1 c29
        exact nf_X9_off_104 h oc N hX62
      · intro c30
        have h := h.2 c30
        exact nf_X9_off_99 h oc N hX62
theorem nf_X9_off_62 {Q : Int32 → HS → Prop} {v0 : Nat} {v2 : Int32} {v4 : Int32} {v6 : Int32} {v7 : Int32} {S : HS} (h : P_X9_off_62 Q v0 v2 v4 v6 v7 S) (oc : ob S v0 9) (N : NFq 9 9 c9 v0 S) : P_X9_off_62 (fun r T => Q r T ∧ NFq 9 9 c9 v0 T) v0 v2 v4 v6 v7 S := h (fun w0 v2 v4 v6 v7 S => w0 = v0 → ob S v0 9 → NFq 9 9 c9 v0 S → P_X9_off_62 (fun r T => Q r T ∧ NFq 9 9 c9 v0 T) w0 v2 v4 v6 v7 S) (fun w0 v2 v4 v6 v7 S hB e oc N => by
  subst e; exact fd_X9_off_62 (nfB_X9_off_62 hB oc N (fun _ _ _ _ _ _ hx e oc N => hx e oc N))) rfl oc N
set_option maxRecDepth 20000 in
set_option maxHeartbeats 1000000 in
theorem nf_X9_off_25 {Q : Int32 → HS → Prop} {v0 : Nat} {v1 : Int32} {v2 : Int32} {v3 : Int32} {v4 : Int32} {v5 : Int32} {S : HS} (h : P_X9_off_25 Q v0 v1 v2 v3 v4 v5 S) (oc : ob S v0 9) (z_v5 : c9 v5) : P_X9_off_25 (fun r T => Q r T ∧ NFq 9 9 c9 v0 T) v0 v1 v2 v3 v4 v5 S := by
  delta P_X9_off_25 at h ⊢
  obtain ⟨c1, h⟩ := h
  refine ⟨c1, ?_⟩
  refine cm_X9_refusedBy (nf_X9_refusedBy h oc z_v5) h (fun x2 x3 p6 h g4 g5 => ?_)
  have h := h g4 g5
  have N := p6.2
  have oc := N.1
  refine ⟨?_, ?_⟩
  · intro c7
    have h := h.1 c7
    obtain ⟨b8, e9, h⟩ := h
    refine ⟨b8, e9, ?_⟩
    obtain ⟨b10, e11, h⟩ := h
    refine ⟨b10, e11, ?_⟩
    obtain ⟨b12, e13, h⟩ := h
    refine ⟨b12, e13, ?_⟩
    obtain ⟨c14, h⟩ := h
    refine ⟨c14, ?_⟩
    have n15 := ob_nq oc c14 (by decide)
    refine cm_X7_reckon (kg_X7_reckon h) h (fun x16 p18 h g17 => ?_)
    have h := h g17
    have oc := gr_ob p18.2.1 oc
    have N := nf_K N p18.2 (by decide)
    exact nf_X9_off_62 h oc N
  · intro c19
    have h := h.2 c19
    exact ⟨h, N⟩
set_option maxRecDepth 20000 in
set_option maxHeartbeats 1000000 in
theorem nf_X9_off_0 {Q : Int32 → HS → Prop} {v0 : Nat} {v1 : Int32} {v2 : Int32} {v3 : Int32} {v4 : Int32} {S : HS} (h : P_X9_off_0 Q v0 v1 v2 v3 v4 S) (oc : ob S v0 9) : P_X9_off_0 (fun r T => Q r T ∧ NFq 9 9 c9 v0 T) v0 v1 v2 v3 v4 S := by
  delta P_X9_off_0 at h ⊢
  obtain ⟨c1, h⟩ := h
  refine ⟨c1, ?_⟩
  refine cm_X9_placesTrouble (kr_X9_placesTrouble h) h (fun x2 x3 p5 h g4 => ?_)
  have h := h g4
  have oc := gr_ob p5.2.1.1 oc
  refine ⟨?_, ?_⟩
  · intro c6
    have h := h.1 c6
    exact nf_X9_off_25 h oc p5.2.2
  · intro c7
    have h := h.2 c7
    refine cm_X9_isTill (kg_X9_isTill h) h (fun x8 x9 p12 h g10 g11 => ?_)
    have h := h g10 g11
    have oc := gr_ob p12.2.1 oc
    refine ⟨?_, ?_⟩
    · intro c13
      have h := h.1 c13
      exact nf_X9_off_25 h oc p5.2.2
    · intro c14
      have h := h.2 c14
      exact nf_X9_off_25 h oc (by decide)
theorem nf_X9_off {Q : Int32 → HS → Prop} {v0 : Nat} {v1 : Int32} {v2 : Int32} {v3 : Int32} {v4 : Int32} {S : HS} (h : P_X9_off v0 v1 v2 v3 v4 Q S) (oc : ob S v0 9) : P_X9_off v0 v1 v2 v3 v4 (fun r T => Q r T ∧ NFq 9 9 c9 v0 T) S := nf_X9_off_0 h oc
set_option maxRecDepth 20000 in
set_option maxHeartbeats 1000000 in
theorem nf_X9_road_20 {Q : Int32 → HS → Prop} {v0 : Nat} {S : HS} (h : P_X9_road_20 Q v0 S) (oc : ob S v0 9) : P_X9_road_20 (fun r T => Q r T ∧ NFq 9 9 c9 v0 T) v0 S := by
  delta P_X9_road_20 at h ⊢
  obtain ⟨c1, h⟩ := h
  refine ⟨c1, ?_⟩
  refine cm_X9_refuse (nf_X9_refuse h oc (by decide)) h (fun x2 x3 p5 h g4 => ?_)
  have h := h g4
  have N := p5.2
  have oc := N.1
  exact ⟨h, N⟩
set_option maxRecDepth 20000 in
set_option maxHeartbeats 1000000 in
theorem nf_X9_road_0 {Q : Int32 → HS → Prop} {v0 : Nat} {v1 : Int32} {v2 : Int32} {S : HS} (h : P_X9_road_0 Q v0 v1 v2 S) (oc : ob S v0 9) : P_X9_road_0 (fun r T => Q r T ∧ NFq 9 9 c9 v0 T) v0 v1 v2 S := by
  delta P_X9_road_0 at h ⊢
  obtain ⟨c1, h⟩ := h
  refine ⟨c1, ?_⟩
  obtain ⟨b2, e3, h⟩ := h
  refine ⟨b2, e3, ?_⟩
  obtain ⟨c4, h⟩ := h
  refine ⟨c4, ?_⟩
  have n5 := ob_nq oc c4 (by decide)
  refine cm_X8_hasRoad (kg_X8_hasRoad h) h (fun x6 x7 p10 h g8 g9 => ?_)
  have h := h g8 g9
  have oc := gr_ob p10.2.1 oc
  refine ⟨?_, ?_⟩
  · intro c11
    have h := h.1 c11
    exact nf_X9_road_20 h oc
  · intro c12
    have h := h.2 c12
    refine ⟨?_, ?_⟩
    · intro c13
      have h := h.1 c13
      exact nf_X9_road_20 h oc
    · intro c14
      have h := h.2 c14
      refine ⟨?_, ?_⟩
      · intro c15
        have h := h.1 c15
        obtain ⟨b16, e17, h⟩ := h
        refine ⟨b16, e17, ?_⟩
        obtain ⟨c18, h⟩ := h
        refine ⟨c18, ?_⟩
        have n19 := ob_nq oc c18 (by decide)
        obtain ⟨b20, e21, h⟩ := h
        refine ⟨b20, e21, ?_⟩
        obtain ⟨c22, h⟩ := h
        refine ⟨c22, ?_⟩
        have n23 := ob_nq oc c22 (by decide)
        obtain ⟨c24, h⟩ := h
        refine ⟨c24, ?_⟩
        obtain ⟨b25, e26, h⟩ := h
        refine ⟨b25, e26, ?_⟩
        obtain ⟨c27, h⟩ := h
        refine ⟨c27, ?_⟩
        have n28 := ob_nq oc c27 (by decide)
        refine cm_X5_tell (kg_X5_tell h) h (fun x29 x30 p32 h g31 => ?_)
        have h := h g31
        have oc := gr_ob p32.2.1 oc
        refine cm_X9_grant (nf_X9_grant h oc) h (fun x33 x34 p36 h g35 => ?_)
        have h := h g35
        have N := p36.2
        have oc := N.1
        exact ⟨h, N⟩
      · intro c37
        have h := h.2 c37
        exact nf_X9_road_20 h oc
theorem nf_X9_road {Q : Int32 → HS → Prop} {v0 : Nat} {v1 : Int32} {v2 : Int32} {S : HS} (h : P_X9_road v0 v1 v2 Q S) (oc : ob S v0 9) : P_X9_road v0 v1 v2 (fun r T => Q r T ∧ NFq 9 9 c9 v0 T) S := nf_X9_road_0 h oc
set_option maxRecDepth 20000 in
set_option maxHeartbeats 1000000 in
theorem nf_X9_round_0 {Q : Int64 → HS → Prop} {v0 : Nat} {v1 : Int32} {v2 : Int32} {v3 : Int32} {v4 : Int32} {S : HS} (h : P_X9_round_0 Q v0 v1 v2 v3 v4 S) (oc : ob S v0 9) : P_X9_round_0 (fun r T => Q r T ∧ NFq 9 9 c9 v0 T) v0 v1 v2 v3 v4 S := by
  delta P_X9_round_0 at h ⊢
  obtain ⟨c1, h⟩ := h
  refine ⟨c1, ?_⟩
  refine cm_X9_tripTrouble (kr_X9_tripTrouble h) h (fun x2 x3 p5 h g4 => ?_)
  have h := h g4
  have oc := gr_ob p5.2.1.1 oc
  refine cm_X9_refusedBy (nf_X9_refusedBy h oc p5.2.2) h (fun x6 x7 p10 h g8 g9 => ?_)
  have h := h g8 g9
  have N := p10.2
  have oc := N.1
  refine ⟨?_, ?_⟩
  · intro c11
    have h := h.1 c11
    obtain ⟨b12, e13, h⟩ := h
    refine ⟨b12, e13, ?_⟩
    obtain ⟨b14, e15, h⟩ := h
    refine ⟨b14, e15, ?_⟩
    obtain ⟨c16, h⟩ := h
    refine ⟨c16, ?_⟩
    have n17 := ob_nq oc c16 (by decide)
    obtain ⟨b18, e19, h⟩ := h
    refine ⟨b18, e19, ?_⟩
    obtain ⟨c20, h⟩ := h
    refine ⟨c20, ?_⟩
    have n21 := ob_nq oc c20 (by decide)
    obtain ⟨c22, h⟩ := h
    refine ⟨c22, ?_⟩
    obtain ⟨b23, e24, h⟩ := h
    refine ⟨b23, e24, ?_⟩
    obtain ⟨b25, e26, h⟩ := h
    refine ⟨b25, e26, ?_⟩
    obtain ⟨c27, h⟩ := h
    refine ⟨c27, ?_⟩
    have n28 := ob_nq oc c27 (by decide)
    obtain ⟨b29, e30, h⟩ := h
    refine ⟨b29, e30, ?_⟩
    obtain ⟨c31, h⟩ := h
    refine ⟨c31, ?_⟩
    have n32 := ob_nq oc c31 (by decide)
    obtain ⟨c33, h⟩ := h
    refine ⟨c33, ?_⟩
    obtain ⟨b34, e35, h⟩ := h
    refine ⟨b34, e35, ?_⟩
    obtain ⟨b36, e37, h⟩ := h
    refine ⟨b36, e37, ?_⟩
    obtain ⟨c38, h⟩ := h
    refine ⟨c38, ?_⟩
    have n39 := ob_nq oc c38 (by decide)
    obtain ⟨b40, e41, h⟩ := h
    refine ⟨b40, e41, ?_⟩
    obtain ⟨c42, h⟩ := h
    refine ⟨c42, ?_⟩
    have n43 := ob_nq oc c42 (by decide)
    obtain ⟨c44, h⟩ := h
    refine ⟨c44, ?_⟩
    obtain ⟨b45, e46, h⟩ := h
    refine ⟨b45, e46, ?_⟩
    obtain ⟨c47, h⟩ := h
    refine ⟨c47, ?_⟩
    have n48 := ob_nq oc c47 (by decide)
    refine cm_X1_leastWet (kg_X1_leastWet h) h (fun x49 x50 p52 h g51 => ?_)
    have h := h g51
    have oc := gr_ob p52.2.1 oc
    have N := nf_K N p52.2 (by decide)
    obtain ⟨b53, e54, h⟩ := h
    refine ⟨b53, e54, ?_⟩
    obtain ⟨b55, e56, h⟩ := h
    refine ⟨b55, e56, ?_⟩
    obtain ⟨c57, h⟩ := h
    refine ⟨c57, ?_⟩
    have n58 := ob_nq oc c57 (by decide)
    obtain ⟨b59, e60, h⟩ := h
    refine ⟨b59, e60, ?_⟩
    obtain ⟨c61, h⟩ := h
    refine ⟨c61, ?_⟩
    have n62 := ob_nq oc c61 (by decide)
    obtain ⟨c63, h⟩ := h
    refine ⟨c63, ?_⟩
    obtain ⟨b64, e65, h⟩ := h
    refine ⟨b64, e65, ?_⟩
    obtain ⟨b66, e67, h⟩ := h
    refine ⟨b66, e67, ?_⟩
    obtain ⟨c68, h⟩ := h
    refine ⟨c68, ?_⟩
    have n69 := ob_nq oc c68 (by decide)
    obtain ⟨b70, e71, h⟩ := h
    refine ⟨b70, e71, ?_⟩
    obtain ⟨c72, h⟩ := h
    refine ⟨c72, ?_⟩
    have n73 := ob_nq oc c72 (by decide)
    obtain ⟨c74, h⟩ := h
    refine ⟨c74, ?_⟩
    obtain ⟨b75, e76, h⟩ := h
    refine ⟨b75, e76, ?_⟩
    obtain ⟨b77, e78, h⟩ := h
    refine ⟨b77, e78, ?_⟩
    obtain ⟨c79, h⟩ := h
    refine ⟨c79, ?_⟩
    have n80 := ob_nq oc c79 (by decide)
    obtain ⟨b81, e82, h⟩ := h
    refine ⟨b81, e82, ?_⟩
    obtain ⟨c83, h⟩ := h
    refine ⟨c83, ?_⟩
    have n84 := ob_nq oc c83 (by decide)
    obtain ⟨c85, h⟩ := h
    refine ⟨c85, ?_⟩
    obtain ⟨b86, e87, h⟩ := h
    refine ⟨b86, e87, ?_⟩
    obtain ⟨c88, h⟩ := h
    refine ⟨c88, ?_⟩
    have n89 := ob_nq oc c88 (by decide)
    refine cm_X1_leastWet (kg_X1_leastWet h) h (fun x90 x91 p93 h g92 => ?_)
    have h := h g92
    have oc := gr_ob p93.2.1 oc
    have N := nf_K N p93.2 (by decide)
    refine cm_X9_fraction (kg_X9_fraction h) h (fun x94 x95 p97 h g96 => ?_)
    have h := h g96
    have oc := gr_ob p97.2.1 oc
    have N := nf_K N p97.2 (by decide)
    exact ⟨h, N⟩
  · intro c98
    have h := h.2 c98
    exact ⟨h, N⟩
theorem nf_X9_round {Q : Int64 → HS → Prop} {v0 : Nat} {v1 : Int32} {v2 : Int32} {v3 : Int32} {v4 : Int32} {S : HS} (h : P_X9_round v0 v1 v2 v3 v4 Q S) (oc : ob S v0 9) : P_X9_round v0 v1 v2 v3 v4 (fun r T => Q r T ∧ NFq 9 9 c9 v0 T) S := nf_X9_round_0 h oc
set_option maxRecDepth 20000 in
set_option maxHeartbeats 1000000 in
theorem nf_X9_saves_0 {Q : Int64 → HS → Prop} {v0 : Nat} {v1 : Int32} {v2 : Int32} {v3 : Int32} {v4 : Int32} {v5 : Int32} {S : HS} (h : P_X9_saves_0 Q v0 v1 v2 v3 v4 v5 S) (oc : ob S v0 9) : P_X9_saves_0 (fun r T => Q r T ∧ NFq 9 9 c9 v0 T) v0 v1 v2 v3 v4 v5 S := by
  delta P_X9_saves_0 at h ⊢
  obtain ⟨c1, h⟩ := h
  refine ⟨c1, ?_⟩
  refine cm_X9_tripTrouble (kr_X9_tripTrouble h) h (fun x2 x3 p5 h g4 => ?_)
  have h := h g4
  have oc := gr_ob p5.2.1.1 oc
  refine cm_X9_refusedBy (nf_X9_refusedBy h oc p5.2.2) h (fun x6 x7 p10 h g8 g9 => ?_)
  have h := h g8 g9
  have N := p10.2
  have oc := N.1
  refine ⟨?_, ?_⟩
  · intro c11
    have h := h.1 c11
    obtain ⟨b12, e13, h⟩ := h
    refine ⟨b12, e13, ?_⟩
    obtain ⟨c14, h⟩ := h
    refine ⟨c14, ?_⟩
    have n15 := ob_nq oc c14 (by decide)
    obtain ⟨b16, e17, h⟩ := h
    refine ⟨b16, e17, ?_⟩
    obtain ⟨c18, h⟩ := h
    refine ⟨c18, ?_⟩
    have n19 := ob_nq oc c18 (by decide)
    obtain ⟨c20, h⟩ := h
    refine ⟨c20, ?_⟩
    obtain ⟨b21, e22, h⟩ := h
    refine ⟨b21, e22, ?_⟩
    obtain ⟨b23, e24, h⟩ := h
    refine ⟨b23, e24, ?_⟩
    obtain ⟨b25, e26, h⟩ := h
    refine ⟨b25, e26, ?_⟩
    obtain ⟨c27, h⟩ := h
    refine ⟨c27, ?_⟩
    have n28 := ob_nq oc c27 (by decide)
    obtain ⟨b29, e30, h⟩ := h
    refine ⟨b29, e30, ?_⟩
    obtain ⟨c31, h⟩ := h
    refine ⟨c31, ?_⟩
    have n32 := ob_nq oc c31 (by decide)
    obtain ⟨c33, h⟩ := h
    refine ⟨c33, ?_⟩
    obtain ⟨b34, e35, h⟩ := h
    refine ⟨b34, e35, ?_⟩
    obtain ⟨b36, e37, h⟩ := h
    refine ⟨b36, e37, ?_⟩
    obtain ⟨c38, h⟩ := h
    refine ⟨c38, ?_⟩
    have n39 := ob_nq oc c38 (by decide)
    obtain ⟨b40, e41, h⟩ := h
    refine ⟨b40, e41, ?_⟩
    obtain ⟨c42, h⟩ := h
    refine ⟨c42, ?_⟩
    have n43 := ob_nq oc c42 (by decide)
    obtain ⟨c44, h⟩ := h
    refine ⟨c44, ?_⟩
    obtain ⟨b45, e46, h⟩ := h
    refine ⟨b45, e46, ?_⟩
    obtain ⟨c47, h⟩ := h
    refine ⟨c47, ?_⟩
    have n48 := ob_nq oc c47 (by decide)
    intro x50 e49
    have h := h x50 e49
    obtain ⟨c51, h⟩ := h
    refine ⟨c51, ?_⟩
    have n52 := ob_nq oc c51 (by decide)
    refine cm_X1_wetOf (kg_X1_wetOf h) h (fun x53 x54 p56 h g55 => ?_)
    have h := h g55
    have oc := gr_ob p56.2.1 oc
    have N := nf_K N p56.2 (by decide)
    obtain ⟨b57, e58, h⟩ := h
    refine ⟨b57, e58, ?_⟩
    obtain ⟨b59, e60, h⟩ := h
    refine ⟨b59, e60, ?_⟩
    obtain ⟨c61, h⟩ := h
    refine ⟨c61, ?_⟩
    have n62 := ob_nq oc c61 (by decide)
    obtain ⟨b63, e64, h⟩ := h
    refine ⟨b63, e64, ?_⟩
    obtain ⟨c65, h⟩ := h
    refine ⟨c65, ?_⟩
    have n66 := ob_nq oc c65 (by decide)
    obtain ⟨c67, h⟩ := h
    refine ⟨c67, ?_⟩
    obtain ⟨b68, e69, h⟩ := h
    refine ⟨b68, e69, ?_⟩
    obtain ⟨b70, e71, h⟩ := h
    refine ⟨b70, e71, ?_⟩
    obtain ⟨c72, h⟩ := h
    refine ⟨c72, ?_⟩
    have n73 := ob_nq oc c72 (by decide)
    obtain ⟨b74, e75, h⟩ := h
    refine ⟨b74, e75, ?_⟩
    obtain ⟨c76, h⟩ := h
    refine ⟨c76, ?_⟩
    have n77 := ob_nq oc c76 (by decide)
    obtain ⟨c78, h⟩ := h
    refine ⟨c78, ?_⟩
    obtain ⟨b79, e80, h⟩ := h
    refine ⟨b79, e80, ?_⟩
    obtain ⟨c81, h⟩ := h
    refine ⟨c81, ?_⟩
    have n82 := ob_nq oc c81 (by decide)
    refine cm_X1_leastWet (kg_X1_leastWet h) h (fun x83 x84 p86 h g85 => ?_)
    have h := h g85
    have oc := gr_ob p86.2.1 oc
    have N := nf_K N p86.2 (by decide)
    refine cm_X9_fraction (kg_X9_fraction h) h (fun x87 x88 p90 h g89 => ?_)
    have h := h g89
    have oc := gr_ob p90.2.1 oc
    have N := nf_K N p90.2 (by decide)
    exact ⟨h, N⟩
  · intro c91
    have h := h.2 c91
    exact ⟨h, N⟩
theorem nf_X9_saves {Q : Int64 → HS → Prop} {v0 : Nat} {v1 : Int32} {v2 : Int32} {v3 : Int32} {v4 : Int32} {v5 : Int32} {S : HS} (h : P_X9_saves v0 v1 v2 v3 v4 v5 Q S) (oc : ob S v0 9) : P_X9_saves v0 v1 v2 v3 v4 v5 (fun r T => Q r T ∧ NFq 9 9 c9 v0 T) S := nf_X9_saves_0 h oc
set_option maxRecDepth 20000 in
set_option maxHeartbeats 1000000 in
theorem nf_X9_soaked_27 {Q : Int32 → HS → Prop} {v0 : Nat} {S : HS} (h : P_X9_soaked_27 Q v0 S) (oc : ob S v0 9) : P_X9_soaked_27 (fun r T => Q r T ∧ NFq 9 9 c9 v0 T) v0 S := by
  delta P_X9_soaked_27 at h ⊢
  obtain ⟨c1, h⟩ := h
  refine ⟨c1, ?_⟩
  refine cm_X9_refuse (nf_X9_refuse h oc (by decide)) h (fun x2 x3 p5 h g4 => ?_)
  have h := h g4
  have N := p5.2
  have oc := N.1
  exact ⟨h, N⟩
set_option maxRecDepth 20000 in
set_option maxHeartbeats 1000000 in
theorem nf_X9_soaked_88 {Q : Int32 → HS → Prop} {s0 : Nat} {s1 : Int32} {v0 : Nat} {S : HS} (h : P_X9_soaked_88 Q s0 s1 S) (oc : ob S v0 9) (q_s0 : s0 = v0) : P_X9_soaked_88 (fun r T => Q r T ∧ NFq 9 9 c9 v0 T) s0 s1 S := by
  delta P_X9_soaked_88 at h ⊢
  subst q_s0
  obtain ⟨c1, h⟩ := h
  refine ⟨c1, ?_⟩
  refine cm_X9_grant (nf_X9_grant h oc) h (fun x2 x3 p5 h g4 => ?_)
  have h := h g4
  have N := p5.2
  have oc := N.1
  exact ⟨h, N⟩
set_option maxRecDepth 20000 in
set_option maxHeartbeats 1000000 in
theorem nf_X9_soaked_0 {Q : Int32 → HS → Prop} {v0 : Nat} {S : HS} (h : P_X9_soaked_0 Q v0 S) (oc : ob S v0 9) : P_X9_soaked_0 (fun r T => Q r T ∧ NFq 9 9 c9 v0 T) v0 S := by
  delta P_X9_soaked_0 at h ⊢
  obtain ⟨c1, h⟩ := h
  refine ⟨c1, ?_⟩
  obtain ⟨b2, e3, h⟩ := h
  refine ⟨b2, e3, ?_⟩
  obtain ⟨c4, h⟩ := h
  refine ⟨c4, ?_⟩
  have n5 := ob_nq oc c4 (by decide)
  refine cm_X0_isOn (kg_X0_isOn h) h (fun x6 x7 p10 h g8 g9 => ?_)
  have h := h g8 g9
  have oc := gr_ob p10.2.1 oc
  refine ⟨?_, ?_⟩
  · intro c11
    have h := h.1 c11
    exact nf_X9_soaked_27 h oc
  · intro c12
    have h := h.2 c12
    obtain ⟨b13, e14, h⟩ := h
    refine ⟨b13, e14, ?_⟩
    obtain ⟨b15, e16, h⟩ := h
    refine ⟨b15, e16, ?_⟩
    obtain ⟨c17, h⟩ := h
    refine ⟨c17, ?_⟩
    have n18 := ob_nq oc c17 (by decide)
    intro x20 e19
    have h := h x20 e19
    obtain ⟨c21, h⟩ := h
    refine ⟨c21, ?_⟩
    have n22 := ob_nq oc c21 (by decide)
    refine cm_X8_hasWalker (kg_X8_hasWalker h) h (fun x23 x24 p27 h g25 g26 => ?_)
    have h := h g25 g26
    have oc := gr_ob p27.2.1 oc
    refine ⟨?_, ?_⟩
    · intro c28
      have h := h.1 c28
      obtain ⟨b29, e30, h⟩ := h
      refine ⟨b29, e30, ?_⟩
      obtain ⟨c31, h⟩ := h
      refine ⟨c31, ?_⟩
      have n32 := ob_nq oc c31 (by decide)
      obtain ⟨b33, e34, h⟩ := h
      refine ⟨b33, e34, ?_⟩
      obtain ⟨b35, e36, h⟩ := h
      refine ⟨b35, e36, ?_⟩
      obtain ⟨c37, h⟩ := h
      refine ⟨c37, ?_⟩
      have n38 := ob_nq oc c37 (by decide)
      intro x40 e39
      have h := h x40 e39
      obtain ⟨c41, h⟩ := h
      refine ⟨c41, ?_⟩
      have n42 := ob_nq oc c41 (by decide)
      obtain ⟨c43, h⟩ := h
      refine ⟨c43, ?_⟩
      obtain ⟨b44, e45, h⟩ := h
      refine ⟨b44, e45, ?_⟩
      obtain ⟨c46, h⟩ := h
      refine ⟨c46, ?_⟩
      have n47 := ob_nq oc c46 (by decide)
      intro x49 e48
      have h := h x49 e48
      refine ⟨?_, ?_⟩
      · intro c50
        have h := h.1 c50
        obtain ⟨b51, e52, h⟩ := h
        refine ⟨b51, e52, ?_⟩
        obtain ⟨c53, h⟩ := h
        refine ⟨c53, ?_⟩
        have n54 := ob_nq oc c53 (by decide)
        obtain ⟨b55, e56, h⟩ := h
        refine ⟨b55, e56, ?_⟩
        obtain ⟨c57, h⟩ := h
        refine ⟨c57, ?_⟩
        have n58 := ob_nq oc c57 (by decide)
        refine cm_X2_allGot (kg_X2_allGot h) h (fun x59 x60 p62 h g61 => ?_)
        have h := h g61
        have oc := gr_ob p62.2.1 oc
        refine cm_X9_coatParts (kg_X9_coatParts h) h (fun x63 x64 p66 h g65 => ?_)
        have h := h g65
        have oc := gr_ob p66.2.1 oc
        refine ⟨?_, ?_⟩
        · intro c67
          have h := h.1 c67
          exact nf_X9_soaked_88 h oc rfl
        · intro c68
          have h := h.2 c68
          exact nf_X9_soaked_88 h oc rfl
      · intro c69
        have h := h.2 c69
        refine cm_X9_grant (nf_X9_grant h oc) h (fun x70 x71 p73 h g72 => ?_)
        have h := h g72
        have N := p73.2
        have oc := N.1
        exact ⟨h, N⟩
    · intro c74
      have h := h.2 c74
      exact nf_X9_soaked_27 h oc
theorem nf_X9_soaked {Q : Int32 → HS → Prop} {v0 : Nat} {S : HS} (h : P_X9_soaked v0 Q S) (oc : ob S v0 9) : P_X9_soaked v0 (fun r T => Q r T ∧ NFq 9 9 c9 v0 T) S := nf_X9_soaked_0 h oc
set_option maxRecDepth 20000 in
set_option maxHeartbeats 1000000 in
theorem nr_X9_stayTrouble_0 {Q : Int32 → HS → Prop} {v0 : Nat} {v1 : Int32} {S : HS} (h : P_X9_stayTrouble_0 Q v0 v1 S) : P_X9_stayTrouble_0 (fun r T => Q r T ∧ c9 r) v0 v1 S := by
  delta P_X9_stayTrouble_0 at h ⊢
  obtain ⟨c1, h⟩ := h
  refine ⟨c1, ?_⟩
  obtain ⟨b2, e3, h⟩ := h
  refine ⟨b2, e3, ?_⟩
  obtain ⟨c4, h⟩ := h
  refine ⟨c4, ?_⟩
  refine cm_X0_isOn h h (fun x5 x6 h _ g7 g8 => ?_)
  have h := h g7 g8
  refine ⟨?_, ?_⟩
  · intro c10
    have h := h.1 c10
    exact ⟨h, (by decide)⟩
  · intro c11
    have h := h.2 c11
    obtain ⟨b12, e13, h⟩ := h
    refine ⟨b12, e13, ?_⟩
    obtain ⟨b14, e15, h⟩ := h
    refine ⟨b14, e15, ?_⟩
    obtain ⟨c16, h⟩ := h
    refine ⟨c16, ?_⟩
    intro x18 e17
    have h := h x18 e17
    obtain ⟨c19, h⟩ := h
    refine ⟨c19, ?_⟩
    refine cm_X8_hasWalker h h (fun x20 x21 h _ g22 g23 => ?_)
    have h := h g22 g23
    refine ⟨?_, ?_⟩
    · intro c25
      have h := h.1 c25
      refine ⟨?_, ?_⟩
      · intro c26
        have h := h.1 c26
        exact ⟨h, (by decide)⟩
      · intro c27
        have h := h.2 c27
        refine ⟨?_, ?_⟩
        · intro c28
          have h := h.1 c28
          obtain ⟨b29, e30, h⟩ := h
          refine ⟨b29, e30, ?_⟩
          obtain ⟨b31, e32, h⟩ := h
          refine ⟨b31, e32, ?_⟩
          obtain ⟨c33, h⟩ := h
          refine ⟨c33, ?_⟩
          obtain ⟨b34, e35, h⟩ := h
          refine ⟨b34, e35, ?_⟩
          obtain ⟨c36, h⟩ := h
          refine ⟨c36, ?_⟩
          intro x38 e37
          have h := h x38 e37
          obtain ⟨c39, h⟩ := h
          refine ⟨c39, ?_⟩
          refine cm_X8_canWait h h (fun x40 x41 h _ g42 g43 => ?_)
          have h := h g42 g43
          refine ⟨?_, ?_⟩
          · intro c45
            have h := h.1 c45
            obtain ⟨b46, e47, h⟩ := h
            refine ⟨b46, e47, ?_⟩
            obtain ⟨c48, h⟩ := h
            refine ⟨c48, ?_⟩
            obtain ⟨b49, e50, h⟩ := h
            refine ⟨b49, e50, ?_⟩
            obtain ⟨c51, h⟩ := h
            refine ⟨c51, ?_⟩
            intro x53 e52
            have h := h x53 e52
            refine ⟨?_, ?_⟩
            · intro c54
              have h := h.1 c54
              exact ⟨h, (by decide)⟩
            · intro c55
              have h := h.2 c55
              exact ⟨h, (by decide)⟩
          · intro c56
            have h := h.2 c56
            exact ⟨h, (by decide)⟩
        · intro c57
          have h := h.2 c57
          exact ⟨h, (by decide)⟩
    · intro c58
      have h := h.2 c58
      exact ⟨h, (by decide)⟩
theorem nr_X9_stayTrouble {Q : Int32 → HS → Prop} {v0 : Nat} {v1 : Int32} {S : HS} (h : P_X9_stayTrouble v0 v1 Q S) : P_X9_stayTrouble v0 v1 (fun r T => Q r T ∧ c9 r) S := nr_X9_stayTrouble_0 h
theorem kr_X9_stayTrouble {Q : Int32 → HS → Prop} {v0 : Nat} {v1 : Int32} {S : HS} (h : P_X9_stayTrouble v0 v1 Q S) : P_X9_stayTrouble v0 v1 (fun r T => Q r T ∧ K5 S T ∧ c9 r) S := cm_X9_stayTrouble (kg_X9_stayTrouble h) (nr_X9_stayTrouble h) (fun _ _ a b => ⟨a.1, a.2, b.2⟩)
set_option maxRecDepth 20000 in
set_option maxHeartbeats 1000000 in
theorem nf_X9_stay_111 {Q : Int32 → HS → Prop} {X58 X58_2 : Nat → Int32 → Int64 → Int32 → HS → Prop} {v0 : Nat} {v1 : Int32} {v2 : Int64} {v4 : Int32} {S : HS} (h : P_X9_stay_111 Q X58 v0 v1 v2 v4 S) (oc : ob S v0 9) (N : NFq 9 9 c9 v0 S) (hX58 : ∀ (u0 : Nat) (u1 : Int32) (u2 : Int64) (u3 : Int32) (u4 : HS), X58 u0 u1 u2 u3 u4 → u0 = v0 → ob u4 v0 9 → NFq 9 9 c9 v0 u4 → X58_2 u0 u1 u2 u3 u4) : P_X9_stay_111 (fun r T => Q r T ∧ NFq 9 9 c9 v0 T) X58_2 v0 v1 v2 v4 S := by
  delta P_X9_stay_111 at h ⊢
  obtain ⟨c1, h⟩ := h
  refine ⟨c1, ?_⟩
  obtain ⟨b2, e3, h⟩ := h
  refine ⟨b2, e3, ?_⟩
  obtain ⟨c4, h⟩ := h
  refine ⟨c4, ?_⟩
  have n5 := ob_nq oc c4 (by decide)
  obtain ⟨b6, e7, h⟩ := h
  refine ⟨b6, e7, ?_⟩
  obtain ⟨c8, h⟩ := h
  refine ⟨c8, ?_⟩
  have n9 := ob_nq oc c8 (by decide)
  intro x11 e10
  have h := h x11 e10
  intro x13 e12
  have h := h x13 e12
  intro x15 e14
  have h := h x15 e14
  have N := nf_ne N e14 (Or.inl n9)
  have oc := ob_wI oc e14
  intro x17 e16
  have h := h x17 e16
  exact hX58 _ _ _ _ _ h rfl oc N
set_option maxRecDepth 20000 in
set_option maxHeartbeats 1000000 in
theorem nfB_X9_stay_58 {Q : Int32 → HS → Prop} {X58 X58_2 : Nat → Int32 → Int64 → Int32 → HS → Prop} {v0 : Nat} {v1 : Int32} {v2 : Int64} {v4 : Int32} {S : HS} (h : B_X9_stay_58 Q X58 v0 v1 v2 v4 S) (oc : ob S v0 9) (N : NFq 9 9 c9 v0 S) (hX58 : ∀ (u0 : Nat) (u1 : Int32) (u2 : Int64) (u3 : Int32) (u4 : HS), X58 u0 u1 u2 u3 u4 → u0 = v0 → ob u4 v0 9 → NFq 9 9 c9 v0 u4 → X58_2 u0 u1 u2 u3 u4) : B_X9_stay_58 (fun r T => Q r T ∧ NFq 9 9 c9 v0 T) X58_2 v0 v1 v2 v4 S := by
  delta B_X9_stay_58 at h ⊢
  refine ⟨?_, ?_⟩
  · intro c1
    have h := h.1 c1
    exact ⟨h, N⟩
  · intro c2
    have h := h.2 c2
    obtain ⟨c3, h⟩ := h
    refine ⟨c3, ?_⟩
    obtain ⟨b4, e5, h⟩ := h
    refine ⟨b4, e5, ?_⟩
    obtain ⟨b6, e7, h⟩ := h
    refine ⟨b6, e7, ?_⟩
    obtain ⟨b8, e9, h⟩ := h
    refine ⟨b8, e9, ?_⟩
    obtain ⟨c10, h⟩ := h
    refine ⟨c10, ?_⟩
    have n11 := ob_nq oc c10 (by decide)
    obtain ⟨b12, e13, h⟩ := h
    refine ⟨b12, e13, ?_⟩
    obtain ⟨c14, h⟩ := h
    refine ⟨c14, ?_⟩
    have n15 := ob_nq oc c14 (by decide)
    intro x17 e16
    have h := h x17 e16
    obtain ⟨c18, h⟩ := h
    refine ⟨c18, ?_⟩
    have n19 := ob_nq oc c18 (by decide)
    refine cm_X8_hourOf (kg_X8_hourOf h) h (fun x20 x21 p23 h g22 => ?_)
    have h := h g22
    have oc := gr_ob p23.2.1 oc
    have N := nf_K N p23.2 (by decide)
    obtain ⟨c24, h⟩ := h
    refine ⟨c24, ?_⟩
    have n25 := ob_nq oc c24 (by decide)
    refine cm_X0_rainsIn (kg_X0_rainsIn h) h (fun x26 x27 p30 h g28 g29 => ?_)
    have h := h g28 g29
    have oc := gr_ob p30.2.1 oc
    have N := nf_K N p30.2 (by decide)
    refine ⟨?_, ?_⟩
    · intro c31
      have h := h.1 c31
      exact nf_X9_stay_111 h oc N hX58
    · intro c32
      have h := h.2 c32
      obtain ⟨b33, e34, h⟩ := h
      refine ⟨b33, e34, ?_⟩
      obtain ⟨c35, h⟩ := h
      refine ⟨c35, ?_⟩
      have n36 := ob_nq oc c35 (by decide)
      obtain ⟨b37, e38, h⟩ := h
      refine ⟨b37, e38, ?_⟩
      obtain ⟨c39, h⟩ := h
      refine ⟨c39, ?_⟩
      have n40 := ob_nq oc c39 (by decide)
      obtain ⟨b41, e42, h⟩ := h
      refine ⟨b41, e42, ?_⟩
      obtain ⟨c43, h⟩ := h
      refine ⟨c43, ?_⟩
      have n44 := ob_nq oc c43 (by decide)
      obtain ⟨c45, h⟩ := h
      refine ⟨c45, ?_⟩
      intro x47 e46
      have h := h x47 e46
      intro x49 e48
      have h := h x49 e48
      obtain ⟨c50, h⟩ := h
      refine ⟨c50, ?_⟩
      intro x52 e51
      have h := h x52 e51
      have N := nf_wJ N e51
      have oc := ob_wJ oc e51
      exact nf_X9_stay_111 h oc N hX58
theorem nf_X9_stay_58 {Q : Int32 → HS → Prop} {v0 : Nat} {v1 : Int32} {v2 : Int64} {v4 : Int32} {S : HS} (h : P_X9_stay_58 Q v0 v1 v2 v4 S) (oc : ob S v0 9) (N : NFq 9 9 c9 v0 S) : P_X9_stay_58 (fun r T => Q r T ∧ NFq 9 9 c9 v0 T) v0 v1 v2 v4 S := h (fun w0 v1 v2 v4 S => w0 = v0 → ob S v0 9 → NFq 9 9 c9 v0 S → P_X9_stay_58 (fun r T => Q r T ∧ NFq 9 9 c9 v0 T) w0 v1 v2 v4 S) (fun w0 v1 v2 v4 S hB e oc N => by
  subst e; exact fd_X9_stay_58 (nfB_X9_stay_58 hB oc N (fun _ _ _ _ _ hx e oc N => hx e oc N))) rfl oc N
set_option maxRecDepth 20000 in
set_option maxHeartbeats 1000000 in
theorem nf_X9_stay_0 {Q : Int32 → HS → Prop} {v0 : Nat} {v1 : Int32} {S : HS} (h : P_X9_stay_0 Q v0 v1 S) (oc : ob S v0 9) : P_X9_stay_0 (fun r T => Q r T ∧ NFq 9 9 c9 v0 T) v0 v1 S := by
  delta P_X9_stay_0 at h ⊢
  obtain ⟨c1, h⟩ := h
  refine ⟨c1, ?_⟩
  refine cm_X9_stayTrouble (kr_X9_stayTrouble h) h (fun x2 x3 p5 h g4 => ?_)
  have h := h g4
  have oc := gr_ob p5.2.1.1 oc
  refine cm_X9_refusedBy (nf_X9_refusedBy h oc p5.2.2) h (fun x6 x7 p10 h g8 g9 => ?_)
  have h := h g8 g9
  have N := p10.2
  have oc := N.1
  refine ⟨?_, ?_⟩
  · intro c11
    have h := h.1 c11
    obtain ⟨b12, e13, h⟩ := h
    refine ⟨b12, e13, ?_⟩
    obtain ⟨c14, h⟩ := h
    refine ⟨c14, ?_⟩
    have n15 := ob_nq oc c14 (by decide)
    refine cm_X0_keepForUndo (kg_X0_keepForUndo h) h (fun x16 p18 h g17 => ?_)
    have h := h g17
    have oc := gr_ob p18.2.1 oc
    have N := nf_K N p18.2 (by decide)
    obtain ⟨b19, e20, h⟩ := h
    refine ⟨b19, e20, ?_⟩
    obtain ⟨b21, e22, h⟩ := h
    refine ⟨b21, e22, ?_⟩
    obtain ⟨c23, h⟩ := h
    refine ⟨c23, ?_⟩
    have n24 := ob_nq oc c23 (by decide)
    obtain ⟨b25, e26, h⟩ := h
    refine ⟨b25, e26, ?_⟩
    obtain ⟨b27, e28, h⟩ := h
    refine ⟨b27, e28, ?_⟩
    obtain ⟨c29, h⟩ := h
    refine ⟨c29, ?_⟩
    have n30 := ob_nq oc c29 (by decide)
    intro x32 e31
    have h := h x32 e31
    obtain ⟨c33, h⟩ := h
    refine ⟨c33, ?_⟩
    have n34 := ob_nq oc c33 (by decide)
    obtain ⟨c35, h⟩ := h
    refine ⟨c35, ?_⟩
    obtain ⟨b36, e37, h⟩ := h
    refine ⟨b36, e37, ?_⟩
    obtain ⟨b38, e39, h⟩ := h
    refine ⟨b38, e39, ?_⟩
    obtain ⟨c40, h⟩ := h
    refine ⟨c40, ?_⟩
    have n41 := ob_nq oc c40 (by decide)
    obtain ⟨b42, e43, h⟩ := h
    refine ⟨b42, e43, ?_⟩
    obtain ⟨c44, h⟩ := h
    refine ⟨c44, ?_⟩
    have n45 := ob_nq oc c44 (by decide)
    intro x47 e46
    have h := h x47 e46
    obtain ⟨c48, h⟩ := h
    refine ⟨c48, ?_⟩
    have n49 := ob_nq oc c48 (by decide)
    refine cm_X8_dripOn (kg_X8_dripOn h) h (fun x50 x51 p53 h g52 => ?_)
    have h := h g52
    have oc := gr_ob p53.2.1 oc
    have N := nf_K N p53.2 (by decide)
    intro x55 e54
    have h := h x55 e54
    exact nf_X9_stay_58 h oc N
  · intro c56
    have h := h.2 c56
    exact ⟨h, N⟩
theorem nf_X9_stay {Q : Int32 → HS → Prop} {v0 : Nat} {v1 : Int32} {S : HS} (h : P_X9_stay v0 v1 Q S) (oc : ob S v0 9) : P_X9_stay v0 v1 (fun r T => Q r T ∧ NFq 9 9 c9 v0 T) S := nf_X9_stay_0 h oc
set_option maxRecDepth 20000 in
set_option maxHeartbeats 1000000 in
theorem nf_X9_step_61 {Q : Int32 → HS → Prop} {v0 : Nat} {S : HS} (h : P_X9_step_61 Q v0 S) (oc : ob S v0 9) : P_X9_step_61 (fun r T => Q r T ∧ NFq 9 9 c9 v0 T) v0 S := by
  delta P_X9_step_61 at h ⊢
  obtain ⟨c1, h⟩ := h
  refine ⟨c1, ?_⟩
  refine cm_X9_refuse (nf_X9_refuse h oc (by decide)) h (fun x2 x3 p5 h g4 => ?_)
  have h := h g4
  have N := p5.2
  have oc := N.1
  exact ⟨h, N⟩
set_option maxRecDepth 20000 in
set_option maxHeartbeats 1000000 in
theorem nf_X9_step_0 {Q : Int32 → HS → Prop} {v0 : Nat} {v1 : Int32} {v2 : Int32} {v3 : Int32} {v4 : Int32} {v5 : Int32} {v6 : Int32} {S : HS} (h : P_X9_step_0 Q v0 v1 v2 v3 v4 v5 v6 S) (oc : ob S v0 9) : P_X9_step_0 (fun r T => Q r T ∧ NFq 9 9 c9 v0 T) v0 v1 v2 v3 v4 v5 v6 S := by
  delta P_X9_step_0 at h ⊢
  obtain ⟨c1, h⟩ := h
  refine ⟨c1, ?_⟩
  refine cm_X9_wayTrouble (kr_X9_wayTrouble h) h (fun x2 x3 p5 h g4 => ?_)
  have h := h g4
  have oc := gr_ob p5.2.1.1 oc
  refine cm_X9_refusedBy (nf_X9_refusedBy h oc p5.2.2) h (fun x6 x7 p10 h g8 g9 => ?_)
  have h := h g8 g9
  have N := p10.2
  have oc := N.1
  refine ⟨?_, ?_⟩
  · intro c11
    have h := h.1 c11
    obtain ⟨b12, e13, h⟩ := h
    refine ⟨b12, e13, ?_⟩
    obtain ⟨b14, e15, h⟩ := h
    refine ⟨b14, e15, ?_⟩
    obtain ⟨c16, h⟩ := h
    refine ⟨c16, ?_⟩
    have n17 := ob_nq oc c16 (by decide)
    refine cm_X7_trace (kg_X7_trace h) h (fun x18 x19 p21 h g20 => ?_)
    have h := h g20
    have oc := gr_ob p21.2.1 oc
    have N := nf_K N p21.2 (by decide)
    refine ⟨?_, ?_⟩
    · intro c22
      have h := h.1 c22
      exact nf_X9_step_61 h oc
    · intro c23
      have h := h.2 c23
      refine ⟨?_, ?_⟩
      · intro c24
        have h := h.1 c24
        exact nf_X9_step_61 h oc
      · intro c25
        have h := h.2 c25
        obtain ⟨b26, e27, h⟩ := h
        refine ⟨b26, e27, ?_⟩
        obtain ⟨c28, h⟩ := h
        refine ⟨c28, ?_⟩
        have n29 := ob_nq oc c28 (by decide)
        obtain ⟨b30, e31, h⟩ := h
        refine ⟨b30, e31, ?_⟩
        obtain ⟨c32, h⟩ := h
        refine ⟨c32, ?_⟩
        have n33 := ob_nq oc c32 (by decide)
        refine ⟨?_, ?_⟩
        · intro c34
          have h := h.1 c34
          obtain ⟨b35, e36, h⟩ := h
          refine ⟨b35, e36, ?_⟩
          obtain ⟨c37, h⟩ := h
          refine ⟨c37, ?_⟩
          have n38 := ob_nq oc c37 (by decide)
          obtain ⟨b39, e40, h⟩ := h
          refine ⟨b39, e40, ?_⟩
          obtain ⟨c41, h⟩ := h
          refine ⟨c41, ?_⟩
          have n42 := ob_nq oc c41 (by decide)
          obtain ⟨c43, h⟩ := h
          refine ⟨c43, ?_⟩
          intro x45 e44
          have h := h x45 e44
          exact ⟨h, N⟩
        · intro c46
          have h := h.2 c46
          exact nf_X9_step_61 h oc
  · intro c47
    have h := h.2 c47
    exact ⟨h, N⟩
theorem nf_X9_step {Q : Int32 → HS → Prop} {v0 : Nat} {v1 : Int32} {v2 : Int32} {v3 : Int32} {v4 : Int32} {v5 : Int32} {v6 : Int32} {S : HS} (h : P_X9_step v0 v1 v2 v3 v4 v5 v6 Q S) (oc : ob S v0 9) : P_X9_step v0 v1 v2 v3 v4 v5 v6 (fun r T => Q r T ∧ NFq 9 9 c9 v0 T) S := nf_X9_step_0 h oc
set_option maxRecDepth 20000 in
set_option maxHeartbeats 1000000 in
theorem nf_X9_steps_0 {Q : Int32 → HS → Prop} {v0 : Nat} {v1 : Int32} {v2 : Int32} {v3 : Int32} {v4 : Int32} {v5 : Int32} {S : HS} (h : P_X9_steps_0 Q v0 v1 v2 v3 v4 v5 S) (oc : ob S v0 9) : P_X9_steps_0 (fun r T => Q r T ∧ NFq 9 9 c9 v0 T) v0 v1 v2 v3 v4 v5 S := by
  delta P_X9_steps_0 at h ⊢
  obtain ⟨c1, h⟩ := h
  refine ⟨c1, ?_⟩
  refine cm_X9_wayTrouble (kr_X9_wayTrouble h) h (fun x2 x3 p5 h g4 => ?_)
  have h := h g4
  have oc := gr_ob p5.2.1.1 oc
  refine cm_X9_refusedBy (nf_X9_refusedBy h oc p5.2.2) h (fun x6 x7 p10 h g8 g9 => ?_)
  have h := h g8 g9
  have N := p10.2
  have oc := N.1
  refine ⟨?_, ?_⟩
  · intro c11
    have h := h.1 c11
    obtain ⟨b12, e13, h⟩ := h
    refine ⟨b12, e13, ?_⟩
    obtain ⟨b14, e15, h⟩ := h
    refine ⟨b14, e15, ?_⟩
    obtain ⟨c16, h⟩ := h
    refine ⟨c16, ?_⟩
    have n17 := ob_nq oc c16 (by decide)
    refine cm_X7_trace (kg_X7_trace h) h (fun x18 x19 p21 h g20 => ?_)
    have h := h g20
    have oc := gr_ob p21.2.1 oc
    have N := nf_K N p21.2 (by decide)
    exact ⟨h, N⟩
  · intro c22
    have h := h.2 c22
    exact ⟨h, N⟩
theorem nf_X9_steps {Q : Int32 → HS → Prop} {v0 : Nat} {v1 : Int32} {v2 : Int32} {v3 : Int32} {v4 : Int32} {v5 : Int32} {S : HS} (h : P_X9_steps v0 v1 v2 v3 v4 v5 Q S) (oc : ob S v0 9) : P_X9_steps v0 v1 v2 v3 v4 v5 (fun r T => Q r T ∧ NFq 9 9 c9 v0 T) S := nf_X9_steps_0 h oc
set_option maxRecDepth 20000 in
set_option maxHeartbeats 1000000 in
theorem nf_X9_there_0 {Q : Int32 → HS → Prop} {v0 : Nat} {v1 : Int32} {v2 : Int32} {v3 : Int32} {v4 : Int32} {v5 : Int32} {S : HS} (h : P_X9_there_0 Q v0 v1 v2 v3 v4 v5 S) (oc : ob S v0 9) : P_X9_there_0 (fun r T => Q r T ∧ NFq 9 9 c9 v0 T) v0 v1 v2 v3 v4 v5 S := by
  delta P_X9_there_0 at h ⊢
  obtain ⟨c1, h⟩ := h
  refine ⟨c1, ?_⟩
  refine cm_X9_wayTrouble (kr_X9_wayTrouble h) h (fun x2 x3 p5 h g4 => ?_)
  have h := h g4
  have oc := gr_ob p5.2.1.1 oc
  refine cm_X9_refusedBy (nf_X9_refusedBy h oc p5.2.2) h (fun x6 x7 p10 h g8 g9 => ?_)
  have h := h g8 g9
  have N := p10.2
  have oc := N.1
  refine ⟨?_, ?_⟩
  · intro c11
    have h := h.1 c11
    obtain ⟨b12, e13, h⟩ := h
    refine ⟨b12, e13, ?_⟩
    obtain ⟨c14, h⟩ := h
    refine ⟨c14, ?_⟩
    have n15 := ob_nq oc c14 (by decide)
    refine cm_X7_endFrom (kg_X7_endFrom h) h (fun x16 x17 p19 h g18 => ?_)
    have h := h g18
    have oc := gr_ob p19.2.1 oc
    have N := nf_K N p19.2 (by decide)
    exact ⟨h, N⟩
  · intro c20
    have h := h.2 c20
    exact ⟨h, N⟩
theorem nf_X9_there {Q : Int32 → HS → Prop} {v0 : Nat} {v1 : Int32} {v2 : Int32} {v3 : Int32} {v4 : Int32} {v5 : Int32} {S : HS} (h : P_X9_there v0 v1 v2 v3 v4 v5 Q S) (oc : ob S v0 9) : P_X9_there v0 v1 v2 v3 v4 v5 (fun r T => Q r T ∧ NFq 9 9 c9 v0 T) S := nf_X9_there_0 h oc
set_option maxRecDepth 20000 in
set_option maxHeartbeats 1000000 in
theorem nf_X9_undo_17 {Q : Int32 → HS → Prop} {s0 : Nat} {s1 : Int32} {v0 : Nat} {S : HS} (h : P_X9_undo_17 Q s0 s1 S) (oc : ob S v0 9) (q_s0 : s0 = v0) (z_s1 : c9 s1) : P_X9_undo_17 (fun r T => Q r T ∧ NFq 9 9 c9 v0 T) s0 s1 S := by
  delta P_X9_undo_17 at h ⊢
  subst q_s0
  obtain ⟨c1, h⟩ := h
  refine ⟨c1, ?_⟩
  refine cm_X9_refusedBy (nf_X9_refusedBy h oc z_s1) h (fun x2 x3 p6 h g4 g5 => ?_)
  have h := h g4 g5
  have N := p6.2
  have oc := N.1
  refine ⟨?_, ?_⟩
  · intro c7
    have h := h.1 c7
    exact ⟨h, N⟩
  · intro c8
    have h := h.2 c8
    exact ⟨h, N⟩
set_option maxRecDepth 20000 in
set_option maxHeartbeats 1000000 in
theorem nf_X9_undo_0 {Q : Int32 → HS → Prop} {v0 : Nat} {S : HS} (h : P_X9_undo_0 Q v0 S) (oc : ob S v0 9) : P_X9_undo_0 (fun r T => Q r T ∧ NFq 9 9 c9 v0 T) v0 S := by
  delta P_X9_undo_0 at h ⊢
  obtain ⟨c1, h⟩ := h
  refine ⟨c1, ?_⟩
  obtain ⟨b2, e3, h⟩ := h
  refine ⟨b2, e3, ?_⟩
  obtain ⟨c4, h⟩ := h
  refine ⟨c4, ?_⟩
  have n5 := ob_nq oc c4 (by decide)
  refine cm_X0_takeBack (kg_X0_takeBack h) h (fun x6 x7 p10 h g8 g9 => ?_)
  have h := h g8 g9
  have oc := gr_ob p10.2.1 oc
  refine ⟨?_, ?_⟩
  · intro c11
    have h := h.1 c11
    exact nf_X9_undo_17 h oc rfl (by decide)
  · intro c12
    have h := h.2 c12
    exact nf_X9_undo_17 h oc rfl (by decide)
theorem nf_X9_undo {Q : Int32 → HS → Prop} {v0 : Nat} {S : HS} (h : P_X9_undo v0 Q S) (oc : ob S v0 9) : P_X9_undo v0 (fun r T => Q r T ∧ NFq 9 9 c9 v0 T) S := nf_X9_undo_0 h oc
set_option maxRecDepth 20000 in
set_option maxHeartbeats 1000000 in
theorem nf_X9_walker_21 {Q : Int32 → HS → Prop} {v0 : Nat} {S : HS} (h : P_X9_walker_21 Q v0 S) (oc : ob S v0 9) : P_X9_walker_21 (fun r T => Q r T ∧ NFq 9 9 c9 v0 T) v0 S := by
  delta P_X9_walker_21 at h ⊢
  obtain ⟨c1, h⟩ := h
  refine ⟨c1, ?_⟩
  refine cm_X9_refuse (nf_X9_refuse h oc (by decide)) h (fun x2 x3 p5 h g4 => ?_)
  have h := h g4
  have N := p5.2
  have oc := N.1
  exact ⟨h, N⟩
set_option maxRecDepth 20000 in
set_option maxHeartbeats 1000000 in
theorem nf_X9_walker_0 {Q : Int32 → HS → Prop} {v0 : Nat} {v1 : Int32} {v2 : Int32} {S : HS} (h : P_X9_walker_0 Q v0 v1 v2 S) (oc : ob S v0 9) : P_X9_walker_0 (fun r T => Q r T ∧ NFq 9 9 c9 v0 T) v0 v1 v2 S := by
  delta P_X9_walker_0 at h ⊢
  obtain ⟨c1, h⟩ := h
  refine ⟨c1, ?_⟩
  obtain ⟨b2, e3, h⟩ := h
  refine ⟨b2, e3, ?_⟩
  obtain ⟨c4, h⟩ := h
  refine ⟨c4, ?_⟩
  have n5 := ob_nq oc c4 (by decide)
  refine cm_X8_hasWalker (kg_X8_hasWalker h) h (fun x6 x7 p10 h g8 g9 => ?_)
  have h := h g8 g9
  have oc := gr_ob p10.2.1 oc
  refine ⟨?_, ?_⟩
  · intro c11
    have h := h.1 c11
    exact nf_X9_walker_21 h oc
  · intro c12
    have h := h.2 c12
    refine ⟨?_, ?_⟩
    · intro c13
      have h := h.1 c13
      exact nf_X9_walker_21 h oc
    · intro c14
      have h := h.2 c14
      refine ⟨?_, ?_⟩
      · intro c15
        have h := h.1 c15
        obtain ⟨b16, e17, h⟩ := h
        refine ⟨b16, e17, ?_⟩
        obtain ⟨c18, h⟩ := h
        refine ⟨c18, ?_⟩
        have n19 := ob_nq oc c18 (by decide)
        obtain ⟨b20, e21, h⟩ := h
        refine ⟨b20, e21, ?_⟩
        obtain ⟨c22, h⟩ := h
        refine ⟨c22, ?_⟩
        have n23 := ob_nq oc c22 (by decide)
        obtain ⟨c24, h⟩ := h
        refine ⟨c24, ?_⟩
        obtain ⟨b25, e26, h⟩ := h
        refine ⟨b25, e26, ?_⟩
        obtain ⟨c27, h⟩ := h
        refine ⟨c27, ?_⟩
        have n28 := ob_nq oc c27 (by decide)
        refine cm_X6_tell (kg_X6_tell h) h (fun x29 x30 p32 h g31 => ?_)
        have h := h g31
        have oc := gr_ob p32.2.1 oc
        refine cm_X9_grant (nf_X9_grant h oc) h (fun x33 x34 p36 h g35 => ?_)
        have h := h g35
        have N := p36.2
        have oc := N.1
        exact ⟨h, N⟩
      · intro c37
        have h := h.2 c37
        exact nf_X9_walker_21 h oc
theorem nf_X9_walker {Q : Int32 → HS → Prop} {v0 : Nat} {v1 : Int32} {v2 : Int32} {S : HS} (h : P_X9_walker v0 v1 v2 Q S) (oc : ob S v0 9) : P_X9_walker v0 v1 v2 (fun r T => Q r T ∧ NFq 9 9 c9 v0 T) S := nf_X9_walker_0 h oc
set_option maxRecDepth 20000 in
set_option maxHeartbeats 1000000 in
theorem nf_X9_wet_0 {Q : Int64 → HS → Prop} {v0 : Nat} {v1 : Int32} {v2 : Int32} {v3 : Int32} {v4 : Int32} {v5 : Int32} {v6 : Int32} {S : HS} (h : P_X9_wet_0 Q v0 v1 v2 v3 v4 v5 v6 S) (oc : ob S v0 9) : P_X9_wet_0 (fun r T => Q r T ∧ NFq 9 9 c9 v0 T) v0 v1 v2 v3 v4 v5 v6 S := by
  delta P_X9_wet_0 at h ⊢
  obtain ⟨c1, h⟩ := h
  refine ⟨c1, ?_⟩
  refine cm_X9_legTrouble (kr_X9_legTrouble h) h (fun x2 x3 p5 h g4 => ?_)
  have h := h g4
  have oc := gr_ob p5.2.1.1 oc
  refine cm_X9_refusedBy (nf_X9_refusedBy h oc p5.2.2) h (fun x6 x7 p10 h g8 g9 => ?_)
  have h := h g8 g9
  have N := p10.2
  have oc := N.1
  refine ⟨?_, ?_⟩
  · intro c11
    have h := h.1 c11
    obtain ⟨b12, e13, h⟩ := h
    refine ⟨b12, e13, ?_⟩
    obtain ⟨b14, e15, h⟩ := h
    refine ⟨b14, e15, ?_⟩
    obtain ⟨c16, h⟩ := h
    refine ⟨c16, ?_⟩
    have n17 := ob_nq oc c16 (by decide)
    obtain ⟨b18, e19, h⟩ := h
    refine ⟨b18, e19, ?_⟩
    obtain ⟨c20, h⟩ := h
    refine ⟨c20, ?_⟩
    have n21 := ob_nq oc c20 (by decide)
    obtain ⟨c22, h⟩ := h
    refine ⟨c22, ?_⟩
    obtain ⟨b23, e24, h⟩ := h
    refine ⟨b23, e24, ?_⟩
    obtain ⟨b25, e26, h⟩ := h
    refine ⟨b25, e26, ?_⟩
    obtain ⟨c27, h⟩ := h
    refine ⟨c27, ?_⟩
    have n28 := ob_nq oc c27 (by decide)
    obtain ⟨b29, e30, h⟩ := h
    refine ⟨b29, e30, ?_⟩
    obtain ⟨c31, h⟩ := h
    refine ⟨c31, ?_⟩
    have n32 := ob_nq oc c31 (by decide)
    obtain ⟨c33, h⟩ := h
    refine ⟨c33, ?_⟩
    obtain ⟨b34, e35, h⟩ := h
    refine ⟨b34, e35, ?_⟩
    obtain ⟨b36, e37, h⟩ := h
    refine ⟨b36, e37, ?_⟩
    obtain ⟨c38, h⟩ := h
    refine ⟨c38, ?_⟩
    have n39 := ob_nq oc c38 (by decide)
    obtain ⟨b40, e41, h⟩ := h
    refine ⟨b40, e41, ?_⟩
    obtain ⟨c42, h⟩ := h
    refine ⟨c42, ?_⟩
    have n43 := ob_nq oc c42 (by decide)
    obtain ⟨c44, h⟩ := h
    refine ⟨c44, ?_⟩
    obtain ⟨b45, e46, h⟩ := h
    refine ⟨b45, e46, ?_⟩
    obtain ⟨c47, h⟩ := h
    refine ⟨c47, ?_⟩
    have n48 := ob_nq oc c47 (by decide)
    refine cm_X1_wetOf (kg_X1_wetOf h) h (fun x49 x50 p52 h g51 => ?_)
    have h := h g51
    have oc := gr_ob p52.2.1 oc
    have N := nf_K N p52.2 (by decide)
    refine cm_X9_fraction (kg_X9_fraction h) h (fun x53 x54 p56 h g55 => ?_)
    have h := h g55
    have oc := gr_ob p56.2.1 oc
    have N := nf_K N p56.2 (by decide)
    exact ⟨h, N⟩
  · intro c57
    have h := h.2 c57
    exact ⟨h, N⟩
theorem nf_X9_wet {Q : Int64 → HS → Prop} {v0 : Nat} {v1 : Int32} {v2 : Int32} {v3 : Int32} {v4 : Int32} {v5 : Int32} {v6 : Int32} {S : HS} (h : P_X9_wet v0 v1 v2 v3 v4 v5 v6 Q S) (oc : ob S v0 9) : P_X9_wet v0 v1 v2 v3 v4 v5 v6 (fun r T => Q r T ∧ NFq 9 9 c9 v0 T) S := nf_X9_wet_0 h oc
set_option maxRecDepth 20000 in
set_option maxHeartbeats 1000000 in
theorem nf_X9_wetness_27 {Q : Int64 → HS → Prop} {v0 : Nat} {S : HS} (h : P_X9_wetness_27 Q v0 S) (oc : ob S v0 9) : P_X9_wetness_27 (fun r T => Q r T ∧ NFq 9 9 c9 v0 T) v0 S := by
  delta P_X9_wetness_27 at h ⊢
  obtain ⟨c1, h⟩ := h
  refine ⟨c1, ?_⟩
  refine cm_X9_refuse (nf_X9_refuse h oc (by decide)) h (fun x2 x3 p5 h g4 => ?_)
  have h := h g4
  have N := p5.2
  have oc := N.1
  exact ⟨h, N⟩
set_option maxRecDepth 20000 in
set_option maxHeartbeats 1000000 in
theorem nf_X9_wetness_0 {Q : Int64 → HS → Prop} {v0 : Nat} {v1 : Int32} {S : HS} (h : P_X9_wetness_0 Q v0 v1 S) (oc : ob S v0 9) : P_X9_wetness_0 (fun r T => Q r T ∧ NFq 9 9 c9 v0 T) v0 v1 S := by
  delta P_X9_wetness_0 at h ⊢
  obtain ⟨c1, h⟩ := h
  refine ⟨c1, ?_⟩
  obtain ⟨b2, e3, h⟩ := h
  refine ⟨b2, e3, ?_⟩
  obtain ⟨c4, h⟩ := h
  refine ⟨c4, ?_⟩
  have n5 := ob_nq oc c4 (by decide)
  refine cm_X0_isOn (kg_X0_isOn h) h (fun x6 x7 p10 h g8 g9 => ?_)
  have h := h g8 g9
  have oc := gr_ob p10.2.1 oc
  refine ⟨?_, ?_⟩
  · intro c11
    have h := h.1 c11
    exact nf_X9_wetness_27 h oc
  · intro c12
    have h := h.2 c12
    obtain ⟨b13, e14, h⟩ := h
    refine ⟨b13, e14, ?_⟩
    obtain ⟨b15, e16, h⟩ := h
    refine ⟨b15, e16, ?_⟩
    obtain ⟨c17, h⟩ := h
    refine ⟨c17, ?_⟩
    have n18 := ob_nq oc c17 (by decide)
    intro x20 e19
    have h := h x20 e19
    obtain ⟨c21, h⟩ := h
    refine ⟨c21, ?_⟩
    have n22 := ob_nq oc c21 (by decide)
    refine cm_X8_hasWalker (kg_X8_hasWalker h) h (fun x23 x24 p27 h g25 g26 => ?_)
    have h := h g25 g26
    have oc := gr_ob p27.2.1 oc
    refine ⟨?_, ?_⟩
    · intro c28
      have h := h.1 c28
      intro x30 e29
      have h := h x30 e29
      have N := nf_set (C := c9) oc e29 (by decide)
      have oc := N.1
      obtain ⟨b31, e32, h⟩ := h
      refine ⟨b31, e32, ?_⟩
      obtain ⟨c33, h⟩ := h
      refine ⟨c33, ?_⟩
      have n34 := ob_nq oc c33 (by decide)
      obtain ⟨b35, e36, h⟩ := h
      refine ⟨b35, e36, ?_⟩
      obtain ⟨c37, h⟩ := h
      refine ⟨c37, ?_⟩
      have n38 := ob_nq oc c37 (by decide)
      refine cm_X2_allGot (kg_X2_allGot h) h (fun x39 x40 p42 h g41 => ?_)
      have h := h g41
      have oc := gr_ob p42.2.1 oc
      have N := nf_K N p42.2 (by decide)
      obtain ⟨b43, e44, h⟩ := h
      refine ⟨b43, e44, ?_⟩
      obtain ⟨c45, h⟩ := h
      refine ⟨c45, ?_⟩
      have n46 := ob_nq oc c45 (by decide)
      obtain ⟨b47, e48, h⟩ := h
      refine ⟨b47, e48, ?_⟩
      obtain ⟨b49, e50, h⟩ := h
      refine ⟨b49, e50, ?_⟩
      obtain ⟨c51, h⟩ := h
      refine ⟨c51, ?_⟩
      have n52 := ob_nq oc c51 (by decide)
      intro x54 e53
      have h := h x54 e53
      obtain ⟨c55, h⟩ := h
      refine ⟨c55, ?_⟩
      have n56 := ob_nq oc c55 (by decide)
      obtain ⟨c57, h⟩ := h
      refine ⟨c57, ?_⟩
      obtain ⟨b58, e59, h⟩ := h
      refine ⟨b58, e59, ?_⟩
      refine cm_X9_coatParts (kg_X9_coatParts h) h (fun x60 x61 p63 h g62 => ?_)
      have h := h g62
      have oc := gr_ob p63.2.1 oc
      have N := nf_K N p63.2 (by decide)
      intro x65 e64
      have h := h x65 e64
      intro x67 e66
      have h := h x67 e66
      refine cm_X9_fraction (kg_X9_fraction h) h (fun x68 x69 p71 h g70 => ?_)
      have h := h g70
      have oc := gr_ob p71.2.1 oc
      have N := nf_K N p71.2 (by decide)
      exact ⟨h, N⟩
    · intro c72
      have h := h.2 c72
      exact nf_X9_wetness_27 h oc
theorem nf_X9_wetness {Q : Int64 → HS → Prop} {v0 : Nat} {v1 : Int32} {S : HS} (h : P_X9_wetness v0 v1 Q S) (oc : ob S v0 9) : P_X9_wetness v0 v1 (fun r T => Q r T ∧ NFq 9 9 c9 v0 T) S := nf_X9_wetness_0 h oc
set_option maxRecDepth 20000 in
set_option maxHeartbeats 1000000 in
theorem nf_X9_worst_0 {Q : Int32 → HS → Prop} {v0 : Nat} {v1 : Int32} {v2 : Int32} {v3 : Int32} {v4 : Int32} {S : HS} (h : P_X9_worst_0 Q v0 v1 v2 v3 v4 S) (oc : ob S v0 9) : P_X9_worst_0 (fun r T => Q r T ∧ NFq 9 9 c9 v0 T) v0 v1 v2 v3 v4 S := by
  delta P_X9_worst_0 at h ⊢
  obtain ⟨c1, h⟩ := h
  refine ⟨c1, ?_⟩
  refine cm_X9_tripTrouble (kr_X9_tripTrouble h) h (fun x2 x3 p5 h g4 => ?_)
  have h := h g4
  have oc := gr_ob p5.2.1.1 oc
  refine cm_X9_refusedBy (nf_X9_refusedBy h oc p5.2.2) h (fun x6 x7 p10 h g8 g9 => ?_)
  have h := h g8 g9
  have N := p10.2
  have oc := N.1
  refine ⟨?_, ?_⟩
  · intro c11
    have h := h.1 c11
    obtain ⟨b12, e13, h⟩ := h
    refine ⟨b12, e13, ?_⟩
    obtain ⟨b14, e15, h⟩ := h
    refine ⟨b14, e15, ?_⟩
    obtain ⟨c16, h⟩ := h
    refine ⟨c16, ?_⟩
    have n17 := ob_nq oc c16 (by decide)
    obtain ⟨b18, e19, h⟩ := h
    refine ⟨b18, e19, ?_⟩
    obtain ⟨c20, h⟩ := h
    refine ⟨c20, ?_⟩
    have n21 := ob_nq oc c20 (by decide)
    obtain ⟨c22, h⟩ := h
    refine ⟨c22, ?_⟩
    obtain ⟨b23, e24, h⟩ := h
    refine ⟨b23, e24, ?_⟩
    obtain ⟨b25, e26, h⟩ := h
    refine ⟨b25, e26, ?_⟩
    obtain ⟨c27, h⟩ := h
    refine ⟨c27, ?_⟩
    have n28 := ob_nq oc c27 (by decide)
    obtain ⟨b29, e30, h⟩ := h
    refine ⟨b29, e30, ?_⟩
    obtain ⟨c31, h⟩ := h
    refine ⟨c31, ?_⟩
    have n32 := ob_nq oc c31 (by decide)
    obtain ⟨c33, h⟩ := h
    refine ⟨c33, ?_⟩
    obtain ⟨b34, e35, h⟩ := h
    refine ⟨b34, e35, ?_⟩
    obtain ⟨b36, e37, h⟩ := h
    refine ⟨b36, e37, ?_⟩
    obtain ⟨c38, h⟩ := h
    refine ⟨c38, ?_⟩
    have n39 := ob_nq oc c38 (by decide)
    obtain ⟨b40, e41, h⟩ := h
    refine ⟨b40, e41, ?_⟩
    obtain ⟨c42, h⟩ := h
    refine ⟨c42, ?_⟩
    have n43 := ob_nq oc c42 (by decide)
    obtain ⟨c44, h⟩ := h
    refine ⟨c44, ?_⟩
    obtain ⟨b45, e46, h⟩ := h
    refine ⟨b45, e46, ?_⟩
    obtain ⟨c47, h⟩ := h
    refine ⟨c47, ?_⟩
    have n48 := ob_nq oc c47 (by decide)
    refine cm_X1_worstSpeed (kg_X1_worstSpeed h) h (fun x49 x50 p52 h g51 => ?_)
    have h := h g51
    have oc := gr_ob p52.2.1 oc
    have N := nf_K N p52.2 (by decide)
    exact ⟨h, N⟩
  · intro c53
    have h := h.2 c53
    exact ⟨h, N⟩
theorem nf_X9_worst {Q : Int32 → HS → Prop} {v0 : Nat} {v1 : Int32} {v2 : Int32} {v3 : Int32} {v4 : Int32} {S : HS} (h : P_X9_worst v0 v1 v2 v3 v4 Q S) (oc : ob S v0 9) : P_X9_worst v0 v1 v2 v3 v4 (fun r T => Q r T ∧ NFq 9 9 c9 v0 T) S := nf_X9_worst_0 h oc
