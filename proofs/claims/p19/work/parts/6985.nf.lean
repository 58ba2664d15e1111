section
/-! how the commands leave refusal and where -/
abbrev c9 (v : Int32) : Prop := v ≠ 4
abbrev c11 (v : Int32) : Prop := v = -1
def NFq (k f : Nat) (C : Int32 → Prop) (c : Nat) (S : HS) : Prop := ob S c k ∧ C (fI S c f)
section NFs
variable {S T U : HS} {a k j f c i : Nat} {C : Int32 → Prop}
theorem ob_nq {b q : Nat} (o : ob S b k) (u : ob S c q) (h : k ≠ q) : b ≠ c := fun z => h (ob_inj o (z ▸ u))
theorem ob_wI {v : Int32} (o : ob T c k) (e : U = sI T a j v) : ob U c k := by
  rw [e]
  exact o
theorem ob_wJ {v : Int64} (o : ob T c k) (e : U = sJ T a j v) : ob U c k := by
  rw [e]
  exact o
theorem ob_wR {v : Option Nat} (o : ob T c k) (e : U = sR T a j v) : ob U c k := by
  rw [e]
  exact o
theorem nf_set {v : Int32} (o : ob T c k) (e : U = sI T c f v) (h : C v) : NFq k f C c U := ⟨ob_wI o e, by rw [wI_at e]; exact h⟩
theorem nf_ne {v : Int32} (N : NFq k f C c T) (e : U = sI T a j v) (h : c ≠ a ∨ f ≠ j) : NFq k f C c U := by
  refine ⟨ob_wI N.1 e, ?_⟩
  have q : fI U c f = fI T c f := by
    rw [e]
    exact u2_ne _ _ (fun z => h.elim (fun q => q z.1) (fun q => q z.2))
  rw [q]
  exact N.2
theorem nf_wJ {v : Int64} (N : NFq k f C c T) (e : U = sJ T a j v) : NFq k f C c U := by
  rw [e]
  exact N
theorem nf_K (N : NFq k f C c S) (K : K5 S T) (hq : (k, f) ∈ pL) : NFq k f C c T := ⟨gr_ob K.1 N.1, by rw [K.2 _ hq c N.1]; exact N.2⟩
end NFs
set_option maxRecDepth 20000 in
set_option maxHeartbeats 1000000 in
theorem nf_X11_good_0 {Q : Int32 → HS → Prop} {v0 : Nat} {v1 : Int32} {S : HS} (h : P_X11_good_0 Q v0 v1 S) (oc : ob S v0 11) : P_X11_good_0 (fun r T => Q r T ∧ NFq 11 2 c11 v0 T) v0 v1 S := by
  delta P_X11_good_0 at h ⊢
  obtain ⟨c1, h⟩ := h
  refine ⟨c1, ?_⟩
  intro x3 e2
  have h := h x3 e2
  have oc := ob_wI oc e2
  intro x5 e4
  have h := h x5 e4
  have N := nf_set (C := c11) oc e4 (by decide)
  have oc := N.1
  exact ⟨h, N⟩
theorem nf_X11_good {Q : Int32 → HS → Prop} {v0 : Nat} {v1 : Int32} {S : HS} (h : P_X11_good v0 v1 Q S) (oc : ob S v0 11) : P_X11_good v0 v1 (fun r T => Q r T ∧ NFq 11 2 c11 v0 T) S := nf_X11_good_0 h oc
set_option maxRecDepth 20000 in
set_option maxHeartbeats 1000000 in
theorem nf_X11_refused_0 {Q : Int32 → HS → Prop} {v0 : Nat} {v1 : Int32} {S : HS} (h : P_X11_refused_0 Q v0 v1 S) (oc : ob S v0 11) : P_X11_refused_0 (fun r T => Q r T ∧ NFq 11 2 c11 v0 T) v0 v1 S := by
  delta P_X11_refused_0 at h ⊢
  obtain ⟨c1, h⟩ := h
  refine ⟨c1, ?_⟩
  intro x3 e2
  have h := h x3 e2
  have oc := ob_wI oc e2
  intro x5 e4
  have h := h x5 e4
  have N := nf_set (C := c11) oc e4 (by decide)
  have oc := N.1
  exact ⟨h, N⟩
theorem nf_X11_refused {Q : Int32 → HS → Prop} {v0 : Nat} {v1 : Int32} {S : HS} (h : P_X11_refused v0 v1 Q S) (oc : ob S v0 11) : P_X11_refused v0 v1 (fun r T => Q r T ∧ NFq 11 2 c11 v0 T) S := nf_X11_refused_0 h oc
set_option maxRecDepth 20000 in
set_option maxHeartbeats 1000000 in
theorem nf_X11_lost_0 {Q : Int32 → HS → Prop} {v0 : Nat} {v1 : Int32} {S : HS} (h : P_X11_lost_0 Q v0 v1 S) (oc : ob S v0 11) : P_X11_lost_0 (fun r T => Q r T ∧ NFq 11 2 c11 v0 T) v0 v1 S := by
  delta P_X11_lost_0 at h ⊢
  obtain ⟨c1, h⟩ := h
  refine ⟨c1, ?_⟩
  refine cm_X11_refused (nf_X11_refused h oc) h (fun x2 x3 p5 h g4 => ?_)
  have h := h g4
  have N := p5.2
  have oc := N.1
  exact ⟨h, N⟩
theorem nf_X11_lost {Q : Int32 → HS → Prop} {v0 : Nat} {v1 : Int32} {S : HS} (h : P_X11_lost v0 v1 Q S) (oc : ob S v0 11) : P_X11_lost v0 v1 (fun r T => Q r T ∧ NFq 11 2 c11 v0 T) S := nf_X11_lost_0 h oc
set_option maxRecDepth 20000 in
set_option maxHeartbeats 1000000 in
theorem nf_X11_air_30 {Q : Int32 → HS → Prop} {v0 : Nat} {S : HS} (h : P_X11_air_30 Q v0 S) (oc : ob S v0 11) : P_X11_air_30 (fun r T => Q r T ∧ NFq 11 2 c11 v0 T) v0 S := by
  delta P_X11_air_30 at h ⊢
  obtain ⟨c1, h⟩ := h
  refine ⟨c1, ?_⟩
  refine cm_X11_lost (nf_X11_lost h oc) h (fun x2 x3 p5 h g4 => ?_)
  have h := h g4
  have N := p5.2
  have oc := N.1
  exact ⟨h, N⟩
set_option maxRecDepth 20000 in
set_option maxHeartbeats 1000000 in
theorem nf_X11_air_0 {Q : Int32 → HS → Prop} {v0 : Nat} {v1 : Int32} {v2 : Int32} {v3 : Int32} {S : HS} (h : P_X11_air_0 Q v0 v1 v2 v3 S) (oc : ob S v0 11) : P_X11_air_0 (fun r T => Q r T ∧ NFq 11 2 c11 v0 T) v0 v1 v2 v3 S := by
  delta P_X11_air_0 at h ⊢
  obtain ⟨c1, h⟩ := h
  refine ⟨c1, ?_⟩
  intro x3 e2
  have h := h x3 e2
  have oc := ob_wI oc e2
  refine cm_X11_isRoad (kg_X11_isRoad h) h (fun x4 x5 p8 h g6 g7 => ?_)
  have h := h g6 g7
  have oc := gr_ob p8.2.1 oc
  refine ⟨?_, ?_⟩
  · intro c9
    have h := h.1 c9
    exact nf_X11_air_30 h oc
  · intro c10
    have h := h.2 c10
    refine cm_X11_in (kg_X11_in h) h (fun x11 x12 p15 h g13 g14 => ?_)
    have h := h g13 g14
    have oc := gr_ob p15.2.1 oc
    refine ⟨?_, ?_⟩
    · intro c16
      have h := h.1 c16
      exact nf_X11_air_30 h oc
    · intro c17
      have h := h.2 c17
      refine cm_X11_isHour (kg_X11_isHour h) h (fun x18 x19 p22 h g20 g21 => ?_)
      have h := h g20 g21
      have oc := gr_ob p22.2.1 oc
      refine ⟨?_, ?_⟩
      · intro c23
        have h := h.1 c23
        obtain ⟨b24, e25, h⟩ := h
        refine ⟨b24, e25, ?_⟩
        obtain ⟨c26, h⟩ := h
        refine ⟨c26, ?_⟩
        have n27 := ob_nq oc c26 (by decide)
        refine cm_X10_air (kg_X10_air h) h (fun x28 x29 p31 h g30 => ?_)
        have h := h g30
        have oc := gr_ob p31.2.1 oc
        refine cm_X11_good (nf_X11_good h oc) h (fun x32 x33 p35 h g34 => ?_)
        have h := h g34
        have N := p35.2
        have oc := N.1
        exact ⟨h, N⟩
      · intro c36
        have h := h.2 c36
        exact nf_X11_air_30 h oc
theorem nf_X11_air {Q : Int32 → HS → Prop} {v0 : Nat} {v1 : Int32} {v2 : Int32} {v3 : Int32} {S : HS} (h : P_X11_air v0 v1 v2 v3 Q S) (oc : ob S v0 11) : P_X11_air v0 v1 v2 v3 (fun r T => Q r T ∧ NFq 11 2 c11 v0 T) S := nf_X11_air_0 h oc
set_option maxRecDepth 20000 in
set_option maxHeartbeats 1000000 in
theorem nf_X11_denied_0 {Q : Int32 → HS → Prop} {v0 : Nat} {v1 : Int32} {S : HS} (h : P_X11_denied_0 Q v0 v1 S) (oc : ob S v0 11) : P_X11_denied_0 (fun r T => Q r T ∧ NFq 11 2 c11 v0 T) v0 v1 S := by
  delta P_X11_denied_0 at h ⊢
  obtain ⟨c1, h⟩ := h
  refine ⟨c1, ?_⟩
  refine cm_X11_refused (nf_X11_refused h oc) h (fun x2 x3 p5 h g4 => ?_)
  have h := h g4
  have N := p5.2
  have oc := N.1
  exact ⟨h, N⟩
theorem nf_X11_denied {Q : Int32 → HS → Prop} {v0 : Nat} {v1 : Int32} {S : HS} (h : P_X11_denied v0 v1 Q S) (oc : ob S v0 11) : P_X11_denied v0 v1 (fun r T => Q r T ∧ NFq 11 2 c11 v0 T) S := nf_X11_denied_0 h oc
set_option maxRecDepth 20000 in
set_option maxHeartbeats 1000000 in
theorem nf_X11_granted_0 {Q : Int32 → HS → Prop} {v0 : Nat} {S : HS} (h : P_X11_granted_0 Q v0 S) (oc : ob S v0 11) : P_X11_granted_0 (fun r T => Q r T ∧ NFq 11 2 c11 v0 T) v0 S := by
  delta P_X11_granted_0 at h ⊢
  obtain ⟨c1, h⟩ := h
  refine ⟨c1, ?_⟩
  refine cm_X11_good (nf_X11_good h oc) h (fun x2 x3 p5 h g4 => ?_)
  have h := h g4
  have N := p5.2
  have oc := N.1
  exact ⟨h, N⟩
theorem nf_X11_granted {Q : Int32 → HS → Prop} {v0 : Nat} {S : HS} (h : P_X11_granted v0 Q S) (oc : ob S v0 11) : P_X11_granted v0 (fun r T => Q r T ∧ NFq 11 2 c11 v0 T) S := nf_X11_granted_0 h oc
set_option maxRecDepth 20000 in
set_option maxHeartbeats 1000000 in
theorem nf_X11_back_24 {Q : Int32 → HS → Prop} {v0 : Nat} {S : HS} (h : P_X11_back_24 Q v0 S) (oc : ob S v0 11) : P_X11_back_24 (fun r T => Q r T ∧ NFq 11 2 c11 v0 T) v0 S := by
  delta P_X11_back_24 at h ⊢
  obtain ⟨c1, h⟩ := h
  refine ⟨c1, ?_⟩
  refine cm_X11_denied (nf_X11_denied h oc) h (fun x2 x3 p6 h g4 g5 => ?_)
  have h := h g4 g5
  have N := p6.2
  have oc := N.1
  obtain ⟨c7, h⟩ := h
  refine ⟨c7, ?_⟩
  exact ⟨h, N⟩
set_option maxRecDepth 20000 in
set_option maxHeartbeats 1000000 in
theorem nfB_X11_back_32 {Q : Int32 → HS → Prop} {X32 X32_2 : Nat → Int32 → Int32 → HS → Prop} {v0 : Nat} {v1 : Int32} {v2 : Int32} {S : HS} (h : B_X11_back_32 Q X32 v0 v1 v2 S) (oc : ob S v0 11) (hX32 : ∀ (u0 : Nat) (u1 : Int32) (u2 : Int32) (u3 : HS), X32 u0 u1 u2 u3 → u0 = v0 → ob u3 v0 11 → X32_2 u0 u1 u2 u3) : B_X11_back_32 (fun r T => Q r T ∧ NFq 11 2 c11 v0 T) X32_2 v0 v1 v2 S := by
  delta B_X11_back_32 at h ⊢
  refine ⟨?_, ?_⟩
  · intro c1
    have h := h.1 c1
    obtain ⟨c2, h⟩ := h
    refine ⟨c2, ?_⟩
    intro x4 e3
    have h := h x4 e3
    have oc := ob_wI oc e3
    refine cm_X11_granted (nf_X11_granted h oc) h (fun x5 x6 p9 h g7 g8 => ?_)
    have h := h g7 g8
    have N := p9.2
    have oc := N.1
    obtain ⟨c10, h⟩ := h
    refine ⟨c10, ?_⟩
    exact ⟨h, N⟩
  · intro c11
    have h := h.2 c11
    obtain ⟨c12, h⟩ := h
    refine ⟨c12, ?_⟩
    obtain ⟨b13, e14, h⟩ := h
    refine ⟨b13, e14, ?_⟩
    obtain ⟨b15, e16, h⟩ := h
    refine ⟨b15, e16, ?_⟩
    obtain ⟨c17, h⟩ := h
    refine ⟨c17, ?_⟩
    have n18 := ob_nq oc c17 (by decide)
    intro x20 e19
    have h := h x20 e19
    obtain ⟨c21, h⟩ := h
    refine ⟨c21, ?_⟩
    intro x23 e22
    have h := h x23 e22
    obtain ⟨c24, h⟩ := h
    refine ⟨c24, ?_⟩
    have n25 := ob_nq oc c24 (by decide)
    obtain ⟨c26, h⟩ := h
    refine ⟨c26, ?_⟩
    intro x28 e27
    have h := h x28 e27
    have oc := ob_wJ oc e27
    intro x30 e29
    have h := h x30 e29
    exact hX32 _ _ _ _ h rfl oc
theorem nf_X11_back_32 {Q : Int32 → HS → Prop} {v0 : Nat} {v1 : Int32} {v2 : Int32} {S : HS} (h : P_X11_back_32 Q v0 v1 v2 S) (oc : ob S v0 11) : P_X11_back_32 (fun r T => Q r T ∧ NFq 11 2 c11 v0 T) v0 v1 v2 S := h (fun w0 v1 v2 S => w0 = v0 → ob S v0 11 → P_X11_back_32 (fun r T => Q r T ∧ NFq 11 2 c11 v0 T) w0 v1 v2 S) (fun w0 v1 v2 S hB e oc => by
  subst e; exact fd_X11_back_32 (nfB_X11_back_32 hB oc (fun _ _ _ _ hx e oc => hx e oc))) rfl oc
set_option maxRecDepth 20000 in
set_option maxHeartbeats 1000000 in
theorem nf_X11_back_0 {Q : Int32 → HS → Prop} {v0 : Nat} {v1 : Int32} {S : HS} (h : P_X11_back_0 Q v0 v1 S) (oc : ob S v0 11) : P_X11_back_0 (fun r T => Q r T ∧ NFq 11 2 c11 v0 T) v0 v1 S := by
  delta P_X11_back_0 at h ⊢
  obtain ⟨c1, h⟩ := h
  refine ⟨c1, ?_⟩
  intro x3 e2
  have h := h x3 e2
  have oc := ob_wI oc e2
  refine cm_X11_isDay (kg_X11_isDay h) h (fun x4 x5 p8 h g6 g7 => ?_)
  have h := h g6 g7
  have oc := gr_ob p8.2.1 oc
  refine ⟨?_, ?_⟩
  · intro c9
    have h := h.1 c9
    exact nf_X11_back_24 h oc
  · intro c10
    have h := h.2 c10
    refine ⟨?_, ?_⟩
    · intro c11
      have h := h.1 c11
      exact nf_X11_back_24 h oc
    · intro c12
      have h := h.2 c12
      intro x14 e13
      have h := h x14 e13
      refine ⟨?_, ?_⟩
      · intro c15
        have h := h.1 c15
        exact nf_X11_back_32 h oc
      · intro c16
        have h := h.2 c16
        exact nf_X11_back_24 h oc
theorem nf_X11_back {Q : Int32 → HS → Prop} {v0 : Nat} {v1 : Int32} {S : HS} (h : P_X11_back v0 v1 Q S) (oc : ob S v0 11) : P_X11_back v0 v1 (fun r T => Q r T ∧ NFq 11 2 c11 v0 T) S := nf_X11_back_0 h oc
set_option maxRecDepth 20000 in
set_option maxHeartbeats 1000000 in
theorem nf_X11_best_39 {Q : Int32 → HS → Prop} {v0 : Nat} {S : HS} (h : P_X11_best_39 Q v0 S) (oc : ob S v0 11) : P_X11_best_39 (fun r T => Q r T ∧ NFq 11 2 c11 v0 T) v0 S := by
  delta P_X11_best_39 at h ⊢
  obtain ⟨c1, h⟩ := h
  refine ⟨c1, ?_⟩
  refine cm_X11_refused (nf_X11_refused h oc) h (fun x2 x3 p5 h g4 => ?_)
  have h := h g4
  have N := p5.2
  have oc := N.1
  exact ⟨h, N⟩
set_option maxRecDepth 20000 in
set_option maxHeartbeats 1000000 in
theorem nf_X11_best_0 {Q : Int32 → HS → Prop} {v0 : Nat} {v1 : Int32} {v2 : Int32} {v3 : Int32} {v4 : Int32} {S : HS} (h : P_X11_best_0 Q v0 v1 v2 v3 v4 S) (oc : ob S v0 11) : P_X11_best_0 (fun r T => Q r T ∧ NFq 11 2 c11 v0 T) v0 v1 v2 v3 v4 S := by
  delta P_X11_best_0 at h ⊢
  obtain ⟨c1, h⟩ := h
  refine ⟨c1, ?_⟩
  intro x3 e2
  have h := h x3 e2
  have oc := ob_wI oc e2
  refine cm_X11_isWalker (kg_X11_isWalker h) h (fun x4 x5 p8 h g6 g7 => ?_)
  have h := h g6 g7
  have oc := gr_ob p8.2.1 oc
  refine ⟨?_, ?_⟩
  · intro c9
    have h := h.1 c9
    exact nf_X11_best_39 h oc
  · intro c10
    have h := h.2 c10
    refine cm_X11_isRoad (kg_X11_isRoad h) h (fun x11 x12 p15 h g13 g14 => ?_)
    have h := h g13 g14
    have oc := gr_ob p15.2.1 oc
    refine ⟨?_, ?_⟩
    · intro c16
      have h := h.1 c16
      exact nf_X11_best_39 h oc
    · intro c17
      have h := h.2 c17
      refine cm_X11_in (kg_X11_in h) h (fun x18 x19 p22 h g20 g21 => ?_)
      have h := h g20 g21
      have oc := gr_ob p22.2.1 oc
      refine ⟨?_, ?_⟩
      · intro c23
        have h := h.1 c23
        exact nf_X11_best_39 h oc
      · intro c24
        have h := h.2 c24
        refine cm_X11_isHour (kg_X11_isHour h) h (fun x25 x26 p29 h g27 g28 => ?_)
        have h := h g27 g28
        have oc := gr_ob p29.2.1 oc
        refine ⟨?_, ?_⟩
        · intro c30
          have h := h.1 c30
          refine cm_X11_bestOf (kg_X11_bestOf h) h (fun x31 x32 p34 h g33 => ?_)
          have h := h g33
          have oc := gr_ob p34.2.1 oc
          refine cm_X11_good (nf_X11_good h oc) h (fun x35 x36 p38 h g37 => ?_)
          have h := h g37
          have N := p38.2
          have oc := N.1
          exact ⟨h, N⟩
        · intro c39
          have h := h.2 c39
          exact nf_X11_best_39 h oc
theorem nf_X11_best {Q : Int32 → HS → Prop} {v0 : Nat} {v1 : Int32} {v2 : Int32} {v3 : Int32} {v4 : Int32} {S : HS} (h : P_X11_best v0 v1 v2 v3 v4 Q S) (oc : ob S v0 11) : P_X11_best v0 v1 v2 v3 v4 (fun r T => Q r T ∧ NFq 11 2 c11 v0 T) S := nf_X11_best_0 h oc
set_option maxRecDepth 20000 in
set_option maxHeartbeats 1000000 in
theorem nf_X11_day_21 {Q : Int32 → HS → Prop} {v0 : Nat} {S : HS} (h : P_X11_day_21 Q v0 S) (oc : ob S v0 11) : P_X11_day_21 (fun r T => Q r T ∧ NFq 11 2 c11 v0 T) v0 S := by
  delta P_X11_day_21 at h ⊢
  obtain ⟨c1, h⟩ := h
  refine ⟨c1, ?_⟩
  refine cm_X11_refused (nf_X11_refused h oc) h (fun x2 x3 p5 h g4 => ?_)
  have h := h g4
  have N := p5.2
  have oc := N.1
  exact ⟨h, N⟩
set_option maxRecDepth 20000 in
set_option maxHeartbeats 1000000 in
theorem nf_X11_day_50 {Q : Int32 → HS → Prop} {v0 : Nat} {S : HS} (h : P_X11_day_50 Q v0 S) (oc : ob S v0 11) : P_X11_day_50 (fun r T => Q r T ∧ NFq 11 2 c11 v0 T) v0 S := by
  delta P_X11_day_50 at h ⊢
  obtain ⟨c1, h⟩ := h
  refine ⟨c1, ?_⟩
  refine cm_X11_refused (nf_X11_refused h oc) h (fun x2 x3 p5 h g4 => ?_)
  have h := h g4
  have N := p5.2
  have oc := N.1
  exact ⟨h, N⟩
set_option maxRecDepth 20000 in
set_option maxHeartbeats 1000000 in
theorem nf_X11_day_134 {Q : Int32 → HS → Prop} {X73 X73_2 : Nat → Int32 → Int32 → Int32 → Int32 → HS → Prop} {v0 : Nat} {v2 : Int32} {v3 : Int32} {v5 : Int32} {v6 : Int32} {s0 : Nat} {s1 : Int32} {s2 : Int32} {S : HS} (h : P_X11_day_134 Q X73 v0 v2 v3 v5 v6 s0 s1 s2 S) (oc : ob S v0 11) (hX73 : ∀ (u0 : Nat) (u1 : Int32) (u2 : Int32) (u3 : Int32) (u4 : Int32) (u5 : HS), X73 u0 u1 u2 u3 u4 u5 → u0 = v0 → ob u5 v0 11 → X73_2 u0 u1 u2 u3 u4 u5) : P_X11_day_134 (fun r T => Q r T ∧ NFq 11 2 c11 v0 T) X73_2 v0 v2 v3 v5 v6 s0 s1 s2 S := by
  delta P_X11_day_134 at h ⊢
  obtain ⟨c1, h⟩ := h
  refine ⟨c1, ?_⟩
  intro x3 e2
  have h := h x3 e2
  intro x5 e4
  have h := h x5 e4
  have oc := ob_wI oc e4
  intro x7 e6
  have h := h x7 e6
  exact hX73 _ _ _ _ _ _ h rfl oc
set_option maxRecDepth 20000 in
set_option maxHeartbeats 1000000 in
theorem nfB_X11_day_147 {Q : Int32 → HS → Prop} {X147 X147_2 : Nat → Int32 → Int32 → Int32 → HS → Prop} {v0 : Nat} {v2 : Int32} {v3 : Int32} {v6 : Int32} {S : HS} (h : B_X11_day_147 Q X147 v0 v2 v3 v6 S) (oc : ob S v0 11) (hX147 : ∀ (u0 : Nat) (u1 : Int32) (u2 : Int32) (u3 : Int32) (u4 : HS), X147 u0 u1 u2 u3 u4 → u0 = v0 → ob u4 v0 11 → X147_2 u0 u1 u2 u3 u4) : B_X11_day_147 (fun r T => Q r T ∧ NFq 11 2 c11 v0 T) X147_2 v0 v2 v3 v6 S := by
  delta B_X11_day_147 at h ⊢
  refine ⟨?_, ?_⟩
  · intro c1
    have h := h.1 c1
    obtain ⟨c2, h⟩ := h
    refine ⟨c2, ?_⟩
    obtain ⟨b3, e4, h⟩ := h
    refine ⟨b3, e4, ?_⟩
    obtain ⟨c5, h⟩ := h
    refine ⟨c5, ?_⟩
    have n6 := ob_nq oc c5 (by decide)
    intro x8 e7
    have h := h x8 e7
    obtain ⟨c9, h⟩ := h
    refine ⟨c9, ?_⟩
    intro x11 e10
    have h := h x11 e10
    have oc := ob_wJ oc e10
    obtain ⟨b12, e13, h⟩ := h
    refine ⟨b12, e13, ?_⟩
    obtain ⟨c14, h⟩ := h
    refine ⟨c14, ?_⟩
    have n15 := ob_nq oc c14 (by decide)
    intro x17 e16
    have h := h x17 e16
    obtain ⟨c18, h⟩ := h
    refine ⟨c18, ?_⟩
    intro x20 e19
    have h := h x20 e19
    have oc := ob_wJ oc e19
    intro x22 e21
    have h := h x22 e21
    have oc := ob_wI oc e21
    intro x24 e23
    have h := h x24 e23
    have oc := ob_wI oc e23
    intro x26 e25
    have h := h x26 e25
    refine cm_X11_good (nf_X11_good h oc) h (fun x27 x28 p30 h g29 => ?_)
    have h := h g29
    have N := p30.2
    have oc := N.1
    exact ⟨h, N⟩
  · intro c31
    have h := h.2 c31
    obtain ⟨c32, h⟩ := h
    refine ⟨c32, ?_⟩
    obtain ⟨b33, e34, h⟩ := h
    refine ⟨b33, e34, ?_⟩
    obtain ⟨c35, h⟩ := h
    refine ⟨c35, ?_⟩
    have n36 := ob_nq oc c35 (by decide)
    obtain ⟨c37, h⟩ := h
    refine ⟨c37, ?_⟩
    intro x39 e38
    have h := h x39 e38
    have oc := ob_wJ oc e38
    intro x41 e40
    have h := h x41 e40
    exact hX147 _ _ _ _ _ h rfl oc
theorem nf_X11_day_147 {Q : Int32 → HS → Prop} {v0 : Nat} {v2 : Int32} {v3 : Int32} {v6 : Int32} {S : HS} (h : P_X11_day_147 Q v0 v2 v3 v6 S) (oc : ob S v0 11) : P_X11_day_147 (fun r T => Q r T ∧ NFq 11 2 c11 v0 T) v0 v2 v3 v6 S := h (fun w0 v2 v3 v6 S => w0 = v0 → ob S v0 11 → P_X11_day_147 (fun r T => Q r T ∧ NFq 11 2 c11 v0 T) w0 v2 v3 v6 S) (fun w0 v2 v3 v6 S hB e oc => by
  subst e; exact fd_X11_day_147 (nfB_X11_day_147 hB oc (fun _ _ _ _ _ hx e oc => hx e oc))) rfl oc
set_option maxRecDepth 20000 in
set_option maxHeartbeats 1000000 in
theorem nfB_X11_day_73 {Q : Int32 → HS → Prop} {X73 X73_2 : Nat → Int32 → Int32 → Int32 → Int32 → HS → Prop} {v0 : Nat} {v2 : Int32} {v3 : Int32} {v5 : Int32} {v6 : Int32} {S : HS} (h : B_X11_day_73 Q X73 v0 v2 v3 v5 v6 S) (oc : ob S v0 11) (hX73 : ∀ (u0 : Nat) (u1 : Int32) (u2 : Int32) (u3 : Int32) (u4 : Int32) (u5 : HS), X73 u0 u1 u2 u3 u4 u5 → u0 = v0 → ob u5 v0 11 → X73_2 u0 u1 u2 u3 u4 u5) : B_X11_day_73 (fun r T => Q r T ∧ NFq 11 2 c11 v0 T) X73_2 v0 v2 v3 v5 v6 S := by
  delta B_X11_day_73 at h ⊢
  obtain ⟨c1, h⟩ := h
  refine ⟨c1, ?_⟩
  obtain ⟨b2, e3, h⟩ := h
  refine ⟨b2, e3, ?_⟩
  obtain ⟨c4, h⟩ := h
  refine ⟨c4, ?_⟩
  have n5 := ob_nq oc c4 (by decide)
  intro x7 e6
  have h := h x7 e6
  refine ⟨?_, ?_⟩
  · intro c8
    have h := h.1 c8
    exact nf_X11_day_147 h oc
  · intro c9
    have h := h.2 c9
    intro x11 e10
    have h := h x11 e10
    intro x13 e12
    have h := h x13 e12
    intro x15 e14
    have h := h x15 e14
    intro x17 e16
    have h := h x17 e16
    obtain ⟨b18, e19, h⟩ := h
    refine ⟨b18, e19, ?_⟩
    obtain ⟨c20, h⟩ := h
    refine ⟨c20, ?_⟩
    have n21 := ob_nq oc c20 (by decide)
    obtain ⟨b22, e23, h⟩ := h
    refine ⟨b22, e23, ?_⟩
    obtain ⟨c24, h⟩ := h
    refine ⟨c24, ?_⟩
    have n25 := ob_nq oc c24 (by decide)
    obtain ⟨c26, h⟩ := h
    refine ⟨c26, ?_⟩
    intro x28 e27
    have h := h x28 e27
    refine ⟨?_, ?_⟩
    · intro c29
      have h := h.1 c29
      exact nf_X11_day_134 h oc hX73
    · intro c30
      have h := h.2 c30
      exact nf_X11_day_134 h oc hX73
theorem nf_X11_day_73 {Q : Int32 → HS → Prop} {v0 : Nat} {v2 : Int32} {v3 : Int32} {v5 : Int32} {v6 : Int32} {S : HS} (h : P_X11_day_73 Q v0 v2 v3 v5 v6 S) (oc : ob S v0 11) : P_X11_day_73 (fun r T => Q r T ∧ NFq 11 2 c11 v0 T) v0 v2 v3 v5 v6 S := h (fun w0 v2 v3 v5 v6 S => w0 = v0 → ob S v0 11 → P_X11_day_73 (fun r T => Q r T ∧ NFq 11 2 c11 v0 T) w0 v2 v3 v5 v6 S) (fun w0 v2 v3 v5 v6 S hB e oc => by
  subst e; exact fd_X11_day_73 (nfB_X11_day_73 hB oc (fun _ _ _ _ _ _ hx e oc => hx e oc))) rfl oc
set_option maxRecDepth 20000 in
set_option maxHeartbeats 1000000 in
theorem nf_X11_day_0 {Q : Int32 → HS → Prop} {v0 : Nat} {v1 : Int32} {v2 : Int32} {v3 : Int32} {v4 : Int32} {S : HS} (h : P_X11_day_0 Q v0 v1 v2 v3 v4 S) (oc : ob S v0 11) : P_X11_day_0 (fun r T => Q r T ∧ NFq 11 2 c11 v0 T) v0 v1 v2 v3 v4 S := by
  delta P_X11_day_0 at h ⊢
  obtain ⟨c1, h⟩ := h
  refine ⟨c1, ?_⟩
  intro x3 e2
  have h := h x3 e2
  have oc := ob_wI oc e2
  refine cm_X11_isWalker (kg_X11_isWalker h) h (fun x4 x5 p8 h g6 g7 => ?_)
  have h := h g6 g7
  have oc := gr_ob p8.2.1 oc
  refine ⟨?_, ?_⟩
  · intro c9
    have h := h.1 c9
    exact nf_X11_day_21 h oc
  · intro c10
    have h := h.2 c10
    refine cm_X11_isPlace (kg_X11_isPlace h) h (fun x11 x12 p15 h g13 g14 => ?_)
    have h := h g13 g14
    have oc := gr_ob p15.2.1 oc
    refine ⟨?_, ?_⟩
    · intro c16
      have h := h.1 c16
      refine cm_X11_in (kg_X11_in h) h (fun x17 x18 p21 h g19 g20 => ?_)
      have h := h g19 g20
      have oc := gr_ob p21.2.1 oc
      refine ⟨?_, ?_⟩
      · intro c22
        have h := h.1 c22
        exact nf_X11_day_50 h oc
      · intro c23
        have h := h.2 c23
        refine cm_X11_in (kg_X11_in h) h (fun x24 x25 p28 h g26 g27 => ?_)
        have h := h g26 g27
        have oc := gr_ob p28.2.1 oc
        refine ⟨?_, ?_⟩
        · intro c29
          have h := h.1 c29
          intro x31 e30
          have h := h x31 e30
          have oc := ob_wI oc e30
          intro x33 e32
          have h := h x33 e32
          have oc := ob_wI oc e32
          exact nf_X11_day_73 h oc
        · intro c34
          have h := h.2 c34
          exact nf_X11_day_50 h oc
    · intro c35
      have h := h.2 c35
      exact nf_X11_day_21 h oc
theorem nf_X11_day {Q : Int32 → HS → Prop} {v0 : Nat} {v1 : Int32} {v2 : Int32} {v3 : Int32} {v4 : Int32} {S : HS} (h : P_X11_day v0 v1 v2 v3 v4 Q S) (oc : ob S v0 11) : P_X11_day v0 v1 v2 v3 v4 (fun r T => Q r T ∧ NFq 11 2 c11 v0 T) S := nf_X11_day_0 h oc
set_option maxRecDepth 20000 in
set_option maxHeartbeats 1000000 in
theorem nf_X11_driest_30 {Q : Int32 → HS → Prop} {v0 : Nat} {S : HS} (h : P_X11_driest_30 Q v0 S) (oc : ob S v0 11) : P_X11_driest_30 (fun r T => Q r T ∧ NFq 11 2 c11 v0 T) v0 S := by
  delta P_X11_driest_30 at h ⊢
  obtain ⟨c1, h⟩ := h
  refine ⟨c1, ?_⟩
  refine cm_X11_refused (nf_X11_refused h oc) h (fun x2 x3 p5 h g4 => ?_)
  have h := h g4
  have N := p5.2
  have oc := N.1
  exact ⟨h, N⟩
set_option maxRecDepth 20000 in
set_option maxHeartbeats 1000000 in
theorem nf_X11_driest_105 {Q : Int32 → HS → Prop} {X45 X45_2 : Nat → Int32 → Int32 → Int32 → Int32 → Int64 → Int32 → HS → Prop} {v0 : Nat} {v1 : Int32} {v2 : Int32} {v3 : Int32} {v4 : Int32} {v5 : Int64} {v7 : Int32} {S : HS} (h : P_X11_driest_105 Q X45 v0 v1 v2 v3 v4 v5 v7 S) (oc : ob S v0 11) (hX45 : ∀ (u0 : Nat) (u1 : Int32) (u2 : Int32) (u3 : Int32) (u4 : Int32) (u5 : Int64) (u6 : Int32) (u7 : HS), X45 u0 u1 u2 u3 u4 u5 u6 u7 → u0 = v0 → ob u7 v0 11 → X45_2 u0 u1 u2 u3 u4 u5 u6 u7) : P_X11_driest_105 (fun r T => Q r T ∧ NFq 11 2 c11 v0 T) X45_2 v0 v1 v2 v3 v4 v5 v7 S := by
  delta P_X11_driest_105 at h ⊢
  intro x2 e1
  have h := h x2 e1
  exact hX45 _ _ _ _ _ _ _ _ h rfl oc
set_option maxRecDepth 20000 in
set_option maxHeartbeats 1000000 in
theorem nf_X11_driest_97 {Q : Int32 → HS → Prop} {X45 X45_2 : Nat → Int32 → Int32 → Int32 → Int32 → Int64 → Int32 → HS → Prop} {v0 : Nat} {v1 : Int32} {v2 : Int32} {v3 : Int32} {v7 : Int32} {v8 : Int64} {S : HS} (h : P_X11_driest_97 Q X45 v0 v1 v2 v3 v7 v8 S) (oc : ob S v0 11) (hX45 : ∀ (u0 : Nat) (u1 : Int32) (u2 : Int32) (u3 : Int32) (u4 : Int32) (u5 : Int64) (u6 : Int32) (u7 : HS), X45 u0 u1 u2 u3 u4 u5 u6 u7 → u0 = v0 → ob u7 v0 11 → X45_2 u0 u1 u2 u3 u4 u5 u6 u7) : P_X11_driest_97 (fun r T => Q r T ∧ NFq 11 2 c11 v0 T) X45_2 v0 v1 v2 v3 v7 v8 S := by
  delta P_X11_driest_97 at h ⊢
  exact nf_X11_driest_105 h oc hX45
set_option maxRecDepth 20000 in
set_option maxHeartbeats 1000000 in
theorem nfB_X11_driest_45 {Q : Int32 → HS → Prop} {X45 X45_2 : Nat → Int32 → Int32 → Int32 → Int32 → Int64 → Int32 → HS → Prop} {v0 : Nat} {v1 : Int32} {v2 : Int32} {v3 : Int32} {v4 : Int32} {v5 : Int64} {v7 : Int32} {S : HS} (h : B_X11_driest_45 Q X45 v0 v1 v2 v3 v4 v5 v7 S) (oc : ob S v0 11) (hX45 : ∀ (u0 : Nat) (u1 : Int32) (u2 : Int32) (u3 : Int32) (u4 : Int32) (u5 : Int64) (u6 : Int32) (u7 : HS), X45 u0 u1 u2 u3 u4 u5 u6 u7 → u0 = v0 → ob u7 v0 11 → X45_2 u0 u1 u2 u3 u4 u5 u6 u7) : B_X11_driest_45 (fun r T => Q r T ∧ NFq 11 2 c11 v0 T) X45_2 v0 v1 v2 v3 v4 v5 v7 S := by
  delta B_X11_driest_45 at h ⊢
  obtain ⟨c1, h⟩ := h
  refine ⟨c1, ?_⟩
  obtain ⟨b2, e3, h⟩ := h
  refine ⟨b2, e3, ?_⟩
  obtain ⟨c4, h⟩ := h
  refine ⟨c4, ?_⟩
  have n5 := ob_nq oc c4 (by decide)
  intro x7 e6
  have h := h x7 e6
  refine ⟨?_, ?_⟩
  · intro c8
    have h := h.1 c8
    refine ⟨?_, ?_⟩
    · intro c9
      have h := h.1 c9
      refine cm_X11_good (nf_X11_good h oc) h (fun x10 x11 p13 h g12 => ?_)
      have h := h g12
      have N := p13.2
      have oc := N.1
      exact ⟨h, N⟩
    · intro c14
      have h := h.2 c14
      refine cm_X11_refused (nf_X11_refused h oc) h (fun x15 x16 p18 h g17 => ?_)
      have h := h g17
      have N := p18.2
      have oc := N.1
      exact ⟨h, N⟩
  · intro c19
    have h := h.2 c19
    refine cm_X11_wetAtBest (kg_X11_wetAtBest h) h (fun x20 x21 p23 h g22 => ?_)
    have h := h g22
    have oc := gr_ob p23.2.1 oc
    obtain ⟨b24, e25, h⟩ := h
    refine ⟨b24, e25, ?_⟩
    obtain ⟨c26, h⟩ := h
    refine ⟨c26, ?_⟩
    have n27 := ob_nq oc c26 (by decide)
    obtain ⟨b28, e29, h⟩ := h
    refine ⟨b28, e29, ?_⟩
    obtain ⟨c30, h⟩ := h
    refine ⟨c30, ?_⟩
    have n31 := ob_nq oc c30 (by decide)
    obtain ⟨c32, h⟩ := h
    refine ⟨c32, ?_⟩
    intro x34 e33
    have h := h x34 e33
    intro x36 e35
    have h := h x36 e35
    refine ⟨?_, ?_⟩
    · intro c37
      have h := h.1 c37
      exact nf_X11_driest_97 h oc hX45
    · intro c38
      have h := h.2 c38
      refine ⟨?_, ?_⟩
      · intro c39
        have h := h.1 c39
        exact nf_X11_driest_97 h oc hX45
      · intro c40
        have h := h.2 c40
        exact nf_X11_driest_105 h oc hX45
theorem nf_X11_driest_45 {Q : Int32 → HS → Prop} {v0 : Nat} {v1 : Int32} {v2 : Int32} {v3 : Int32} {v4 : Int32} {v5 : Int64} {v7 : Int32} {S : HS} (h : P_X11_driest_45 Q v0 v1 v2 v3 v4 v5 v7 S) (oc : ob S v0 11) : P_X11_driest_45 (fun r T => Q r T ∧ NFq 11 2 c11 v0 T) v0 v1 v2 v3 v4 v5 v7 S := h (fun w0 v1 v2 v3 v4 v5 v7 S => w0 = v0 → ob S v0 11 → P_X11_driest_45 (fun r T => Q r T ∧ NFq 11 2 c11 v0 T) w0 v1 v2 v3 v4 v5 v7 S) (fun w0 v1 v2 v3 v4 v5 v7 S hB e oc => by
  subst e; exact fd_X11_driest_45 (nfB_X11_driest_45 hB oc (fun _ _ _ _ _ _ _ _ hx e oc => hx e oc))) rfl oc
set_option maxRecDepth 20000 in
set_option maxHeartbeats 1000000 in
theorem nf_X11_driest_0 {Q : Int32 → HS → Prop} {v0 : Nat} {v1 : Int32} {v2 : Int32} {v3 : Int32} {S : HS} (h : P_X11_driest_0 Q v0 v1 v2 v3 S) (oc : ob S v0 11) : P_X11_driest_0 (fun r T => Q r T ∧ NFq 11 2 c11 v0 T) v0 v1 v2 v3 S := by
  delta P_X11_driest_0 at h ⊢
  obtain ⟨c1, h⟩ := h
  refine ⟨c1, ?_⟩
  intro x3 e2
  have h := h x3 e2
  have oc := ob_wI oc e2
  refine cm_X11_isWalker (kg_X11_isWalker h) h (fun x4 x5 p8 h g6 g7 => ?_)
  have h := h g6 g7
  have oc := gr_ob p8.2.1 oc
  refine ⟨?_, ?_⟩
  · intro c9
    have h := h.1 c9
    exact nf_X11_driest_30 h oc
  · intro c10
    have h := h.2 c10
    refine cm_X11_isRoad (kg_X11_isRoad h) h (fun x11 x12 p15 h g13 g14 => ?_)
    have h := h g13 g14
    have oc := gr_ob p15.2.1 oc
    refine ⟨?_, ?_⟩
    · intro c16
      have h := h.1 c16
      exact nf_X11_driest_30 h oc
    · intro c17
      have h := h.2 c17
      refine cm_X11_in (kg_X11_in h) h (fun x18 x19 p22 h g20 g21 => ?_)
      have h := h g20 g21
      have oc := gr_ob p22.2.1 oc
      refine ⟨?_, ?_⟩
      · intro c23
        have h := h.1 c23
        exact nf_X11_driest_45 h oc
      · intro c24
        have h := h.2 c24
        exact nf_X11_driest_30 h oc
theorem nf_X11_driest {Q : Int32 → HS → Prop} {v0 : Nat} {v1 : Int32} {v2 : Int32} {v3 : Int32} {S : HS} (h : P_X11_driest v0 v1 v2 v3 Q S) (oc : ob S v0 11) : P_X11_driest v0 v1 v2 v3 (fun r T => Q r T ∧ NFq 11 2 c11 v0 T) S := nf_X11_driest_0 h oc
set_option maxRecDepth 20000 in
set_option maxHeartbeats 1000000 in
theorem nf_X11_even_39 {Q : Int32 → HS → Prop} {v0 : Nat} {S : HS} (h : P_X11_even_39 Q v0 S) (oc : ob S v0 11) : P_X11_even_39 (fun r T => Q r T ∧ NFq 11 2 c11 v0 T) v0 S := by
  delta P_X11_even_39 at h ⊢
  obtain ⟨c1, h⟩ := h
  refine ⟨c1, ?_⟩
  refine cm_X11_refused (nf_X11_refused h oc) h (fun x2 x3 p5 h g4 => ?_)
  have h := h g4
  have N := p5.2
  have oc := N.1
  exact ⟨h, N⟩
set_option maxRecDepth 20000 in
set_option maxHeartbeats 1000000 in
theorem nf_X11_even_111 {Q : Int32 → HS → Prop} {X59 X59_2 : Nat → Int32 → Int32 → Int32 → Int32 → Int32 → Int32 → HS → Prop} {v0 : Nat} {v1 : Int32} {v2 : Int32} {v3 : Int32} {v4 : Int32} {v6 : Int32} {s0 : Int32} {S : HS} (h : P_X11_even_111 Q X59 v0 v1 v2 v3 v4 v6 s0 S) (oc : ob S v0 11) (hX59 : ∀ (u0 : Nat) (u1 : Int32) (u2 : Int32) (u3 : Int32) (u4 : Int32) (u5 : Int32) (u6 : Int32) (u7 : HS), X59 u0 u1 u2 u3 u4 u5 u6 u7 → u0 = v0 → ob u7 v0 11 → X59_2 u0 u1 u2 u3 u4 u5 u6 u7) : P_X11_even_111 (fun r T => Q r T ∧ NFq 11 2 c11 v0 T) X59_2 v0 v1 v2 v3 v4 v6 s0 S := by
  delta P_X11_even_111 at h ⊢
  intro x2 e1
  have h := h x2 e1
  exact hX59 _ _ _ _ _ _ _ _ h rfl oc
set_option maxRecDepth 20000 in
set_option maxHeartbeats 1000000 in
theorem nf_X11_even_110 {Q : Int32 → HS → Prop} {X59 X59_2 : Nat → Int32 → Int32 → Int32 → Int32 → Int32 → Int32 → HS → Prop} {v0 : Nat} {v1 : Int32} {v2 : Int32} {v3 : Int32} {v4 : Int32} {v6 : Int32} {S : HS} (h : P_X11_even_110 Q X59 v0 v1 v2 v3 v4 v6 S) (oc : ob S v0 11) (hX59 : ∀ (u0 : Nat) (u1 : Int32) (u2 : Int32) (u3 : Int32) (u4 : Int32) (u5 : Int32) (u6 : Int32) (u7 : HS), X59 u0 u1 u2 u3 u4 u5 u6 u7 → u0 = v0 → ob u7 v0 11 → X59_2 u0 u1 u2 u3 u4 u5 u6 u7) : P_X11_even_110 (fun r T => Q r T ∧ NFq 11 2 c11 v0 T) X59_2 v0 v1 v2 v3 v4 v6 S := by
  delta P_X11_even_110 at h ⊢
  exact nf_X11_even_111 h oc hX59
set_option maxRecDepth 20000 in
set_option maxHeartbeats 1000000 in
theorem nf_X11_even_130 {Q : Int32 → HS → Prop} {s0 : Nat} {s1 : Int32} {v0 : Nat} {S : HS} (h : P_X11_even_130 Q s0 s1 S) (oc : ob S v0 11) (q_s0 : s0 = v0) : P_X11_even_130 (fun r T => Q r T ∧ NFq 11 2 c11 v0 T) s0 s1 S := by
  delta P_X11_even_130 at h ⊢
  subst q_s0
  obtain ⟨c1, h⟩ := h
  refine ⟨c1, ?_⟩
  refine cm_X11_good (nf_X11_good h oc) h (fun x2 x3 p5 h g4 => ?_)
  have h := h g4
  have N := p5.2
  have oc := N.1
  exact ⟨h, N⟩
set_option maxRecDepth 20000 in
set_option maxHeartbeats 1000000 in
theorem nfB_X11_even_59 {Q : Int32 → HS → Prop} {X59 X59_2 : Nat → Int32 → Int32 → Int32 → Int32 → Int32 → Int32 → HS → Prop} {v0 : Nat} {v1 : Int32} {v2 : Int32} {v3 : Int32} {v4 : Int32} {v5 : Int32} {v6 : Int32} {S : HS} (h : B_X11_even_59 Q X59 v0 v1 v2 v3 v4 v5 v6 S) (oc : ob S v0 11) (hX59 : ∀ (u0 : Nat) (u1 : Int32) (u2 : Int32) (u3 : Int32) (u4 : Int32) (u5 : Int32) (u6 : Int32) (u7 : HS), X59 u0 u1 u2 u3 u4 u5 u6 u7 → u0 = v0 → ob u7 v0 11 → X59_2 u0 u1 u2 u3 u4 u5 u6 u7) : B_X11_even_59 (fun r T => Q r T ∧ NFq 11 2 c11 v0 T) X59_2 v0 v1 v2 v3 v4 v5 v6 S := by
  delta B_X11_even_59 at h ⊢
  obtain ⟨c1, h⟩ := h
  refine ⟨c1, ?_⟩
  obtain ⟨b2, e3, h⟩ := h
  refine ⟨b2, e3, ?_⟩
  obtain ⟨c4, h⟩ := h
  refine ⟨c4, ?_⟩
  have n5 := ob_nq oc c4 (by decide)
  obtain ⟨b6, e7, h⟩ := h
  refine ⟨b6, e7, ?_⟩
  obtain ⟨c8, h⟩ := h
  refine ⟨c8, ?_⟩
  have n9 := ob_nq oc c8 (by decide)
  obtain ⟨c10, h⟩ := h
  refine ⟨c10, ?_⟩
  intro x12 e11
  have h := h x12 e11
  refine ⟨?_, ?_⟩
  · intro c13
    have h := h.1 c13
    refine ⟨?_, ?_⟩
    · intro c14
      have h := h.1 c14
      exact nf_X11_even_130 h oc rfl
    · intro c15
      have h := h.2 c15
      exact nf_X11_even_130 h oc rfl
  · intro c16
    have h := h.2 c16
    refine ⟨?_, ?_⟩
    · intro c17
      have h := h.1 c17
      exact nf_X11_even_110 h oc hX59
    · intro c18
      have h := h.2 c18
      refine cm_X11_wetOf (kg_X11_wetOf h) h (fun x19 x20 p22 h g21 => ?_)
      have h := h g21
      have oc := gr_ob p22.2.1 oc
      refine cm_X11_wetOf (kg_X11_wetOf h) h (fun x23 x24 p26 h g25 => ?_)
      have h := h g25
      have oc := gr_ob p26.2.1 oc
      refine ⟨?_, ?_⟩
      · intro c27
        have h := h.1 c27
        exact nf_X11_even_110 h oc hX59
      · intro c28
        have h := h.2 c28
        exact nf_X11_even_111 h oc hX59
theorem nf_X11_even_59 {Q : Int32 → HS → Prop} {v0 : Nat} {v1 : Int32} {v2 : Int32} {v3 : Int32} {v4 : Int32} {v5 : Int32} {v6 : Int32} {S : HS} (h : P_X11_even_59 Q v0 v1 v2 v3 v4 v5 v6 S) (oc : ob S v0 11) : P_X11_even_59 (fun r T => Q r T ∧ NFq 11 2 c11 v0 T) v0 v1 v2 v3 v4 v5 v6 S := h (fun w0 v1 v2 v3 v4 v5 v6 S => w0 = v0 → ob S v0 11 → P_X11_even_59 (fun r T => Q r T ∧ NFq 11 2 c11 v0 T) w0 v1 v2 v3 v4 v5 v6 S) (fun w0 v1 v2 v3 v4 v5 v6 S hB e oc => by
  subst e; exact fd_X11_even_59 (nfB_X11_even_59 hB oc (fun _ _ _ _ _ _ _ _ hx e oc => hx e oc))) rfl oc
set_option maxRecDepth 20000 in
set_option maxHeartbeats 1000000 in
theorem nf_X11_even_0 {Q : Int32 → HS → Prop} {v0 : Nat} {v1 : Int32} {v2 : Int32} {v3 : Int32} {v4 : Int32} {S : HS} (h : P_X11_even_0 Q v0 v1 v2 v3 v4 S) (oc : ob S v0 11) : P_X11_even_0 (fun r T => Q r T ∧ NFq 11 2 c11 v0 T) v0 v1 v2 v3 v4 S := by
  delta P_X11_even_0 at h ⊢
  obtain ⟨c1, h⟩ := h
  refine ⟨c1, ?_⟩
  intro x3 e2
  have h := h x3 e2
  have oc := ob_wI oc e2
  refine cm_X11_isWalker (kg_X11_isWalker h) h (fun x4 x5 p8 h g6 g7 => ?_)
  have h := h g6 g7
  have oc := gr_ob p8.2.1 oc
  refine ⟨?_, ?_⟩
  · intro c9
    have h := h.1 c9
    exact nf_X11_even_39 h oc
  · intro c10
    have h := h.2 c10
    refine cm_X11_isRoad (kg_X11_isRoad h) h (fun x11 x12 p15 h g13 g14 => ?_)
    have h := h g13 g14
    have oc := gr_ob p15.2.1 oc
    refine ⟨?_, ?_⟩
    · intro c16
      have h := h.1 c16
      exact nf_X11_even_39 h oc
    · intro c17
      have h := h.2 c17
      refine cm_X11_in (kg_X11_in h) h (fun x18 x19 p22 h g20 g21 => ?_)
      have h := h g20 g21
      have oc := gr_ob p22.2.1 oc
      refine ⟨?_, ?_⟩
      · intro c23
        have h := h.1 c23
        exact nf_X11_even_39 h oc
      · intro c24
        have h := h.2 c24
        refine cm_X11_isHour (kg_X11_isHour h) h (fun x25 x26 p29 h g27 g28 => ?_)
        have h := h g27 g28
        have oc := gr_ob p29.2.1 oc
        refine ⟨?_, ?_⟩
        · intro c30
          have h := h.1 c30
          obtain ⟨b31, e32, h⟩ := h
          refine ⟨b31, e32, ?_⟩
          obtain ⟨c33, h⟩ := h
          refine ⟨c33, ?_⟩
          have n34 := ob_nq oc c33 (by decide)
          obtain ⟨b35, e36, h⟩ := h
          refine ⟨b35, e36, ?_⟩
          obtain ⟨c37, h⟩ := h
          refine ⟨c37, ?_⟩
          have n38 := ob_nq oc c37 (by decide)
          obtain ⟨c39, h⟩ := h
          refine ⟨c39, ?_⟩
          intro x41 e40
          have h := h x41 e40
          exact nf_X11_even_59 h oc
        · intro c42
          have h := h.2 c42
          exact nf_X11_even_39 h oc
theorem nf_X11_even {Q : Int32 → HS → Prop} {v0 : Nat} {v1 : Int32} {v2 : Int32} {v3 : Int32} {v4 : Int32} {S : HS} (h : P_X11_even v0 v1 v2 v3 v4 Q S) (oc : ob S v0 11) : P_X11_even v0 v1 v2 v3 v4 (fun r T => Q r T ∧ NFq 11 2 c11 v0 T) S := nf_X11_even_0 h oc
set_option maxRecDepth 20000 in
set_option maxHeartbeats 1000000 in
theorem nfB_X11_told_12 {Q : Int64 → HS → Prop} {X12 X12_2 : Int64 → Int64 → Int32 → Int64 → Int64 → HS → Prop} {v1 : Int64} {v3 : Int64} {v5 : Int32} {v6 : Int64} {v8 : Int64} {v0 : Nat} {S : HS} (h : B_X11_told_12 Q X12 v1 v3 v5 v6 v8 S) (oc : ob S v0 11) (N : NFq 11 2 c11 v0 S) (hX12 : ∀ (u0 : Int64) (u1 : Int64) (u2 : Int32) (u3 : Int64) (u4 : Int64) (u5 : HS), X12 u0 u1 u2 u3 u4 u5 → ob u5 v0 11 → NFq 11 2 c11 v0 u5 → X12_2 u0 u1 u2 u3 u4 u5) : B_X11_told_12 (fun r T => Q r T ∧ NFq 11 2 c11 v0 T) X12_2 v1 v3 v5 v6 v8 S := by
  delta B_X11_told_12 at h ⊢
  refine ⟨?_, ?_⟩
  · intro c1
    have h := h.1 c1
    refine ⟨?_, ?_⟩
    · intro c2
      have h := h.1 c2
      obtain ⟨c3, h⟩ := h
      refine ⟨c3, ?_⟩
      intro x5 e4
      have h := h x5 e4
      exact ⟨h, N⟩
    · intro c6
      have h := h.2 c6
      obtain ⟨c7, h⟩ := h
      refine ⟨c7, ?_⟩
      intro x9 e8
      have h := h x9 e8
      exact ⟨h, N⟩
  · intro c10
    have h := h.2 c10
    obtain ⟨c11, h⟩ := h
    refine ⟨c11, ?_⟩
    intro x13 e12
    have h := h x13 e12
    exact hX12 _ _ _ _ _ _ h oc N
theorem nf_X11_told_12 {Q : Int64 → HS → Prop} {v1 : Int64} {v3 : Int64} {v5 : Int32} {v6 : Int64} {v8 : Int64} {v0 : Nat} {S : HS} (h : P_X11_told_12 Q v1 v3 v5 v6 v8 S) (oc : ob S v0 11) (N : NFq 11 2 c11 v0 S) : P_X11_told_12 (fun r T => Q r T ∧ NFq 11 2 c11 v0 T) v1 v3 v5 v6 v8 S := h (fun v1 v3 v5 v6 v8 S => ob S v0 11 → NFq 11 2 c11 v0 S → P_X11_told_12 (fun r T => Q r T ∧ NFq 11 2 c11 v0 T) v1 v3 v5 v6 v8 S) (fun v1 v3 v5 v6 v8 S hB oc N => by
  exact fd_X11_told_12 (nfB_X11_told_12 hB oc N (fun _ _ _ _ _ _ hx oc N => hx oc N))) oc N
set_option maxRecDepth 20000 in
set_option maxHeartbeats 1000000 in
theorem nf_X11_told_0 {Q : Int64 → HS → Prop} {v0 : Nat} {v1 : Int64} {v3 : Int64} {v5 : Int32} {S : HS} (h : P_X11_told_0 Q v0 v1 v3 v5 S) (oc : ob S v0 11) : P_X11_told_0 (fun r T => Q r T ∧ NFq 11 2 c11 v0 T) v0 v1 v3 v5 S := by
  delta P_X11_told_0 at h ⊢
  obtain ⟨c1, h⟩ := h
  refine ⟨c1, ?_⟩
  refine cm_X11_good (nf_X11_good h oc) h (fun x2 x3 p5 h g4 => ?_)
  have h := h g4
  have N := p5.2
  have oc := N.1
  exact nf_X11_told_12 h oc N
theorem nf_X11_told {Q : Int64 → HS → Prop} {v0 : Nat} {v1 : Int64} {v3 : Int64} {v5 : Int32} {S : HS} (h : P_X11_told v0 v1 v3 v5 Q S) (oc : ob S v0 11) : P_X11_told v0 v1 v3 v5 (fun r T => Q r T ∧ NFq 11 2 c11 v0 T) S := nf_X11_told_0 h oc
set_option maxRecDepth 20000 in
set_option maxHeartbeats 1000000 in
theorem nf_X11_face_30 {Q : Int64 → HS → Prop} {v0 : Nat} {v1 : Int32} {v2 : Int32} {v3 : Int32} {v4 : Int32} {v5 : Int32} {v6 : Int32} {v7 : Int32} {s0 : Int32} {S : HS} (h : P_X11_face_30 Q v0 v1 v2 v3 v4 v5 v6 v7 s0 S) (oc : ob S v0 11) : P_X11_face_30 (fun r T => Q r T ∧ NFq 11 2 c11 v0 T) v0 v1 v2 v3 v4 v5 v6 v7 s0 S := by
  delta P_X11_face_30 at h ⊢
  refine ⟨?_, ?_⟩
  · intro c1
    have h := h.1 c1
    obtain ⟨c2, h⟩ := h
    refine ⟨c2, ?_⟩
    refine cm_X11_partsOf (kg_X11_partsOf h) h (fun x3 x4 p6 h g5 => ?_)
    have h := h g5
    have oc := gr_ob p6.2.1 oc
    refine cm_X11_told (nf_X11_told h oc) h (fun x7 x8 p10 h g9 => ?_)
    have h := h g9
    have N := p10.2
    have oc := N.1
    exact ⟨h, N⟩
  · intro c11
    have h := h.2 c11
    obtain ⟨c12, h⟩ := h
    refine ⟨c12, ?_⟩
    refine cm_X11_refused (nf_X11_refused h oc) h (fun x13 x14 p16 h g15 => ?_)
    have h := h g15
    have N := p16.2
    have oc := N.1
    exact ⟨h, N⟩
set_option maxRecDepth 20000 in
set_option maxHeartbeats 1000000 in
theorem nf_X11_face_0 {Q : Int64 → HS → Prop} {v0 : Nat} {v1 : Int32} {v2 : Int32} {v3 : Int32} {v4 : Int32} {v5 : Int32} {v6 : Int32} {v7 : Int32} {S : HS} (h : P_X11_face_0 Q v0 v1 v2 v3 v4 v5 v6 v7 S) (oc : ob S v0 11) : P_X11_face_0 (fun r T => Q r T ∧ NFq 11 2 c11 v0 T) v0 v1 v2 v3 v4 v5 v6 v7 S := by
  delta P_X11_face_0 at h ⊢
  obtain ⟨c1, h⟩ := h
  refine ⟨c1, ?_⟩
  intro x3 e2
  have h := h x3 e2
  have oc := ob_wI oc e2
  refine cm_X11_in (kg_X11_in h) h (fun x4 x5 p8 h g6 g7 => ?_)
  have h := h g6 g7
  have oc := gr_ob p8.2.1 oc
  refine ⟨?_, ?_⟩
  · intro c9
    have h := h.1 c9
    exact nf_X11_face_30 h oc
  · intro c10
    have h := h.2 c10
    refine cm_X11_refuses (kg_X11_refuses h) h (fun x11 x12 p14 h g13 => ?_)
    have h := h g13
    have oc := gr_ob p14.2.1 oc
    exact nf_X11_face_30 h oc
theorem nf_X11_face {Q : Int64 → HS → Prop} {v0 : Nat} {v1 : Int32} {v2 : Int32} {v3 : Int32} {v4 : Int32} {v5 : Int32} {v6 : Int32} {v7 : Int32} {S : HS} (h : P_X11_face v0 v1 v2 v3 v4 v5 v6 v7 Q S) (oc : ob S v0 11) : P_X11_face v0 v1 v2 v3 v4 v5 v6 v7 (fun r T => Q r T ∧ NFq 11 2 c11 v0 T) S := nf_X11_face_0 h oc
set_option maxRecDepth 20000 in
set_option maxHeartbeats 1000000 in
theorem nf_X11_first_89 {Q : Int32 → HS → Prop} {s0 : Nat} {s1 : Int32} {v0 : Nat} {S : HS} (h : P_X11_first_89 Q s0 s1 S) (oc : ob S v0 11) (q_s0 : s0 = v0) : P_X11_first_89 (fun r T => Q r T ∧ NFq 11 2 c11 v0 T) s0 s1 S := by
  delta P_X11_first_89 at h ⊢
  subst q_s0
  obtain ⟨c1, h⟩ := h
  refine ⟨c1, ?_⟩
  refine cm_X11_good (nf_X11_good h oc) h (fun x2 x3 p5 h g4 => ?_)
  have h := h g4
  have N := p5.2
  have oc := N.1
  exact ⟨h, N⟩
set_option maxRecDepth 20000 in
set_option maxHeartbeats 1000000 in
theorem nf_X11_first_0 {Q : Int32 → HS → Prop} {v0 : Nat} {v1 : Int32} {v2 : Int32} {v3 : Int32} {v4 : Int32} {v5 : Int32} {v6 : Int32} {S : HS} (h : P_X11_first_0 Q v0 v1 v2 v3 v4 v5 v6 S) (oc : ob S v0 11) : P_X11_first_0 (fun r T => Q r T ∧ NFq 11 2 c11 v0 T) v0 v1 v2 v3 v4 v5 v6 S := by
  delta P_X11_first_0 at h ⊢
  obtain ⟨c1, h⟩ := h
  refine ⟨c1, ?_⟩
  intro x3 e2
  have h := h x3 e2
  have oc := ob_wI oc e2
  refine cm_X11_refusesTwo (kg_X11_refusesTwo h) h (fun x4 x5 p7 h g6 => ?_)
  have h := h g6
  have oc := gr_ob p7.2.1 oc
  refine ⟨?_, ?_⟩
  · intro c8
    have h := h.1 c8
    refine cm_X11_together (kg_X11_together h) h (fun x9 x10 p12 h g11 => ?_)
    have h := h g11
    have oc := gr_ob p12.2.1 oc
    refine cm_X11_together (kg_X11_together h) h (fun x13 x14 p16 h g15 => ?_)
    have h := h g15
    have oc := gr_ob p16.2.1 oc
    refine ⟨?_, ?_⟩
    · intro c17
      have h := h.1 c17
      refine ⟨?_, ?_⟩
      · intro c18
        have h := h.1 c18
        exact nf_X11_first_89 h oc rfl
      · intro c19
        have h := h.2 c19
        exact nf_X11_first_89 h oc rfl
    · intro c20
      have h := h.2 c20
      exact nf_X11_first_89 h oc rfl
  · intro c21
    have h := h.2 c21
    refine cm_X11_refused (nf_X11_refused h oc) h (fun x22 x23 p25 h g24 => ?_)
    have h := h g24
    have N := p25.2
    have oc := N.1
    exact ⟨h, N⟩
theorem nf_X11_first {Q : Int32 → HS → Prop} {v0 : Nat} {v1 : Int32} {v2 : Int32} {v3 : Int32} {v4 : Int32} {v5 : Int32} {v6 : Int32} {S : HS} (h : P_X11_first v0 v1 v2 v3 v4 v5 v6 Q S) (oc : ob S v0 11) : P_X11_first v0 v1 v2 v3 v4 v5 v6 (fun r T => Q r T ∧ NFq 11 2 c11 v0 T) S := nf_X11_first_0 h oc
set_option maxRecDepth 20000 in
set_option maxHeartbeats 1000000 in
theorem nf_X11_fit_27 {Q : Int32 → HS → Prop} {v0 : Nat} {s0 : Int32} {S : HS} (h : P_X11_fit_27 Q v0 s0 S) (oc : ob S v0 11) : P_X11_fit_27 (fun r T => Q r T ∧ NFq 11 2 c11 v0 T) v0 s0 S := by
  delta P_X11_fit_27 at h ⊢
  refine ⟨?_, ?_⟩
  · intro c1
    have h := h.1 c1
    obtain ⟨c2, h⟩ := h
    refine ⟨c2, ?_⟩
    refine cm_X11_good (nf_X11_good h oc) h (fun x3 x4 p6 h g5 => ?_)
    have h := h g5
    have N := p6.2
    have oc := N.1
    exact ⟨h, N⟩
  · intro c7
    have h := h.2 c7
    obtain ⟨c8, h⟩ := h
    refine ⟨c8, ?_⟩
    refine cm_X11_refused (nf_X11_refused h oc) h (fun x9 x10 p12 h g11 => ?_)
    have h := h g11
    have N := p12.2
    have oc := N.1
    exact ⟨h, N⟩
set_option maxRecDepth 20000 in
set_option maxHeartbeats 1000000 in
theorem nf_X11_fit_26 {Q : Int32 → HS → Prop} {v0 : Nat} {S : HS} (h : P_X11_fit_26 Q v0 S) (oc : ob S v0 11) : P_X11_fit_26 (fun r T => Q r T ∧ NFq 11 2 c11 v0 T) v0 S := by
  delta P_X11_fit_26 at h ⊢
  exact nf_X11_fit_27 h oc
set_option maxRecDepth 20000 in
set_option maxHeartbeats 1000000 in
theorem nf_X11_fit_0 {Q : Int32 → HS → Prop} {v0 : Nat} {v1 : Int32} {v2 : Int32} {S : HS} (h : P_X11_fit_0 Q v0 v1 v2 S) (oc : ob S v0 11) : P_X11_fit_0 (fun r T => Q r T ∧ NFq 11 2 c11 v0 T) v0 v1 v2 S := by
  delta P_X11_fit_0 at h ⊢
  obtain ⟨c1, h⟩ := h
  refine ⟨c1, ?_⟩
  intro x3 e2
  have h := h x3 e2
  have oc := ob_wI oc e2
  refine cm_X11_isSeen (kg_X11_isSeen h) h (fun x4 x5 p8 h g6 g7 => ?_)
  have h := h g6 g7
  have oc := gr_ob p8.2.1 oc
  refine ⟨?_, ?_⟩
  · intro c9
    have h := h.1 c9
    exact nf_X11_fit_26 h oc
  · intro c10
    have h := h.2 c10
    refine ⟨?_, ?_⟩
    · intro c11
      have h := h.1 c11
      exact nf_X11_fit_26 h oc
    · intro c12
      have h := h.2 c12
      refine cm_X11_fitOf (kg_X11_fitOf h) h (fun x13 x14 p16 h g15 => ?_)
      have h := h g15
      have oc := gr_ob p16.2.1 oc
      exact nf_X11_fit_27 h oc
theorem nf_X11_fit {Q : Int32 → HS → Prop} {v0 : Nat} {v1 : Int32} {v2 : Int32} {S : HS} (h : P_X11_fit v0 v1 v2 Q S) (oc : ob S v0 11) : P_X11_fit v0 v1 v2 (fun r T => Q r T ∧ NFq 11 2 c11 v0 T) S := nf_X11_fit_0 h oc
set_option maxRecDepth 20000 in
set_option maxHeartbeats 1000000 in
theorem nf_X11_fits_0 {Q : Int32 → HS → Prop} {v0 : Nat} {v1 : Int32} {S : HS} (h : P_X11_fits_0 Q v0 v1 S) (oc : ob S v0 11) : P_X11_fits_0 (fun r T => Q r T ∧ NFq 11 2 c11 v0 T) v0 v1 S := by
  delta P_X11_fits_0 at h ⊢
  obtain ⟨c1, h⟩ := h
  refine ⟨c1, ?_⟩
  intro x3 e2
  have h := h x3 e2
  have oc := ob_wI oc e2
  refine cm_X11_isSeen (kg_X11_isSeen h) h (fun x4 x5 p8 h g6 g7 => ?_)
  have h := h g6 g7
  have oc := gr_ob p8.2.1 oc
  refine ⟨?_, ?_⟩
  · intro c9
    have h := h.1 c9
    refine cm_X11_refused (nf_X11_refused h oc) h (fun x10 x11 p13 h g12 => ?_)
    have h := h g12
    have N := p13.2
    have oc := N.1
    exact ⟨h, N⟩
  · intro c14
    have h := h.2 c14
    refine cm_X11_fitOf (kg_X11_fitOf h) h (fun x15 x16 p18 h g17 => ?_)
    have h := h g17
    have oc := gr_ob p18.2.1 oc
    refine cm_X11_good (nf_X11_good h oc) h (fun x19 x20 p22 h g21 => ?_)
    have h := h g21
    have N := p22.2
    have oc := N.1
    exact ⟨h, N⟩
theorem nf_X11_fits {Q : Int32 → HS → Prop} {v0 : Nat} {v1 : Int32} {S : HS} (h : P_X11_fits v0 v1 Q S) (oc : ob S v0 11) : P_X11_fits v0 v1 (fun r T => Q r T ∧ NFq 11 2 c11 v0 T) S := nf_X11_fits_0 h oc
set_option maxRecDepth 20000 in
set_option maxHeartbeats 1000000 in
theorem nf_X11_go_29 {Q : Int32 → HS → Prop} {v0 : Nat} {S : HS} (h : P_X11_go_29 Q v0 S) (oc : ob S v0 11) : P_X11_go_29 (fun r T => Q r T ∧ NFq 11 2 c11 v0 T) v0 S := by
  delta P_X11_go_29 at h ⊢
  obtain ⟨c1, h⟩ := h
  refine ⟨c1, ?_⟩
  refine cm_X11_refused (nf_X11_refused h oc) h (fun x2 x3 p5 h g4 => ?_)
  have h := h g4
  have N := p5.2
  have oc := N.1
  exact ⟨h, N⟩
set_option maxRecDepth 20000 in
set_option maxHeartbeats 1000000 in
theorem nf_X11_go_171 {Q : Int32 → HS → Prop} {v0 : Nat} {v1 : Int32} {v2 : Int32} {v3 : Int32} {v4 : Int32} {S : HS} (h : P_X11_go_171 Q v0 v1 v2 v3 v4 S) (oc : ob S v0 11) : P_X11_go_171 (fun r T => Q r T ∧ NFq 11 2 c11 v0 T) v0 v1 v2 v3 v4 S := by
  delta P_X11_go_171 at h ⊢
  obtain ⟨c1, h⟩ := h
  refine ⟨c1, ?_⟩
  obtain ⟨b2, e3, h⟩ := h
  refine ⟨b2, e3, ?_⟩
  obtain ⟨b4, e5, h⟩ := h
  refine ⟨b4, e5, ?_⟩
  obtain ⟨c6, h⟩ := h
  refine ⟨c6, ?_⟩
  have n7 := ob_nq oc c6 (by decide)
  refine cm_X10_ends (kg_X10_ends h) h (fun x8 x9 p11 h g10 => ?_)
  have h := h g10
  have oc := gr_ob p11.2.1 oc
  obtain ⟨c12, h⟩ := h
  refine ⟨c12, ?_⟩
  have n13 := ob_nq oc c12 (by decide)
  intro x15 e14
  have h := h x15 e14
  obtain ⟨c16, h⟩ := h
  refine ⟨c16, ?_⟩
  intro x18 e17
  have h := h x18 e17
  have oc := ob_wJ oc e17
  obtain ⟨b19, e20, h⟩ := h
  refine ⟨b19, e20, ?_⟩
  obtain ⟨b21, e22, h⟩ := h
  refine ⟨b21, e22, ?_⟩
  obtain ⟨c23, h⟩ := h
  refine ⟨c23, ?_⟩
  have n24 := ob_nq oc c23 (by decide)
  refine cm_X10_minutes (kg_X10_minutes h) h (fun x25 x26 p28 h g27 => ?_)
  have h := h g27
  have oc := gr_ob p28.2.1 oc
  obtain ⟨c29, h⟩ := h
  refine ⟨c29, ?_⟩
  have n30 := ob_nq oc c29 (by decide)
  intro x32 e31
  have h := h x32 e31
  obtain ⟨c33, h⟩ := h
  refine ⟨c33, ?_⟩
  intro x35 e34
  have h := h x35 e34
  have oc := ob_wJ oc e34
  obtain ⟨b36, e37, h⟩ := h
  refine ⟨b36, e37, ?_⟩
  obtain ⟨c38, h⟩ := h
  refine ⟨c38, ?_⟩
  have n39 := ob_nq oc c38 (by decide)
  obtain ⟨c40, h⟩ := h
  refine ⟨c40, ?_⟩
  intro x42 e41
  have h := h x42 e41
  refine cm_X11_good (nf_X11_good h oc) h (fun x43 x44 p46 h g45 => ?_)
  have h := h g45
  have N := p46.2
  have oc := N.1
  exact ⟨h, N⟩
set_option maxRecDepth 20000 in
set_option maxHeartbeats 1000000 in
theorem nfB_X11_go_119 {Q : Int32 → HS → Prop} {X119 X119_2 : Nat → Int32 → Int32 → Int32 → Int32 → Int32 → HS → Prop} {v0 : Nat} {v1 : Int32} {v2 : Int32} {v3 : Int32} {v4 : Int32} {v5 : Int32} {S : HS} (h : B_X11_go_119 Q X119 v0 v1 v2 v3 v4 v5 S) (oc : ob S v0 11) (hX119 : ∀ (u0 : Nat) (u1 : Int32) (u2 : Int32) (u3 : Int32) (u4 : Int32) (u5 : Int32) (u6 : HS), X119 u0 u1 u2 u3 u4 u5 u6 → u0 = v0 → ob u6 v0 11 → X119_2 u0 u1 u2 u3 u4 u5 u6) : B_X11_go_119 (fun r T => Q r T ∧ NFq 11 2 c11 v0 T) X119_2 v0 v1 v2 v3 v4 v5 S := by
  delta B_X11_go_119 at h ⊢
  refine ⟨?_, ?_⟩
  · intro c1
    have h := h.1 c1
    exact nf_X11_go_171 h oc
  · intro c2
    have h := h.2 c2
    obtain ⟨c3, h⟩ := h
    refine ⟨c3, ?_⟩
    refine cm_X11_rainsIn (kg_X11_rainsIn h) h (fun x4 x5 p8 h g6 g7 => ?_)
    have h := h g6 g7
    have oc := gr_ob p8.2.1 oc
    refine ⟨?_, ?_⟩
    · intro c9
      have h := h.1 c9
      exact nf_X11_go_171 h oc
    · intro c10
      have h := h.2 c10
      obtain ⟨b11, e12, h⟩ := h
      refine ⟨b11, e12, ?_⟩
      obtain ⟨c13, h⟩ := h
      refine ⟨c13, ?_⟩
      have n14 := ob_nq oc c13 (by decide)
      intro x16 e15
      have h := h x16 e15
      obtain ⟨c17, h⟩ := h
      refine ⟨c17, ?_⟩
      intro x19 e18
      have h := h x19 e18
      intro x21 e20
      have h := h x21 e20
      refine cm_X11_hourOf (kg_X11_hourOf h) h (fun x22 x23 p25 h g24 => ?_)
      have h := h g24
      have oc := gr_ob p25.2.1 oc
      refine cm_X11_partsOf (kg_X11_partsOf h) h (fun x26 x27 p29 h g28 => ?_)
      have h := h g28
      have oc := gr_ob p29.2.1 oc
      intro x31 e30
      have h := h x31 e30
      obtain ⟨c32, h⟩ := h
      refine ⟨c32, ?_⟩
      intro x34 e33
      have h := h x34 e33
      have oc := ob_wJ oc e33
      intro x36 e35
      have h := h x36 e35
      exact hX119 _ _ _ _ _ _ _ h rfl oc
theorem nf_X11_go_119 {Q : Int32 → HS → Prop} {v0 : Nat} {v1 : Int32} {v2 : Int32} {v3 : Int32} {v4 : Int32} {v5 : Int32} {S : HS} (h : P_X11_go_119 Q v0 v1 v2 v3 v4 v5 S) (oc : ob S v0 11) : P_X11_go_119 (fun r T => Q r T ∧ NFq 11 2 c11 v0 T) v0 v1 v2 v3 v4 v5 S := h (fun w0 v1 v2 v3 v4 v5 S => w0 = v0 → ob S v0 11 → P_X11_go_119 (fun r T => Q r T ∧ NFq 11 2 c11 v0 T) w0 v1 v2 v3 v4 v5 S) (fun w0 v1 v2 v3 v4 v5 S hB e oc => by
  subst e; exact fd_X11_go_119 (nfB_X11_go_119 hB oc (fun _ _ _ _ _ _ _ hx e oc => hx e oc))) rfl oc
set_option maxRecDepth 20000 in
set_option maxHeartbeats 1000000 in
theorem nf_X11_go_0 {Q : Int32 → HS → Prop} {v0 : Nat} {v1 : Int32} {v2 : Int32} {v3 : Int32} {S : HS} (h : P_X11_go_0 Q v0 v1 v2 v3 S) (oc : ob S v0 11) : P_X11_go_0 (fun r T => Q r T ∧ NFq 11 2 c11 v0 T) v0 v1 v2 v3 S := by
  delta P_X11_go_0 at h ⊢
  obtain ⟨c1, h⟩ := h
  refine ⟨c1, ?_⟩
  intro x3 e2
  have h := h x3 e2
  have oc := ob_wI oc e2
  refine cm_X11_isDay (kg_X11_isDay h) h (fun x4 x5 p8 h g6 g7 => ?_)
  have h := h g6 g7
  have oc := gr_ob p8.2.1 oc
  refine ⟨?_, ?_⟩
  · intro c9
    have h := h.1 c9
    exact nf_X11_go_29 h oc
  · intro c10
    have h := h.2 c10
    refine cm_X11_isRoad (kg_X11_isRoad h) h (fun x11 x12 p15 h g13 g14 => ?_)
    have h := h g13 g14
    have oc := gr_ob p15.2.1 oc
    refine ⟨?_, ?_⟩
    · intro c16
      have h := h.1 c16
      exact nf_X11_go_29 h oc
    · intro c17
      have h := h.2 c17
      refine cm_X11_in (kg_X11_in h) h (fun x18 x19 p22 h g20 g21 => ?_)
      have h := h g20 g21
      have oc := gr_ob p22.2.1 oc
      refine ⟨?_, ?_⟩
      · intro c23
        have h := h.1 c23
        intro x25 e24
        have h := h x25 e24
        refine cm_X11_isSpeed (kg_X11_isSpeed h) h (fun x26 x27 p30 h g28 g29 => ?_)
        have h := h g28 g29
        have oc := gr_ob p30.2.1 oc
        refine ⟨?_, ?_⟩
        · intro c31
          have h := h.1 c31
          obtain ⟨b32, e33, h⟩ := h
          refine ⟨b32, e33, ?_⟩
          obtain ⟨c34, h⟩ := h
          refine ⟨c34, ?_⟩
          have n35 := ob_nq oc c34 (by decide)
          refine cm_X10_begins (kg_X10_begins h) h (fun x36 x37 p39 h g38 => ?_)
          have h := h g38
          have oc := gr_ob p39.2.1 oc
          obtain ⟨b40, e41, h⟩ := h
          refine ⟨b40, e41, ?_⟩
          obtain ⟨c42, h⟩ := h
          refine ⟨c42, ?_⟩
          have n43 := ob_nq oc c42 (by decide)
          obtain ⟨c44, h⟩ := h
          refine ⟨c44, ?_⟩
          intro x46 e45
          have h := h x46 e45
          refine ⟨?_, ?_⟩
          · intro c47
            have h := h.1 c47
            obtain ⟨b48, e49, h⟩ := h
            refine ⟨b48, e49, ?_⟩
            obtain ⟨c50, h⟩ := h
            refine ⟨c50, ?_⟩
            have n51 := ob_nq oc c50 (by decide)
            obtain ⟨c52, h⟩ := h
            refine ⟨c52, ?_⟩
            intro x54 e53
            have h := h x54 e53
            intro x56 e55
            have h := h x56 e55
            obtain ⟨b57, e58, h⟩ := h
            refine ⟨b57, e58, ?_⟩
            obtain ⟨c59, h⟩ := h
            refine ⟨c59, ?_⟩
            have n60 := ob_nq oc c59 (by decide)
            refine cm_X10_minutes (kg_X10_minutes h) h (fun x61 x62 p64 h g63 => ?_)
            have h := h g63
            have oc := gr_ob p64.2.1 oc
            refine ⟨?_, ?_⟩
            · intro c65
              have h := h.1 c65
              refine cm_X11_keeps (kg_X11_keeps h) h (fun x66 p68 h g67 => ?_)
              have h := h g67
              have oc := gr_ob p68.2.1 oc
              exact nf_X11_go_119 h oc
            · intro c69
              have h := h.2 c69
              refine cm_X11_refused (nf_X11_refused h oc) h (fun x70 x71 p73 h g72 => ?_)
              have h := h g72
              have N := p73.2
              have oc := N.1
              exact ⟨h, N⟩
          · intro c74
            have h := h.2 c74
            refine cm_X11_refused (nf_X11_refused h oc) h (fun x75 x76 p78 h g77 => ?_)
            have h := h g77
            have N := p78.2
            have oc := N.1
            exact ⟨h, N⟩
        · intro c79
          have h := h.2 c79
          refine cm_X11_refused (nf_X11_refused h oc) h (fun x80 x81 p83 h g82 => ?_)
          have h := h g82
          have N := p83.2
          have oc := N.1
          exact ⟨h, N⟩
      · intro c84
        have h := h.2 c84
        exact nf_X11_go_29 h oc
theorem nf_X11_go {Q : Int32 → HS → Prop} {v0 : Nat} {v1 : Int32} {v2 : Int32} {v3 : Int32} {S : HS} (h : P_X11_go v0 v1 v2 v3 Q S) (oc : ob S v0 11) : P_X11_go v0 v1 v2 v3 (fun r T => Q r T ∧ NFq 11 2 c11 v0 T) S := nf_X11_go_0 h oc
set_option maxRecDepth 20000 in
set_option maxHeartbeats 1000000 in
theorem nf_X11_got_40 {Q : Int64 → HS → Prop} {v0 : Nat} {S : HS} (h : P_X11_got_40 Q v0 S) (oc : ob S v0 11) : P_X11_got_40 (fun r T => Q r T ∧ NFq 11 2 c11 v0 T) v0 S := by
  delta P_X11_got_40 at h ⊢
  obtain ⟨c1, h⟩ := h
  refine ⟨c1, ?_⟩
  refine cm_X11_refused (nf_X11_refused h oc) h (fun x2 x3 p5 h g4 => ?_)
  have h := h g4
  have N := p5.2
  have oc := N.1
  exact ⟨h, N⟩
set_option maxRecDepth 20000 in
set_option maxHeartbeats 1000000 in
theorem nf_X11_got_0 {Q : Int64 → HS → Prop} {v0 : Nat} {v1 : Int32} {v2 : Int32} {S : HS} (h : P_X11_got_0 Q v0 v1 v2 S) (oc : ob S v0 11) : P_X11_got_0 (fun r T => Q r T ∧ NFq 11 2 c11 v0 T) v0 v1 v2 S := by
  delta P_X11_got_0 at h ⊢
  obtain ⟨c1, h⟩ := h
  refine ⟨c1, ?_⟩
  intro x3 e2
  have h := h x3 e2
  have oc := ob_wI oc e2
  refine cm_X11_isDay (kg_X11_isDay h) h (fun x4 x5 p8 h g6 g7 => ?_)
  have h := h g6 g7
  have oc := gr_ob p8.2.1 oc
  refine ⟨?_, ?_⟩
  · intro c9
    have h := h.1 c9
    exact nf_X11_got_40 h oc
  · intro c10
    have h := h.2 c10
    refine cm_X11_in (kg_X11_in h) h (fun x11 x12 p15 h g13 g14 => ?_)
    have h := h g13 g14
    have oc := gr_ob p15.2.1 oc
    refine ⟨?_, ?_⟩
    · intro c16
      have h := h.1 c16
      exact nf_X11_got_40 h oc
    · intro c17
      have h := h.2 c17
      obtain ⟨b18, e19, h⟩ := h
      refine ⟨b18, e19, ?_⟩
      obtain ⟨c20, h⟩ := h
      refine ⟨c20, ?_⟩
      have n21 := ob_nq oc c20 (by decide)
      intro x23 e22
      have h := h x23 e22
      obtain ⟨c24, h⟩ := h
      refine ⟨c24, ?_⟩
      intro x26 e25
      have h := h x26 e25
      refine cm_X11_told (nf_X11_told h oc) h (fun x27 x28 p30 h g29 => ?_)
      have h := h g29
      have N := p30.2
      have oc := N.1
      exact ⟨h, N⟩
theorem nf_X11_got {Q : Int64 → HS → Prop} {v0 : Nat} {v1 : Int32} {v2 : Int32} {S : HS} (h : P_X11_got v0 v1 v2 Q S) (oc : ob S v0 11) : P_X11_got v0 v1 v2 (fun r T => Q r T ∧ NFq 11 2 c11 v0 T) S := nf_X11_got_0 h oc
set_option maxRecDepth 20000 in
set_option maxHeartbeats 1000000 in
theorem nf_X11_held_68 {Q : Int32 → HS → Prop} {s0 : Nat} {s1 : Int32} {v0 : Nat} {S : HS} (h : P_X11_held_68 Q s0 s1 S) (oc : ob S v0 11) (q_s0 : s0 = v0) : P_X11_held_68 (fun r T => Q r T ∧ NFq 11 2 c11 v0 T) s0 s1 S := by
  delta P_X11_held_68 at h ⊢
  subst q_s0
  obtain ⟨c1, h⟩ := h
  refine ⟨c1, ?_⟩
  refine cm_X11_good (nf_X11_good h oc) h (fun x2 x3 p5 h g4 => ?_)
  have h := h g4
  have N := p5.2
  have oc := N.1
  exact ⟨h, N⟩
set_option maxRecDepth 20000 in
set_option maxHeartbeats 1000000 in
theorem nf_X11_held_0 {Q : Int32 → HS → Prop} {v0 : Nat} {v1 : Int32} {v2 : Int32} {v3 : Int32} {v4 : Int32} {v5 : Int32} {S : HS} (h : P_X11_held_0 Q v0 v1 v2 v3 v4 v5 S) (oc : ob S v0 11) : P_X11_held_0 (fun r T => Q r T ∧ NFq 11 2 c11 v0 T) v0 v1 v2 v3 v4 v5 S := by
  delta P_X11_held_0 at h ⊢
  obtain ⟨c1, h⟩ := h
  refine ⟨c1, ?_⟩
  intro x3 e2
  have h := h x3 e2
  have oc := ob_wI oc e2
  refine cm_X11_refuses (kg_X11_refuses h) h (fun x4 x5 p7 h g6 => ?_)
  have h := h g6
  have oc := gr_ob p7.2.1 oc
  refine ⟨?_, ?_⟩
  · intro c8
    have h := h.1 c8
    obtain ⟨b9, e10, h⟩ := h
    refine ⟨b9, e10, ?_⟩
    obtain ⟨c11, h⟩ := h
    refine ⟨c11, ?_⟩
    have n12 := ob_nq oc c11 (by decide)
    obtain ⟨b13, e14, h⟩ := h
    refine ⟨b13, e14, ?_⟩
    obtain ⟨c15, h⟩ := h
    refine ⟨c15, ?_⟩
    have n16 := ob_nq oc c15 (by decide)
    obtain ⟨c17, h⟩ := h
    refine ⟨c17, ?_⟩
    intro x19 e18
    have h := h x19 e18
    refine ⟨?_, ?_⟩
    · intro c20
      have h := h.1 c20
      refine cm_X11_isForward (kg_X11_isForward h) h (fun x21 x22 p25 h g23 g24 => ?_)
      have h := h g23 g24
      have oc := gr_ob p25.2.1 oc
      refine ⟨?_, ?_⟩
      · intro c26
        have h := h.1 c26
        exact nf_X11_held_68 h oc rfl
      · intro c27
        have h := h.2 c27
        exact nf_X11_held_68 h oc rfl
    · intro c28
      have h := h.2 c28
      exact nf_X11_held_68 h oc rfl
  · intro c29
    have h := h.2 c29
    refine cm_X11_refused (nf_X11_refused h oc) h (fun x30 x31 p33 h g32 => ?_)
    have h := h g32
    have N := p33.2
    have oc := N.1
    exact ⟨h, N⟩
theorem nf_X11_held {Q : Int32 → HS → Prop} {v0 : Nat} {v1 : Int32} {v2 : Int32} {v3 : Int32} {v4 : Int32} {v5 : Int32} {S : HS} (h : P_X11_held v0 v1 v2 v3 v4 v5 Q S) (oc : ob S v0 11) : P_X11_held v0 v1 v2 v3 v4 v5 (fun r T => Q r T ∧ NFq 11 2 c11 v0 T) S := nf_X11_held_0 h oc
set_option maxRecDepth 20000 in
set_option maxHeartbeats 1000000 in
theorem nf_X11_least_0 {Q : Int64 → HS → Prop} {v0 : Nat} {v1 : Int32} {v2 : Int32} {v3 : Int32} {v4 : Int32} {v5 : Int32} {v6 : Int32} {S : HS} (h : P_X11_least_0 Q v0 v1 v2 v3 v4 v5 v6 S) (oc : ob S v0 11) : P_X11_least_0 (fun r T => Q r T ∧ NFq 11 2 c11 v0 T) v0 v1 v2 v3 v4 v5 v6 S := by
  delta P_X11_least_0 at h ⊢
  obtain ⟨c1, h⟩ := h
  refine ⟨c1, ?_⟩
  intro x3 e2
  have h := h x3 e2
  have oc := ob_wI oc e2
  refine cm_X11_refusesWay (kg_X11_refusesWay h) h (fun x4 x5 p7 h g6 => ?_)
  have h := h g6
  have oc := gr_ob p7.2.1 oc
  refine ⟨?_, ?_⟩
  · intro c8
    have h := h.1 c8
    obtain ⟨b9, e10, h⟩ := h
    refine ⟨b9, e10, ?_⟩
    refine cm_X11_spotOf (kg_X11_spotOf h) h (fun x11 x12 p14 h g13 => ?_)
    have h := h g13
    have oc := gr_ob p14.2.1 oc
    obtain ⟨c15, h⟩ := h
    refine ⟨c15, ?_⟩
    have n16 := ob_nq oc c15 (by decide)
    obtain ⟨c17, h⟩ := h
    refine ⟨c17, ?_⟩
    intro x19 e18
    have h := h x19 e18
    refine cm_X11_told (nf_X11_told h oc) h (fun x20 x21 p23 h g22 => ?_)
    have h := h g22
    have N := p23.2
    have oc := N.1
    exact ⟨h, N⟩
  · intro c24
    have h := h.2 c24
    refine cm_X11_refused (nf_X11_refused h oc) h (fun x25 x26 p28 h g27 => ?_)
    have h := h g27
    have N := p28.2
    have oc := N.1
    exact ⟨h, N⟩
theorem nf_X11_least {Q : Int64 → HS → Prop} {v0 : Nat} {v1 : Int32} {v2 : Int32} {v3 : Int32} {v4 : Int32} {v5 : Int32} {v6 : Int32} {S : HS} (h : P_X11_least v0 v1 v2 v3 v4 v5 v6 Q S) (oc : ob S v0 11) : P_X11_least v0 v1 v2 v3 v4 v5 v6 (fun r T => Q r T ∧ NFq 11 2 c11 v0 T) S := nf_X11_least_0 h oc
set_option maxRecDepth 20000 in
set_option maxHeartbeats 1000000 in
theorem nf_X11_lee_0 {Q : Int64 → HS → Prop} {v0 : Nat} {v1 : Int32} {v2 : Int32} {v3 : Int32} {v4 : Int32} {v5 : Int32} {v6 : Int32} {v7 : Int32} {S : HS} (h : P_X11_lee_0 Q v0 v1 v2 v3 v4 v5 v6 v7 S) (oc : ob S v0 11) : P_X11_lee_0 (fun r T => Q r T ∧ NFq 11 2 c11 v0 T) v0 v1 v2 v3 v4 v5 v6 v7 S := by
  delta P_X11_lee_0 at h ⊢
  obtain ⟨c1, h⟩ := h
  refine ⟨c1, ?_⟩
  intro x3 e2
  have h := h x3 e2
  have oc := ob_wI oc e2
  refine cm_X11_refusesTwo (kg_X11_refusesTwo h) h (fun x4 x5 p7 h g6 => ?_)
  have h := h g6
  have oc := gr_ob p7.2.1 oc
  refine ⟨?_, ?_⟩
  · intro c8
    have h := h.1 c8
    refine cm_X11_together (kg_X11_together h) h (fun x9 x10 p12 h g11 => ?_)
    have h := h g11
    have oc := gr_ob p12.2.1 oc
    refine cm_X11_told (nf_X11_told h oc) h (fun x13 x14 p16 h g15 => ?_)
    have h := h g15
    have N := p16.2
    have oc := N.1
    exact ⟨h, N⟩
  · intro c17
    have h := h.2 c17
    refine cm_X11_refused (nf_X11_refused h oc) h (fun x18 x19 p21 h g20 => ?_)
    have h := h g20
    have N := p21.2
    have oc := N.1
    exact ⟨h, N⟩
theorem nf_X11_lee {Q : Int64 → HS → Prop} {v0 : Nat} {v1 : Int32} {v2 : Int32} {v3 : Int32} {v4 : Int32} {v5 : Int32} {v6 : Int32} {v7 : Int32} {S : HS} (h : P_X11_lee v0 v1 v2 v3 v4 v5 v6 v7 Q S) (oc : ob S v0 11) : P_X11_lee v0 v1 v2 v3 v4 v5 v6 v7 (fun r T => Q r T ∧ NFq 11 2 c11 v0 T) S := nf_X11_lee_0 h oc
set_option maxRecDepth 20000 in
set_option maxHeartbeats 1000000 in
theorem nf_X11_lies_50 {Q : Int32 → HS → Prop} {X22 X22_2 : Nat → Int32 → Int32 → HS → Prop} {v0 : Nat} {v2 : Int32} {s0 : Int32} {s1 : Int32} {S : HS} (h : P_X11_lies_50 Q X22 v0 v2 s0 s1 S) (oc : ob S v0 11) (hX22 : ∀ (u0 : Nat) (u1 : Int32) (u2 : Int32) (u3 : HS), X22 u0 u1 u2 u3 → u0 = v0 → ob u3 v0 11 → X22_2 u0 u1 u2 u3) : P_X11_lies_50 (fun r T => Q r T ∧ NFq 11 2 c11 v0 T) X22_2 v0 v2 s0 s1 S := by
  delta P_X11_lies_50 at h ⊢
  intro x2 e1
  have h := h x2 e1
  intro x4 e3
  have h := h x4 e3
  exact hX22 _ _ _ _ h rfl oc
set_option maxRecDepth 20000 in
set_option maxHeartbeats 1000000 in
theorem nfB_X11_lies_22 {Q : Int32 → HS → Prop} {X22 X22_2 : Nat → Int32 → Int32 → HS → Prop} {v0 : Nat} {v1 : Int32} {v2 : Int32} {S : HS} (h : B_X11_lies_22 Q X22 v0 v1 v2 S) (oc : ob S v0 11) (hX22 : ∀ (u0 : Nat) (u1 : Int32) (u2 : Int32) (u3 : HS), X22 u0 u1 u2 u3 → u0 = v0 → ob u3 v0 11 → X22_2 u0 u1 u2 u3) : B_X11_lies_22 (fun r T => Q r T ∧ NFq 11 2 c11 v0 T) X22_2 v0 v1 v2 S := by
  delta B_X11_lies_22 at h ⊢
  obtain ⟨c1, h⟩ := h
  refine ⟨c1, ?_⟩
  obtain ⟨b2, e3, h⟩ := h
  refine ⟨b2, e3, ?_⟩
  obtain ⟨c4, h⟩ := h
  refine ⟨c4, ?_⟩
  have n5 := ob_nq oc c4 (by decide)
  intro x7 e6
  have h := h x7 e6
  refine ⟨?_, ?_⟩
  · intro c8
    have h := h.1 c8
    refine cm_X11_good (nf_X11_good h oc) h (fun x9 x10 p12 h g11 => ?_)
    have h := h g11
    have N := p12.2
    have oc := N.1
    exact ⟨h, N⟩
  · intro c13
    have h := h.2 c13
    refine cm_X11_fitOf (kg_X11_fitOf h) h (fun x14 x15 p17 h g16 => ?_)
    have h := h g16
    have oc := gr_ob p17.2.1 oc
    refine ⟨?_, ?_⟩
    · intro c18
      have h := h.1 c18
      exact nf_X11_lies_50 h oc hX22
    · intro c19
      have h := h.2 c19
      exact nf_X11_lies_50 h oc hX22
theorem nf_X11_lies_22 {Q : Int32 → HS → Prop} {v0 : Nat} {v1 : Int32} {v2 : Int32} {S : HS} (h : P_X11_lies_22 Q v0 v1 v2 S) (oc : ob S v0 11) : P_X11_lies_22 (fun r T => Q r T ∧ NFq 11 2 c11 v0 T) v0 v1 v2 S := h (fun w0 v1 v2 S => w0 = v0 → ob S v0 11 → P_X11_lies_22 (fun r T => Q r T ∧ NFq 11 2 c11 v0 T) w0 v1 v2 S) (fun w0 v1 v2 S hB e oc => by
  subst e; exact fd_X11_lies_22 (nfB_X11_lies_22 hB oc (fun _ _ _ _ hx e oc => hx e oc))) rfl oc
set_option maxRecDepth 20000 in
set_option maxHeartbeats 1000000 in
theorem nf_X11_lies_0 {Q : Int32 → HS → Prop} {v0 : Nat} {S : HS} (h : P_X11_lies_0 Q v0 S) (oc : ob S v0 11) : P_X11_lies_0 (fun r T => Q r T ∧ NFq 11 2 c11 v0 T) v0 S := by
  delta P_X11_lies_0 at h ⊢
  obtain ⟨c1, h⟩ := h
  refine ⟨c1, ?_⟩
  intro x3 e2
  have h := h x3 e2
  have oc := ob_wI oc e2
  refine ⟨?_, ?_⟩
  · intro c4
    have h := h.1 c4
    refine cm_X11_refused (nf_X11_refused h oc) h (fun x5 x6 p8 h g7 => ?_)
    have h := h g7
    have N := p8.2
    have oc := N.1
    exact ⟨h, N⟩
  · intro x9 c10
    have h := h.2 x9 c10
    exact nf_X11_lies_22 h oc
theorem nf_X11_lies {Q : Int32 → HS → Prop} {v0 : Nat} {S : HS} (h : P_X11_lies v0 Q S) (oc : ob S v0 11) : P_X11_lies v0 (fun r T => Q r T ∧ NFq 11 2 c11 v0 T) S := nf_X11_lies_0 h oc
set_option maxRecDepth 20000 in
set_option maxHeartbeats 1000000 in
theorem nfB_X11_mark_34 {Q : Int32 → HS → Prop} {X34 X34_2 : Nat → Int32 → HS → Prop} {v0 : Nat} {v1 : Int32} {S : HS} (h : B_X11_mark_34 Q X34 v0 v1 S) (oc : ob S v0 11) (hX34 : ∀ (u0 : Nat) (u1 : Int32) (u2 : HS), X34 u0 u1 u2 → u0 = v0 → ob u2 v0 11 → X34_2 u0 u1 u2) : B_X11_mark_34 (fun r T => Q r T ∧ NFq 11 2 c11 v0 T) X34_2 v0 v1 S := by
  delta B_X11_mark_34 at h ⊢
  refine ⟨?_, ?_⟩
  · intro c1
    have h := h.1 c1
    obtain ⟨c2, h⟩ := h
    refine ⟨c2, ?_⟩
    intro x4 e3
    have h := h x4 e3
    intro x6 e5
    have h := h x6 e5
    intro x8 e7
    have h := h x8 e7
    have oc := ob_wI oc e7
    intro x10 e9
    have h := h x10 e9
    refine cm_X11_good (nf_X11_good h oc) h (fun x11 x12 p14 h g13 => ?_)
    have h := h g13
    have N := p14.2
    have oc := N.1
    exact ⟨h, N⟩
  · intro c15
    have h := h.2 c15
    obtain ⟨c16, h⟩ := h
    refine ⟨c16, ?_⟩
    obtain ⟨b17, e18, h⟩ := h
    refine ⟨b17, e18, ?_⟩
    intro x20 e19
    have h := h x20 e19
    obtain ⟨b21, e22, h⟩ := h
    refine ⟨b21, e22, ?_⟩
    obtain ⟨c23, h⟩ := h
    refine ⟨c23, ?_⟩
    have n24 := ob_nq oc c23 (by decide)
    obtain ⟨c25, h⟩ := h
    refine ⟨c25, ?_⟩
    intro x27 e26
    have h := h x27 e26
    obtain ⟨c28, h⟩ := h
    refine ⟨c28, ?_⟩
    have n29 := ob_nq oc c28 (by decide)
    obtain ⟨c30, h⟩ := h
    refine ⟨c30, ?_⟩
    intro x32 e31
    have h := h x32 e31
    have oc := ob_wJ oc e31
    intro x34 e33
    have h := h x34 e33
    exact hX34 _ _ _ h rfl oc
theorem nf_X11_mark_34 {Q : Int32 → HS → Prop} {v0 : Nat} {v1 : Int32} {S : HS} (h : P_X11_mark_34 Q v0 v1 S) (oc : ob S v0 11) : P_X11_mark_34 (fun r T => Q r T ∧ NFq 11 2 c11 v0 T) v0 v1 S := h (fun w0 v1 S => w0 = v0 → ob S v0 11 → P_X11_mark_34 (fun r T => Q r T ∧ NFq 11 2 c11 v0 T) w0 v1 S) (fun w0 v1 S hB e oc => by
  subst e; exact fd_X11_mark_34 (nfB_X11_mark_34 hB oc (fun _ _ _ hx e oc => hx e oc))) rfl oc
set_option maxRecDepth 20000 in
set_option maxHeartbeats 1000000 in
theorem nf_X11_mark_0 {Q : Int32 → HS → Prop} {v0 : Nat} {S : HS} (h : P_X11_mark_0 Q v0 S) (oc : ob S v0 11) : P_X11_mark_0 (fun r T => Q r T ∧ NFq 11 2 c11 v0 T) v0 S := by
  delta P_X11_mark_0 at h ⊢
  obtain ⟨c1, h⟩ := h
  refine ⟨c1, ?_⟩
  intro x3 e2
  have h := h x3 e2
  have oc := ob_wI oc e2
  refine cm_X11_isDay (kg_X11_isDay h) h (fun x4 x5 p8 h g6 g7 => ?_)
  have h := h g6 g7
  have oc := gr_ob p8.2.1 oc
  refine ⟨?_, ?_⟩
  · intro c9
    have h := h.1 c9
    intro x11 e10
    have h := h x11 e10
    refine ⟨?_, ?_⟩
    · intro c12
      have h := h.1 c12
      exact nf_X11_mark_34 h oc
    · intro c13
      have h := h.2 c13
      refine cm_X11_refused (nf_X11_refused h oc) h (fun x14 x15 p17 h g16 => ?_)
      have h := h g16
      have N := p17.2
      have oc := N.1
      exact ⟨h, N⟩
  · intro c18
    have h := h.2 c18
    refine cm_X11_refused (nf_X11_refused h oc) h (fun x19 x20 p22 h g21 => ?_)
    have h := h g21
    have N := p22.2
    have oc := N.1
    exact ⟨h, N⟩
theorem nf_X11_mark {Q : Int32 → HS → Prop} {v0 : Nat} {S : HS} (h : P_X11_mark v0 Q S) (oc : ob S v0 11) : P_X11_mark v0 (fun r T => Q r T ∧ NFq 11 2 c11 v0 T) S := nf_X11_mark_0 h oc
set_option maxRecDepth 20000 in
set_option maxHeartbeats 1000000 in
theorem nf_X11_mean_0 {Q : Int64 → HS → Prop} {v0 : Nat} {v1 : Int32} {v2 : Int32} {v3 : Int32} {v4 : Int32} {v5 : Int32} {v6 : Int32} {S : HS} (h : P_X11_mean_0 Q v0 v1 v2 v3 v4 v5 v6 S) (oc : ob S v0 11) : P_X11_mean_0 (fun r T => Q r T ∧ NFq 11 2 c11 v0 T) v0 v1 v2 v3 v4 v5 v6 S := by
  delta P_X11_mean_0 at h ⊢
  obtain ⟨c1, h⟩ := h
  refine ⟨c1, ?_⟩
  intro x3 e2
  have h := h x3 e2
  have oc := ob_wI oc e2
  refine cm_X11_refuses (kg_X11_refuses h) h (fun x4 x5 p7 h g6 => ?_)
  have h := h g6
  have oc := gr_ob p7.2.1 oc
  refine ⟨?_, ?_⟩
  · intro c8
    have h := h.1 c8
    refine cm_X11_wetOf (kg_X11_wetOf h) h (fun x9 x10 p12 h g11 => ?_)
    have h := h g11
    have oc := gr_ob p12.2.1 oc
    obtain ⟨b13, e14, h⟩ := h
    refine ⟨b13, e14, ?_⟩
    obtain ⟨c15, h⟩ := h
    refine ⟨c15, ?_⟩
    have n16 := ob_nq oc c15 (by decide)
    obtain ⟨b17, e18, h⟩ := h
    refine ⟨b17, e18, ?_⟩
    obtain ⟨c19, h⟩ := h
    refine ⟨c19, ?_⟩
    have n20 := ob_nq oc c19 (by decide)
    obtain ⟨c21, h⟩ := h
    refine ⟨c21, ?_⟩
    intro x23 e22
    have h := h x23 e22
    refine cm_X11_told (nf_X11_told h oc) h (fun x24 x25 p27 h g26 => ?_)
    have h := h g26
    have N := p27.2
    have oc := N.1
    exact ⟨h, N⟩
  · intro c28
    have h := h.2 c28
    refine cm_X11_refused (nf_X11_refused h oc) h (fun x29 x30 p32 h g31 => ?_)
    have h := h g31
    have N := p32.2
    have oc := N.1
    exact ⟨h, N⟩
theorem nf_X11_mean {Q : Int64 → HS → Prop} {v0 : Nat} {v1 : Int32} {v2 : Int32} {v3 : Int32} {v4 : Int32} {v5 : Int32} {v6 : Int32} {S : HS} (h : P_X11_mean v0 v1 v2 v3 v4 v5 v6 Q S) (oc : ob S v0 11) : P_X11_mean v0 v1 v2 v3 v4 v5 v6 (fun r T => Q r T ∧ NFq 11 2 c11 v0 T) S := nf_X11_mean_0 h oc
set_option maxRecDepth 20000 in
set_option maxHeartbeats 1000000 in
theorem nf_X11_minutes_21 {Q : Int32 → HS → Prop} {v0 : Nat} {S : HS} (h : P_X11_minutes_21 Q v0 S) (oc : ob S v0 11) : P_X11_minutes_21 (fun r T => Q r T ∧ NFq 11 2 c11 v0 T) v0 S := by
  delta P_X11_minutes_21 at h ⊢
  obtain ⟨c1, h⟩ := h
  refine ⟨c1, ?_⟩
  refine cm_X11_refused (nf_X11_refused h oc) h (fun x2 x3 p5 h g4 => ?_)
  have h := h g4
  have N := p5.2
  have oc := N.1
  exact ⟨h, N⟩
set_option maxRecDepth 20000 in
set_option maxHeartbeats 1000000 in
theorem nf_X11_minutes_0 {Q : Int32 → HS → Prop} {v0 : Nat} {v1 : Int32} {v2 : Int32} {v3 : Int32} {S : HS} (h : P_X11_minutes_0 Q v0 v1 v2 v3 S) (oc : ob S v0 11) : P_X11_minutes_0 (fun r T => Q r T ∧ NFq 11 2 c11 v0 T) v0 v1 v2 v3 S := by
  delta P_X11_minutes_0 at h ⊢
  obtain ⟨c1, h⟩ := h
  refine ⟨c1, ?_⟩
  intro x3 e2
  have h := h x3 e2
  have oc := ob_wI oc e2
  refine cm_X11_isWalker (kg_X11_isWalker h) h (fun x4 x5 p8 h g6 g7 => ?_)
  have h := h g6 g7
  have oc := gr_ob p8.2.1 oc
  refine ⟨?_, ?_⟩
  · intro c9
    have h := h.1 c9
    exact nf_X11_minutes_21 h oc
  · intro c10
    have h := h.2 c10
    refine cm_X11_isRoad (kg_X11_isRoad h) h (fun x11 x12 p15 h g13 g14 => ?_)
    have h := h g13 g14
    have oc := gr_ob p15.2.1 oc
    refine ⟨?_, ?_⟩
    · intro c16
      have h := h.1 c16
      refine cm_X11_isSpeed (kg_X11_isSpeed h) h (fun x17 x18 p21 h g19 g20 => ?_)
      have h := h g19 g20
      have oc := gr_ob p21.2.1 oc
      refine ⟨?_, ?_⟩
      · intro c22
        have h := h.1 c22
        refine cm_X11_refused (nf_X11_refused h oc) h (fun x23 x24 p26 h g25 => ?_)
        have h := h g25
        have N := p26.2
        have oc := N.1
        exact ⟨h, N⟩
      · intro c27
        have h := h.2 c27
        obtain ⟨b28, e29, h⟩ := h
        refine ⟨b28, e29, ?_⟩
        obtain ⟨c30, h⟩ := h
        refine ⟨c30, ?_⟩
        have n31 := ob_nq oc c30 (by decide)
        refine cm_X10_minutes (kg_X10_minutes h) h (fun x32 x33 p35 h g34 => ?_)
        have h := h g34
        have oc := gr_ob p35.2.1 oc
        refine cm_X11_good (nf_X11_good h oc) h (fun x36 x37 p39 h g38 => ?_)
        have h := h g38
        have N := p39.2
        have oc := N.1
        exact ⟨h, N⟩
    · intro c40
      have h := h.2 c40
      exact nf_X11_minutes_21 h oc
theorem nf_X11_minutes {Q : Int32 → HS → Prop} {v0 : Nat} {v1 : Int32} {v2 : Int32} {v3 : Int32} {S : HS} (h : P_X11_minutes v0 v1 v2 v3 Q S) (oc : ob S v0 11) : P_X11_minutes v0 v1 v2 v3 (fun r T => Q r T ∧ NFq 11 2 c11 v0 T) S := nf_X11_minutes_0 h oc
set_option maxRecDepth 20000 in
set_option maxHeartbeats 1000000 in
theorem nf_X11_off_29 {Q : Int32 → HS → Prop} {v0 : Nat} {S : HS} (h : P_X11_off_29 Q v0 S) (oc : ob S v0 11) : P_X11_off_29 (fun r T => Q r T ∧ NFq 11 2 c11 v0 T) v0 S := by
  delta P_X11_off_29 at h ⊢
  obtain ⟨c1, h⟩ := h
  refine ⟨c1, ?_⟩
  refine cm_X11_refused (nf_X11_refused h oc) h (fun x2 x3 p5 h g4 => ?_)
  have h := h g4
  have N := p5.2
  have oc := N.1
  exact ⟨h, N⟩
set_option maxRecDepth 20000 in
set_option maxHeartbeats 1000000 in
theorem nf_X11_off_128 {Q : Int32 → HS → Prop} {X67 X67_2 : Nat → Int32 → Int32 → Int32 → Int32 → HS → Prop} {v0 : Nat} {v2 : Int32} {v4 : Int32} {v5 : Int32} {v6 : Int32} {S : HS} (h : P_X11_off_128 Q X67 v0 v2 v4 v5 v6 S) (oc : ob S v0 11) (hX67 : ∀ (u0 : Nat) (u1 : Int32) (u2 : Int32) (u3 : Int32) (u4 : Int32) (u5 : HS), X67 u0 u1 u2 u3 u4 u5 → u0 = v0 → ob u5 v0 11 → X67_2 u0 u1 u2 u3 u4 u5) : P_X11_off_128 (fun r T => Q r T ∧ NFq 11 2 c11 v0 T) X67_2 v0 v2 v4 v5 v6 S := by
  delta P_X11_off_128 at h ⊢
  intro x2 e1
  have h := h x2 e1
  exact hX67 _ _ _ _ _ _ h rfl oc
set_option maxRecDepth 20000 in
set_option maxHeartbeats 1000000 in
theorem nf_X11_off_124 {Q : Int32 → HS → Prop} {X67 X67_2 : Nat → Int32 → Int32 → Int32 → Int32 → HS → Prop} {v0 : Nat} {v2 : Int32} {v4 : Int32} {v6 : Int32} {S : HS} (h : P_X11_off_124 Q X67 v0 v2 v4 v6 S) (oc : ob S v0 11) (hX67 : ∀ (u0 : Nat) (u1 : Int32) (u2 : Int32) (u3 : Int32) (u4 : Int32) (u5 : HS), X67 u0 u1 u2 u3 u4 u5 → u0 = v0 → ob u5 v0 11 → X67_2 u0 u1 u2 u3 u4 u5) : P_X11_off_124 (fun r T => Q r T ∧ NFq 11 2 c11 v0 T) X67_2 v0 v2 v4 v6 S := by
  delta P_X11_off_124 at h ⊢
  exact nf_X11_off_128 h oc hX67
set_option maxRecDepth 20000 in
set_option maxHeartbeats 1000000 in
theorem nfB_X11_off_67 {Q : Int32 → HS → Prop} {X67 X67_2 : Nat → Int32 → Int32 → Int32 → Int32 → HS → Prop} {v0 : Nat} {v2 : Int32} {v4 : Int32} {v5 : Int32} {v6 : Int32} {S : HS} (h : B_X11_off_67 Q X67 v0 v2 v4 v5 v6 S) (oc : ob S v0 11) (hX67 : ∀ (u0 : Nat) (u1 : Int32) (u2 : Int32) (u3 : Int32) (u4 : Int32) (u5 : HS), X67 u0 u1 u2 u3 u4 u5 → u0 = v0 → ob u5 v0 11 → X67_2 u0 u1 u2 u3 u4 u5) : B_X11_off_67 (fun r T => Q r T ∧ NFq 11 2 c11 v0 T) X67_2 v0 v2 v4 v5 v6 S := by
  delta B_X11_off_67 at h ⊢
  refine ⟨?_, ?_⟩
  · intro c1
    have h := h.1 c1
    refine ⟨?_, ?_⟩
    · intro c2
      have h := h.1 c2
      obtain ⟨c3, h⟩ := h
      refine ⟨c3, ?_⟩
      refine cm_X11_good (nf_X11_good h oc) h (fun x4 x5 p7 h g6 => ?_)
      have h := h g6
      have N := p7.2
      have oc := N.1
      exact ⟨h, N⟩
    · intro c8
      have h := h.2 c8
      obtain ⟨c9, h⟩ := h
      refine ⟨c9, ?_⟩
      refine cm_X11_refused (nf_X11_refused h oc) h (fun x10 x11 p13 h g12 => ?_)
      have h := h g12
      have N := p13.2
      have oc := N.1
      exact ⟨h, N⟩
  · intro c14
    have h := h.2 c14
    obtain ⟨c15, h⟩ := h
    refine ⟨c15, ?_⟩
    obtain ⟨b16, e17, h⟩ := h
    refine ⟨b16, e17, ?_⟩
    refine cm_X11_spotOf (kg_X11_spotOf h) h (fun x18 x19 p21 h g20 => ?_)
    have h := h g20
    have oc := gr_ob p21.2.1 oc
    obtain ⟨c22, h⟩ := h
    refine ⟨c22, ?_⟩
    have n23 := ob_nq oc c22 (by decide)
    obtain ⟨c24, h⟩ := h
    refine ⟨c24, ?_⟩
    intro x26 e25
    have h := h x26 e25
    refine ⟨?_, ?_⟩
    · intro c27
      have h := h.1 c27
      exact nf_X11_off_128 h oc hX67
    · intro c28
      have h := h.2 c28
      refine ⟨?_, ?_⟩
      · intro c29
        have h := h.1 c29
        exact nf_X11_off_124 h oc hX67
      · intro c30
        have h := h.2 c30
        obtain ⟨b31, e32, h⟩ := h
        refine ⟨b31, e32, ?_⟩
        refine cm_X11_spotOf (kg_X11_spotOf h) h (fun x33 x34 p36 h g35 => ?_)
        have h := h g35
        have oc := gr_ob p36.2.1 oc
        obtain ⟨c37, h⟩ := h
        refine ⟨c37, ?_⟩
        have n38 := ob_nq oc c37 (by decide)
        obtain ⟨c39, h⟩ := h
        refine ⟨c39, ?_⟩
        intro x41 e40
        have h := h x41 e40
        obtain ⟨b42, e43, h⟩ := h
        refine ⟨b42, e43, ?_⟩
        refine cm_X11_spotOf (kg_X11_spotOf h) h (fun x44 x45 p47 h g46 => ?_)
        have h := h g46
        have oc := gr_ob p47.2.1 oc
        obtain ⟨c48, h⟩ := h
        refine ⟨c48, ?_⟩
        have n49 := ob_nq oc c48 (by decide)
        obtain ⟨c50, h⟩ := h
        refine ⟨c50, ?_⟩
        intro x52 e51
        have h := h x52 e51
        refine ⟨?_, ?_⟩
        · intro c53
          have h := h.1 c53
          exact nf_X11_off_128 h oc hX67
        · intro c54
          have h := h.2 c54
          exact nf_X11_off_124 h oc hX67
theorem nf_X11_off_67 {Q : Int32 → HS → Prop} {v0 : Nat} {v2 : Int32} {v4 : Int32} {v5 : Int32} {v6 : Int32} {S : HS} (h : P_X11_off_67 Q v0 v2 v4 v5 v6 S) (oc : ob S v0 11) : P_X11_off_67 (fun r T => Q r T ∧ NFq 11 2 c11 v0 T) v0 v2 v4 v5 v6 S := h (fun w0 v2 v4 v5 v6 S => w0 = v0 → ob S v0 11 → P_X11_off_67 (fun r T => Q r T ∧ NFq 11 2 c11 v0 T) w0 v2 v4 v5 v6 S) (fun w0 v2 v4 v5 v6 S hB e oc => by
  subst e; exact fd_X11_off_67 (nfB_X11_off_67 hB oc (fun _ _ _ _ _ _ hx e oc => hx e oc))) rfl oc
set_option maxRecDepth 20000 in
set_option maxHeartbeats 1000000 in
theorem nf_X11_off_0 {Q : Int32 → HS → Prop} {v0 : Nat} {v1 : Int32} {v2 : Int32} {v3 : Int32} {v4 : Int32} {S : HS} (h : P_X11_off_0 Q v0 v1 v2 v3 v4 S) (oc : ob S v0 11) : P_X11_off_0 (fun r T => Q r T ∧ NFq 11 2 c11 v0 T) v0 v1 v2 v3 v4 S := by
  delta P_X11_off_0 at h ⊢
  obtain ⟨c1, h⟩ := h
  refine ⟨c1, ?_⟩
  intro x3 e2
  have h := h x3 e2
  have oc := ob_wI oc e2
  refine cm_X11_isWalker (kg_X11_isWalker h) h (fun x4 x5 p8 h g6 g7 => ?_)
  have h := h g6 g7
  have oc := gr_ob p8.2.1 oc
  refine ⟨?_, ?_⟩
  · intro c9
    have h := h.1 c9
    exact nf_X11_off_29 h oc
  · intro c10
    have h := h.2 c10
    refine cm_X11_isPlace (kg_X11_isPlace h) h (fun x11 x12 p15 h g13 g14 => ?_)
    have h := h g13 g14
    have oc := gr_ob p15.2.1 oc
    refine ⟨?_, ?_⟩
    · intro c16
      have h := h.1 c16
      exact nf_X11_off_29 h oc
    · intro c17
      have h := h.2 c17
      refine cm_X11_isPlace (kg_X11_isPlace h) h (fun x18 x19 p22 h g20 g21 => ?_)
      have h := h g20 g21
      have oc := gr_ob p22.2.1 oc
      refine ⟨?_, ?_⟩
      · intro c23
        have h := h.1 c23
        refine cm_X11_in (kg_X11_in h) h (fun x24 x25 p28 h g26 g27 => ?_)
        have h := h g26 g27
        have oc := gr_ob p28.2.1 oc
        refine ⟨?_, ?_⟩
        · intro c29
          have h := h.1 c29
          refine cm_X11_laysWays (kg_X11_laysWays h) h (fun x30 p32 h g31 => ?_)
          have h := h g31
          have oc := gr_ob p32.2.1 oc
          exact nf_X11_off_67 h oc
        · intro c33
          have h := h.2 c33
          refine cm_X11_refused (nf_X11_refused h oc) h (fun x34 x35 p37 h g36 => ?_)
          have h := h g36
          have N := p37.2
          have oc := N.1
          exact ⟨h, N⟩
      · intro c38
        have h := h.2 c38
        exact nf_X11_off_29 h oc
theorem nf_X11_off {Q : Int32 → HS → Prop} {v0 : Nat} {v1 : Int32} {v2 : Int32} {v3 : Int32} {v4 : Int32} {S : HS} (h : P_X11_off v0 v1 v2 v3 v4 Q S) (oc : ob S v0 11) : P_X11_off v0 v1 v2 v3 v4 (fun r T => Q r T ∧ NFq 11 2 c11 v0 T) S := nf_X11_off_0 h oc
set_option maxRecDepth 20000 in
set_option maxHeartbeats 1000000 in
theorem nf_X11_road_22 {Q : Int32 → HS → Prop} {v0 : Nat} {S : HS} (h : P_X11_road_22 Q v0 S) (oc : ob S v0 11) : P_X11_road_22 (fun r T => Q r T ∧ NFq 11 2 c11 v0 T) v0 S := by
  delta P_X11_road_22 at h ⊢
  obtain ⟨c1, h⟩ := h
  refine ⟨c1, ?_⟩
  refine cm_X11_refused (nf_X11_refused h oc) h (fun x2 x3 p5 h g4 => ?_)
  have h := h g4
  have N := p5.2
  have oc := N.1
  exact ⟨h, N⟩
set_option maxRecDepth 20000 in
set_option maxHeartbeats 1000000 in
theorem nf_X11_road_0 {Q : Int32 → HS → Prop} {v0 : Nat} {v1 : Int32} {v2 : Int32} {S : HS} (h : P_X11_road_0 Q v0 v1 v2 S) (oc : ob S v0 11) : P_X11_road_0 (fun r T => Q r T ∧ NFq 11 2 c11 v0 T) v0 v1 v2 S := by
  delta P_X11_road_0 at h ⊢
  obtain ⟨c1, h⟩ := h
  refine ⟨c1, ?_⟩
  intro x3 e2
  have h := h x3 e2
  have oc := ob_wI oc e2
  refine cm_X11_isRoad (kg_X11_isRoad h) h (fun x4 x5 p8 h g6 g7 => ?_)
  have h := h g6 g7
  have oc := gr_ob p8.2.1 oc
  refine ⟨?_, ?_⟩
  · intro c9
    have h := h.1 c9
    exact nf_X11_road_22 h oc
  · intro c10
    have h := h.2 c10
    refine cm_X11_in (kg_X11_in h) h (fun x11 x12 p15 h g13 g14 => ?_)
    have h := h g13 g14
    have oc := gr_ob p15.2.1 oc
    refine ⟨?_, ?_⟩
    · intro c16
      have h := h.1 c16
      refine ⟨?_, ?_, ?_, ?_, ?_⟩
      · intro c17
        have h := h.1 c17
        obtain ⟨b18, e19, h⟩ := h
        refine ⟨b18, e19, ?_⟩
        obtain ⟨c20, h⟩ := h
        refine ⟨c20, ?_⟩
        have n21 := ob_nq oc c20 (by decide)
        obtain ⟨b22, e23, h⟩ := h
        refine ⟨b22, e23, ?_⟩
        obtain ⟨c24, h⟩ := h
        refine ⟨c24, ?_⟩
        have n25 := ob_nq oc c24 (by decide)
        obtain ⟨c26, h⟩ := h
        refine ⟨c26, ?_⟩
        intro x28 e27
        have h := h x28 e27
        refine cm_X11_good (nf_X11_good h oc) h (fun x29 x30 p32 h g31 => ?_)
        have h := h g31
        have N := p32.2
        have oc := N.1
        exact ⟨h, N⟩
      · intro c33
        have h := h.2.1 c33
        obtain ⟨b34, e35, h⟩ := h
        refine ⟨b34, e35, ?_⟩
        obtain ⟨c36, h⟩ := h
        refine ⟨c36, ?_⟩
        have n37 := ob_nq oc c36 (by decide)
        obtain ⟨b38, e39, h⟩ := h
        refine ⟨b38, e39, ?_⟩
        obtain ⟨c40, h⟩ := h
        refine ⟨c40, ?_⟩
        have n41 := ob_nq oc c40 (by decide)
        obtain ⟨c42, h⟩ := h
        refine ⟨c42, ?_⟩
        intro x44 e43
        have h := h x44 e43
        refine cm_X11_good (nf_X11_good h oc) h (fun x45 x46 p48 h g47 => ?_)
        have h := h g47
        have N := p48.2
        have oc := N.1
        exact ⟨h, N⟩
      · intro c49
        have h := h.2.2.1 c49
        obtain ⟨b50, e51, h⟩ := h
        refine ⟨b50, e51, ?_⟩
        obtain ⟨c52, h⟩ := h
        refine ⟨c52, ?_⟩
        have n53 := ob_nq oc c52 (by decide)
        obtain ⟨b54, e55, h⟩ := h
        refine ⟨b54, e55, ?_⟩
        obtain ⟨c56, h⟩ := h
        refine ⟨c56, ?_⟩
        have n57 := ob_nq oc c56 (by decide)
        obtain ⟨c58, h⟩ := h
        refine ⟨c58, ?_⟩
        intro x60 e59
        have h := h x60 e59
        refine cm_X11_good (nf_X11_good h oc) h (fun x61 x62 p64 h g63 => ?_)
        have h := h g63
        have N := p64.2
        have oc := N.1
        exact ⟨h, N⟩
      · intro c65
        have h := h.2.2.2.1 c65
        obtain ⟨b66, e67, h⟩ := h
        refine ⟨b66, e67, ?_⟩
        obtain ⟨c68, h⟩ := h
        refine ⟨c68, ?_⟩
        have n69 := ob_nq oc c68 (by decide)
        obtain ⟨b70, e71, h⟩ := h
        refine ⟨b70, e71, ?_⟩
        obtain ⟨c72, h⟩ := h
        refine ⟨c72, ?_⟩
        have n73 := ob_nq oc c72 (by decide)
        obtain ⟨c74, h⟩ := h
        refine ⟨c74, ?_⟩
        intro x76 e75
        have h := h x76 e75
        refine cm_X11_good (nf_X11_good h oc) h (fun x77 x78 p80 h g79 => ?_)
        have h := h g79
        have N := p80.2
        have oc := N.1
        exact ⟨h, N⟩
      · intro c81
        have h := h.2.2.2.2 c81
        obtain ⟨b82, e83, h⟩ := h
        refine ⟨b82, e83, ?_⟩
        obtain ⟨c84, h⟩ := h
        refine ⟨c84, ?_⟩
        have n85 := ob_nq oc c84 (by decide)
        obtain ⟨b86, e87, h⟩ := h
        refine ⟨b86, e87, ?_⟩
        obtain ⟨c88, h⟩ := h
        refine ⟨c88, ?_⟩
        have n89 := ob_nq oc c88 (by decide)
        obtain ⟨c90, h⟩ := h
        refine ⟨c90, ?_⟩
        intro x92 e91
        have h := h x92 e91
        refine cm_X11_good (nf_X11_good h oc) h (fun x93 x94 p96 h g95 => ?_)
        have h := h g95
        have N := p96.2
        have oc := N.1
        exact ⟨h, N⟩
    · intro c97
      have h := h.2 c97
      exact nf_X11_road_22 h oc
theorem nf_X11_road {Q : Int32 → HS → Prop} {v0 : Nat} {v1 : Int32} {v2 : Int32} {S : HS} (h : P_X11_road v0 v1 v2 Q S) (oc : ob S v0 11) : P_X11_road v0 v1 v2 (fun r T => Q r T ∧ NFq 11 2 c11 v0 T) S := nf_X11_road_0 h oc
set_option maxRecDepth 20000 in
set_option maxHeartbeats 1000000 in
theorem nf_X11_round_29 {Q : Int64 → HS → Prop} {v0 : Nat} {S : HS} (h : P_X11_round_29 Q v0 S) (oc : ob S v0 11) : P_X11_round_29 (fun r T => Q r T ∧ NFq 11 2 c11 v0 T) v0 S := by
  delta P_X11_round_29 at h ⊢
  obtain ⟨c1, h⟩ := h
  refine ⟨c1, ?_⟩
  refine cm_X11_refused (nf_X11_refused h oc) h (fun x2 x3 p5 h g4 => ?_)
  have h := h g4
  have N := p5.2
  have oc := N.1
  exact ⟨h, N⟩
set_option maxRecDepth 20000 in
set_option maxHeartbeats 1000000 in
theorem nf_X11_round_0 {Q : Int64 → HS → Prop} {v0 : Nat} {v1 : Int32} {v2 : Int32} {v3 : Int32} {v4 : Int32} {S : HS} (h : P_X11_round_0 Q v0 v1 v2 v3 v4 S) (oc : ob S v0 11) : P_X11_round_0 (fun r T => Q r T ∧ NFq 11 2 c11 v0 T) v0 v1 v2 v3 v4 S := by
  delta P_X11_round_0 at h ⊢
  obtain ⟨c1, h⟩ := h
  refine ⟨c1, ?_⟩
  intro x3 e2
  have h := h x3 e2
  have oc := ob_wI oc e2
  refine cm_X11_isWalker (kg_X11_isWalker h) h (fun x4 x5 p8 h g6 g7 => ?_)
  have h := h g6 g7
  have oc := gr_ob p8.2.1 oc
  refine ⟨?_, ?_⟩
  · intro c9
    have h := h.1 c9
    exact nf_X11_round_29 h oc
  · intro c10
    have h := h.2 c10
    refine cm_X11_isRoad (kg_X11_isRoad h) h (fun x11 x12 p15 h g13 g14 => ?_)
    have h := h g13 g14
    have oc := gr_ob p15.2.1 oc
    refine ⟨?_, ?_⟩
    · intro c16
      have h := h.1 c16
      exact nf_X11_round_29 h oc
    · intro c17
      have h := h.2 c17
      refine cm_X11_isHour (kg_X11_isHour h) h (fun x18 x19 p22 h g20 g21 => ?_)
      have h := h g20 g21
      have oc := gr_ob p22.2.1 oc
      refine ⟨?_, ?_⟩
      · intro c23
        have h := h.1 c23
        refine cm_X11_wetAtBest (kg_X11_wetAtBest h) h (fun x24 x25 p27 h g26 => ?_)
        have h := h g26
        have oc := gr_ob p27.2.1 oc
        refine cm_X11_wetAtBest (kg_X11_wetAtBest h) h (fun x28 x29 p31 h g30 => ?_)
        have h := h g30
        have oc := gr_ob p31.2.1 oc
        refine cm_X11_told (nf_X11_told h oc) h (fun x32 x33 p35 h g34 => ?_)
        have h := h g34
        have N := p35.2
        have oc := N.1
        exact ⟨h, N⟩
      · intro c36
        have h := h.2 c36
        exact nf_X11_round_29 h oc
theorem nf_X11_round {Q : Int64 → HS → Prop} {v0 : Nat} {v1 : Int32} {v2 : Int32} {v3 : Int32} {v4 : Int32} {S : HS} (h : P_X11_round v0 v1 v2 v3 v4 Q S) (oc : ob S v0 11) : P_X11_round v0 v1 v2 v3 v4 (fun r T => Q r T ∧ NFq 11 2 c11 v0 T) S := nf_X11_round_0 h oc
set_option maxRecDepth 20000 in
set_option maxHeartbeats 1000000 in
theorem nf_X11_saves_39 {Q : Int64 → HS → Prop} {v0 : Nat} {S : HS} (h : P_X11_saves_39 Q v0 S) (oc : ob S v0 11) : P_X11_saves_39 (fun r T => Q r T ∧ NFq 11 2 c11 v0 T) v0 S := by
  delta P_X11_saves_39 at h ⊢
  obtain ⟨c1, h⟩ := h
  refine ⟨c1, ?_⟩
  refine cm_X11_refused (nf_X11_refused h oc) h (fun x2 x3 p5 h g4 => ?_)
  have h := h g4
  have N := p5.2
  have oc := N.1
  exact ⟨h, N⟩
set_option maxRecDepth 20000 in
set_option maxHeartbeats 1000000 in
theorem nf_X11_saves_0 {Q : Int64 → HS → Prop} {v0 : Nat} {v1 : Int32} {v2 : Int32} {v3 : Int32} {v4 : Int32} {v5 : Int32} {S : HS} (h : P_X11_saves_0 Q v0 v1 v2 v3 v4 v5 S) (oc : ob S v0 11) : P_X11_saves_0 (fun r T => Q r T ∧ NFq 11 2 c11 v0 T) v0 v1 v2 v3 v4 v5 S := by
  delta P_X11_saves_0 at h ⊢
  obtain ⟨c1, h⟩ := h
  refine ⟨c1, ?_⟩
  intro x3 e2
  have h := h x3 e2
  have oc := ob_wI oc e2
  refine cm_X11_isWalker (kg_X11_isWalker h) h (fun x4 x5 p8 h g6 g7 => ?_)
  have h := h g6 g7
  have oc := gr_ob p8.2.1 oc
  refine ⟨?_, ?_⟩
  · intro c9
    have h := h.1 c9
    exact nf_X11_saves_39 h oc
  · intro c10
    have h := h.2 c10
    refine cm_X11_isRoad (kg_X11_isRoad h) h (fun x11 x12 p15 h g13 g14 => ?_)
    have h := h g13 g14
    have oc := gr_ob p15.2.1 oc
    refine ⟨?_, ?_⟩
    · intro c16
      have h := h.1 c16
      exact nf_X11_saves_39 h oc
    · intro c17
      have h := h.2 c17
      refine cm_X11_in (kg_X11_in h) h (fun x18 x19 p22 h g20 g21 => ?_)
      have h := h g20 g21
      have oc := gr_ob p22.2.1 oc
      refine ⟨?_, ?_⟩
      · intro c23
        have h := h.1 c23
        exact nf_X11_saves_39 h oc
      · intro c24
        have h := h.2 c24
        refine cm_X11_isHour (kg_X11_isHour h) h (fun x25 x26 p29 h g27 g28 => ?_)
        have h := h g27 g28
        have oc := gr_ob p29.2.1 oc
        refine ⟨?_, ?_⟩
        · intro c30
          have h := h.1 c30
          obtain ⟨b31, e32, h⟩ := h
          refine ⟨b31, e32, ?_⟩
          obtain ⟨c33, h⟩ := h
          refine ⟨c33, ?_⟩
          have n34 := ob_nq oc c33 (by decide)
          obtain ⟨b35, e36, h⟩ := h
          refine ⟨b35, e36, ?_⟩
          obtain ⟨c37, h⟩ := h
          refine ⟨c37, ?_⟩
          have n38 := ob_nq oc c37 (by decide)
          obtain ⟨c39, h⟩ := h
          refine ⟨c39, ?_⟩
          intro x41 e40
          have h := h x41 e40
          refine cm_X11_wetOf (kg_X11_wetOf h) h (fun x42 x43 p45 h g44 => ?_)
          have h := h g44
          have oc := gr_ob p45.2.1 oc
          refine cm_X11_bestOf (kg_X11_bestOf h) h (fun x46 x47 p49 h g48 => ?_)
          have h := h g48
          have oc := gr_ob p49.2.1 oc
          refine cm_X11_wetOf (kg_X11_wetOf h) h (fun x50 x51 p53 h g52 => ?_)
          have h := h g52
          have oc := gr_ob p53.2.1 oc
          refine cm_X11_told (nf_X11_told h oc) h (fun x54 x55 p57 h g56 => ?_)
          have h := h g56
          have N := p57.2
          have oc := N.1
          exact ⟨h, N⟩
        · intro c58
          have h := h.2 c58
          exact nf_X11_saves_39 h oc
theorem nf_X11_saves {Q : Int64 → HS → Prop} {v0 : Nat} {v1 : Int32} {v2 : Int32} {v3 : Int32} {v4 : Int32} {v5 : Int32} {S : HS} (h : P_X11_saves v0 v1 v2 v3 v4 v5 Q S) (oc : ob S v0 11) : P_X11_saves v0 v1 v2 v3 v4 v5 (fun r T => Q r T ∧ NFq 11 2 c11 v0 T) S := nf_X11_saves_0 h oc
set_option maxRecDepth 20000 in
set_option maxHeartbeats 1000000 in
theorem nf_X11_soaked_57 {Q : Int32 → HS → Prop} {s0 : Nat} {s1 : Int32} {v0 : Nat} {S : HS} (h : P_X11_soaked_57 Q s0 s1 S) (oc : ob S v0 11) (q_s0 : s0 = v0) : P_X11_soaked_57 (fun r T => Q r T ∧ NFq 11 2 c11 v0 T) s0 s1 S := by
  delta P_X11_soaked_57 at h ⊢
  subst q_s0
  obtain ⟨c1, h⟩ := h
  refine ⟨c1, ?_⟩
  refine cm_X11_good (nf_X11_good h oc) h (fun x2 x3 p5 h g4 => ?_)
  have h := h g4
  have N := p5.2
  have oc := N.1
  exact ⟨h, N⟩
set_option maxRecDepth 20000 in
set_option maxHeartbeats 1000000 in
theorem nf_X11_soaked_0 {Q : Int32 → HS → Prop} {v0 : Nat} {S : HS} (h : P_X11_soaked_0 Q v0 S) (oc : ob S v0 11) : P_X11_soaked_0 (fun r T => Q r T ∧ NFq 11 2 c11 v0 T) v0 S := by
  delta P_X11_soaked_0 at h ⊢
  obtain ⟨c1, h⟩ := h
  refine ⟨c1, ?_⟩
  intro x3 e2
  have h := h x3 e2
  have oc := ob_wI oc e2
  refine cm_X11_isDay (kg_X11_isDay h) h (fun x4 x5 p8 h g6 g7 => ?_)
  have h := h g6 g7
  have oc := gr_ob p8.2.1 oc
  refine ⟨?_, ?_⟩
  · intro c9
    have h := h.1 c9
    obtain ⟨b10, e11, h⟩ := h
    refine ⟨b10, e11, ?_⟩
    obtain ⟨c12, h⟩ := h
    refine ⟨c12, ?_⟩
    have n13 := ob_nq oc c12 (by decide)
    obtain ⟨b14, e15, h⟩ := h
    refine ⟨b14, e15, ?_⟩
    intro x17 e16
    have h := h x17 e16
    obtain ⟨c18, h⟩ := h
    refine ⟨c18, ?_⟩
    have n19 := ob_nq oc c18 (by decide)
    obtain ⟨c20, h⟩ := h
    refine ⟨c20, ?_⟩
    intro x22 e21
    have h := h x22 e21
    refine ⟨?_, ?_⟩
    · intro c23
      have h := h.1 c23
      refine cm_X11_gotInAll (kg_X11_gotInAll h) h (fun x24 x25 p27 h g26 => ?_)
      have h := h g26
      have oc := gr_ob p27.2.1 oc
      refine cm_X11_holds (kg_X11_holds h) h (fun x28 x29 p31 h g30 => ?_)
      have h := h g30
      have oc := gr_ob p31.2.1 oc
      refine ⟨?_, ?_⟩
      · intro c32
        have h := h.1 c32
        exact nf_X11_soaked_57 h oc rfl
      · intro c33
        have h := h.2 c33
        exact nf_X11_soaked_57 h oc rfl
    · intro c34
      have h := h.2 c34
      exact nf_X11_soaked_57 h oc rfl
  · intro c35
    have h := h.2 c35
    refine cm_X11_refused (nf_X11_refused h oc) h (fun x36 x37 p39 h g38 => ?_)
    have h := h g38
    have N := p39.2
    have oc := N.1
    exact ⟨h, N⟩
theorem nf_X11_soaked {Q : Int32 → HS → Prop} {v0 : Nat} {S : HS} (h : P_X11_soaked v0 Q S) (oc : ob S v0 11) : P_X11_soaked v0 (fun r T => Q r T ∧ NFq 11 2 c11 v0 T) S := nf_X11_soaked_0 h oc
set_option maxRecDepth 20000 in
set_option maxHeartbeats 1000000 in
theorem nf_X11_stay_133 {Q : Int32 → HS → Prop} {X84 X84_2 : Nat → Int32 → Int32 → Int32 → HS → Prop} {v0 : Nat} {v1 : Int32} {v2 : Int32} {v3 : Int32} {S : HS} (h : P_X11_stay_133 Q X84 v0 v1 v2 v3 S) (oc : ob S v0 11) (hX84 : ∀ (u0 : Nat) (u1 : Int32) (u2 : Int32) (u3 : Int32) (u4 : HS), X84 u0 u1 u2 u3 u4 → u0 = v0 → ob u4 v0 11 → X84_2 u0 u1 u2 u3 u4) : P_X11_stay_133 (fun r T => Q r T ∧ NFq 11 2 c11 v0 T) X84_2 v0 v1 v2 v3 S := by
  delta P_X11_stay_133 at h ⊢
  obtain ⟨c1, h⟩ := h
  refine ⟨c1, ?_⟩
  obtain ⟨b2, e3, h⟩ := h
  refine ⟨b2, e3, ?_⟩
  obtain ⟨c4, h⟩ := h
  refine ⟨c4, ?_⟩
  have n5 := ob_nq oc c4 (by decide)
  obtain ⟨c6, h⟩ := h
  refine ⟨c6, ?_⟩
  intro x8 e7
  have h := h x8 e7
  intro x10 e9
  have h := h x10 e9
  obtain ⟨c11, h⟩ := h
  refine ⟨c11, ?_⟩
  intro x13 e12
  have h := h x13 e12
  have oc := ob_wJ oc e12
  intro x15 e14
  have h := h x15 e14
  exact hX84 _ _ _ _ _ h rfl oc
set_option maxRecDepth 20000 in
set_option maxHeartbeats 1000000 in
theorem nfB_X11_stay_84 {Q : Int32 → HS → Prop} {X84 X84_2 : Nat → Int32 → Int32 → Int32 → HS → Prop} {v0 : Nat} {v1 : Int32} {v2 : Int32} {v3 : Int32} {S : HS} (h : B_X11_stay_84 Q X84 v0 v1 v2 v3 S) (oc : ob S v0 11) (hX84 : ∀ (u0 : Nat) (u1 : Int32) (u2 : Int32) (u3 : Int32) (u4 : HS), X84 u0 u1 u2 u3 u4 → u0 = v0 → ob u4 v0 11 → X84_2 u0 u1 u2 u3 u4) : B_X11_stay_84 (fun r T => Q r T ∧ NFq 11 2 c11 v0 T) X84_2 v0 v1 v2 v3 S := by
  delta B_X11_stay_84 at h ⊢
  refine ⟨?_, ?_⟩
  · intro c1
    have h := h.1 c1
    obtain ⟨c2, h⟩ := h
    refine ⟨c2, ?_⟩
    refine cm_X11_granted (nf_X11_granted h oc) h (fun x3 x4 p7 h g5 g6 => ?_)
    have h := h g5 g6
    have N := p7.2
    have oc := N.1
    obtain ⟨c8, h⟩ := h
    refine ⟨c8, ?_⟩
    exact ⟨h, N⟩
  · intro c9
    have h := h.2 c9
    obtain ⟨c10, h⟩ := h
    refine ⟨c10, ?_⟩
    obtain ⟨b11, e12, h⟩ := h
    refine ⟨b11, e12, ?_⟩
    obtain ⟨c13, h⟩ := h
    refine ⟨c13, ?_⟩
    have n14 := ob_nq oc c13 (by decide)
    obtain ⟨b15, e16, h⟩ := h
    refine ⟨b15, e16, ?_⟩
    obtain ⟨c17, h⟩ := h
    refine ⟨c17, ?_⟩
    have n18 := ob_nq oc c17 (by decide)
    obtain ⟨c19, h⟩ := h
    refine ⟨c19, ?_⟩
    intro x21 e20
    have h := h x21 e20
    refine ⟨?_, ?_⟩
    · intro c22
      have h := h.1 c22
      exact nf_X11_stay_133 h oc hX84
    · intro c23
      have h := h.2 c23
      obtain ⟨b24, e25, h⟩ := h
      refine ⟨b24, e25, ?_⟩
      obtain ⟨c26, h⟩ := h
      refine ⟨c26, ?_⟩
      have n27 := ob_nq oc c26 (by decide)
      obtain ⟨c28, h⟩ := h
      refine ⟨c28, ?_⟩
      intro x30 e29
      have h := h x30 e29
      refine cm_X11_rainsIn (kg_X11_rainsIn h) h (fun x31 x32 p35 h g33 g34 => ?_)
      have h := h g33 g34
      have oc := gr_ob p35.2.1 oc
      refine ⟨?_, ?_⟩
      · intro c36
        have h := h.1 c36
        exact nf_X11_stay_133 h oc hX84
      · intro c37
        have h := h.2 c37
        obtain ⟨b38, e39, h⟩ := h
        refine ⟨b38, e39, ?_⟩
        obtain ⟨c40, h⟩ := h
        refine ⟨c40, ?_⟩
        have n41 := ob_nq oc c40 (by decide)
        obtain ⟨c42, h⟩ := h
        refine ⟨c42, ?_⟩
        intro x44 e43
        have h := h x44 e43
        intro x46 e45
        have h := h x46 e45
        refine cm_X11_drips (kg_X11_drips h) h (fun x47 x48 p50 h g49 => ?_)
        have h := h g49
        have oc := gr_ob p50.2.1 oc
        intro x52 e51
        have h := h x52 e51
        obtain ⟨c53, h⟩ := h
        refine ⟨c53, ?_⟩
        intro x55 e54
        have h := h x55 e54
        have oc := ob_wJ oc e54
        exact nf_X11_stay_133 h oc hX84
theorem nf_X11_stay_84 {Q : Int32 → HS → Prop} {v0 : Nat} {v1 : Int32} {v2 : Int32} {v3 : Int32} {S : HS} (h : P_X11_stay_84 Q v0 v1 v2 v3 S) (oc : ob S v0 11) : P_X11_stay_84 (fun r T => Q r T ∧ NFq 11 2 c11 v0 T) v0 v1 v2 v3 S := h (fun w0 v1 v2 v3 S => w0 = v0 → ob S v0 11 → P_X11_stay_84 (fun r T => Q r T ∧ NFq 11 2 c11 v0 T) w0 v1 v2 v3 S) (fun w0 v1 v2 v3 S hB e oc => by
  subst e; exact fd_X11_stay_84 (nfB_X11_stay_84 hB oc (fun _ _ _ _ _ hx e oc => hx e oc))) rfl oc
set_option maxRecDepth 20000 in
set_option maxHeartbeats 1000000 in
theorem nf_X11_stay_0 {Q : Int32 → HS → Prop} {v0 : Nat} {v1 : Int32} {S : HS} (h : P_X11_stay_0 Q v0 v1 S) (oc : ob S v0 11) : P_X11_stay_0 (fun r T => Q r T ∧ NFq 11 2 c11 v0 T) v0 v1 S := by
  delta P_X11_stay_0 at h ⊢
  obtain ⟨c1, h⟩ := h
  refine ⟨c1, ?_⟩
  intro x3 e2
  have h := h x3 e2
  have oc := ob_wI oc e2
  refine cm_X11_isDay (kg_X11_isDay h) h (fun x4 x5 p8 h g6 g7 => ?_)
  have h := h g6 g7
  have oc := gr_ob p8.2.1 oc
  refine ⟨?_, ?_⟩
  · intro c9
    have h := h.1 c9
    refine cm_X11_in (kg_X11_in h) h (fun x10 x11 p14 h g12 g13 => ?_)
    have h := h g12 g13
    have oc := gr_ob p14.2.1 oc
    refine ⟨?_, ?_⟩
    · intro c15
      have h := h.1 c15
      obtain ⟨b16, e17, h⟩ := h
      refine ⟨b16, e17, ?_⟩
      obtain ⟨c18, h⟩ := h
      refine ⟨c18, ?_⟩
      have n19 := ob_nq oc c18 (by decide)
      obtain ⟨c20, h⟩ := h
      refine ⟨c20, ?_⟩
      intro x22 e21
      have h := h x22 e21
      intro x24 e23
      have h := h x24 e23
      refine cm_X11_canWait (kg_X11_canWait h) h (fun x25 x26 p29 h g27 g28 => ?_)
      have h := h g27 g28
      have oc := gr_ob p29.2.1 oc
      refine ⟨?_, ?_⟩
      · intro c30
        have h := h.1 c30
        obtain ⟨b31, e32, h⟩ := h
        refine ⟨b31, e32, ?_⟩
        obtain ⟨c33, h⟩ := h
        refine ⟨c33, ?_⟩
        have n34 := ob_nq oc c33 (by decide)
        obtain ⟨c35, h⟩ := h
        refine ⟨c35, ?_⟩
        intro x37 e36
        have h := h x37 e36
        refine ⟨?_, ?_⟩
        · intro c38
          have h := h.1 c38
          refine cm_X11_keeps (kg_X11_keeps h) h (fun x39 p41 h g40 => ?_)
          have h := h g40
          have oc := gr_ob p41.2.1 oc
          exact nf_X11_stay_84 h oc
        · intro c42
          have h := h.2 c42
          refine cm_X11_denied (nf_X11_denied h oc) h (fun x43 x44 p47 h g45 g46 => ?_)
          have h := h g45 g46
          have N := p47.2
          have oc := N.1
          obtain ⟨c48, h⟩ := h
          refine ⟨c48, ?_⟩
          exact ⟨h, N⟩
      · intro c49
        have h := h.2 c49
        refine cm_X11_denied (nf_X11_denied h oc) h (fun x50 x51 p54 h g52 g53 => ?_)
        have h := h g52 g53
        have N := p54.2
        have oc := N.1
        obtain ⟨c55, h⟩ := h
        refine ⟨c55, ?_⟩
        exact ⟨h, N⟩
    · intro c56
      have h := h.2 c56
      refine cm_X11_denied (nf_X11_denied h oc) h (fun x57 x58 p61 h g59 g60 => ?_)
      have h := h g59 g60
      have N := p61.2
      have oc := N.1
      obtain ⟨c62, h⟩ := h
      refine ⟨c62, ?_⟩
      exact ⟨h, N⟩
  · intro c63
    have h := h.2 c63
    refine cm_X11_denied (nf_X11_denied h oc) h (fun x64 x65 p68 h g66 g67 => ?_)
    have h := h g66 g67
    have N := p68.2
    have oc := N.1
    obtain ⟨c69, h⟩ := h
    refine ⟨c69, ?_⟩
    exact ⟨h, N⟩
theorem nf_X11_stay {Q : Int32 → HS → Prop} {v0 : Nat} {v1 : Int32} {S : HS} (h : P_X11_stay v0 v1 Q S) (oc : ob S v0 11) : P_X11_stay v0 v1 (fun r T => Q r T ∧ NFq 11 2 c11 v0 T) S := nf_X11_stay_0 h oc
set_option maxRecDepth 20000 in
set_option maxHeartbeats 1000000 in
theorem nf_X11_step_49 {Q : Int32 → HS → Prop} {v0 : Nat} {s0 : Int32} {S : HS} (h : P_X11_step_49 Q v0 s0 S) (oc : ob S v0 11) : P_X11_step_49 (fun r T => Q r T ∧ NFq 11 2 c11 v0 T) v0 s0 S := by
  delta P_X11_step_49 at h ⊢
  refine ⟨?_, ?_⟩
  · intro c1
    have h := h.1 c1
    obtain ⟨c2, h⟩ := h
    refine ⟨c2, ?_⟩
    refine cm_X11_good (nf_X11_good h oc) h (fun x3 x4 p6 h g5 => ?_)
    have h := h g5
    have N := p6.2
    have oc := N.1
    exact ⟨h, N⟩
  · intro c7
    have h := h.2 c7
    obtain ⟨c8, h⟩ := h
    refine ⟨c8, ?_⟩
    refine cm_X11_refused (nf_X11_refused h oc) h (fun x9 x10 p12 h g11 => ?_)
    have h := h g11
    have N := p12.2
    have oc := N.1
    exact ⟨h, N⟩
set_option maxRecDepth 20000 in
set_option maxHeartbeats 1000000 in
theorem nf_X11_step_0 {Q : Int32 → HS → Prop} {v0 : Nat} {v1 : Int32} {v2 : Int32} {v3 : Int32} {v4 : Int32} {v5 : Int32} {v6 : Int32} {S : HS} (h : P_X11_step_0 Q v0 v1 v2 v3 v4 v5 v6 S) (oc : ob S v0 11) : P_X11_step_0 (fun r T => Q r T ∧ NFq 11 2 c11 v0 T) v0 v1 v2 v3 v4 v5 v6 S := by
  delta P_X11_step_0 at h ⊢
  obtain ⟨c1, h⟩ := h
  refine ⟨c1, ?_⟩
  intro x3 e2
  have h := h x3 e2
  have oc := ob_wI oc e2
  refine cm_X11_refusesWay (kg_X11_refusesWay h) h (fun x4 x5 p7 h g6 => ?_)
  have h := h g6
  have oc := gr_ob p7.2.1 oc
  refine ⟨?_, ?_⟩
  · intro c8
    have h := h.1 c8
    refine ⟨?_, ?_⟩
    · intro c9
      have h := h.1 c9
      refine cm_X11_stepOf (kg_X11_stepOf h) h (fun x10 x11 p13 h g12 => ?_)
      have h := h g12
      have oc := gr_ob p13.2.1 oc
      exact nf_X11_step_49 h oc
    · intro c14
      have h := h.2 c14
      exact nf_X11_step_49 h oc
  · intro c15
    have h := h.2 c15
    refine cm_X11_refused (nf_X11_refused h oc) h (fun x16 x17 p19 h g18 => ?_)
    have h := h g18
    have N := p19.2
    have oc := N.1
    exact ⟨h, N⟩
theorem nf_X11_step {Q : Int32 → HS → Prop} {v0 : Nat} {v1 : Int32} {v2 : Int32} {v3 : Int32} {v4 : Int32} {v5 : Int32} {v6 : Int32} {S : HS} (h : P_X11_step v0 v1 v2 v3 v4 v5 v6 Q S) (oc : ob S v0 11) : P_X11_step v0 v1 v2 v3 v4 v5 v6 (fun r T => Q r T ∧ NFq 11 2 c11 v0 T) S := nf_X11_step_0 h oc
set_option maxRecDepth 20000 in
set_option maxHeartbeats 1000000 in
theorem nf_X11_steps_0 {Q : Int32 → HS → Prop} {v0 : Nat} {v1 : Int32} {v2 : Int32} {v3 : Int32} {v4 : Int32} {v5 : Int32} {S : HS} (h : P_X11_steps_0 Q v0 v1 v2 v3 v4 v5 S) (oc : ob S v0 11) : P_X11_steps_0 (fun r T => Q r T ∧ NFq 11 2 c11 v0 T) v0 v1 v2 v3 v4 v5 S := by
  delta P_X11_steps_0 at h ⊢
  obtain ⟨c1, h⟩ := h
  refine ⟨c1, ?_⟩
  intro x3 e2
  have h := h x3 e2
  have oc := ob_wI oc e2
  refine cm_X11_refusesWay (kg_X11_refusesWay h) h (fun x4 x5 p7 h g6 => ?_)
  have h := h g6
  have oc := gr_ob p7.2.1 oc
  refine ⟨?_, ?_⟩
  · intro c8
    have h := h.1 c8
    refine cm_X11_stepOf (kg_X11_stepOf h) h (fun x9 x10 p12 h g11 => ?_)
    have h := h g11
    have oc := gr_ob p12.2.1 oc
    refine cm_X11_good (nf_X11_good h oc) h (fun x13 x14 p16 h g15 => ?_)
    have h := h g15
    have N := p16.2
    have oc := N.1
    exact ⟨h, N⟩
  · intro c17
    have h := h.2 c17
    refine cm_X11_refused (nf_X11_refused h oc) h (fun x18 x19 p21 h g20 => ?_)
    have h := h g20
    have N := p21.2
    have oc := N.1
    exact ⟨h, N⟩
theorem nf_X11_steps {Q : Int32 → HS → Prop} {v0 : Nat} {v1 : Int32} {v2 : Int32} {v3 : Int32} {v4 : Int32} {v5 : Int32} {S : HS} (h : P_X11_steps v0 v1 v2 v3 v4 v5 Q S) (oc : ob S v0 11) : P_X11_steps v0 v1 v2 v3 v4 v5 (fun r T => Q r T ∧ NFq 11 2 c11 v0 T) S := nf_X11_steps_0 h oc
set_option maxRecDepth 20000 in
set_option maxHeartbeats 1000000 in
theorem nf_X11_there_0 {Q : Int32 → HS → Prop} {v0 : Nat} {v1 : Int32} {v2 : Int32} {v3 : Int32} {v4 : Int32} {v5 : Int32} {S : HS} (h : P_X11_there_0 Q v0 v1 v2 v3 v4 v5 S) (oc : ob S v0 11) : P_X11_there_0 (fun r T => Q r T ∧ NFq 11 2 c11 v0 T) v0 v1 v2 v3 v4 v5 S := by
  delta P_X11_there_0 at h ⊢
  obtain ⟨c1, h⟩ := h
  refine ⟨c1, ?_⟩
  intro x3 e2
  have h := h x3 e2
  have oc := ob_wI oc e2
  refine cm_X11_refusesWay (kg_X11_refusesWay h) h (fun x4 x5 p7 h g6 => ?_)
  have h := h g6
  have oc := gr_ob p7.2.1 oc
  refine ⟨?_, ?_⟩
  · intro c8
    have h := h.1 c8
    obtain ⟨b9, e10, h⟩ := h
    refine ⟨b9, e10, ?_⟩
    refine cm_X11_spotOf (kg_X11_spotOf h) h (fun x11 x12 p14 h g13 => ?_)
    have h := h g13
    have oc := gr_ob p14.2.1 oc
    obtain ⟨c15, h⟩ := h
    refine ⟨c15, ?_⟩
    have n16 := ob_nq oc c15 (by decide)
    obtain ⟨c17, h⟩ := h
    refine ⟨c17, ?_⟩
    intro x19 e18
    have h := h x19 e18
    refine cm_X11_good (nf_X11_good h oc) h (fun x20 x21 p23 h g22 => ?_)
    have h := h g22
    have N := p23.2
    have oc := N.1
    exact ⟨h, N⟩
  · intro c24
    have h := h.2 c24
    refine cm_X11_refused (nf_X11_refused h oc) h (fun x25 x26 p28 h g27 => ?_)
    have h := h g27
    have N := p28.2
    have oc := N.1
    exact ⟨h, N⟩
theorem nf_X11_there {Q : Int32 → HS → Prop} {v0 : Nat} {v1 : Int32} {v2 : Int32} {v3 : Int32} {v4 : Int32} {v5 : Int32} {S : HS} (h : P_X11_there v0 v1 v2 v3 v4 v5 Q S) (oc : ob S v0 11) : P_X11_there v0 v1 v2 v3 v4 v5 (fun r T => Q r T ∧ NFq 11 2 c11 v0 T) S := nf_X11_there_0 h oc
set_option maxRecDepth 20000 in
set_option maxHeartbeats 1000000 in
theorem nf_X11_undo_19 {Q : Int32 → HS → Prop} {v0 : Nat} {S : HS} (h : P_X11_undo_19 Q v0 S) (oc : ob S v0 11) : P_X11_undo_19 (fun r T => Q r T ∧ NFq 11 2 c11 v0 T) v0 S := by
  delta P_X11_undo_19 at h ⊢
  obtain ⟨c1, h⟩ := h
  refine ⟨c1, ?_⟩
  refine cm_X11_denied (nf_X11_denied h oc) h (fun x2 x3 p6 h g4 g5 => ?_)
  have h := h g4 g5
  have N := p6.2
  have oc := N.1
  obtain ⟨c7, h⟩ := h
  refine ⟨c7, ?_⟩
  exact ⟨h, N⟩
set_option maxRecDepth 20000 in
set_option maxHeartbeats 1000000 in
theorem nfB_X11_undo_38 {Q : Int32 → HS → Prop} {X38 X38_2 : Nat → Int32 → HS → Prop} {v0 : Nat} {v1 : Int32} {S : HS} (h : B_X11_undo_38 Q X38 v0 v1 S) (oc : ob S v0 11) (hX38 : ∀ (u0 : Nat) (u1 : Int32) (u2 : HS), X38 u0 u1 u2 → u0 = v0 → ob u2 v0 11 → X38_2 u0 u1 u2) : B_X11_undo_38 (fun r T => Q r T ∧ NFq 11 2 c11 v0 T) X38_2 v0 v1 S := by
  delta B_X11_undo_38 at h ⊢
  refine ⟨?_, ?_⟩
  · intro c1
    have h := h.1 c1
    obtain ⟨c2, h⟩ := h
    refine ⟨c2, ?_⟩
    refine cm_X11_granted (nf_X11_granted h oc) h (fun x3 x4 p7 h g5 g6 => ?_)
    have h := h g5 g6
    have N := p7.2
    have oc := N.1
    obtain ⟨c8, h⟩ := h
    refine ⟨c8, ?_⟩
    exact ⟨h, N⟩
  · intro c9
    have h := h.2 c9
    obtain ⟨c10, h⟩ := h
    refine ⟨c10, ?_⟩
    obtain ⟨b11, e12, h⟩ := h
    refine ⟨b11, e12, ?_⟩
    obtain ⟨b13, e14, h⟩ := h
    refine ⟨b13, e14, ?_⟩
    intro x16 e15
    have h := h x16 e15
    obtain ⟨c17, h⟩ := h
    refine ⟨c17, ?_⟩
    have n18 := ob_nq oc c17 (by decide)
    intro x20 e19
    have h := h x20 e19
    obtain ⟨c21, h⟩ := h
    refine ⟨c21, ?_⟩
    intro x23 e22
    have h := h x23 e22
    obtain ⟨c24, h⟩ := h
    refine ⟨c24, ?_⟩
    have n25 := ob_nq oc c24 (by decide)
    obtain ⟨c26, h⟩ := h
    refine ⟨c26, ?_⟩
    intro x28 e27
    have h := h x28 e27
    have oc := ob_wJ oc e27
    intro x30 e29
    have h := h x30 e29
    exact hX38 _ _ _ h rfl oc
theorem nf_X11_undo_38 {Q : Int32 → HS → Prop} {v0 : Nat} {v1 : Int32} {S : HS} (h : P_X11_undo_38 Q v0 v1 S) (oc : ob S v0 11) : P_X11_undo_38 (fun r T => Q r T ∧ NFq 11 2 c11 v0 T) v0 v1 S := h (fun w0 v1 S => w0 = v0 → ob S v0 11 → P_X11_undo_38 (fun r T => Q r T ∧ NFq 11 2 c11 v0 T) w0 v1 S) (fun w0 v1 S hB e oc => by
  subst e; exact fd_X11_undo_38 (nfB_X11_undo_38 hB oc (fun _ _ _ hx e oc => hx e oc))) rfl oc
set_option maxRecDepth 20000 in
set_option maxHeartbeats 1000000 in
theorem nf_X11_undo_0 {Q : Int32 → HS → Prop} {v0 : Nat} {S : HS} (h : P_X11_undo_0 Q v0 S) (oc : ob S v0 11) : P_X11_undo_0 (fun r T => Q r T ∧ NFq 11 2 c11 v0 T) v0 S := by
  delta P_X11_undo_0 at h ⊢
  obtain ⟨c1, h⟩ := h
  refine ⟨c1, ?_⟩
  intro x3 e2
  have h := h x3 e2
  have oc := ob_wI oc e2
  refine cm_X11_isDay (kg_X11_isDay h) h (fun x4 x5 p8 h g6 g7 => ?_)
  have h := h g6 g7
  have oc := gr_ob p8.2.1 oc
  refine ⟨?_, ?_⟩
  · intro c9
    have h := h.1 c9
    exact nf_X11_undo_19 h oc
  · intro c10
    have h := h.2 c10
    intro x12 e11
    have h := h x12 e11
    refine ⟨?_, ?_⟩
    · intro c13
      have h := h.1 c13
      intro x15 e14
      have h := h x15 e14
      intro x17 e16
      have h := h x17 e16
      intro x19 e18
      have h := h x19 e18
      have oc := ob_wI oc e18
      exact nf_X11_undo_38 h oc
    · intro c20
      have h := h.2 c20
      exact nf_X11_undo_19 h oc
theorem nf_X11_undo {Q : Int32 → HS → Prop} {v0 : Nat} {S : HS} (h : P_X11_undo v0 Q S) (oc : ob S v0 11) : P_X11_undo v0 (fun r T => Q r T ∧ NFq 11 2 c11 v0 T) S := nf_X11_undo_0 h oc
set_option maxRecDepth 20000 in
set_option maxHeartbeats 1000000 in
theorem nf_X11_walker_23 {Q : Int32 → HS → Prop} {v0 : Nat} {S : HS} (h : P_X11_walker_23 Q v0 S) (oc : ob S v0 11) : P_X11_walker_23 (fun r T => Q r T ∧ NFq 11 2 c11 v0 T) v0 S := by
  delta P_X11_walker_23 at h ⊢
  obtain ⟨c1, h⟩ := h
  refine ⟨c1, ?_⟩
  refine cm_X11_refused (nf_X11_refused h oc) h (fun x2 x3 p5 h g4 => ?_)
  have h := h g4
  have N := p5.2
  have oc := N.1
  exact ⟨h, N⟩
set_option maxRecDepth 20000 in
set_option maxHeartbeats 1000000 in
theorem nf_X11_walker_0 {Q : Int32 → HS → Prop} {v0 : Nat} {v1 : Int32} {v2 : Int32} {S : HS} (h : P_X11_walker_0 Q v0 v1 v2 S) (oc : ob S v0 11) : P_X11_walker_0 (fun r T => Q r T ∧ NFq 11 2 c11 v0 T) v0 v1 v2 S := by
  delta P_X11_walker_0 at h ⊢
  obtain ⟨c1, h⟩ := h
  refine ⟨c1, ?_⟩
  intro x3 e2
  have h := h x3 e2
  have oc := ob_wI oc e2
  refine cm_X11_isWalker (kg_X11_isWalker h) h (fun x4 x5 p8 h g6 g7 => ?_)
  have h := h g6 g7
  have oc := gr_ob p8.2.1 oc
  refine ⟨?_, ?_⟩
  · intro c9
    have h := h.1 c9
    exact nf_X11_walker_23 h oc
  · intro c10
    have h := h.2 c10
    refine cm_X11_in (kg_X11_in h) h (fun x11 x12 p15 h g13 g14 => ?_)
    have h := h g13 g14
    have oc := gr_ob p15.2.1 oc
    refine ⟨?_, ?_⟩
    · intro c16
      have h := h.1 c16
      refine ⟨?_, ?_, ?_, ?_, ?_, ?_, ?_⟩
      · intro c17
        have h := h.1 c17
        obtain ⟨b18, e19, h⟩ := h
        refine ⟨b18, e19, ?_⟩
        obtain ⟨c20, h⟩ := h
        refine ⟨c20, ?_⟩
        have n21 := ob_nq oc c20 (by decide)
        obtain ⟨b22, e23, h⟩ := h
        refine ⟨b22, e23, ?_⟩
        obtain ⟨c24, h⟩ := h
        refine ⟨c24, ?_⟩
        have n25 := ob_nq oc c24 (by decide)
        obtain ⟨c26, h⟩ := h
        refine ⟨c26, ?_⟩
        intro x28 e27
        have h := h x28 e27
        refine cm_X11_good (nf_X11_good h oc) h (fun x29 x30 p32 h g31 => ?_)
        have h := h g31
        have N := p32.2
        have oc := N.1
        exact ⟨h, N⟩
      · intro c33
        have h := h.2.1 c33
        obtain ⟨b34, e35, h⟩ := h
        refine ⟨b34, e35, ?_⟩
        obtain ⟨c36, h⟩ := h
        refine ⟨c36, ?_⟩
        have n37 := ob_nq oc c36 (by decide)
        obtain ⟨b38, e39, h⟩ := h
        refine ⟨b38, e39, ?_⟩
        obtain ⟨c40, h⟩ := h
        refine ⟨c40, ?_⟩
        have n41 := ob_nq oc c40 (by decide)
        obtain ⟨c42, h⟩ := h
        refine ⟨c42, ?_⟩
        intro x44 e43
        have h := h x44 e43
        refine cm_X11_good (nf_X11_good h oc) h (fun x45 x46 p48 h g47 => ?_)
        have h := h g47
        have N := p48.2
        have oc := N.1
        exact ⟨h, N⟩
      · intro c49
        have h := h.2.2.1 c49
        obtain ⟨b50, e51, h⟩ := h
        refine ⟨b50, e51, ?_⟩
        obtain ⟨c52, h⟩ := h
        refine ⟨c52, ?_⟩
        have n53 := ob_nq oc c52 (by decide)
        obtain ⟨b54, e55, h⟩ := h
        refine ⟨b54, e55, ?_⟩
        obtain ⟨c56, h⟩ := h
        refine ⟨c56, ?_⟩
        have n57 := ob_nq oc c56 (by decide)
        obtain ⟨c58, h⟩ := h
        refine ⟨c58, ?_⟩
        intro x60 e59
        have h := h x60 e59
        refine cm_X11_good (nf_X11_good h oc) h (fun x61 x62 p64 h g63 => ?_)
        have h := h g63
        have N := p64.2
        have oc := N.1
        exact ⟨h, N⟩
      · intro c65
        have h := h.2.2.2.1 c65
        obtain ⟨b66, e67, h⟩ := h
        refine ⟨b66, e67, ?_⟩
        obtain ⟨c68, h⟩ := h
        refine ⟨c68, ?_⟩
        have n69 := ob_nq oc c68 (by decide)
        obtain ⟨b70, e71, h⟩ := h
        refine ⟨b70, e71, ?_⟩
        obtain ⟨c72, h⟩ := h
        refine ⟨c72, ?_⟩
        have n73 := ob_nq oc c72 (by decide)
        obtain ⟨c74, h⟩ := h
        refine ⟨c74, ?_⟩
        intro x76 e75
        have h := h x76 e75
        refine cm_X11_good (nf_X11_good h oc) h (fun x77 x78 p80 h g79 => ?_)
        have h := h g79
        have N := p80.2
        have oc := N.1
        exact ⟨h, N⟩
      · intro c81
        have h := h.2.2.2.2.1 c81
        obtain ⟨b82, e83, h⟩ := h
        refine ⟨b82, e83, ?_⟩
        obtain ⟨c84, h⟩ := h
        refine ⟨c84, ?_⟩
        have n85 := ob_nq oc c84 (by decide)
        obtain ⟨b86, e87, h⟩ := h
        refine ⟨b86, e87, ?_⟩
        obtain ⟨c88, h⟩ := h
        refine ⟨c88, ?_⟩
        have n89 := ob_nq oc c88 (by decide)
        obtain ⟨c90, h⟩ := h
        refine ⟨c90, ?_⟩
        intro x92 e91
        have h := h x92 e91
        refine cm_X11_good (nf_X11_good h oc) h (fun x93 x94 p96 h g95 => ?_)
        have h := h g95
        have N := p96.2
        have oc := N.1
        exact ⟨h, N⟩
      · intro c97
        have h := h.2.2.2.2.2.1 c97
        obtain ⟨b98, e99, h⟩ := h
        refine ⟨b98, e99, ?_⟩
        obtain ⟨c100, h⟩ := h
        refine ⟨c100, ?_⟩
        have n101 := ob_nq oc c100 (by decide)
        obtain ⟨b102, e103, h⟩ := h
        refine ⟨b102, e103, ?_⟩
        obtain ⟨c104, h⟩ := h
        refine ⟨c104, ?_⟩
        have n105 := ob_nq oc c104 (by decide)
        obtain ⟨c106, h⟩ := h
        refine ⟨c106, ?_⟩
        intro x108 e107
        have h := h x108 e107
        refine cm_X11_good (nf_X11_good h oc) h (fun x109 x110 p112 h g111 => ?_)
        have h := h g111
        have N := p112.2
        have oc := N.1
        exact ⟨h, N⟩
      · intro c113
        have h := h.2.2.2.2.2.2 c113
        obtain ⟨b114, e115, h⟩ := h
        refine ⟨b114, e115, ?_⟩
        obtain ⟨c116, h⟩ := h
        refine ⟨c116, ?_⟩
        have n117 := ob_nq oc c116 (by decide)
        obtain ⟨b118, e119, h⟩ := h
        refine ⟨b118, e119, ?_⟩
        obtain ⟨c120, h⟩ := h
        refine ⟨c120, ?_⟩
        have n121 := ob_nq oc c120 (by decide)
        obtain ⟨c122, h⟩ := h
        refine ⟨c122, ?_⟩
        intro x124 e123
        have h := h x124 e123
        refine cm_X11_good (nf_X11_good h oc) h (fun x125 x126 p128 h g127 => ?_)
        have h := h g127
        have N := p128.2
        have oc := N.1
        exact ⟨h, N⟩
    · intro c129
      have h := h.2 c129
      exact nf_X11_walker_23 h oc
theorem nf_X11_walker {Q : Int32 → HS → Prop} {v0 : Nat} {v1 : Int32} {v2 : Int32} {S : HS} (h : P_X11_walker v0 v1 v2 Q S) (oc : ob S v0 11) : P_X11_walker v0 v1 v2 (fun r T => Q r T ∧ NFq 11 2 c11 v0 T) S := nf_X11_walker_0 h oc
set_option maxRecDepth 20000 in
set_option maxHeartbeats 1000000 in
theorem nf_X11_wet_0 {Q : Int64 → HS → Prop} {v0 : Nat} {v1 : Int32} {v2 : Int32} {v3 : Int32} {v4 : Int32} {v5 : Int32} {v6 : Int32} {S : HS} (h : P_X11_wet_0 Q v0 v1 v2 v3 v4 v5 v6 S) (oc : ob S v0 11) : P_X11_wet_0 (fun r T => Q r T ∧ NFq 11 2 c11 v0 T) v0 v1 v2 v3 v4 v5 v6 S := by
  delta P_X11_wet_0 at h ⊢
  obtain ⟨c1, h⟩ := h
  refine ⟨c1, ?_⟩
  intro x3 e2
  have h := h x3 e2
  have oc := ob_wI oc e2
  refine cm_X11_refuses (kg_X11_refuses h) h (fun x4 x5 p7 h g6 => ?_)
  have h := h g6
  have oc := gr_ob p7.2.1 oc
  refine ⟨?_, ?_⟩
  · intro c8
    have h := h.1 c8
    refine cm_X11_wetOf (kg_X11_wetOf h) h (fun x9 x10 p12 h g11 => ?_)
    have h := h g11
    have oc := gr_ob p12.2.1 oc
    refine cm_X11_told (nf_X11_told h oc) h (fun x13 x14 p16 h g15 => ?_)
    have h := h g15
    have N := p16.2
    have oc := N.1
    exact ⟨h, N⟩
  · intro c17
    have h := h.2 c17
    refine cm_X11_refused (nf_X11_refused h oc) h (fun x18 x19 p21 h g20 => ?_)
    have h := h g20
    have N := p21.2
    have oc := N.1
    exact ⟨h, N⟩
theorem nf_X11_wet {Q : Int64 → HS → Prop} {v0 : Nat} {v1 : Int32} {v2 : Int32} {v3 : Int32} {v4 : Int32} {v5 : Int32} {v6 : Int32} {S : HS} (h : P_X11_wet v0 v1 v2 v3 v4 v5 v6 Q S) (oc : ob S v0 11) : P_X11_wet v0 v1 v2 v3 v4 v5 v6 (fun r T => Q r T ∧ NFq 11 2 c11 v0 T) S := nf_X11_wet_0 h oc
set_option maxRecDepth 20000 in
set_option maxHeartbeats 1000000 in
theorem nf_X11_wetness_41 {Q : Int64 → HS → Prop} {v1 : Int32} {s0 : Nat} {s1 : Int64} {v0 : Nat} {S : HS} (h : P_X11_wetness_41 Q v1 s0 s1 S) (oc : ob S v0 11) (q_s0 : s0 = v0) : P_X11_wetness_41 (fun r T => Q r T ∧ NFq 11 2 c11 v0 T) v1 s0 s1 S := by
  delta P_X11_wetness_41 at h ⊢
  subst q_s0
  obtain ⟨c1, h⟩ := h
  refine ⟨c1, ?_⟩
  refine cm_X11_told (nf_X11_told h oc) h (fun x2 x3 p5 h g4 => ?_)
  have h := h g4
  have N := p5.2
  have oc := N.1
  exact ⟨h, N⟩
set_option maxRecDepth 20000 in
set_option maxHeartbeats 1000000 in
theorem nf_X11_wetness_0 {Q : Int64 → HS → Prop} {v0 : Nat} {v1 : Int32} {S : HS} (h : P_X11_wetness_0 Q v0 v1 S) (oc : ob S v0 11) : P_X11_wetness_0 (fun r T => Q r T ∧ NFq 11 2 c11 v0 T) v0 v1 S := by
  delta P_X11_wetness_0 at h ⊢
  obtain ⟨c1, h⟩ := h
  refine ⟨c1, ?_⟩
  intro x3 e2
  have h := h x3 e2
  have oc := ob_wI oc e2
  refine cm_X11_isDay (kg_X11_isDay h) h (fun x4 x5 p8 h g6 g7 => ?_)
  have h := h g6 g7
  have oc := gr_ob p8.2.1 oc
  refine ⟨?_, ?_⟩
  · intro c9
    have h := h.1 c9
    refine cm_X11_gotInAll (kg_X11_gotInAll h) h (fun x10 x11 p13 h g12 => ?_)
    have h := h g12
    have oc := gr_ob p13.2.1 oc
    refine cm_X11_holds (kg_X11_holds h) h (fun x14 x15 p17 h g16 => ?_)
    have h := h g16
    have oc := gr_ob p17.2.1 oc
    intro x19 e18
    have h := h x19 e18
    refine ⟨?_, ?_⟩
    · intro c20
      have h := h.1 c20
      exact nf_X11_wetness_41 h oc rfl
    · intro c21
      have h := h.2 c21
      exact nf_X11_wetness_41 h oc rfl
  · intro c22
    have h := h.2 c22
    refine cm_X11_refused (nf_X11_refused h oc) h (fun x23 x24 p26 h g25 => ?_)
    have h := h g25
    have N := p26.2
    have oc := N.1
    exact ⟨h, N⟩
theorem nf_X11_wetness {Q : Int64 → HS → Prop} {v0 : Nat} {v1 : Int32} {S : HS} (h : P_X11_wetness v0 v1 Q S) (oc : ob S v0 11) : P_X11_wetness v0 v1 (fun r T => Q r T ∧ NFq 11 2 c11 v0 T) S := nf_X11_wetness_0 h oc
set_option maxRecDepth 20000 in
set_option maxHeartbeats 1000000 in
theorem nf_X11_worst_39 {Q : Int32 → HS → Prop} {v0 : Nat} {S : HS} (h : P_X11_worst_39 Q v0 S) (oc : ob S v0 11) : P_X11_worst_39 (fun r T => Q r T ∧ NFq 11 2 c11 v0 T) v0 S := by
  delta P_X11_worst_39 at h ⊢
  obtain ⟨c1, h⟩ := h
  refine ⟨c1, ?_⟩
  refine cm_X11_refused (nf_X11_refused h oc) h (fun x2 x3 p5 h g4 => ?_)
  have h := h g4
  have N := p5.2
  have oc := N.1
  exact ⟨h, N⟩
set_option maxRecDepth 20000 in
set_option maxHeartbeats 1000000 in
theorem nf_X11_worst_106 {Q : Int32 → HS → Prop} {X62 X62_2 : Nat → Int32 → Int32 → Int32 → Int32 → Int32 → Int32 → HS → Prop} {v0 : Nat} {v1 : Int32} {v2 : Int32} {v3 : Int32} {v4 : Int32} {v5 : Int32} {v6 : Int32} {S : HS} (h : P_X11_worst_106 Q X62 v0 v1 v2 v3 v4 v5 v6 S) (oc : ob S v0 11) (hX62 : ∀ (u0 : Nat) (u1 : Int32) (u2 : Int32) (u3 : Int32) (u4 : Int32) (u5 : Int32) (u6 : Int32) (u7 : HS), X62 u0 u1 u2 u3 u4 u5 u6 u7 → u0 = v0 → ob u7 v0 11 → X62_2 u0 u1 u2 u3 u4 u5 u6 u7) : P_X11_worst_106 (fun r T => Q r T ∧ NFq 11 2 c11 v0 T) X62_2 v0 v1 v2 v3 v4 v5 v6 S := by
  delta P_X11_worst_106 at h ⊢
  intro x2 e1
  have h := h x2 e1
  exact hX62 _ _ _ _ _ _ _ _ h rfl oc
set_option maxRecDepth 20000 in
set_option maxHeartbeats 1000000 in
theorem nfB_X11_worst_62 {Q : Int32 → HS → Prop} {X62 X62_2 : Nat → Int32 → Int32 → Int32 → Int32 → Int32 → Int32 → HS → Prop} {v0 : Nat} {v1 : Int32} {v2 : Int32} {v3 : Int32} {v4 : Int32} {v5 : Int32} {v6 : Int32} {S : HS} (h : B_X11_worst_62 Q X62 v0 v1 v2 v3 v4 v5 v6 S) (oc : ob S v0 11) (hX62 : ∀ (u0 : Nat) (u1 : Int32) (u2 : Int32) (u3 : Int32) (u4 : Int32) (u5 : Int32) (u6 : Int32) (u7 : HS), X62 u0 u1 u2 u3 u4 u5 u6 u7 → u0 = v0 → ob u7 v0 11 → X62_2 u0 u1 u2 u3 u4 u5 u6 u7) : B_X11_worst_62 (fun r T => Q r T ∧ NFq 11 2 c11 v0 T) X62_2 v0 v1 v2 v3 v4 v5 v6 S := by
  delta B_X11_worst_62 at h ⊢
  obtain ⟨c1, h⟩ := h
  refine ⟨c1, ?_⟩
  obtain ⟨b2, e3, h⟩ := h
  refine ⟨b2, e3, ?_⟩
  obtain ⟨c4, h⟩ := h
  refine ⟨c4, ?_⟩
  have n5 := ob_nq oc c4 (by decide)
  obtain ⟨b6, e7, h⟩ := h
  refine ⟨b6, e7, ?_⟩
  obtain ⟨c8, h⟩ := h
  refine ⟨c8, ?_⟩
  have n9 := ob_nq oc c8 (by decide)
  obtain ⟨c10, h⟩ := h
  refine ⟨c10, ?_⟩
  intro x12 e11
  have h := h x12 e11
  refine ⟨?_, ?_⟩
  · intro c13
    have h := h.1 c13
    refine cm_X11_good (nf_X11_good h oc) h (fun x14 x15 p17 h g16 => ?_)
    have h := h g16
    have N := p17.2
    have oc := N.1
    exact ⟨h, N⟩
  · intro c18
    have h := h.2 c18
    refine cm_X11_wetOf (kg_X11_wetOf h) h (fun x19 x20 p22 h g21 => ?_)
    have h := h g21
    have oc := gr_ob p22.2.1 oc
    refine cm_X11_wetOf (kg_X11_wetOf h) h (fun x23 x24 p26 h g25 => ?_)
    have h := h g25
    have oc := gr_ob p26.2.1 oc
    refine ⟨?_, ?_⟩
    · intro c27
      have h := h.1 c27
      exact nf_X11_worst_106 h oc hX62
    · intro c28
      have h := h.2 c28
      exact nf_X11_worst_106 h oc hX62
theorem nf_X11_worst_62 {Q : Int32 → HS → Prop} {v0 : Nat} {v1 : Int32} {v2 : Int32} {v3 : Int32} {v4 : Int32} {v5 : Int32} {v6 : Int32} {S : HS} (h : P_X11_worst_62 Q v0 v1 v2 v3 v4 v5 v6 S) (oc : ob S v0 11) : P_X11_worst_62 (fun r T => Q r T ∧ NFq 11 2 c11 v0 T) v0 v1 v2 v3 v4 v5 v6 S := h (fun w0 v1 v2 v3 v4 v5 v6 S => w0 = v0 → ob S v0 11 → P_X11_worst_62 (fun r T => Q r T ∧ NFq 11 2 c11 v0 T) w0 v1 v2 v3 v4 v5 v6 S) (fun w0 v1 v2 v3 v4 v5 v6 S hB e oc => by
  subst e; exact fd_X11_worst_62 (nfB_X11_worst_62 hB oc (fun _ _ _ _ _ _ _ _ hx e oc => hx e oc))) rfl oc
set_option maxRecDepth 20000 in
set_option maxHeartbeats 1000000 in
theorem nf_X11_worst_0 {Q : Int32 → HS → Prop} {v0 : Nat} {v1 : Int32} {v2 : Int32} {v3 : Int32} {v4 : Int32} {S : HS} (h : P_X11_worst_0 Q v0 v1 v2 v3 v4 S) (oc : ob S v0 11) : P_X11_worst_0 (fun r T => Q r T ∧ NFq 11 2 c11 v0 T) v0 v1 v2 v3 v4 S := by
  delta P_X11_worst_0 at h ⊢
  obtain ⟨c1, h⟩ := h
  refine ⟨c1, ?_⟩
  intro x3 e2
  have h := h x3 e2
  have oc := ob_wI oc e2
  refine cm_X11_isWalker (kg_X11_isWalker h) h (fun x4 x5 p8 h g6 g7 => ?_)
  have h := h g6 g7
  have oc := gr_ob p8.2.1 oc
  refine ⟨?_, ?_⟩
  · intro c9
    have h := h.1 c9
    exact nf_X11_worst_39 h oc
  · intro c10
    have h := h.2 c10
    refine cm_X11_isRoad (kg_X11_isRoad h) h (fun x11 x12 p15 h g13 g14 => ?_)
    have h := h g13 g14
    have oc := gr_ob p15.2.1 oc
    refine ⟨?_, ?_⟩
    · intro c16
      have h := h.1 c16
      exact nf_X11_worst_39 h oc
    · intro c17
      have h := h.2 c17
      refine cm_X11_in (kg_X11_in h) h (fun x18 x19 p22 h g20 g21 => ?_)
      have h := h g20 g21
      have oc := gr_ob p22.2.1 oc
      refine ⟨?_, ?_⟩
      · intro c23
        have h := h.1 c23
        exact nf_X11_worst_39 h oc
      · intro c24
        have h := h.2 c24
        refine cm_X11_isHour (kg_X11_isHour h) h (fun x25 x26 p29 h g27 g28 => ?_)
        have h := h g27 g28
        have oc := gr_ob p29.2.1 oc
        refine ⟨?_, ?_⟩
        · intro c30
          have h := h.1 c30
          obtain ⟨b31, e32, h⟩ := h
          refine ⟨b31, e32, ?_⟩
          obtain ⟨c33, h⟩ := h
          refine ⟨c33, ?_⟩
          have n34 := ob_nq oc c33 (by decide)
          obtain ⟨b35, e36, h⟩ := h
          refine ⟨b35, e36, ?_⟩
          obtain ⟨c37, h⟩ := h
          refine ⟨c37, ?_⟩
          have n38 := ob_nq oc c37 (by decide)
          obtain ⟨c39, h⟩ := h
          refine ⟨c39, ?_⟩
          intro x41 e40
          have h := h x41 e40
          intro x43 e42
          have h := h x43 e42
          exact nf_X11_worst_62 h oc
        · intro c44
          have h := h.2 c44
          exact nf_X11_worst_39 h oc
theorem nf_X11_worst {Q : Int32 → HS → Prop} {v0 : Nat} {v1 : Int32} {v2 : Int32} {v3 : Int32} {v4 : Int32} {S : HS} (h : P_X11_worst v0 v1 v2 v3 v4 Q S) (oc : ob S v0 11) : P_X11_worst v0 v1 v2 v3 v4 (fun r T => Q r T ∧ NFq 11 2 c11 v0 T) S := nf_X11_worst_0 h oc
set_option maxRecDepth 20000 in
set_option maxHeartbeats 1000000 in
theorem nf_X9_grant_0 {Q : Int32 → HS → Prop} {v0 : Nat} {v1 : Int32} {S : HS} (h : P_X9_grant_0 Q v0 v1 S) (oc : ob S v0 9) : P_X9_grant_0 (fun r T => Q r T ∧ NFq 9 9 c9 v0 T) v0 v1 S := by
  delta P_X9_grant_0 at h ⊢
  obtain ⟨c1, h⟩ := h
  refine ⟨c1, ?_⟩
  intro x3 e2
  have h := h x3 e2
  have N := nf_set (C := c9) oc e2 (by decide)
  have oc := N.1
  exact ⟨h, N⟩
theorem nf_X9_grant {Q : Int32 → HS → Prop} {v0 : Nat} {v1 : Int32} {S : HS} (h : P_X9_grant v0 v1 Q S) (oc : ob S v0 9) : P_X9_grant v0 v1 (fun r T => Q r T ∧ NFq 9 9 c9 v0 T) S := nf_X9_grant_0 h oc
set_option maxRecDepth 20000 in
set_option maxHeartbeats 1000000 in
theorem nf_X9_air_0 {Q : Int32 → HS → Prop} {v0 : Nat} {v1 : Int32} {v2 : Int32} {v3 : Int32} {S : HS} (h : P_X9_air_0 Q v0 v1 v2 v3 S) (oc : ob S v0 9) : P_X9_air_0 (fun r T => Q r T ∧ NFq 9 9 c9 v0 T) v0 v1 v2 v3 S := by
  delta P_X9_air_0 at h ⊢
  obtain ⟨c1, h⟩ := h
  refine ⟨c1, ?_⟩
  obtain ⟨b2, e3, h⟩ := h
  refine ⟨b2, e3, ?_⟩
  obtain ⟨c4, h⟩ := h
  refine ⟨c4, ?_⟩
  have n5 := ob_nq oc c4 (by decide)
  refine cm_X8_hasRoad (kg_X8_hasRoad h) h (fun x6 x7 p10 h g8 g9 => ?_)
  have h := h g8 g9
  have oc := gr_ob p10.2.1 oc
  refine ⟨?_, ?_⟩
  · intro c11
    have h := h.1 c11
    intro x13 e12
    have h := h x13 e12
    have N := nf_set (C := c9) oc e12 (by decide)
    have oc := N.1
    exact ⟨h, N⟩
  · intro c14
    have h := h.2 c14
    refine cm_X9_isWay (kg_X9_isWay h) h (fun x15 x16 p19 h g17 g18 => ?_)
    have h := h g17 g18
    have oc := gr_ob p19.2.1 oc
    refine ⟨?_, ?_⟩
    · intro c20
      have h := h.1 c20
      intro x22 e21
      have h := h x22 e21
      have N := nf_set (C := c9) oc e21 (by decide)
      have oc := N.1
      exact ⟨h, N⟩
    · intro c23
      have h := h.2 c23
      obtain ⟨b24, e25, h⟩ := h
      refine ⟨b24, e25, ?_⟩
      obtain ⟨c26, h⟩ := h
      refine ⟨c26, ?_⟩
      have n27 := ob_nq oc c26 (by decide)
      refine cm_X8_hasHour (kg_X8_hasHour h) h (fun x28 x29 p32 h g30 g31 => ?_)
      have h := h g30 g31
      have oc := gr_ob p32.2.1 oc
      refine ⟨?_, ?_⟩
      · intro c33
        have h := h.1 c33
        obtain ⟨b34, e35, h⟩ := h
        refine ⟨b34, e35, ?_⟩
        obtain ⟨c36, h⟩ := h
        refine ⟨c36, ?_⟩
        have n37 := ob_nq oc c36 (by decide)
        obtain ⟨b38, e39, h⟩ := h
        refine ⟨b38, e39, ?_⟩
        obtain ⟨c40, h⟩ := h
        refine ⟨c40, ?_⟩
        have n41 := ob_nq oc c40 (by decide)
        obtain ⟨c42, h⟩ := h
        refine ⟨c42, ?_⟩
        obtain ⟨b43, e44, h⟩ := h
        refine ⟨b43, e44, ?_⟩
        obtain ⟨b45, e46, h⟩ := h
        refine ⟨b45, e46, ?_⟩
        obtain ⟨c47, h⟩ := h
        refine ⟨c47, ?_⟩
        have n48 := ob_nq oc c47 (by decide)
        obtain ⟨b49, e50, h⟩ := h
        refine ⟨b49, e50, ?_⟩
        obtain ⟨c51, h⟩ := h
        refine ⟨c51, ?_⟩
        have n52 := ob_nq oc c51 (by decide)
        obtain ⟨c53, h⟩ := h
        refine ⟨c53, ?_⟩
        obtain ⟨b54, e55, h⟩ := h
        refine ⟨b54, e55, ?_⟩
        obtain ⟨c56, h⟩ := h
        refine ⟨c56, ?_⟩
        have n57 := ob_nq oc c56 (by decide)
        refine cm_X5_airAlong (kg_X5_airAlong h) h (fun x58 x59 p61 h g60 => ?_)
        have h := h g60
        have oc := gr_ob p61.2.1 oc
        refine cm_X9_grant (nf_X9_grant h oc) h (fun x62 x63 p65 h g64 => ?_)
        have h := h g64
        have N := p65.2
        have oc := N.1
        exact ⟨h, N⟩
      · intro c66
        have h := h.2 c66
        intro x68 e67
        have h := h x68 e67
        have N := nf_set (C := c9) oc e67 (by decide)
        have oc := N.1
        exact ⟨h, N⟩
theorem nf_X9_air {Q : Int32 → HS → Prop} {v0 : Nat} {v1 : Int32} {v2 : Int32} {v3 : Int32} {S : HS} (h : P_X9_air v0 v1 v2 v3 Q S) (oc : ob S v0 9) : P_X9_air v0 v1 v2 v3 (fun r T => Q r T ∧ NFq 9 9 c9 v0 T) S := nf_X9_air_0 h oc
set_option maxRecDepth 20000 in
set_option maxHeartbeats 1000000 in
theorem nf_X9_refusedBy_0 {Q : Int32 → HS → Prop} {v0 : Nat} {v1 : Int32} {S : HS} (h : P_X9_refusedBy_0 Q v0 v1 S) (oc : ob S v0 9) (z_v1 : c9 v1) : P_X9_refusedBy_0 (fun r T => Q r T ∧ NFq 9 9 c9 v0 T) v0 v1 S := by
  delta P_X9_refusedBy_0 at h ⊢
  obtain ⟨c1, h⟩ := h
  refine ⟨c1, ?_⟩
  intro x3 e2
  have h := h x3 e2
  have N := nf_set (C := c9) oc e2 z_v1
  have oc := N.1
  refine ⟨?_, ?_⟩
  · intro c4
    have h := h.1 c4
    exact ⟨h, N⟩
  · intro c5
    have h := h.2 c5
    exact ⟨h, N⟩
theorem nf_X9_refusedBy {Q : Int32 → HS → Prop} {v0 : Nat} {v1 : Int32} {S : HS} (h : P_X9_refusedBy v0 v1 Q S) (oc : ob S v0 9) (z_v1 : c9 v1) : P_X9_refusedBy v0 v1 (fun r T => Q r T ∧ NFq 9 9 c9 v0 T) S := nf_X9_refusedBy_0 h oc z_v1
set_option maxRecDepth 20000 in
set_option maxHeartbeats 1000000 in
theorem nf_X9_back_17 {Q : Int32 → HS → Prop} {s0 : Nat} {s1 : Int32} {v0 : Nat} {S : HS} (h : P_X9_back_17 Q s0 s1 S) (oc : ob S v0 9) (q_s0 : s0 = v0) (z_s1 : c9 s1) : P_X9_back_17 (fun r T => Q r T ∧ NFq 9 9 c9 v0 T) s0 s1 S := by
  delta P_X9_back_17 at h ⊢
  subst q_s0
  obtain ⟨c1, h⟩ := h
  refine ⟨c1, ?_⟩
  refine cm_X9_refusedBy (nf_X9_refusedBy h oc z_s1) h (fun x2 x3 p6 h g4 g5 => ?_)
  have h := h g4 g5
  have N := p6.2
  have oc := N.1
  refine ⟨?_, ?_⟩
  · intro c7
    have h := h.1 c7
    exact ⟨h, N⟩
  · intro c8
    have h := h.2 c8
    exact ⟨h, N⟩
set_option maxRecDepth 20000 in
set_option maxHeartbeats 1000000 in
theorem nf_X9_back_0 {Q : Int32 → HS → Prop} {v0 : Nat} {v1 : Int32} {S : HS} (h : P_X9_back_0 Q v0 v1 S) (oc : ob S v0 9) : P_X9_back_0 (fun r T => Q r T ∧ NFq 9 9 c9 v0 T) v0 v1 S := by
  delta P_X9_back_0 at h ⊢
  obtain ⟨c1, h⟩ := h
  refine ⟨c1, ?_⟩
  obtain ⟨b2, e3, h⟩ := h
  refine ⟨b2, e3, ?_⟩
  obtain ⟨c4, h⟩ := h
  refine ⟨c4, ?_⟩
  have n5 := ob_nq oc c4 (by decide)
  refine cm_X0_returnTo (kg_X0_returnTo h) h (fun x6 x7 p10 h g8 g9 => ?_)
  have h := h g8 g9
  have oc := gr_ob p10.2.1 oc
  refine ⟨?_, ?_⟩
  · intro c11
    have h := h.1 c11
    exact nf_X9_back_17 h oc rfl (by decide)
  · intro c12
    have h := h.2 c12
    exact nf_X9_back_17 h oc rfl (by decide)
theorem nf_X9_back {Q : Int32 → HS → Prop} {v0 : Nat} {v1 : Int32} {S : HS} (h : P_X9_back v0 v1 Q S) (oc : ob S v0 9) : P_X9_back v0 v1 (fun r T => Q r T ∧ NFq 9 9 c9 v0 T) S := nf_X9_back_0 h oc
set_option maxRecDepth 20000 in
set_option maxHeartbeats 1000000 in
theorem nr_X9_tripTrouble_46 {Q : Int32 → HS → Prop} {s0 : Int32} {S : HS} (h : P_X9_tripTrouble_46 Q s0 S) : P_X9_tripTrouble_46 (fun r T => Q r T ∧ c9 r) s0 S := by
  delta P_X9_tripTrouble_46 at h ⊢
  refine ⟨?_, ?_⟩
  · intro c1
    have h := h.1 c1
    exact ⟨h, (by decide)⟩
  · intro c2
    have h := h.2 c2
    exact ⟨h, (by decide)⟩
set_option maxRecDepth 20000 in
set_option maxHeartbeats 1000000 in
theorem nr_X9_tripTrouble_45 {Q : Int32 → HS → Prop} {S : HS} (h : P_X9_tripTrouble_45 Q S) : P_X9_tripTrouble_45 (fun r T => Q r T ∧ c9 r) S := by
  delta P_X9_tripTrouble_45 at h ⊢
  exact nr_X9_tripTrouble_46 h
set_option maxRecDepth 20000 in
set_option maxHeartbeats 1000000 in
theorem nr_X9_tripTrouble_0 {Q : Int32 → HS → Prop} {v0 : Nat} {v1 : Int32} {v2 : Int32} {v3 : Int32} {v4 : Int32} {S : HS} (h : P_X9_tripTrouble_0 Q v0 v1 v2 v3 v4 S) : P_X9_tripTrouble_0 (fun r T => Q r T ∧ c9 r) v0 v1 v2 v3 v4 S := by
  delta P_X9_tripTrouble_0 at h ⊢
  obtain ⟨c1, h⟩ := h
  refine ⟨c1, ?_⟩
  obtain ⟨b2, e3, h⟩ := h
  refine ⟨b2, e3, ?_⟩
  obtain ⟨c4, h⟩ := h
  refine ⟨c4, ?_⟩
  refine cm_X8_hasWalker h h (fun x5 x6 h _ g7 g8 => ?_)
  have h := h g7 g8
  refine ⟨?_, ?_⟩
  · intro c10
    have h := h.1 c10
    exact nr_X9_tripTrouble_45 h
  · intro c11
    have h := h.2 c11
    obtain ⟨b12, e13, h⟩ := h
    refine ⟨b12, e13, ?_⟩
    obtain ⟨c14, h⟩ := h
    refine ⟨c14, ?_⟩
    refine cm_X8_hasRoad h h (fun x15 x16 h _ g17 g18 => ?_)
    have h := h g17 g18
    refine ⟨?_, ?_⟩
    · intro c20
      have h := h.1 c20
      exact nr_X9_tripTrouble_45 h
    · intro c21
      have h := h.2 c21
      refine cm_X9_isWay h h (fun x22 x23 h _ g24 g25 => ?_)
      have h := h g24 g25
      refine ⟨?_, ?_⟩
      · intro c27
        have h := h.1 c27
        exact nr_X9_tripTrouble_45 h
      · intro c28
        have h := h.2 c28
        obtain ⟨b29, e30, h⟩ := h
        refine ⟨b29, e30, ?_⟩
        obtain ⟨c31, h⟩ := h
        refine ⟨c31, ?_⟩
        refine cm_X8_hasHour h h (fun x32 x33 h _ g34 g35 => ?_)
        have h := h g34 g35
        refine ⟨?_, ?_⟩
        · intro c37
          have h := h.1 c37
          exact nr_X9_tripTrouble_45 h
        · intro c38
          have h := h.2 c38
          exact nr_X9_tripTrouble_46 h
theorem nr_X9_tripTrouble {Q : Int32 → HS → Prop} {v0 : Nat} {v1 : Int32} {v2 : Int32} {v3 : Int32} {v4 : Int32} {S : HS} (h : P_X9_tripTrouble v0 v1 v2 v3 v4 Q S) : P_X9_tripTrouble v0 v1 v2 v3 v4 (fun r T => Q r T ∧ c9 r) S := nr_X9_tripTrouble_0 h
theorem kr_X9_tripTrouble {Q : Int32 → HS → Prop} {v0 : Nat} {v1 : Int32} {v2 : Int32} {v3 : Int32} {v4 : Int32} {S : HS} (h : P_X9_tripTrouble v0 v1 v2 v3 v4 Q S) : P_X9_tripTrouble v0 v1 v2 v3 v4 (fun r T => Q r T ∧ K5 S T ∧ c9 r) S := cm_X9_tripTrouble (kg_X9_tripTrouble h) (nr_X9_tripTrouble h) (fun _ _ a b => ⟨a.1, a.2, b.2⟩)
set_option maxRecDepth 20000 in
set_option maxHeartbeats 1000000 in
theorem nf_X9_best_0 {Q : Int32 → HS → Prop} {v0 : Nat} {v1 : Int32} {v2 : Int32} {v3 : Int32} {v4 : Int32} {S : HS} (h : P_X9_best_0 Q v0 v1 v2 v3 v4 S) (oc : ob S v0 9) : P_X9_best_0 (fun r T => Q r T ∧ NFq 9 9 c9 v0 T) v0 v1 v2 v3 v4 S := by
  delta P_X9_best_0 at h ⊢
  obtain ⟨c1, h⟩ := h
  refine ⟨c1, ?_⟩
  refine cm_X9_tripTrouble (kr_X9_tripTrouble h) h (fun x2 x3 p5 h g4 => ?_)
  have h := h g4
  have oc := gr_ob p5.2.1.1 oc
  refine cm_X9_refusedBy (nf_X9_refusedBy h oc p5.2.2) h (fun x6 x7 p10 h g8 g9 => ?_)
  have h := h g8 g9
  have N := p10.2
  have oc := N.1
  refine ⟨?_, ?_⟩
  · intro c11
    have h := h.1 c11
    obtain ⟨b12, e13, h⟩ := h
    refine ⟨b12, e13, ?_⟩
    obtain ⟨b14, e15, h⟩ := h
    refine ⟨b14, e15, ?_⟩
    obtain ⟨c16, h⟩ := h
    refine ⟨c16, ?_⟩
    have n17 := ob_nq oc c16 (by decide)
    obtain ⟨b18, e19, h⟩ := h
    refine ⟨b18, e19, ?_⟩
    obtain ⟨c20, h⟩ := h
    refine ⟨c20, ?_⟩
    have n21 := ob_nq oc c20 (by decide)
    obtain ⟨c22, h⟩ := h
    refine ⟨c22, ?_⟩
    obtain ⟨b23, e24, h⟩ := h
    refine ⟨b23, e24, ?_⟩
    obtain ⟨b25, e26, h⟩ := h
    refine ⟨b25, e26, ?_⟩
    obtain ⟨c27, h⟩ := h
    refine ⟨c27, ?_⟩
    have n28 := ob_nq oc c27 (by decide)
    obtain ⟨b29, e30, h⟩ := h
    refine ⟨b29, e30, ?_⟩
    obtain ⟨c31, h⟩ := h
    refine ⟨c31, ?_⟩
    have n32 := ob_nq oc c31 (by decide)
    obtain ⟨c33, h⟩ := h
    refine ⟨c33, ?_⟩
    obtain ⟨b34, e35, h⟩ := h
    refine ⟨b34, e35, ?_⟩
    obtain ⟨b36, e37, h⟩ := h
    refine ⟨b36, e37, ?_⟩
    obtain ⟨c38, h⟩ := h
    refine ⟨c38, ?_⟩
    have n39 := ob_nq oc c38 (by decide)
    obtain ⟨b40, e41, h⟩ := h
    refine ⟨b40, e41, ?_⟩
    obtain ⟨c42, h⟩ := h
    refine ⟨c42, ?_⟩
    have n43 := ob_nq oc c42 (by decide)
    obtain ⟨c44, h⟩ := h
    refine ⟨c44, ?_⟩
    obtain ⟨b45, e46, h⟩ := h
    refine ⟨b45, e46, ?_⟩
    obtain ⟨c47, h⟩ := h
    refine ⟨c47, ?_⟩
    have n48 := ob_nq oc c47 (by decide)
    refine cm_X1_bestSpeed (kg_X1_bestSpeed h) h (fun x49 x50 p52 h g51 => ?_)
    have h := h g51
    have oc := gr_ob p52.2.1 oc
    have N := nf_K N p52.2 (by decide)
    exact ⟨h, N⟩
  · intro c53
    have h := h.2 c53
    exact ⟨h, N⟩
theorem nf_X9_best {Q : Int32 → HS → Prop} {v0 : Nat} {v1 : Int32} {v2 : Int32} {v3 : Int32} {v4 : Int32} {S : HS} (h : P_X9_best v0 v1 v2 v3 v4 Q S) (oc : ob S v0 9) : P_X9_best v0 v1 v2 v3 v4 (fun r T => Q r T ∧ NFq 9 9 c9 v0 T) S := nf_X9_best_0 h oc
set_option maxRecDepth 20000 in
set_option maxHeartbeats 1000000 in
theorem nf_X9_refuse_0 {Q : Int32 → HS → Prop} {v0 : Nat} {v1 : Int32} {S : HS} (h : P_X9_refuse_0 Q v0 v1 S) (oc : ob S v0 9) (z_v1 : c9 v1) : P_X9_refuse_0 (fun r T => Q r T ∧ NFq 9 9 c9 v0 T) v0 v1 S := by
  delta P_X9_refuse_0 at h ⊢
  obtain ⟨c1, h⟩ := h
  refine ⟨c1, ?_⟩
  intro x3 e2
  have h := h x3 e2
  have N := nf_set (C := c9) oc e2 z_v1
  have oc := N.1
  exact ⟨h, N⟩
theorem nf_X9_refuse {Q : Int32 → HS → Prop} {v0 : Nat} {v1 : Int32} {S : HS} (h : P_X9_refuse v0 v1 Q S) (oc : ob S v0 9) (z_v1 : c9 v1) : P_X9_refuse v0 v1 (fun r T => Q r T ∧ NFq 9 9 c9 v0 T) S := nf_X9_refuse_0 h oc z_v1
set_option maxRecDepth 20000 in
set_option maxHeartbeats 1000000 in
theorem nf_X9_day_22 {Q : Int32 → HS → Prop} {v0 : Nat} {S : HS} (h : P_X9_day_22 Q v0 S) (oc : ob S v0 9) : P_X9_day_22 (fun r T => Q r T ∧ NFq 9 9 c9 v0 T) v0 S := by
  delta P_X9_day_22 at h ⊢
  obtain ⟨c1, h⟩ := h
  refine ⟨c1, ?_⟩
  refine cm_X9_refuse (nf_X9_refuse h oc (by decide)) h (fun x2 x3 p5 h g4 => ?_)
  have h := h g4
  have N := p5.2
  have oc := N.1
  exact ⟨h, N⟩
set_option maxRecDepth 20000 in
set_option maxHeartbeats 1000000 in
theorem nf_X9_day_52 {Q : Int32 → HS → Prop} {v0 : Nat} {S : HS} (h : P_X9_day_52 Q v0 S) (oc : ob S v0 9) : P_X9_day_52 (fun r T => Q r T ∧ NFq 9 9 c9 v0 T) v0 S := by
  delta P_X9_day_52 at h ⊢
  obtain ⟨c1, h⟩ := h
  refine ⟨c1, ?_⟩
  refine cm_X9_refuse (nf_X9_refuse h oc (by decide)) h (fun x2 x3 p5 h g4 => ?_)
  have h := h g4
  have N := p5.2
  have oc := N.1
  exact ⟨h, N⟩
set_option maxRecDepth 20000 in
set_option maxHeartbeats 1000000 in
theorem nf_X9_day_0 {Q : Int32 → HS → Prop} {v0 : Nat} {v1 : Int32} {v2 : Int32} {v3 : Int32} {v4 : Int32} {S : HS} (h : P_X9_day_0 Q v0 v1 v2 v3 v4 S) (oc : ob S v0 9) : P_X9_day_0 (fun r T => Q r T ∧ NFq 9 9 c9 v0 T) v0 v1 v2 v3 v4 S := by
  delta P_X9_day_0 at h ⊢
  obtain ⟨c1, h⟩ := h
  refine ⟨c1, ?_⟩
  obtain ⟨b2, e3, h⟩ := h
  refine ⟨b2, e3, ?_⟩
  obtain ⟨c4, h⟩ := h
  refine ⟨c4, ?_⟩
  have n5 := ob_nq oc c4 (by decide)
  refine cm_X8_hasWalker (kg_X8_hasWalker h) h (fun x6 x7 p10 h g8 g9 => ?_)
  have h := h g8 g9
  have oc := gr_ob p10.2.1 oc
  refine ⟨?_, ?_⟩
  · intro c11
    have h := h.1 c11
    exact nf_X9_day_22 h oc
  · intro c12
    have h := h.2 c12
    obtain ⟨b13, e14, h⟩ := h
    refine ⟨b13, e14, ?_⟩
    obtain ⟨c15, h⟩ := h
    refine ⟨c15, ?_⟩
    have n16 := ob_nq oc c15 (by decide)
    refine cm_X8_hasPlace (kg_X8_hasPlace h) h (fun x17 x18 p21 h g19 g20 => ?_)
    have h := h g19 g20
    have oc := gr_ob p21.2.1 oc
    refine ⟨?_, ?_⟩
    · intro c22
      have h := h.1 c22
      refine ⟨?_, ?_⟩
      · intro c23
        have h := h.1 c23
        exact nf_X9_day_52 h oc
      · intro c24
        have h := h.2 c24
        refine ⟨?_, ?_⟩
        · intro c25
          have h := h.1 c25
          exact nf_X9_day_52 h oc
        · intro c26
          have h := h.2 c26
          refine ⟨?_, ?_⟩
          · intro c27
            have h := h.1 c27
            exact nf_X9_day_52 h oc
          · intro c28
            have h := h.2 c28
            refine ⟨?_, ?_⟩
            · intro c29
              have h := h.1 c29
              obtain ⟨b30, e31, h⟩ := h
              refine ⟨b30, e31, ?_⟩
              obtain ⟨c32, h⟩ := h
              refine ⟨c32, ?_⟩
              have n33 := ob_nq oc c32 (by decide)
              refine cm_X0_begin (kg_X0_begin h) h (fun x34 p36 h g35 => ?_)
              have h := h g35
              have oc := gr_ob p36.2.1 oc
              obtain ⟨b37, e38, h⟩ := h
              refine ⟨b37, e38, ?_⟩
              obtain ⟨b39, e40, h⟩ := h
              refine ⟨b39, e40, ?_⟩
              obtain ⟨c41, h⟩ := h
              refine ⟨c41, ?_⟩
              have n42 := ob_nq oc c41 (by decide)
              refine cm_X0_draw (kg_X0_draw h) h (fun x43 p45 h g44 => ?_)
              have h := h g44
              have oc := gr_ob p45.2.1 oc
              obtain ⟨b46, e47, h⟩ := h
              refine ⟨b46, e47, ?_⟩
              obtain ⟨c48, h⟩ := h
              refine ⟨c48, ?_⟩
              have n49 := ob_nq oc c48 (by decide)
              intro x51 e50
              have h := h x51 e50
              refine cm_X9_grant (nf_X9_grant h oc) h (fun x52 x53 p55 h g54 => ?_)
              have h := h g54
              have N := p55.2
              have oc := N.1
              exact ⟨h, N⟩
            · intro c56
              have h := h.2 c56
              exact nf_X9_day_52 h oc
    · intro c57
      have h := h.2 c57
      exact nf_X9_day_22 h oc
theorem nf_X9_day {Q : Int32 → HS → Prop} {v0 : Nat} {v1 : Int32} {v2 : Int32} {v3 : Int32} {v4 : Int32} {S : HS} (h : P_X9_day v0 v1 v2 v3 v4 Q S) (oc : ob S v0 9) : P_X9_day v0 v1 v2 v3 v4 (fun r T => Q r T ∧ NFq 9 9 c9 v0 T) S := nf_X9_day_0 h oc
set_option maxRecDepth 20000 in
set_option maxHeartbeats 1000000 in
theorem nf_X9_driest_29 {Q : Int32 → HS → Prop} {v0 : Nat} {S : HS} (h : P_X9_driest_29 Q v0 S) (oc : ob S v0 9) : P_X9_driest_29 (fun r T => Q r T ∧ NFq 9 9 c9 v0 T) v0 S := by
  delta P_X9_driest_29 at h ⊢
  obtain ⟨c1, h⟩ := h
  refine ⟨c1, ?_⟩
  refine cm_X9_refuse (nf_X9_refuse h oc (by decide)) h (fun x2 x3 p5 h g4 => ?_)
  have h := h g4
  have N := p5.2
  have oc := N.1
  exact ⟨h, N⟩
set_option maxRecDepth 20000 in
set_option maxHeartbeats 1000000 in
theorem nf_X9_driest_140 {Q : Int32 → HS → Prop} {X63 X63_2 : Nat → Int32 → Int32 → Int32 → Int32 → Int64 → Int32 → HS → Prop} {v0 : Nat} {v1 : Int32} {v2 : Int32} {v3 : Int32} {v4 : Int32} {v5 : Int64} {v7 : Int32} {S : HS} (h : P_X9_driest_140 Q X63 v0 v1 v2 v3 v4 v5 v7 S) (oc : ob S v0 9) (hX63 : ∀ (u0 : Nat) (u1 : Int32) (u2 : Int32) (u3 : Int32) (u4 : Int32) (u5 : Int64) (u6 : Int32) (u7 : HS), X63 u0 u1 u2 u3 u4 u5 u6 u7 → u0 = v0 → ob u7 v0 9 → X63_2 u0 u1 u2 u3 u4 u5 u6 u7) : P_X9_driest_140 (fun r T => Q r T ∧ NFq 9 9 c9 v0 T) X63_2 v0 v1 v2 v3 v4 v5 v7 S := by
  delta P_X9_driest_140 at h ⊢
  intro x2 e1
  have h := h x2 e1
  exact hX63 _ _ _ _ _ _ _ _ h rfl oc
set_option maxRecDepth 20000 in
set_option maxHeartbeats 1000000 in
theorem nfB_X9_driest_63 {Q : Int32 → HS → Prop} {X63 X63_2 : Nat → Int32 → Int32 → Int32 → Int32 → Int64 → Int32 → HS → Prop} {v0 : Nat} {v1 : Int32} {v2 : Int32} {v3 : Int32} {v4 : Int32} {v5 : Int64} {v7 : Int32} {S : HS} (h : B_X9_driest_63 Q X63 v0 v1 v2 v3 v4 v5 v7 S) (oc : ob S v0 9) (hX63 : ∀ (u0 : Nat) (u1 : Int32) (u2 : Int32) (u3 : Int32) (u4 : Int32) (u5 : Int64) (u6 : Int32) (u7 : HS), X63 u0 u1 u2 u3 u4 u5 u6 u7 → u0 = v0 → ob u7 v0 9 → X63_2 u0 u1 u2 u3 u4 u5 u6 u7) : B_X9_driest_63 (fun r T => Q r T ∧ NFq 9 9 c9 v0 T) X63_2 v0 v1 v2 v3 v4 v5 v7 S := by
  delta B_X9_driest_63 at h ⊢
  obtain ⟨c1, h⟩ := h
  refine ⟨c1, ?_⟩
  obtain ⟨b2, e3, h⟩ := h
  refine ⟨b2, e3, ?_⟩
  obtain ⟨c4, h⟩ := h
  refine ⟨c4, ?_⟩
  have n5 := ob_nq oc c4 (by decide)
  intro x7 e6
  have h := h x7 e6
  refine ⟨?_, ?_⟩
  · intro c8
    have h := h.1 c8
    refine cm_X9_grant (nf_X9_grant h oc) h (fun x9 x10 p12 h g11 => ?_)
    have h := h g11
    have N := p12.2
    have oc := N.1
    exact ⟨h, N⟩
  · intro c13
    have h := h.2 c13
    obtain ⟨b14, e15, h⟩ := h
    refine ⟨b14, e15, ?_⟩
    obtain ⟨c16, h⟩ := h
    refine ⟨c16, ?_⟩
    have n17 := ob_nq oc c16 (by decide)
    obtain ⟨b18, e19, h⟩ := h
    refine ⟨b18, e19, ?_⟩
    obtain ⟨c20, h⟩ := h
    refine ⟨c20, ?_⟩
    have n21 := ob_nq oc c20 (by decide)
    obtain ⟨c22, h⟩ := h
    refine ⟨c22, ?_⟩
    obtain ⟨b23, e24, h⟩ := h
    refine ⟨b23, e24, ?_⟩
    obtain ⟨b25, e26, h⟩ := h
    refine ⟨b25, e26, ?_⟩
    obtain ⟨b27, e28, h⟩ := h
    refine ⟨b27, e28, ?_⟩
    obtain ⟨c29, h⟩ := h
    refine ⟨c29, ?_⟩
    have n30 := ob_nq oc c29 (by decide)
    obtain ⟨b31, e32, h⟩ := h
    refine ⟨b31, e32, ?_⟩
    obtain ⟨c33, h⟩ := h
    refine ⟨c33, ?_⟩
    have n34 := ob_nq oc c33 (by decide)
    obtain ⟨c35, h⟩ := h
    refine ⟨c35, ?_⟩
    obtain ⟨b36, e37, h⟩ := h
    refine ⟨b36, e37, ?_⟩
    obtain ⟨b38, e39, h⟩ := h
    refine ⟨b38, e39, ?_⟩
    obtain ⟨c40, h⟩ := h
    refine ⟨c40, ?_⟩
    have n41 := ob_nq oc c40 (by decide)
    obtain ⟨b42, e43, h⟩ := h
    refine ⟨b42, e43, ?_⟩
    obtain ⟨c44, h⟩ := h
    refine ⟨c44, ?_⟩
    have n45 := ob_nq oc c44 (by decide)
    obtain ⟨c46, h⟩ := h
    refine ⟨c46, ?_⟩
    obtain ⟨b47, e48, h⟩ := h
    refine ⟨b47, e48, ?_⟩
    obtain ⟨c49, h⟩ := h
    refine ⟨c49, ?_⟩
    have n50 := ob_nq oc c49 (by decide)
    refine cm_X1_leastWet (kg_X1_leastWet h) h (fun x51 x52 p54 h g53 => ?_)
    have h := h g53
    have oc := gr_ob p54.2.1 oc
    obtain ⟨c55, h⟩ := h
    refine ⟨c55, ?_⟩
    have n56 := ob_nq oc c55 (by decide)
    intro x58 e57
    have h := h x58 e57
    intro x60 e59
    have h := h x60 e59
    refine ⟨?_, ?_⟩
    · intro c61
      have h := h.1 c61
      exact nf_X9_driest_140 h oc hX63
    · intro c62
      have h := h.2 c62
      exact nf_X9_driest_140 h oc hX63
theorem nf_X9_driest_63 {Q : Int32 → HS → Prop} {v0 : Nat} {v1 : Int32} {v2 : Int32} {v3 : Int32} {v4 : Int32} {v5 : Int64} {v7 : Int32} {S : HS} (h : P_X9_driest_63 Q v0 v1 v2 v3 v4 v5 v7 S) (oc : ob S v0 9) : P_X9_driest_63 (fun r T => Q r T ∧ NFq 9 9 c9 v0 T) v0 v1 v2 v3 v4 v5 v7 S := h (fun w0 v1 v2 v3 v4 v5 v7 S => w0 = v0 → ob S v0 9 → P_X9_driest_63 (fun r T => Q r T ∧ NFq 9 9 c9 v0 T) w0 v1 v2 v3 v4 v5 v7 S) (fun w0 v1 v2 v3 v4 v5 v7 S hB e oc => by
  subst e; exact fd_X9_driest_63 (nfB_X9_driest_63 hB oc (fun _ _ _ _ _ _ _ _ hx e oc => hx e oc))) rfl oc
set_option maxRecDepth 20000 in
set_option maxHeartbeats 1000000 in
theorem nf_X9_driest_0 {Q : Int32 → HS → Prop} {v0 : Nat} {v1 : Int32} {v2 : Int32} {v3 : Int32} {S : HS} (h : P_X9_driest_0 Q v0 v1 v2 v3 S) (oc : ob S v0 9) : P_X9_driest_0 (fun r T => Q r T ∧ NFq 9 9 c9 v0 T) v0 v1 v2 v3 S := by
  delta P_X9_driest_0 at h ⊢
  obtain ⟨c1, h⟩ := h
  refine ⟨c1, ?_⟩
  obtain ⟨b2, e3, h⟩ := h
  refine ⟨b2, e3, ?_⟩
  obtain ⟨c4, h⟩ := h
  refine ⟨c4, ?_⟩
  have n5 := ob_nq oc c4 (by decide)
  refine cm_X8_hasWalker (kg_X8_hasWalker h) h (fun x6 x7 p10 h g8 g9 => ?_)
  have h := h g8 g9
  have oc := gr_ob p10.2.1 oc
  refine ⟨?_, ?_⟩
  · intro c11
    have h := h.1 c11
    exact nf_X9_driest_29 h oc
  · intro c12
    have h := h.2 c12
    obtain ⟨b13, e14, h⟩ := h
    refine ⟨b13, e14, ?_⟩
    obtain ⟨c15, h⟩ := h
    refine ⟨c15, ?_⟩
    have n16 := ob_nq oc c15 (by decide)
    refine cm_X8_hasRoad (kg_X8_hasRoad h) h (fun x17 x18 p21 h g19 g20 => ?_)
    have h := h g19 g20
    have oc := gr_ob p21.2.1 oc
    refine ⟨?_, ?_⟩
    · intro c22
      have h := h.1 c22
      exact nf_X9_driest_29 h oc
    · intro c23
      have h := h.2 c23
      refine cm_X9_isWay (kg_X9_isWay h) h (fun x24 x25 p28 h g26 g27 => ?_)
      have h := h g26 g27
      have oc := gr_ob p28.2.1 oc
      refine ⟨?_, ?_⟩
      · intro c29
        have h := h.1 c29
        obtain ⟨b30, e31, h⟩ := h
        refine ⟨b30, e31, ?_⟩
        obtain ⟨c32, h⟩ := h
        refine ⟨c32, ?_⟩
        have n33 := ob_nq oc c32 (by decide)
        intro x35 e34
        have h := h x35 e34
        refine ⟨?_, ?_⟩
        · intro c36
          have h := h.1 c36
          exact nf_X9_driest_63 h oc
        · intro c37
          have h := h.2 c37
          refine cm_X9_refuse (nf_X9_refuse h oc (by decide)) h (fun x38 x39 p41 h g40 => ?_)
          have h := h g40
          have N := p41.2
          have oc := N.1
          exact ⟨h, N⟩
      · intro c42
        have h := h.2 c42
        exact nf_X9_driest_29 h oc
theorem nf_X9_driest {Q : Int32 → HS → Prop} {v0 : Nat} {v1 : Int32} {v2 : Int32} {v3 : Int32} {S : HS} (h : P_X9_driest v0 v1 v2 v3 Q S) (oc : ob S v0 9) : P_X9_driest v0 v1 v2 v3 (fun r T => Q r T ∧ NFq 9 9 c9 v0 T) S := nf_X9_driest_0 h oc
set_option maxRecDepth 20000 in
set_option maxHeartbeats 1000000 in
theorem nf_X9_even_0 {Q : Int32 → HS → Prop} {v0 : Nat} {v1 : Int32} {v2 : Int32} {v3 : Int32} {v4 : Int32} {S : HS} (h : P_X9_even_0 Q v0 v1 v2 v3 v4 S) (oc : ob S v0 9) : P_X9_even_0 (fun r T => Q r T ∧ NFq 9 9 c9 v0 T) v0 v1 v2 v3 v4 S := by
  delta P_X9_even_0 at h ⊢
  obtain ⟨c1, h⟩ := h
  refine ⟨c1, ?_⟩
  refine cm_X9_tripTrouble (kr_X9_tripTrouble h) h (fun x2 x3 p5 h g4 => ?_)
  have h := h g4
  have oc := gr_ob p5.2.1.1 oc
  refine cm_X9_refusedBy (nf_X9_refusedBy h oc p5.2.2) h (fun x6 x7 p10 h g8 g9 => ?_)
  have h := h g8 g9
  have N := p10.2
  have oc := N.1
  refine ⟨?_, ?_⟩
  · intro c11
    have h := h.1 c11
    obtain ⟨b12, e13, h⟩ := h
    refine ⟨b12, e13, ?_⟩
    obtain ⟨c14, h⟩ := h
    refine ⟨c14, ?_⟩
    have n15 := ob_nq oc c14 (by decide)
    obtain ⟨b16, e17, h⟩ := h
    refine ⟨b16, e17, ?_⟩
    obtain ⟨c18, h⟩ := h
    refine ⟨c18, ?_⟩
    have n19 := ob_nq oc c18 (by decide)
    obtain ⟨c20, h⟩ := h
    refine ⟨c20, ?_⟩
    obtain ⟨b21, e22, h⟩ := h
    refine ⟨b21, e22, ?_⟩
    obtain ⟨b23, e24, h⟩ := h
    refine ⟨b23, e24, ?_⟩
    obtain ⟨b25, e26, h⟩ := h
    refine ⟨b25, e26, ?_⟩
    obtain ⟨c27, h⟩ := h
    refine ⟨c27, ?_⟩
    have n28 := ob_nq oc c27 (by decide)
    obtain ⟨b29, e30, h⟩ := h
    refine ⟨b29, e30, ?_⟩
    obtain ⟨c31, h⟩ := h
    refine ⟨c31, ?_⟩
    have n32 := ob_nq oc c31 (by decide)
    obtain ⟨c33, h⟩ := h
    refine ⟨c33, ?_⟩
    obtain ⟨b34, e35, h⟩ := h
    refine ⟨b34, e35, ?_⟩
    obtain ⟨b36, e37, h⟩ := h
    refine ⟨b36, e37, ?_⟩
    obtain ⟨c38, h⟩ := h
    refine ⟨c38, ?_⟩
    have n39 := ob_nq oc c38 (by decide)
    obtain ⟨b40, e41, h⟩ := h
    refine ⟨b40, e41, ?_⟩
    obtain ⟨c42, h⟩ := h
    refine ⟨c42, ?_⟩
    have n43 := ob_nq oc c42 (by decide)
    obtain ⟨c44, h⟩ := h
    refine ⟨c44, ?_⟩
    obtain ⟨b45, e46, h⟩ := h
    refine ⟨b45, e46, ?_⟩
    obtain ⟨c47, h⟩ := h
    refine ⟨c47, ?_⟩
    have n48 := ob_nq oc c47 (by decide)
    refine cm_X1_worstSpeed (kg_X1_worstSpeed h) h (fun x49 x50 p52 h g51 => ?_)
    have h := h g51
    have oc := gr_ob p52.2.1 oc
    have N := nf_K N p52.2 (by decide)
    obtain ⟨b53, e54, h⟩ := h
    refine ⟨b53, e54, ?_⟩
    obtain ⟨b55, e56, h⟩ := h
    refine ⟨b55, e56, ?_⟩
    obtain ⟨c57, h⟩ := h
    refine ⟨c57, ?_⟩
    have n58 := ob_nq oc c57 (by decide)
    obtain ⟨b59, e60, h⟩ := h
    refine ⟨b59, e60, ?_⟩
    obtain ⟨c61, h⟩ := h
    refine ⟨c61, ?_⟩
    have n62 := ob_nq oc c61 (by decide)
    obtain ⟨c63, h⟩ := h
    refine ⟨c63, ?_⟩
    obtain ⟨b64, e65, h⟩ := h
    refine ⟨b64, e65, ?_⟩
    obtain ⟨b66, e67, h⟩ := h
    refine ⟨b66, e67, ?_⟩
    obtain ⟨c68, h⟩ := h
    refine ⟨c68, ?_⟩
    have n69 := ob_nq oc c68 (by decide)
    obtain ⟨b70, e71, h⟩ := h
    refine ⟨b70, e71, ?_⟩
    obtain ⟨c72, h⟩ := h
    refine ⟨c72, ?_⟩
    have n73 := ob_nq oc c72 (by decide)
    obtain ⟨c74, h⟩ := h
    refine ⟨c74, ?_⟩
    obtain ⟨b75, e76, h⟩ := h
    refine ⟨b75, e76, ?_⟩
    obtain ⟨c77, h⟩ := h
    refine ⟨c77, ?_⟩
    have n78 := ob_nq oc c77 (by decide)
    refine cm_X1_leastWet (kg_X1_leastWet h) h (fun x79 x80 p82 h g81 => ?_)
    have h := h g81
    have oc := gr_ob p82.2.1 oc
    have N := nf_K N p82.2 (by decide)
    obtain ⟨b83, e84, h⟩ := h
    refine ⟨b83, e84, ?_⟩
    obtain ⟨b85, e86, h⟩ := h
    refine ⟨b85, e86, ?_⟩
    obtain ⟨c87, h⟩ := h
    refine ⟨c87, ?_⟩
    have n88 := ob_nq oc c87 (by decide)
    obtain ⟨b89, e90, h⟩ := h
    refine ⟨b89, e90, ?_⟩
    obtain ⟨c91, h⟩ := h
    refine ⟨c91, ?_⟩
    have n92 := ob_nq oc c91 (by decide)
    obtain ⟨c93, h⟩ := h
    refine ⟨c93, ?_⟩
    obtain ⟨b94, e95, h⟩ := h
    refine ⟨b94, e95, ?_⟩
    obtain ⟨b96, e97, h⟩ := h
    refine ⟨b96, e97, ?_⟩
    obtain ⟨c98, h⟩ := h
    refine ⟨c98, ?_⟩
    have n99 := ob_nq oc c98 (by decide)
    obtain ⟨b100, e101, h⟩ := h
    refine ⟨b100, e101, ?_⟩
    obtain ⟨c102, h⟩ := h
    refine ⟨c102, ?_⟩
    have n103 := ob_nq oc c102 (by decide)
    obtain ⟨c104, h⟩ := h
    refine ⟨c104, ?_⟩
    obtain ⟨b105, e106, h⟩ := h
    refine ⟨b105, e106, ?_⟩
    obtain ⟨c107, h⟩ := h
    refine ⟨c107, ?_⟩
    have n108 := ob_nq oc c107 (by decide)
    refine cm_X1_wetOf (kg_X1_wetOf h) h (fun x109 x110 p112 h g111 => ?_)
    have h := h g111
    have oc := gr_ob p112.2.1 oc
    have N := nf_K N p112.2 (by decide)
    refine ⟨?_, ?_⟩
    · intro c113
      have h := h.1 c113
      exact ⟨h, N⟩
    · intro c114
      have h := h.2 c114
      exact ⟨h, N⟩
  · intro c115
    have h := h.2 c115
    exact ⟨h, N⟩
theorem nf_X9_even {Q : Int32 → HS → Prop} {v0 : Nat} {v1 : Int32} {v2 : Int32} {v3 : Int32} {v4 : Int32} {S : HS} (h : P_X9_even v0 v1 v2 v3 v4 Q S) (oc : ob S v0 9) : P_X9_even v0 v1 v2 v3 v4 (fun r T => Q r T ∧ NFq 9 9 c9 v0 T) S := nf_X9_even_0 h oc
end
section
set_option maxRecDepth 20000 in
set_option maxHeartbeats 1000000 in
theorem nr_X9_legTrouble_0 {Q : Int32 → HS → Prop} {v0 : Nat} {v1 : Int32} {v2 : Int32} {v3 : Int32} {v4 : Int32} {v5 : Int32} {S : HS} (h : P_X9_legTrouble_0 Q v0 v1 v2 v3 v4 v5 S) : P_X9_legTrouble_0 (fun r T => Q r T ∧ c9 r) v0 v1 v2 v3 v4 v5 S := by
  delta P_X9_legTrouble_0 at h ⊢
  obtain ⟨c1, h⟩ := h
  refine ⟨c1, ?_⟩
  refine cm_X9_tripTrouble (kr_X9_tripTrouble h) h (fun x2 x3 p5 h g4 => ?_)
  have h := h g4
  refine ⟨?_, ?_⟩
  · intro c6
    have h := h.1 c6
    obtain ⟨b7, e8, h⟩ := h
    refine ⟨b7, e8, ?_⟩
    obtain ⟨c9, h⟩ := h
    refine ⟨c9, ?_⟩
    obtain ⟨b10, e11, h⟩ := h
    refine ⟨b10, e11, ?_⟩
    obtain ⟨c12, h⟩ := h
    refine ⟨c12, ?_⟩
    obtain ⟨c13, h⟩ := h
    refine ⟨c13, ?_⟩
    obtain ⟨b14, e15, h⟩ := h
    refine ⟨b14, e15, ?_⟩
    obtain ⟨c16, h⟩ := h
    refine ⟨c16, ?_⟩
    refine cm_X6_canGo h h (fun x17 x18 h _ g19 g20 => ?_)
    have h := h g19 g20
    refine ⟨?_, ?_⟩
    · intro c22
      have h := h.1 c22
      exact ⟨h, (by decide)⟩
    · intro c23
      have h := h.2 c23
      exact ⟨h, (by decide)⟩
  · intro c24
    have h := h.2 c24
    exact ⟨h, p5.2.2⟩
theorem nr_X9_legTrouble {Q : Int32 → HS → Prop} {v0 : Nat} {v1 : Int32} {v2 : Int32} {v3 : Int32} {v4 : Int32} {v5 : Int32} {S : HS} (h : P_X9_legTrouble v0 v1 v2 v3 v4 v5 Q S) : P_X9_legTrouble v0 v1 v2 v3 v4 v5 (fun r T => Q r T ∧ c9 r) S := nr_X9_legTrouble_0 h
theorem kr_X9_legTrouble {Q : Int32 → HS → Prop} {v0 : Nat} {v1 : Int32} {v2 : Int32} {v3 : Int32} {v4 : Int32} {v5 : Int32} {S : HS} (h : P_X9_legTrouble v0 v1 v2 v3 v4 v5 Q S) : P_X9_legTrouble v0 v1 v2 v3 v4 v5 (fun r T => Q r T ∧ K5 S T ∧ c9 r) S := cm_X9_legTrouble (kg_X9_legTrouble h) (nr_X9_legTrouble h) (fun _ _ a b => ⟨a.1, a.2, b.2⟩)
set_option maxRecDepth 20000 in
set_option maxHeartbeats 1000000 in
theorem nf_X9_face_23 {Q : Int64 → HS → Prop} {v0 : Nat} {v1 : Int32} {v2 : Int32} {v3 : Int32} {v4 : Int32} {v5 : Int32} {v6 : Int32} {v7 : Int32} {s0 : Int32} {S : HS} (h : P_X9_face_23 Q v0 v1 v2 v3 v4 v5 v6 v7 s0 S) (oc : ob S v0 9) (z_s0 : c9 s0) : P_X9_face_23 (fun r T => Q r T ∧ NFq 9 9 c9 v0 T) v0 v1 v2 v3 v4 v5 v6 v7 s0 S := by
  delta P_X9_face_23 at h ⊢
  obtain ⟨c1, h⟩ := h
  refine ⟨c1, ?_⟩
  refine cm_X9_refusedBy (nf_X9_refusedBy h oc z_s0) h (fun x2 x3 p6 h g4 g5 => ?_)
  have h := h g4 g5
  have N := p6.2
  have oc := N.1
  refine ⟨?_, ?_⟩
  · intro c7
    have h := h.1 c7
    obtain ⟨b8, e9, h⟩ := h
    refine ⟨b8, e9, ?_⟩
    obtain ⟨b10, e11, h⟩ := h
    refine ⟨b10, e11, ?_⟩
    obtain ⟨c12, h⟩ := h
    refine ⟨c12, ?_⟩
    have n13 := ob_nq oc c12 (by decide)
    obtain ⟨b14, e15, h⟩ := h
    refine ⟨b14, e15, ?_⟩
    obtain ⟨c16, h⟩ := h
    refine ⟨c16, ?_⟩
    have n17 := ob_nq oc c16 (by decide)
    obtain ⟨c18, h⟩ := h
    refine ⟨c18, ?_⟩
    obtain ⟨b19, e20, h⟩ := h
    refine ⟨b19, e20, ?_⟩
    obtain ⟨b21, e22, h⟩ := h
    refine ⟨b21, e22, ?_⟩
    obtain ⟨c23, h⟩ := h
    refine ⟨c23, ?_⟩
    have n24 := ob_nq oc c23 (by decide)
    obtain ⟨b25, e26, h⟩ := h
    refine ⟨b25, e26, ?_⟩
    obtain ⟨c27, h⟩ := h
    refine ⟨c27, ?_⟩
    have n28 := ob_nq oc c27 (by decide)
    obtain ⟨c29, h⟩ := h
    refine ⟨c29, ?_⟩
    obtain ⟨b30, e31, h⟩ := h
    refine ⟨b30, e31, ?_⟩
    obtain ⟨b32, e33, h⟩ := h
    refine ⟨b32, e33, ?_⟩
    obtain ⟨c34, h⟩ := h
    refine ⟨c34, ?_⟩
    have n35 := ob_nq oc c34 (by decide)
    obtain ⟨b36, e37, h⟩ := h
    refine ⟨b36, e37, ?_⟩
    obtain ⟨c38, h⟩ := h
    refine ⟨c38, ?_⟩
    have n39 := ob_nq oc c38 (by decide)
    obtain ⟨c40, h⟩ := h
    refine ⟨c40, ?_⟩
    obtain ⟨b41, e42, h⟩ := h
    refine ⟨b41, e42, ?_⟩
    obtain ⟨c43, h⟩ := h
    refine ⟨c43, ?_⟩
    have n44 := ob_nq oc c43 (by decide)
    refine cm_X1_wetOf (kg_X1_wetOf h) h (fun x45 x46 p48 h g47 => ?_)
    have h := h g47
    have oc := gr_ob p48.2.1 oc
    have N := nf_K N p48.2 (by decide)
    obtain ⟨b49, e50, h⟩ := h
    refine ⟨b49, e50, ?_⟩
    obtain ⟨c51, h⟩ := h
    refine ⟨c51, ?_⟩
    have n52 := ob_nq oc c51 (by decide)
    obtain ⟨b53, e54, h⟩ := h
    refine ⟨b53, e54, ?_⟩
    obtain ⟨c55, h⟩ := h
    refine ⟨c55, ?_⟩
    have n56 := ob_nq oc c55 (by decide)
    obtain ⟨c57, h⟩ := h
    refine ⟨c57, ?_⟩
    intro x59 e58
    have h := h x59 e58
    refine cm_X9_fraction (kg_X9_fraction h) h (fun x60 x61 p63 h g62 => ?_)
    have h := h g62
    have oc := gr_ob p63.2.1 oc
    have N := nf_K N p63.2 (by decide)
    exact ⟨h, N⟩
  · intro c64
    have h := h.2 c64
    exact ⟨h, N⟩
set_option maxRecDepth 20000 in
set_option maxHeartbeats 1000000 in
theorem nf_X9_face_0 {Q : Int64 → HS → Prop} {v0 : Nat} {v1 : Int32} {v2 : Int32} {v3 : Int32} {v4 : Int32} {v5 : Int32} {v6 : Int32} {v7 : Int32} {S : HS} (h : P_X9_face_0 Q v0 v1 v2 v3 v4 v5 v6 v7 S) (oc : ob S v0 9) : P_X9_face_0 (fun r T => Q r T ∧ NFq 9 9 c9 v0 T) v0 v1 v2 v3 v4 v5 v6 v7 S := by
  delta P_X9_face_0 at h ⊢
  refine cm_X9_isFace (kg_X9_isFace h) h (fun x1 x2 p5 h g3 g4 => ?_)
  have h := h g3 g4
  have oc := gr_ob p5.2.1 oc
  refine ⟨?_, ?_⟩
  · intro c6
    have h := h.1 c6
    exact nf_X9_face_23 h oc (by decide)
  · intro c7
    have h := h.2 c7
    obtain ⟨c8, h⟩ := h
    refine ⟨c8, ?_⟩
    refine cm_X9_legTrouble (kr_X9_legTrouble h) h (fun x9 x10 p12 h g11 => ?_)
    have h := h g11
    have oc := gr_ob p12.2.1.1 oc
    exact nf_X9_face_23 h oc p12.2.2
theorem nf_X9_face {Q : Int64 → HS → Prop} {v0 : Nat} {v1 : Int32} {v2 : Int32} {v3 : Int32} {v4 : Int32} {v5 : Int32} {v6 : Int32} {v7 : Int32} {S : HS} (h : P_X9_face v0 v1 v2 v3 v4 v5 v6 v7 Q S) (oc : ob S v0 9) : P_X9_face v0 v1 v2 v3 v4 v5 v6 v7 (fun r T => Q r T ∧ NFq 9 9 c9 v0 T) S := nf_X9_face_0 h oc
set_option maxRecDepth 20000 in
set_option maxHeartbeats 1000000 in
theorem nr_X9_leeTrouble_0 {Q : Int32 → HS → Prop} {v0 : Nat} {v1 : Int32} {v2 : Int32} {v3 : Int32} {v4 : Int32} {v5 : Int32} {v6 : Int32} {S : HS} (h : P_X9_leeTrouble_0 Q v0 v1 v2 v3 v4 v5 v6 S) : P_X9_leeTrouble_0 (fun r T => Q r T ∧ c9 r) v0 v1 v2 v3 v4 v5 v6 S := by
  delta P_X9_leeTrouble_0 at h ⊢
  refine ⟨?_, ?_⟩
  · intro c1
    have h := h.1 c1
    exact ⟨h, (by decide)⟩
  · intro c2
    have h := h.2 c2
    obtain ⟨c3, h⟩ := h
    refine ⟨c3, ?_⟩
    obtain ⟨b4, e5, h⟩ := h
    refine ⟨b4, e5, ?_⟩
    obtain ⟨c6, h⟩ := h
    refine ⟨c6, ?_⟩
    refine cm_X8_hasWalker h h (fun x7 x8 h _ g9 g10 => ?_)
    have h := h g9 g10
    refine ⟨?_, ?_⟩
    · intro c12
      have h := h.1 c12
      exact ⟨h, (by decide)⟩
    · intro c13
      have h := h.2 c13
      obtain ⟨b14, e15, h⟩ := h
      refine ⟨b14, e15, ?_⟩
      obtain ⟨c16, h⟩ := h
      refine ⟨c16, ?_⟩
      refine cm_X8_hasWalker h h (fun x17 x18 h _ g19 g20 => ?_)
      have h := h g19 g20
      refine ⟨?_, ?_⟩
      · intro c22
        have h := h.1 c22
        refine cm_X9_legTrouble (kr_X9_legTrouble h) h (fun x23 x24 p26 h g25 => ?_)
        have h := h g25
        refine ⟨?_, ?_⟩
        · intro c27
          have h := h.1 c27
          obtain ⟨b28, e29, h⟩ := h
          refine ⟨b28, e29, ?_⟩
          obtain ⟨c30, h⟩ := h
          refine ⟨c30, ?_⟩
          obtain ⟨b31, e32, h⟩ := h
          refine ⟨b31, e32, ?_⟩
          obtain ⟨c33, h⟩ := h
          refine ⟨c33, ?_⟩
          obtain ⟨c34, h⟩ := h
          refine ⟨c34, ?_⟩
          obtain ⟨b35, e36, h⟩ := h
          refine ⟨b35, e36, ?_⟩
          obtain ⟨c37, h⟩ := h
          refine ⟨c37, ?_⟩
          refine cm_X6_canGo h h (fun x38 x39 h _ g40 g41 => ?_)
          have h := h g40 g41
          refine ⟨?_, ?_⟩
          · intro c43
            have h := h.1 c43
            exact ⟨h, (by decide)⟩
          · intro c44
            have h := h.2 c44
            exact ⟨h, (by decide)⟩
        · intro c45
          have h := h.2 c45
          exact ⟨h, p26.2.2⟩
      · intro c46
        have h := h.2 c46
        exact ⟨h, (by decide)⟩
theorem nr_X9_leeTrouble {Q : Int32 → HS → Prop} {v0 : Nat} {v1 : Int32} {v2 : Int32} {v3 : Int32} {v4 : Int32} {v5 : Int32} {v6 : Int32} {S : HS} (h : P_X9_leeTrouble v0 v1 v2 v3 v4 v5 v6 Q S) : P_X9_leeTrouble v0 v1 v2 v3 v4 v5 v6 (fun r T => Q r T ∧ c9 r) S := nr_X9_leeTrouble_0 h
theorem kr_X9_leeTrouble {Q : Int32 → HS → Prop} {v0 : Nat} {v1 : Int32} {v2 : Int32} {v3 : Int32} {v4 : Int32} {v5 : Int32} {v6 : Int32} {S : HS} (h : P_X9_leeTrouble v0 v1 v2 v3 v4 v5 v6 Q S) : P_X9_leeTrouble v0 v1 v2 v3 v4 v5 v6 (fun r T => Q r T ∧ K5 S T ∧ c9 r) S := cm_X9_leeTrouble (kg_X9_leeTrouble h) (nr_X9_leeTrouble h) (fun _ _ a b => ⟨a.1, a.2, b.2⟩)
set_option maxRecDepth 20000 in
set_option maxHeartbeats 1000000 in
theorem nf_X9_first_0 {Q : Int32 → HS → Prop} {v0 : Nat} {v1 : Int32} {v2 : Int32} {v3 : Int32} {v4 : Int32} {v5 : Int32} {v6 : Int32} {S : HS} (h : P_X9_first_0 Q v0 v1 v2 v3 v4 v5 v6 S) (oc : ob S v0 9) : P_X9_first_0 (fun r T => Q r T ∧ NFq 9 9 c9 v0 T) v0 v1 v2 v3 v4 v5 v6 S := by
  delta P_X9_first_0 at h ⊢
  obtain ⟨c1, h⟩ := h
  refine ⟨c1, ?_⟩
  refine cm_X9_leeTrouble (kr_X9_leeTrouble h) h (fun x2 x3 p5 h g4 => ?_)
  have h := h g4
  have oc := gr_ob p5.2.1.1 oc
  refine cm_X9_refusedBy (nf_X9_refusedBy h oc p5.2.2) h (fun x6 x7 p10 h g8 g9 => ?_)
  have h := h g8 g9
  have N := p10.2
  have oc := N.1
  refine ⟨?_, ?_⟩
  · intro c11
    have h := h.1 c11
    obtain ⟨b12, e13, h⟩ := h
    refine ⟨b12, e13, ?_⟩
    obtain ⟨b14, e15, h⟩ := h
    refine ⟨b14, e15, ?_⟩
    obtain ⟨c16, h⟩ := h
    refine ⟨c16, ?_⟩
    have n17 := ob_nq oc c16 (by decide)
    obtain ⟨b18, e19, h⟩ := h
    refine ⟨b18, e19, ?_⟩
    obtain ⟨c20, h⟩ := h
    refine ⟨c20, ?_⟩
    have n21 := ob_nq oc c20 (by decide)
    obtain ⟨c22, h⟩ := h
    refine ⟨c22, ?_⟩
    obtain ⟨b23, e24, h⟩ := h
    refine ⟨b23, e24, ?_⟩
    obtain ⟨b25, e26, h⟩ := h
    refine ⟨b25, e26, ?_⟩
    obtain ⟨c27, h⟩ := h
    refine ⟨c27, ?_⟩
    have n28 := ob_nq oc c27 (by decide)
    obtain ⟨b29, e30, h⟩ := h
    refine ⟨b29, e30, ?_⟩
    obtain ⟨c31, h⟩ := h
    refine ⟨c31, ?_⟩
    have n32 := ob_nq oc c31 (by decide)
    obtain ⟨c33, h⟩ := h
    refine ⟨c33, ?_⟩
    obtain ⟨b34, e35, h⟩ := h
    refine ⟨b34, e35, ?_⟩
    obtain ⟨c36, h⟩ := h
    refine ⟨c36, ?_⟩
    have n37 := ob_nq oc c36 (by decide)
    refine cm_X1_lay (kg_X1_lay h) h (fun x38 p40 h g39 => ?_)
    have h := h g39
    have oc := gr_ob p40.2.1 oc
    have N := nf_K N p40.2 (by decide)
    obtain ⟨b41, e42, h⟩ := h
    refine ⟨b41, e42, ?_⟩
    obtain ⟨b43, e44, h⟩ := h
    refine ⟨b43, e44, ?_⟩
    obtain ⟨c45, h⟩ := h
    refine ⟨c45, ?_⟩
    have n46 := ob_nq oc c45 (by decide)
    obtain ⟨b47, e48, h⟩ := h
    refine ⟨b47, e48, ?_⟩
    obtain ⟨c49, h⟩ := h
    refine ⟨c49, ?_⟩
    have n50 := ob_nq oc c49 (by decide)
    obtain ⟨c51, h⟩ := h
    refine ⟨c51, ?_⟩
    obtain ⟨b52, e53, h⟩ := h
    refine ⟨b52, e53, ?_⟩
    obtain ⟨b54, e55, h⟩ := h
    refine ⟨b54, e55, ?_⟩
    obtain ⟨c56, h⟩ := h
    refine ⟨c56, ?_⟩
    have n57 := ob_nq oc c56 (by decide)
    obtain ⟨b58, e59, h⟩ := h
    refine ⟨b58, e59, ?_⟩
    obtain ⟨c60, h⟩ := h
    refine ⟨c60, ?_⟩
    have n61 := ob_nq oc c60 (by decide)
    obtain ⟨c62, h⟩ := h
    refine ⟨c62, ?_⟩
    obtain ⟨b63, e64, h⟩ := h
    refine ⟨b63, e64, ?_⟩
    obtain ⟨c65, h⟩ := h
    refine ⟨c65, ?_⟩
    have n66 := ob_nq oc c65 (by decide)
    refine cm_X1_wetInLee (kg_X1_wetInLee h) h (fun x67 x68 p70 h g69 => ?_)
    have h := h g69
    have oc := gr_ob p70.2.1 oc
    have N := nf_K N p70.2 (by decide)
    obtain ⟨b71, e72, h⟩ := h
    refine ⟨b71, e72, ?_⟩
    obtain ⟨b73, e74, h⟩ := h
    refine ⟨b73, e74, ?_⟩
    obtain ⟨c75, h⟩ := h
    refine ⟨c75, ?_⟩
    have n76 := ob_nq oc c75 (by decide)
    obtain ⟨b77, e78, h⟩ := h
    refine ⟨b77, e78, ?_⟩
    obtain ⟨c79, h⟩ := h
    refine ⟨c79, ?_⟩
    have n80 := ob_nq oc c79 (by decide)
    obtain ⟨c81, h⟩ := h
    refine ⟨c81, ?_⟩
    obtain ⟨b82, e83, h⟩ := h
    refine ⟨b82, e83, ?_⟩
    obtain ⟨b84, e85, h⟩ := h
    refine ⟨b84, e85, ?_⟩
    obtain ⟨c86, h⟩ := h
    refine ⟨c86, ?_⟩
    have n87 := ob_nq oc c86 (by decide)
    obtain ⟨b88, e89, h⟩ := h
    refine ⟨b88, e89, ?_⟩
    obtain ⟨c90, h⟩ := h
    refine ⟨c90, ?_⟩
    have n91 := ob_nq oc c90 (by decide)
    obtain ⟨c92, h⟩ := h
    refine ⟨c92, ?_⟩
    obtain ⟨b93, e94, h⟩ := h
    refine ⟨b93, e94, ?_⟩
    obtain ⟨c95, h⟩ := h
    refine ⟨c95, ?_⟩
    have n96 := ob_nq oc c95 (by decide)
    refine cm_X1_wetInLee (kg_X1_wetInLee h) h (fun x97 x98 p100 h g99 => ?_)
    have h := h g99
    have oc := gr_ob p100.2.1 oc
    have N := nf_K N p100.2 (by decide)
    refine ⟨?_, ?_⟩
    · intro c101
      have h := h.1 c101
      refine ⟨?_, ?_⟩
      · intro c102
        have h := h.1 c102
        exact ⟨h, N⟩
      · intro c103
        have h := h.2 c103
        exact ⟨h, N⟩
    · intro c104
      have h := h.2 c104
      exact ⟨h, N⟩
  · intro c105
    have h := h.2 c105
    exact ⟨h, N⟩
theorem nf_X9_first {Q : Int32 → HS → Prop} {v0 : Nat} {v1 : Int32} {v2 : Int32} {v3 : Int32} {v4 : Int32} {v5 : Int32} {v6 : Int32} {S : HS} (h : P_X9_first v0 v1 v2 v3 v4 v5 v6 Q S) (oc : ob S v0 9) : P_X9_first v0 v1 v2 v3 v4 v5 v6 (fun r T => Q r T ∧ NFq 9 9 c9 v0 T) S := nf_X9_first_0 h oc
set_option maxRecDepth 20000 in
set_option maxHeartbeats 1000000 in
theorem nf_X9_fit_15 {Q : Int32 → HS → Prop} {v0 : Nat} {S : HS} (h : P_X9_fit_15 Q v0 S) (oc : ob S v0 9) : P_X9_fit_15 (fun r T => Q r T ∧ NFq 9 9 c9 v0 T) v0 S := by
  delta P_X9_fit_15 at h ⊢
  obtain ⟨c1, h⟩ := h
  refine ⟨c1, ?_⟩
  refine cm_X9_refuse (nf_X9_refuse h oc (by decide)) h (fun x2 x3 p5 h g4 => ?_)
  have h := h g4
  have N := p5.2
  have oc := N.1
  exact ⟨h, N⟩
set_option maxRecDepth 20000 in
set_option maxHeartbeats 1000000 in
theorem nf_X9_fit_0 {Q : Int32 → HS → Prop} {v0 : Nat} {v1 : Int32} {v2 : Int32} {S : HS} (h : P_X9_fit_0 Q v0 v1 v2 S) (oc : ob S v0 9) : P_X9_fit_0 (fun r T => Q r T ∧ NFq 9 9 c9 v0 T) v0 v1 v2 S := by
  delta P_X9_fit_0 at h ⊢
  obtain ⟨c1, h⟩ := h
  refine ⟨c1, ?_⟩
  obtain ⟨b2, e3, h⟩ := h
  refine ⟨b2, e3, ?_⟩
  obtain ⟨c4, h⟩ := h
  refine ⟨c4, ?_⟩
  have n5 := ob_nq oc c4 (by decide)
  refine cm_X8_hasSeen (kg_X8_hasSeen h) h (fun x6 x7 p10 h g8 g9 => ?_)
  have h := h g8 g9
  have oc := gr_ob p10.2.1 oc
  refine ⟨?_, ?_⟩
  · intro c11
    have h := h.1 c11
    exact nf_X9_fit_15 h oc
  · intro c12
    have h := h.2 c12
    refine ⟨?_, ?_⟩
    · intro c13
      have h := h.1 c13
      obtain ⟨b14, e15, h⟩ := h
      refine ⟨b14, e15, ?_⟩
      obtain ⟨b16, e17, h⟩ := h
      refine ⟨b16, e17, ?_⟩
      obtain ⟨c18, h⟩ := h
      refine ⟨c18, ?_⟩
      have n19 := ob_nq oc c18 (by decide)
      refine cm_X1_findFit (kg_X1_findFit h) h (fun x20 x21 p23 h g22 => ?_)
      have h := h g22
      have oc := gr_ob p23.2.1 oc
      refine ⟨?_, ?_⟩
      · intro c24
        have h := h.1 c24
        refine cm_X9_grant (nf_X9_grant h oc) h (fun x25 x26 p28 h g27 => ?_)
        have h := h g27
        have N := p28.2
        have oc := N.1
        exact ⟨h, N⟩
      · intro c29
        have h := h.2 c29
        refine cm_X9_refuse (nf_X9_refuse h oc (by decide)) h (fun x30 x31 p33 h g32 => ?_)
        have h := h g32
        have N := p33.2
        have oc := N.1
        exact ⟨h, N⟩
    · intro c34
      have h := h.2 c34
      exact nf_X9_fit_15 h oc
theorem nf_X9_fit {Q : Int32 → HS → Prop} {v0 : Nat} {v1 : Int32} {v2 : Int32} {S : HS} (h : P_X9_fit v0 v1 v2 Q S) (oc : ob S v0 9) : P_X9_fit v0 v1 v2 (fun r T => Q r T ∧ NFq 9 9 c9 v0 T) S := nf_X9_fit_0 h oc
set_option maxRecDepth 20000 in
set_option maxHeartbeats 1000000 in
theorem nf_X9_fits_0 {Q : Int32 → HS → Prop} {v0 : Nat} {v1 : Int32} {S : HS} (h : P_X9_fits_0 Q v0 v1 S) (oc : ob S v0 9) : P_X9_fits_0 (fun r T => Q r T ∧ NFq 9 9 c9 v0 T) v0 v1 S := by
  delta P_X9_fits_0 at h ⊢
  obtain ⟨c1, h⟩ := h
  refine ⟨c1, ?_⟩
  obtain ⟨b2, e3, h⟩ := h
  refine ⟨b2, e3, ?_⟩
  obtain ⟨c4, h⟩ := h
  refine ⟨c4, ?_⟩
  have n5 := ob_nq oc c4 (by decide)
  refine cm_X8_hasSeen (kg_X8_hasSeen h) h (fun x6 x7 p10 h g8 g9 => ?_)
  have h := h g8 g9
  have oc := gr_ob p10.2.1 oc
  refine ⟨?_, ?_⟩
  · intro c11
    have h := h.1 c11
    obtain ⟨b12, e13, h⟩ := h
    refine ⟨b12, e13, ?_⟩
    obtain ⟨b14, e15, h⟩ := h
    refine ⟨b14, e15, ?_⟩
    obtain ⟨c16, h⟩ := h
    refine ⟨c16, ?_⟩
    have n17 := ob_nq oc c16 (by decide)
    refine cm_X1_countFits (kg_X1_countFits h) h (fun x18 x19 p21 h g20 => ?_)
    have h := h g20
    have oc := gr_ob p21.2.1 oc
    refine cm_X9_grant (nf_X9_grant h oc) h (fun x22 x23 p25 h g24 => ?_)
    have h := h g24
    have N := p25.2
    have oc := N.1
    exact ⟨h, N⟩
  · intro c26
    have h := h.2 c26
    refine cm_X9_refuse (nf_X9_refuse h oc (by decide)) h (fun x27 x28 p30 h g29 => ?_)
    have h := h g29
    have N := p30.2
    have oc := N.1
    exact ⟨h, N⟩
theorem nf_X9_fits {Q : Int32 → HS → Prop} {v0 : Nat} {v1 : Int32} {S : HS} (h : P_X9_fits v0 v1 Q S) (oc : ob S v0 9) : P_X9_fits v0 v1 (fun r T => Q r T ∧ NFq 9 9 c9 v0 T) S := nf_X9_fits_0 h oc
set_option maxRecDepth 20000 in
set_option maxHeartbeats 1000000 in
theorem nf_X9_go_45 {Q : Int32 → HS → Prop} {v0 : Nat} {S : HS} (h : P_X9_go_45 Q v0 S) (oc : ob S v0 9) : P_X9_go_45 (fun r T => Q r T ∧ NFq 9 9 c9 v0 T) v0 S := by
  delta P_X9_go_45 at h ⊢
  obtain ⟨c1, h⟩ := h
  refine ⟨c1, ?_⟩
  refine cm_X9_refuse (nf_X9_refuse h oc (by decide)) h (fun x2 x3 p5 h g4 => ?_)
  have h := h g4
  have N := p5.2
  have oc := N.1
  exact ⟨h, N⟩
set_option maxRecDepth 20000 in
set_option maxHeartbeats 1000000 in
theorem nf_X9_go_243 {Q : Int32 → HS → Prop} {v0 : Nat} {v2 : Int32} {v5 : Nat} {v6 : Int32} {S : HS} (h : P_X9_go_243 Q v0 v2 v5 v6 S) (oc : ob S v0 9) : P_X9_go_243 (fun r T => Q r T ∧ NFq 9 9 c9 v0 T) v0 v2 v5 v6 S := by
  delta P_X9_go_243 at h ⊢
  obtain ⟨c1, h⟩ := h
  refine ⟨c1, ?_⟩
  obtain ⟨b2, e3, h⟩ := h
  refine ⟨b2, e3, ?_⟩
  obtain ⟨c4, h⟩ := h
  refine ⟨c4, ?_⟩
  have n5 := ob_nq oc c4 (by decide)
  obtain ⟨b6, e7, h⟩ := h
  refine ⟨b6, e7, ?_⟩
  obtain ⟨c8, h⟩ := h
  refine ⟨c8, ?_⟩
  have n9 := ob_nq oc c8 (by decide)
  refine cm_X5_endOf (kg_X5_endOf h) h (fun x10 x11 p13 h g12 => ?_)
  have h := h g12
  have oc := gr_ob p13.2.1 oc
  obtain ⟨c14, h⟩ := h
  refine ⟨c14, ?_⟩
  have n15 := ob_nq oc c14 (by decide)
  intro x17 e16
  have h := h x17 e16
  have oc := ob_wI oc e16
  obtain ⟨b18, e19, h⟩ := h
  refine ⟨b18, e19, ?_⟩
  obtain ⟨c20, h⟩ := h
  refine ⟨c20, ?_⟩
  have n21 := ob_nq oc c20 (by decide)
  obtain ⟨b22, e23, h⟩ := h
  refine ⟨b22, e23, ?_⟩
  obtain ⟨c24, h⟩ := h
  refine ⟨c24, ?_⟩
  have n25 := ob_nq oc c24 (by decide)
  intro x27 e26
  have h := h x27 e26
  have oc := ob_wI oc e26
  refine cm_X9_grant (nf_X9_grant h oc) h (fun x28 x29 p31 h g30 => ?_)
  have h := h g30
  have N := p31.2
  have oc := N.1
  exact ⟨h, N⟩
set_option maxRecDepth 20000 in
set_option maxHeartbeats 1000000 in
theorem nf_X9_go_0 {Q : Int32 → HS → Prop} {v0 : Nat} {v1 : Int32} {v2 : Int32} {v3 : Int32} {S : HS} (h : P_X9_go_0 Q v0 v1 v2 v3 S) (oc : ob S v0 9) : P_X9_go_0 (fun r T => Q r T ∧ NFq 9 9 c9 v0 T) v0 v1 v2 v3 S := by
  delta P_X9_go_0 at h ⊢
  obtain ⟨c1, h⟩ := h
  refine ⟨c1, ?_⟩
  obtain ⟨b2, e3, h⟩ := h
  refine ⟨b2, e3, ?_⟩
  obtain ⟨c4, h⟩ := h
  refine ⟨c4, ?_⟩
  have n5 := ob_nq oc c4 (by decide)
  refine cm_X0_isOn (kg_X0_isOn h) h (fun x6 x7 p10 h g8 g9 => ?_)
  have h := h g8 g9
  have oc := gr_ob p10.2.1 oc
  refine ⟨?_, ?_⟩
  · intro c11
    have h := h.1 c11
    exact nf_X9_go_45 h oc
  · intro c12
    have h := h.2 c12
    obtain ⟨b13, e14, h⟩ := h
    refine ⟨b13, e14, ?_⟩
    obtain ⟨b15, e16, h⟩ := h
    refine ⟨b15, e16, ?_⟩
    obtain ⟨c17, h⟩ := h
    refine ⟨c17, ?_⟩
    have n18 := ob_nq oc c17 (by decide)
    intro x20 e19
    have h := h x20 e19
    obtain ⟨c21, h⟩ := h
    refine ⟨c21, ?_⟩
    have n22 := ob_nq oc c21 (by decide)
    refine cm_X8_hasWalker (kg_X8_hasWalker h) h (fun x23 x24 p27 h g25 g26 => ?_)
    have h := h g25 g26
    have oc := gr_ob p27.2.1 oc
    refine ⟨?_, ?_⟩
    · intro c28
      have h := h.1 c28
      exact nf_X9_go_45 h oc
    · intro c29
      have h := h.2 c29
      obtain ⟨b30, e31, h⟩ := h
      refine ⟨b30, e31, ?_⟩
      obtain ⟨c32, h⟩ := h
      refine ⟨c32, ?_⟩
      have n33 := ob_nq oc c32 (by decide)
      refine cm_X8_hasRoad (kg_X8_hasRoad h) h (fun x34 x35 p38 h g36 g37 => ?_)
      have h := h g36 g37
      have oc := gr_ob p38.2.1 oc
      refine ⟨?_, ?_⟩
      · intro c39
        have h := h.1 c39
        exact nf_X9_go_45 h oc
      · intro c40
        have h := h.2 c40
        refine cm_X9_isWay (kg_X9_isWay h) h (fun x41 x42 p45 h g43 g44 => ?_)
        have h := h g43 g44
        have oc := gr_ob p45.2.1 oc
        refine ⟨?_, ?_⟩
        · intro c46
          have h := h.1 c46
          obtain ⟨b47, e48, h⟩ := h
          refine ⟨b47, e48, ?_⟩
          obtain ⟨c49, h⟩ := h
          refine ⟨c49, ?_⟩
          have n50 := ob_nq oc c49 (by decide)
          obtain ⟨b51, e52, h⟩ := h
          refine ⟨b51, e52, ?_⟩
          obtain ⟨b53, e54, h⟩ := h
          refine ⟨b53, e54, ?_⟩
          obtain ⟨c55, h⟩ := h
          refine ⟨c55, ?_⟩
          have n56 := ob_nq oc c55 (by decide)
          intro x58 e57
          have h := h x58 e57
          obtain ⟨c59, h⟩ := h
          refine ⟨c59, ?_⟩
          have n60 := ob_nq oc c59 (by decide)
          obtain ⟨c61, h⟩ := h
          refine ⟨c61, ?_⟩
          obtain ⟨b62, e63, h⟩ := h
          refine ⟨b62, e63, ?_⟩
          obtain ⟨b64, e65, h⟩ := h
          refine ⟨b64, e65, ?_⟩
          obtain ⟨c66, h⟩ := h
          refine ⟨c66, ?_⟩
          have n67 := ob_nq oc c66 (by decide)
          obtain ⟨b68, e69, h⟩ := h
          refine ⟨b68, e69, ?_⟩
          obtain ⟨c70, h⟩ := h
          refine ⟨c70, ?_⟩
          have n71 := ob_nq oc c70 (by decide)
          obtain ⟨c72, h⟩ := h
          refine ⟨c72, ?_⟩
          obtain ⟨b73, e74, h⟩ := h
          refine ⟨b73, e74, ?_⟩
          obtain ⟨c75, h⟩ := h
          refine ⟨c75, ?_⟩
          have n76 := ob_nq oc c75 (by decide)
          refine cm_X6_canGo (kg_X6_canGo h) h (fun x77 x78 p81 h g79 g80 => ?_)
          have h := h g79 g80
          have oc := gr_ob p81.2.1 oc
          refine ⟨?_, ?_⟩
          · intro c82
            have h := h.1 c82
            obtain ⟨c83, h⟩ := h
            refine ⟨c83, ?_⟩
            have n84 := ob_nq oc c83 (by decide)
            refine cm_X5_startOf (kg_X5_startOf h) h (fun x85 x86 p88 h g87 => ?_)
            have h := h g87
            have oc := gr_ob p88.2.1 oc
            obtain ⟨b89, e90, h⟩ := h
            refine ⟨b89, e90, ?_⟩
            obtain ⟨c91, h⟩ := h
            refine ⟨c91, ?_⟩
            have n92 := ob_nq oc c91 (by decide)
            obtain ⟨b93, e94, h⟩ := h
            refine ⟨b93, e94, ?_⟩
            obtain ⟨c95, h⟩ := h
            refine ⟨c95, ?_⟩
            have n96 := ob_nq oc c95 (by decide)
            intro x98 e97
            have h := h x98 e97
            refine ⟨?_, ?_⟩
            · intro c99
              have h := h.1 c99
              obtain ⟨b100, e101, h⟩ := h
              refine ⟨b100, e101, ?_⟩
              obtain ⟨c102, h⟩ := h
              refine ⟨c102, ?_⟩
              have n103 := ob_nq oc c102 (by decide)
              obtain ⟨b104, e105, h⟩ := h
              refine ⟨b104, e105, ?_⟩
              obtain ⟨c106, h⟩ := h
              refine ⟨c106, ?_⟩
              have n107 := ob_nq oc c106 (by decide)
              intro x109 e108
              have h := h x109 e108
              refine cm_X5_minutesAt (kg_X5_minutesAt h) h (fun x110 x111 p113 h g112 => ?_)
              have h := h g112
              have oc := gr_ob p113.2.1 oc
              intro x115 e114
              have h := h x115 e114
              refine ⟨?_, ?_⟩
              · intro c116
                have h := h.1 c116
                obtain ⟨b117, e118, h⟩ := h
                refine ⟨b117, e118, ?_⟩
                obtain ⟨c119, h⟩ := h
                refine ⟨c119, ?_⟩
                have n120 := ob_nq oc c119 (by decide)
                refine cm_X0_keepForUndo (kg_X0_keepForUndo h) h (fun x121 p123 h g122 => ?_)
                have h := h g122
                have oc := gr_ob p123.2.1 oc
                obtain ⟨b124, e125, h⟩ := h
                refine ⟨b124, e125, ?_⟩
                obtain ⟨b126, e127, h⟩ := h
                refine ⟨b126, e127, ?_⟩
                obtain ⟨c128, h⟩ := h
                refine ⟨c128, ?_⟩
                have n129 := ob_nq oc c128 (by decide)
                obtain ⟨b130, e131, h⟩ := h
                refine ⟨b130, e131, ?_⟩
                obtain ⟨c132, h⟩ := h
                refine ⟨c132, ?_⟩
                have n133 := ob_nq oc c132 (by decide)
                intro x135 e134
                have h := h x135 e134
                obtain ⟨c136, h⟩ := h
                refine ⟨c136, ?_⟩
                have n137 := ob_nq oc c136 (by decide)
                refine cm_X8_hourOf (kg_X8_hourOf h) h (fun x138 x139 p141 h g140 => ?_)
                have h := h g140
                have oc := gr_ob p141.2.1 oc
                obtain ⟨b142, e143, h⟩ := h
                refine ⟨b142, e143, ?_⟩
                obtain ⟨c144, h⟩ := h
                refine ⟨c144, ?_⟩
                have n145 := ob_nq oc c144 (by decide)
                refine cm_X8_hasHour (kg_X8_hasHour h) h (fun x146 x147 p150 h g148 g149 => ?_)
                have h := h g148 g149
                have oc := gr_ob p150.2.1 oc
                refine ⟨?_, ?_⟩
                · intro c151
                  have h := h.1 c151
                  exact nf_X9_go_243 h oc
                · intro c152
                  have h := h.2 c152
                  obtain ⟨b153, e154, h⟩ := h
                  refine ⟨b153, e154, ?_⟩
                  obtain ⟨c155, h⟩ := h
                  refine ⟨c155, ?_⟩
                  have n156 := ob_nq oc c155 (by decide)
                  refine cm_X0_rainsIn (kg_X0_rainsIn h) h (fun x157 x158 p161 h g159 g160 => ?_)
                  have h := h g159 g160
                  have oc := gr_ob p161.2.1 oc
                  refine ⟨?_, ?_⟩
                  · intro c162
                    have h := h.1 c162
                    exact nf_X9_go_243 h oc
                  · intro c163
                    have h := h.2 c163
                    obtain ⟨b164, e165, h⟩ := h
                    refine ⟨b164, e165, ?_⟩
                    obtain ⟨b166, e167, h⟩ := h
                    refine ⟨b166, e167, ?_⟩
                    obtain ⟨c168, h⟩ := h
                    refine ⟨c168, ?_⟩
                    have n169 := ob_nq oc c168 (by decide)
                    obtain ⟨b170, e171, h⟩ := h
                    refine ⟨b170, e171, ?_⟩
                    obtain ⟨c172, h⟩ := h
                    refine ⟨c172, ?_⟩
                    have n173 := ob_nq oc c172 (by decide)
                    obtain ⟨c174, h⟩ := h
                    refine ⟨c174, ?_⟩
                    obtain ⟨b175, e176, h⟩ := h
                    refine ⟨b175, e176, ?_⟩
                    obtain ⟨c177, h⟩ := h
                    refine ⟨c177, ?_⟩
                    have n178 := ob_nq oc c177 (by decide)
                    refine cm_X1_wetOf (kg_X1_wetOf h) h (fun x179 x180 p182 h g181 => ?_)
                    have h := h g181
                    have oc := gr_ob p182.2.1 oc
                    obtain ⟨b183, e184, h⟩ := h
                    refine ⟨b183, e184, ?_⟩
                    obtain ⟨c185, h⟩ := h
                    refine ⟨c185, ?_⟩
                    have n186 := ob_nq oc c185 (by decide)
                    obtain ⟨b187, e188, h⟩ := h
                    refine ⟨b187, e188, ?_⟩
                    obtain ⟨b189, e190, h⟩ := h
                    refine ⟨b189, e190, ?_⟩
                    obtain ⟨c191, h⟩ := h
                    refine ⟨c191, ?_⟩
                    have n192 := ob_nq oc c191 (by decide)
                    obtain ⟨b193, e194, h⟩ := h
                    refine ⟨b193, e194, ?_⟩
                    obtain ⟨c195, h⟩ := h
                    refine ⟨c195, ?_⟩
                    have n196 := ob_nq oc c195 (by decide)
                    refine cm_X2_addFaces (kg_X2_addFaces h) h (fun x197 p199 h g198 => ?_)
                    have h := h g198
                    have oc := gr_ob p199.2.1 oc
                    exact nf_X9_go_243 h oc
              · intro c200
                have h := h.2 c200
                refine cm_X9_refuse (nf_X9_refuse h oc (by decide)) h (fun x201 x202 p204 h g203 => ?_)
                have h := h g203
                have N := p204.2
                have oc := N.1
                exact ⟨h, N⟩
            · intro c205
              have h := h.2 c205
              refine cm_X9_refuse (nf_X9_refuse h oc (by decide)) h (fun x206 x207 p209 h g208 => ?_)
              have h := h g208
              have N := p209.2
              have oc := N.1
              exact ⟨h, N⟩
          · intro c210
            have h := h.2 c210
            refine cm_X9_refuse (nf_X9_refuse h oc (by decide)) h (fun x211 x212 p214 h g213 => ?_)
            have h := h g213
            have N := p214.2
            have oc := N.1
            exact ⟨h, N⟩
        · intro c215
          have h := h.2 c215
          exact nf_X9_go_45 h oc
theorem nf_X9_go {Q : Int32 → HS → Prop} {v0 : Nat} {v1 : Int32} {v2 : Int32} {v3 : Int32} {S : HS} (h : P_X9_go v0 v1 v2 v3 Q S) (oc : ob S v0 9) : P_X9_go v0 v1 v2 v3 (fun r T => Q r T ∧ NFq 9 9 c9 v0 T) S := nf_X9_go_0 h oc
set_option maxRecDepth 20000 in
set_option maxHeartbeats 1000000 in
theorem nf_X9_got_17 {Q : Int64 → HS → Prop} {v0 : Nat} {S : HS} (h : P_X9_got_17 Q v0 S) (oc : ob S v0 9) : P_X9_got_17 (fun r T => Q r T ∧ NFq 9 9 c9 v0 T) v0 S := by
  delta P_X9_got_17 at h ⊢
  obtain ⟨c1, h⟩ := h
  refine ⟨c1, ?_⟩
  refine cm_X9_refuse (nf_X9_refuse h oc (by decide)) h (fun x2 x3 p5 h g4 => ?_)
  have h := h g4
  have N := p5.2
  have oc := N.1
  exact ⟨h, N⟩
set_option maxRecDepth 20000 in
set_option maxHeartbeats 1000000 in
theorem nf_X9_got_0 {Q : Int64 → HS → Prop} {v0 : Nat} {v1 : Int32} {v2 : Int32} {S : HS} (h : P_X9_got_0 Q v0 v1 v2 S) (oc : ob S v0 9) : P_X9_got_0 (fun r T => Q r T ∧ NFq 9 9 c9 v0 T) v0 v1 v2 S := by
  delta P_X9_got_0 at h ⊢
  obtain ⟨c1, h⟩ := h
  refine ⟨c1, ?_⟩
  obtain ⟨b2, e3, h⟩ := h
  refine ⟨b2, e3, ?_⟩
  obtain ⟨c4, h⟩ := h
  refine ⟨c4, ?_⟩
  have n5 := ob_nq oc c4 (by decide)
  refine cm_X0_isOn (kg_X0_isOn h) h (fun x6 x7 p10 h g8 g9 => ?_)
  have h := h g8 g9
  have oc := gr_ob p10.2.1 oc
  refine ⟨?_, ?_⟩
  · intro c11
    have h := h.1 c11
    exact nf_X9_got_17 h oc
  · intro c12
    have h := h.2 c12
    refine cm_X9_isFace (kg_X9_isFace h) h (fun x13 x14 p17 h g15 g16 => ?_)
    have h := h g15 g16
    have oc := gr_ob p17.2.1 oc
    refine ⟨?_, ?_⟩
    · intro c18
      have h := h.1 c18
      intro x20 e19
      have h := h x20 e19
      have N := nf_set (C := c9) oc e19 (by decide)
      have oc := N.1
      obtain ⟨b21, e22, h⟩ := h
      refine ⟨b21, e22, ?_⟩
      obtain ⟨c23, h⟩ := h
      refine ⟨c23, ?_⟩
      have n24 := ob_nq oc c23 (by decide)
      obtain ⟨b25, e26, h⟩ := h
      refine ⟨b25, e26, ?_⟩
      obtain ⟨c27, h⟩ := h
      refine ⟨c27, ?_⟩
      have n28 := ob_nq oc c27 (by decide)
      obtain ⟨b29, e30, h⟩ := h
      refine ⟨b29, e30, ?_⟩
      obtain ⟨c31, h⟩ := h
      refine ⟨c31, ?_⟩
      have n32 := ob_nq oc c31 (by decide)
      obtain ⟨c33, h⟩ := h
      refine ⟨c33, ?_⟩
      intro x35 e34
      have h := h x35 e34
      refine cm_X9_fraction (kg_X9_fraction h) h (fun x36 x37 p39 h g38 => ?_)
      have h := h g38
      have oc := gr_ob p39.2.1 oc
      have N := nf_K N p39.2 (by decide)
      exact ⟨h, N⟩
    · intro c40
      have h := h.2 c40
      exact nf_X9_got_17 h oc
theorem nf_X9_got {Q : Int64 → HS → Prop} {v0 : Nat} {v1 : Int32} {v2 : Int32} {S : HS} (h : P_X9_got v0 v1 v2 Q S) (oc : ob S v0 9) : P_X9_got v0 v1 v2 (fun r T => Q r T ∧ NFq 9 9 c9 v0 T) S := nf_X9_got_0 h oc
set_option maxRecDepth 20000 in
set_option maxHeartbeats 1000000 in
theorem nf_X9_held_0 {Q : Int32 → HS → Prop} {v0 : Nat} {v1 : Int32} {v2 : Int32} {v3 : Int32} {v4 : Int32} {v5 : Int32} {S : HS} (h : P_X9_held_0 Q v0 v1 v2 v3 v4 v5 S) (oc : ob S v0 9) : P_X9_held_0 (fun r T => Q r T ∧ NFq 9 9 c9 v0 T) v0 v1 v2 v3 v4 v5 S := by
  delta P_X9_held_0 at h ⊢
  obtain ⟨c1, h⟩ := h
  refine ⟨c1, ?_⟩
  refine cm_X9_legTrouble (kr_X9_legTrouble h) h (fun x2 x3 p5 h g4 => ?_)
  have h := h g4
  have oc := gr_ob p5.2.1.1 oc
  refine cm_X9_refusedBy (nf_X9_refusedBy h oc p5.2.2) h (fun x6 x7 p10 h g8 g9 => ?_)
  have h := h g8 g9
  have N := p10.2
  have oc := N.1
  refine ⟨?_, ?_⟩
  · intro c11
    have h := h.1 c11
    obtain ⟨b12, e13, h⟩ := h
    refine ⟨b12, e13, ?_⟩
    obtain ⟨c14, h⟩ := h
    refine ⟨c14, ?_⟩
    have n15 := ob_nq oc c14 (by decide)
    obtain ⟨b16, e17, h⟩ := h
    refine ⟨b16, e17, ?_⟩
    obtain ⟨c18, h⟩ := h
    refine ⟨c18, ?_⟩
    have n19 := ob_nq oc c18 (by decide)
    obtain ⟨c20, h⟩ := h
    refine ⟨c20, ?_⟩
    obtain ⟨b21, e22, h⟩ := h
    refine ⟨b21, e22, ?_⟩
    obtain ⟨c23, h⟩ := h
    refine ⟨c23, ?_⟩
    have n24 := ob_nq oc c23 (by decide)
    intro x26 e25
    have h := h x26 e25
    refine ⟨?_, ?_⟩
    · intro c27
      have h := h.1 c27
      obtain ⟨b28, e29, h⟩ := h
      refine ⟨b28, e29, ?_⟩
      obtain ⟨b30, e31, h⟩ := h
      refine ⟨b30, e31, ?_⟩
      obtain ⟨c32, h⟩ := h
      refine ⟨c32, ?_⟩
      have n33 := ob_nq oc c32 (by decide)
      obtain ⟨b34, e35, h⟩ := h
      refine ⟨b34, e35, ?_⟩
      obtain ⟨c36, h⟩ := h
      refine ⟨c36, ?_⟩
      have n37 := ob_nq oc c36 (by decide)
      obtain ⟨c38, h⟩ := h
      refine ⟨c38, ?_⟩
      obtain ⟨b39, e40, h⟩ := h
      refine ⟨b39, e40, ?_⟩
      obtain ⟨b41, e42, h⟩ := h
      refine ⟨b41, e42, ?_⟩
      obtain ⟨c43, h⟩ := h
      refine ⟨c43, ?_⟩
      have n44 := ob_nq oc c43 (by decide)
      obtain ⟨b45, e46, h⟩ := h
      refine ⟨b45, e46, ?_⟩
      obtain ⟨c47, h⟩ := h
      refine ⟨c47, ?_⟩
      have n48 := ob_nq oc c47 (by decide)
      obtain ⟨c49, h⟩ := h
      refine ⟨c49, ?_⟩
      obtain ⟨b50, e51, h⟩ := h
      refine ⟨b50, e51, ?_⟩
      obtain ⟨c52, h⟩ := h
      refine ⟨c52, ?_⟩
      have n53 := ob_nq oc c52 (by decide)
      refine cm_X1_lay (kg_X1_lay h) h (fun x54 p56 h g55 => ?_)
      have h := h g55
      have oc := gr_ob p56.2.1 oc
      have N := nf_K N p56.2 (by decide)
      obtain ⟨b57, e58, h⟩ := h
      refine ⟨b57, e58, ?_⟩
      obtain ⟨b59, e60, h⟩ := h
      refine ⟨b59, e60, ?_⟩
      obtain ⟨c61, h⟩ := h
      refine ⟨c61, ?_⟩
      have n62 := ob_nq oc c61 (by decide)
      obtain ⟨b63, e64, h⟩ := h
      refine ⟨b63, e64, ?_⟩
      obtain ⟨c65, h⟩ := h
      refine ⟨c65, ?_⟩
      have n66 := ob_nq oc c65 (by decide)
      obtain ⟨c67, h⟩ := h
      refine ⟨c67, ?_⟩
      obtain ⟨b68, e69, h⟩ := h
      refine ⟨b68, e69, ?_⟩
      obtain ⟨c70, h⟩ := h
      refine ⟨c70, ?_⟩
      have n71 := ob_nq oc c70 (by decide)
      refine cm_X1_isForward (kg_X1_isForward h) h (fun x72 x73 p76 h g74 g75 => ?_)
      have h := h g74 g75
      have oc := gr_ob p76.2.1 oc
      have N := nf_K N p76.2 (by decide)
      refine ⟨?_, ?_⟩
      · intro c77
        have h := h.1 c77
        exact ⟨h, N⟩
      · intro c78
        have h := h.2 c78
        exact ⟨h, N⟩
    · intro c79
      have h := h.2 c79
      exact ⟨h, N⟩
  · intro c80
    have h := h.2 c80
    exact ⟨h, N⟩
theorem nf_X9_held {Q : Int32 → HS → Prop} {v0 : Nat} {v1 : Int32} {v2 : Int32} {v3 : Int32} {v4 : Int32} {v5 : Int32} {S : HS} (h : P_X9_held v0 v1 v2 v3 v4 v5 Q S) (oc : ob S v0 9) : P_X9_held v0 v1 v2 v3 v4 v5 (fun r T => Q r T ∧ NFq 9 9 c9 v0 T) S := nf_X9_held_0 h oc
set_option maxRecDepth 20000 in
set_option maxHeartbeats 1000000 in
theorem nr_X9_placesTrouble_38 {Q : Int32 → HS → Prop} {s0 : Int32} {S : HS} (h : P_X9_placesTrouble_38 Q s0 S) : P_X9_placesTrouble_38 (fun r T => Q r T ∧ c9 r) s0 S := by
  delta P_X9_placesTrouble_38 at h ⊢
  refine ⟨?_, ?_⟩
  · intro c1
    have h := h.1 c1
    exact ⟨h, (by decide)⟩
  · intro c2
    have h := h.2 c2
    exact ⟨h, (by decide)⟩
set_option maxRecDepth 20000 in
set_option maxHeartbeats 1000000 in
theorem nr_X9_placesTrouble_37 {Q : Int32 → HS → Prop} {S : HS} (h : P_X9_placesTrouble_37 Q S) : P_X9_placesTrouble_37 (fun r T => Q r T ∧ c9 r) S := by
  delta P_X9_placesTrouble_37 at h ⊢
  exact nr_X9_placesTrouble_38 h
set_option maxRecDepth 20000 in
set_option maxHeartbeats 1000000 in
theorem nr_X9_placesTrouble_0 {Q : Int32 → HS → Prop} {v0 : Nat} {v1 : Int32} {v2 : Int32} {v3 : Int32} {S : HS} (h : P_X9_placesTrouble_0 Q v0 v1 v2 v3 S) : P_X9_placesTrouble_0 (fun r T => Q r T ∧ c9 r) v0 v1 v2 v3 S := by
  delta P_X9_placesTrouble_0 at h ⊢
  obtain ⟨c1, h⟩ := h
  refine ⟨c1, ?_⟩
  obtain ⟨b2, e3, h⟩ := h
  refine ⟨b2, e3, ?_⟩
  obtain ⟨c4, h⟩ := h
  refine ⟨c4, ?_⟩
  refine cm_X8_hasWalker h h (fun x5 x6 h _ g7 g8 => ?_)
  have h := h g7 g8
  refine ⟨?_, ?_⟩
  · intro c10
    have h := h.1 c10
    exact nr_X9_placesTrouble_37 h
  · intro c11
    have h := h.2 c11
    obtain ⟨b12, e13, h⟩ := h
    refine ⟨b12, e13, ?_⟩
    obtain ⟨c14, h⟩ := h
    refine ⟨c14, ?_⟩
    refine cm_X8_hasPlace h h (fun x15 x16 h _ g17 g18 => ?_)
    have h := h g17 g18
    refine ⟨?_, ?_⟩
    · intro c20
      have h := h.1 c20
      exact nr_X9_placesTrouble_37 h
    · intro c21
      have h := h.2 c21
      obtain ⟨b22, e23, h⟩ := h
      refine ⟨b22, e23, ?_⟩
      obtain ⟨c24, h⟩ := h
      refine ⟨c24, ?_⟩
      refine cm_X8_hasPlace h h (fun x25 x26 h _ g27 g28 => ?_)
      have h := h g27 g28
      refine ⟨?_, ?_⟩
      · intro c30
        have h := h.1 c30
        exact nr_X9_placesTrouble_37 h
      · intro c31
        have h := h.2 c31
        exact nr_X9_placesTrouble_38 h
theorem nr_X9_placesTrouble {Q : Int32 → HS → Prop} {v0 : Nat} {v1 : Int32} {v2 : Int32} {v3 : Int32} {S : HS} (h : P_X9_placesTrouble v0 v1 v2 v3 Q S) : P_X9_placesTrouble v0 v1 v2 v3 (fun r T => Q r T ∧ c9 r) S := nr_X9_placesTrouble_0 h
theorem kr_X9_placesTrouble {Q : Int32 → HS → Prop} {v0 : Nat} {v1 : Int32} {v2 : Int32} {v3 : Int32} {S : HS} (h : P_X9_placesTrouble v0 v1 v2 v3 Q S) : P_X9_placesTrouble v0 v1 v2 v3 (fun r T => Q r T ∧ K5 S T ∧ c9 r) S := cm_X9_placesTrouble (kg_X9_placesTrouble h) (nr_X9_placesTrouble h) (fun _ _ a b => ⟨a.1, a.2, b.2⟩)
set_option maxRecDepth 20000 in
set_option maxHeartbeats 1000000 in
theorem nr_X9_wayTrouble_0 {Q : Int32 → HS → Prop} {v0 : Nat} {v1 : Int32} {v2 : Int32} {v3 : Int32} {v4 : Int32} {v5 : Int32} {S : HS} (h : P_X9_wayTrouble_0 Q v0 v1 v2 v3 v4 v5 S) : P_X9_wayTrouble_0 (fun r T => Q r T ∧ c9 r) v0 v1 v2 v3 v4 v5 S := by
  delta P_X9_wayTrouble_0 at h ⊢
  obtain ⟨c1, h⟩ := h
  refine ⟨c1, ?_⟩
  refine cm_X9_placesTrouble (kr_X9_placesTrouble h) h (fun x2 x3 p5 h g4 => ?_)
  have h := h g4
  refine ⟨?_, ?_⟩
  · intro c6
    have h := h.1 c6
    refine cm_X9_isTill h h (fun x7 x8 h _ g9 g10 => ?_)
    have h := h g9 g10
    refine ⟨?_, ?_⟩
    · intro c12
      have h := h.1 c12
      exact ⟨h, (by decide)⟩
    · intro c13
      have h := h.2 c13
      refine ⟨?_, ?_⟩
      · intro c14
        have h := h.1 c14
        exact ⟨h, (by decide)⟩
      · intro c15
        have h := h.2 c15
        refine ⟨?_, ?_⟩
        · intro c16
          have h := h.1 c16
          obtain ⟨b17, e18, h⟩ := h
          refine ⟨b17, e18, ?_⟩
          obtain ⟨b19, e20, h⟩ := h
          refine ⟨b19, e20, ?_⟩
          obtain ⟨b21, e22, h⟩ := h
          refine ⟨b21, e22, ?_⟩
          obtain ⟨c23, h⟩ := h
          refine ⟨c23, ?_⟩
          refine cm_X7_reckon h h (fun x24 h _ g25 => ?_)
          have h := h g25
          obtain ⟨b27, e28, h⟩ := h
          refine ⟨b27, e28, ?_⟩
          obtain ⟨c29, h⟩ := h
          refine ⟨c29, ?_⟩
          refine cm_X7_isOpen h h (fun x30 x31 h _ g32 g33 => ?_)
          have h := h g32 g33
          refine ⟨?_, ?_⟩
          · intro c35
            have h := h.1 c35
            exact ⟨h, (by decide)⟩
          · intro c36
            have h := h.2 c36
            exact ⟨h, (by decide)⟩
        · intro c37
          have h := h.2 c37
          exact ⟨h, (by decide)⟩
  · intro c38
    have h := h.2 c38
    exact ⟨h, p5.2.2⟩
theorem nr_X9_wayTrouble {Q : Int32 → HS → Prop} {v0 : Nat} {v1 : Int32} {v2 : Int32} {v3 : Int32} {v4 : Int32} {v5 : Int32} {S : HS} (h : P_X9_wayTrouble v0 v1 v2 v3 v4 v5 Q S) : P_X9_wayTrouble v0 v1 v2 v3 v4 v5 (fun r T => Q r T ∧ c9 r) S := nr_X9_wayTrouble_0 h
theorem kr_X9_wayTrouble {Q : Int32 → HS → Prop} {v0 : Nat} {v1 : Int32} {v2 : Int32} {v3 : Int32} {v4 : Int32} {v5 : Int32} {S : HS} (h : P_X9_wayTrouble v0 v1 v2 v3 v4 v5 Q S) : P_X9_wayTrouble v0 v1 v2 v3 v4 v5 (fun r T => Q r T ∧ K5 S T ∧ c9 r) S := cm_X9_wayTrouble (kg_X9_wayTrouble h) (nr_X9_wayTrouble h) (fun _ _ a b => ⟨a.1, a.2, b.2⟩)
set_option maxRecDepth 20000 in
set_option maxHeartbeats 1000000 in
theorem nf_X9_least_0 {Q : Int64 → HS → Prop} {v0 : Nat} {v1 : Int32} {v2 : Int32} {v3 : Int32} {v4 : Int32} {v5 : Int32} {v6 : Int32} {S : HS} (h : P_X9_least_0 Q v0 v1 v2 v3 v4 v5 v6 S) (oc : ob S v0 9) : P_X9_least_0 (fun r T => Q r T ∧ NFq 9 9 c9 v0 T) v0 v1 v2 v3 v4 v5 v6 S := by
  delta P_X9_least_0 at h ⊢
  obtain ⟨c1, h⟩ := h
  refine ⟨c1, ?_⟩
  refine cm_X9_wayTrouble (kr_X9_wayTrouble h) h (fun x2 x3 p5 h g4 => ?_)
  have h := h g4
  have oc := gr_ob p5.2.1.1 oc
  refine cm_X9_refusedBy (nf_X9_refusedBy h oc p5.2.2) h (fun x6 x7 p10 h g8 g9 => ?_)
  have h := h g8 g9
  have N := p10.2
  have oc := N.1
  refine ⟨?_, ?_⟩
  · intro c11
    have h := h.1 c11
    obtain ⟨b12, e13, h⟩ := h
    refine ⟨b12, e13, ?_⟩
    obtain ⟨c14, h⟩ := h
    refine ⟨c14, ?_⟩
    have n15 := ob_nq oc c14 (by decide)
    refine cm_X7_meanFrom (kg_X7_meanFrom h) h (fun x16 x17 p19 h g18 => ?_)
    have h := h g18
    have oc := gr_ob p19.2.1 oc
    have N := nf_K N p19.2 (by decide)
    refine cm_X9_fraction (kg_X9_fraction h) h (fun x20 x21 p23 h g22 => ?_)
    have h := h g22
    have oc := gr_ob p23.2.1 oc
    have N := nf_K N p23.2 (by decide)
    exact ⟨h, N⟩
  · intro c24
    have h := h.2 c24
    exact ⟨h, N⟩
theorem nf_X9_least {Q : Int64 → HS → Prop} {v0 : Nat} {v1 : Int32} {v2 : Int32} {v3 : Int32} {v4 : Int32} {v5 : Int32} {v6 : Int32} {S : HS} (h : P_X9_least v0 v1 v2 v3 v4 v5 v6 Q S) (oc : ob S v0 9) : P_X9_least v0 v1 v2 v3 v4 v5 v6 (fun r T => Q r T ∧ NFq 9 9 c9 v0 T) S := nf_X9_least_0 h oc
set_option maxRecDepth 20000 in
set_option maxHeartbeats 1000000 in
theorem nf_X9_lee_0 {Q : Int64 → HS → Prop} {v0 : Nat} {v1 : Int32} {v2 : Int32} {v3 : Int32} {v4 : Int32} {v5 : Int32} {v6 : Int32} {v7 : Int32} {S : HS} (h : P_X9_lee_0 Q v0 v1 v2 v3 v4 v5 v6 v7 S) (oc : ob S v0 9) : P_X9_lee_0 (fun r T => Q r T ∧ NFq 9 9 c9 v0 T) v0 v1 v2 v3 v4 v5 v6 v7 S := by
  delta P_X9_lee_0 at h ⊢
  obtain ⟨c1, h⟩ := h
  refine ⟨c1, ?_⟩
  refine cm_X9_leeTrouble (kr_X9_leeTrouble h) h (fun x2 x3 p5 h g4 => ?_)
  have h := h g4
  have oc := gr_ob p5.2.1.1 oc
  refine cm_X9_refusedBy (nf_X9_refusedBy h oc p5.2.2) h (fun x6 x7 p10 h g8 g9 => ?_)
  have h := h g8 g9
  have N := p10.2
  have oc := N.1
  refine ⟨?_, ?_⟩
  · intro c11
    have h := h.1 c11
    obtain ⟨b12, e13, h⟩ := h
    refine ⟨b12, e13, ?_⟩
    obtain ⟨b14, e15, h⟩ := h
    refine ⟨b14, e15, ?_⟩
    obtain ⟨c16, h⟩ := h
    refine ⟨c16, ?_⟩
    have n17 := ob_nq oc c16 (by decide)
    obtain ⟨b18, e19, h⟩ := h
    refine ⟨b18, e19, ?_⟩
    obtain ⟨c20, h⟩ := h
    refine ⟨c20, ?_⟩
    have n21 := ob_nq oc c20 (by decide)
    obtain ⟨c22, h⟩ := h
    refine ⟨c22, ?_⟩
    obtain ⟨b23, e24, h⟩ := h
    refine ⟨b23, e24, ?_⟩
    obtain ⟨b25, e26, h⟩ := h
    refine ⟨b25, e26, ?_⟩
    obtain ⟨c27, h⟩ := h
    refine ⟨c27, ?_⟩
    have n28 := ob_nq oc c27 (by decide)
    obtain ⟨b29, e30, h⟩ := h
    refine ⟨b29, e30, ?_⟩
    obtain ⟨c31, h⟩ := h
    refine ⟨c31, ?_⟩
    have n32 := ob_nq oc c31 (by decide)
    obtain ⟨c33, h⟩ := h
    refine ⟨c33, ?_⟩
    obtain ⟨b34, e35, h⟩ := h
    refine ⟨b34, e35, ?_⟩
    obtain ⟨c36, h⟩ := h
    refine ⟨c36, ?_⟩
    have n37 := ob_nq oc c36 (by decide)
    refine cm_X1_lay (kg_X1_lay h) h (fun x38 p40 h g39 => ?_)
    have h := h g39
    have oc := gr_ob p40.2.1 oc
    have N := nf_K N p40.2 (by decide)
    obtain ⟨b41, e42, h⟩ := h
    refine ⟨b41, e42, ?_⟩
    obtain ⟨b43, e44, h⟩ := h
    refine ⟨b43, e44, ?_⟩
    obtain ⟨c45, h⟩ := h
    refine ⟨c45, ?_⟩
    have n46 := ob_nq oc c45 (by decide)
    obtain ⟨b47, e48, h⟩ := h
    refine ⟨b47, e48, ?_⟩
    obtain ⟨c49, h⟩ := h
    refine ⟨c49, ?_⟩
    have n50 := ob_nq oc c49 (by decide)
    obtain ⟨c51, h⟩ := h
    refine ⟨c51, ?_⟩
    obtain ⟨b52, e53, h⟩ := h
    refine ⟨b52, e53, ?_⟩
    obtain ⟨b54, e55, h⟩ := h
    refine ⟨b54, e55, ?_⟩
    obtain ⟨c56, h⟩ := h
    refine ⟨c56, ?_⟩
    have n57 := ob_nq oc c56 (by decide)
    obtain ⟨b58, e59, h⟩ := h
    refine ⟨b58, e59, ?_⟩
    obtain ⟨c60, h⟩ := h
    refine ⟨c60, ?_⟩
    have n61 := ob_nq oc c60 (by decide)
    obtain ⟨c62, h⟩ := h
    refine ⟨c62, ?_⟩
    obtain ⟨b63, e64, h⟩ := h
    refine ⟨b63, e64, ?_⟩
    obtain ⟨c65, h⟩ := h
    refine ⟨c65, ?_⟩
    have n66 := ob_nq oc c65 (by decide)
    refine cm_X1_wetInLee (kg_X1_wetInLee h) h (fun x67 x68 p70 h g69 => ?_)
    have h := h g69
    have oc := gr_ob p70.2.1 oc
    have N := nf_K N p70.2 (by decide)
    refine cm_X9_fraction (kg_X9_fraction h) h (fun x71 x72 p74 h g73 => ?_)
    have h := h g73
    have oc := gr_ob p74.2.1 oc
    have N := nf_K N p74.2 (by decide)
    exact ⟨h, N⟩
  · intro c75
    have h := h.2 c75
    exact ⟨h, N⟩
theorem nf_X9_lee {Q : Int64 → HS → Prop} {v0 : Nat} {v1 : Int32} {v2 : Int32} {v3 : Int32} {v4 : Int32} {v5 : Int32} {v6 : Int32} {v7 : Int32} {S : HS} (h : P_X9_lee v0 v1 v2 v3 v4 v5 v6 v7 Q S) (oc : ob S v0 9) : P_X9_lee v0 v1 v2 v3 v4 v5 v6 v7 (fun r T => Q r T ∧ NFq 9 9 c9 v0 T) S := nf_X9_lee_0 h oc
set_option maxRecDepth 20000 in
set_option maxHeartbeats 1000000 in
theorem nf_X9_lies_54 {Q : Int32 → HS → Prop} {X20 X20_2 : Nat → Int32 → Int32 → HS → Prop} {v0 : Nat} {v1 : Int32} {v2 : Int32} {S : HS} (h : P_X9_lies_54 Q X20 v0 v1 v2 S) (oc : ob S v0 9) (hX20 : ∀ (u0 : Nat) (u1 : Int32) (u2 : Int32) (u3 : HS), X20 u0 u1 u2 u3 → u0 = v0 → ob u3 v0 9 → X20_2 u0 u1 u2 u3) : P_X9_lies_54 (fun r T => Q r T ∧ NFq 9 9 c9 v0 T) X20_2 v0 v1 v2 S := by
  delta P_X9_lies_54 at h ⊢
  intro x2 e1
  have h := h x2 e1
  exact hX20 _ _ _ _ h rfl oc
set_option maxRecDepth 20000 in
set_option maxHeartbeats 1000000 in
theorem nfB_X9_lies_20 {Q : Int32 → HS → Prop} {X20 X20_2 : Nat → Int32 → Int32 → HS → Prop} {v0 : Nat} {v1 : Int32} {v2 : Int32} {S : HS} (h : B_X9_lies_20 Q X20 v0 v1 v2 S) (oc : ob S v0 9) (hX20 : ∀ (u0 : Nat) (u1 : Int32) (u2 : Int32) (u3 : HS), X20 u0 u1 u2 u3 → u0 = v0 → ob u3 v0 9 → X20_2 u0 u1 u2 u3) : B_X9_lies_20 (fun r T => Q r T ∧ NFq 9 9 c9 v0 T) X20_2 v0 v1 v2 S := by
  delta B_X9_lies_20 at h ⊢
  obtain ⟨c1, h⟩ := h
  refine ⟨c1, ?_⟩
  obtain ⟨b2, e3, h⟩ := h
  refine ⟨b2, e3, ?_⟩
  obtain ⟨c4, h⟩ := h
  refine ⟨c4, ?_⟩
  have n5 := ob_nq oc c4 (by decide)
  intro x7 e6
  have h := h x7 e6
  refine ⟨?_, ?_⟩
  · intro c8
    have h := h.1 c8
    refine cm_X9_grant (nf_X9_grant h oc) h (fun x9 x10 p12 h g11 => ?_)
    have h := h g11
    have N := p12.2
    have oc := N.1
    exact ⟨h, N⟩
  · intro c13
    have h := h.2 c13
    obtain ⟨b14, e15, h⟩ := h
    refine ⟨b14, e15, ?_⟩
    obtain ⟨b16, e17, h⟩ := h
    refine ⟨b16, e17, ?_⟩
    obtain ⟨c18, h⟩ := h
    refine ⟨c18, ?_⟩
    have n19 := ob_nq oc c18 (by decide)
    refine cm_X1_findFit (kg_X1_findFit h) h (fun x20 x21 p23 h g22 => ?_)
    have h := h g22
    have oc := gr_ob p23.2.1 oc
    refine ⟨?_, ?_⟩
    · intro c24
      have h := h.1 c24
      exact nf_X9_lies_54 h oc hX20
    · intro c25
      have h := h.2 c25
      intro x27 e26
      have h := h x27 e26
      exact nf_X9_lies_54 h oc hX20
theorem nf_X9_lies_20 {Q : Int32 → HS → Prop} {v0 : Nat} {v1 : Int32} {v2 : Int32} {S : HS} (h : P_X9_lies_20 Q v0 v1 v2 S) (oc : ob S v0 9) : P_X9_lies_20 (fun r T => Q r T ∧ NFq 9 9 c9 v0 T) v0 v1 v2 S := h (fun w0 v1 v2 S => w0 = v0 → ob S v0 9 → P_X9_lies_20 (fun r T => Q r T ∧ NFq 9 9 c9 v0 T) w0 v1 v2 S) (fun w0 v1 v2 S hB e oc => by
  subst e; exact fd_X9_lies_20 (nfB_X9_lies_20 hB oc (fun _ _ _ _ hx e oc => hx e oc))) rfl oc
set_option maxRecDepth 20000 in
set_option maxHeartbeats 1000000 in
theorem nf_X9_lies_0 {Q : Int32 → HS → Prop} {v0 : Nat} {S : HS} (h : P_X9_lies_0 Q v0 S) (oc : ob S v0 9) : P_X9_lies_0 (fun r T => Q r T ∧ NFq 9 9 c9 v0 T) v0 S := by
  delta P_X9_lies_0 at h ⊢
  obtain ⟨c1, h⟩ := h
  refine ⟨c1, ?_⟩
  obtain ⟨b2, e3, h⟩ := h
  refine ⟨b2, e3, ?_⟩
  obtain ⟨c4, h⟩ := h
  refine ⟨c4, ?_⟩
  have n5 := ob_nq oc c4 (by decide)
  refine cm_X8_isTold (kg_X8_isTold h) h (fun x6 x7 p10 h g8 g9 => ?_)
  have h := h g8 g9
  have oc := gr_ob p10.2.1 oc
  refine ⟨?_, ?_⟩
  · intro c11
    have h := h.1 c11
    exact nf_X9_lies_20 h oc
  · intro c12
    have h := h.2 c12
    refine cm_X9_refuse (nf_X9_refuse h oc (by decide)) h (fun x13 x14 p16 h g15 => ?_)
    have h := h g15
    have N := p16.2
    have oc := N.1
    exact ⟨h, N⟩
theorem nf_X9_lies {Q : Int32 → HS → Prop} {v0 : Nat} {S : HS} (h : P_X9_lies v0 Q S) (oc : ob S v0 9) : P_X9_lies v0 (fun r T => Q r T ∧ NFq 9 9 c9 v0 T) S := nf_X9_lies_0 h oc
set_option maxRecDepth 20000 in
set_option maxHeartbeats 1000000 in
theorem nf_X9_mark_0 {Q : Int32 → HS → Prop} {v0 : Nat} {S : HS} (h : P_X9_mark_0 Q v0 S) (oc : ob S v0 9) : P_X9_mark_0 (fun r T => Q r T ∧ NFq 9 9 c9 v0 T) v0 S := by
  delta P_X9_mark_0 at h ⊢
  obtain ⟨c1, h⟩ := h
  refine ⟨c1, ?_⟩
  obtain ⟨b2, e3, h⟩ := h
  refine ⟨b2, e3, ?_⟩
  obtain ⟨c4, h⟩ := h
  refine ⟨c4, ?_⟩
  have n5 := ob_nq oc c4 (by decide)
  refine cm_X0_isOn (kg_X0_isOn h) h (fun x6 x7 p10 h g8 g9 => ?_)
  have h := h g8 g9
  have oc := gr_ob p10.2.1 oc
  refine ⟨?_, ?_⟩
  · intro c11
    have h := h.1 c11
    obtain ⟨b12, e13, h⟩ := h
    refine ⟨b12, e13, ?_⟩
    obtain ⟨c14, h⟩ := h
    refine ⟨c14, ?_⟩
    have n15 := ob_nq oc c14 (by decide)
    refine cm_X0_setMark (kg_X0_setMark h) h (fun x16 x17 p19 h g18 => ?_)
    have h := h g18
    have oc := gr_ob p19.2.1 oc
    refine ⟨?_, ?_⟩
    · intro c20
      have h := h.1 c20
      refine cm_X9_grant (nf_X9_grant h oc) h (fun x21 x22 p24 h g23 => ?_)
      have h := h g23
      have N := p24.2
      have oc := N.1
      exact ⟨h, N⟩
    · intro c25
      have h := h.2 c25
      refine cm_X9_refuse (nf_X9_refuse h oc (by decide)) h (fun x26 x27 p29 h g28 => ?_)
      have h := h g28
      have N := p29.2
      have oc := N.1
      exact ⟨h, N⟩
  · intro c30
    have h := h.2 c30
    refine cm_X9_refuse (nf_X9_refuse h oc (by decide)) h (fun x31 x32 p34 h g33 => ?_)
    have h := h g33
    have N := p34.2
    have oc := N.1
    exact ⟨h, N⟩
theorem nf_X9_mark {Q : Int32 → HS → Prop} {v0 : Nat} {S : HS} (h : P_X9_mark v0 Q S) (oc : ob S v0 9) : P_X9_mark v0 (fun r T => Q r T ∧ NFq 9 9 c9 v0 T) S := nf_X9_mark_0 h oc
set_option maxRecDepth 20000 in
set_option maxHeartbeats 1000000 in
theorem nf_X9_mean_0 {Q : Int64 → HS → Prop} {v0 : Nat} {v1 : Int32} {v2 : Int32} {v3 : Int32} {v4 : Int32} {v5 : Int32} {v6 : Int32} {S : HS} (h : P_X9_mean_0 Q v0 v1 v2 v3 v4 v5 v6 S) (oc : ob S v0 9) : P_X9_mean_0 (fun r T => Q r T ∧ NFq 9 9 c9 v0 T) v0 v1 v2 v3 v4 v5 v6 S := by
  delta P_X9_mean_0 at h ⊢
  obtain ⟨c1, h⟩ := h
  refine ⟨c1, ?_⟩
  refine cm_X9_legTrouble (kr_X9_legTrouble h) h (fun x2 x3 p5 h g4 => ?_)
  have h := h g4
  have oc := gr_ob p5.2.1.1 oc
  refine cm_X9_refusedBy (nf_X9_refusedBy h oc p5.2.2) h (fun x6 x7 p10 h g8 g9 => ?_)
  have h := h g8 g9
  have N := p10.2
  have oc := N.1
  refine ⟨?_, ?_⟩
  · intro c11
    have h := h.1 c11
    obtain ⟨b12, e13, h⟩ := h
    refine ⟨b12, e13, ?_⟩
    obtain ⟨b14, e15, h⟩ := h
    refine ⟨b14, e15, ?_⟩
    obtain ⟨c16, h⟩ := h
    refine ⟨c16, ?_⟩
    have n17 := ob_nq oc c16 (by decide)
    obtain ⟨b18, e19, h⟩ := h
    refine ⟨b18, e19, ?_⟩
    obtain ⟨c20, h⟩ := h
    refine ⟨c20, ?_⟩
    have n21 := ob_nq oc c20 (by decide)
    obtain ⟨c22, h⟩ := h
    refine ⟨c22, ?_⟩
    obtain ⟨b23, e24, h⟩ := h
    refine ⟨b23, e24, ?_⟩
    obtain ⟨b25, e26, h⟩ := h
    refine ⟨b25, e26, ?_⟩
    obtain ⟨c27, h⟩ := h
    refine ⟨c27, ?_⟩
    have n28 := ob_nq oc c27 (by decide)
    obtain ⟨b29, e30, h⟩ := h
    refine ⟨b29, e30, ?_⟩
    obtain ⟨c31, h⟩ := h
    refine ⟨c31, ?_⟩
    have n32 := ob_nq oc c31 (by decide)
    obtain ⟨c33, h⟩ := h
    refine ⟨c33, ?_⟩
    obtain ⟨b34, e35, h⟩ := h
    refine ⟨b34, e35, ?_⟩
    obtain ⟨b36, e37, h⟩ := h
    refine ⟨b36, e37, ?_⟩
    obtain ⟨c38, h⟩ := h
    refine ⟨c38, ?_⟩
    have n39 := ob_nq oc c38 (by decide)
    obtain ⟨b40, e41, h⟩ := h
    refine ⟨b40, e41, ?_⟩
    obtain ⟨c42, h⟩ := h
    refine ⟨c42, ?_⟩
    have n43 := ob_nq oc c42 (by decide)
    obtain ⟨c44, h⟩ := h
    refine ⟨c44, ?_⟩
    obtain ⟨b45, e46, h⟩ := h
    refine ⟨b45, e46, ?_⟩
    obtain ⟨c47, h⟩ := h
    refine ⟨c47, ?_⟩
    have n48 := ob_nq oc c47 (by decide)
    refine cm_X1_wetOf (kg_X1_wetOf h) h (fun x49 x50 p52 h g51 => ?_)
    have h := h g51
    have oc := gr_ob p52.2.1 oc
    have N := nf_K N p52.2 (by decide)
    obtain ⟨b53, e54, h⟩ := h
    refine ⟨b53, e54, ?_⟩
    obtain ⟨c55, h⟩ := h
    refine ⟨c55, ?_⟩
    have n56 := ob_nq oc c55 (by decide)
    obtain ⟨b57, e58, h⟩ := h
    refine ⟨b57, e58, ?_⟩
    obtain ⟨c59, h⟩ := h
    refine ⟨c59, ?_⟩
    have n60 := ob_nq oc c59 (by decide)
    obtain ⟨c61, h⟩ := h
    refine ⟨c61, ?_⟩
    obtain ⟨b62, e63, h⟩ := h
    refine ⟨b62, e63, ?_⟩
    obtain ⟨c64, h⟩ := h
    refine ⟨c64, ?_⟩
    have n65 := ob_nq oc c64 (by decide)
    intro x67 e66
    have h := h x67 e66
    refine cm_X9_fraction (kg_X9_fraction h) h (fun x68 x69 p71 h g70 => ?_)
    have h := h g70
    have oc := gr_ob p71.2.1 oc
    have N := nf_K N p71.2 (by decide)
    exact ⟨h, N⟩
  · intro c72
    have h := h.2 c72
    exact ⟨h, N⟩
theorem nf_X9_mean {Q : Int64 → HS → Prop} {v0 : Nat} {v1 : Int32} {v2 : Int32} {v3 : Int32} {v4 : Int32} {v5 : Int32} {v6 : Int32} {S : HS} (h : P_X9_mean v0 v1 v2 v3 v4 v5 v6 Q S) (oc : ob S v0 9) : P_X9_mean v0 v1 v2 v3 v4 v5 v6 (fun r T => Q r T ∧ NFq 9 9 c9 v0 T) S := nf_X9_mean_0 h oc
set_option maxRecDepth 20000 in
set_option maxHeartbeats 1000000 in
theorem nf_X9_minutes_22 {Q : Int32 → HS → Prop} {v0 : Nat} {S : HS} (h : P_X9_minutes_22 Q v0 S) (oc : ob S v0 9) : P_X9_minutes_22 (fun r T => Q r T ∧ NFq 9 9 c9 v0 T) v0 S := by
  delta P_X9_minutes_22 at h ⊢
  obtain ⟨c1, h⟩ := h
  refine ⟨c1, ?_⟩
  refine cm_X9_refuse (nf_X9_refuse h oc (by decide)) h (fun x2 x3 p5 h g4 => ?_)
  have h := h g4
  have N := p5.2
  have oc := N.1
  exact ⟨h, N⟩
set_option maxRecDepth 20000 in
set_option maxHeartbeats 1000000 in
theorem nf_X9_minutes_0 {Q : Int32 → HS → Prop} {v0 : Nat} {v1 : Int32} {v2 : Int32} {v3 : Int32} {S : HS} (h : P_X9_minutes_0 Q v0 v1 v2 v3 S) (oc : ob S v0 9) : P_X9_minutes_0 (fun r T => Q r T ∧ NFq 9 9 c9 v0 T) v0 v1 v2 v3 S := by
  delta P_X9_minutes_0 at h ⊢
  obtain ⟨c1, h⟩ := h
  refine ⟨c1, ?_⟩
  obtain ⟨b2, e3, h⟩ := h
  refine ⟨b2, e3, ?_⟩
  obtain ⟨c4, h⟩ := h
  refine ⟨c4, ?_⟩
  have n5 := ob_nq oc c4 (by decide)
  refine cm_X8_hasWalker (kg_X8_hasWalker h) h (fun x6 x7 p10 h g8 g9 => ?_)
  have h := h g8 g9
  have oc := gr_ob p10.2.1 oc
  refine ⟨?_, ?_⟩
  · intro c11
    have h := h.1 c11
    exact nf_X9_minutes_22 h oc
  · intro c12
    have h := h.2 c12
    obtain ⟨b13, e14, h⟩ := h
    refine ⟨b13, e14, ?_⟩
    obtain ⟨c15, h⟩ := h
    refine ⟨c15, ?_⟩
    have n16 := ob_nq oc c15 (by decide)
    refine cm_X8_hasRoad (kg_X8_hasRoad h) h (fun x17 x18 p21 h g19 g20 => ?_)
    have h := h g19 g20
    have oc := gr_ob p21.2.1 oc
    refine ⟨?_, ?_⟩
    · intro c22
      have h := h.1 c22
      obtain ⟨b23, e24, h⟩ := h
      refine ⟨b23, e24, ?_⟩
      obtain ⟨c25, h⟩ := h
      refine ⟨c25, ?_⟩
      have n26 := ob_nq oc c25 (by decide)
      obtain ⟨b27, e28, h⟩ := h
      refine ⟨b27, e28, ?_⟩
      obtain ⟨c29, h⟩ := h
      refine ⟨c29, ?_⟩
      have n30 := ob_nq oc c29 (by decide)
      obtain ⟨c31, h⟩ := h
      refine ⟨c31, ?_⟩
      obtain ⟨b32, e33, h⟩ := h
      refine ⟨b32, e33, ?_⟩
      obtain ⟨c34, h⟩ := h
      refine ⟨c34, ?_⟩
      have n35 := ob_nq oc c34 (by decide)
      refine cm_X6_canGo (kg_X6_canGo h) h (fun x36 x37 p40 h g38 g39 => ?_)
      have h := h g38 g39
      have oc := gr_ob p40.2.1 oc
      refine ⟨?_, ?_⟩
      · intro c41
        have h := h.1 c41
        obtain ⟨b42, e43, h⟩ := h
        refine ⟨b42, e43, ?_⟩
        obtain ⟨c44, h⟩ := h
        refine ⟨c44, ?_⟩
        have n45 := ob_nq oc c44 (by decide)
        obtain ⟨b46, e47, h⟩ := h
        refine ⟨b46, e47, ?_⟩
        obtain ⟨c48, h⟩ := h
        refine ⟨c48, ?_⟩
        have n49 := ob_nq oc c48 (by decide)
        obtain ⟨c50, h⟩ := h
        refine ⟨c50, ?_⟩
        obtain ⟨b51, e52, h⟩ := h
        refine ⟨b51, e52, ?_⟩
        obtain ⟨c53, h⟩ := h
        refine ⟨c53, ?_⟩
        have n54 := ob_nq oc c53 (by decide)
        refine cm_X5_minutesAt (kg_X5_minutesAt h) h (fun x55 x56 p58 h g57 => ?_)
        have h := h g57
        have oc := gr_ob p58.2.1 oc
        refine cm_X9_grant (nf_X9_grant h oc) h (fun x59 x60 p62 h g61 => ?_)
        have h := h g61
        have N := p62.2
        have oc := N.1
        exact ⟨h, N⟩
      · intro c63
        have h := h.2 c63
        refine cm_X9_refuse (nf_X9_refuse h oc (by decide)) h (fun x64 x65 p67 h g66 => ?_)
        have h := h g66
        have N := p67.2
        have oc := N.1
        exact ⟨h, N⟩
    · intro c68
      have h := h.2 c68
      exact nf_X9_minutes_22 h oc
theorem nf_X9_minutes {Q : Int32 → HS → Prop} {v0 : Nat} {v1 : Int32} {v2 : Int32} {v3 : Int32} {S : HS} (h : P_X9_minutes v0 v1 v2 v3 Q S) (oc : ob S v0 9) : P_X9_minutes v0 v1 v2 v3 (fun r T => Q r T ∧ NFq 9 9 c9 v0 T) S := nf_X9_minutes_0 h oc
set_option maxRecDepth 20000 in
set_option maxHeartbeats 1000000 in
theorem nf_X9_off_128 {Q : Int32 → HS → Prop} {X62 X62_2 : Nat → Int32 → Int32 → Int32 → Int32 → HS → Prop} {v0 : Nat} {v2 : Int32} {v4 : Int32} {v6 : Int32} {v7 : Int32} {S : HS} (h : P_X9_off_128 Q X62 v0 v2 v4 v6 v7 S) (oc : ob S v0 9) (N : NFq 9 9 c9 v0 S) (hX62 : ∀ (u0 : Nat) (u1 : Int32) (u2 : Int32) (u3 : Int32) (u4 : Int32) (u5 : HS), X62 u0 u1 u2 u3 u4 u5 → u0 = v0 → ob u5 v0 9 → NFq 9 9 c9 v0 u5 → X62_2 u0 u1 u2 u3 u4 u5) : P_X9_off_128 (fun r T => Q r T ∧ NFq 9 9 c9 v0 T) X62_2 v0 v2 v4 v6 v7 S := by
  delta P_X9_off_128 at h ⊢
  intro x2 e1
  have h := h x2 e1
  exact hX62 _ _ _ _ _ _ h rfl oc N
set_option maxRecDepth 20000 in
set_option maxHeartbeats 1000000 in
theorem nf_X9_off_104 {Q : Int32 → HS → Prop} {X62 X62_2 : Nat → Int32 → Int32 → Int32 → Int32 → HS → Prop} {v0 : Nat} {v2 : Int32} {v4 : Int32} {v6 : Int32} {v7 : Int32} {s0 : Int32} {S : HS} (h : P_X9_off_104 Q X62 v0 v2 v4 v6 v7 s0 S) (oc : ob S v0 9) (N : NFq 9 9 c9 v0 S) (hX62 : ∀ (u0 : Nat) (u1 : Int32) (u2 : Int32) (u3 : Int32) (u4 : Int32) (u5 : HS), X62 u0 u1 u2 u3 u4 u5 → u0 = v0 → ob u5 v0 9 → NFq 9 9 c9 v0 u5 → X62_2 u0 u1 u2 u3 u4 u5) : P_X9_off_104 (fun r T => Q r T ∧ NFq 9 9 c9 v0 T) X62_2 v0 v2 v4 v6 v7 s0 S := by
  delta P_X9_off_104 at h ⊢
  obtain ⟨c1, h⟩ := h
  refine ⟨c1, ?_⟩
  obtain ⟨b2, e3, h⟩ := h
  refine ⟨b2, e3, ?_⟩
  obtain ⟨c4, h⟩ := h
  refine ⟨c4, ?_⟩
  have n5 := ob_nq oc c4 (by decide)
  refine cm_X7_isOpen (kg_X7_isOpen h) h (fun x6 x7 p10 h g8 g9 => ?_)
  have h := h g8 g9
  have oc := gr_ob p10.2.1 oc
  have N := nf_K N p10.2 (by decide)
  refine ⟨?_, ?_⟩
  · intro c11
    have h := h.1 c11
    exact nf_X9_off_128 h oc N hX62
  · intro c12
    have h := h.2 c12
    refine ⟨?_, ?_⟩
    · intro c13
      have h := h.1 c13
      exact nf_X9_off_128 h oc N hX62
    · intro c14
      have h := h.2 c14
      exact nf_X9_off_128 h oc N hX62
set_option maxRecDepth 20000 in
set_option maxHeartbeats 1000000 in
theorem nf_X9_off_99 {Q : Int32 → HS → Prop} {X62 X62_2 : Nat → Int32 → Int32 → Int32 → Int32 → HS → Prop} {v0 : Nat} {v2 : Int32} {v4 : Int32} {v6 : Int32} {v7 : Int32} {S : HS} (h : P_X9_off_99 Q X62 v0 v2 v4 v6 v7 S) (oc : ob S v0 9) (N : NFq 9 9 c9 v0 S) (hX62 : ∀ (u0 : Nat) (u1 : Int32) (u2 : Int32) (u3 : Int32) (u4 : Int32) (u5 : HS), X62 u0 u1 u2 u3 u4 u5 → u0 = v0 → ob u5 v0 9 → NFq 9 9 c9 v0 u5 → X62_2 u0 u1 u2 u3 u4 u5) : P_X9_off_99 (fun r T => Q r T ∧ NFq 9 9 c9 v0 T) X62_2 v0 v2 v4 v6 v7 S := by
  delta P_X9_off_99 at h ⊢
  exact nf_X9_off_104 h oc N hX62
set_option maxRecDepth 20000 in
set_option maxHeartbeats 1000000 in
theorem nfB_X9_off_62 {Q : Int32 → HS → Prop} {X62 X62_2 : Nat → Int32 → Int32 → Int32 → Int32 → HS → Prop} {v0 : Nat} {v2 : Int32} {v4 : Int32} {v6 : Int32} {v7 : Int32} {S : HS} (h : B_X9_off_62 Q X62 v0 v2 v4 v6 v7 S) (oc : ob S v0 9) (N : NFq 9 9 c9 v0 S) (hX62 : ∀ (u0 : Nat) (u1 : Int32) (u2 : Int32) (u3 : Int32) (u4 : Int32) (u5 : HS), X62 u0 u1 u2 u3 u4 u5 → u0 = v0 → ob u5 v0 9 → NFq 9 9 c9 v0 u5 → X62_2 u0 u1 u2 u3 u4 u5) : B_X9_off_62 (fun r T => Q r T ∧ NFq 9 9 c9 v0 T) X62_2 v0 v2 v4 v6 v7 S := by
  delta B_X9_off_62 at h ⊢
  refine ⟨?_, ?_⟩
  · intro c1
    have h := h.1 c1
    refine ⟨?_, ?_⟩
    · intro c2
      have h := h.1 c2
      exact ⟨h, N⟩
    · intro c3
      have h := h.2 c3
      obtain ⟨c4, h⟩ := h
      refine ⟨c4, ?_⟩
      refine cm_X9_refuse (nf_X9_refuse h oc (by decide)) h (fun x5 x6 p8 h g7 => ?_)
      have h := h g7
      have N := p8.2
      have oc := N.1
      exact ⟨h, N⟩
  · intro c9
    have h := h.2 c9
    refine ⟨?_, ?_⟩
    · intro c10
      have h := h.1 c10
      exact nf_X9_off_99 h oc N hX62
    · intro c11
      have h := h.2 c11
      obtain ⟨c12, h⟩ := h
      refine ⟨c12, ?_⟩
      obtain ⟨b13, e14, h⟩ := h
      refine ⟨b13, e14, ?_⟩
      obtain ⟨c15, h⟩ := h
      refine ⟨c15, ?_⟩
      have n16 := ob_nq oc c15 (by decide)
      refine cm_X7_meanFrom (kg_X7_meanFrom h) h (fun x17 x18 p20 h g19 => ?_)
      have h := h g19
      have oc := gr_ob p20.2.1 oc
      have N := nf_K N p20.2 (by decide)
      obtain ⟨b21, e22, h⟩ := h
      refine ⟨b21, e22, ?_⟩
      obtain ⟨c23, h⟩ := h
      refine ⟨c23, ?_⟩
      have n24 := ob_nq oc c23 (by decide)
      refine cm_X7_meanFrom (kg_X7_meanFrom h) h (fun x25 x26 p28 h g27 => ?_)
      have h := h g27
      have oc := gr_ob p28.2.1 oc
      have N := nf_K N p28.2 (by decide)
      refine ⟨?_, ?_⟩
      · intro c29
        have h := h.1 c29
        exact nf_X9_off_104 h oc N hX62
      · intro c30
        have h := h.2 c30
        exact nf_X9_off_99 h oc N hX62
theorem nf_X9_off_62 {Q : Int32 → HS → Prop} {v0 : Nat} {v2 : Int32} {v4 : Int32} {v6 : Int32} {v7 : Int32} {S : HS} (h : P_X9_off_62 Q v0 v2 v4 v6 v7 S) (oc : ob S v0 9) (N : NFq 9 9 c9 v0 S) : P_X9_off_62 (fun r T => Q r T ∧ NFq 9 9 c9 v0 T) v0 v2 v4 v6 v7 S := h (fun w0 v2 v4 v6 v7 S => w0 = v0 → ob S v0 9 → NFq 9 9 c9 v0 S → P_X9_off_62 (fun r T => Q r T ∧ NFq 9 9 c9 v0 T) w0 v2 v4 v6 v7 S) (fun w0 v2 v4 v6 v7 S hB e oc N => by
  subst e; exact fd_X9_off_62 (nfB_X9_off_62 hB oc N (fun _ _ _ _ _ _ hx e oc N => hx e oc N))) rfl oc N
set_option maxRecDepth 20000 in
set_option maxHeartbeats 1000000 in
theorem nf_X9_off_25 {Q : Int32 → HS → Prop} {v0 : Nat} {v1 : Int32} {v2 : Int32} {v3 : Int32} {v4 : Int32} {v5 : Int32} {S : HS} (h : P_X9_off_25 Q v0 v1 v2 v3 v4 v5 S) (oc : ob S v0 9) (z_v5 : c9 v5) : P_X9_off_25 (fun r T => Q r T ∧ NFq 9 9 c9 v0 T) v0 v1 v2 v3 v4 v5 S := by
  delta P_X9_off_25 at h ⊢
  obtain ⟨c1, h⟩ := h
  refine ⟨c1, ?_⟩
  refine cm_X9_refusedBy (nf_X9_refusedBy h oc z_v5) h (fun x2 x3 p6 h g4 g5 => ?_)
  have h := h g4 g5
  have N := p6.2
  have oc := N.1
  refine ⟨?_, ?_⟩
  · intro c7
    have h := h.1 c7
    obtain ⟨b8, e9, h⟩ := h
    refine ⟨b8, e9, ?_⟩
    obtain ⟨b10, e11, h⟩ := h
    refine ⟨b10, e11, ?_⟩
    obtain ⟨b12, e13, h⟩ := h
    refine ⟨b12, e13, ?_⟩
    obtain ⟨c14, h⟩ := h
    refine ⟨c14, ?_⟩
    have n15 := ob_nq oc c14 (by decide)
    refine cm_X7_reckon (kg_X7_reckon h) h (fun x16 p18 h g17 => ?_)
    have h := h g17
    have oc := gr_ob p18.2.1 oc
    have N := nf_K N p18.2 (by decide)
    exact nf_X9_off_62 h oc N
  · intro c19
    have h := h.2 c19
    exact ⟨h, N⟩
set_option maxRecDepth 20000 in
set_option maxHeartbeats 1000000 in
theorem nf_X9_off_0 {Q : Int32 → HS → Prop} {v0 : Nat} {v1 : Int32} {v2 : Int32} {v3 : Int32} {v4 : Int32} {S : HS} (h : P_X9_off_0 Q v0 v1 v2 v3 v4 S) (oc : ob S v0 9) : P_X9_off_0 (fun r T => Q r T ∧ NFq 9 9 c9 v0 T) v0 v1 v2 v3 v4 S := by
  delta P_X9_off_0 at h ⊢
  obtain ⟨c1, h⟩ := h
  refine ⟨c1, ?_⟩
  refine cm_X9_placesTrouble (kr_X9_placesTrouble h) h (fun x2 x3 p5 h g4 => ?_)
  have h := h g4
  have oc := gr_ob p5.2.1.1 oc
  refine ⟨?_, ?_⟩
  · intro c6
    have h := h.1 c6
    exact nf_X9_off_25 h oc p5.2.2
  · intro c7
    have h := h.2 c7
    refine cm_X9_isTill (kg_X9_isTill h) h (fun x8 x9 p12 h g10 g11 => ?_)
    have h := h g10 g11
    have oc := gr_ob p12.2.1 oc
    refine ⟨?_, ?_⟩
    · intro c13
      have h := h.1 c13
      exact nf_X9_off_25 h oc p5.2.2
    · intro c14
      have h := h.2 c14
      exact nf_X9_off_25 h oc (by decide)
theorem nf_X9_off {Q : Int32 → HS → Prop} {v0 : Nat} {v1 : Int32} {v2 : Int32} {v3 : Int32} {v4 : Int32} {S : HS} (h : P_X9_off v0 v1 v2 v3 v4 Q S) (oc : ob S v0 9) : P_X9_off v0 v1 v2 v3 v4 (fun r T => Q r T ∧ NFq 9 9 c9 v0 T) S := nf_X9_off_0 h oc
set_option maxRecDepth 20000 in
set_option maxHeartbeats 1000000 in
theorem nf_X9_road_20 {Q : Int32 → HS → Prop} {v0 : Nat} {S : HS} (h : P_X9_road_20 Q v0 S) (oc : ob S v0 9) : P_X9_road_20 (fun r T => Q r T ∧ NFq 9 9 c9 v0 T) v0 S := by
  delta P_X9_road_20 at h ⊢
  obtain ⟨c1, h⟩ := h
  refine ⟨c1, ?_⟩
  refine cm_X9_refuse (nf_X9_refuse h oc (by decide)) h (fun x2 x3 p5 h g4 => ?_)
  have h := h g4
  have N := p5.2
  have oc := N.1
  exact ⟨h, N⟩
set_option maxRecDepth 20000 in
set_option maxHeartbeats 1000000 in
theorem nf_X9_road_0 {Q : Int32 → HS → Prop} {v0 : Nat} {v1 : Int32} {v2 : Int32} {S : HS} (h : P_X9_road_0 Q v0 v1 v2 S) (oc : ob S v0 9) : P_X9_road_0 (fun r T => Q r T ∧ NFq 9 9 c9 v0 T) v0 v1 v2 S := by
  delta P_X9_road_0 at h ⊢
  obtain ⟨c1, h⟩ := h
  refine ⟨c1, ?_⟩
  obtain ⟨b2, e3, h⟩ := h
  refine ⟨b2, e3, ?_⟩
  obtain ⟨c4, h⟩ := h
  refine ⟨c4, ?_⟩
  have n5 := ob_nq oc c4 (by decide)
  refine cm_X8_hasRoad (kg_X8_hasRoad h) h (fun x6 x7 p10 h g8 g9 => ?_)
  have h := h g8 g9
  have oc := gr_ob p10.2.1 oc
  refine ⟨?_, ?_⟩
  · intro c11
    have h := h.1 c11
    exact nf_X9_road_20 h oc
  · intro c12
    have h := h.2 c12
    refine ⟨?_, ?_⟩
    · intro c13
      have h := h.1 c13
      exact nf_X9_road_20 h oc
    · intro c14
      have h := h.2 c14
      refine ⟨?_, ?_⟩
      · intro c15
        have h := h.1 c15
        obtain ⟨b16, e17, h⟩ := h
        refine ⟨b16, e17, ?_⟩
        obtain ⟨c18, h⟩ := h
        refine ⟨c18, ?_⟩
        have n19 := ob_nq oc c18 (by decide)
        obtain ⟨b20, e21, h⟩ := h
        refine ⟨b20, e21, ?_⟩
        obtain ⟨c22, h⟩ := h
        refine ⟨c22, ?_⟩
        have n23 := ob_nq oc c22 (by decide)
        obtain ⟨c24, h⟩ := h
        refine ⟨c24, ?_⟩
        obtain ⟨b25, e26, h⟩ := h
        refine ⟨b25, e26, ?_⟩
        obtain ⟨c27, h⟩ := h
        refine ⟨c27, ?_⟩
        have n28 := ob_nq oc c27 (by decide)
        refine cm_X5_tell (kg_X5_tell h) h (fun x29 x30 p32 h g31 => ?_)
        have h := h g31
        have oc := gr_ob p32.2.1 oc
        refine cm_X9_grant (nf_X9_grant h oc) h (fun x33 x34 p36 h g35 => ?_)
        have h := h g35
        have N := p36.2
        have oc := N.1
        exact ⟨h, N⟩
      · intro c37
        have h := h.2 c37
        exact nf_X9_road_20 h oc
theorem nf_X9_road {Q : Int32 → HS → Prop} {v0 : Nat} {v1 : Int32} {v2 : Int32} {S : HS} (h : P_X9_road v0 v1 v2 Q S) (oc : ob S v0 9) : P_X9_road v0 v1 v2 (fun r T => Q r T ∧ NFq 9 9 c9 v0 T) S := nf_X9_road_0 h oc
set_option maxRecDepth 20000 in
set_option maxHeartbeats 1000000 in
theorem nf_X9_round_0 {Q : Int64 → HS → Prop} {v0 : Nat} {v1 : Int32} {v2 : Int32} {v3 : Int32} {v4 : Int32} {S : HS} (h : P_X9_round_0 Q v0 v1 v2 v3 v4 S) (oc : ob S v0 9) : P_X9_round_0 (fun r T => Q r T ∧ NFq 9 9 c9 v0 T) v0 v1 v2 v3 v4 S := by
  delta P_X9_round_0 at h ⊢
  obtain ⟨c1, h⟩ := h
  refine ⟨c1, ?_⟩
  refine cm_X9_tripTrouble (kr_X9_tripTrouble h) h (fun x2 x3 p5 h g4 => ?_)
  have h := h g4
  have oc := gr_ob p5.2.1.1 oc
  refine cm_X9_refusedBy (nf_X9_refusedBy h oc p5.2.2) h (fun x6 x7 p10 h g8 g9 => ?_)
  have h := h g8 g9
  have N := p10.2
  have oc := N.1
  refine ⟨?_, ?_⟩
  · intro c11
    have h := h.1 c11
    obtain ⟨b12, e13, h⟩ := h
    refine ⟨b12, e13, ?_⟩
    obtain ⟨b14, e15, h⟩ := h
    refine ⟨b14, e15, ?_⟩
    obtain ⟨c16, h⟩ := h
    refine ⟨c16, ?_⟩
    have n17 := ob_nq oc c16 (by decide)
    obtain ⟨b18, e19, h⟩ := h
    refine ⟨b18, e19, ?_⟩
    obtain ⟨c20, h⟩ := h
    refine ⟨c20, ?_⟩
    have n21 := ob_nq oc c20 (by decide)
    obtain ⟨c22, h⟩ := h
    refine ⟨c22, ?_⟩
    obtain ⟨b23, e24, h⟩ := h
    refine ⟨b23, e24, ?_⟩
    obtain ⟨b25, e26, h⟩ := h
    refine ⟨b25, e26, ?_⟩
    obtain ⟨c27, h⟩ := h
    refine ⟨c27, ?_⟩
    have n28 := ob_nq oc c27 (by decide)
    obtain ⟨b29, e30, h⟩ := h
    refine ⟨b29, e30, ?_⟩
    obtain ⟨c31, h⟩ := h
    refine ⟨c31, ?_⟩
    have n32 := ob_nq oc c31 (by decide)
    obtain ⟨c33, h⟩ := h
    refine ⟨c33, ?_⟩
    obtain ⟨b34, e35, h⟩ := h
    refine ⟨b34, e35, ?_⟩
    obtain ⟨b36, e37, h⟩ := h
    refine ⟨b36, e37, ?_⟩
    obtain ⟨c38, h⟩ := h
    refine ⟨c38, ?_⟩
    have n39 := ob_nq oc c38 (by decide)
    obtain ⟨b40, e41, h⟩ := h
    refine ⟨b40, e41, ?_⟩
    obtain ⟨c42, h⟩ := h
    refine ⟨c42, ?_⟩
    have n43 := ob_nq oc c42 (by decide)
    obtain ⟨c44, h⟩ := h
    refine ⟨c44, ?_⟩
    obtain ⟨b45, e46, h⟩ := h
    refine ⟨b45, e46, ?_⟩
    obtain ⟨c47, h⟩ := h
    refine ⟨c47, ?_⟩
    have n48 := ob_nq oc c47 (by decide)
    refine cm_X1_leastWet (kg_X1_leastWet h) h (fun x49 x50 p52 h g51 => ?_)
    have h := h g51
    have oc := gr_ob p52.2.1 oc
    have N := nf_K N p52.2 (by decide)
    obtain ⟨b53, e54, h⟩ := h
    refine ⟨b53, e54, ?_⟩
    obtain ⟨b55, e56, h⟩ := h
    refine ⟨b55, e56, ?_⟩
    obtain ⟨c57, h⟩ := h
    refine ⟨c57, ?_⟩
    have n58 := ob_nq oc c57 (by decide)
    obtain ⟨b59, e60, h⟩ := h
    refine ⟨b59, e60, ?_⟩
    obtain ⟨c61, h⟩ := h
    refine ⟨c61, ?_⟩
    have n62 := ob_nq oc c61 (by decide)
    obtain ⟨c63, h⟩ := h
    refine ⟨c63, ?_⟩
    obtain ⟨b64, e65, h⟩ := h
    refine ⟨b64, e65, ?_⟩
    obtain ⟨b66, e67, h⟩ := h
    refine ⟨b66, e67, ?_⟩
    obtain ⟨c68, h⟩ := h
    refine ⟨c68, ?_⟩
    have n69 := ob_nq oc c68 (by decide)
    obtain ⟨b70, e71, h⟩ := h
    refine ⟨b70, e71, ?_⟩
    obtain ⟨c72, h⟩ := h
    refine ⟨c72, ?_⟩
    have n73 := ob_nq oc c72 (by decide)
    obtain ⟨c74, h⟩ := h
    refine ⟨c74, ?_⟩
    obtain ⟨b75, e76, h⟩ := h
    refine ⟨b75, e76, ?_⟩
    obtain ⟨b77, e78, h⟩ := h
    refine ⟨b77, e78, ?_⟩
    obtain ⟨c79, h⟩ := h
    refine ⟨c79, ?_⟩
    have n80 := ob_nq oc c79 (by decide)
    obtain ⟨b81, e82, h⟩ := h
    refine ⟨b81, e82, ?_⟩
    obtain ⟨c83, h⟩ := h
    refine ⟨c83, ?_⟩
    have n84 := ob_nq oc c83 (by decide)
    obtain ⟨c85, h⟩ := h
    refine ⟨c85, ?_⟩
    obtain ⟨b86, e87, h⟩ := h
    refine ⟨b86, e87, ?_⟩
    obtain ⟨c88, h⟩ := h
    refine ⟨c88, ?_⟩
    have n89 := ob_nq oc c88 (by decide)
    refine cm_X1_leastWet (kg_X1_leastWet h) h (fun x90 x91 p93 h g92 => ?_)
    have h := h g92
    have oc := gr_ob p93.2.1 oc
    have N := nf_K N p93.2 (by decide)
    refine cm_X9_fraction (kg_X9_fraction h) h (fun x94 x95 p97 h g96 => ?_)
    have h := h g96
    have oc := gr_ob p97.2.1 oc
    have N := nf_K N p97.2 (by decide)
    exact ⟨h, N⟩
  · intro c98
    have h := h.2 c98
    exact ⟨h, N⟩
theorem nf_X9_round {Q : Int64 → HS → Prop} {v0 : Nat} {v1 : Int32} {v2 : Int32} {v3 : Int32} {v4 : Int32} {S : HS} (h : P_X9_round v0 v1 v2 v3 v4 Q S) (oc : ob S v0 9) : P_X9_round v0 v1 v2 v3 v4 (fun r T => Q r T ∧ NFq 9 9 c9 v0 T) S := nf_X9_round_0 h oc
set_option maxRecDepth 20000 in
set_option maxHeartbeats 1000000 in
theorem nf_X9_saves_0 {Q : Int64 → HS → Prop} {v0 : Nat} {v1 : Int32} {v2 : Int32} {v3 : Int32} {v4 : Int32} {v5 : Int32} {S : HS} (h : P_X9_saves_0 Q v0 v1 v2 v3 v4 v5 S) (oc : ob S v0 9) : P_X9_saves_0 (fun r T => Q r T ∧ NFq 9 9 c9 v0 T) v0 v1 v2 v3 v4 v5 S := by
  delta P_X9_saves_0 at h ⊢
  obtain ⟨c1, h⟩ := h
  refine ⟨c1, ?_⟩
  refine cm_X9_tripTrouble (kr_X9_tripTrouble h) h (fun x2 x3 p5 h g4 => ?_)
  have h := h g4
  have oc := gr_ob p5.2.1.1 oc
  refine cm_X9_refusedBy (nf_X9_refusedBy h oc p5.2.2) h (fun x6 x7 p10 h g8 g9 => ?_)
  have h := h g8 g9
  have N := p10.2
  have oc := N.1
  refine ⟨?_, ?_⟩
  · intro c11
    have h := h.1 c11
    obtain ⟨b12, e13, h⟩ := h
    refine ⟨b12, e13, ?_⟩
    obtain ⟨c14, h⟩ := h
    refine ⟨c14, ?_⟩
    have n15 := ob_nq oc c14 (by decide)
    obtain ⟨b16, e17, h⟩ := h
    refine ⟨b16, e17, ?_⟩
    obtain ⟨c18, h⟩ := h
    refine ⟨c18, ?_⟩
    have n19 := ob_nq oc c18 (by decide)
    obtain ⟨c20, h⟩ := h
    refine ⟨c20, ?_⟩
    obtain ⟨b21, e22, h⟩ := h
    refine ⟨b21, e22, ?_⟩
    obtain ⟨b23, e24, h⟩ := h
    refine ⟨b23, e24, ?_⟩
    obtain ⟨b25, e26, h⟩ := h
    refine ⟨b25, e26, ?_⟩
    obtain ⟨c27, h⟩ := h
    refine ⟨c27, ?_⟩
    have n28 := ob_nq oc c27 (by decide)
    obtain ⟨b29, e30, h⟩ := h
    refine ⟨b29, e30, ?_⟩
    obtain ⟨c31, h⟩ := h
    refine ⟨c31, ?_⟩
    have n32 := ob_nq oc c31 (by decide)
    obtain ⟨c33, h⟩ := h
    refine ⟨c33, ?_⟩
    obtain ⟨b34, e35, h⟩ := h
    refine ⟨b34, e35, ?_⟩
    obtain ⟨b36, e37, h⟩ := h
    refine ⟨b36, e37, ?_⟩
    obtain ⟨c38, h⟩ := h
    refine ⟨c38, ?_⟩
    have n39 := ob_nq oc c38 (by decide)
    obtain ⟨b40, e41, h⟩ := h
    refine ⟨b40, e41, ?_⟩
    obtain ⟨c42, h⟩ := h
    refine ⟨c42, ?_⟩
    have n43 := ob_nq oc c42 (by decide)
    obtain ⟨c44, h⟩ := h
    refine ⟨c44, ?_⟩
    obtain ⟨b45, e46, h⟩ := h
    refine ⟨b45, e46, ?_⟩
    obtain ⟨c47, h⟩ := h
    refine ⟨c47, ?_⟩
    have n48 := ob_nq oc c47 (by decide)
    intro x50 e49
    have h := h x50 e49
    obtain ⟨c51, h⟩ := h
    refine ⟨c51, ?_⟩
    have n52 := ob_nq oc c51 (by decide)
    refine cm_X1_wetOf (kg_X1_wetOf h) h (fun x53 x54 p56 h g55 => ?_)
    have h := h g55
    have oc := gr_ob p56.2.1 oc
    have N := nf_K N p56.2 (by decide)
    obtain ⟨b57, e58, h⟩ := h
    refine ⟨b57, e58, ?_⟩
    obtain ⟨b59, e60, h⟩ := h
    refine ⟨b59, e60, ?_⟩
    obtain ⟨c61, h⟩ := h
    refine ⟨c61, ?_⟩
    have n62 := ob_nq oc c61 (by decide)
    obtain ⟨b63, e64, h⟩ := h
    refine ⟨b63, e64, ?_⟩
    obtain ⟨c65, h⟩ := h
    refine ⟨c65, ?_⟩
    have n66 := ob_nq oc c65 (by decide)
    obtain ⟨c67, h⟩ := h
    refine ⟨c67, ?_⟩
    obtain ⟨b68, e69, h⟩ := h
    refine ⟨b68, e69, ?_⟩
    obtain ⟨b70, e71, h⟩ := h
    refine ⟨b70, e71, ?_⟩
    obtain ⟨c72, h⟩ := h
    refine ⟨c72, ?_⟩
    have n73 := ob_nq oc c72 (by decide)
    obtain ⟨b74, e75, h⟩ := h
    refine ⟨b74, e75, ?_⟩
    obtain ⟨c76, h⟩ := h
    refine ⟨c76, ?_⟩
    have n77 := ob_nq oc c76 (by decide)
    obtain ⟨c78, h⟩ := h
    refine ⟨c78, ?_⟩
    obtain ⟨b79, e80, h⟩ := h
    refine ⟨b79, e80, ?_⟩
    obtain ⟨c81, h⟩ := h
    refine ⟨c81, ?_⟩
    have n82 := ob_nq oc c81 (by decide)
    refine cm_X1_leastWet (kg_X1_leastWet h) h (fun x83 x84 p86 h g85 => ?_)
    have h := h g85
    have oc := gr_ob p86.2.1 oc
    have N := nf_K N p86.2 (by decide)
    refine cm_X9_fraction (kg_X9_fraction h) h (fun x87 x88 p90 h g89 => ?_)
    have h := h g89
    have oc := gr_ob p90.2.1 oc
    have N := nf_K N p90.2 (by decide)
    exact ⟨h, N⟩
  · intro c91
    have h := h.2 c91
    exact ⟨h, N⟩
theorem nf_X9_saves {Q : Int64 → HS → Prop} {v0 : Nat} {v1 : Int32} {v2 : Int32} {v3 : Int32} {v4 : Int32} {v5 : Int32} {S : HS} (h : P_X9_saves v0 v1 v2 v3 v4 v5 Q S) (oc : ob S v0 9) : P_X9_saves v0 v1 v2 v3 v4 v5 (fun r T => Q r T ∧ NFq 9 9 c9 v0 T) S := nf_X9_saves_0 h oc
set_option maxRecDepth 20000 in
set_option maxHeartbeats 1000000 in
theorem nf_X9_soaked_27 {Q : Int32 → HS → Prop} {v0 : Nat} {S : HS} (h : P_X9_soaked_27 Q v0 S) (oc : ob S v0 9) : P_X9_soaked_27 (fun r T => Q r T ∧ NFq 9 9 c9 v0 T) v0 S := by
  delta P_X9_soaked_27 at h ⊢
  obtain ⟨c1, h⟩ := h
  refine ⟨c1, ?_⟩
  refine cm_X9_refuse (nf_X9_refuse h oc (by decide)) h (fun x2 x3 p5 h g4 => ?_)
  have h := h g4
  have N := p5.2
  have oc := N.1
  exact ⟨h, N⟩
set_option maxRecDepth 20000 in
set_option maxHeartbeats 1000000 in
theorem nf_X9_soaked_88 {Q : Int32 → HS → Prop} {s0 : Nat} {s1 : Int32} {v0 : Nat} {S : HS} (h : P_X9_soaked_88 Q s0 s1 S) (oc : ob S v0 9) (q_s0 : s0 = v0) : P_X9_soaked_88 (fun r T => Q r T ∧ NFq 9 9 c9 v0 T) s0 s1 S := by
  delta P_X9_soaked_88 at h ⊢
  subst q_s0
  obtain ⟨c1, h⟩ := h
  refine ⟨c1, ?_⟩
  refine cm_X9_grant (nf_X9_grant h oc) h (fun x2 x3 p5 h g4 => ?_)
  have h := h g4
  have N := p5.2
  have oc := N.1
  exact ⟨h, N⟩
set_option maxRecDepth 20000 in
set_option maxHeartbeats 1000000 in
theorem nf_X9_soaked_0 {Q : Int32 → HS → Prop} {v0 : Nat} {S : HS} (h : P_X9_soaked_0 Q v0 S) (oc : ob S v0 9) : P_X9_soaked_0 (fun r T => Q r T ∧ NFq 9 9 c9 v0 T) v0 S := by
  delta P_X9_soaked_0 at h ⊢
  obtain ⟨c1, h⟩ := h
  refine ⟨c1, ?_⟩
  obtain ⟨b2, e3, h⟩ := h
  refine ⟨b2, e3, ?_⟩
  obtain ⟨c4, h⟩ := h
  refine ⟨c4, ?_⟩
  have n5 := ob_nq oc c4 (by decide)
  refine cm_X0_isOn (kg_X0_isOn h) h (fun x6 x7 p10 h g8 g9 => ?_)
  have h := h g8 g9
  have oc := gr_ob p10.2.1 oc
  refine ⟨?_, ?_⟩
  · intro c11
    have h := h.1 c11
    exact nf_X9_soaked_27 h oc
  · intro c12
    have h := h.2 c12
    obtain ⟨b13, e14, h⟩ := h
    refine ⟨b13, e14, ?_⟩
    obtain ⟨b15, e16, h⟩ := h
    refine ⟨b15, e16, ?_⟩
    obtain ⟨c17, h⟩ := h
    refine ⟨c17, ?_⟩
    have n18 := ob_nq oc c17 (by decide)
    intro x20 e19
    have h := h x20 e19
    obtain ⟨c21, h⟩ := h
    refine ⟨c21, ?_⟩
    have n22 := ob_nq oc c21 (by decide)
    refine cm_X8_hasWalker (kg_X8_hasWalker h) h (fun x23 x24 p27 h g25 g26 => ?_)
    have h := h g25 g26
    have oc := gr_ob p27.2.1 oc
    refine ⟨?_, ?_⟩
    · intro c28
      have h := h.1 c28
      obtain ⟨b29, e30, h⟩ := h
      refine ⟨b29, e30, ?_⟩
      obtain ⟨c31, h⟩ := h
      refine ⟨c31, ?_⟩
      have n32 := ob_nq oc c31 (by decide)
      obtain ⟨b33, e34, h⟩ := h
      refine ⟨b33, e34, ?_⟩
      obtain ⟨b35, e36, h⟩ := h
      refine ⟨b35, e36, ?_⟩
      obtain ⟨c37, h⟩ := h
      refine ⟨c37, ?_⟩
      have n38 := ob_nq oc c37 (by decide)
      intro x40 e39
      have h := h x40 e39
      obtain ⟨c41, h⟩ := h
      refine ⟨c41, ?_⟩
      have n42 := ob_nq oc c41 (by decide)
      obtain ⟨c43, h⟩ := h
      refine ⟨c43, ?_⟩
      obtain ⟨b44, e45, h⟩ := h
      refine ⟨b44, e45, ?_⟩
      obtain ⟨c46, h⟩ := h
      refine ⟨c46, ?_⟩
      have n47 := ob_nq oc c46 (by decide)
      intro x49 e48
      have h := h x49 e48
      refine ⟨?_, ?_⟩
      · intro c50
        have h := h.1 c50
        obtain ⟨b51, e52, h⟩ := h
        refine ⟨b51, e52, ?_⟩
        obtain ⟨c53, h⟩ := h
        refine ⟨c53, ?_⟩
        have n54 := ob_nq oc c53 (by decide)
        obtain ⟨b55, e56, h⟩ := h
        refine ⟨b55, e56, ?_⟩
        obtain ⟨c57, h⟩ := h
        refine ⟨c57, ?_⟩
        have n58 := ob_nq oc c57 (by decide)
        refine cm_X2_allGot (kg_X2_allGot h) h (fun x59 x60 p62 h g61 => ?_)
        have h := h g61
        have oc := gr_ob p62.2.1 oc
        refine cm_X9_coatParts (kg_X9_coatParts h) h (fun x63 x64 p66 h g65 => ?_)
        have h := h g65
        have oc := gr_ob p66.2.1 oc
        refine ⟨?_, ?_⟩
        · intro c67
          have h := h.1 c67
          exact nf_X9_soaked_88 h oc rfl
        · intro c68
          have h := h.2 c68
          exact nf_X9_soaked_88 h oc rfl
      · intro c69
        have h := h.2 c69
        refine cm_X9_grant (nf_X9_grant h oc) h (fun x70 x71 p73 h g72 => ?_)
        have h := h g72
        have N := p73.2
        have oc := N.1
        exact ⟨h, N⟩
    · intro c74
      have h := h.2 c74
      exact nf_X9_soaked_27 h oc
theorem nf_X9_soaked {Q : Int32 → HS → Prop} {v0 : Nat} {S : HS} (h : P_X9_soaked v0 Q S) (oc : ob S v0 9) : P_X9_soaked v0 (fun r T => Q r T ∧ NFq 9 9 c9 v0 T) S := nf_X9_soaked_0 h oc
set_option maxRecDepth 20000 in
set_option maxHeartbeats 1000000 in
theorem nr_X9_stayTrouble_0 {Q : Int32 → HS → Prop} {v0 : Nat} {v1 : Int32} {S : HS} (h : P_X9_stayTrouble_0 Q v0 v1 S) : P_X9_stayTrouble_0 (fun r T => Q r T ∧ c9 r) v0 v1 S := by
  delta P_X9_stayTrouble_0 at h ⊢
  obtain ⟨c1, h⟩ := h
  refine ⟨c1, ?_⟩
  obtain ⟨b2, e3, h⟩ := h
  refine ⟨b2, e3, ?_⟩
  obtain ⟨c4, h⟩ := h
  refine ⟨c4, ?_⟩
  refine cm_X0_isOn h h (fun x5 x6 h _ g7 g8 => ?_)
  have h := h g7 g8
  refine ⟨?_, ?_⟩
  · intro c10
    have h := h.1 c10
    exact ⟨h, (by decide)⟩
  · intro c11
    have h := h.2 c11
    obtain ⟨b12, e13, h⟩ := h
    refine ⟨b12, e13, ?_⟩
    obtain ⟨b14, e15, h⟩ := h
    refine ⟨b14, e15, ?_⟩
    obtain ⟨c16, h⟩ := h
    refine ⟨c16, ?_⟩
    intro x18 e17
    have h := h x18 e17
    obtain ⟨c19, h⟩ := h
    refine ⟨c19, ?_⟩
    refine cm_X8_hasWalker h h (fun x20 x21 h _ g22 g23 => ?_)
    have h := h g22 g23
    refine ⟨?_, ?_⟩
    · intro c25
      have h := h.1 c25
      refine ⟨?_, ?_⟩
      · intro c26
        have h := h.1 c26
        exact ⟨h, (by decide)⟩
      · intro c27
        have h := h.2 c27
        refine ⟨?_, ?_⟩
        · intro c28
          have h := h.1 c28
          obtain ⟨b29, e30, h⟩ := h
          refine ⟨b29, e30, ?_⟩
          obtain ⟨b31, e32, h⟩ := h
          refine ⟨b31, e32, ?_⟩
          obtain ⟨c33, h⟩ := h
          refine ⟨c33, ?_⟩
          obtain ⟨b34, e35, h⟩ := h
          refine ⟨b34, e35, ?_⟩
          obtain ⟨c36, h⟩ := h
          refine ⟨c36, ?_⟩
          intro x38 e37
          have h := h x38 e37
          obtain ⟨c39, h⟩ := h
          refine ⟨c39, ?_⟩
          refine cm_X8_canWait h h (fun x40 x41 h _ g42 g43 => ?_)
          have h := h g42 g43
          refine ⟨?_, ?_⟩
          · intro c45
            have h := h.1 c45
            obtain ⟨b46, e47, h⟩ := h
            refine ⟨b46, e47, ?_⟩
            obtain ⟨c48, h⟩ := h
            refine ⟨c48, ?_⟩
            obtain ⟨b49, e50, h⟩ := h
            refine ⟨b49, e50, ?_⟩
            obtain ⟨c51, h⟩ := h
            refine ⟨c51, ?_⟩
            intro x53 e52
            have h := h x53 e52
            refine ⟨?_, ?_⟩
            · intro c54
              have h := h.1 c54
              exact ⟨h, (by decide)⟩
            · intro c55
              have h := h.2 c55
              exact ⟨h, (by decide)⟩
          · intro c56
            have h := h.2 c56
            exact ⟨h, (by decide)⟩
        · intro c57
          have h := h.2 c57
          exact ⟨h, (by decide)⟩
    · intro c58
      have h := h.2 c58
      exact ⟨h, (by decide)⟩
theorem nr_X9_stayTrouble {Q : Int32 → HS → Prop} {v0 : Nat} {v1 : Int32} {S : HS} (h : P_X9_stayTrouble v0 v1 Q S) : P_X9_stayTrouble v0 v1 (fun r T => Q r T ∧ c9 r) S := nr_X9_stayTrouble_0 h
theorem kr_X9_stayTrouble {Q : Int32 → HS → Prop} {v0 : Nat} {v1 : Int32} {S : HS} (h : P_X9_stayTrouble v0 v1 Q S) : P_X9_stayTrouble v0 v1 (fun r T => Q r T ∧ K5 S T ∧ c9 r) S := cm_X9_stayTrouble (kg_X9_stayTrouble h) (nr_X9_stayTrouble h) (fun _ _ a b => ⟨a.1, a.2, b.2⟩)
set_option maxRecDepth 20000 in
set_option maxHeartbeats 1000000 in
theorem nf_X9_stay_111 {Q : Int32 → HS → Prop} {X58 X58_2 : Nat → Int32 → Int64 → Int32 → HS → Prop} {v0 : Nat} {v1 : Int32} {v2 : Int64} {v4 : Int32} {S : HS} (h : P_X9_stay_111 Q X58 v0 v1 v2 v4 S) (oc : ob S v0 9) (N : NFq 9 9 c9 v0 S) (hX58 : ∀ (u0 : Nat) (u1 : Int32) (u2 : Int64) (u3 : Int32) (u4 : HS), X58 u0 u1 u2 u3 u4 → u0 = v0 → ob u4 v0 9 → NFq 9 9 c9 v0 u4 → X58_2 u0 u1 u2 u3 u4) : P_X9_stay_111 (fun r T => Q r T ∧ NFq 9 9 c9 v0 T) X58_2 v0 v1 v2 v4 S := by
  delta P_X9_stay_111 at h ⊢
  obtain ⟨c1, h⟩ := h
  refine ⟨c1, ?_⟩
  obtain ⟨b2, e3, h⟩ := h
  refine ⟨b2, e3, ?_⟩
  obtain ⟨c4, h⟩ := h
  refine ⟨c4, ?_⟩
  have n5 := ob_nq oc c4 (by decide)
  obtain ⟨b6, e7, h⟩ := h
  refine ⟨b6, e7, ?_⟩
  obtain ⟨c8, h⟩ := h
  refine ⟨c8, ?_⟩
  have n9 := ob_nq oc c8 (by decide)
  intro x11 e10
  have h := h x11 e10
  intro x13 e12
  have h := h x13 e12
  intro x15 e14
  have h := h x15 e14
  have N := nf_ne N e14 (Or.inl n9)
  have oc := ob_wI oc e14
  intro x17 e16
  have h := h x17 e16
  exact hX58 _ _ _ _ _ h rfl oc N
set_option maxRecDepth 20000 in
set_option maxHeartbeats 1000000 in
theorem nfB_X9_stay_58 {Q : Int32 → HS → Prop} {X58 X58_2 : Nat → Int32 → Int64 → Int32 → HS → Prop} {v0 : Nat} {v1 : Int32} {v2 : Int64} {v4 : Int32} {S : HS} (h : B_X9_stay_58 Q X58 v0 v1 v2 v4 S) (oc : ob S v0 9) (N : NFq 9 9 c9 v0 S) (hX58 : ∀ (u0 : Nat) (u1 : Int32) (u2 : Int64) (u3 : Int32) (u4 : HS), X58 u0 u1 u2 u3 u4 → u0 = v0 → ob u4 v0 9 → NFq 9 9 c9 v0 u4 → X58_2 u0 u1 u2 u3 u4) : B_X9_stay_58 (fun r T => Q r T ∧ NFq 9 9 c9 v0 T) X58_2 v0 v1 v2 v4 S := by
  delta B_X9_stay_58 at h ⊢
  refine ⟨?_, ?_⟩
  · intro c1
    have h := h.1 c1
    exact ⟨h, N⟩
  · intro c2
    have h := h.2 c2
    obtain ⟨c3, h⟩ := h
    refine ⟨c3, ?_⟩
    obtain ⟨b4, e5, h⟩ := h
    refine ⟨b4, e5, ?_⟩
    obtain ⟨b6, e7, h⟩ := h
    refine ⟨b6, e7, ?_⟩
    obtain ⟨b8, e9, h⟩ := h
    refine ⟨b8, e9, ?_⟩
    obtain ⟨c10, h⟩ := h
    refine ⟨c10, ?_⟩
    have n11 := ob_nq oc c10 (by decide)
    obtain ⟨b12, e13, h⟩ := h
    refine ⟨b12, e13, ?_⟩
    obtain ⟨c14, h⟩ := h
    refine ⟨c14, ?_⟩
    have n15 := ob_nq oc c14 (by decide)
    intro x17 e16
    have h := h x17 e16
    obtain ⟨c18, h⟩ := h
    refine ⟨c18, ?_⟩
    have n19 := ob_nq oc c18 (by decide)
    refine cm_X8_hourOf (kg_X8_hourOf h) h (fun x20 x21 p23 h g22 => ?_)
    have h := h g22
    have oc := gr_ob p23.2.1 oc
    have N := nf_K N p23.2 (by decide)
    obtain ⟨c24, h⟩ := h
    refine ⟨c24, ?_⟩
    have n25 := ob_nq oc c24 (by decide)
    refine cm_X0_rainsIn (kg_X0_rainsIn h) h (fun x26 x27 p30 h g28 g29 => ?_)
    have h := h g28 g29
    have oc := gr_ob p30.2.1 oc
    have N := nf_K N p30.2 (by decide)
    refine ⟨?_, ?_⟩
    · intro c31
      have h := h.1 c31
      exact nf_X9_stay_111 h oc N hX58
    · intro c32
      have h := h.2 c32
      obtain ⟨b33, e34, h⟩ := h
      refine ⟨b33, e34, ?_⟩
      obtain ⟨c35, h⟩ := h
      refine ⟨c35, ?_⟩
      have n36 := ob_nq oc c35 (by decide)
      obtain ⟨b37, e38, h⟩ := h
      refine ⟨b37, e38, ?_⟩
      obtain ⟨c39, h⟩ := h
      refine ⟨c39, ?_⟩
      have n40 := ob_nq oc c39 (by decide)
      obtain ⟨b41, e42, h⟩ := h
      refine ⟨b41, e42, ?_⟩
      obtain ⟨c43, h⟩ := h
      refine ⟨c43, ?_⟩
      have n44 := ob_nq oc c43 (by decide)
      obtain ⟨c45, h⟩ := h
      refine ⟨c45, ?_⟩
      intro x47 e46
      have h := h x47 e46
      intro x49 e48
      have h := h x49 e48
      obtain ⟨c50, h⟩ := h
      refine ⟨c50, ?_⟩
      intro x52 e51
      have h := h x52 e51
      have N := nf_wJ N e51
      have oc := ob_wJ oc e51
      exact nf_X9_stay_111 h oc N hX58
theorem nf_X9_stay_58 {Q : Int32 → HS → Prop} {v0 : Nat} {v1 : Int32} {v2 : Int64} {v4 : Int32} {S : HS} (h : P_X9_stay_58 Q v0 v1 v2 v4 S) (oc : ob S v0 9) (N : NFq 9 9 c9 v0 S) : P_X9_stay_58 (fun r T => Q r T ∧ NFq 9 9 c9 v0 T) v0 v1 v2 v4 S := h (fun w0 v1 v2 v4 S => w0 = v0 → ob S v0 9 → NFq 9 9 c9 v0 S → P_X9_stay_58 (fun r T => Q r T ∧ NFq 9 9 c9 v0 T) w0 v1 v2 v4 S) (fun w0 v1 v2 v4 S hB e oc N => by
  subst e; exact fd_X9_stay_58 (nfB_X9_stay_58 hB oc N (fun _ _ _ _ _ hx e oc N => hx e oc N))) rfl oc N
set_option maxRecDepth 20000 in
set_option maxHeartbeats 1000000 in
theorem nf_X9_stay_0 {Q : Int32 → HS → Prop} {v0 : Nat} {v1 : Int32} {S : HS} (h : P_X9_stay_0 Q v0 v1 S) (oc : ob S v0 9) : P_X9_stay_0 (fun r T => Q r T ∧ NFq 9 9 c9 v0 T) v0 v1 S := by
  delta P_X9_stay_0 at h ⊢
  obtain ⟨c1, h⟩ := h
  refine ⟨c1, ?_⟩
  refine cm_X9_stayTrouble (kr_X9_stayTrouble h) h (fun x2 x3 p5 h g4 => ?_)
  have h := h g4
  have oc := gr_ob p5.2.1.1 oc
  refine cm_X9_refusedBy (nf_X9_refusedBy h oc p5.2.2) h (fun x6 x7 p10 h g8 g9 => ?_)
  have h := h g8 g9
  have N := p10.2
  have oc := N.1
  refine ⟨?_, ?_⟩
  · intro c11
    have h := h.1 c11
    obtain ⟨b12, e13, h⟩ := h
    refine ⟨b12, e13, ?_⟩
    obtain ⟨c14, h⟩ := h
    refine ⟨c14, ?_⟩
    have n15 := ob_nq oc c14 (by decide)
    refine cm_X0_keepForUndo (kg_X0_keepForUndo h) h (fun x16 p18 h g17 => ?_)
    have h := h g17
    have oc := gr_ob p18.2.1 oc
    have N := nf_K N p18.2 (by decide)
    obtain ⟨b19, e20, h⟩ := h
    refine ⟨b19, e20, ?_⟩
    obtain ⟨b21, e22, h⟩ := h
    refine ⟨b21, e22, ?_⟩
    obtain ⟨c23, h⟩ := h
    refine ⟨c23, ?_⟩
    have n24 := ob_nq oc c23 (by decide)
    obtain ⟨b25, e26, h⟩ := h
    refine ⟨b25, e26, ?_⟩
    obtain ⟨b27, e28, h⟩ := h
    refine ⟨b27, e28, ?_⟩
    obtain ⟨c29, h⟩ := h
    refine ⟨c29, ?_⟩
    have n30 := ob_nq oc c29 (by decide)
    intro x32 e31
    have h := h x32 e31
    obtain ⟨c33, h⟩ := h
    refine ⟨c33, ?_⟩
    have n34 := ob_nq oc c33 (by decide)
    obtain ⟨c35, h⟩ := h
    refine ⟨c35, ?_⟩
    obtain ⟨b36, e37, h⟩ := h
    refine ⟨b36, e37, ?_⟩
    obtain ⟨b38, e39, h⟩ := h
    refine ⟨b38, e39, ?_⟩
    obtain ⟨c40, h⟩ := h
    refine ⟨c40, ?_⟩
    have n41 := ob_nq oc c40 (by decide)
    obtain ⟨b42, e43, h⟩ := h
    refine ⟨b42, e43, ?_⟩
    obtain ⟨c44, h⟩ := h
    refine ⟨c44, ?_⟩
    have n45 := ob_nq oc c44 (by decide)
    intro x47 e46
    have h := h x47 e46
    obtain ⟨c48, h⟩ := h
    refine ⟨c48, ?_⟩
    have n49 := ob_nq oc c48 (by decide)
    refine cm_X8_dripOn (kg_X8_dripOn h) h (fun x50 x51 p53 h g52 => ?_)
    have h := h g52
    have oc := gr_ob p53.2.1 oc
    have N := nf_K N p53.2 (by decide)
    intro x55 e54
    have h := h x55 e54
    exact nf_X9_stay_58 h oc N
  · intro c56
    have h := h.2 c56
    exact ⟨h, N⟩
theorem nf_X9_stay {Q : Int32 → HS → Prop} {v0 : Nat} {v1 : Int32} {S : HS} (h : P_X9_stay v0 v1 Q S) (oc : ob S v0 9) : P_X9_stay v0 v1 (fun r T => Q r T ∧ NFq 9 9 c9 v0 T) S := nf_X9_stay_0 h oc
set_option maxRecDepth 20000 in
set_option maxHeartbeats 1000000 in
theorem nf_X9_step_61 {Q : Int32 → HS → Prop} {v0 : Nat} {S : HS} (h : P_X9_step_61 Q v0 S) (oc : ob S v0 9) : P_X9_step_61 (fun r T => Q r T ∧ NFq 9 9 c9 v0 T) v0 S := by
  delta P_X9_step_61 at h ⊢
  obtain ⟨c1, h⟩ := h
  refine ⟨c1, ?_⟩
  refine cm_X9_refuse (nf_X9_refuse h oc (by decide)) h (fun x2 x3 p5 h g4 => ?_)
  have h := h g4
  have N := p5.2
  have oc := N.1
  exact ⟨h, N⟩
set_option maxRecDepth 20000 in
set_option maxHeartbeats 1000000 in
theorem nf_X9_step_0 {Q : Int32 → HS → Prop} {v0 : Nat} {v1 : Int32} {v2 : Int32} {v3 : Int32} {v4 : Int32} {v5 : Int32} {v6 : Int32} {S : HS} (h : P_X9_step_0 Q v0 v1 v2 v3 v4 v5 v6 S) (oc : ob S v0 9) : P_X9_step_0 (fun r T => Q r T ∧ NFq 9 9 c9 v0 T) v0 v1 v2 v3 v4 v5 v6 S := by
  delta P_X9_step_0 at h ⊢
  obtain ⟨c1, h⟩ := h
  refine ⟨c1, ?_⟩
  refine cm_X9_wayTrouble (kr_X9_wayTrouble h) h (fun x2 x3 p5 h g4 => ?_)
  have h := h g4
  have oc := gr_ob p5.2.1.1 oc
  refine cm_X9_refusedBy (nf_X9_refusedBy h oc p5.2.2) h (fun x6 x7 p10 h g8 g9 => ?_)
  have h := h g8 g9
  have N := p10.2
  have oc := N.1
  refine ⟨?_, ?_⟩
  · intro c11
    have h := h.1 c11
    obtain ⟨b12, e13, h⟩ := h
    refine ⟨b12, e13, ?_⟩
    obtain ⟨b14, e15, h⟩ := h
    refine ⟨b14, e15, ?_⟩
    obtain ⟨c16, h⟩ := h
    refine ⟨c16, ?_⟩
    have n17 := ob_nq oc c16 (by decide)
    refine cm_X7_trace (kg_X7_trace h) h (fun x18 x19 p21 h g20 => ?_)
    have h := h g20
    have oc := gr_ob p21.2.1 oc
    have N := nf_K N p21.2 (by decide)
    refine ⟨?_, ?_⟩
    · intro c22
      have h := h.1 c22
      exact nf_X9_step_61 h oc
    · intro c23
      have h := h.2 c23
      refine ⟨?_, ?_⟩
      · intro c24
        have h := h.1 c24
        exact nf_X9_step_61 h oc
      · intro c25
        have h := h.2 c25
        obtain ⟨b26, e27, h⟩ := h
        refine ⟨b26, e27, ?_⟩
        obtain ⟨c28, h⟩ := h
        refine ⟨c28, ?_⟩
        have n29 := ob_nq oc c28 (by decide)
        obtain ⟨b30, e31, h⟩ := h
        refine ⟨b30, e31, ?_⟩
        obtain ⟨c32, h⟩ := h
        refine ⟨c32, ?_⟩
        have n33 := ob_nq oc c32 (by decide)
        refine ⟨?_, ?_⟩
        · intro c34
          have h := h.1 c34
          obtain ⟨b35, e36, h⟩ := h
          refine ⟨b35, e36, ?_⟩
          obtain ⟨c37, h⟩ := h
          refine ⟨c37, ?_⟩
          have n38 := ob_nq oc c37 (by decide)
          obtain ⟨b39, e40, h⟩ := h
          refine ⟨b39, e40, ?_⟩
          obtain ⟨c41, h⟩ := h
          refine ⟨c41, ?_⟩
          have n42 := ob_nq oc c41 (by decide)
          obtain ⟨c43, h⟩ := h
          refine ⟨c43, ?_⟩
          intro x45 e44
          have h := h x45 e44
          exact ⟨h, N⟩
        · intro c46
          have h := h.2 c46
          exact nf_X9_step_61 h oc
  · intro c47
    have h := h.2 c47
    exact ⟨h, N⟩
theorem nf_X9_step {Q : Int32 → HS → Prop} {v0 : Nat} {v1 : Int32} {v2 : Int32} {v3 : Int32} {v4 : Int32} {v5 : Int32} {v6 : Int32} {S : HS} (h : P_X9_step v0 v1 v2 v3 v4 v5 v6 Q S) (oc : ob S v0 9) : P_X9_step v0 v1 v2 v3 v4 v5 v6 (fun r T => Q r T ∧ NFq 9 9 c9 v0 T) S := nf_X9_step_0 h oc
set_option maxRecDepth 20000 in
set_option maxHeartbeats 1000000 in
theorem nf_X9_steps_0 {Q : Int32 → HS → Prop} {v0 : Nat} {v1 : Int32} {v2 : Int32} {v3 : Int32} {v4 : Int32} {v5 : Int32} {S : HS} (h : P_X9_steps_0 Q v0 v1 v2 v3 v4 v5 S) (oc : ob S v0 9) : P_X9_steps_0 (fun r T => Q r T ∧ NFq 9 9 c9 v0 T) v0 v1 v2 v3 v4 v5 S := by
  delta P_X9_steps_0 at h ⊢
  obtain ⟨c1, h⟩ := h
  refine ⟨c1, ?_⟩
  refine cm_X9_wayTrouble (kr_X9_wayTrouble h) h (fun x2 x3 p5 h g4 => ?_)
  have h := h g4
  have oc := gr_ob p5.2.1.1 oc
  refine cm_X9_refusedBy (nf_X9_refusedBy h oc p5.2.2) h (fun x6 x7 p10 h g8 g9 => ?_)
  have h := h g8 g9
  have N := p10.2
  have oc := N.1
  refine ⟨?_, ?_⟩
  · intro c11
    have h := h.1 c11
    obtain ⟨b12, e13, h⟩ := h
    refine ⟨b12, e13, ?_⟩
    obtain ⟨b14, e15, h⟩ := h
    refine ⟨b14, e15, ?_⟩
    obtain ⟨c16, h⟩ := h
    refine ⟨c16, ?_⟩
    have n17 := ob_nq oc c16 (by decide)
    refine cm_X7_trace (kg_X7_trace h) h (fun x18 x19 p21 h g20 => ?_)
    have h := h g20
    have oc := gr_ob p21.2.1 oc
    have N := nf_K N p21.2 (by decide)
    exact ⟨h, N⟩
  · intro c22
    have h := h.2 c22
    exact ⟨h, N⟩
theorem nf_X9_steps {Q : Int32 → HS → Prop} {v0 : Nat} {v1 : Int32} {v2 : Int32} {v3 : Int32} {v4 : Int32} {v5 : Int32} {S : HS} (h : P_X9_steps v0 v1 v2 v3 v4 v5 Q S) (oc : ob S v0 9) : P_X9_steps v0 v1 v2 v3 v4 v5 (fun r T => Q r T ∧ NFq 9 9 c9 v0 T) S := nf_X9_steps_0 h oc
set_option maxRecDepth 20000 in
set_option maxHeartbeats 1000000 in
theorem nf_X9_there_0 {Q : Int32 → HS → Prop} {v0 : Nat} {v1 : Int32} {v2 : Int32} {v3 : Int32} {v4 : Int32} {v5 : Int32} {S : HS} (h : P_X9_there_0 Q v0 v1 v2 v3 v4 v5 S) (oc : ob S v0 9) : P_X9_there_0 (fun r T => Q r T ∧ NFq 9 9 c9 v0 T) v0 v1 v2 v3 v4 v5 S := by
  delta P_X9_there_0 at h ⊢
  obtain ⟨c1, h⟩ := h
  refine ⟨c1, ?_⟩
  refine cm_X9_wayTrouble (kr_X9_wayTrouble h) h (fun x2 x3 p5 h g4 => ?_)
  have h := h g4
  have oc := gr_ob p5.2.1.1 oc
  refine cm_X9_refusedBy (nf_X9_refusedBy h oc p5.2.2) h (fun x6 x7 p10 h g8 g9 => ?_)
  have h := h g8 g9
  have N := p10.2
  have oc := N.1
  refine ⟨?_, ?_⟩
  · intro c11
    have h := h.1 c11
    obtain ⟨b12, e13, h⟩ := h
    refine ⟨b12, e13, ?_⟩
    obtain ⟨c14, h⟩ := h
    refine ⟨c14, ?_⟩
    have n15 := ob_nq oc c14 (by decide)
    refine cm_X7_endFrom (kg_X7_endFrom h) h (fun x16 x17 p19 h g18 => ?_)
    have h := h g18
    have oc := gr_ob p19.2.1 oc
    have N := nf_K N p19.2 (by decide)
    exact ⟨h, N⟩
  · intro c20
    have h := h.2 c20
    exact ⟨h, N⟩
theorem nf_X9_there {Q : Int32 → HS → Prop} {v0 : Nat} {v1 : Int32} {v2 : Int32} {v3 : Int32} {v4 : Int32} {v5 : Int32} {S : HS} (h : P_X9_there v0 v1 v2 v3 v4 v5 Q S) (oc : ob S v0 9) : P_X9_there v0 v1 v2 v3 v4 v5 (fun r T => Q r T ∧ NFq 9 9 c9 v0 T) S := nf_X9_there_0 h oc
set_option maxRecDepth 20000 in
set_option maxHeartbeats 1000000 in
theorem nf_X9_undo_17 {Q : Int32 → HS → Prop} {s0 : Nat} {s1 : Int32} {v0 : Nat} {S : HS} (h : P_X9_undo_17 Q s0 s1 S) (oc : ob S v0 9) (q_s0 : s0 = v0) (z_s1 : c9 s1) : P_X9_undo_17 (fun r T => Q r T ∧ NFq 9 9 c9 v0 T) s0 s1 S := by
  delta P_X9_undo_17 at h ⊢
  subst q_s0
  obtain ⟨c1, h⟩ := h
  refine ⟨c1, ?_⟩
  refine cm_X9_refusedBy (nf_X9_refusedBy h oc z_s1) h (fun x2 x3 p6 h g4 g5 => ?_)
  have h := h g4 g5
  have N := p6.2
  have oc := N.1
  refine ⟨?_, ?_⟩
  · intro c7
    have h := h.1 c7
    exact ⟨h, N⟩
  · intro c8
    have h := h.2 c8
    exact ⟨h, N⟩
set_option maxRecDepth 20000 in
set_option maxHeartbeats 1000000 in
theorem nf_X9_undo_0 {Q : Int32 → HS → Prop} {v0 : Nat} {S : HS} (h : P_X9_undo_0 Q v0 S) (oc : ob S v0 9) : P_X9_undo_0 (fun r T => Q r T ∧ NFq 9 9 c9 v0 T) v0 S := by
  delta P_X9_undo_0 at h ⊢
  obtain ⟨c1, h⟩ := h
  refine ⟨c1, ?_⟩
  obtain ⟨b2, e3, h⟩ := h
  refine ⟨b2, e3, ?_⟩
  obtain ⟨c4, h⟩ := h
  refine ⟨c4, ?_⟩
  have n5 := ob_nq oc c4 (by decide)
  refine cm_X0_takeBack (kg_X0_takeBack h) h (fun x6 x7 p10 h g8 g9 => ?_)
  have h := h g8 g9
  have oc := gr_ob p10.2.1 oc
  refine ⟨?_, ?_⟩
  · intro c11
    have h := h.1 c11
    exact nf_X9_undo_17 h oc rfl (by decide)
  · intro c12
    have h := h.2 c12
    exact nf_X9_undo_17 h oc rfl (by decide)
theorem nf_X9_undo {Q : Int32 → HS → Prop} {v0 : Nat} {S : HS} (h : P_X9_undo v0 Q S) (oc : ob S v0 9) : P_X9_undo v0 (fun r T => Q r T ∧ NFq 9 9 c9 v0 T) S := nf_X9_undo_0 h oc
set_option maxRecDepth 20000 in
set_option maxHeartbeats 1000000 in
theorem nf_X9_walker_21 {Q : Int32 → HS → Prop} {v0 : Nat} {S : HS} (h : P_X9_walker_21 Q v0 S) (oc : ob S v0 9) : P_X9_walker_21 (fun r T => Q r T ∧ NFq 9 9 c9 v0 T) v0 S := by
  delta P_X9_walker_21 at h ⊢
  obtain ⟨c1, h⟩ := h
  refine ⟨c1, ?_⟩
  refine cm_X9_refuse (nf_X9_refuse h oc (by decide)) h (fun x2 x3 p5 h g4 => ?_)
  have h := h g4
  have N := p5.2
  have oc := N.1
  exact ⟨h, N⟩
set_option maxRecDepth 20000 in
set_option maxHeartbeats 1000000 in
theorem nf_X9_walker_0 {Q : Int32 → HS → Prop} {v0 : Nat} {v1 : Int32} {v2 : Int32} {S : HS} (h : P_X9_walker_0 Q v0 v1 v2 S) (oc : ob S v0 9) : P_X9_walker_0 (fun r T => Q r T ∧ NFq 9 9 c9 v0 T) v0 v1 v2 S := by
  delta P_X9_walker_0 at h ⊢
  obtain ⟨c1, h⟩ := h
  refine ⟨c1, ?_⟩
  obtain ⟨b2, e3, h⟩ := h
  refine ⟨b2, e3, ?_⟩
  obtain ⟨c4, h⟩ := h
  refine ⟨c4, ?_⟩
  have n5 := ob_nq oc c4 (by decide)
  refine cm_X8_hasWalker (kg_X8_hasWalker h) h (fun x6 x7 p10 h g8 g9 => ?_)
  have h := h g8 g9
  have oc := gr_ob p10.2.1 oc
  refine ⟨?_, ?_⟩
  · intro c11
    have h := h.1 c11
    exact nf_X9_walker_21 h oc
  · intro c12
    have h := h.2 c12
    refine ⟨?_, ?_⟩
    · intro c13
      have h := h.1 c13
      exact nf_X9_walker_21 h oc
    · intro c14
      have h := h.2 c14
      refine ⟨?_, ?_⟩
      · intro c15
        have h := h.1 c15
        obtain ⟨b16, e17, h⟩ := h
        refine ⟨b16, e17, ?_⟩
        obtain ⟨c18, h⟩ := h
        refine ⟨c18, ?_⟩
        have n19 := ob_nq oc c18 (by decide)
        obtain ⟨b20, e21, h⟩ := h
        refine ⟨b20, e21, ?_⟩
        obtain ⟨c22, h⟩ := h
        refine ⟨c22, ?_⟩
        have n23 := ob_nq oc c22 (by decide)
        obtain ⟨c24, h⟩ := h
        refine ⟨c24, ?_⟩
        obtain ⟨b25, e26, h⟩ := h
        refine ⟨b25, e26, ?_⟩
        obtain ⟨c27, h⟩ := h
        refine ⟨c27, ?_⟩
        have n28 := ob_nq oc c27 (by decide)
        refine cm_X6_tell (kg_X6_tell h) h (fun x29 x30 p32 h g31 => ?_)
        have h := h g31
        have oc := gr_ob p32.2.1 oc
        refine cm_X9_grant (nf_X9_grant h oc) h (fun x33 x34 p36 h g35 => ?_)
        have h := h g35
        have N := p36.2
        have oc := N.1
        exact ⟨h, N⟩
      · intro c37
        have h := h.2 c37
        exact nf_X9_walker_21 h oc
theorem nf_X9_walker {Q : Int32 → HS → Prop} {v0 : Nat} {v1 : Int32} {v2 : Int32} {S : HS} (h : P_X9_walker v0 v1 v2 Q S) (oc : ob S v0 9) : P_X9_walker v0 v1 v2 (fun r T => Q r T ∧ NFq 9 9 c9 v0 T) S := nf_X9_walker_0 h oc
set_option maxRecDepth 20000 in
set_option maxHeartbeats 1000000 in
theorem nf_X9_wet_0 {Q : Int64 → HS → Prop} {v0 : Nat} {v1 : Int32} {v2 : Int32} {v3 : Int32} {v4 : Int32} {v5 : Int32} {v6 : Int32} {S : HS} (h : P_X9_wet_0 Q v0 v1 v2 v3 v4 v5 v6 S) (oc : ob S v0 9) : P_X9_wet_0 (fun r T => Q r T ∧ NFq 9 9 c9 v0 T) v0 v1 v2 v3 v4 v5 v6 S := by
  delta P_X9_wet_0 at h ⊢
  obtain ⟨c1, h⟩ := h
  refine ⟨c1, ?_⟩
  refine cm_X9_legTrouble (kr_X9_legTrouble h) h (fun x2 x3 p5 h g4 => ?_)
  have h := h g4
  have oc := gr_ob p5.2.1.1 oc
  refine cm_X9_refusedBy (nf_X9_refusedBy h oc p5.2.2) h (fun x6 x7 p10 h g8 g9 => ?_)
  have h := h g8 g9
  have N := p10.2
  have oc := N.1
  refine ⟨?_, ?_⟩
  · intro c11
    have h := h.1 c11
    obtain ⟨b12, e13, h⟩ := h
    refine ⟨b12, e13, ?_⟩
    obtain ⟨b14, e15, h⟩ := h
    refine ⟨b14, e15, ?_⟩
    obtain ⟨c16, h⟩ := h
    refine ⟨c16, ?_⟩
    have n17 := ob_nq oc c16 (by decide)
    obtain ⟨b18, e19, h⟩ := h
    refine ⟨b18, e19, ?_⟩
    obtain ⟨c20, h⟩ := h
    refine ⟨c20, ?_⟩
    have n21 := ob_nq oc c20 (by decide)
    obtain ⟨c22, h⟩ := h
    refine ⟨c22, ?_⟩
    obtain ⟨b23, e24, h⟩ := h
    refine ⟨b23, e24, ?_⟩
    obtain ⟨b25, e26, h⟩ := h
    refine ⟨b25, e26, ?_⟩
    obtain ⟨c27, h⟩ := h
    refine ⟨c27, ?_⟩
    have n28 := ob_nq oc c27 (by decide)
    obtain ⟨b29, e30, h⟩ := h
    refine ⟨b29, e30, ?_⟩
    obtain ⟨c31, h⟩ := h
    refine ⟨c31, ?_⟩
    have n32 := ob_nq oc c31 (by decide)
    obtain ⟨c33, h⟩ := h
    refine ⟨c33, ?_⟩
    obtain ⟨b34, e35, h⟩ := h
    refine ⟨b34, e35, ?_⟩
    obtain ⟨b36, e37, h⟩ := h
    refine ⟨b36, e37, ?_⟩
    obtain ⟨c38, h⟩ := h
    refine ⟨c38, ?_⟩
    have n39 := ob_nq oc c38 (by decide)
    obtain ⟨b40, e41, h⟩ := h
    refine ⟨b40, e41, ?_⟩
    obtain ⟨c42, h⟩ := h
    refine ⟨c42, ?_⟩
    have n43 := ob_nq oc c42 (by decide)
    obtain ⟨c44, h⟩ := h
    refine ⟨c44, ?_⟩
    obtain ⟨b45, e46, h⟩ := h
    refine ⟨b45, e46, ?_⟩
    obtain ⟨c47, h⟩ := h
    refine ⟨c47, ?_⟩
    have n48 := ob_nq oc c47 (by decide)
    refine cm_X1_wetOf (kg_X1_wetOf h) h (fun x49 x50 p52 h g51 => ?_)
    have h := h g51
    have oc := gr_ob p52.2.1 oc
    have N := nf_K N p52.2 (by decide)
    refine cm_X9_fraction (kg_X9_fraction h) h (fun x53 x54 p56 h g55 => ?_)
    have h := h g55
    have oc := gr_ob p56.2.1 oc
    have N := nf_K N p56.2 (by decide)
    exact ⟨h, N⟩
  · intro c57
    have h := h.2 c57
    exact ⟨h, N⟩
theorem nf_X9_wet {Q : Int64 → HS → Prop} {v0 : Nat} {v1 : Int32} {v2 : Int32} {v3 : Int32} {v4 : Int32} {v5 : Int32} {v6 : Int32} {S : HS} (h : P_X9_wet v0 v1 v2 v3 v4 v5 v6 Q S) (oc : ob S v0 9) : P_X9_wet v0 v1 v2 v3 v4 v5 v6 (fun r T => Q r T ∧ NFq 9 9 c9 v0 T) S := nf_X9_wet_0 h oc
set_option maxRecDepth 20000 in
set_option maxHeartbeats 1000000 in
theorem nf_X9_wetness_27 {Q : Int64 → HS → Prop} {v0 : Nat} {S : HS} (h : P_X9_wetness_27 Q v0 S) (oc : ob S v0 9) : P_X9_wetness_27 (fun r T => Q r T ∧ NFq 9 9 c9 v0 T) v0 S := by
  delta P_X9_wetness_27 at h ⊢
  obtain ⟨c1, h⟩ := h
  refine ⟨c1, ?_⟩
  refine cm_X9_refuse (nf_X9_refuse h oc (by decide)) h (fun x2 x3 p5 h g4 => ?_)
  have h := h g4
  have N := p5.2
  have oc := N.1
  exact ⟨h, N⟩
set_option maxRecDepth 20000 in
set_option maxHeartbeats 1000000 in
theorem nf_X9_wetness_0 {Q : Int64 → HS → Prop} {v0 : Nat} {v1 : Int32} {S : HS} (h : P_X9_wetness_0 Q v0 v1 S) (oc : ob S v0 9) : P_X9_wetness_0 (fun r T => Q r T ∧ NFq 9 9 c9 v0 T) v0 v1 S := by
  delta P_X9_wetness_0 at h ⊢
  obtain ⟨c1, h⟩ := h
  refine ⟨c1, ?_⟩
  obtain ⟨b2, e3, h⟩ := h
  refine ⟨b2, e3, ?_⟩
  obtain ⟨c4, h⟩ := h
  refine ⟨c4, ?_⟩
  have n5 := ob_nq oc c4 (by decide)
  refine cm_X0_isOn (kg_X0_isOn h) h (fun x6 x7 p10 h g8 g9 => ?_)
  have h := h g8 g9
  have oc := gr_ob p10.2.1 oc
  refine ⟨?_, ?_⟩
  · intro c11
    have h := h.1 c11
    exact nf_X9_wetness_27 h oc
  · intro c12
    have h := h.2 c12
    obtain ⟨b13, e14, h⟩ := h
    refine ⟨b13, e14, ?_⟩
    obtain ⟨b15, e16, h⟩ := h
    refine ⟨b15, e16, ?_⟩
    obtain ⟨c17, h⟩ := h
    refine ⟨c17, ?_⟩
    have n18 := ob_nq oc c17 (by decide)
    intro x20 e19
    have h := h x20 e19
    obtain ⟨c21, h⟩ := h
    refine ⟨c21, ?_⟩
    have n22 := ob_nq oc c21 (by decide)
    refine cm_X8_hasWalker (kg_X8_hasWalker h) h (fun x23 x24 p27 h g25 g26 => ?_)
    have h := h g25 g26
    have oc := gr_ob p27.2.1 oc
    refine ⟨?_, ?_⟩
    · intro c28
      have h := h.1 c28
      intro x30 e29
      have h := h x30 e29
      have N := nf_set (C := c9) oc e29 (by decide)
      have oc := N.1
      obtain ⟨b31, e32, h⟩ := h
      refine ⟨b31, e32, ?_⟩
      obtain ⟨c33, h⟩ := h
      refine ⟨c33, ?_⟩
      have n34 := ob_nq oc c33 (by decide)
      obtain ⟨b35, e36, h⟩ := h
      refine ⟨b35, e36, ?_⟩
      obtain ⟨c37, h⟩ := h
      refine ⟨c37, ?_⟩
      have n38 := ob_nq oc c37 (by decide)
      refine cm_X2_allGot (kg_X2_allGot h) h (fun x39 x40 p42 h g41 => ?_)
      have h := h g41
      have oc := gr_ob p42.2.1 oc
      have N := nf_K N p42.2 (by decide)
      obtain ⟨b43, e44, h⟩ := h
      refine ⟨b43, e44, ?_⟩
      obtain ⟨c45, h⟩ := h
      refine ⟨c45, ?_⟩
      have n46 := ob_nq oc c45 (by decide)
      obtain ⟨b47, e48, h⟩ := h
      refine ⟨b47, e48, ?_⟩
      obtain ⟨b49, e50, h⟩ := h
      refine ⟨b49, e50, ?_⟩
      obtain ⟨c51, h⟩ := h
      refine ⟨c51, ?_⟩
      have n52 := ob_nq oc c51 (by decide)
      intro x54 e53
      have h := h x54 e53
      obtain ⟨c55, h⟩ := h
      refine ⟨c55, ?_⟩
      have n56 := ob_nq oc c55 (by decide)
      obtain ⟨c57, h⟩ := h
      refine ⟨c57, ?_⟩
      obtain ⟨b58, e59, h⟩ := h
      refine ⟨b58, e59, ?_⟩
      refine cm_X9_coatParts (kg_X9_coatParts h) h (fun x60 x61 p63 h g62 => ?_)
      have h := h g62
      have oc := gr_ob p63.2.1 oc
      have N := nf_K N p63.2 (by decide)
      intro x65 e64
      have h := h x65 e64
      intro x67 e66
      have h := h x67 e66
      refine cm_X9_fraction (kg_X9_fraction h) h (fun x68 x69 p71 h g70 => ?_)
      have h := h g70
      have oc := gr_ob p71.2.1 oc
      have N := nf_K N p71.2 (by decide)
      exact ⟨h, N⟩
    · intro c72
      have h := h.2 c72
      exact nf_X9_wetness_27 h oc
theorem nf_X9_wetness {Q : Int64 → HS → Prop} {v0 : Nat} {v1 : Int32} {S : HS} (h : P_X9_wetness v0 v1 Q S) (oc : ob S v0 9) : P_X9_wetness v0 v1 (fun r T => Q r T ∧ NFq 9 9 c9 v0 T) S := nf_X9_wetness_0 h oc
set_option maxRecDepth 20000 in
set_option maxHeartbeats 1000000 in
theorem nf_X9_worst_0 {Q : Int32 → HS → Prop} {v0 : Nat} {v1 : Int32} {v2 : Int32} {v3 : Int32} {v4 : Int32} {S : HS} (h : P_X9_worst_0 Q v0 v1 v2 v3 v4 S) (oc : ob S v0 9) : P_X9_worst_0 (fun r T => Q r T ∧ NFq 9 9 c9 v0 T) v0 v1 v2 v3 v4 S := by
  delta P_X9_worst_0 at h ⊢
  obtain ⟨c1, h⟩ := h
  refine ⟨c1, ?_⟩
  refine cm_X9_tripTrouble (kr_X9_tripTrouble h) h (fun x2 x3 p5 h g4 => ?_)
  have h := h g4
  have oc := gr_ob p5.2.1.1 oc
  refine cm_X9_refusedBy (nf_X9_refusedBy h oc p5.2.2) h (fun x6 x7 p10 h g8 g9 => ?_)
  have h := h g8 g9
  have N := p10.2
  have oc := N.1
  refine ⟨?_, ?_⟩
  · intro c11
    have h := h.1 c11
    obtain ⟨b12, e13, h⟩ := h
    refine ⟨b12, e13, ?_⟩
    obtain ⟨b14, e15, h⟩ := h
    refine ⟨b14, e15, ?_⟩
    obtain ⟨c16, h⟩ := h
    refine ⟨c16, ?_⟩
    have n17 := ob_nq oc c16 (by decide)
    obtain ⟨b18, e19, h⟩ := h
    refine ⟨b18, e19, ?_⟩
    obtain ⟨c20, h⟩ := h
    refine ⟨c20, ?_⟩
    have n21 := ob_nq oc c20 (by decide)
    obtain ⟨c22, h⟩ := h
    refine ⟨c22, ?_⟩
    obtain ⟨b23, e24, h⟩ := h
    refine ⟨b23, e24, ?_⟩
    obtain ⟨b25, e26, h⟩ := h
    refine ⟨b25, e26, ?_⟩
    obtain ⟨c27, h⟩ := h
    refine ⟨c27, ?_⟩
    have n28 := ob_nq oc c27 (by decide)
    obtain ⟨b29, e30, h⟩ := h
    refine ⟨b29, e30, ?_⟩
    obtain ⟨c31, h⟩ := h
    refine ⟨c31, ?_⟩
    have n32 := ob_nq oc c31 (by decide)
    obtain ⟨c33, h⟩ := h
    refine ⟨c33, ?_⟩
    obtain ⟨b34, e35, h⟩ := h
    refine ⟨b34, e35, ?_⟩
    obtain ⟨b36, e37, h⟩ := h
    refine ⟨b36, e37, ?_⟩
    obtain ⟨c38, h⟩ := h
    refine ⟨c38, ?_⟩
    have n39 := ob_nq oc c38 (by decide)
    obtain ⟨b40, e41, h⟩ := h
    refine ⟨b40, e41, ?_⟩
    obtain ⟨c42, h⟩ := h
    refine ⟨c42, ?_⟩
    have n43 := ob_nq oc c42 (by decide)
    obtain ⟨c44, h⟩ := h
    refine ⟨c44, ?_⟩
    obtain ⟨b45, e46, h⟩ := h
    refine ⟨b45, e46, ?_⟩
    obtain ⟨c47, h⟩ := h
    refine ⟨c47, ?_⟩
    have n48 := ob_nq oc c47 (by decide)
    refine cm_X1_worstSpeed (kg_X1_worstSpeed h) h (fun x49 x50 p52 h g51 => ?_)
    have h := h g51
    have oc := gr_ob p52.2.1 oc
    have N := nf_K N p52.2 (by decide)
    exact ⟨h, N⟩
  · intro c53
    have h := h.2 c53
    exact ⟨h, N⟩
theorem nf_X9_worst {Q : Int32 → HS → Prop} {v0 : Nat} {v1 : Int32} {v2 : Int32} {v3 : Int32} {v4 : Int32} {S : HS} (h : P_X9_worst v0 v1 v2 v3 v4 Q S) (oc : ob S v0 9) : P_X9_worst v0 v1 v2 v3 v4 (fun r T => Q r T ∧ NFq 9 9 c9 v0 T) S := nf_X9_worst_0 h oc
end
section
section MV
variable {S T : HS} {v0 : Nat} {Q : Int32 → HS → Prop}
theorem sp_X9_fault (h : P_X9_fault v0 Q S) : P_X9_fault v0 (fun r T => Q r T ∧ r = fI S v0 7) S := by
  delta P_X9_fault P_X9_fault_0
  exact ⟨h.1, fun x e => ⟨h.2 x e, e⟩⟩
theorem sp_X11_fault (h : P_X11_fault v0 Q S) : P_X11_fault v0 (fun r T => Q r T ∧ r = fI S v0 13) S := by
  delta P_X11_fault P_X11_fault_0
  exact ⟨h.1, fun U e x ex => ⟨h.2 U e x ex, ex.trans (wI_ne e (by decide))⟩⟩
theorem sp_X9_where (h : P_X9_where v0 Q S) : P_X9_where v0 (fun r T => Q r T ∧ ((fI S v0 9 = 4 → r = fI S v0 8) ∧ (fI S v0 9 ≠ 4 → r = -1))) S := by
  delta P_X9_where P_X9_where_0
  exact ⟨h.1, fun x e => ⟨fun n => ⟨(h.2 x e).1 n, fun z => absurd (e.trans z) n, fun _ => rfl⟩, fun n y ey => ⟨(h.2 x e).2 n y ey, fun _ => ey, fun z => absurd (e.symm.trans n) z⟩⟩⟩
theorem sp_X11_where (h : P_X11_where v0 Q S) : P_X11_where v0 (fun r T => Q r T ∧ r = fI S v0 2) S := by
  delta P_X11_where P_X11_where_0
  exact ⟨h.1, fun U e x ex => ⟨h.2 U e x ex, ex.trans (wI_ne e (by decide))⟩⟩
end MV
theorem mn_X11_air {v0 : Nat} {v1 : Int32} {v2 : Int32} {v3 : Int32} {Q : Int32 → HS → Prop} {S : HS} (hI : IV S) (o_v0 : ob S v0 11) (hq : ∀ (r : Int32) (T : HS), IV T → Gr S T → FRI [(11, 0), (11, 1), (11, 2)] [] S T → K2 S T → (NFq 11 2 c11 v0 T) → Q r T) : P_X11_air v0 v1 v2 v3 Q S := cm_X11_air (nf_X11_air (mk_X11_air (Q := fun r T => IV T ∧ Gr S T ∧ (FRI [(11, 0), (11, 1), (11, 2)] [] S T) ∧ K2 S T) hI o_v0 (fun r T h0 h1 h2 h3 => ⟨h0, h1, h2, h3⟩)) o_v0) (mk_X11_air (Q := fun r T => IV T ∧ Gr S T ∧ (FRI [(11, 0), (11, 1), (11, 2)] [] S T) ∧ K2 S T) hI o_v0 (fun r T h0 h1 h2 h3 => ⟨h0, h1, h2, h3⟩)) (fun r T h _ => hq r T h.1.1 h.1.2.1 h.1.2.2.1 h.1.2.2.2 h.2)
theorem mn_X11_back {v0 : Nat} {v1 : Int32} {Q : Int32 → HS → Prop} {S : HS} (hI : IV S) (o_v0 : ob S v0 11) (hq : ∀ (r : Int32) (T : HS), IV T → Gr S T → FRI [(11, 0), (11, 1), (11, 2), (11, 24)] [] S T → bl r → K2 S T → (NFq 11 2 c11 v0 T) → Q r T) : P_X11_back v0 v1 Q S := cm_X11_back (nf_X11_back (mk_X11_back (Q := fun r T => IV T ∧ Gr S T ∧ (FRI [(11, 0), (11, 1), (11, 2), (11, 24)] [] S T) ∧ bl r ∧ K2 S T) hI o_v0 (fun r T h0 h1 h2 h3 h4 => ⟨h0, h1, h2, h3, h4⟩)) o_v0) (mk_X11_back (Q := fun r T => IV T ∧ Gr S T ∧ (FRI [(11, 0), (11, 1), (11, 2), (11, 24)] [] S T) ∧ bl r ∧ K2 S T) hI o_v0 (fun r T h0 h1 h2 h3 h4 => ⟨h0, h1, h2, h3, h4⟩)) (fun r T h _ => hq r T h.1.1 h.1.2.1 h.1.2.2.1 h.1.2.2.2.1 h.1.2.2.2.2 h.2)
theorem mn_X11_best {v0 : Nat} {v1 : Int32} {v2 : Int32} {v3 : Int32} {v4 : Int32} {Q : Int32 → HS → Prop} {S : HS} (hI : IV S) (o_v0 : ob S v0 11) (hq : ∀ (r : Int32) (T : HS), IV T → Gr S T → FRI [(11, 0), (11, 1), (11, 2)] [] S T → K2 S T → (NFq 11 2 c11 v0 T) → Q r T) : P_X11_best v0 v1 v2 v3 v4 Q S := cm_X11_best (nf_X11_best (mk_X11_best (Q := fun r T => IV T ∧ Gr S T ∧ (FRI [(11, 0), (11, 1), (11, 2)] [] S T) ∧ K2 S T) hI o_v0 (fun r T h0 h1 h2 h3 => ⟨h0, h1, h2, h3⟩)) o_v0) (mk_X11_best (Q := fun r T => IV T ∧ Gr S T ∧ (FRI [(11, 0), (11, 1), (11, 2)] [] S T) ∧ K2 S T) hI o_v0 (fun r T h0 h1 h2 h3 => ⟨h0, h1, h2, h3⟩)) (fun r T h _ => hq r T h.1.1 h.1.2.1 h.1.2.2.1 h.1.2.2.2 h.2)
theorem mn_X11_day {v0 : Nat} {v1 : Int32} {v2 : Int32} {v3 : Int32} {v4 : Int32} {Q : Int32 → HS → Prop} {S : HS} (hI : IV S) (o_v0 : ob S v0 11) (hq : ∀ (r : Int32) (T : HS), IV T → Gr S T → FRI [(11, 0), (11, 1), (11, 2), (11, 19), (11, 20), (11, 24), (11, 25)] [] S T → K2 S T → (NFq 11 2 c11 v0 T) → Q r T) : P_X11_day v0 v1 v2 v3 v4 Q S := cm_X11_day (nf_X11_day (mk_X11_day (Q := fun r T => IV T ∧ Gr S T ∧ (FRI [(11, 0), (11, 1), (11, 2), (11, 19), (11, 20), (11, 24), (11, 25)] [] S T) ∧ K2 S T) hI o_v0 (fun r T h0 h1 h2 h3 => ⟨h0, h1, h2, h3⟩)) o_v0) (mk_X11_day (Q := fun r T => IV T ∧ Gr S T ∧ (FRI [(11, 0), (11, 1), (11, 2), (11, 19), (11, 20), (11, 24), (11, 25)] [] S T) ∧ K2 S T) hI o_v0 (fun r T h0 h1 h2 h3 => ⟨h0, h1, h2, h3⟩)) (fun r T h _ => hq r T h.1.1 h.1.2.1 h.1.2.2.1 h.1.2.2.2 h.2)
theorem mn_X11_driest {v0 : Nat} {v1 : Int32} {v2 : Int32} {v3 : Int32} {Q : Int32 → HS → Prop} {S : HS} (hI : IV S) (o_v0 : ob S v0 11) (hq : ∀ (r : Int32) (T : HS), IV T → Gr S T → FRI [(11, 0), (11, 1), (11, 2)] [] S T → K2 S T → (NFq 11 2 c11 v0 T) → Q r T) : P_X11_driest v0 v1 v2 v3 Q S := cm_X11_driest (nf_X11_driest (mk_X11_driest (Q := fun r T => IV T ∧ Gr S T ∧ (FRI [(11, 0), (11, 1), (11, 2)] [] S T) ∧ K2 S T) hI o_v0 (fun r T h0 h1 h2 h3 => ⟨h0, h1, h2, h3⟩)) o_v0) (mk_X11_driest (Q := fun r T => IV T ∧ Gr S T ∧ (FRI [(11, 0), (11, 1), (11, 2)] [] S T) ∧ K2 S T) hI o_v0 (fun r T h0 h1 h2 h3 => ⟨h0, h1, h2, h3⟩)) (fun r T h _ => hq r T h.1.1 h.1.2.1 h.1.2.2.1 h.1.2.2.2 h.2)
theorem mn_X11_even {v0 : Nat} {v1 : Int32} {v2 : Int32} {v3 : Int32} {v4 : Int32} {Q : Int32 → HS → Prop} {S : HS} (hI : IV S) (o_v0 : ob S v0 11) (hq : ∀ (r : Int32) (T : HS), IV T → Gr S T → FRI [(11, 0), (11, 1), (11, 2)] [] S T → K2 S T → (NFq 11 2 c11 v0 T) → Q r T) : P_X11_even v0 v1 v2 v3 v4 Q S := cm_X11_even (nf_X11_even (mk_X11_even (Q := fun r T => IV T ∧ Gr S T ∧ (FRI [(11, 0), (11, 1), (11, 2)] [] S T) ∧ K2 S T) hI o_v0 (fun r T h0 h1 h2 h3 => ⟨h0, h1, h2, h3⟩)) o_v0) (mk_X11_even (Q := fun r T => IV T ∧ Gr S T ∧ (FRI [(11, 0), (11, 1), (11, 2)] [] S T) ∧ K2 S T) hI o_v0 (fun r T h0 h1 h2 h3 => ⟨h0, h1, h2, h3⟩)) (fun r T h _ => hq r T h.1.1 h.1.2.1 h.1.2.2.1 h.1.2.2.2 h.2)
theorem mn_X11_face {v0 : Nat} {v1 : Int32} {v2 : Int32} {v3 : Int32} {v4 : Int32} {v5 : Int32} {v6 : Int32} {v7 : Int32} {Q : Int64 → HS → Prop} {S : HS} (hI : IV S) (o_v0 : ob S v0 11) (hq : ∀ (r : Int64) (T : HS), IV T → Gr S T → FRI [(11, 0), (11, 1), (11, 2)] [] S T → K2 S T → (NFq 11 2 c11 v0 T) → Q r T) : P_X11_face v0 v1 v2 v3 v4 v5 v6 v7 Q S := cm_X11_face (nf_X11_face (mk_X11_face (Q := fun r T => IV T ∧ Gr S T ∧ (FRI [(11, 0), (11, 1), (11, 2)] [] S T) ∧ K2 S T) hI o_v0 (fun r T h0 h1 h2 h3 => ⟨h0, h1, h2, h3⟩)) o_v0) (mk_X11_face (Q := fun r T => IV T ∧ Gr S T ∧ (FRI [(11, 0), (11, 1), (11, 2)] [] S T) ∧ K2 S T) hI o_v0 (fun r T h0 h1 h2 h3 => ⟨h0, h1, h2, h3⟩)) (fun r T h _ => hq r T h.1.1 h.1.2.1 h.1.2.2.1 h.1.2.2.2 h.2)
theorem mv_X11_fault {v0 : Nat} {Q : Int32 → HS → Prop} {S : HS} (hI : IV S) (o_v0 : ob S v0 11) (hq : ∀ (r : Int32) (T : HS), IV T → Gr S T → FRI [(11, 0)] [] S T → K2 S T → (r = fI S v0 13) → Q r T) : P_X11_fault v0 Q S := cm_X11_fault (sp_X11_fault (mk_X11_fault (Q := fun r T => IV T ∧ Gr S T ∧ (FRI [(11, 0)] [] S T) ∧ K2 S T) hI o_v0 (fun r T h0 h1 h2 h3 => ⟨h0, h1, h2, h3⟩))) (mk_X11_fault (Q := fun r T => IV T ∧ Gr S T ∧ (FRI [(11, 0)] [] S T) ∧ K2 S T) hI o_v0 (fun r T h0 h1 h2 h3 => ⟨h0, h1, h2, h3⟩)) (fun r T h _ => hq r T h.1.1 h.1.2.1 h.1.2.2.1 h.1.2.2.2 h.2)
theorem mn_X11_first {v0 : Nat} {v1 : Int32} {v2 : Int32} {v3 : Int32} {v4 : Int32} {v5 : Int32} {v6 : Int32} {Q : Int32 → HS → Prop} {S : HS} (hI : IV S) (o_v0 : ob S v0 11) (hq : ∀ (r : Int32) (T : HS), IV T → Gr S T → FRI [(11, 0), (11, 1), (11, 2)] [] S T → K2 S T → (NFq 11 2 c11 v0 T) → Q r T) : P_X11_first v0 v1 v2 v3 v4 v5 v6 Q S := cm_X11_first (nf_X11_first (mk_X11_first (Q := fun r T => IV T ∧ Gr S T ∧ (FRI [(11, 0), (11, 1), (11, 2)] [] S T) ∧ K2 S T) hI o_v0 (fun r T h0 h1 h2 h3 => ⟨h0, h1, h2, h3⟩)) o_v0) (mk_X11_first (Q := fun r T => IV T ∧ Gr S T ∧ (FRI [(11, 0), (11, 1), (11, 2)] [] S T) ∧ K2 S T) hI o_v0 (fun r T h0 h1 h2 h3 => ⟨h0, h1, h2, h3⟩)) (fun r T h _ => hq r T h.1.1 h.1.2.1 h.1.2.2.1 h.1.2.2.2 h.2)
theorem mn_X11_fit {v0 : Nat} {v1 : Int32} {v2 : Int32} {Q : Int32 → HS → Prop} {S : HS} (hI : IV S) (o_v0 : ob S v0 11) (hq : ∀ (r : Int32) (T : HS), IV T → Gr S T → FRI [(11, 0), (11, 1), (11, 2)] [] S T → K2 S T → (NFq 11 2 c11 v0 T) → Q r T) : P_X11_fit v0 v1 v2 Q S := cm_X11_fit (nf_X11_fit (mk_X11_fit (Q := fun r T => IV T ∧ Gr S T ∧ (FRI [(11, 0), (11, 1), (11, 2)] [] S T) ∧ K2 S T) hI o_v0 (fun r T h0 h1 h2 h3 => ⟨h0, h1, h2, h3⟩)) o_v0) (mk_X11_fit (Q := fun r T => IV T ∧ Gr S T ∧ (FRI [(11, 0), (11, 1), (11, 2)] [] S T) ∧ K2 S T) hI o_v0 (fun r T h0 h1 h2 h3 => ⟨h0, h1, h2, h3⟩)) (fun r T h _ => hq r T h.1.1 h.1.2.1 h.1.2.2.1 h.1.2.2.2 h.2)
theorem mn_X11_fits {v0 : Nat} {v1 : Int32} {Q : Int32 → HS → Prop} {S : HS} (hI : IV S) (o_v0 : ob S v0 11) (hq : ∀ (r : Int32) (T : HS), IV T → Gr S T → FRI [(11, 0), (11, 1), (11, 2)] [] S T → K2 S T → (NFq 11 2 c11 v0 T) → Q r T) : P_X11_fits v0 v1 Q S := cm_X11_fits (nf_X11_fits (mk_X11_fits (Q := fun r T => IV T ∧ Gr S T ∧ (FRI [(11, 0), (11, 1), (11, 2)] [] S T) ∧ K2 S T) hI o_v0 (fun r T h0 h1 h2 h3 => ⟨h0, h1, h2, h3⟩)) o_v0) (mk_X11_fits (Q := fun r T => IV T ∧ Gr S T ∧ (FRI [(11, 0), (11, 1), (11, 2)] [] S T) ∧ K2 S T) hI o_v0 (fun r T h0 h1 h2 h3 => ⟨h0, h1, h2, h3⟩)) (fun r T h _ => hq r T h.1.1 h.1.2.1 h.1.2.2.1 h.1.2.2.2 h.2)
theorem mn_X11_go {v0 : Nat} {v1 : Int32} {v2 : Int32} {v3 : Int32} {Q : Int32 → HS → Prop} {S : HS} (hI : IV S) (o_v0 : ob S v0 11) (hq : ∀ (r : Int32) (T : HS), IV T → Gr S T → FRI [(11, 0), (11, 1), (11, 2), (11, 24)] [] S T → K2 S T → (NFq 11 2 c11 v0 T) → Q r T) : P_X11_go v0 v1 v2 v3 Q S := cm_X11_go (nf_X11_go (mk_X11_go (Q := fun r T => IV T ∧ Gr S T ∧ (FRI [(11, 0), (11, 1), (11, 2), (11, 24)] [] S T) ∧ K2 S T) hI o_v0 (fun r T h0 h1 h2 h3 => ⟨h0, h1, h2, h3⟩)) o_v0) (mk_X11_go (Q := fun r T => IV T ∧ Gr S T ∧ (FRI [(11, 0), (11, 1), (11, 2), (11, 24)] [] S T) ∧ K2 S T) hI o_v0 (fun r T h0 h1 h2 h3 => ⟨h0, h1, h2, h3⟩)) (fun r T h _ => hq r T h.1.1 h.1.2.1 h.1.2.2.1 h.1.2.2.2 h.2)
theorem mn_X11_got {v0 : Nat} {v1 : Int32} {v2 : Int32} {Q : Int64 → HS → Prop} {S : HS} (hI : IV S) (o_v0 : ob S v0 11) (hq : ∀ (r : Int64) (T : HS), IV T → Gr S T → FRI [(11, 0), (11, 1), (11, 2)] [] S T → K2 S T → (NFq 11 2 c11 v0 T) → Q r T) : P_X11_got v0 v1 v2 Q S := cm_X11_got (nf_X11_got (mk_X11_got (Q := fun r T => IV T ∧ Gr S T ∧ (FRI [(11, 0), (11, 1), (11, 2)] [] S T) ∧ K2 S T) hI o_v0 (fun r T h0 h1 h2 h3 => ⟨h0, h1, h2, h3⟩)) o_v0) (mk_X11_got (Q := fun r T => IV T ∧ Gr S T ∧ (FRI [(11, 0), (11, 1), (11, 2)] [] S T) ∧ K2 S T) hI o_v0 (fun r T h0 h1 h2 h3 => ⟨h0, h1, h2, h3⟩)) (fun r T h _ => hq r T h.1.1 h.1.2.1 h.1.2.2.1 h.1.2.2.2 h.2)
theorem mn_X11_held {v0 : Nat} {v1 : Int32} {v2 : Int32} {v3 : Int32} {v4 : Int32} {v5 : Int32} {Q : Int32 → HS → Prop} {S : HS} (hI : IV S) (o_v0 : ob S v0 11) (hq : ∀ (r : Int32) (T : HS), IV T → Gr S T → FRI [(11, 0), (11, 1), (11, 2)] [] S T → K2 S T → (NFq 11 2 c11 v0 T) → Q r T) : P_X11_held v0 v1 v2 v3 v4 v5 Q S := cm_X11_held (nf_X11_held (mk_X11_held (Q := fun r T => IV T ∧ Gr S T ∧ (FRI [(11, 0), (11, 1), (11, 2)] [] S T) ∧ K2 S T) hI o_v0 (fun r T h0 h1 h2 h3 => ⟨h0, h1, h2, h3⟩)) o_v0) (mk_X11_held (Q := fun r T => IV T ∧ Gr S T ∧ (FRI [(11, 0), (11, 1), (11, 2)] [] S T) ∧ K2 S T) hI o_v0 (fun r T h0 h1 h2 h3 => ⟨h0, h1, h2, h3⟩)) (fun r T h _ => hq r T h.1.1 h.1.2.1 h.1.2.2.1 h.1.2.2.2 h.2)
theorem mn_X11_least {v0 : Nat} {v1 : Int32} {v2 : Int32} {v3 : Int32} {v4 : Int32} {v5 : Int32} {v6 : Int32} {Q : Int64 → HS → Prop} {S : HS} (hI : IV S) (o_v0 : ob S v0 11) (hq : ∀ (r : Int64) (T : HS), IV T → Gr S T → FRI [(11, 0), (11, 1), (11, 2)] [] S T → K2 S T → (NFq 11 2 c11 v0 T) → Q r T) : P_X11_least v0 v1 v2 v3 v4 v5 v6 Q S := cm_X11_least (nf_X11_least (mk_X11_least (Q := fun r T => IV T ∧ Gr S T ∧ (FRI [(11, 0), (11, 1), (11, 2)] [] S T) ∧ K2 S T) hI o_v0 (fun r T h0 h1 h2 h3 => ⟨h0, h1, h2, h3⟩)) o_v0) (mk_X11_least (Q := fun r T => IV T ∧ Gr S T ∧ (FRI [(11, 0), (11, 1), (11, 2)] [] S T) ∧ K2 S T) hI o_v0 (fun r T h0 h1 h2 h3 => ⟨h0, h1, h2, h3⟩)) (fun r T h _ => hq r T h.1.1 h.1.2.1 h.1.2.2.1 h.1.2.2.2 h.2)
theorem mn_X11_lee {v0 : Nat} {v1 : Int32} {v2 : Int32} {v3 : Int32} {v4 : Int32} {v5 : Int32} {v6 : Int32} {v7 : Int32} {Q : Int64 → HS → Prop} {S : HS} (hI : IV S) (o_v0 : ob S v0 11) (hq : ∀ (r : Int64) (T : HS), IV T → Gr S T → FRI [(11, 0), (11, 1), (11, 2)] [] S T → K2 S T → (NFq 11 2 c11 v0 T) → Q r T) : P_X11_lee v0 v1 v2 v3 v4 v5 v6 v7 Q S := cm_X11_lee (nf_X11_lee (mk_X11_lee (Q := fun r T => IV T ∧ Gr S T ∧ (FRI [(11, 0), (11, 1), (11, 2)] [] S T) ∧ K2 S T) hI o_v0 (fun r T h0 h1 h2 h3 => ⟨h0, h1, h2, h3⟩)) o_v0) (mk_X11_lee (Q := fun r T => IV T ∧ Gr S T ∧ (FRI [(11, 0), (11, 1), (11, 2)] [] S T) ∧ K2 S T) hI o_v0 (fun r T h0 h1 h2 h3 => ⟨h0, h1, h2, h3⟩)) (fun r T h _ => hq r T h.1.1 h.1.2.1 h.1.2.2.1 h.1.2.2.2 h.2)
theorem mn_X11_lies {v0 : Nat} {Q : Int32 → HS → Prop} {S : HS} (hI : IV S) (o_v0 : ob S v0 11) (hq : ∀ (r : Int32) (T : HS), IV T → Gr S T → FRI [(11, 0), (11, 1), (11, 2)] [] S T → K2 S T → (NFq 11 2 c11 v0 T) → Q r T) : P_X11_lies v0 Q S := cm_X11_lies (nf_X11_lies (mk_X11_lies (Q := fun r T => IV T ∧ Gr S T ∧ (FRI [(11, 0), (11, 1), (11, 2)] [] S T) ∧ K2 S T) hI o_v0 (fun r T h0 h1 h2 h3 => ⟨h0, h1, h2, h3⟩)) o_v0) (mk_X11_lies (Q := fun r T => IV T ∧ Gr S T ∧ (FRI [(11, 0), (11, 1), (11, 2)] [] S T) ∧ K2 S T) hI o_v0 (fun r T h0 h1 h2 h3 => ⟨h0, h1, h2, h3⟩)) (fun r T h _ => hq r T h.1.1 h.1.2.1 h.1.2.2.1 h.1.2.2.2 h.2)
theorem mn_X11_mark {v0 : Nat} {Q : Int32 → HS → Prop} {S : HS} (hI : IV S) (o_v0 : ob S v0 11) (hq : ∀ (r : Int32) (T : HS), IV T → Gr S T → FRI [(11, 0), (11, 1), (11, 2), (11, 25)] [] S T → K2 S T → (NFq 11 2 c11 v0 T) → Q r T) : P_X11_mark v0 Q S := cm_X11_mark (nf_X11_mark (mk_X11_mark (Q := fun r T => IV T ∧ Gr S T ∧ (FRI [(11, 0), (11, 1), (11, 2), (11, 25)] [] S T) ∧ K2 S T) hI o_v0 (fun r T h0 h1 h2 h3 => ⟨h0, h1, h2, h3⟩)) o_v0) (mk_X11_mark (Q := fun r T => IV T ∧ Gr S T ∧ (FRI [(11, 0), (11, 1), (11, 2), (11, 25)] [] S T) ∧ K2 S T) hI o_v0 (fun r T h0 h1 h2 h3 => ⟨h0, h1, h2, h3⟩)) (fun r T h _ => hq r T h.1.1 h.1.2.1 h.1.2.2.1 h.1.2.2.2 h.2)
theorem mn_X11_mean {v0 : Nat} {v1 : Int32} {v2 : Int32} {v3 : Int32} {v4 : Int32} {v5 : Int32} {v6 : Int32} {Q : Int64 → HS → Prop} {S : HS} (hI : IV S) (o_v0 : ob S v0 11) (hq : ∀ (r : Int64) (T : HS), IV T → Gr S T → FRI [(11, 0), (11, 1), (11, 2)] [] S T → K2 S T → (NFq 11 2 c11 v0 T) → Q r T) : P_X11_mean v0 v1 v2 v3 v4 v5 v6 Q S := cm_X11_mean (nf_X11_mean (mk_X11_mean (Q := fun r T => IV T ∧ Gr S T ∧ (FRI [(11, 0), (11, 1), (11, 2)] [] S T) ∧ K2 S T) hI o_v0 (fun r T h0 h1 h2 h3 => ⟨h0, h1, h2, h3⟩)) o_v0) (mk_X11_mean (Q := fun r T => IV T ∧ Gr S T ∧ (FRI [(11, 0), (11, 1), (11, 2)] [] S T) ∧ K2 S T) hI o_v0 (fun r T h0 h1 h2 h3 => ⟨h0, h1, h2, h3⟩)) (fun r T h _ => hq r T h.1.1 h.1.2.1 h.1.2.2.1 h.1.2.2.2 h.2)
theorem mn_X11_minutes {v0 : Nat} {v1 : Int32} {v2 : Int32} {v3 : Int32} {Q : Int32 → HS → Prop} {S : HS} (hI : IV S) (o_v0 : ob S v0 11) (hq : ∀ (r : Int32) (T : HS), IV T → Gr S T → FRI [(11, 0), (11, 1), (11, 2)] [] S T → K2 S T → (NFq 11 2 c11 v0 T) → Q r T) : P_X11_minutes v0 v1 v2 v3 Q S := cm_X11_minutes (nf_X11_minutes (mk_X11_minutes (Q := fun r T => IV T ∧ Gr S T ∧ (FRI [(11, 0), (11, 1), (11, 2)] [] S T) ∧ K2 S T) hI o_v0 (fun r T h0 h1 h2 h3 => ⟨h0, h1, h2, h3⟩)) o_v0) (mk_X11_minutes (Q := fun r T => IV T ∧ Gr S T ∧ (FRI [(11, 0), (11, 1), (11, 2)] [] S T) ∧ K2 S T) hI o_v0 (fun r T h0 h1 h2 h3 => ⟨h0, h1, h2, h3⟩)) (fun r T h _ => hq r T h.1.1 h.1.2.1 h.1.2.2.1 h.1.2.2.2 h.2)
theorem mn_X11_off {v0 : Nat} {v1 : Int32} {v2 : Int32} {v3 : Int32} {v4 : Int32} {Q : Int32 → HS → Prop} {S : HS} (hI : IV S) (o_v0 : ob S v0 11) (hq : ∀ (r : Int32) (T : HS), IV T → Gr S T → FRI [(11, 0), (11, 1), (11, 2)] [] S T → K2 S T → (NFq 11 2 c11 v0 T) → Q r T) : P_X11_off v0 v1 v2 v3 v4 Q S := cm_X11_off (nf_X11_off (mk_X11_off (Q := fun r T => IV T ∧ Gr S T ∧ (FRI [(11, 0), (11, 1), (11, 2)] [] S T) ∧ K2 S T) hI o_v0 (fun r T h0 h1 h2 h3 => ⟨h0, h1, h2, h3⟩)) o_v0) (mk_X11_off (Q := fun r T => IV T ∧ Gr S T ∧ (FRI [(11, 0), (11, 1), (11, 2)] [] S T) ∧ K2 S T) hI o_v0 (fun r T h0 h1 h2 h3 => ⟨h0, h1, h2, h3⟩)) (fun r T h _ => hq r T h.1.1 h.1.2.1 h.1.2.2.1 h.1.2.2.2 h.2)
theorem mn_X11_road {v0 : Nat} {v1 : Int32} {v2 : Int32} {Q : Int32 → HS → Prop} {S : HS} (hI : IV S) (o_v0 : ob S v0 11) (hq : ∀ (r : Int32) (T : HS), IV T → Gr S T → FRI [(11, 0), (11, 1), (11, 2)] [] S T → K2 S T → (NFq 11 2 c11 v0 T) → Q r T) : P_X11_road v0 v1 v2 Q S := cm_X11_road (nf_X11_road (mk_X11_road (Q := fun r T => IV T ∧ Gr S T ∧ (FRI [(11, 0), (11, 1), (11, 2)] [] S T) ∧ K2 S T) hI o_v0 (fun r T h0 h1 h2 h3 => ⟨h0, h1, h2, h3⟩)) o_v0) (mk_X11_road (Q := fun r T => IV T ∧ Gr S T ∧ (FRI [(11, 0), (11, 1), (11, 2)] [] S T) ∧ K2 S T) hI o_v0 (fun r T h0 h1 h2 h3 => ⟨h0, h1, h2, h3⟩)) (fun r T h _ => hq r T h.1.1 h.1.2.1 h.1.2.2.1 h.1.2.2.2 h.2)
theorem mn_X11_round {v0 : Nat} {v1 : Int32} {v2 : Int32} {v3 : Int32} {v4 : Int32} {Q : Int64 → HS → Prop} {S : HS} (hI : IV S) (o_v0 : ob S v0 11) (hq : ∀ (r : Int64) (T : HS), IV T → Gr S T → FRI [(11, 0), (11, 1), (11, 2)] [] S T → K2 S T → (NFq 11 2 c11 v0 T) → Q r T) : P_X11_round v0 v1 v2 v3 v4 Q S := cm_X11_round (nf_X11_round (mk_X11_round (Q := fun r T => IV T ∧ Gr S T ∧ (FRI [(11, 0), (11, 1), (11, 2)] [] S T) ∧ K2 S T) hI o_v0 (fun r T h0 h1 h2 h3 => ⟨h0, h1, h2, h3⟩)) o_v0) (mk_X11_round (Q := fun r T => IV T ∧ Gr S T ∧ (FRI [(11, 0), (11, 1), (11, 2)] [] S T) ∧ K2 S T) hI o_v0 (fun r T h0 h1 h2 h3 => ⟨h0, h1, h2, h3⟩)) (fun r T h _ => hq r T h.1.1 h.1.2.1 h.1.2.2.1 h.1.2.2.2 h.2)
theorem mn_X11_saves {v0 : Nat} {v1 : Int32} {v2 : Int32} {v3 : Int32} {v4 : Int32} {v5 : Int32} {Q : Int64 → HS → Prop} {S : HS} (hI : IV S) (o_v0 : ob S v0 11) (hq : ∀ (r : Int64) (T : HS), IV T → Gr S T → FRI [(11, 0), (11, 1), (11, 2)] [] S T → K2 S T → (NFq 11 2 c11 v0 T) → Q r T) : P_X11_saves v0 v1 v2 v3 v4 v5 Q S := cm_X11_saves (nf_X11_saves (mk_X11_saves (Q := fun r T => IV T ∧ Gr S T ∧ (FRI [(11, 0), (11, 1), (11, 2)] [] S T) ∧ K2 S T) hI o_v0 (fun r T h0 h1 h2 h3 => ⟨h0, h1, h2, h3⟩)) o_v0) (mk_X11_saves (Q := fun r T => IV T ∧ Gr S T ∧ (FRI [(11, 0), (11, 1), (11, 2)] [] S T) ∧ K2 S T) hI o_v0 (fun r T h0 h1 h2 h3 => ⟨h0, h1, h2, h3⟩)) (fun r T h _ => hq r T h.1.1 h.1.2.1 h.1.2.2.1 h.1.2.2.2 h.2)
theorem mn_X11_soaked {v0 : Nat} {Q : Int32 → HS → Prop} {S : HS} (hI : IV S) (o_v0 : ob S v0 11) (hq : ∀ (r : Int32) (T : HS), IV T → Gr S T → FRI [(11, 0), (11, 1), (11, 2)] [] S T → K2 S T → (NFq 11 2 c11 v0 T) → Q r T) : P_X11_soaked v0 Q S := cm_X11_soaked (nf_X11_soaked (mk_X11_soaked (Q := fun r T => IV T ∧ Gr S T ∧ (FRI [(11, 0), (11, 1), (11, 2)] [] S T) ∧ K2 S T) hI o_v0 (fun r T h0 h1 h2 h3 => ⟨h0, h1, h2, h3⟩)) o_v0) (mk_X11_soaked (Q := fun r T => IV T ∧ Gr S T ∧ (FRI [(11, 0), (11, 1), (11, 2)] [] S T) ∧ K2 S T) hI o_v0 (fun r T h0 h1 h2 h3 => ⟨h0, h1, h2, h3⟩)) (fun r T h _ => hq r T h.1.1 h.1.2.1 h.1.2.2.1 h.1.2.2.2 h.2)
theorem mn_X11_stay {v0 : Nat} {v1 : Int32} {Q : Int32 → HS → Prop} {S : HS} (hI : IV S) (o_v0 : ob S v0 11) (hq : ∀ (r : Int32) (T : HS), IV T → Gr S T → FRI [(11, 0), (11, 1), (11, 2), (11, 24)] [] S T → bl r → K2 S T → (NFq 11 2 c11 v0 T) → Q r T) : P_X11_stay v0 v1 Q S := cm_X11_stay (nf_X11_stay (mk_X11_stay (Q := fun r T => IV T ∧ Gr S T ∧ (FRI [(11, 0), (11, 1), (11, 2), (11, 24)] [] S T) ∧ bl r ∧ K2 S T) hI o_v0 (fun r T h0 h1 h2 h3 h4 => ⟨h0, h1, h2, h3, h4⟩)) o_v0) (mk_X11_stay (Q := fun r T => IV T ∧ Gr S T ∧ (FRI [(11, 0), (11, 1), (11, 2), (11, 24)] [] S T) ∧ bl r ∧ K2 S T) hI o_v0 (fun r T h0 h1 h2 h3 h4 => ⟨h0, h1, h2, h3, h4⟩)) (fun r T h _ => hq r T h.1.1 h.1.2.1 h.1.2.2.1 h.1.2.2.2.1 h.1.2.2.2.2 h.2)
theorem mn_X11_step {v0 : Nat} {v1 : Int32} {v2 : Int32} {v3 : Int32} {v4 : Int32} {v5 : Int32} {v6 : Int32} {Q : Int32 → HS → Prop} {S : HS} (hI : IV S) (o_v0 : ob S v0 11) (hq : ∀ (r : Int32) (T : HS), IV T → Gr S T → FRI [(11, 0), (11, 1), (11, 2)] [] S T → K2 S T → (NFq 11 2 c11 v0 T) → Q r T) : P_X11_step v0 v1 v2 v3 v4 v5 v6 Q S := cm_X11_step (nf_X11_step (mk_X11_step (Q := fun r T => IV T ∧ Gr S T ∧ (FRI [(11, 0), (11, 1), (11, 2)] [] S T) ∧ K2 S T) hI o_v0 (fun r T h0 h1 h2 h3 => ⟨h0, h1, h2, h3⟩)) o_v0) (mk_X11_step (Q := fun r T => IV T ∧ Gr S T ∧ (FRI [(11, 0), (11, 1), (11, 2)] [] S T) ∧ K2 S T) hI o_v0 (fun r T h0 h1 h2 h3 => ⟨h0, h1, h2, h3⟩)) (fun r T h _ => hq r T h.1.1 h.1.2.1 h.1.2.2.1 h.1.2.2.2 h.2)
theorem mn_X11_steps {v0 : Nat} {v1 : Int32} {v2 : Int32} {v3 : Int32} {v4 : Int32} {v5 : Int32} {Q : Int32 → HS → Prop} {S : HS} (hI : IV S) (o_v0 : ob S v0 11) (hq : ∀ (r : Int32) (T : HS), IV T → Gr S T → FRI [(11, 0), (11, 1), (11, 2)] [] S T → K2 S T → (NFq 11 2 c11 v0 T) → Q r T) : P_X11_steps v0 v1 v2 v3 v4 v5 Q S := cm_X11_steps (nf_X11_steps (mk_X11_steps (Q := fun r T => IV T ∧ Gr S T ∧ (FRI [(11, 0), (11, 1), (11, 2)] [] S T) ∧ K2 S T) hI o_v0 (fun r T h0 h1 h2 h3 => ⟨h0, h1, h2, h3⟩)) o_v0) (mk_X11_steps (Q := fun r T => IV T ∧ Gr S T ∧ (FRI [(11, 0), (11, 1), (11, 2)] [] S T) ∧ K2 S T) hI o_v0 (fun r T h0 h1 h2 h3 => ⟨h0, h1, h2, h3⟩)) (fun r T h _ => hq r T h.1.1 h.1.2.1 h.1.2.2.1 h.1.2.2.2 h.2)
theorem mn_X11_there {v0 : Nat} {v1 : Int32} {v2 : Int32} {v3 : Int32} {v4 : Int32} {v5 : Int32} {Q : Int32 → HS → Prop} {S : HS} (hI : IV S) (o_v0 : ob S v0 11) (hq : ∀ (r : Int32) (T : HS), IV T → Gr S T → FRI [(11, 0), (11, 1), (11, 2)] [] S T → K2 S T → (NFq 11 2 c11 v0 T) → Q r T) : P_X11_there v0 v1 v2 v3 v4 v5 Q S := cm_X11_there (nf_X11_there (mk_X11_there (Q := fun r T => IV T ∧ Gr S T ∧ (FRI [(11, 0), (11, 1), (11, 2)] [] S T) ∧ K2 S T) hI o_v0 (fun r T h0 h1 h2 h3 => ⟨h0, h1, h2, h3⟩)) o_v0) (mk_X11_there (Q := fun r T => IV T ∧ Gr S T ∧ (FRI [(11, 0), (11, 1), (11, 2)] [] S T) ∧ K2 S T) hI o_v0 (fun r T h0 h1 h2 h3 => ⟨h0, h1, h2, h3⟩)) (fun r T h _ => hq r T h.1.1 h.1.2.1 h.1.2.2.1 h.1.2.2.2 h.2)
theorem mn_X11_undo {v0 : Nat} {Q : Int32 → HS → Prop} {S : HS} (hI : IV S) (o_v0 : ob S v0 11) (hq : ∀ (r : Int32) (T : HS), IV T → Gr S T → FRI [(11, 0), (11, 1), (11, 2), (11, 24)] [] S T → bl r → K2 S T → (NFq 11 2 c11 v0 T) → Q r T) : P_X11_undo v0 Q S := cm_X11_undo (nf_X11_undo (mk_X11_undo (Q := fun r T => IV T ∧ Gr S T ∧ (FRI [(11, 0), (11, 1), (11, 2), (11, 24)] [] S T) ∧ bl r ∧ K2 S T) hI o_v0 (fun r T h0 h1 h2 h3 h4 => ⟨h0, h1, h2, h3, h4⟩)) o_v0) (mk_X11_undo (Q := fun r T => IV T ∧ Gr S T ∧ (FRI [(11, 0), (11, 1), (11, 2), (11, 24)] [] S T) ∧ bl r ∧ K2 S T) hI o_v0 (fun r T h0 h1 h2 h3 h4 => ⟨h0, h1, h2, h3, h4⟩)) (fun r T h _ => hq r T h.1.1 h.1.2.1 h.1.2.2.1 h.1.2.2.2.1 h.1.2.2.2.2 h.2)
theorem mn_X11_walker {v0 : Nat} {v1 : Int32} {v2 : Int32} {Q : Int32 → HS → Prop} {S : HS} (hI : IV S) (o_v0 : ob S v0 11) (hq : ∀ (r : Int32) (T : HS), IV T → Gr S T → FRI [(11, 0), (11, 1), (11, 2)] [] S T → K2 S T → (NFq 11 2 c11 v0 T) → Q r T) : P_X11_walker v0 v1 v2 Q S := cm_X11_walker (nf_X11_walker (mk_X11_walker (Q := fun r T => IV T ∧ Gr S T ∧ (FRI [(11, 0), (11, 1), (11, 2)] [] S T) ∧ K2 S T) hI o_v0 (fun r T h0 h1 h2 h3 => ⟨h0, h1, h2, h3⟩)) o_v0) (mk_X11_walker (Q := fun r T => IV T ∧ Gr S T ∧ (FRI [(11, 0), (11, 1), (11, 2)] [] S T) ∧ K2 S T) hI o_v0 (fun r T h0 h1 h2 h3 => ⟨h0, h1, h2, h3⟩)) (fun r T h _ => hq r T h.1.1 h.1.2.1 h.1.2.2.1 h.1.2.2.2 h.2)
theorem mn_X11_wet {v0 : Nat} {v1 : Int32} {v2 : Int32} {v3 : Int32} {v4 : Int32} {v5 : Int32} {v6 : Int32} {Q : Int64 → HS → Prop} {S : HS} (hI : IV S) (o_v0 : ob S v0 11) (hq : ∀ (r : Int64) (T : HS), IV T → Gr S T → FRI [(11, 0), (11, 1), (11, 2)] [] S T → K2 S T → (NFq 11 2 c11 v0 T) → Q r T) : P_X11_wet v0 v1 v2 v3 v4 v5 v6 Q S := cm_X11_wet (nf_X11_wet (mk_X11_wet (Q := fun r T => IV T ∧ Gr S T ∧ (FRI [(11, 0), (11, 1), (11, 2)] [] S T) ∧ K2 S T) hI o_v0 (fun r T h0 h1 h2 h3 => ⟨h0, h1, h2, h3⟩)) o_v0) (mk_X11_wet (Q := fun r T => IV T ∧ Gr S T ∧ (FRI [(11, 0), (11, 1), (11, 2)] [] S T) ∧ K2 S T) hI o_v0 (fun r T h0 h1 h2 h3 => ⟨h0, h1, h2, h3⟩)) (fun r T h _ => hq r T h.1.1 h.1.2.1 h.1.2.2.1 h.1.2.2.2 h.2)
theorem mn_X11_wetness {v0 : Nat} {v1 : Int32} {Q : Int64 → HS → Prop} {S : HS} (hI : IV S) (o_v0 : ob S v0 11) (hq : ∀ (r : Int64) (T : HS), IV T → Gr S T → FRI [(11, 0), (11, 1), (11, 2)] [] S T → K2 S T → (NFq 11 2 c11 v0 T) → Q r T) : P_X11_wetness v0 v1 Q S := cm_X11_wetness (nf_X11_wetness (mk_X11_wetness (Q := fun r T => IV T ∧ Gr S T ∧ (FRI [(11, 0), (11, 1), (11, 2)] [] S T) ∧ K2 S T) hI o_v0 (fun r T h0 h1 h2 h3 => ⟨h0, h1, h2, h3⟩)) o_v0) (mk_X11_wetness (Q := fun r T => IV T ∧ Gr S T ∧ (FRI [(11, 0), (11, 1), (11, 2)] [] S T) ∧ K2 S T) hI o_v0 (fun r T h0 h1 h2 h3 => ⟨h0, h1, h2, h3⟩)) (fun r T h _ => hq r T h.1.1 h.1.2.1 h.1.2.2.1 h.1.2.2.2 h.2)
theorem mv_X11_where {v0 : Nat} {Q : Int32 → HS → Prop} {S : HS} (hI : IV S) (o_v0 : ob S v0 11) (hq : ∀ (r : Int32) (T : HS), IV T → Gr S T → FRI [(11, 0)] [] S T → K2 S T → (r = fI S v0 2) → Q r T) : P_X11_where v0 Q S := cm_X11_where (sp_X11_where (mk_X11_where (Q := fun r T => IV T ∧ Gr S T ∧ (FRI [(11, 0)] [] S T) ∧ K2 S T) hI o_v0 (fun r T h0 h1 h2 h3 => ⟨h0, h1, h2, h3⟩))) (mk_X11_where (Q := fun r T => IV T ∧ Gr S T ∧ (FRI [(11, 0)] [] S T) ∧ K2 S T) hI o_v0 (fun r T h0 h1 h2 h3 => ⟨h0, h1, h2, h3⟩)) (fun r T h _ => hq r T h.1.1 h.1.2.1 h.1.2.2.1 h.1.2.2.2 h.2)
theorem mn_X11_worst {v0 : Nat} {v1 : Int32} {v2 : Int32} {v3 : Int32} {v4 : Int32} {Q : Int32 → HS → Prop} {S : HS} (hI : IV S) (o_v0 : ob S v0 11) (hq : ∀ (r : Int32) (T : HS), IV T → Gr S T → FRI [(11, 0), (11, 1), (11, 2)] [] S T → K2 S T → (NFq 11 2 c11 v0 T) → Q r T) : P_X11_worst v0 v1 v2 v3 v4 Q S := cm_X11_worst (nf_X11_worst (mk_X11_worst (Q := fun r T => IV T ∧ Gr S T ∧ (FRI [(11, 0), (11, 1), (11, 2)] [] S T) ∧ K2 S T) hI o_v0 (fun r T h0 h1 h2 h3 => ⟨h0, h1, h2, h3⟩)) o_v0) (mk_X11_worst (Q := fun r T => IV T ∧ Gr S T ∧ (FRI [(11, 0), (11, 1), (11, 2)] [] S T) ∧ K2 S T) hI o_v0 (fun r T h0 h1 h2 h3 => ⟨h0, h1, h2, h3⟩)) (fun r T h _ => hq r T h.1.1 h.1.2.1 h.1.2.2.1 h.1.2.2.2 h.2)
theorem mn_X9_air {v0 : Nat} {v1 : Int32} {v2 : Int32} {v3 : Int32} {Q : Int32 → HS → Prop} {S : HS} (hI : IV S) (o_v0 : ob S v0 9) (hq : ∀ (r : Int32) (T : HS), IV T → Gr S T → FRI [(9, 9)] [] S T → K2 S T → (NFq 9 9 c9 v0 T) → Q r T) : P_X9_air v0 v1 v2 v3 Q S := cm_X9_air (nf_X9_air (mk_X9_air (Q := fun r T => IV T ∧ Gr S T ∧ (FRI [(9, 9)] [] S T) ∧ K2 S T) hI o_v0 (fun r T h0 h1 h2 h3 => ⟨h0, h1, h2, h3⟩)) o_v0) (mk_X9_air (Q := fun r T => IV T ∧ Gr S T ∧ (FRI [(9, 9)] [] S T) ∧ K2 S T) hI o_v0 (fun r T h0 h1 h2 h3 => ⟨h0, h1, h2, h3⟩)) (fun r T h _ => hq r T h.1.1 h.1.2.1 h.1.2.2.1 h.1.2.2.2 h.2)
theorem mn_X9_back {v0 : Nat} {v1 : Int32} {Q : Int32 → HS → Prop} {S : HS} (hI : IV S) (o_v0 : ob S v0 9) (hq : ∀ (r : Int32) (T : HS), IV T → Gr S T → FRI [(0, 2), (2, 0), (2, 1), (9, 9)] [] S T → bl r → K2 S T → (NFq 9 9 c9 v0 T) → Q r T) : P_X9_back v0 v1 Q S := cm_X9_back (nf_X9_back (mk_X9_back (Q := fun r T => IV T ∧ Gr S T ∧ (FRI [(0, 2), (2, 0), (2, 1), (9, 9)] [] S T) ∧ bl r ∧ K2 S T) hI o_v0 (fun r T h0 h1 h2 h3 h4 => ⟨h0, h1, h2, h3, h4⟩)) o_v0) (mk_X9_back (Q := fun r T => IV T ∧ Gr S T ∧ (FRI [(0, 2), (2, 0), (2, 1), (9, 9)] [] S T) ∧ bl r ∧ K2 S T) hI o_v0 (fun r T h0 h1 h2 h3 h4 => ⟨h0, h1, h2, h3, h4⟩)) (fun r T h _ => hq r T h.1.1 h.1.2.1 h.1.2.2.1 h.1.2.2.2.1 h.1.2.2.2.2 h.2)
theorem mn_X9_best {v0 : Nat} {v1 : Int32} {v2 : Int32} {v3 : Int32} {v4 : Int32} {Q : Int32 → HS → Prop} {S : HS} (hI : IV S) (o_v0 : ob S v0 9) (hq : ∀ (r : Int32) (T : HS), IV T → Gr S T → FRI [(9, 9)] [] S T → K2 S T → (NFq 9 9 c9 v0 T) → Q r T) : P_X9_best v0 v1 v2 v3 v4 Q S := cm_X9_best (nf_X9_best (mk_X9_best (Q := fun r T => IV T ∧ Gr S T ∧ (FRI [(9, 9)] [] S T) ∧ K2 S T) hI o_v0 (fun r T h0 h1 h2 h3 => ⟨h0, h1, h2, h3⟩)) o_v0) (mk_X9_best (Q := fun r T => IV T ∧ Gr S T ∧ (FRI [(9, 9)] [] S T) ∧ K2 S T) hI o_v0 (fun r T h0 h1 h2 h3 => ⟨h0, h1, h2, h3⟩)) (fun r T h _ => hq r T h.1.1 h.1.2.1 h.1.2.2.1 h.1.2.2.2 h.2)
theorem mn_X9_day {v0 : Nat} {v1 : Int32} {v2 : Int32} {v3 : Int32} {v4 : Int32} {Q : Int32 → HS → Prop} {S : HS} (hI : IV S) (o_v0 : ob S v0 9) (hq : ∀ (r : Int32) (T : HS), IV T → Gr S T → FRI [(0, 0), (0, 1), (0, 2), (0, 3), (2, 0), (2, 1), (9, 9)] [] S T → K2 S T → (NFq 9 9 c9 v0 T) → Q r T) : P_X9_day v0 v1 v2 v3 v4 Q S := cm_X9_day (nf_X9_day (mk_X9_day (Q := fun r T => IV T ∧ Gr S T ∧ (FRI [(0, 0), (0, 1), (0, 2), (0, 3), (2, 0), (2, 1), (9, 9)] [] S T) ∧ K2 S T) hI o_v0 (fun r T h0 h1 h2 h3 => ⟨h0, h1, h2, h3⟩)) o_v0) (mk_X9_day (Q := fun r T => IV T ∧ Gr S T ∧ (FRI [(0, 0), (0, 1), (0, 2), (0, 3), (2, 0), (2, 1), (9, 9)] [] S T) ∧ K2 S T) hI o_v0 (fun r T h0 h1 h2 h3 => ⟨h0, h1, h2, h3⟩)) (fun r T h _ => hq r T h.1.1 h.1.2.1 h.1.2.2.1 h.1.2.2.2 h.2)
theorem mn_X9_driest {v0 : Nat} {v1 : Int32} {v2 : Int32} {v3 : Int32} {Q : Int32 → HS → Prop} {S : HS} (hI : IV S) (o_v0 : ob S v0 9) (hq : ∀ (r : Int32) (T : HS), IV T → Gr S T → FRI [(9, 9)] [] S T → K2 S T → (NFq 9 9 c9 v0 T) → Q r T) : P_X9_driest v0 v1 v2 v3 Q S := cm_X9_driest (nf_X9_driest (mk_X9_driest (Q := fun r T => IV T ∧ Gr S T ∧ (FRI [(9, 9)] [] S T) ∧ K2 S T) hI o_v0 (fun r T h0 h1 h2 h3 => ⟨h0, h1, h2, h3⟩)) o_v0) (mk_X9_driest (Q := fun r T => IV T ∧ Gr S T ∧ (FRI [(9, 9)] [] S T) ∧ K2 S T) hI o_v0 (fun r T h0 h1 h2 h3 => ⟨h0, h1, h2, h3⟩)) (fun r T h _ => hq r T h.1.1 h.1.2.1 h.1.2.2.1 h.1.2.2.2 h.2)
theorem mn_X9_even {v0 : Nat} {v1 : Int32} {v2 : Int32} {v3 : Int32} {v4 : Int32} {Q : Int32 → HS → Prop} {S : HS} (hI : IV S) (o_v0 : ob S v0 9) (hq : ∀ (r : Int32) (T : HS), IV T → Gr S T → FRI [(9, 9)] [] S T → K2 S T → (NFq 9 9 c9 v0 T) → Q r T) : P_X9_even v0 v1 v2 v3 v4 Q S := cm_X9_even (nf_X9_even (mk_X9_even (Q := fun r T => IV T ∧ Gr S T ∧ (FRI [(9, 9)] [] S T) ∧ K2 S T) hI o_v0 (fun r T h0 h1 h2 h3 => ⟨h0, h1, h2, h3⟩)) o_v0) (mk_X9_even (Q := fun r T => IV T ∧ Gr S T ∧ (FRI [(9, 9)] [] S T) ∧ K2 S T) hI o_v0 (fun r T h0 h1 h2 h3 => ⟨h0, h1, h2, h3⟩)) (fun r T h _ => hq r T h.1.1 h.1.2.1 h.1.2.2.1 h.1.2.2.2 h.2)
theorem mn_X9_face {v0 : Nat} {v1 : Int32} {v2 : Int32} {v3 : Int32} {v4 : Int32} {v5 : Int32} {v6 : Int32} {v7 : Int32} {Q : Int64 → HS → Prop} {S : HS} (hI : IV S) (o_v0 : ob S v0 9) (hq : ∀ (r : Int64) (T : HS), IV T → Gr S T → FRI [(9, 9)] [] S T → K2 S T → (NFq 9 9 c9 v0 T) → Q r T) : P_X9_face v0 v1 v2 v3 v4 v5 v6 v7 Q S := cm_X9_face (nf_X9_face (mk_X9_face (Q := fun r T => IV T ∧ Gr S T ∧ (FRI [(9, 9)] [] S T) ∧ K2 S T) hI o_v0 (fun r T h0 h1 h2 h3 => ⟨h0, h1, h2, h3⟩)) o_v0) (mk_X9_face (Q := fun r T => IV T ∧ Gr S T ∧ (FRI [(9, 9)] [] S T) ∧ K2 S T) hI o_v0 (fun r T h0 h1 h2 h3 => ⟨h0, h1, h2, h3⟩)) (fun r T h _ => hq r T h.1.1 h.1.2.1 h.1.2.2.1 h.1.2.2.2 h.2)
theorem mv_X9_fault {v0 : Nat} {Q : Int32 → HS → Prop} {S : HS} (hI : IV S) (o_v0 : ob S v0 9) (hq : ∀ (r : Int32) (T : HS), IV T → Gr S T → (S = T) → K2 S T → (r = fI S v0 7) → Q r T) : P_X9_fault v0 Q S := cm_X9_fault (sp_X9_fault (mk_X9_fault (Q := fun r T => IV T ∧ Gr S T ∧ ((S = T)) ∧ K2 S T) hI o_v0 (fun r T h0 h1 h2 h3 => ⟨h0, h1, h2, h3⟩))) (mk_X9_fault (Q := fun r T => IV T ∧ Gr S T ∧ ((S = T)) ∧ K2 S T) hI o_v0 (fun r T h0 h1 h2 h3 => ⟨h0, h1, h2, h3⟩)) (fun r T h _ => hq r T h.1.1 h.1.2.1 h.1.2.2.1 h.1.2.2.2 h.2)
theorem mn_X9_first {v0 : Nat} {v1 : Int32} {v2 : Int32} {v3 : Int32} {v4 : Int32} {v5 : Int32} {v6 : Int32} {Q : Int32 → HS → Prop} {S : HS} (hI : IV S) (o_v0 : ob S v0 9) (hq : ∀ (r : Int32) (T : HS), IV T → Gr S T → FRI [(9, 9)] [] S T → K2 S T → (NFq 9 9 c9 v0 T) → Q r T) : P_X9_first v0 v1 v2 v3 v4 v5 v6 Q S := cm_X9_first (nf_X9_first (mk_X9_first (Q := fun r T => IV T ∧ Gr S T ∧ (FRI [(9, 9)] [] S T) ∧ K2 S T) hI o_v0 (fun r T h0 h1 h2 h3 => ⟨h0, h1, h2, h3⟩)) o_v0) (mk_X9_first (Q := fun r T => IV T ∧ Gr S T ∧ (FRI [(9, 9)] [] S T) ∧ K2 S T) hI o_v0 (fun r T h0 h1 h2 h3 => ⟨h0, h1, h2, h3⟩)) (fun r T h _ => hq r T h.1.1 h.1.2.1 h.1.2.2.1 h.1.2.2.2 h.2)
theorem mn_X9_fit {v0 : Nat} {v1 : Int32} {v2 : Int32} {Q : Int32 → HS → Prop} {S : HS} (hI : IV S) (o_v0 : ob S v0 9) (hq : ∀ (r : Int32) (T : HS), IV T → Gr S T → FRI [(9, 9)] [] S T → K2 S T → (NFq 9 9 c9 v0 T) → Q r T) : P_X9_fit v0 v1 v2 Q S := cm_X9_fit (nf_X9_fit (mk_X9_fit (Q := fun r T => IV T ∧ Gr S T ∧ (FRI [(9, 9)] [] S T) ∧ K2 S T) hI o_v0 (fun r T h0 h1 h2 h3 => ⟨h0, h1, h2, h3⟩)) o_v0) (mk_X9_fit (Q := fun r T => IV T ∧ Gr S T ∧ (FRI [(9, 9)] [] S T) ∧ K2 S T) hI o_v0 (fun r T h0 h1 h2 h3 => ⟨h0, h1, h2, h3⟩)) (fun r T h _ => hq r T h.1.1 h.1.2.1 h.1.2.2.1 h.1.2.2.2 h.2)
theorem mn_X9_fits {v0 : Nat} {v1 : Int32} {Q : Int32 → HS → Prop} {S : HS} (hI : IV S) (o_v0 : ob S v0 9) (hq : ∀ (r : Int32) (T : HS), IV T → Gr S T → FRI [(9, 9)] [] S T → K2 S T → (NFq 9 9 c9 v0 T) → Q r T) : P_X9_fits v0 v1 Q S := cm_X9_fits (nf_X9_fits (mk_X9_fits (Q := fun r T => IV T ∧ Gr S T ∧ (FRI [(9, 9)] [] S T) ∧ K2 S T) hI o_v0 (fun r T h0 h1 h2 h3 => ⟨h0, h1, h2, h3⟩)) o_v0) (mk_X9_fits (Q := fun r T => IV T ∧ Gr S T ∧ (FRI [(9, 9)] [] S T) ∧ K2 S T) hI o_v0 (fun r T h0 h1 h2 h3 => ⟨h0, h1, h2, h3⟩)) (fun r T h _ => hq r T h.1.1 h.1.2.1 h.1.2.2.1 h.1.2.2.2 h.2)
theorem mn_X9_go {v0 : Nat} {v1 : Int32} {v2 : Int32} {v3 : Int32} {Q : Int32 → HS → Prop} {S : HS} (hI : IV S) (o_v0 : ob S v0 9) (hq : ∀ (r : Int32) (T : HS), IV T → Gr S T → FRI [(0, 2), (2, 0), (2, 1), (9, 9)] [] S T → K2 S T → (NFq 9 9 c9 v0 T) → Q r T) : P_X9_go v0 v1 v2 v3 Q S := cm_X9_go (nf_X9_go (mk_X9_go (Q := fun r T => IV T ∧ Gr S T ∧ (FRI [(0, 2), (2, 0), (2, 1), (9, 9)] [] S T) ∧ K2 S T) hI o_v0 (fun r T h0 h1 h2 h3 => ⟨h0, h1, h2, h3⟩)) o_v0) (mk_X9_go (Q := fun r T => IV T ∧ Gr S T ∧ (FRI [(0, 2), (2, 0), (2, 1), (9, 9)] [] S T) ∧ K2 S T) hI o_v0 (fun r T h0 h1 h2 h3 => ⟨h0, h1, h2, h3⟩)) (fun r T h _ => hq r T h.1.1 h.1.2.1 h.1.2.2.1 h.1.2.2.2 h.2)
theorem mn_X9_got {v0 : Nat} {v1 : Int32} {v2 : Int32} {Q : Int64 → HS → Prop} {S : HS} (hI : IV S) (o_v0 : ob S v0 9) (hq : ∀ (r : Int64) (T : HS), IV T → Gr S T → FRI [(9, 9)] [] S T → K2 S T → (NFq 9 9 c9 v0 T) → Q r T) : P_X9_got v0 v1 v2 Q S := cm_X9_got (nf_X9_got (mk_X9_got (Q := fun r T => IV T ∧ Gr S T ∧ (FRI [(9, 9)] [] S T) ∧ K2 S T) hI o_v0 (fun r T h0 h1 h2 h3 => ⟨h0, h1, h2, h3⟩)) o_v0) (mk_X9_got (Q := fun r T => IV T ∧ Gr S T ∧ (FRI [(9, 9)] [] S T) ∧ K2 S T) hI o_v0 (fun r T h0 h1 h2 h3 => ⟨h0, h1, h2, h3⟩)) (fun r T h _ => hq r T h.1.1 h.1.2.1 h.1.2.2.1 h.1.2.2.2 h.2)
theorem mn_X9_held {v0 : Nat} {v1 : Int32} {v2 : Int32} {v3 : Int32} {v4 : Int32} {v5 : Int32} {Q : Int32 → HS → Prop} {S : HS} (hI : IV S) (o_v0 : ob S v0 9) (hq : ∀ (r : Int32) (T : HS), IV T → Gr S T → FRI [(9, 9)] [] S T → K2 S T → (NFq 9 9 c9 v0 T) → Q r T) : P_X9_held v0 v1 v2 v3 v4 v5 Q S := cm_X9_held (nf_X9_held (mk_X9_held (Q := fun r T => IV T ∧ Gr S T ∧ (FRI [(9, 9)] [] S T) ∧ K2 S T) hI o_v0 (fun r T h0 h1 h2 h3 => ⟨h0, h1, h2, h3⟩)) o_v0) (mk_X9_held (Q := fun r T => IV T ∧ Gr S T ∧ (FRI [(9, 9)] [] S T) ∧ K2 S T) hI o_v0 (fun r T h0 h1 h2 h3 => ⟨h0, h1, h2, h3⟩)) (fun r T h _ => hq r T h.1.1 h.1.2.1 h.1.2.2.1 h.1.2.2.2 h.2)
theorem mn_X9_least {v0 : Nat} {v1 : Int32} {v2 : Int32} {v3 : Int32} {v4 : Int32} {v5 : Int32} {v6 : Int32} {Q : Int64 → HS → Prop} {S : HS} (hI : IV S) (o_v0 : ob S v0 9) (hq : ∀ (r : Int64) (T : HS), IV T → Gr S T → FRI [(7, 3), (7, 9), (7, 10), (7, 11), (7, 12), (7, 13), (9, 9)] [(7, 0), (7, 1), (7, 2), (7, 4), (7, 5), (7, 6), (7, 7), (7, 8)] S T → K2 S T → (NFq 9 9 c9 v0 T) → Q r T) : P_X9_least v0 v1 v2 v3 v4 v5 v6 Q S := cm_X9_least (nf_X9_least (mk_X9_least (Q := fun r T => IV T ∧ Gr S T ∧ (FRI [(7, 3), (7, 9), (7, 10), (7, 11), (7, 12), (7, 13), (9, 9)] [(7, 0), (7, 1), (7, 2), (7, 4), (7, 5), (7, 6), (7, 7), (7, 8)] S T) ∧ K2 S T) hI o_v0 (fun r T h0 h1 h2 h3 => ⟨h0, h1, h2, h3⟩)) o_v0) (mk_X9_least (Q := fun r T => IV T ∧ Gr S T ∧ (FRI [(7, 3), (7, 9), (7, 10), (7, 11), (7, 12), (7, 13), (9, 9)] [(7, 0), (7, 1), (7, 2), (7, 4), (7, 5), (7, 6), (7, 7), (7, 8)] S T) ∧ K2 S T) hI o_v0 (fun r T h0 h1 h2 h3 => ⟨h0, h1, h2, h3⟩)) (fun r T h _ => hq r T h.1.1 h.1.2.1 h.1.2.2.1 h.1.2.2.2 h.2)
theorem mn_X9_lee {v0 : Nat} {v1 : Int32} {v2 : Int32} {v3 : Int32} {v4 : Int32} {v5 : Int32} {v6 : Int32} {v7 : Int32} {Q : Int64 → HS → Prop} {S : HS} (hI : IV S) (o_v0 : ob S v0 9) (hq : ∀ (r : Int64) (T : HS), IV T → Gr S T → FRI [(9, 9)] [] S T → K2 S T → (NFq 9 9 c9 v0 T) → Q r T) : P_X9_lee v0 v1 v2 v3 v4 v5 v6 v7 Q S := cm_X9_lee (nf_X9_lee (mk_X9_lee (Q := fun r T => IV T ∧ Gr S T ∧ (FRI [(9, 9)] [] S T) ∧ K2 S T) hI o_v0 (fun r T h0 h1 h2 h3 => ⟨h0, h1, h2, h3⟩)) o_v0) (mk_X9_lee (Q := fun r T => IV T ∧ Gr S T ∧ (FRI [(9, 9)] [] S T) ∧ K2 S T) hI o_v0 (fun r T h0 h1 h2 h3 => ⟨h0, h1, h2, h3⟩)) (fun r T h _ => hq r T h.1.1 h.1.2.1 h.1.2.2.1 h.1.2.2.2 h.2)
theorem mn_X9_lies {v0 : Nat} {Q : Int32 → HS → Prop} {S : HS} (hI : IV S) (o_v0 : ob S v0 9) (hq : ∀ (r : Int32) (T : HS), IV T → Gr S T → FRI [(9, 9)] [] S T → K2 S T → (NFq 9 9 c9 v0 T) → Q r T) : P_X9_lies v0 Q S := cm_X9_lies (nf_X9_lies (mk_X9_lies (Q := fun r T => IV T ∧ Gr S T ∧ (FRI [(9, 9)] [] S T) ∧ K2 S T) hI o_v0 (fun r T h0 h1 h2 h3 => ⟨h0, h1, h2, h3⟩)) o_v0) (mk_X9_lies (Q := fun r T => IV T ∧ Gr S T ∧ (FRI [(9, 9)] [] S T) ∧ K2 S T) hI o_v0 (fun r T h0 h1 h2 h3 => ⟨h0, h1, h2, h3⟩)) (fun r T h _ => hq r T h.1.1 h.1.2.1 h.1.2.2.1 h.1.2.2.2 h.2)
theorem mn_X9_mark {v0 : Nat} {Q : Int32 → HS → Prop} {S : HS} (hI : IV S) (o_v0 : ob S v0 9) (hq : ∀ (r : Int32) (T : HS), IV T → Gr S T → FRI [(0, 3), (2, 0), (2, 1), (9, 9)] [] S T → K2 S T → (NFq 9 9 c9 v0 T) → Q r T) : P_X9_mark v0 Q S := cm_X9_mark (nf_X9_mark (mk_X9_mark (Q := fun r T => IV T ∧ Gr S T ∧ (FRI [(0, 3), (2, 0), (2, 1), (9, 9)] [] S T) ∧ K2 S T) hI o_v0 (fun r T h0 h1 h2 h3 => ⟨h0, h1, h2, h3⟩)) o_v0) (mk_X9_mark (Q := fun r T => IV T ∧ Gr S T ∧ (FRI [(0, 3), (2, 0), (2, 1), (9, 9)] [] S T) ∧ K2 S T) hI o_v0 (fun r T h0 h1 h2 h3 => ⟨h0, h1, h2, h3⟩)) (fun r T h _ => hq r T h.1.1 h.1.2.1 h.1.2.2.1 h.1.2.2.2 h.2)
theorem mn_X9_mean {v0 : Nat} {v1 : Int32} {v2 : Int32} {v3 : Int32} {v4 : Int32} {v5 : Int32} {v6 : Int32} {Q : Int64 → HS → Prop} {S : HS} (hI : IV S) (o_v0 : ob S v0 9) (hq : ∀ (r : Int64) (T : HS), IV T → Gr S T → FRI [(9, 9)] [] S T → K2 S T → (NFq 9 9 c9 v0 T) → Q r T) : P_X9_mean v0 v1 v2 v3 v4 v5 v6 Q S := cm_X9_mean (nf_X9_mean (mk_X9_mean (Q := fun r T => IV T ∧ Gr S T ∧ (FRI [(9, 9)] [] S T) ∧ K2 S T) hI o_v0 (fun r T h0 h1 h2 h3 => ⟨h0, h1, h2, h3⟩)) o_v0) (mk_X9_mean (Q := fun r T => IV T ∧ Gr S T ∧ (FRI [(9, 9)] [] S T) ∧ K2 S T) hI o_v0 (fun r T h0 h1 h2 h3 => ⟨h0, h1, h2, h3⟩)) (fun r T h _ => hq r T h.1.1 h.1.2.1 h.1.2.2.1 h.1.2.2.2 h.2)
theorem mn_X9_minutes {v0 : Nat} {v1 : Int32} {v2 : Int32} {v3 : Int32} {Q : Int32 → HS → Prop} {S : HS} (hI : IV S) (o_v0 : ob S v0 9) (hq : ∀ (r : Int32) (T : HS), IV T → Gr S T → FRI [(9, 9)] [] S T → K2 S T → (NFq 9 9 c9 v0 T) → Q r T) : P_X9_minutes v0 v1 v2 v3 Q S := cm_X9_minutes (nf_X9_minutes (mk_X9_minutes (Q := fun r T => IV T ∧ Gr S T ∧ (FRI [(9, 9)] [] S T) ∧ K2 S T) hI o_v0 (fun r T h0 h1 h2 h3 => ⟨h0, h1, h2, h3⟩)) o_v0) (mk_X9_minutes (Q := fun r T => IV T ∧ Gr S T ∧ (FRI [(9, 9)] [] S T) ∧ K2 S T) hI o_v0 (fun r T h0 h1 h2 h3 => ⟨h0, h1, h2, h3⟩)) (fun r T h _ => hq r T h.1.1 h.1.2.1 h.1.2.2.1 h.1.2.2.2 h.2)
theorem mn_X9_off {v0 : Nat} {v1 : Int32} {v2 : Int32} {v3 : Int32} {v4 : Int32} {Q : Int32 → HS → Prop} {S : HS} (hI : IV S) (o_v0 : ob S v0 9) (hq : ∀ (r : Int32) (T : HS), IV T → Gr S T → FRI [(7, 3), (7, 9), (7, 10), (7, 11), (7, 12), (7, 13), (9, 9)] [(7, 0), (7, 1), (7, 2), (7, 4), (7, 5), (7, 6), (7, 7), (7, 8)] S T → K2 S T → (NFq 9 9 c9 v0 T) → Q r T) : P_X9_off v0 v1 v2 v3 v4 Q S := cm_X9_off (nf_X9_off (mk_X9_off (Q := fun r T => IV T ∧ Gr S T ∧ (FRI [(7, 3), (7, 9), (7, 10), (7, 11), (7, 12), (7, 13), (9, 9)] [(7, 0), (7, 1), (7, 2), (7, 4), (7, 5), (7, 6), (7, 7), (7, 8)] S T) ∧ K2 S T) hI o_v0 (fun r T h0 h1 h2 h3 => ⟨h0, h1, h2, h3⟩)) o_v0) (mk_X9_off (Q := fun r T => IV T ∧ Gr S T ∧ (FRI [(7, 3), (7, 9), (7, 10), (7, 11), (7, 12), (7, 13), (9, 9)] [(7, 0), (7, 1), (7, 2), (7, 4), (7, 5), (7, 6), (7, 7), (7, 8)] S T) ∧ K2 S T) hI o_v0 (fun r T h0 h1 h2 h3 => ⟨h0, h1, h2, h3⟩)) (fun r T h _ => hq r T h.1.1 h.1.2.1 h.1.2.2.1 h.1.2.2.2 h.2)
theorem mn_X9_road {v0 : Nat} {v1 : Int32} {v2 : Int32} {Q : Int32 → HS → Prop} {S : HS} (hI : IV S) (o_v0 : ob S v0 9) (hq : ∀ (r : Int32) (T : HS), IV T → Gr S T → FRI [(9, 9)] [] S T → K2 S T → (NFq 9 9 c9 v0 T) → Q r T) : P_X9_road v0 v1 v2 Q S := cm_X9_road (nf_X9_road (mk_X9_road (Q := fun r T => IV T ∧ Gr S T ∧ (FRI [(9, 9)] [] S T) ∧ K2 S T) hI o_v0 (fun r T h0 h1 h2 h3 => ⟨h0, h1, h2, h3⟩)) o_v0) (mk_X9_road (Q := fun r T => IV T ∧ Gr S T ∧ (FRI [(9, 9)] [] S T) ∧ K2 S T) hI o_v0 (fun r T h0 h1 h2 h3 => ⟨h0, h1, h2, h3⟩)) (fun r T h _ => hq r T h.1.1 h.1.2.1 h.1.2.2.1 h.1.2.2.2 h.2)
theorem mn_X9_round {v0 : Nat} {v1 : Int32} {v2 : Int32} {v3 : Int32} {v4 : Int32} {Q : Int64 → HS → Prop} {S : HS} (hI : IV S) (o_v0 : ob S v0 9) (hq : ∀ (r : Int64) (T : HS), IV T → Gr S T → FRI [(9, 9)] [] S T → K2 S T → (NFq 9 9 c9 v0 T) → Q r T) : P_X9_round v0 v1 v2 v3 v4 Q S := cm_X9_round (nf_X9_round (mk_X9_round (Q := fun r T => IV T ∧ Gr S T ∧ (FRI [(9, 9)] [] S T) ∧ K2 S T) hI o_v0 (fun r T h0 h1 h2 h3 => ⟨h0, h1, h2, h3⟩)) o_v0) (mk_X9_round (Q := fun r T => IV T ∧ Gr S T ∧ (FRI [(9, 9)] [] S T) ∧ K2 S T) hI o_v0 (fun r T h0 h1 h2 h3 => ⟨h0, h1, h2, h3⟩)) (fun r T h _ => hq r T h.1.1 h.1.2.1 h.1.2.2.1 h.1.2.2.2 h.2)
theorem mn_X9_saves {v0 : Nat} {v1 : Int32} {v2 : Int32} {v3 : Int32} {v4 : Int32} {v5 : Int32} {Q : Int64 → HS → Prop} {S : HS} (hI : IV S) (o_v0 : ob S v0 9) (hq : ∀ (r : Int64) (T : HS), IV T → Gr S T → FRI [(9, 9)] [] S T → K2 S T → (NFq 9 9 c9 v0 T) → Q r T) : P_X9_saves v0 v1 v2 v3 v4 v5 Q S := cm_X9_saves (nf_X9_saves (mk_X9_saves (Q := fun r T => IV T ∧ Gr S T ∧ (FRI [(9, 9)] [] S T) ∧ K2 S T) hI o_v0 (fun r T h0 h1 h2 h3 => ⟨h0, h1, h2, h3⟩)) o_v0) (mk_X9_saves (Q := fun r T => IV T ∧ Gr S T ∧ (FRI [(9, 9)] [] S T) ∧ K2 S T) hI o_v0 (fun r T h0 h1 h2 h3 => ⟨h0, h1, h2, h3⟩)) (fun r T h _ => hq r T h.1.1 h.1.2.1 h.1.2.2.1 h.1.2.2.2 h.2)
theorem mn_X9_soaked {v0 : Nat} {Q : Int32 → HS → Prop} {S : HS} (hI : IV S) (o_v0 : ob S v0 9) (hq : ∀ (r : Int32) (T : HS), IV T → Gr S T → FRI [(9, 9)] [] S T → K2 S T → (NFq 9 9 c9 v0 T) → Q r T) : P_X9_soaked v0 Q S := cm_X9_soaked (nf_X9_soaked (mk_X9_soaked (Q := fun r T => IV T ∧ Gr S T ∧ (FRI [(9, 9)] [] S T) ∧ K2 S T) hI o_v0 (fun r T h0 h1 h2 h3 => ⟨h0, h1, h2, h3⟩)) o_v0) (mk_X9_soaked (Q := fun r T => IV T ∧ Gr S T ∧ (FRI [(9, 9)] [] S T) ∧ K2 S T) hI o_v0 (fun r T h0 h1 h2 h3 => ⟨h0, h1, h2, h3⟩)) (fun r T h _ => hq r T h.1.1 h.1.2.1 h.1.2.2.1 h.1.2.2.2 h.2)
theorem mn_X9_stay {v0 : Nat} {v1 : Int32} {Q : Int32 → HS → Prop} {S : HS} (hI : IV S) (o_v0 : ob S v0 9) (hq : ∀ (r : Int32) (T : HS), IV T → Gr S T → FRI [(0, 2), (2, 0), (2, 1), (9, 9)] [] S T → bl r → K2 S T → (NFq 9 9 c9 v0 T) → Q r T) : P_X9_stay v0 v1 Q S := cm_X9_stay (nf_X9_stay (mk_X9_stay (Q := fun r T => IV T ∧ Gr S T ∧ (FRI [(0, 2), (2, 0), (2, 1), (9, 9)] [] S T) ∧ bl r ∧ K2 S T) hI o_v0 (fun r T h0 h1 h2 h3 h4 => ⟨h0, h1, h2, h3, h4⟩)) o_v0) (mk_X9_stay (Q := fun r T => IV T ∧ Gr S T ∧ (FRI [(0, 2), (2, 0), (2, 1), (9, 9)] [] S T) ∧ bl r ∧ K2 S T) hI o_v0 (fun r T h0 h1 h2 h3 h4 => ⟨h0, h1, h2, h3, h4⟩)) (fun r T h _ => hq r T h.1.1 h.1.2.1 h.1.2.2.1 h.1.2.2.2.1 h.1.2.2.2.2 h.2)
theorem mn_X9_step {v0 : Nat} {v1 : Int32} {v2 : Int32} {v3 : Int32} {v4 : Int32} {v5 : Int32} {v6 : Int32} {Q : Int32 → HS → Prop} {S : HS} (hI : IV S) (o_v0 : ob S v0 9) (hq : ∀ (r : Int32) (T : HS), IV T → Gr S T → FRI [(7, 3), (7, 9), (7, 10), (7, 11), (7, 12), (7, 13), (9, 9)] [(7, 0), (7, 1), (7, 2), (7, 4), (7, 5), (7, 6), (7, 7), (7, 8)] S T → K2 S T → (NFq 9 9 c9 v0 T) → Q r T) : P_X9_step v0 v1 v2 v3 v4 v5 v6 Q S := cm_X9_step (nf_X9_step (mk_X9_step (Q := fun r T => IV T ∧ Gr S T ∧ (FRI [(7, 3), (7, 9), (7, 10), (7, 11), (7, 12), (7, 13), (9, 9)] [(7, 0), (7, 1), (7, 2), (7, 4), (7, 5), (7, 6), (7, 7), (7, 8)] S T) ∧ K2 S T) hI o_v0 (fun r T h0 h1 h2 h3 => ⟨h0, h1, h2, h3⟩)) o_v0) (mk_X9_step (Q := fun r T => IV T ∧ Gr S T ∧ (FRI [(7, 3), (7, 9), (7, 10), (7, 11), (7, 12), (7, 13), (9, 9)] [(7, 0), (7, 1), (7, 2), (7, 4), (7, 5), (7, 6), (7, 7), (7, 8)] S T) ∧ K2 S T) hI o_v0 (fun r T h0 h1 h2 h3 => ⟨h0, h1, h2, h3⟩)) (fun r T h _ => hq r T h.1.1 h.1.2.1 h.1.2.2.1 h.1.2.2.2 h.2)
theorem mn_X9_steps {v0 : Nat} {v1 : Int32} {v2 : Int32} {v3 : Int32} {v4 : Int32} {v5 : Int32} {Q : Int32 → HS → Prop} {S : HS} (hI : IV S) (o_v0 : ob S v0 9) (hq : ∀ (r : Int32) (T : HS), IV T → Gr S T → FRI [(7, 3), (7, 9), (7, 10), (7, 11), (7, 12), (7, 13), (9, 9)] [(7, 0), (7, 1), (7, 2), (7, 4), (7, 5), (7, 6), (7, 7), (7, 8)] S T → K2 S T → (NFq 9 9 c9 v0 T) → Q r T) : P_X9_steps v0 v1 v2 v3 v4 v5 Q S := cm_X9_steps (nf_X9_steps (mk_X9_steps (Q := fun r T => IV T ∧ Gr S T ∧ (FRI [(7, 3), (7, 9), (7, 10), (7, 11), (7, 12), (7, 13), (9, 9)] [(7, 0), (7, 1), (7, 2), (7, 4), (7, 5), (7, 6), (7, 7), (7, 8)] S T) ∧ K2 S T) hI o_v0 (fun r T h0 h1 h2 h3 => ⟨h0, h1, h2, h3⟩)) o_v0) (mk_X9_steps (Q := fun r T => IV T ∧ Gr S T ∧ (FRI [(7, 3), (7, 9), (7, 10), (7, 11), (7, 12), (7, 13), (9, 9)] [(7, 0), (7, 1), (7, 2), (7, 4), (7, 5), (7, 6), (7, 7), (7, 8)] S T) ∧ K2 S T) hI o_v0 (fun r T h0 h1 h2 h3 => ⟨h0, h1, h2, h3⟩)) (fun r T h _ => hq r T h.1.1 h.1.2.1 h.1.2.2.1 h.1.2.2.2 h.2)
theorem mn_X9_there {v0 : Nat} {v1 : Int32} {v2 : Int32} {v3 : Int32} {v4 : Int32} {v5 : Int32} {Q : Int32 → HS → Prop} {S : HS} (hI : IV S) (o_v0 : ob S v0 9) (hq : ∀ (r : Int32) (T : HS), IV T → Gr S T → FRI [(7, 3), (7, 9), (7, 10), (7, 11), (7, 12), (7, 13), (9, 9)] [(7, 0), (7, 1), (7, 2), (7, 4), (7, 5), (7, 6), (7, 7), (7, 8)] S T → K2 S T → (NFq 9 9 c9 v0 T) → Q r T) : P_X9_there v0 v1 v2 v3 v4 v5 Q S := cm_X9_there (nf_X9_there (mk_X9_there (Q := fun r T => IV T ∧ Gr S T ∧ (FRI [(7, 3), (7, 9), (7, 10), (7, 11), (7, 12), (7, 13), (9, 9)] [(7, 0), (7, 1), (7, 2), (7, 4), (7, 5), (7, 6), (7, 7), (7, 8)] S T) ∧ K2 S T) hI o_v0 (fun r T h0 h1 h2 h3 => ⟨h0, h1, h2, h3⟩)) o_v0) (mk_X9_there (Q := fun r T => IV T ∧ Gr S T ∧ (FRI [(7, 3), (7, 9), (7, 10), (7, 11), (7, 12), (7, 13), (9, 9)] [(7, 0), (7, 1), (7, 2), (7, 4), (7, 5), (7, 6), (7, 7), (7, 8)] S T) ∧ K2 S T) hI o_v0 (fun r T h0 h1 h2 h3 => ⟨h0, h1, h2, h3⟩)) (fun r T h _ => hq r T h.1.1 h.1.2.1 h.1.2.2.1 h.1.2.2.2 h.2)
theorem mn_X9_undo {v0 : Nat} {Q : Int32 → HS → Prop} {S : HS} (hI : IV S) (o_v0 : ob S v0 9) (hq : ∀ (r : Int32) (T : HS), IV T → Gr S T → FRI [(0, 2), (2, 0), (2, 1), (9, 9)] [] S T → bl r → K2 S T → (NFq 9 9 c9 v0 T) → Q r T) : P_X9_undo v0 Q S := cm_X9_undo (nf_X9_undo (mk_X9_undo (Q := fun r T => IV T ∧ Gr S T ∧ (FRI [(0, 2), (2, 0), (2, 1), (9, 9)] [] S T) ∧ bl r ∧ K2 S T) hI o_v0 (fun r T h0 h1 h2 h3 h4 => ⟨h0, h1, h2, h3, h4⟩)) o_v0) (mk_X9_undo (Q := fun r T => IV T ∧ Gr S T ∧ (FRI [(0, 2), (2, 0), (2, 1), (9, 9)] [] S T) ∧ bl r ∧ K2 S T) hI o_v0 (fun r T h0 h1 h2 h3 h4 => ⟨h0, h1, h2, h3, h4⟩)) (fun r T h _ => hq r T h.1.1 h.1.2.1 h.1.2.2.1 h.1.2.2.2.1 h.1.2.2.2.2 h.2)
theorem mn_X9_walker {v0 : Nat} {v1 : Int32} {v2 : Int32} {Q : Int32 → HS → Prop} {S : HS} (hI : IV S) (o_v0 : ob S v0 9) (hq : ∀ (r : Int32) (T : HS), IV T → Gr S T → FRI [(9, 9)] [] S T → K2 S T → (NFq 9 9 c9 v0 T) → Q r T) : P_X9_walker v0 v1 v2 Q S := cm_X9_walker (nf_X9_walker (mk_X9_walker (Q := fun r T => IV T ∧ Gr S T ∧ (FRI [(9, 9)] [] S T) ∧ K2 S T) hI o_v0 (fun r T h0 h1 h2 h3 => ⟨h0, h1, h2, h3⟩)) o_v0) (mk_X9_walker (Q := fun r T => IV T ∧ Gr S T ∧ (FRI [(9, 9)] [] S T) ∧ K2 S T) hI o_v0 (fun r T h0 h1 h2 h3 => ⟨h0, h1, h2, h3⟩)) (fun r T h _ => hq r T h.1.1 h.1.2.1 h.1.2.2.1 h.1.2.2.2 h.2)
theorem mn_X9_wet {v0 : Nat} {v1 : Int32} {v2 : Int32} {v3 : Int32} {v4 : Int32} {v5 : Int32} {v6 : Int32} {Q : Int64 → HS → Prop} {S : HS} (hI : IV S) (o_v0 : ob S v0 9) (hq : ∀ (r : Int64) (T : HS), IV T → Gr S T → FRI [(9, 9)] [] S T → K2 S T → (NFq 9 9 c9 v0 T) → Q r T) : P_X9_wet v0 v1 v2 v3 v4 v5 v6 Q S := cm_X9_wet (nf_X9_wet (mk_X9_wet (Q := fun r T => IV T ∧ Gr S T ∧ (FRI [(9, 9)] [] S T) ∧ K2 S T) hI o_v0 (fun r T h0 h1 h2 h3 => ⟨h0, h1, h2, h3⟩)) o_v0) (mk_X9_wet (Q := fun r T => IV T ∧ Gr S T ∧ (FRI [(9, 9)] [] S T) ∧ K2 S T) hI o_v0 (fun r T h0 h1 h2 h3 => ⟨h0, h1, h2, h3⟩)) (fun r T h _ => hq r T h.1.1 h.1.2.1 h.1.2.2.1 h.1.2.2.2 h.2)
theorem mn_X9_wetness {v0 : Nat} {v1 : Int32} {Q : Int64 → HS → Prop} {S : HS} (hI : IV S) (o_v0 : ob S v0 9) (hq : ∀ (r : Int64) (T : HS), IV T → Gr S T → FRI [(9, 9)] [] S T → K2 S T → (NFq 9 9 c9 v0 T) → Q r T) : P_X9_wetness v0 v1 Q S := cm_X9_wetness (nf_X9_wetness (mk_X9_wetness (Q := fun r T => IV T ∧ Gr S T ∧ (FRI [(9, 9)] [] S T) ∧ K2 S T) hI o_v0 (fun r T h0 h1 h2 h3 => ⟨h0, h1, h2, h3⟩)) o_v0) (mk_X9_wetness (Q := fun r T => IV T ∧ Gr S T ∧ (FRI [(9, 9)] [] S T) ∧ K2 S T) hI o_v0 (fun r T h0 h1 h2 h3 => ⟨h0, h1, h2, h3⟩)) (fun r T h _ => hq r T h.1.1 h.1.2.1 h.1.2.2.1 h.1.2.2.2 h.2)
theorem mv_X9_where {v0 : Nat} {Q : Int32 → HS → Prop} {S : HS} (hI : IV S) (o_v0 : ob S v0 9) (hq : ∀ (r : Int32) (T : HS), IV T → Gr S T → (S = T) → K2 S T → ((fI S v0 9 = 4 → r = fI S v0 8) ∧ (fI S v0 9 ≠ 4 → r = -1)) → Q r T) : P_X9_where v0 Q S := cm_X9_where (sp_X9_where (mk_X9_where (Q := fun r T => IV T ∧ Gr S T ∧ ((S = T)) ∧ K2 S T) hI o_v0 (fun r T h0 h1 h2 h3 => ⟨h0, h1, h2, h3⟩))) (mk_X9_where (Q := fun r T => IV T ∧ Gr S T ∧ ((S = T)) ∧ K2 S T) hI o_v0 (fun r T h0 h1 h2 h3 => ⟨h0, h1, h2, h3⟩)) (fun r T h _ => hq r T h.1.1 h.1.2.1 h.1.2.2.1 h.1.2.2.2 h.2)
theorem mn_X9_worst {v0 : Nat} {v1 : Int32} {v2 : Int32} {v3 : Int32} {v4 : Int32} {Q : Int32 → HS → Prop} {S : HS} (hI : IV S) (o_v0 : ob S v0 9) (hq : ∀ (r : Int32) (T : HS), IV T → Gr S T → FRI [(9, 9)] [] S T → K2 S T → (NFq 9 9 c9 v0 T) → Q r T) : P_X9_worst v0 v1 v2 v3 v4 Q S := cm_X9_worst (nf_X9_worst (mk_X9_worst (Q := fun r T => IV T ∧ Gr S T ∧ (FRI [(9, 9)] [] S T) ∧ K2 S T) hI o_v0 (fun r T h0 h1 h2 h3 => ⟨h0, h1, h2, h3⟩)) o_v0) (mk_X9_worst (Q := fun r T => IV T ∧ Gr S T ∧ (FRI [(9, 9)] [] S T) ∧ K2 S T) hI o_v0 (fun r T h0 h1 h2 h3 => ⟨h0, h1, h2, h3⟩)) (fun r T h _ => hq r T h.1.1 h.1.2.1 h.1.2.2.1 h.1.2.2.2 h.2)
end
section
/-! fault and where, kept alike -/
section Inv45
variable {S T U : HS} {c m t : Nat} {f : Nat → Int32} {v1 : Int32} {wi wr wi' wr' : List (Nat × Nat)}
theorem fa_fri (h : fI S c 7 = fI S m 13) (oc : ob S c 9) (om : ob S m 11) (F : FRI wi wr S T) (hc : (9, 7) ∉ wi) (hm : (11, 13) ∉ wi) : fI T c 7 = fI T m 13 :=
  (F.1 9 7 (by decide) hc c oc).trans (h.trans (F.1 11 13 (by decide) hm m om).symm)
theorem wh_fri (h : WH c m S) (oc : ob S c 9) (om : ob S m 11) (F : FRI wi wr S T) (h8 : (9, 8) ∉ wi) (h9 : (9, 9) ∉ wi) (hm : (11, 2) ∉ wi) : WH c m T := by
  have e8 := F.1 9 8 (by decide) h8 c oc
  have e9 := F.1 9 9 (by decide) h9 c oc
  have e2 := F.1 11 2 (by decide) hm m om
  unfold WH
  rw [e8, e9, e2]
  exact h
theorem wh_set (N : NFq 9 9 c9 c T) (F : FRI wi wr T U) (h9 : (9, 9) ∉ wi) (M : NFq 11 2 c11 m U) : WH c m U := by
  have e9 := F.1 9 9 (by decide) h9 c N.1
  exact ⟨fun z => absurd (e9.symm.trans z) N.2, fun _ => M.2⟩
theorem fa_world {x y : Int32} (ht : t ≤ 900) (h : WCd S f t v1 c x T) (g : WMd T f t v1 m y U) (hf : fI S c 7 = fI S m 13) (oc : ob T c 9) (om : ob S m 11) (F : FRI wi wr S T) (F' : FRI wi' wr' T U) (hm : (11, 13) ∉ wi) (hc : (9, 7) ∉ wi') : fI U c 7 = fI U m 13 :=
  (F'.1 9 7 (by decide) hc c oc).trans (wc_fault ht h g (hf.trans (F.1 11 13 (by decide) hm m om).symm))
theorem wh_world {x y : Int32} (ht : t ≤ 900) (h : WCd S f t v1 c x T) (g : WMd T f t v1 m y U) (oc : ob T c 9) (F' : FRI wi' wr' T U) (h8 : (9, 8) ∉ wi') (h9 : (9, 9) ∉ wi') : WH c m U := by
  have e8 := F'.1 9 8 (by decide) h8 c oc
  have e9 := F'.1 9 9 (by decide) h9 c oc
  unfold WH
  rw [e8, e9]
  exact wc_where ht h g
theorem wh_eq {x y : Int32} (h : WH c m S) (hx : (fI S c 9 = 4 → x = fI S c 8) ∧ (fI S c 9 ≠ 4 → x = -1)) (hy : y = fI S m 2) : x = y := by
  by_cases z : fI S c 9 = 4
  · rw [hx.1 z, hy, h.1 z]
  · rw [hx.2 z, hy, h.2 z]
end Inv45
end
section
/-! what the readers' methods may write -/
def KZ (S T : HS) : Prop := fR T = fR S ∧ fI T = fI S
def KV (v : Nat) (S T : HS) : Prop := fR T = fR S ∧ ∀ b, b ≠ v → fI T b = fI S b
section KZs
variable {S T U : HS} {a j v0 : Nat}
theorem kz_rf (S : HS) : KZ S S := ⟨rfl, rfl⟩
theorem kz_Z (K : KZ S T) (G : KZ T U) : KZ S U := ⟨G.1.trans K.1, G.2.trans K.2⟩
theorem kv_rf (v0 : Nat) (S : HS) : KV v0 S S := ⟨rfl, fun _ _ => rfl⟩
theorem kv_tr (K : KV v0 S T) (G : KV v0 T U) : KV v0 S U := ⟨G.1.trans K.1, fun b hb => (G.2 b hb).trans (K.2 b hb)⟩
theorem kv_Z (K : KV v0 S T) (G : KZ T U) : KV v0 S U := ⟨G.1.trans K.1, fun b hb => (congrFun G.2 b).trans (K.2 b hb)⟩
theorem kv_I {v : Int32} (K : KV v0 S T) (e : U = sI T v0 j v) : KV v0 S U := by
  refine ⟨?_, fun b hb => ?_⟩
  · rw [e]; exact K.1
  · rw [e]
    exact (u2_row _ _ hb).trans (K.2 b hb)
theorem kv_J {v : Int64} (K : KV v0 S T) (e : U = sJ T a j v) : KV v0 S U := by
  rw [e]
  exact K
end KZs
def OwS_C (r : Nat) (S : HS) (b : Nat) : Prop := b = r ∨ (∃ w, fR S r 5 = some w ∧ (b = w ∨ (∃ j ∈ ([7, 10, 11] : List Nat), fR S w j = some b) ∨ (∃ j ∈ ([6, 8, 9] : List Nat), ∃ ra i, fR S w j = some ra ∧ fR S ra i = some b))) ∨ (∃ j ∈ ([11, 12] : List Nat), fR S r j = some b)
def KO_C (r : Nat) (S T : HS) : Prop := fR T = fR S ∧ ∀ b, ¬ OwS_C r S b → fI T b = fI S b
section KOC
variable {S T U : HS} {r a b j w ra i : Nat}
theorem koc_rf (r : Nat) (S : HS) : KO_C r S S := ⟨rfl, fun _ _ => rfl⟩
theorem owc_eq (h : fR T = fR S) : OwS_C r T b ↔ OwS_C r S b := by
  unfold OwS_C
  rw [h]
theorem owtc (K : KO_C r S T) (h : OwS_C r S b) : OwS_C r T b := (owc_eq K.1).mpr h
theorem koc_tr (K : KO_C r S T) (G : KO_C r T U) : KO_C r S U := ⟨G.1.trans K.1, fun b hb => (G.2 b (fun z => hb ((owc_eq K.1).mp z))).trans (K.2 b hb)⟩
theorem koc_I {v : Int32} (K : KO_C r S T) (e : U = sI T a j v) (ho : OwS_C r S a) : KO_C r S U := by
  refine ⟨?_, fun b hb => ?_⟩
  · rw [e]; exact K.1
  · rw [e]
    have hne : b ≠ a := fun z => hb (z ▸ ho)
    exact (u2_row _ _ hne).trans (K.2 b hb)
theorem koc_J {v : Int64} (K : KO_C r S T) (e : U = sJ T a j v) : KO_C r S U := by
  rw [e]
  exact K
theorem koc_Z (K : KO_C r S T) (G : KZ T U) : KO_C r S U := ⟨G.1.trans K.1, fun b hb => (congrFun G.2 b).trans (K.2 b hb)⟩
theorem koc_V (K : KO_C r S T) (G : KV a T U) (ho : OwS_C r S a) : KO_C r S U := ⟨G.1.trans K.1, fun b hb => (G.2 b (fun z => hb (z ▸ ho))).trans (K.2 b hb)⟩
theorem koc_f {x : Nat} (K : KO_C r S T) (e : fR T x j = some a) : fR S x j = some a := by
  rw [← K.1]
  exact e
theorem owc_r : OwS_C r S r := Or.inl rfl
theorem owc_w (f : fR S r 5 = some w) : OwS_C r S w := Or.inr (Or.inl ⟨w, f, Or.inl rfl⟩)
theorem owc_d (f : fR S r 5 = some w) (g : fR S w j = some a) (hj : j ∈ ([7, 10, 11] : List Nat)) : OwS_C r S a := Or.inr (Or.inl ⟨w, f, Or.inr (Or.inl ⟨j, hj, g⟩)⟩)
theorem owc_a (g : fR S r j = some a) (hj : j ∈ ([11, 12] : List Nat)) : OwS_C r S a := Or.inr (Or.inr ⟨j, hj, g⟩)
theorem owc_e (f : fR S r 5 = some w) (g : fR S w j = some ra) (e : fR S ra i = some a) (hj : j ∈ ([6, 8, 9] : List Nat)) : OwS_C r S a := Or.inr (Or.inl ⟨w, f, Or.inr (Or.inr ⟨j, hj, ra, i, g, e⟩)⟩)
end KOC
def OwS_M (r : Nat) (S : HS) (b : Nat) : Prop := b = r ∨ (∃ w, fR S r 4 = some w ∧ (b = w ∨ (∃ j ∈ (List.range 31), fR S w j = some b)))
def KO_M (r : Nat) (S T : HS) : Prop := fR T = fR S ∧ ∀ b, ¬ OwS_M r S b → fI T b = fI S b
section KOM
variable {S T U : HS} {r a b j w ra i : Nat}
theorem kom_rf (r : Nat) (S : HS) : KO_M r S S := ⟨rfl, fun _ _ => rfl⟩
theorem owm_eq (h : fR T = fR S) : OwS_M r T b ↔ OwS_M r S b := by
  unfold OwS_M
  rw [h]
theorem kom_tr (K : KO_M r S T) (G : KO_M r T U) : KO_M r S U := ⟨G.1.trans K.1, fun b hb => (G.2 b (fun z => hb ((owm_eq K.1).mp z))).trans (K.2 b hb)⟩
theorem kom_I {v : Int32} (K : KO_M r S T) (e : U = sI T a j v) (ho : OwS_M r S a) : KO_M r S U := by
  refine ⟨?_, fun b hb => ?_⟩
  · rw [e]; exact K.1
  · rw [e]
    have hne : b ≠ a := fun z => hb (z ▸ ho)
    exact (u2_row _ _ hne).trans (K.2 b hb)
theorem kom_J {v : Int64} (K : KO_M r S T) (e : U = sJ T a j v) : KO_M r S U := by
  rw [e]
  exact K
theorem kom_Z (K : KO_M r S T) (G : KZ T U) : KO_M r S U := ⟨G.1.trans K.1, fun b hb => (congrFun G.2 b).trans (K.2 b hb)⟩
theorem kom_V (K : KO_M r S T) (G : KV a T U) (ho : OwS_M r S a) : KO_M r S U := ⟨G.1.trans K.1, fun b hb => (G.2 b (fun z => hb (z ▸ ho))).trans (K.2 b hb)⟩
theorem kom_f {x : Nat} (K : KO_M r S T) (e : fR T x j = some a) : fR S x j = some a := by
  rw [← K.1]
  exact e
theorem owm_r : OwS_M r S r := Or.inl rfl
theorem owm_w (f : fR S r 4 = some w) : OwS_M r S w := Or.inr (⟨w, f, Or.inl rfl⟩)
theorem owm_d (f : fR S r 4 = some w) (g : fR S w j = some a) (hj : j ∈ (List.range 31)) : OwS_M r S a := Or.inr (⟨w, f, Or.inr (⟨j, hj, g⟩)⟩)
end KOM
set_option maxRecDepth 20000 in
set_option maxHeartbeats 1000000 in
theorem kzB_X10_find_2 {Q : Int32 → HS → Prop} {X2 X2_2 : Nat → Int64 → Int32 → HS → Prop} {v0 : Nat} {v1 : Int64} {v3 : Int32} {S0 S : HS} (h : B_X10_find_2 Q X2 v0 v1 v3 S) (K : KZ S0 S) (hX2 : ∀ (u0 : Nat) (u1 : Int64) (u2 : Int32) (u3 : HS), X2 u0 u1 u2 u3 → KZ S0 u3 → X2_2 u0 u1 u2 u3) : B_X10_find_2 (fun r T => Q r T ∧ KZ S0 T) X2_2 v0 v1 v3 S := by
  delta B_X10_find_2 at h ⊢
  obtain ⟨c1, h⟩ := h
  refine ⟨c1, ?_⟩
  intro x3 e2
  have h := h x3 e2
  refine ⟨?_, ?_⟩
  · intro c4
    have h := h.1 c4
    exact ⟨h, K⟩
  · intro c5
    have h := h.2 c5
    obtain ⟨b6, e7, h⟩ := h
    refine ⟨b6, e7, ?_⟩
    obtain ⟨c8, h⟩ := h
    refine ⟨c8, ?_⟩
    obtain ⟨c9, h⟩ := h
    refine ⟨c9, ?_⟩
    intro x11 e10
    have h := h x11 e10
    refine ⟨?_, ?_⟩
    · intro c12
      have h := h.1 c12
      intro x14 e13
      have h := h x14 e13
      exact hX2 _ _ _ _ h K
    · intro c15
      have h := h.2 c15
      exact ⟨h, K⟩
theorem kz_X10_find_2 {Q : Int32 → HS → Prop} {v0 : Nat} {v1 : Int64} {v3 : Int32} {S0 S : HS} (h : P_X10_find_2 Q v0 v1 v3 S) (K : KZ S0 S) : P_X10_find_2 (fun r T => Q r T ∧ KZ S0 T) v0 v1 v3 S := h (fun w0 v1 v3 S => KZ S0 S → P_X10_find_2 (fun r T => Q r T ∧ KZ S0 T) w0 v1 v3 S) (fun w0 v1 v3 S hB K => by
  exact fd_X10_find_2 (kzB_X10_find_2 hB K (fun _ _ _ _ hx K => hx K))) K
set_option maxRecDepth 20000 in
set_option maxHeartbeats 1000000 in
theorem kz_X10_find_0 {Q : Int32 → HS → Prop} {v0 : Nat} {v1 : Int64} {S0 S : HS} (h : P_X10_find_0 Q v0 v1 S) (K : KZ S0 S) : P_X10_find_0 (fun r T => Q r T ∧ KZ S0 T) v0 v1 S := by
  delta P_X10_find_0 at h ⊢
  exact kz_X10_find_2 h K
theorem kz_X10_find {Q : Int32 → HS → Prop} {v0 : Nat} {v1 : Int64} {S : HS} (h : P_X10_find v0 v1 Q S) : P_X10_find v0 v1 (fun r T => Q r T ∧ KZ S T) S := kz_X10_find_0 h (kz_rf S)
set_option maxRecDepth 20000 in
set_option maxHeartbeats 1000000 in
theorem kz_X11_in_0 {Q : Int32 → HS → Prop} {v0 : Int32} {v1 : Int32} {v2 : Int32} {S0 S : HS} (h : P_X11_in_0 Q v0 v1 v2 S) (K : KZ S0 S) : P_X11_in_0 (fun r T => Q r T ∧ KZ S0 T) v0 v1 v2 S := by
  delta P_X11_in_0 at h ⊢
  refine ⟨?_, ?_⟩
  · intro c1
    have h := h.1 c1
    exact ⟨h, K⟩
  · intro c2
    have h := h.2 c2
    refine ⟨?_, ?_⟩
    · intro c3
      have h := h.1 c3
      exact ⟨h, K⟩
    · intro c4
      have h := h.2 c4
      exact ⟨h, K⟩
theorem kz_X11_in {Q : Int32 → HS → Prop} {v0 : Int32} {v1 : Int32} {v2 : Int32} {S : HS} (h : P_X11_in v0 v1 v2 Q S) : P_X11_in v0 v1 v2 (fun r T => Q r T ∧ KZ S T) S := kz_X11_in_0 h (kz_rf S)
set_option maxRecDepth 20000 in
set_option maxHeartbeats 1000000 in
theorem kv_X11_flaw_0 {Q : HS → Prop} {v0 : Nat} {v1 : Int32} {S0 S : HS} (h : P_X11_flaw_0 Q v0 v1 S) (K : KV v0 S0 S) : P_X11_flaw_0 (fun T => Q T ∧ KV v0 S0 T) v0 v1 S := by
  delta P_X11_flaw_0 at h ⊢
  obtain ⟨c1, h⟩ := h
  refine ⟨c1, ?_⟩
  intro x3 e2
  have h := h x3 e2
  refine ⟨?_, ?_⟩
  · intro c4
    have h := h.1 c4
    intro x6 e5
    have h := h x6 e5
    have K := kv_I K e5
    intro x8 e7
    have h := h x8 e7
    intro x10 e9
    have h := h x10 e9
    have K := kv_I K e9
    intro x12 e11
    have h := h x12 e11
    have K := kv_I K e11
    exact ⟨h, K⟩
  · intro c13
    have h := h.2 c13
    exact ⟨h, K⟩
theorem kv_X11_flaw {Q : HS → Prop} {v0 : Nat} {v1 : Int32} {S : HS} (h : P_X11_flaw v0 v1 Q S) : P_X11_flaw v0 v1 (fun T => Q T ∧ KV v0 S T) S := kv_X11_flaw_0 h (kv_rf _ S)
set_option maxRecDepth 20000 in
set_option maxHeartbeats 1000000 in
theorem kz_X11_byteAt_0 {Q : Int32 → HS → Prop} {v0 : Nat} {v1 : Int32} {S0 S : HS} (h : P_X11_byteAt_0 Q v0 v1 S) (K : KZ S0 S) : P_X11_byteAt_0 (fun r T => Q r T ∧ KZ S0 T) v0 v1 S := by
  delta P_X11_byteAt_0 at h ⊢
  obtain ⟨c1, h⟩ := h
  refine ⟨c1, ?_⟩
  intro x3 e2
  have h := h x3 e2
  refine ⟨?_, ?_⟩
  · intro c4
    have h := h.1 c4
    exact ⟨h, K⟩
  · intro c5
    have h := h.2 c5
    obtain ⟨b6, e7, h⟩ := h
    refine ⟨b6, e7, ?_⟩
    obtain ⟨c8, h⟩ := h
    refine ⟨c8, ?_⟩
    obtain ⟨c9, h⟩ := h
    refine ⟨c9, ?_⟩
    intro x11 e10
    have h := h x11 e10
    exact ⟨h, K⟩
theorem kz_X11_byteAt {Q : Int32 → HS → Prop} {v0 : Nat} {v1 : Int32} {S : HS} (h : P_X11_byteAt v0 v1 Q S) : P_X11_byteAt v0 v1 (fun r T => Q r T ∧ KZ S T) S := kz_X11_byteAt_0 h (kz_rf S)
set_option maxRecDepth 20000 in
set_option maxHeartbeats 1000000 in
theorem kz_X11_isDigit_0 {Q : Int32 → HS → Prop} {v0 : Int32} {S0 S : HS} (h : P_X11_isDigit_0 Q v0 S) (K : KZ S0 S) : P_X11_isDigit_0 (fun r T => Q r T ∧ KZ S0 T) v0 S := by
  delta P_X11_isDigit_0 at h ⊢
  refine ⟨?_, ?_⟩
  · intro c1
    have h := h.1 c1
    exact ⟨h, K⟩
  · intro c2
    have h := h.2 c2
    refine ⟨?_, ?_⟩
    · intro c3
      have h := h.1 c3
      exact ⟨h, K⟩
    · intro c4
      have h := h.2 c4
      exact ⟨h, K⟩
theorem kz_X11_isDigit {Q : Int32 → HS → Prop} {v0 : Int32} {S : HS} (h : P_X11_isDigit v0 Q S) : P_X11_isDigit v0 (fun r T => Q r T ∧ KZ S T) S := kz_X11_isDigit_0 h (kz_rf S)
set_option maxRecDepth 20000 in
set_option maxHeartbeats 1000000 in
theorem kz_X11_isLetter_0 {Q : Int32 → HS → Prop} {v0 : Int32} {S0 S : HS} (h : P_X11_isLetter_0 Q v0 S) (K : KZ S0 S) : P_X11_isLetter_0 (fun r T => Q r T ∧ KZ S0 T) v0 S := by
  delta P_X11_isLetter_0 at h ⊢
  refine ⟨?_, ?_⟩
  · intro c1
    have h := h.1 c1
    exact ⟨h, K⟩
  · intro c2
    have h := h.2 c2
    refine ⟨?_, ?_⟩
    · intro c3
      have h := h.1 c3
      exact ⟨h, K⟩
    · intro c4
      have h := h.2 c4
      exact ⟨h, K⟩
theorem kz_X11_isLetter {Q : Int32 → HS → Prop} {v0 : Int32} {S : HS} (h : P_X11_isLetter v0 Q S) : P_X11_isLetter v0 (fun r T => Q r T ∧ KZ S T) S := kz_X11_isLetter_0 h (kz_rf S)
set_option maxRecDepth 20000 in
set_option maxHeartbeats 1000000 in
theorem kv_X11_goesOn_136 {Q : HS → Prop} {X89 X89_2 : Nat → Int32 → HS → Prop} {v0 : Nat} {v2 : Int32} {S0 S : HS} (h : P_X11_goesOn_136 Q X89 v0 v2 S) (K : KV v0 S0 S) (hX89 : ∀ (u0 : Nat) (u1 : Int32) (u2 : HS), X89 u0 u1 u2 → u0 = v0 → KV v0 S0 u2 → X89_2 u0 u1 u2) : P_X11_goesOn_136 (fun T => Q T ∧ KV v0 S0 T) X89_2 v0 v2 S := by
  delta P_X11_goesOn_136 at h ⊢
  intro x2 e1
  have h := h x2 e1
  obtain ⟨c3, h⟩ := h
  refine ⟨c3, ?_⟩
  intro x5 e4
  have h := h x5 e4
  intro x7 e6
  have h := h x7 e6
  intro x9 e8
  have h := h x9 e8
  have K := kv_I K e8
  exact hX89 _ _ _ h rfl K
set_option maxRecDepth 20000 in
set_option maxHeartbeats 1000000 in
theorem kvB_X11_goesOn_89 {Q : HS → Prop} {X89 X89_2 : Nat → Int32 → HS → Prop} {v0 : Nat} {v2 : Int32} {S0 S : HS} (h : B_X11_goesOn_89 Q X89 v0 v2 S) (K : KV v0 S0 S) (hX89 : ∀ (u0 : Nat) (u1 : Int32) (u2 : HS), X89 u0 u1 u2 → u0 = v0 → KV v0 S0 u2 → X89_2 u0 u1 u2) : B_X11_goesOn_89 (fun T => Q T ∧ KV v0 S0 T) X89_2 v0 v2 S := by
  delta B_X11_goesOn_89 at h ⊢
  obtain ⟨c1, h⟩ := h
  refine ⟨c1, ?_⟩
  intro x3 e2
  have h := h x3 e2
  refine cm_X11_byteAt (kz_X11_byteAt h) h (fun x4 x5 p7 h g6 => ?_)
  have h := h g6
  have K := kv_Z K p7.2
  refine cm_X11_isLetter (kz_X11_isLetter h) h (fun x8 x9 p12 h g10 g11 => ?_)
  have h := h g10 g11
  have K := kv_Z K p12.2
  refine ⟨?_, ?_⟩
  · intro c13
    have h := h.1 c13
    refine ⟨?_, ?_⟩
    · intro c14
      have h := h.1 c14
      exact ⟨h, K⟩
    · intro c15
      have h := h.2 c15
      intro x17 e16
      have h := h x17 e16
      have K := kv_I K e16
      exact ⟨h, K⟩
  · intro c18
    have h := h.2 c18
    refine ⟨?_, ?_⟩
    · intro c19
      have h := h.1 c19
      exact kv_X11_goesOn_136 h K hX89
    · intro c20
      have h := h.2 c20
      intro x22 e21
      have h := h x22 e21
      intro x24 e23
      have h := h x24 e23
      refine cm_X11_byteAt (kz_X11_byteAt h) h (fun x25 x26 p28 h g27 => ?_)
      have h := h g27
      have K := kv_Z K p28.2
      intro x30 e29
      have h := h x30 e29
      intro x32 e31
      have h := h x32 e31
      have K := kv_J K e31
      exact kv_X11_goesOn_136 h K hX89
theorem kv_X11_goesOn_89 {Q : HS → Prop} {v0 : Nat} {v2 : Int32} {S0 S : HS} (h : P_X11_goesOn_89 Q v0 v2 S) (K : KV v0 S0 S) : P_X11_goesOn_89 (fun T => Q T ∧ KV v0 S0 T) v0 v2 S := h (fun w0 v2 S => w0 = v0 → KV v0 S0 S → P_X11_goesOn_89 (fun T => Q T ∧ KV v0 S0 T) w0 v2 S) (fun w0 v2 S hB e K => by
  subst e; exact fd_X11_goesOn_89 (kvB_X11_goesOn_89 hB K (fun _ _ _ hx e K => hx e K))) rfl K
set_option maxRecDepth 20000 in
set_option maxHeartbeats 1000000 in
theorem kv_X11_goesOn_220 {Q : HS → Prop} {X178 X178_2 : Nat → Int32 → HS → Prop} {v0 : Nat} {v2 : Int32} {S0 S : HS} (h : P_X11_goesOn_220 Q X178 v0 v2 S) (K : KV v0 S0 S) (hX178 : ∀ (u0 : Nat) (u1 : Int32) (u2 : HS), X178 u0 u1 u2 → u0 = v0 → KV v0 S0 u2 → X178_2 u0 u1 u2) : P_X11_goesOn_220 (fun T => Q T ∧ KV v0 S0 T) X178_2 v0 v2 S := by
  delta P_X11_goesOn_220 at h ⊢
  intro x2 e1
  have h := h x2 e1
  obtain ⟨c3, h⟩ := h
  refine ⟨c3, ?_⟩
  intro x5 e4
  have h := h x5 e4
  intro x7 e6
  have h := h x7 e6
  intro x9 e8
  have h := h x9 e8
  have K := kv_I K e8
  exact hX178 _ _ _ h rfl K
set_option maxRecDepth 20000 in
set_option maxHeartbeats 1000000 in
theorem kvB_X11_goesOn_178 {Q : HS → Prop} {X178 X178_2 : Nat → Int32 → HS → Prop} {v0 : Nat} {v2 : Int32} {S0 S : HS} (h : B_X11_goesOn_178 Q X178 v0 v2 S) (K : KV v0 S0 S) (hX178 : ∀ (u0 : Nat) (u1 : Int32) (u2 : HS), X178 u0 u1 u2 → u0 = v0 → KV v0 S0 u2 → X178_2 u0 u1 u2) : B_X11_goesOn_178 (fun T => Q T ∧ KV v0 S0 T) X178_2 v0 v2 S := by
  delta B_X11_goesOn_178 at h ⊢
  obtain ⟨c1, h⟩ := h
  refine ⟨c1, ?_⟩
  intro x3 e2
  have h := h x3 e2
  refine cm_X11_byteAt (kz_X11_byteAt h) h (fun x4 x5 p7 h g6 => ?_)
  have h := h g6
  have K := kv_Z K p7.2
  refine cm_X11_isDigit (kz_X11_isDigit h) h (fun x8 x9 p12 h g10 g11 => ?_)
  have h := h g10 g11
  have K := kv_Z K p12.2
  refine ⟨?_, ?_⟩
  · intro c13
    have h := h.1 c13
    refine ⟨?_, ?_⟩
    · intro c14
      have h := h.1 c14
      exact ⟨h, K⟩
    · intro c15
      have h := h.2 c15
      intro x17 e16
      have h := h x17 e16
      have K := kv_I K e16
      exact ⟨h, K⟩
  · intro c18
    have h := h.2 c18
    refine ⟨?_, ?_⟩
    · intro c19
      have h := h.1 c19
      exact kv_X11_goesOn_220 h K hX178
    · intro c20
      have h := h.2 c20
      intro x22 e21
      have h := h x22 e21
      intro x24 e23
      have h := h x24 e23
      refine cm_X11_byteAt (kz_X11_byteAt h) h (fun x25 x26 p28 h g27 => ?_)
      have h := h g27
      have K := kv_Z K p28.2
      intro x30 e29
      have h := h x30 e29
      intro x32 e31
      have h := h x32 e31
      have K := kv_I K e31
      exact kv_X11_goesOn_220 h K hX178
theorem kv_X11_goesOn_178 {Q : HS → Prop} {v0 : Nat} {v2 : Int32} {S0 S : HS} (h : P_X11_goesOn_178 Q v0 v2 S) (K : KV v0 S0 S) : P_X11_goesOn_178 (fun T => Q T ∧ KV v0 S0 T) v0 v2 S := h (fun w0 v2 S => w0 = v0 → KV v0 S0 S → P_X11_goesOn_178 (fun T => Q T ∧ KV v0 S0 T) w0 v2 S) (fun w0 v2 S hB e K => by
  subst e; exact fd_X11_goesOn_178 (kvB_X11_goesOn_178 hB K (fun _ _ _ hx e K => hx e K))) rfl K
set_option maxRecDepth 20000 in
set_option maxHeartbeats 1000000 in
theorem kv_X11_goesOn_261 {Q : HS → Prop} {v0 : Nat} {v1 : Int32} {S0 S : HS} (h : P_X11_goesOn_261 Q v0 v1 S) (K : KV v0 S0 S) : P_X11_goesOn_261 (fun T => Q T ∧ KV v0 S0 T) v0 v1 S := by
  delta P_X11_goesOn_261 at h ⊢
  obtain ⟨c1, h⟩ := h
  refine ⟨c1, ?_⟩
  intro x3 e2
  have h := h x3 e2
  have K := kv_I K e2
  intro x5 e4
  have h := h x5 e4
  have K := kv_I K e4
  intro x7 e6
  have h := h x7 e6
  intro x9 e8
  have h := h x9 e8
  intro x11 e10
  have h := h x11 e10
  have K := kv_I K e10
  exact ⟨h, K⟩
set_option maxRecDepth 20000 in
set_option maxHeartbeats 1000000 in
theorem kvB_X11_goesOn_9 {Q : HS → Prop} {X9 X9_2 : Nat → HS → Prop} {v0 : Nat} {S0 S : HS} (h : B_X11_goesOn_9 Q X9 v0 S) (K : KV v0 S0 S) (hX9 : ∀ (u0 : Nat) (u1 : HS), X9 u0 u1 → u0 = v0 → KV v0 S0 u1 → X9_2 u0 u1) : B_X11_goesOn_9 (fun T => Q T ∧ KV v0 S0 T) X9_2 v0 S := by
  delta B_X11_goesOn_9 at h ⊢
  obtain ⟨c1, h⟩ := h
  refine ⟨c1, ?_⟩
  intro x3 e2
  have h := h x3 e2
  refine cm_X11_byteAt (kz_X11_byteAt h) h (fun x4 x5 p7 h g6 => ?_)
  have h := h g6
  have K := kv_Z K p7.2
  refine ⟨?_, ?_⟩
  · intro c8
    have h := h.1 c8
    intro x10 e9
    have h := h x10 e9
    intro x12 e11
    have h := h x12 e11
    have K := kv_I K e11
    intro x14 e13
    have h := h x14 e13
    have K := kv_I K e13
    intro x16 e15
    have h := h x16 e15
    have K := kv_I K e15
    intro x18 e17
    have h := h x18 e17
    refine cm_X11_byteAt (kz_X11_byteAt h) h (fun x19 x20 p22 h g21 => ?_)
    have h := h g21
    have K := kv_Z K p22.2
    refine ⟨?_, ?_⟩
    · intro c23
      have h := h.1 c23
      refine cm_X11_isLetter (kz_X11_isLetter h) h (fun x24 x25 p28 h g26 g27 => ?_)
      have h := h g26 g27
      have K := kv_Z K p28.2
      refine ⟨?_, ?_⟩
      · intro c29
        have h := h.1 c29
        refine cm_X11_isDigit (kz_X11_isDigit h) h (fun x30 x31 p34 h g32 g33 => ?_)
        have h := h g32 g33
        have K := kv_Z K p34.2
        refine ⟨?_, ?_⟩
        · intro c35
          have h := h.1 c35
          refine ⟨?_, ?_⟩
          · intro c36
            have h := h.1 c36
            exact kv_X11_goesOn_261 h K
          · intro c37
            have h := h.2 c37
            refine ⟨?_, ?_⟩
            · intro c38
              have h := h.1 c38
              exact ⟨h, K⟩
            · intro c39
              have h := h.2 c39
              exact kv_X11_goesOn_261 h K
        · intro c40
          have h := h.2 c40
          intro x42 e41
          have h := h x42 e41
          have K := kv_I K e41
          exact kv_X11_goesOn_178 h K
      · intro c43
        have h := h.2 c43
        intro x45 e44
        have h := h x45 e44
        have K := kv_J K e44
        exact kv_X11_goesOn_89 h K
    · intro c46
      have h := h.2 c46
      intro x48 e47
      have h := h x48 e47
      have K := kv_I K e47
      exact ⟨h, K⟩
  · intro c49
    have h := h.2 c49
    intro x51 e50
    have h := h x51 e50
    intro x53 e52
    have h := h x53 e52
    intro x55 e54
    have h := h x55 e54
    have K := kv_I K e54
    exact hX9 _ _ h rfl K
theorem kv_X11_goesOn_9 {Q : HS → Prop} {v0 : Nat} {S0 S : HS} (h : P_X11_goesOn_9 Q v0 S) (K : KV v0 S0 S) : P_X11_goesOn_9 (fun T => Q T ∧ KV v0 S0 T) v0 S := h (fun w0 S => w0 = v0 → KV v0 S0 S → P_X11_goesOn_9 (fun T => Q T ∧ KV v0 S0 T) w0 S) (fun w0 S hB e K => by
  subst e; exact fd_X11_goesOn_9 (kvB_X11_goesOn_9 hB K (fun _ _ hx e K => hx e K))) rfl K
set_option maxRecDepth 20000 in
set_option maxHeartbeats 1000000 in
theorem kv_X11_goesOn_0 {Q : HS → Prop} {v0 : Nat} {S0 S : HS} (h : P_X11_goesOn_0 Q v0 S) (K : KV v0 S0 S) : P_X11_goesOn_0 (fun T => Q T ∧ KV v0 S0 T) v0 S := by
  delta P_X11_goesOn_0 at h ⊢
  obtain ⟨c1, h⟩ := h
  refine ⟨c1, ?_⟩
  intro x3 e2
  have h := h x3 e2
  refine ⟨?_, ?_⟩
  · intro c4
    have h := h.1 c4
    exact kv_X11_goesOn_9 h K
  · intro c5
    have h := h.2 c5
    exact ⟨h, K⟩
theorem kv_X11_goesOn {Q : HS → Prop} {v0 : Nat} {S : HS} (h : P_X11_goesOn v0 Q S) : P_X11_goesOn v0 (fun T => Q T ∧ KV v0 S T) S := kv_X11_goesOn_0 h (kv_rf _ S)
set_option maxRecDepth 20000 in
set_option maxHeartbeats 1000000 in
theorem kv_X11_begins_26 {Q : HS → Prop} {v0 : Nat} {S0 S : HS} (h : P_X11_begins_26 Q v0 S) (K : KV v0 S0 S) : P_X11_begins_26 (fun T => Q T ∧ KV v0 S0 T) v0 S := by
  delta P_X11_begins_26 at h ⊢
  obtain ⟨c1, h⟩ := h
  refine ⟨c1, ?_⟩
  refine cm_X11_goesOn (kv_X11_goesOn h) h (fun x2 p4 h g3 => ?_)
  have h := h g3
  have K := kv_tr K p4.2
  exact ⟨h, K⟩
set_option maxRecDepth 20000 in
set_option maxHeartbeats 1000000 in
theorem kv_X11_begins_10 {Q : HS → Prop} {v0 : Nat} {S0 S : HS} (h : P_X11_begins_10 Q v0 S) (K : KV v0 S0 S) : P_X11_begins_10 (fun T => Q T ∧ KV v0 S0 T) v0 S := by
  delta P_X11_begins_10 at h ⊢
  obtain ⟨c1, h⟩ := h
  refine ⟨c1, ?_⟩
  obtain ⟨b2, e3, h⟩ := h
  refine ⟨b2, e3, ?_⟩
  obtain ⟨c4, h⟩ := h
  refine ⟨c4, ?_⟩
  intro x6 e5
  have h := h x6 e5
  refine ⟨?_, ?_⟩
  · intro c7
    have h := h.1 c7
    exact kv_X11_begins_26 h K
  · intro c8
    have h := h.2 c8
    refine cm_X11_flaw (kv_X11_flaw h) h (fun x9 p11 h g10 => ?_)
    have h := h g10
    have K := kv_tr K p11.2
    exact kv_X11_begins_26 h K
set_option maxRecDepth 20000 in
set_option maxHeartbeats 1000000 in
theorem kv_X11_begins_0 {Q : HS → Prop} {v0 : Nat} {v1 : Int32} {v2 : Int32} {S0 S : HS} (h : P_X11_begins_0 Q v0 v1 v2 S) (K : KV v0 S0 S) : P_X11_begins_0 (fun T => Q T ∧ KV v0 S0 T) v0 v1 v2 S := by
  delta P_X11_begins_0 at h ⊢
  refine ⟨?_, ?_⟩
  · intro c1
    have h := h.1 c1
    exact kv_X11_begins_10 h K
  · intro c2
    have h := h.2 c2
    obtain ⟨c3, h⟩ := h
    refine ⟨c3, ?_⟩
    refine cm_X11_flaw (kv_X11_flaw h) h (fun x4 p6 h g5 => ?_)
    have h := h g5
    have K := kv_tr K p6.2
    exact kv_X11_begins_10 h K
theorem kv_X11_begins {Q : HS → Prop} {v0 : Nat} {v1 : Int32} {v2 : Int32} {S : HS} (h : P_X11_begins v0 v1 v2 Q S) : P_X11_begins v0 v1 v2 (fun T => Q T ∧ KV v0 S T) S := kv_X11_begins_0 h (kv_rf _ S)
set_option maxRecDepth 20000 in
set_option maxHeartbeats 1000000 in
theorem kv_X11_eatsSign_21 {Q : Int32 → HS → Prop} {v0 : Nat} {s0 : Int32} {S0 S : HS} (h : P_X11_eatsSign_21 Q v0 s0 S) (K : KV v0 S0 S) : P_X11_eatsSign_21 (fun r T => Q r T ∧ KV v0 S0 T) v0 s0 S := by
  delta P_X11_eatsSign_21 at h ⊢
  refine ⟨?_, ?_⟩
  · intro c1
    have h := h.1 c1
    obtain ⟨c2, h⟩ := h
    refine ⟨c2, ?_⟩
    exact ⟨h, K⟩
  · intro c3
    have h := h.2 c3
    obtain ⟨c4, h⟩ := h
    refine ⟨c4, ?_⟩
    refine cm_X11_goesOn (kv_X11_goesOn h) h (fun x5 p7 h g6 => ?_)
    have h := h g6
    have K := kv_tr K p7.2
    obtain ⟨c8, h⟩ := h
    refine ⟨c8, ?_⟩
    exact ⟨h, K⟩
set_option maxRecDepth 20000 in
set_option maxHeartbeats 1000000 in
theorem kv_X11_eatsSign_20 {Q : Int32 → HS → Prop} {v0 : Nat} {S0 S : HS} (h : P_X11_eatsSign_20 Q v0 S) (K : KV v0 S0 S) : P_X11_eatsSign_20 (fun r T => Q r T ∧ KV v0 S0 T) v0 S := by
  delta P_X11_eatsSign_20 at h ⊢
  exact kv_X11_eatsSign_21 h K
set_option maxRecDepth 20000 in
set_option maxHeartbeats 1000000 in
theorem kv_X11_eatsSign_0 {Q : Int32 → HS → Prop} {v0 : Nat} {v1 : Int32} {S0 S : HS} (h : P_X11_eatsSign_0 Q v0 v1 S) (K : KV v0 S0 S) : P_X11_eatsSign_0 (fun r T => Q r T ∧ KV v0 S0 T) v0 v1 S := by
  delta P_X11_eatsSign_0 at h ⊢
  obtain ⟨c1, h⟩ := h
  refine ⟨c1, ?_⟩
  intro x3 e2
  have h := h x3 e2
  refine ⟨?_, ?_⟩
  · intro c4
    have h := h.1 c4
    exact kv_X11_eatsSign_20 h K
  · intro c5
    have h := h.2 c5
    intro x7 e6
    have h := h x7 e6
    refine ⟨?_, ?_⟩
    · intro c8
      have h := h.1 c8
      exact kv_X11_eatsSign_20 h K
    · intro c9
      have h := h.2 c9
      exact kv_X11_eatsSign_21 h K
theorem kv_X11_eatsSign {Q : Int32 → HS → Prop} {v0 : Nat} {v1 : Int32} {S : HS} (h : P_X11_eatsSign v0 v1 Q S) : P_X11_eatsSign v0 v1 (fun r T => Q r T ∧ KV v0 S T) S := kv_X11_eatsSign_0 h (kv_rf _ S)
set_option maxRecDepth 20000 in
set_option maxHeartbeats 1000000 in
theorem kzB_X11_wordOf_4 {Q : Int64 → HS → Prop} {X4 X4_2 : Nat → Int64 → Int32 → HS → Prop} {v0 : Nat} {v1 : Int64} {v3 : Int32} {S0 S : HS} (h : B_X11_wordOf_4 Q X4 v0 v1 v3 S) (K : KZ S0 S) (hX4 : ∀ (u0 : Nat) (u1 : Int64) (u2 : Int32) (u3 : HS), X4 u0 u1 u2 u3 → KZ S0 u3 → X4_2 u0 u1 u2 u3) : B_X11_wordOf_4 (fun r T => Q r T ∧ KZ S0 T) X4_2 v0 v1 v3 S := by
  delta B_X11_wordOf_4 at h ⊢
  obtain ⟨c1, h⟩ := h
  refine ⟨c1, ?_⟩
  intro x3 e2
  have h := h x3 e2
  refine ⟨?_, ?_⟩
  · intro c4
    have h := h.1 c4
    exact ⟨h, K⟩
  · intro c5
    have h := h.2 c5
    obtain ⟨c6, h⟩ := h
    refine ⟨c6, ?_⟩
    obtain ⟨c7, h⟩ := h
    refine ⟨c7, ?_⟩
    intro x9 e8
    have h := h x9 e8
    intro x11 e10
    have h := h x11 e10
    intro x13 e12
    have h := h x13 e12
    exact hX4 _ _ _ _ h K
theorem kz_X11_wordOf_4 {Q : Int64 → HS → Prop} {v0 : Nat} {v1 : Int64} {v3 : Int32} {S0 S : HS} (h : P_X11_wordOf_4 Q v0 v1 v3 S) (K : KZ S0 S) : P_X11_wordOf_4 (fun r T => Q r T ∧ KZ S0 T) v0 v1 v3 S := h (fun w0 v1 v3 S => KZ S0 S → P_X11_wordOf_4 (fun r T => Q r T ∧ KZ S0 T) w0 v1 v3 S) (fun w0 v1 v3 S hB K => by
  exact fd_X11_wordOf_4 (kzB_X11_wordOf_4 hB K (fun _ _ _ _ hx K => hx K))) K
set_option maxRecDepth 20000 in
set_option maxHeartbeats 1000000 in
theorem kz_X11_wordOf_0 {Q : Int64 → HS → Prop} {v0 : Nat} {S0 S : HS} (h : P_X11_wordOf_0 Q v0 S) (K : KZ S0 S) : P_X11_wordOf_0 (fun r T => Q r T ∧ KZ S0 T) v0 S := by
  delta P_X11_wordOf_0 at h ⊢
  exact kz_X11_wordOf_4 h K
theorem kz_X11_wordOf {Q : Int64 → HS → Prop} {v0 : Nat} {S : HS} (h : P_X11_wordOf v0 Q S) : P_X11_wordOf v0 (fun r T => Q r T ∧ KZ S T) S := kz_X11_wordOf_0 h (kz_rf S)
set_option maxRecDepth 20000 in
set_option maxHeartbeats 1000000 in
theorem kz_X11_isWord_0 {Q : Int32 → HS → Prop} {v0 : Nat} {v1 : Nat} {S0 S : HS} (h : P_X11_isWord_0 Q v0 v1 S) (K : KZ S0 S) : P_X11_isWord_0 (fun r T => Q r T ∧ KZ S0 T) v0 v1 S := by
  delta P_X11_isWord_0 at h ⊢
  obtain ⟨c1, h⟩ := h
  refine ⟨c1, ?_⟩
  intro x3 e2
  have h := h x3 e2
  refine ⟨?_, ?_⟩
  · intro c4
    have h := h.1 c4
    exact ⟨h, K⟩
  · intro c5
    have h := h.2 c5
    intro x7 e6
    have h := h x7 e6
    refine cm_X11_wordOf (kz_X11_wordOf h) h (fun x8 x9 p11 h g10 => ?_)
    have h := h g10
    have K := kz_Z K p11.2
    refine ⟨?_, ?_⟩
    · intro c12
      have h := h.1 c12
      exact ⟨h, K⟩
    · intro c13
      have h := h.2 c13
      exact ⟨h, K⟩
theorem kz_X11_isWord {Q : Int32 → HS → Prop} {v0 : Nat} {v1 : Nat} {S : HS} (h : P_X11_isWord v0 v1 Q S) : P_X11_isWord v0 v1 (fun r T => Q r T ∧ KZ S T) S := kz_X11_isWord_0 h (kz_rf S)
set_option maxRecDepth 20000 in
set_option maxHeartbeats 1000000 in
theorem kv_X11_eatsWord_0 {Q : Int32 → HS → Prop} {v0 : Nat} {v1 : Nat} {S0 S : HS} (h : P_X11_eatsWord_0 Q v0 v1 S) (K : KV v0 S0 S) : P_X11_eatsWord_0 (fun r T => Q r T ∧ KV v0 S0 T) v0 v1 S := by
  delta P_X11_eatsWord_0 at h ⊢
  obtain ⟨c1, h⟩ := h
  refine ⟨c1, ?_⟩
  refine cm_X11_isWord (kz_X11_isWord h) h (fun x2 x3 p6 h g4 g5 => ?_)
  have h := h g4 g5
  have K := kv_Z K p6.2
  refine ⟨?_, ?_⟩
  · intro c7
    have h := h.1 c7
    obtain ⟨c8, h⟩ := h
    refine ⟨c8, ?_⟩
    exact ⟨h, K⟩
  · intro c9
    have h := h.2 c9
    refine cm_X11_goesOn (kv_X11_goesOn h) h (fun x10 p12 h g11 => ?_)
    have h := h g11
    have K := kv_tr K p12.2
    obtain ⟨c13, h⟩ := h
    refine ⟨c13, ?_⟩
    exact ⟨h, K⟩
theorem kv_X11_eatsWord {Q : Int32 → HS → Prop} {v0 : Nat} {v1 : Nat} {S : HS} (h : P_X11_eatsWord v0 v1 Q S) : P_X11_eatsWord v0 v1 (fun r T => Q r T ∧ KV v0 S T) S := kv_X11_eatsWord_0 h (kv_rf _ S)
set_option maxRecDepth 20000 in
set_option maxHeartbeats 1000000 in
theorem kz_X11_isName_0 {Q : Int32 → HS → Prop} {v0 : Nat} {S0 S : HS} (h : P_X11_isName_0 Q v0 S) (K : KZ S0 S) : P_X11_isName_0 (fun r T => Q r T ∧ KZ S0 T) v0 S := by
  delta P_X11_isName_0 at h ⊢
  obtain ⟨c1, h⟩ := h
  refine ⟨c1, ?_⟩
  intro x3 e2
  have h := h x3 e2
  refine ⟨?_, ?_⟩
  · intro c4
    have h := h.1 c4
    exact ⟨h, K⟩
  · intro c5
    have h := h.2 c5
    refine cm_X11_isWord (kz_X11_isWord h) h (fun x6 x7 p10 h g8 g9 => ?_)
    have h := h g8 g9
    have K := kz_Z K p10.2
    refine ⟨?_, ?_⟩
    · intro c11
      have h := h.1 c11
      exact ⟨h, K⟩
    · intro c12
      have h := h.2 c12
      refine cm_X11_isWord (kz_X11_isWord h) h (fun x13 x14 p17 h g15 g16 => ?_)
      have h := h g15 g16
      have K := kz_Z K p17.2
      refine ⟨?_, ?_⟩
      · intro c18
        have h := h.1 c18
        exact ⟨h, K⟩
      · intro c19
        have h := h.2 c19
        refine cm_X11_isWord (kz_X11_isWord h) h (fun x20 x21 p24 h g22 g23 => ?_)
        have h := h g22 g23
        have K := kz_Z K p24.2
        refine ⟨?_, ?_⟩
        · intro c25
          have h := h.1 c25
          exact ⟨h, K⟩
        · intro c26
          have h := h.2 c26
          refine cm_X11_isWord (kz_X11_isWord h) h (fun x27 x28 p31 h g29 g30 => ?_)
          have h := h g29 g30
          have K := kz_Z K p31.2
          refine ⟨?_, ?_⟩
          · intro c32
            have h := h.1 c32
            refine cm_X11_isWord (kz_X11_isWord h) h (fun x33 x34 p37 h g35 g36 => ?_)
            have h := h g35 g36
            have K := kz_Z K p37.2
            refine ⟨?_, ?_⟩
            · intro c38
              have h := h.1 c38
              exact ⟨h, K⟩
            · intro c39
              have h := h.2 c39
              refine cm_X11_isWord (kz_X11_isWord h) h (fun x40 x41 p44 h g42 g43 => ?_)
              have h := h g42 g43
              have K := kz_Z K p44.2
              refine ⟨?_, ?_⟩
              · intro c45
                have h := h.1 c45
                exact ⟨h, K⟩
              · intro c46
                have h := h.2 c46
                refine cm_X11_isWord (kz_X11_isWord h) h (fun x47 x48 p51 h g49 g50 => ?_)
                have h := h g49 g50
                have K := kz_Z K p51.2
                refine ⟨?_, ?_⟩
                · intro c52
                  have h := h.1 c52
                  exact ⟨h, K⟩
                · intro c53
                  have h := h.2 c53
                  refine cm_X11_isWord (kz_X11_isWord h) h (fun x54 x55 p58 h g56 g57 => ?_)
                  have h := h g56 g57
                  have K := kz_Z K p58.2
                  refine ⟨?_, ?_⟩
                  · intro c59
                    have h := h.1 c59
                    exact ⟨h, K⟩
                  · intro c60
                    have h := h.2 c60
                    refine cm_X11_isWord (kz_X11_isWord h) h (fun x61 x62 p65 h g63 g64 => ?_)
                    have h := h g63 g64
                    have K := kz_Z K p65.2
                    refine ⟨?_, ?_⟩
                    · intro c66
                      have h := h.1 c66
                      exact ⟨h, K⟩
                    · intro c67
                      have h := h.2 c67
                      exact ⟨h, K⟩
          · intro c68
            have h := h.2 c68
            exact ⟨h, K⟩
theorem kz_X11_isName {Q : Int32 → HS → Prop} {v0 : Nat} {S : HS} (h : P_X11_isName v0 Q S) : P_X11_isName v0 (fun r T => Q r T ∧ KZ S T) S := kz_X11_isName_0 h (kz_rf S)
set_option maxRecDepth 20000 in
set_option maxHeartbeats 1000000 in
theorem kv_X11_known_47 {Q : Int32 → HS → Prop} {v0 : Nat} {v2 : Int32} {S0 S : HS} (h : P_X11_known_47 Q v0 v2 S) (K : KV v0 S0 S) : P_X11_known_47 (fun r T => Q r T ∧ KV v0 S0 T) v0 v2 S := by
  delta P_X11_known_47 at h ⊢
  obtain ⟨c1, h⟩ := h
  refine ⟨c1, ?_⟩
  intro x3 e2
  have h := h x3 e2
  refine ⟨?_, ?_⟩
  · intro c4
    have h := h.1 c4
    obtain ⟨b5, e6, h⟩ := h
    refine ⟨b5, e6, ?_⟩
    obtain ⟨c7, h⟩ := h
    refine ⟨c7, ?_⟩
    obtain ⟨b8, e9, h⟩ := h
    refine ⟨b8, e9, ?_⟩
    obtain ⟨c10, h⟩ := h
    refine ⟨c10, ?_⟩
    obtain ⟨c11, h⟩ := h
    refine ⟨c11, ?_⟩
    intro x13 e12
    have h := h x13 e12
    exact ⟨h, K⟩
  · intro c14
    have h := h.2 c14
    exact ⟨h, K⟩
set_option maxRecDepth 20000 in
set_option maxHeartbeats 1000000 in
theorem kv_X11_known_42 {Q : Int32 → HS → Prop} {v0 : Nat} {v2 : Int32} {S0 S : HS} (h : P_X11_known_42 Q v0 v2 S) (K : KV v0 S0 S) : P_X11_known_42 (fun r T => Q r T ∧ KV v0 S0 T) v0 v2 S := by
  delta P_X11_known_42 at h ⊢
  obtain ⟨c1, h⟩ := h
  refine ⟨c1, ?_⟩
  refine cm_X11_flaw (kv_X11_flaw h) h (fun x2 p4 h g3 => ?_)
  have h := h g3
  have K := kv_tr K p4.2
  exact kv_X11_known_47 h K
set_option maxRecDepth 20000 in
set_option maxHeartbeats 1000000 in
theorem kv_X11_known_12 {Q : Int32 → HS → Prop} {v0 : Nat} {v1 : Int32} {S0 S : HS} (h : P_X11_known_12 Q v0 v1 S) (K : KV v0 S0 S) : P_X11_known_12 (fun r T => Q r T ∧ KV v0 S0 T) v0 v1 S := by
  delta P_X11_known_12 at h ⊢
  obtain ⟨c1, h⟩ := h
  refine ⟨c1, ?_⟩
  obtain ⟨b2, e3, h⟩ := h
  refine ⟨b2, e3, ?_⟩
  intro x5 e4
  have h := h x5 e4
  obtain ⟨c6, h⟩ := h
  refine ⟨c6, ?_⟩
  refine cm_X10_find (kz_X10_find h) h (fun x7 x8 p10 h g9 => ?_)
  have h := h g9
  have K := kv_Z K p10.2
  refine ⟨?_, ?_⟩
  · intro c11
    have h := h.1 c11
    exact kv_X11_known_42 h K
  · intro c12
    have h := h.2 c12
    obtain ⟨b13, e14, h⟩ := h
    refine ⟨b13, e14, ?_⟩
    obtain ⟨c15, h⟩ := h
    refine ⟨c15, ?_⟩
    obtain ⟨b16, e17, h⟩ := h
    refine ⟨b16, e17, ?_⟩
    obtain ⟨c18, h⟩ := h
    refine ⟨c18, ?_⟩
    obtain ⟨c19, h⟩ := h
    refine ⟨c19, ?_⟩
    intro x21 e20
    have h := h x21 e20
    refine ⟨?_, ?_⟩
    · intro c22
      have h := h.1 c22
      exact kv_X11_known_47 h K
    · intro c23
      have h := h.2 c23
      exact kv_X11_known_42 h K
set_option maxRecDepth 20000 in
set_option maxHeartbeats 1000000 in
theorem kv_X11_known_0 {Q : Int32 → HS → Prop} {v0 : Nat} {v1 : Int32} {S0 S : HS} (h : P_X11_known_0 Q v0 v1 S) (K : KV v0 S0 S) : P_X11_known_0 (fun r T => Q r T ∧ KV v0 S0 T) v0 v1 S := by
  delta P_X11_known_0 at h ⊢
  obtain ⟨c1, h⟩ := h
  refine ⟨c1, ?_⟩
  refine cm_X11_isName (kz_X11_isName h) h (fun x2 x3 p6 h g4 g5 => ?_)
  have h := h g4 g5
  have K := kv_Z K p6.2
  refine ⟨?_, ?_⟩
  · intro c7
    have h := h.1 c7
    exact kv_X11_known_12 h K
  · intro c8
    have h := h.2 c8
    refine cm_X11_flaw (kv_X11_flaw h) h (fun x9 p11 h g10 => ?_)
    have h := h g10
    have K := kv_tr K p11.2
    exact kv_X11_known_12 h K
theorem kv_X11_known {Q : Int32 → HS → Prop} {v0 : Nat} {v1 : Int32} {S : HS} (h : P_X11_known v0 v1 Q S) : P_X11_known v0 v1 (fun r T => Q r T ∧ KV v0 S T) S := kv_X11_known_0 h (kv_rf _ S)
set_option maxRecDepth 20000 in
set_option maxHeartbeats 1000000 in
theorem ko_X11_names_0 {Q : HS → Prop} {v0 : Nat} {v1 : Int64} {v3 : Int32} {v4 : Int32} {S0 S : HS} (h : P_X11_names_0 Q v0 v1 v3 v4 S) (K : KO_M v0 S0 S) : P_X11_names_0 (fun T => Q T ∧ KO_M v0 S0 T) v0 v1 v3 v4 S := by
  delta P_X11_names_0 at h ⊢
  obtain ⟨c1, h⟩ := h
  refine ⟨c1, ?_⟩
  obtain ⟨b2, e3, h⟩ := h
  refine ⟨b2, e3, ?_⟩
  have f4 := kom_f K e3
  obtain ⟨c5, h⟩ := h
  refine ⟨c5, ?_⟩
  obtain ⟨b6, e7, h⟩ := h
  refine ⟨b6, e7, ?_⟩
  have f8 := kom_f K e7
  obtain ⟨b9, e10, h⟩ := h
  refine ⟨b9, e10, ?_⟩
  have f11 := kom_f K e10
  obtain ⟨c12, h⟩ := h
  refine ⟨c12, ?_⟩
  intro x14 e13
  have h := h x14 e13
  obtain ⟨c15, h⟩ := h
  refine ⟨c15, ?_⟩
  obtain ⟨c16, h⟩ := h
  refine ⟨c16, ?_⟩
  intro x18 e17
  have h := h x18 e17
  have K := kom_J K e17
  obtain ⟨b19, e20, h⟩ := h
  refine ⟨b19, e20, ?_⟩
  have f21 := kom_f K e20
  obtain ⟨c22, h⟩ := h
  refine ⟨c22, ?_⟩
  obtain ⟨b23, e24, h⟩ := h
  refine ⟨b23, e24, ?_⟩
  have f25 := kom_f K e24
  obtain ⟨b26, e27, h⟩ := h
  refine ⟨b26, e27, ?_⟩
  have f28 := kom_f K e27
  obtain ⟨c29, h⟩ := h
  refine ⟨c29, ?_⟩
  intro x31 e30
  have h := h x31 e30
  obtain ⟨c32, h⟩ := h
  refine ⟨c32, ?_⟩
  obtain ⟨c33, h⟩ := h
  refine ⟨c33, ?_⟩
  intro x35 e34
  have h := h x35 e34
  have K := kom_I K e34 (owm_d f21 f25 (by decide))
  obtain ⟨b36, e37, h⟩ := h
  refine ⟨b36, e37, ?_⟩
  have f38 := kom_f K e37
  obtain ⟨c39, h⟩ := h
  refine ⟨c39, ?_⟩
  obtain ⟨b40, e41, h⟩ := h
  refine ⟨b40, e41, ?_⟩
  have f42 := kom_f K e41
  obtain ⟨b43, e44, h⟩ := h
  refine ⟨b43, e44, ?_⟩
  have f45 := kom_f K e44
  obtain ⟨c46, h⟩ := h
  refine ⟨c46, ?_⟩
  intro x48 e47
  have h := h x48 e47
  obtain ⟨c49, h⟩ := h
  refine ⟨c49, ?_⟩
  obtain ⟨c50, h⟩ := h
  refine ⟨c50, ?_⟩
  intro x52 e51
  have h := h x52 e51
  have K := kom_I K e51 (owm_d f38 f42 (by decide))
  obtain ⟨b53, e54, h⟩ := h
  refine ⟨b53, e54, ?_⟩
  have f55 := kom_f K e54
  obtain ⟨c56, h⟩ := h
  refine ⟨c56, ?_⟩
  intro x58 e57
  have h := h x58 e57
  intro x60 e59
  have h := h x60 e59
  intro x62 e61
  have h := h x62 e61
  have K := kom_I K e61 (owm_w f55)
  exact ⟨h, K⟩
theorem ko_X11_names {Q : HS → Prop} {v0 : Nat} {v1 : Int64} {v3 : Int32} {v4 : Int32} {S : HS} (h : P_X11_names v0 v1 v3 v4 Q S) : P_X11_names v0 v1 v3 v4 (fun T => Q T ∧ KO_M v0 S T) S := ko_X11_names_0 h (kom_rf _ S)
set_option maxRecDepth 20000 in
set_option maxHeartbeats 1000000 in
theorem kv_X11_needs_13 {Q : HS → Prop} {v0 : Nat} {S0 S : HS} (h : P_X11_needs_13 Q v0 S) (K : KV v0 S0 S) : P_X11_needs_13 (fun T => Q T ∧ KV v0 S0 T) v0 S := by
  delta P_X11_needs_13 at h ⊢
  obtain ⟨c1, h⟩ := h
  refine ⟨c1, ?_⟩
  refine cm_X11_goesOn (kv_X11_goesOn h) h (fun x2 p4 h g3 => ?_)
  have h := h g3
  have K := kv_tr K p4.2
  exact ⟨h, K⟩
set_option maxRecDepth 20000 in
set_option maxHeartbeats 1000000 in
theorem kv_X11_needs_0 {Q : HS → Prop} {v0 : Nat} {v1 : Nat} {S0 S : HS} (h : P_X11_needs_0 Q v0 v1 S) (K : KV v0 S0 S) : P_X11_needs_0 (fun T => Q T ∧ KV v0 S0 T) v0 v1 S := by
  delta P_X11_needs_0 at h ⊢
  obtain ⟨c1, h⟩ := h
  refine ⟨c1, ?_⟩
  refine cm_X11_isWord (kz_X11_isWord h) h (fun x2 x3 p6 h g4 g5 => ?_)
  have h := h g4 g5
  have K := kv_Z K p6.2
  refine ⟨?_, ?_⟩
  · intro c7
    have h := h.1 c7
    exact kv_X11_needs_13 h K
  · intro c8
    have h := h.2 c8
    refine cm_X11_flaw (kv_X11_flaw h) h (fun x9 p11 h g10 => ?_)
    have h := h g10
    have K := kv_tr K p11.2
    exact kv_X11_needs_13 h K
theorem kv_X11_needs {Q : HS → Prop} {v0 : Nat} {v1 : Nat} {S : HS} (h : P_X11_needs v0 v1 Q S) : P_X11_needs v0 v1 (fun T => Q T ∧ KV v0 S T) S := kv_X11_needs_0 h (kv_rf _ S)
set_option maxRecDepth 20000 in
set_option maxHeartbeats 1000000 in
theorem kv_X11_readFresh_32 {Q : Int64 → HS → Prop} {v0 : Nat} {S0 S : HS} (h : P_X11_readFresh_32 Q v0 S) (K : KV v0 S0 S) : P_X11_readFresh_32 (fun r T => Q r T ∧ KV v0 S0 T) v0 S := by
  delta P_X11_readFresh_32 at h ⊢
  obtain ⟨c1, h⟩ := h
  refine ⟨c1, ?_⟩
  intro x3 e2
  have h := h x3 e2
  refine cm_X11_goesOn (kv_X11_goesOn h) h (fun x4 p6 h g5 => ?_)
  have h := h g5
  have K := kv_tr K p6.2
  exact ⟨h, K⟩
set_option maxRecDepth 20000 in
set_option maxHeartbeats 1000000 in
theorem kv_X11_readFresh_12 {Q : Int64 → HS → Prop} {v0 : Nat} {S0 S : HS} (h : P_X11_readFresh_12 Q v0 S) (K : KV v0 S0 S) : P_X11_readFresh_12 (fun r T => Q r T ∧ KV v0 S0 T) v0 S := by
  delta P_X11_readFresh_12 at h ⊢
  obtain ⟨c1, h⟩ := h
  refine ⟨c1, ?_⟩
  obtain ⟨b2, e3, h⟩ := h
  refine ⟨b2, e3, ?_⟩
  intro x5 e4
  have h := h x5 e4
  obtain ⟨c6, h⟩ := h
  refine ⟨c6, ?_⟩
  refine cm_X10_find (kz_X10_find h) h (fun x7 x8 p10 h g9 => ?_)
  have h := h g9
  have K := kv_Z K p10.2
  refine ⟨?_, ?_⟩
  · intro c11
    have h := h.1 c11
    exact kv_X11_readFresh_32 h K
  · intro c12
    have h := h.2 c12
    refine cm_X11_flaw (kv_X11_flaw h) h (fun x13 p15 h g14 => ?_)
    have h := h g14
    have K := kv_tr K p15.2
    exact kv_X11_readFresh_32 h K
set_option maxRecDepth 20000 in
set_option maxHeartbeats 1000000 in
theorem kv_X11_readFresh_0 {Q : Int64 → HS → Prop} {v0 : Nat} {S0 S : HS} (h : P_X11_readFresh_0 Q v0 S) (K : KV v0 S0 S) : P_X11_readFresh_0 (fun r T => Q r T ∧ KV v0 S0 T) v0 S := by
  delta P_X11_readFresh_0 at h ⊢
  obtain ⟨c1, h⟩ := h
  refine ⟨c1, ?_⟩
  refine cm_X11_isName (kz_X11_isName h) h (fun x2 x3 p6 h g4 g5 => ?_)
  have h := h g4 g5
  have K := kv_Z K p6.2
  refine ⟨?_, ?_⟩
  · intro c7
    have h := h.1 c7
    exact kv_X11_readFresh_12 h K
  · intro c8
    have h := h.2 c8
    refine cm_X11_flaw (kv_X11_flaw h) h (fun x9 p11 h g10 => ?_)
    have h := h g10
    have K := kv_tr K p11.2
    exact kv_X11_readFresh_12 h K
theorem kv_X11_readFresh {Q : Int64 → HS → Prop} {v0 : Nat} {S : HS} (h : P_X11_readFresh v0 Q S) : P_X11_readFresh v0 (fun r T => Q r T ∧ KV v0 S T) S := kv_X11_readFresh_0 h (kv_rf _ S)
set_option maxRecDepth 20000 in
set_option maxHeartbeats 1000000 in
theorem kv_X11_readWhole_49 {Q : Int32 → HS → Prop} {v0 : Nat} {s0 : Int32} {S0 S : HS} (h : P_X11_readWhole_49 Q v0 s0 S) (K : KV v0 S0 S) : P_X11_readWhole_49 (fun r T => Q r T ∧ KV v0 S0 T) v0 s0 S := by
  delta P_X11_readWhole_49 at h ⊢
  obtain ⟨c1, h⟩ := h
  refine ⟨c1, ?_⟩
  refine cm_X11_goesOn (kv_X11_goesOn h) h (fun x2 p4 h g3 => ?_)
  have h := h g3
  have K := kv_tr K p4.2
  exact ⟨h, K⟩
set_option maxRecDepth 20000 in
set_option maxHeartbeats 1000000 in
theorem kv_X11_readWhole_33 {Q : Int32 → HS → Prop} {v0 : Nat} {v1 : Int32} {S0 S : HS} (h : P_X11_readWhole_33 Q v0 v1 S) (K : KV v0 S0 S) : P_X11_readWhole_33 (fun r T => Q r T ∧ KV v0 S0 T) v0 v1 S := by
  delta P_X11_readWhole_33 at h ⊢
  obtain ⟨c1, h⟩ := h
  refine ⟨c1, ?_⟩
  intro x3 e2
  have h := h x3 e2
  refine ⟨?_, ?_⟩
  · intro c4
    have h := h.1 c4
    intro x6 e5
    have h := h x6 e5
    exact kv_X11_readWhole_49 h K
  · intro c7
    have h := h.2 c7
    exact kv_X11_readWhole_49 h K
set_option maxRecDepth 20000 in
set_option maxHeartbeats 1000000 in
theorem kv_X11_readWhole_0 {Q : Int32 → HS → Prop} {v0 : Nat} {v1 : Int32} {v2 : Int32} {S0 S : HS} (h : P_X11_readWhole_0 Q v0 v1 v2 S) (K : KV v0 S0 S) : P_X11_readWhole_0 (fun r T => Q r T ∧ KV v0 S0 T) v0 v1 v2 S := by
  delta P_X11_readWhole_0 at h ⊢
  obtain ⟨c1, h⟩ := h
  refine ⟨c1, ?_⟩
  intro x3 e2
  have h := h x3 e2
  refine ⟨?_, ?_⟩
  · intro c4
    have h := h.1 c4
    intro x6 e5
    have h := h x6 e5
    refine cm_X11_in (kz_X11_in h) h (fun x7 x8 p11 h g9 g10 => ?_)
    have h := h g9 g10
    have K := kv_Z K p11.2
    refine ⟨?_, ?_⟩
    · intro c12
      have h := h.1 c12
      exact kv_X11_readWhole_33 h K
    · intro c13
      have h := h.2 c13
      refine cm_X11_flaw (kv_X11_flaw h) h (fun x14 p16 h g15 => ?_)
      have h := h g15
      have K := kv_tr K p16.2
      exact kv_X11_readWhole_33 h K
  · intro c17
    have h := h.2 c17
    refine cm_X11_flaw (kv_X11_flaw h) h (fun x18 p20 h g19 => ?_)
    have h := h g19
    have K := kv_tr K p20.2
    exact kv_X11_readWhole_33 h K
theorem kv_X11_readWhole {Q : Int32 → HS → Prop} {v0 : Nat} {v1 : Int32} {v2 : Int32} {S : HS} (h : P_X11_readWhole v0 v1 v2 Q S) : P_X11_readWhole v0 v1 v2 (fun r T => Q r T ∧ KV v0 S T) S := kv_X11_readWhole_0 h (kv_rf _ S)
set_option maxRecDepth 20000 in
set_option maxHeartbeats 1000000 in
theorem ko_X11_readPlace_50 {Q : HS → Prop} {v0 : Nat} {v1 : Int64} {v3 : Int32} {s0 : Int32} {S0 S : HS} (h : P_X11_readPlace_50 Q v0 v1 v3 s0 S) (K : KO_M v0 S0 S) : P_X11_readPlace_50 (fun T => Q T ∧ KO_M v0 S0 T) v0 v1 v3 s0 S := by
  delta P_X11_readPlace_50 at h ⊢
  obtain ⟨c1, h⟩ := h
  refine ⟨c1, ?_⟩
  intro x3 e2
  have h := h x3 e2
  refine ⟨?_, ?_⟩
  · intro c4
    have h := h.1 c4
    obtain ⟨b5, e6, h⟩ := h
    refine ⟨b5, e6, ?_⟩
    have f7 := kom_f K e6
    obtain ⟨c8, h⟩ := h
    refine ⟨c8, ?_⟩
    intro x10 e9
    have h := h x10 e9
    refine cm_X11_names (ko_X11_names h) h (fun x11 p13 h g12 => ?_)
    have h := h g12
    have K := kom_tr K p13.2
    obtain ⟨b14, e15, h⟩ := h
    refine ⟨b14, e15, ?_⟩
    have f16 := kom_f K e15
    obtain ⟨c17, h⟩ := h
    refine ⟨c17, ?_⟩
    obtain ⟨b18, e19, h⟩ := h
    refine ⟨b18, e19, ?_⟩
    have f20 := kom_f K e19
    obtain ⟨b21, e22, h⟩ := h
    refine ⟨b21, e22, ?_⟩
    have f23 := kom_f K e22
    obtain ⟨c24, h⟩ := h
    refine ⟨c24, ?_⟩
    intro x26 e25
    have h := h x26 e25
    obtain ⟨c27, h⟩ := h
    refine ⟨c27, ?_⟩
    obtain ⟨c28, h⟩ := h
    refine ⟨c28, ?_⟩
    intro x30 e29
    have h := h x30 e29
    have K := kom_I K e29 (owm_d f16 f20 (by decide))
    obtain ⟨b31, e32, h⟩ := h
    refine ⟨b31, e32, ?_⟩
    have f33 := kom_f K e32
    obtain ⟨c34, h⟩ := h
    refine ⟨c34, ?_⟩
    obtain ⟨b35, e36, h⟩ := h
    refine ⟨b35, e36, ?_⟩
    have f37 := kom_f K e36
    obtain ⟨b38, e39, h⟩ := h
    refine ⟨b38, e39, ?_⟩
    have f40 := kom_f K e39
    obtain ⟨c41, h⟩ := h
    refine ⟨c41, ?_⟩
    intro x43 e42
    have h := h x43 e42
    obtain ⟨c44, h⟩ := h
    refine ⟨c44, ?_⟩
    obtain ⟨c45, h⟩ := h
    refine ⟨c45, ?_⟩
    intro x47 e46
    have h := h x47 e46
    have K := kom_I K e46 (owm_d f33 f37 (by decide))
    obtain ⟨b48, e49, h⟩ := h
    refine ⟨b48, e49, ?_⟩
    have f50 := kom_f K e49
    obtain ⟨c51, h⟩ := h
    refine ⟨c51, ?_⟩
    intro x53 e52
    have h := h x53 e52
    intro x55 e54
    have h := h x55 e54
    intro x57 e56
    have h := h x57 e56
    have K := kom_I K e56 (owm_w f50)
    exact ⟨h, K⟩
  · intro c58
    have h := h.2 c58
    exact ⟨h, K⟩
set_option maxRecDepth 20000 in
set_option maxHeartbeats 1000000 in
theorem ko_X11_readPlace_48 {Q : HS → Prop} {v0 : Nat} {v1 : Int64} {v3 : Int32} {S0 S : HS} (h : P_X11_readPlace_48 Q v0 v1 v3 S) (K : KO_M v0 S0 S) : P_X11_readPlace_48 (fun T => Q T ∧ KO_M v0 S0 T) v0 v1 v3 S := by
  delta P_X11_readPlace_48 at h ⊢
  exact ko_X11_readPlace_50 h K
set_option maxRecDepth 20000 in
set_option maxHeartbeats 1000000 in
theorem ko_X11_readPlace_0 {Q : HS → Prop} {v0 : Nat} {S0 S : HS} (h : P_X11_readPlace_0 Q v0 S) (K : KO_M v0 S0 S) : P_X11_readPlace_0 (fun T => Q T ∧ KO_M v0 S0 T) v0 S := by
  delta P_X11_readPlace_0 at h ⊢
  obtain ⟨c1, h⟩ := h
  refine ⟨c1, ?_⟩
  obtain ⟨b2, e3, h⟩ := h
  refine ⟨b2, e3, ?_⟩
  have f4 := kom_f K e3
  obtain ⟨c5, h⟩ := h
  refine ⟨c5, ?_⟩
  intro x7 e6
  have h := h x7 e6
  refine cm_X11_begins (kv_X11_begins h) h (fun x8 p10 h g9 => ?_)
  have h := h g9
  have K := kom_V K p10.2 owm_r
  refine cm_X11_readFresh (kv_X11_readFresh h) h (fun x11 x12 p14 h g13 => ?_)
  have h := h g13
  have K := kom_V K p14.2 owm_r
  refine cm_X11_eatsWord (kv_X11_eatsWord h) h (fun x15 x16 p19 h g17 g18 => ?_)
  have h := h g17 g18
  have K := kom_V K p19.2 owm_r
  refine ⟨?_, ?_⟩
  · intro c20
    have h := h.1 c20
    exact ko_X11_readPlace_48 h K
  · intro c21
    have h := h.2 c21
    refine cm_X11_eatsWord (kv_X11_eatsWord h) h (fun x22 x23 p26 h g24 g25 => ?_)
    have h := h g24 g25
    have K := kom_V K p26.2 owm_r
    refine ⟨?_, ?_⟩
    · intro c27
      have h := h.1 c27
      exact ko_X11_readPlace_48 h K
    · intro c28
      have h := h.2 c28
      refine cm_X11_readWhole (kv_X11_readWhole h) h (fun x29 x30 p32 h g31 => ?_)
      have h := h g31
      have K := kom_V K p32.2 owm_r
      exact ko_X11_readPlace_50 h K
theorem ko_X11_readPlace {Q : HS → Prop} {v0 : Nat} {S : HS} (h : P_X11_readPlace v0 Q S) : P_X11_readPlace v0 (fun T => Q T ∧ KO_M v0 S T) S := ko_X11_readPlace_0 h (kom_rf _ S)
set_option maxRecDepth 20000 in
set_option maxHeartbeats 1000000 in
theorem kv_X11_readPart_0 {Q : Int32 → HS → Prop} {v0 : Nat} {v1 : Nat} {v2 : Int32} {v3 : Int32} {S0 S : HS} (h : P_X11_readPart_0 Q v0 v1 v2 v3 S) (K : KV v0 S0 S) : P_X11_readPart_0 (fun r T => Q r T ∧ KV v0 S0 T) v0 v1 v2 v3 S := by
  delta P_X11_readPart_0 at h ⊢
  obtain ⟨c1, h⟩ := h
  refine ⟨c1, ?_⟩
  refine cm_X11_needs (kv_X11_needs h) h (fun x2 p4 h g3 => ?_)
  have h := h g3
  have K := kv_tr K p4.2
  refine cm_X11_readWhole (kv_X11_readWhole h) h (fun x5 x6 p8 h g7 => ?_)
  have h := h g7
  have K := kv_tr K p8.2
  exact ⟨h, K⟩
theorem kv_X11_readPart {Q : Int32 → HS → Prop} {v0 : Nat} {v1 : Nat} {v2 : Int32} {v3 : Int32} {S : HS} (h : P_X11_readPart v0 v1 v2 v3 Q S) : P_X11_readPart v0 v1 v2 v3 (fun r T => Q r T ∧ KV v0 S T) S := kv_X11_readPart_0 h (kv_rf _ S)
set_option maxRecDepth 20000 in
set_option maxHeartbeats 1000000 in
theorem kv_X11_readSide_64 {Q : Int32 → HS → Prop} {v0 : Nat} {v1 : Int32} {S0 S : HS} (h : P_X11_readSide_64 Q v0 v1 S) (K : KV v0 S0 S) : P_X11_readSide_64 (fun r T => Q r T ∧ KV v0 S0 T) v0 v1 S := by
  delta P_X11_readSide_64 at h ⊢
  obtain ⟨c1, h⟩ := h
  refine ⟨c1, ?_⟩
  refine cm_X11_goesOn (kv_X11_goesOn h) h (fun x2 p4 h g3 => ?_)
  have h := h g3
  have K := kv_tr K p4.2
  exact ⟨h, K⟩
set_option maxRecDepth 20000 in
set_option maxHeartbeats 1000000 in
theorem kv_X11_readSide_53 {Q : Int32 → HS → Prop} {v0 : Nat} {s0 : Int32} {S0 S : HS} (h : P_X11_readSide_53 Q v0 s0 S) (K : KV v0 S0 S) : P_X11_readSide_53 (fun r T => Q r T ∧ KV v0 S0 T) v0 s0 S := by
  delta P_X11_readSide_53 at h ⊢
  refine ⟨?_, ?_⟩
  · intro c1
    have h := h.1 c1
    exact kv_X11_readSide_64 h K
  · intro c2
    have h := h.2 c2
    obtain ⟨c3, h⟩ := h
    refine ⟨c3, ?_⟩
    refine cm_X11_flaw (kv_X11_flaw h) h (fun x4 p6 h g5 => ?_)
    have h := h g5
    have K := kv_tr K p6.2
    exact kv_X11_readSide_64 h K
set_option maxRecDepth 20000 in
set_option maxHeartbeats 1000000 in
theorem kv_X11_readSide_0 {Q : Int32 → HS → Prop} {v0 : Nat} {S0 S : HS} (h : P_X11_readSide_0 Q v0 S) (K : KV v0 S0 S) : P_X11_readSide_0 (fun r T => Q r T ∧ KV v0 S0 T) v0 S := by
  delta P_X11_readSide_0 at h ⊢
  obtain ⟨c1, h⟩ := h
  refine ⟨c1, ?_⟩
  refine cm_X11_isWord (kz_X11_isWord h) h (fun x2 x3 p6 h g4 g5 => ?_)
  have h := h g4 g5
  have K := kv_Z K p6.2
  refine ⟨?_, ?_⟩
  · intro c7
    have h := h.1 c7
    refine cm_X11_isWord (kz_X11_isWord h) h (fun x8 x9 p12 h g10 g11 => ?_)
    have h := h g10 g11
    have K := kv_Z K p12.2
    refine ⟨?_, ?_⟩
    · intro c13
      have h := h.1 c13
      refine cm_X11_isWord (kz_X11_isWord h) h (fun x14 x15 p18 h g16 g17 => ?_)
      have h := h g16 g17
      have K := kv_Z K p18.2
      refine ⟨?_, ?_⟩
      · intro c19
        have h := h.1 c19
        refine cm_X11_isWord (kz_X11_isWord h) h (fun x20 x21 p24 h g22 g23 => ?_)
        have h := h g22 g23
        have K := kv_Z K p24.2
        refine ⟨?_, ?_⟩
        · intro c25
          have h := h.1 c25
          exact kv_X11_readSide_53 h K
        · intro c26
          have h := h.2 c26
          exact kv_X11_readSide_53 h K
      · intro c27
        have h := h.2 c27
        exact kv_X11_readSide_53 h K
    · intro c28
      have h := h.2 c28
      exact kv_X11_readSide_53 h K
  · intro c29
    have h := h.2 c29
    exact kv_X11_readSide_53 h K
theorem kv_X11_readSide {Q : Int32 → HS → Prop} {v0 : Nat} {S : HS} (h : P_X11_readSide v0 Q S) : P_X11_readSide v0 (fun r T => Q r T ∧ KV v0 S T) S := kv_X11_readSide_0 h (kv_rf _ S)
set_option maxRecDepth 20000 in
set_option maxHeartbeats 1000000 in
theorem ko_X11_readRain_0 {Q : HS → Prop} {v0 : Nat} {S0 S : HS} (h : P_X11_readRain_0 Q v0 S) (K : KO_M v0 S0 S) : P_X11_readRain_0 (fun T => Q T ∧ KO_M v0 S0 T) v0 S := by
  delta P_X11_readRain_0 at h ⊢
  obtain ⟨c1, h⟩ := h
  refine ⟨c1, ?_⟩
  obtain ⟨b2, e3, h⟩ := h
  refine ⟨b2, e3, ?_⟩
  have f4 := kom_f K e3
  obtain ⟨c5, h⟩ := h
  refine ⟨c5, ?_⟩
  intro x7 e6
  have h := h x7 e6
  refine cm_X11_begins (kv_X11_begins h) h (fun x8 p10 h g9 => ?_)
  have h := h g9
  have K := kom_V K p10.2 owm_r
  refine cm_X11_readPart (kv_X11_readPart h) h (fun x11 x12 p14 h g13 => ?_)
  have h := h g13
  have K := kom_V K p14.2 owm_r
  refine cm_X11_readPart (kv_X11_readPart h) h (fun x15 x16 p18 h g17 => ?_)
  have h := h g17
  have K := kom_V K p18.2 owm_r
  refine cm_X11_needs (kv_X11_needs h) h (fun x19 p21 h g20 => ?_)
  have h := h g20
  have K := kom_V K p21.2 owm_r
  refine cm_X11_readSide (kv_X11_readSide h) h (fun x22 x23 p25 h g24 => ?_)
  have h := h g24
  have K := kom_V K p25.2 owm_r
  refine cm_X11_readWhole (kv_X11_readWhole h) h (fun x26 x27 p29 h g28 => ?_)
  have h := h g28
  have K := kom_V K p29.2 owm_r
  refine cm_X11_readPart (kv_X11_readPart h) h (fun x30 x31 p33 h g32 => ?_)
  have h := h g32
  have K := kom_V K p33.2 owm_r
  intro x35 e34
  have h := h x35 e34
  refine ⟨?_, ?_⟩
  · intro c36
    have h := h.1 c36
    obtain ⟨b37, e38, h⟩ := h
    refine ⟨b37, e38, ?_⟩
    have f39 := kom_f K e38
    obtain ⟨c40, h⟩ := h
    refine ⟨c40, ?_⟩
    obtain ⟨b41, e42, h⟩ := h
    refine ⟨b41, e42, ?_⟩
    have f43 := kom_f K e42
    obtain ⟨b44, e45, h⟩ := h
    refine ⟨b44, e45, ?_⟩
    have f46 := kom_f K e45
    obtain ⟨c47, h⟩ := h
    refine ⟨c47, ?_⟩
    intro x49 e48
    have h := h x49 e48
    obtain ⟨c50, h⟩ := h
    refine ⟨c50, ?_⟩
    obtain ⟨c51, h⟩ := h
    refine ⟨c51, ?_⟩
    intro x53 e52
    have h := h x53 e52
    have K := kom_I K e52 (owm_d f39 f43 (by decide))
    obtain ⟨b54, e55, h⟩ := h
    refine ⟨b54, e55, ?_⟩
    have f56 := kom_f K e55
    obtain ⟨c57, h⟩ := h
    refine ⟨c57, ?_⟩
    obtain ⟨b58, e59, h⟩ := h
    refine ⟨b58, e59, ?_⟩
    have f60 := kom_f K e59
    obtain ⟨b61, e62, h⟩ := h
    refine ⟨b61, e62, ?_⟩
    have f63 := kom_f K e62
    obtain ⟨c64, h⟩ := h
    refine ⟨c64, ?_⟩
    intro x66 e65
    have h := h x66 e65
    obtain ⟨c67, h⟩ := h
    refine ⟨c67, ?_⟩
    obtain ⟨c68, h⟩ := h
    refine ⟨c68, ?_⟩
    intro x70 e69
    have h := h x70 e69
    have K := kom_I K e69 (owm_d f56 f60 (by decide))
    obtain ⟨b71, e72, h⟩ := h
    refine ⟨b71, e72, ?_⟩
    have f73 := kom_f K e72
    obtain ⟨c74, h⟩ := h
    refine ⟨c74, ?_⟩
    obtain ⟨b75, e76, h⟩ := h
    refine ⟨b75, e76, ?_⟩
    have f77 := kom_f K e76
    obtain ⟨b78, e79, h⟩ := h
    refine ⟨b78, e79, ?_⟩
    have f80 := kom_f K e79
    obtain ⟨c81, h⟩ := h
    refine ⟨c81, ?_⟩
    intro x83 e82
    have h := h x83 e82
    obtain ⟨c84, h⟩ := h
    refine ⟨c84, ?_⟩
    obtain ⟨c85, h⟩ := h
    refine ⟨c85, ?_⟩
    intro x87 e86
    have h := h x87 e86
    have K := kom_I K e86 (owm_d f73 f77 (by decide))
    obtain ⟨b88, e89, h⟩ := h
    refine ⟨b88, e89, ?_⟩
    have f90 := kom_f K e89
    obtain ⟨c91, h⟩ := h
    refine ⟨c91, ?_⟩
    obtain ⟨b92, e93, h⟩ := h
    refine ⟨b92, e93, ?_⟩
    have f94 := kom_f K e93
    obtain ⟨b95, e96, h⟩ := h
    refine ⟨b95, e96, ?_⟩
    have f97 := kom_f K e96
    obtain ⟨c98, h⟩ := h
    refine ⟨c98, ?_⟩
    intro x100 e99
    have h := h x100 e99
    obtain ⟨c101, h⟩ := h
    refine ⟨c101, ?_⟩
    obtain ⟨c102, h⟩ := h
    refine ⟨c102, ?_⟩
    intro x104 e103
    have h := h x104 e103
    have K := kom_I K e103 (owm_d f90 f94 (by decide))
    obtain ⟨b105, e106, h⟩ := h
    refine ⟨b105, e106, ?_⟩
    have f107 := kom_f K e106
    obtain ⟨c108, h⟩ := h
    refine ⟨c108, ?_⟩
    obtain ⟨b109, e110, h⟩ := h
    refine ⟨b109, e110, ?_⟩
    have f111 := kom_f K e110
    obtain ⟨b112, e113, h⟩ := h
    refine ⟨b112, e113, ?_⟩
    have f114 := kom_f K e113
    obtain ⟨c115, h⟩ := h
    refine ⟨c115, ?_⟩
    intro x117 e116
    have h := h x117 e116
    obtain ⟨c118, h⟩ := h
    refine ⟨c118, ?_⟩
    obtain ⟨c119, h⟩ := h
    refine ⟨c119, ?_⟩
    intro x121 e120
    have h := h x121 e120
    have K := kom_I K e120 (owm_d f107 f111 (by decide))
    obtain ⟨b122, e123, h⟩ := h
    refine ⟨b122, e123, ?_⟩
    have f124 := kom_f K e123
    obtain ⟨c125, h⟩ := h
    refine ⟨c125, ?_⟩
    intro x127 e126
    have h := h x127 e126
    intro x129 e128
    have h := h x129 e128
    intro x131 e130
    have h := h x131 e130
    have K := kom_I K e130 (owm_w f124)
    exact ⟨h, K⟩
  · intro c132
    have h := h.2 c132
    exact ⟨h, K⟩
theorem ko_X11_readRain {Q : HS → Prop} {v0 : Nat} {S : HS} (h : P_X11_readRain v0 Q S) : P_X11_readRain v0 (fun T => Q T ∧ KO_M v0 S T) S := ko_X11_readRain_0 h (kom_rf _ S)
set_option maxRecDepth 20000 in
set_option maxHeartbeats 1000000 in
theorem ko_X11_readRoad_85 {Q : HS → Prop} {v0 : Nat} {v1 : Int32} {v2 : Int32} {v3 : Int32} {v4 : Int32} {s0 : Int32} {S0 S : HS} (h : P_X11_readRoad_85 Q v0 v1 v2 v3 v4 s0 S) (K : KO_M v0 S0 S) : P_X11_readRoad_85 (fun T => Q T ∧ KO_M v0 S0 T) v0 v1 v2 v3 v4 s0 S := by
  delta P_X11_readRoad_85 at h ⊢
  obtain ⟨c1, h⟩ := h
  refine ⟨c1, ?_⟩
  intro x3 e2
  have h := h x3 e2
  refine ⟨?_, ?_⟩
  · intro c4
    have h := h.1 c4
    obtain ⟨b5, e6, h⟩ := h
    refine ⟨b5, e6, ?_⟩
    have f7 := kom_f K e6
    obtain ⟨c8, h⟩ := h
    refine ⟨c8, ?_⟩
    intro x10 e9
    have h := h x10 e9
    obtain ⟨b11, e12, h⟩ := h
    refine ⟨b11, e12, ?_⟩
    have f13 := kom_f K e12
    obtain ⟨c14, h⟩ := h
    refine ⟨c14, ?_⟩
    obtain ⟨b15, e16, h⟩ := h
    refine ⟨b15, e16, ?_⟩
    have f17 := kom_f K e16
    obtain ⟨c18, h⟩ := h
    refine ⟨c18, ?_⟩
    obtain ⟨c19, h⟩ := h
    refine ⟨c19, ?_⟩
    intro x21 e20
    have h := h x21 e20
    have K := kom_I K e20 (owm_d f13 f17 (by decide))
    obtain ⟨b22, e23, h⟩ := h
    refine ⟨b22, e23, ?_⟩
    have f24 := kom_f K e23
    obtain ⟨c25, h⟩ := h
    refine ⟨c25, ?_⟩
    obtain ⟨b26, e27, h⟩ := h
    refine ⟨b26, e27, ?_⟩
    have f28 := kom_f K e27
    obtain ⟨c29, h⟩ := h
    refine ⟨c29, ?_⟩
    obtain ⟨c30, h⟩ := h
    refine ⟨c30, ?_⟩
    intro x32 e31
    have h := h x32 e31
    have K := kom_I K e31 (owm_d f24 f28 (by decide))
    obtain ⟨b33, e34, h⟩ := h
    refine ⟨b33, e34, ?_⟩
    have f35 := kom_f K e34
    obtain ⟨c36, h⟩ := h
    refine ⟨c36, ?_⟩
    obtain ⟨b37, e38, h⟩ := h
    refine ⟨b37, e38, ?_⟩
    have f39 := kom_f K e38
    obtain ⟨c40, h⟩ := h
    refine ⟨c40, ?_⟩
    obtain ⟨c41, h⟩ := h
    refine ⟨c41, ?_⟩
    intro x43 e42
    have h := h x43 e42
    have K := kom_I K e42 (owm_d f35 f39 (by decide))
    obtain ⟨b44, e45, h⟩ := h
    refine ⟨b44, e45, ?_⟩
    have f46 := kom_f K e45
    obtain ⟨c47, h⟩ := h
    refine ⟨c47, ?_⟩
    obtain ⟨b48, e49, h⟩ := h
    refine ⟨b48, e49, ?_⟩
    have f50 := kom_f K e49
    obtain ⟨c51, h⟩ := h
    refine ⟨c51, ?_⟩
    obtain ⟨c52, h⟩ := h
    refine ⟨c52, ?_⟩
    intro x54 e53
    have h := h x54 e53
    have K := kom_I K e53 (owm_d f46 f50 (by decide))
    obtain ⟨b55, e56, h⟩ := h
    refine ⟨b55, e56, ?_⟩
    have f57 := kom_f K e56
    obtain ⟨c58, h⟩ := h
    refine ⟨c58, ?_⟩
    obtain ⟨b59, e60, h⟩ := h
    refine ⟨b59, e60, ?_⟩
    have f61 := kom_f K e60
    obtain ⟨c62, h⟩ := h
    refine ⟨c62, ?_⟩
    obtain ⟨c63, h⟩ := h
    refine ⟨c63, ?_⟩
    intro x65 e64
    have h := h x65 e64
    have K := kom_I K e64 (owm_d f57 f61 (by decide))
    obtain ⟨b66, e67, h⟩ := h
    refine ⟨b66, e67, ?_⟩
    have f68 := kom_f K e67
    obtain ⟨c69, h⟩ := h
    refine ⟨c69, ?_⟩
    intro x71 e70
    have h := h x71 e70
    intro x73 e72
    have h := h x73 e72
    intro x75 e74
    have h := h x75 e74
    have K := kom_I K e74 (owm_w f68)
    exact ⟨h, K⟩
  · intro c76
    have h := h.2 c76
    exact ⟨h, K⟩
set_option maxRecDepth 20000 in
set_option maxHeartbeats 1000000 in
theorem ko_X11_readRoad_62 {Q : HS → Prop} {v0 : Nat} {v1 : Int32} {v2 : Int32} {v3 : Int32} {v4 : Int32} {S0 S : HS} (h : P_X11_readRoad_62 Q v0 v1 v2 v3 v4 S) (K : KO_M v0 S0 S) : P_X11_readRoad_62 (fun T => Q T ∧ KO_M v0 S0 T) v0 v1 v2 v3 v4 S := by
  delta P_X11_readRoad_62 at h ⊢
  obtain ⟨c1, h⟩ := h
  refine ⟨c1, ?_⟩
  refine cm_X11_goesOn (kv_X11_goesOn h) h (fun x2 p4 h g3 => ?_)
  have h := h g3
  have K := kom_V K p4.2 owm_r
  refine cm_X11_eatsWord (kv_X11_eatsWord h) h (fun x5 x6 p9 h g7 g8 => ?_)
  have h := h g7 g8
  have K := kom_V K p9.2 owm_r
  refine ⟨?_, ?_⟩
  · intro c10
    have h := h.1 c10
    exact ko_X11_readRoad_85 h K
  · intro c11
    have h := h.2 c11
    refine cm_X11_readWhole (kv_X11_readWhole h) h (fun x12 x13 p15 h g14 => ?_)
    have h := h g14
    have K := kom_V K p15.2 owm_r
    exact ko_X11_readRoad_85 h K
set_option maxRecDepth 20000 in
set_option maxHeartbeats 1000000 in
theorem ko_X11_readRoad_0 {Q : HS → Prop} {v0 : Nat} {S0 S : HS} (h : P_X11_readRoad_0 Q v0 S) (K : KO_M v0 S0 S) : P_X11_readRoad_0 (fun T => Q T ∧ KO_M v0 S0 T) v0 S := by
  delta P_X11_readRoad_0 at h ⊢
  obtain ⟨c1, h⟩ := h
  refine ⟨c1, ?_⟩
  obtain ⟨b2, e3, h⟩ := h
  refine ⟨b2, e3, ?_⟩
  have f4 := kom_f K e3
  obtain ⟨c5, h⟩ := h
  refine ⟨c5, ?_⟩
  intro x7 e6
  have h := h x7 e6
  refine cm_X11_begins (kv_X11_begins h) h (fun x8 p10 h g9 => ?_)
  have h := h g9
  have K := kom_V K p10.2 owm_r
  refine cm_X11_known (kv_X11_known h) h (fun x11 x12 p14 h g13 => ?_)
  have h := h g13
  have K := kom_V K p14.2 owm_r
  refine cm_X11_goesOn (kv_X11_goesOn h) h (fun x15 p17 h g16 => ?_)
  have h := h g16
  have K := kom_V K p17.2 owm_r
  refine cm_X11_readSide (kv_X11_readSide h) h (fun x18 x19 p21 h g20 => ?_)
  have h := h g20
  have K := kom_V K p21.2 owm_r
  refine cm_X11_readWhole (kv_X11_readWhole h) h (fun x22 x23 p25 h g24 => ?_)
  have h := h g24
  have K := kom_V K p25.2 owm_r
  refine cm_X11_known (kv_X11_known h) h (fun x26 x27 p29 h g28 => ?_)
  have h := h g28
  have K := kom_V K p29.2 owm_r
  intro x31 e30
  have h := h x31 e30
  refine ⟨?_, ?_⟩
  · intro c32
    have h := h.1 c32
    exact ko_X11_readRoad_62 h K
  · intro c33
    have h := h.2 c33
    refine ⟨?_, ?_⟩
    · intro c34
      have h := h.1 c34
      exact ko_X11_readRoad_62 h K
    · intro c35
      have h := h.2 c35
      refine cm_X11_flaw (kv_X11_flaw h) h (fun x36 p38 h g37 => ?_)
      have h := h g37
      have K := kom_V K p38.2 owm_r
      exact ko_X11_readRoad_62 h K
theorem ko_X11_readRoad {Q : HS → Prop} {v0 : Nat} {S : HS} (h : P_X11_readRoad v0 Q S) : P_X11_readRoad v0 (fun T => Q T ∧ KO_M v0 S T) S := ko_X11_readRoad_0 h (kom_rf _ S)
set_option maxRecDepth 20000 in
set_option maxHeartbeats 1000000 in
theorem ko_X11_readSeen_47 {Q : HS → Prop} {X24 X24_2 : Nat → Int32 → Int32 → HS → Prop} {v0 : Nat} {v1 : Int32} {v2 : Int32} {S0 S : HS} (h : P_X11_readSeen_47 Q X24 v0 v1 v2 S) (K : KO_M v0 S0 S) (hX24 : ∀ (u0 : Nat) (u1 : Int32) (u2 : Int32) (u3 : HS), X24 u0 u1 u2 u3 → u0 = v0 → KO_M v0 S0 u3 → X24_2 u0 u1 u2 u3) : P_X11_readSeen_47 (fun T => Q T ∧ KO_M v0 S0 T) X24_2 v0 v1 v2 S := by
  delta P_X11_readSeen_47 at h ⊢
  obtain ⟨c1, h⟩ := h
  refine ⟨c1, ?_⟩
  refine cm_X11_readWhole (kv_X11_readWhole h) h (fun x2 x3 p5 h g4 => ?_)
  have h := h g4
  have K := kom_V K p5.2 owm_r
  intro x7 e6
  have h := h x7 e6
  refine ⟨?_, ?_⟩
  · intro c8
    have h := h.1 c8
    obtain ⟨b9, e10, h⟩ := h
    refine ⟨b9, e10, ?_⟩
    have f11 := kom_f K e10
    obtain ⟨c12, h⟩ := h
    refine ⟨c12, ?_⟩
    obtain ⟨b13, e14, h⟩ := h
    refine ⟨b13, e14, ?_⟩
    have f15 := kom_f K e14
    obtain ⟨b16, e17, h⟩ := h
    refine ⟨b16, e17, ?_⟩
    have f18 := kom_f K e17
    obtain ⟨c19, h⟩ := h
    refine ⟨c19, ?_⟩
    intro x21 e20
    have h := h x21 e20
    obtain ⟨c22, h⟩ := h
    refine ⟨c22, ?_⟩
    obtain ⟨c23, h⟩ := h
    refine ⟨c23, ?_⟩
    intro x25 e24
    have h := h x25 e24
    have K := kom_I K e24 (owm_d f11 f15 (by decide))
    intro x27 e26
    have h := h x27 e26
    exact hX24 _ _ _ _ h rfl K
  · intro c28
    have h := h.2 c28
    exact ⟨h, K⟩
set_option maxRecDepth 20000 in
set_option maxHeartbeats 1000000 in
theorem koB_X11_readSeen_24 {Q : HS → Prop} {X24 X24_2 : Nat → Int32 → Int32 → HS → Prop} {v0 : Nat} {v1 : Int32} {v2 : Int32} {S0 S : HS} (h : B_X11_readSeen_24 Q X24 v0 v1 v2 S) (K : KO_M v0 S0 S) (hX24 : ∀ (u0 : Nat) (u1 : Int32) (u2 : Int32) (u3 : HS), X24 u0 u1 u2 u3 → u0 = v0 → KO_M v0 S0 u3 → X24_2 u0 u1 u2 u3) : B_X11_readSeen_24 (fun T => Q T ∧ KO_M v0 S0 T) X24_2 v0 v1 v2 S := by
  delta B_X11_readSeen_24 at h ⊢
  refine ⟨?_, ?_⟩
  · intro c1
    have h := h.1 c1
    obtain ⟨c2, h⟩ := h
    refine ⟨c2, ?_⟩
    obtain ⟨b3, e4, h⟩ := h
    refine ⟨b3, e4, ?_⟩
    have f5 := kom_f K e4
    obtain ⟨c6, h⟩ := h
    refine ⟨c6, ?_⟩
    obtain ⟨b7, e8, h⟩ := h
    refine ⟨b7, e8, ?_⟩
    have f9 := kom_f K e8
    obtain ⟨b10, e11, h⟩ := h
    refine ⟨b10, e11, ?_⟩
    have f12 := kom_f K e11
    obtain ⟨c13, h⟩ := h
    refine ⟨c13, ?_⟩
    intro x15 e14
    have h := h x15 e14
    obtain ⟨c16, h⟩ := h
    refine ⟨c16, ?_⟩
    obtain ⟨c17, h⟩ := h
    refine ⟨c17, ?_⟩
    intro x19 e18
    have h := h x19 e18
    have K := kom_I K e18 (owm_d f5 f9 (by decide))
    obtain ⟨b20, e21, h⟩ := h
    refine ⟨b20, e21, ?_⟩
    have f22 := kom_f K e21
    obtain ⟨c23, h⟩ := h
    refine ⟨c23, ?_⟩
    intro x25 e24
    have h := h x25 e24
    intro x27 e26
    have h := h x27 e26
    intro x29 e28
    have h := h x29 e28
    have K := kom_I K e28 (owm_w f22)
    exact ⟨h, K⟩
  · intro c30
    have h := h.2 c30
    refine ⟨?_, ?_⟩
    · intro c31
      have h := h.1 c31
      exact ko_X11_readSeen_47 h K hX24
    · intro c32
      have h := h.2 c32
      obtain ⟨c33, h⟩ := h
      refine ⟨c33, ?_⟩
      refine cm_X11_eatsSign (kv_X11_eatsSign h) h (fun x34 x35 p38 h g36 g37 => ?_)
      have h := h g36 g37
      have K := kom_V K p38.2 owm_r
      refine ⟨?_, ?_⟩
      · intro c39
        have h := h.1 c39
        exact ko_X11_readSeen_47 h K hX24
      · intro c40
        have h := h.2 c40
        refine cm_X11_flaw (kv_X11_flaw h) h (fun x41 p43 h g42 => ?_)
        have h := h g42
        have K := kom_V K p43.2 owm_r
        exact ko_X11_readSeen_47 h K hX24
theorem ko_X11_readSeen_24 {Q : HS → Prop} {v0 : Nat} {v1 : Int32} {v2 : Int32} {S0 S : HS} (h : P_X11_readSeen_24 Q v0 v1 v2 S) (K : KO_M v0 S0 S) : P_X11_readSeen_24 (fun T => Q T ∧ KO_M v0 S0 T) v0 v1 v2 S := h (fun w0 v1 v2 S => w0 = v0 → KO_M v0 S0 S → P_X11_readSeen_24 (fun T => Q T ∧ KO_M v0 S0 T) w0 v1 v2 S) (fun w0 v1 v2 S hB e K => by
  subst e; exact fd_X11_readSeen_24 (koB_X11_readSeen_24 hB K (fun _ _ _ _ hx e K => hx e K))) rfl K
set_option maxRecDepth 20000 in
set_option maxHeartbeats 1000000 in
theorem ko_X11_readSeen_0 {Q : HS → Prop} {v0 : Nat} {S0 S : HS} (h : P_X11_readSeen_0 Q v0 S) (K : KO_M v0 S0 S) : P_X11_readSeen_0 (fun T => Q T ∧ KO_M v0 S0 T) v0 S := by
  delta P_X11_readSeen_0 at h ⊢
  obtain ⟨c1, h⟩ := h
  refine ⟨c1, ?_⟩
  obtain ⟨b2, e3, h⟩ := h
  refine ⟨b2, e3, ?_⟩
  have f4 := kom_f K e3
  obtain ⟨c5, h⟩ := h
  refine ⟨c5, ?_⟩
  intro x7 e6
  have h := h x7 e6
  refine cm_X11_begins (kv_X11_begins h) h (fun x8 p10 h g9 => ?_)
  have h := h g9
  have K := kom_V K p10.2 owm_r
  refine cm_X11_known (kv_X11_known h) h (fun x11 x12 p14 h g13 => ?_)
  have h := h g13
  have K := kom_V K p14.2 owm_r
  refine cm_X11_goesOn (kv_X11_goesOn h) h (fun x15 p17 h g16 => ?_)
  have h := h g16
  have K := kom_V K p17.2 owm_r
  exact ko_X11_readSeen_24 h K
theorem ko_X11_readSeen {Q : HS → Prop} {v0 : Nat} {S : HS} (h : P_X11_readSeen v0 Q S) : P_X11_readSeen v0 (fun T => Q T ∧ KO_M v0 S T) S := ko_X11_readSeen_0 h (kom_rf _ S)
set_option maxRecDepth 20000 in
set_option maxHeartbeats 1000000 in
theorem ko_X11_readWalker_149 {Q : HS → Prop} {v0 : Nat} {v1 : Int64} {v3 : Int32} {v4 : Int32} {s0 : Int32} {S0 S : HS} (h : P_X11_readWalker_149 Q v0 v1 v3 v4 s0 S) (K : KO_M v0 S0 S) : P_X11_readWalker_149 (fun T => Q T ∧ KO_M v0 S0 T) v0 v1 v3 v4 s0 S := by
  delta P_X11_readWalker_149 at h ⊢
  obtain ⟨c1, h⟩ := h
  refine ⟨c1, ?_⟩
  refine cm_X11_readPart (kv_X11_readPart h) h (fun x2 x3 p5 h g4 => ?_)
  have h := h g4
  have K := kom_V K p5.2 owm_r
  refine cm_X11_readPart (kv_X11_readPart h) h (fun x6 x7 p9 h g8 => ?_)
  have h := h g8
  have K := kom_V K p9.2 owm_r
  refine cm_X11_readPart (kv_X11_readPart h) h (fun x10 x11 p13 h g12 => ?_)
  have h := h g12
  have K := kom_V K p13.2 owm_r
  refine cm_X11_readPart (kv_X11_readPart h) h (fun x14 x15 p17 h g16 => ?_)
  have h := h g16
  have K := kom_V K p17.2 owm_r
  refine cm_X11_readPart (kv_X11_readPart h) h (fun x18 x19 p21 h g20 => ?_)
  have h := h g20
  have K := kom_V K p21.2 owm_r
  intro x23 e22
  have h := h x23 e22
  refine ⟨?_, ?_⟩
  · intro c24
    have h := h.1 c24
    obtain ⟨b25, e26, h⟩ := h
    refine ⟨b25, e26, ?_⟩
    have f27 := kom_f K e26
    obtain ⟨c28, h⟩ := h
    refine ⟨c28, ?_⟩
    intro x30 e29
    have h := h x30 e29
    refine cm_X11_names (ko_X11_names h) h (fun x31 p33 h g32 => ?_)
    have h := h g32
    have K := kom_tr K p33.2
    obtain ⟨b34, e35, h⟩ := h
    refine ⟨b34, e35, ?_⟩
    have f36 := kom_f K e35
    obtain ⟨c37, h⟩ := h
    refine ⟨c37, ?_⟩
    obtain ⟨b38, e39, h⟩ := h
    refine ⟨b38, e39, ?_⟩
    have f40 := kom_f K e39
    obtain ⟨c41, h⟩ := h
    refine ⟨c41, ?_⟩
    obtain ⟨c42, h⟩ := h
    refine ⟨c42, ?_⟩
    intro x44 e43
    have h := h x44 e43
    have K := kom_I K e43 (owm_d f36 f40 (by decide))
    obtain ⟨b45, e46, h⟩ := h
    refine ⟨b45, e46, ?_⟩
    have f47 := kom_f K e46
    obtain ⟨c48, h⟩ := h
    refine ⟨c48, ?_⟩
    obtain ⟨b49, e50, h⟩ := h
    refine ⟨b49, e50, ?_⟩
    have f51 := kom_f K e50
    obtain ⟨c52, h⟩ := h
    refine ⟨c52, ?_⟩
    obtain ⟨c53, h⟩ := h
    refine ⟨c53, ?_⟩
    intro x55 e54
    have h := h x55 e54
    have K := kom_I K e54 (owm_d f47 f51 (by decide))
    obtain ⟨b56, e57, h⟩ := h
    refine ⟨b56, e57, ?_⟩
    have f58 := kom_f K e57
    obtain ⟨c59, h⟩ := h
    refine ⟨c59, ?_⟩
    obtain ⟨b60, e61, h⟩ := h
    refine ⟨b60, e61, ?_⟩
    have f62 := kom_f K e61
    obtain ⟨c63, h⟩ := h
    refine ⟨c63, ?_⟩
    intro x65 e64
    have h := h x65 e64
    obtain ⟨c66, h⟩ := h
    refine ⟨c66, ?_⟩
    intro x68 e67
    have h := h x68 e67
    have K := kom_I K e67 (owm_d f58 f62 (by decide))
    obtain ⟨b69, e70, h⟩ := h
    refine ⟨b69, e70, ?_⟩
    have f71 := kom_f K e70
    obtain ⟨c72, h⟩ := h
    refine ⟨c72, ?_⟩
    obtain ⟨b73, e74, h⟩ := h
    refine ⟨b73, e74, ?_⟩
    have f75 := kom_f K e74
    obtain ⟨c76, h⟩ := h
    refine ⟨c76, ?_⟩
    intro x78 e77
    have h := h x78 e77
    obtain ⟨c79, h⟩ := h
    refine ⟨c79, ?_⟩
    intro x81 e80
    have h := h x81 e80
    have K := kom_I K e80 (owm_d f71 f75 (by decide))
    obtain ⟨b82, e83, h⟩ := h
    refine ⟨b82, e83, ?_⟩
    have f84 := kom_f K e83
    obtain ⟨c85, h⟩ := h
    refine ⟨c85, ?_⟩
    obtain ⟨b86, e87, h⟩ := h
    refine ⟨b86, e87, ?_⟩
    have f88 := kom_f K e87
    obtain ⟨c89, h⟩ := h
    refine ⟨c89, ?_⟩
    intro x91 e90
    have h := h x91 e90
    obtain ⟨c92, h⟩ := h
    refine ⟨c92, ?_⟩
    intro x94 e93
    have h := h x94 e93
    have K := kom_I K e93 (owm_d f84 f88 (by decide))
    obtain ⟨b95, e96, h⟩ := h
    refine ⟨b95, e96, ?_⟩
    have f97 := kom_f K e96
    obtain ⟨c98, h⟩ := h
    refine ⟨c98, ?_⟩
    obtain ⟨b99, e100, h⟩ := h
    refine ⟨b99, e100, ?_⟩
    have f101 := kom_f K e100
    obtain ⟨c102, h⟩ := h
    refine ⟨c102, ?_⟩
    obtain ⟨c103, h⟩ := h
    refine ⟨c103, ?_⟩
    intro x105 e104
    have h := h x105 e104
    have K := kom_I K e104 (owm_d f97 f101 (by decide))
    obtain ⟨b106, e107, h⟩ := h
    refine ⟨b106, e107, ?_⟩
    have f108 := kom_f K e107
    obtain ⟨c109, h⟩ := h
    refine ⟨c109, ?_⟩
    obtain ⟨b110, e111, h⟩ := h
    refine ⟨b110, e111, ?_⟩
    have f112 := kom_f K e111
    obtain ⟨c113, h⟩ := h
    refine ⟨c113, ?_⟩
    obtain ⟨c114, h⟩ := h
    refine ⟨c114, ?_⟩
    intro x116 e115
    have h := h x116 e115
    have K := kom_I K e115 (owm_d f108 f112 (by decide))
    obtain ⟨b117, e118, h⟩ := h
    refine ⟨b117, e118, ?_⟩
    have f119 := kom_f K e118
    obtain ⟨c120, h⟩ := h
    refine ⟨c120, ?_⟩
    intro x122 e121
    have h := h x122 e121
    intro x124 e123
    have h := h x124 e123
    intro x126 e125
    have h := h x126 e125
    have K := kom_I K e125 (owm_w f119)
    exact ⟨h, K⟩
  · intro c127
    have h := h.2 c127
    exact ⟨h, K⟩
set_option maxRecDepth 20000 in
set_option maxHeartbeats 1000000 in
theorem ko_X11_readWalker_136 {Q : HS → Prop} {v0 : Nat} {v1 : Int64} {v3 : Int32} {s0 : Int32} {S0 S : HS} (h : P_X11_readWalker_136 Q v0 v1 v3 s0 S) (K : KO_M v0 S0 S) : P_X11_readWalker_136 (fun T => Q T ∧ KO_M v0 S0 T) v0 v1 v3 s0 S := by
  delta P_X11_readWalker_136 at h ⊢
  refine ⟨?_, ?_⟩
  · intro c1
    have h := h.1 c1
    exact ko_X11_readWalker_149 h K
  · intro c2
    have h := h.2 c2
    exact ko_X11_readWalker_149 h K
set_option maxRecDepth 20000 in
set_option maxHeartbeats 1000000 in
theorem ko_X11_readWalker_85 {Q : HS → Prop} {v0 : Nat} {v1 : Int64} {v3 : Int32} {S0 S : HS} (h : P_X11_readWalker_85 Q v0 v1 v3 S) (K : KO_M v0 S0 S) : P_X11_readWalker_85 (fun T => Q T ∧ KO_M v0 S0 T) v0 v1 v3 S := by
  delta P_X11_readWalker_85 at h ⊢
  obtain ⟨c1, h⟩ := h
  refine ⟨c1, ?_⟩
  refine cm_X11_goesOn (kv_X11_goesOn h) h (fun x2 p4 h g3 => ?_)
  have h := h g3
  have K := kom_V K p4.2 owm_r
  refine ⟨?_, ?_⟩
  · intro c5
    have h := h.1 c5
    refine ⟨?_, ?_⟩
    · intro c6
      have h := h.1 c6
      refine ⟨?_, ?_⟩
      · intro c7
        have h := h.1 c7
        exact ko_X11_readWalker_136 h K
      · intro c8
        have h := h.2 c8
        refine cm_X11_readWhole (kv_X11_readWhole h) h (fun x9 x10 p12 h g11 => ?_)
        have h := h g11
        have K := kom_V K p12.2 owm_r
        exact ko_X11_readWalker_136 h K
    · intro c13
      have h := h.2 c13
      refine cm_X11_readWhole (kv_X11_readWhole h) h (fun x14 x15 p17 h g16 => ?_)
      have h := h g16
      have K := kom_V K p17.2 owm_r
      exact ko_X11_readWalker_136 h K
  · intro c18
    have h := h.2 c18
    refine cm_X11_readWhole (kv_X11_readWhole h) h (fun x19 x20 p22 h g21 => ?_)
    have h := h g21
    have K := kom_V K p22.2 owm_r
    exact ko_X11_readWalker_136 h K
set_option maxRecDepth 20000 in
set_option maxHeartbeats 1000000 in
theorem ko_X11_readWalker_74 {Q : HS → Prop} {v0 : Nat} {v1 : Int64} {s0 : Int32} {S0 S : HS} (h : P_X11_readWalker_74 Q v0 v1 s0 S) (K : KO_M v0 S0 S) : P_X11_readWalker_74 (fun T => Q T ∧ KO_M v0 S0 T) v0 v1 s0 S := by
  delta P_X11_readWalker_74 at h ⊢
  refine ⟨?_, ?_⟩
  · intro c1
    have h := h.1 c1
    exact ko_X11_readWalker_85 h K
  · intro c2
    have h := h.2 c2
    obtain ⟨c3, h⟩ := h
    refine ⟨c3, ?_⟩
    refine cm_X11_flaw (kv_X11_flaw h) h (fun x4 p6 h g5 => ?_)
    have h := h g5
    have K := kom_V K p6.2 owm_r
    exact ko_X11_readWalker_85 h K
set_option maxRecDepth 20000 in
set_option maxHeartbeats 1000000 in
theorem ko_X11_readWalker_0 {Q : HS → Prop} {v0 : Nat} {S0 S : HS} (h : P_X11_readWalker_0 Q v0 S) (K : KO_M v0 S0 S) : P_X11_readWalker_0 (fun T => Q T ∧ KO_M v0 S0 T) v0 S := by
  delta P_X11_readWalker_0 at h ⊢
  obtain ⟨c1, h⟩ := h
  refine ⟨c1, ?_⟩
  obtain ⟨b2, e3, h⟩ := h
  refine ⟨b2, e3, ?_⟩
  have f4 := kom_f K e3
  obtain ⟨c5, h⟩ := h
  refine ⟨c5, ?_⟩
  intro x7 e6
  have h := h x7 e6
  refine cm_X11_begins (kv_X11_begins h) h (fun x8 p10 h g9 => ?_)
  have h := h g9
  have K := kom_V K p10.2 owm_r
  refine cm_X11_readFresh (kv_X11_readFresh h) h (fun x11 x12 p14 h g13 => ?_)
  have h := h g13
  have K := kom_V K p14.2 owm_r
  refine cm_X11_isWord (kz_X11_isWord h) h (fun x15 x16 p19 h g17 g18 => ?_)
  have h := h g17 g18
  have K := kom_Z K p19.2
  refine ⟨?_, ?_⟩
  · intro c20
    have h := h.1 c20
    refine cm_X11_isWord (kz_X11_isWord h) h (fun x21 x22 p25 h g23 g24 => ?_)
    have h := h g23 g24
    have K := kom_Z K p25.2
    refine ⟨?_, ?_⟩
    · intro c26
      have h := h.1 c26
      refine cm_X11_isWord (kz_X11_isWord h) h (fun x27 x28 p31 h g29 g30 => ?_)
      have h := h g29 g30
      have K := kom_Z K p31.2
      refine ⟨?_, ?_⟩
      · intro c32
        have h := h.1 c32
        refine cm_X11_isWord (kz_X11_isWord h) h (fun x33 x34 p37 h g35 g36 => ?_)
        have h := h g35 g36
        have K := kom_Z K p37.2
        refine ⟨?_, ?_⟩
        · intro c38
          have h := h.1 c38
          exact ko_X11_readWalker_74 h K
        · intro c39
          have h := h.2 c39
          exact ko_X11_readWalker_74 h K
      · intro c40
        have h := h.2 c40
        exact ko_X11_readWalker_74 h K
    · intro c41
      have h := h.2 c41
      exact ko_X11_readWalker_74 h K
  · intro c42
    have h := h.2 c42
    exact ko_X11_readWalker_74 h K
theorem ko_X11_readWalker {Q : HS → Prop} {v0 : Nat} {S : HS} (h : P_X11_readWalker v0 Q S) : P_X11_readWalker v0 (fun T => Q T ∧ KO_M v0 S T) S := ko_X11_readWalker_0 h (kom_rf _ S)
set_option maxRecDepth 20000 in
set_option maxHeartbeats 1000000 in
theorem ko_X11_readWorld_15 {Q : HS → Prop} {v0 : Nat} {S0 S : HS} (h : P_X11_readWorld_15 Q v0 S) (K : KO_M v0 S0 S) : P_X11_readWorld_15 (fun T => Q T ∧ KO_M v0 S0 T) v0 S := by
  delta P_X11_readWorld_15 at h ⊢
  obtain ⟨c1, h⟩ := h
  refine ⟨c1, ?_⟩
  refine cm_X11_goesOn (kv_X11_goesOn h) h (fun x2 p4 h g3 => ?_)
  have h := h g3
  have K := kom_V K p4.2 owm_r
  refine cm_X11_readPart (kv_X11_readPart h) h (fun x5 x6 p8 h g7 => ?_)
  have h := h g7
  have K := kom_V K p8.2 owm_r
  intro x10 e9
  have h := h x10 e9
  refine ⟨?_, ?_⟩
  · intro c11
    have h := h.1 c11
    exact ⟨h, K⟩
  · intro c12
    have h := h.2 c12
    obtain ⟨b13, e14, h⟩ := h
    refine ⟨b13, e14, ?_⟩
    have f15 := kom_f K e14
    obtain ⟨c16, h⟩ := h
    refine ⟨c16, ?_⟩
    intro x18 e17
    have h := h x18 e17
    have K := kom_I K e17 (owm_w f15)
    exact ⟨h, K⟩
set_option maxRecDepth 20000 in
set_option maxHeartbeats 1000000 in
theorem ko_X11_readWorld_0 {Q : HS → Prop} {v0 : Nat} {S0 S : HS} (h : P_X11_readWorld_0 Q v0 S) (K : KO_M v0 S0 S) : P_X11_readWorld_0 (fun T => Q T ∧ KO_M v0 S0 T) v0 S := by
  delta P_X11_readWorld_0 at h ⊢
  obtain ⟨c1, h⟩ := h
  refine ⟨c1, ?_⟩
  obtain ⟨b2, e3, h⟩ := h
  refine ⟨b2, e3, ?_⟩
  have f4 := kom_f K e3
  obtain ⟨c5, h⟩ := h
  refine ⟨c5, ?_⟩
  intro x7 e6
  have h := h x7 e6
  refine ⟨?_, ?_⟩
  · intro c8
    have h := h.1 c8
    exact ko_X11_readWorld_15 h K
  · intro c9
    have h := h.2 c9
    refine cm_X11_flaw (kv_X11_flaw h) h (fun x10 p12 h g11 => ?_)
    have h := h g11
    have K := kom_V K p12.2 owm_r
    exact ko_X11_readWorld_15 h K
theorem ko_X11_readWorld {Q : HS → Prop} {v0 : Nat} {S : HS} (h : P_X11_readWorld v0 Q S) : P_X11_readWorld v0 (fun T => Q T ∧ KO_M v0 S T) S := ko_X11_readWorld_0 h (kom_rf _ S)
set_option maxRecDepth 20000 in
set_option maxHeartbeats 1000000 in
theorem ko_X11_readLine_0 {Q : HS → Prop} {v0 : Nat} {S0 S : HS} (h : P_X11_readLine_0 Q v0 S) (K : KO_M v0 S0 S) : P_X11_readLine_0 (fun T => Q T ∧ KO_M v0 S0 T) v0 S := by
  delta P_X11_readLine_0 at h ⊢
  obtain ⟨c1, h⟩ := h
  refine ⟨c1, ?_⟩
  refine cm_X11_isWord (kz_X11_isWord h) h (fun x2 x3 p6 h g4 g5 => ?_)
  have h := h g4 g5
  have K := kom_Z K p6.2
  refine ⟨?_, ?_⟩
  · intro c7
    have h := h.1 c7
    refine cm_X11_isWord (kz_X11_isWord h) h (fun x8 x9 p12 h g10 g11 => ?_)
    have h := h g10 g11
    have K := kom_Z K p12.2
    refine ⟨?_, ?_⟩
    · intro c13
      have h := h.1 c13
      refine cm_X11_isWord (kz_X11_isWord h) h (fun x14 x15 p18 h g16 g17 => ?_)
      have h := h g16 g17
      have K := kom_Z K p18.2
      refine ⟨?_, ?_⟩
      · intro c19
        have h := h.1 c19
        refine cm_X11_isWord (kz_X11_isWord h) h (fun x20 x21 p24 h g22 g23 => ?_)
        have h := h g22 g23
        have K := kom_Z K p24.2
        refine ⟨?_, ?_⟩
        · intro c25
          have h := h.1 c25
          refine cm_X11_isWord (kz_X11_isWord h) h (fun x26 x27 p30 h g28 g29 => ?_)
          have h := h g28 g29
          have K := kom_Z K p30.2
          refine ⟨?_, ?_⟩
          · intro c31
            have h := h.1 c31
            refine cm_X11_isWord (kz_X11_isWord h) h (fun x32 x33 p36 h g34 g35 => ?_)
            have h := h g34 g35
            have K := kom_Z K p36.2
            refine ⟨?_, ?_⟩
            · intro c37
              have h := h.1 c37
              refine cm_X11_flaw (kv_X11_flaw h) h (fun x38 p40 h g39 => ?_)
              have h := h g39
              have K := kom_V K p40.2 owm_r
              exact ⟨h, K⟩
            · intro c41
              have h := h.2 c41
              refine cm_X11_readSeen (ko_X11_readSeen h) h (fun x42 p44 h g43 => ?_)
              have h := h g43
              have K := kom_tr K p44.2
              exact ⟨h, K⟩
          · intro c45
            have h := h.2 c45
            refine cm_X11_readWalker (ko_X11_readWalker h) h (fun x46 p48 h g47 => ?_)
            have h := h g47
            have K := kom_tr K p48.2
            exact ⟨h, K⟩
        · intro c49
          have h := h.2 c49
          refine cm_X11_readRoad (ko_X11_readRoad h) h (fun x50 p52 h g51 => ?_)
          have h := h g51
          have K := kom_tr K p52.2
          exact ⟨h, K⟩
      · intro c53
        have h := h.2 c53
        refine cm_X11_readPlace (ko_X11_readPlace h) h (fun x54 p56 h g55 => ?_)
        have h := h g55
        have K := kom_tr K p56.2
        exact ⟨h, K⟩
    · intro c57
      have h := h.2 c57
      refine cm_X11_readRain (ko_X11_readRain h) h (fun x58 p60 h g59 => ?_)
      have h := h g59
      have K := kom_tr K p60.2
      exact ⟨h, K⟩
  · intro c61
    have h := h.2 c61
    refine cm_X11_readWorld (ko_X11_readWorld h) h (fun x62 p64 h g63 => ?_)
    have h := h g63
    have K := kom_tr K p64.2
    exact ⟨h, K⟩
theorem ko_X11_readLine {Q : HS → Prop} {v0 : Nat} {S : HS} (h : P_X11_readLine v0 Q S) : P_X11_readLine v0 (fun T => Q T ∧ KO_M v0 S T) S := ko_X11_readLine_0 h (kom_rf _ S)
set_option maxRecDepth 20000 in
set_option maxHeartbeats 1000000 in
theorem ko_X11_readAll_63 {Q : HS → Prop} {v0 : Nat} {S0 S : HS} (h : P_X11_readAll_63 Q v0 S) (K : KO_M v0 S0 S) : P_X11_readAll_63 (fun T => Q T ∧ KO_M v0 S0 T) v0 S := by
  delta P_X11_readAll_63 at h ⊢
  obtain ⟨c1, h⟩ := h
  refine ⟨c1, ?_⟩
  refine cm_X11_flaw (kv_X11_flaw h) h (fun x2 p4 h g3 => ?_)
  have h := h g3
  have K := kom_V K p4.2 owm_r
  exact ⟨h, K⟩
set_option maxRecDepth 20000 in
set_option maxHeartbeats 1000000 in
theorem ko_X11_readAll_33 {Q : HS → Prop} {v0 : Nat} {S0 S : HS} (h : P_X11_readAll_33 Q v0 S) (K : KO_M v0 S0 S) : P_X11_readAll_33 (fun T => Q T ∧ KO_M v0 S0 T) v0 S := by
  delta P_X11_readAll_33 at h ⊢
  obtain ⟨c1, h⟩ := h
  refine ⟨c1, ?_⟩
  obtain ⟨b2, e3, h⟩ := h
  refine ⟨b2, e3, ?_⟩
  have f4 := kom_f K e3
  obtain ⟨c5, h⟩ := h
  refine ⟨c5, ?_⟩
  intro x7 e6
  have h := h x7 e6
  refine ⟨?_, ?_⟩
  · intro c8
    have h := h.1 c8
    exact ko_X11_readAll_63 h K
  · intro c9
    have h := h.2 c9
    obtain ⟨b10, e11, h⟩ := h
    refine ⟨b10, e11, ?_⟩
    have f12 := kom_f K e11
    obtain ⟨c13, h⟩ := h
    refine ⟨c13, ?_⟩
    intro x15 e14
    have h := h x15 e14
    refine ⟨?_, ?_⟩
    · intro c16
      have h := h.1 c16
      exact ko_X11_readAll_63 h K
    · intro c17
      have h := h.2 c17
      obtain ⟨b18, e19, h⟩ := h
      refine ⟨b18, e19, ?_⟩
      have f20 := kom_f K e19
      obtain ⟨c21, h⟩ := h
      refine ⟨c21, ?_⟩
      intro x23 e22
      have h := h x23 e22
      refine ⟨?_, ?_⟩
      · intro c24
        have h := h.1 c24
        exact ⟨h, K⟩
      · intro c25
        have h := h.2 c25
        exact ko_X11_readAll_63 h K
set_option maxRecDepth 20000 in
set_option maxHeartbeats 1000000 in
theorem koB_X11_readAll_2 {Q : HS → Prop} {X2 X2_2 : Nat → Int32 → HS → Prop} {v0 : Nat} {v1 : Int32} {S0 S : HS} (h : B_X11_readAll_2 Q X2 v0 v1 S) (K : KO_M v0 S0 S) (hX2 : ∀ (u0 : Nat) (u1 : Int32) (u2 : HS), X2 u0 u1 u2 → u0 = v0 → KO_M v0 S0 u2 → X2_2 u0 u1 u2) : B_X11_readAll_2 (fun T => Q T ∧ KO_M v0 S0 T) X2_2 v0 v1 S := by
  delta B_X11_readAll_2 at h ⊢
  refine ⟨?_, ?_⟩
  · intro c1
    have h := h.1 c1
    obtain ⟨c2, h⟩ := h
    refine ⟨c2, ?_⟩
    intro x4 e3
    have h := h x4 e3
    refine ⟨?_, ?_⟩
    · intro c5
      have h := h.1 c5
      exact ko_X11_readAll_33 h K
    · intro c6
      have h := h.2 c6
      refine cm_X11_flaw (kv_X11_flaw h) h (fun x7 p9 h g8 => ?_)
      have h := h g8
      have K := kom_V K p9.2 owm_r
      exact ko_X11_readAll_33 h K
  · intro c10
    have h := h.2 c10
    obtain ⟨c11, h⟩ := h
    refine ⟨c11, ?_⟩
    refine cm_X11_readLine (ko_X11_readLine h) h (fun x12 p14 h g13 => ?_)
    have h := h g13
    have K := kom_tr K p14.2
    refine cm_X11_eatsSign (kv_X11_eatsSign h) h (fun x15 x16 p19 h g17 g18 => ?_)
    have h := h g17 g18
    have K := kom_V K p19.2 owm_r
    exact hX2 _ _ _ h rfl K
theorem ko_X11_readAll_2 {Q : HS → Prop} {v0 : Nat} {v1 : Int32} {S0 S : HS} (h : P_X11_readAll_2 Q v0 v1 S) (K : KO_M v0 S0 S) : P_X11_readAll_2 (fun T => Q T ∧ KO_M v0 S0 T) v0 v1 S := h (fun w0 v1 S => w0 = v0 → KO_M v0 S0 S → P_X11_readAll_2 (fun T => Q T ∧ KO_M v0 S0 T) w0 v1 S) (fun w0 v1 S hB e K => by
  subst e; exact fd_X11_readAll_2 (koB_X11_readAll_2 hB K (fun _ _ _ hx e K => hx e K))) rfl K
set_option maxRecDepth 20000 in
set_option maxHeartbeats 1000000 in
theorem ko_X11_readAll_0 {Q : HS → Prop} {v0 : Nat} {S0 S : HS} (h : P_X11_readAll_0 Q v0 S) (K : KO_M v0 S0 S) : P_X11_readAll_0 (fun T => Q T ∧ KO_M v0 S0 T) v0 S := by
  delta P_X11_readAll_0 at h ⊢
  exact ko_X11_readAll_2 h K
theorem ko_X11_readAll {Q : HS → Prop} {v0 : Nat} {S : HS} (h : P_X11_readAll v0 Q S) : P_X11_readAll v0 (fun T => Q T ∧ KO_M v0 S T) S := ko_X11_readAll_0 h (kom_rf _ S)
set_option maxRecDepth 20000 in
set_option maxHeartbeats 1000000 in
theorem kv_X4_fail_0 {Q : Int32 → HS → Prop} {v0 : Nat} {v1 : Int32} {S0 S : HS} (h : P_X4_fail_0 Q v0 v1 S) (K : KV v0 S0 S) : P_X4_fail_0 (fun r T => Q r T ∧ KV v0 S0 T) v0 v1 S := by
  delta P_X4_fail_0 at h ⊢
  obtain ⟨c1, h⟩ := h
  refine ⟨c1, ?_⟩
  intro x3 e2
  have h := h x3 e2
  have K := kv_I K e2
  intro x5 e4
  have h := h x5 e4
  intro x7 e6
  have h := h x7 e6
  have K := kv_I K e6
  exact ⟨h, K⟩
theorem kv_X4_fail {Q : Int32 → HS → Prop} {v0 : Nat} {v1 : Int32} {S : HS} (h : P_X4_fail v0 v1 Q S) : P_X4_fail v0 v1 (fun r T => Q r T ∧ KV v0 S T) S := kv_X4_fail_0 h (kv_rf _ S)
set_option maxRecDepth 20000 in
set_option maxHeartbeats 1000000 in
theorem kz_X4_sortAt_58 {Q : Int32 → HS → Prop} {v2 : Int32} {S0 S : HS} (h : P_X4_sortAt_58 Q v2 S) (K : KZ S0 S) : P_X4_sortAt_58 (fun r T => Q r T ∧ KZ S0 T) v2 S := by
  delta P_X4_sortAt_58 at h ⊢
  refine ⟨?_, ?_, ?_, ?_⟩
  · intro c1
    have h := h.1 c1
    exact ⟨h, K⟩
  · intro c2
    have h := h.2.1 c2
    exact ⟨h, K⟩
  · intro c3
    have h := h.2.2.1 c3
    exact ⟨h, K⟩
  · intro c4
    have h := h.2.2.2 c4
    exact ⟨h, K⟩
set_option maxRecDepth 20000 in
set_option maxHeartbeats 1000000 in
theorem kz_X4_sortAt_44 {Q : Int32 → HS → Prop} {v2 : Int32} {S0 S : HS} (h : P_X4_sortAt_44 Q v2 S) (K : KZ S0 S) : P_X4_sortAt_44 (fun r T => Q r T ∧ KZ S0 T) v2 S := by
  delta P_X4_sortAt_44 at h ⊢
  refine ⟨?_, ?_⟩
  · intro c1
    have h := h.1 c1
    exact kz_X4_sortAt_58 h K
  · intro c2
    have h := h.2 c2
    refine ⟨?_, ?_⟩
    · intro c3
      have h := h.1 c3
      exact kz_X4_sortAt_58 h K
    · intro c4
      have h := h.2 c4
      exact ⟨h, K⟩
set_option maxRecDepth 20000 in
set_option maxHeartbeats 1000000 in
theorem kz_X4_sortAt_0 {Q : Int32 → HS → Prop} {v0 : Nat} {v1 : Int32} {S0 S : HS} (h : P_X4_sortAt_0 Q v0 v1 S) (K : KZ S0 S) : P_X4_sortAt_0 (fun r T => Q r T ∧ KZ S0 T) v0 v1 S := by
  delta P_X4_sortAt_0 at h ⊢
  refine ⟨?_, ?_⟩
  · intro c1
    have h := h.1 c1
    exact ⟨h, K⟩
  · intro c2
    have h := h.2 c2
    obtain ⟨c3, h⟩ := h
    refine ⟨c3, ?_⟩
    intro x5 e4
    have h := h x5 e4
    refine ⟨?_, ?_⟩
    · intro c6
      have h := h.1 c6
      exact ⟨h, K⟩
    · intro c7
      have h := h.2 c7
      obtain ⟨b8, e9, h⟩ := h
      refine ⟨b8, e9, ?_⟩
      obtain ⟨c10, h⟩ := h
      refine ⟨c10, ?_⟩
      refine ⟨?_, ?_⟩
      · intro c11
        have h := h.1 c11
        obtain ⟨b12, e13, h⟩ := h
        refine ⟨b12, e13, ?_⟩
        obtain ⟨c14, h⟩ := h
        refine ⟨c14, ?_⟩
        obtain ⟨c15, h⟩ := h
        refine ⟨c15, ?_⟩
        intro x17 e16
        have h := h x17 e16
        refine ⟨?_, ?_⟩
        · intro c18
          have h := h.1 c18
          exact kz_X4_sortAt_44 h K
        · intro c19
          have h := h.2 c19
          refine ⟨?_, ?_⟩
          · intro c20
            have h := h.1 c20
            exact kz_X4_sortAt_44 h K
          · intro c21
            have h := h.2 c21
            exact ⟨h, K⟩
      · intro c22
        have h := h.2 c22
        exact ⟨h, K⟩
theorem kz_X4_sortAt {Q : Int32 → HS → Prop} {v0 : Nat} {v1 : Int32} {S : HS} (h : P_X4_sortAt v0 v1 Q S) : P_X4_sortAt v0 v1 (fun r T => Q r T ∧ KZ S T) S := kz_X4_sortAt_0 h (kz_rf S)
set_option maxRecDepth 20000 in
set_option maxHeartbeats 1000000 in
theorem kv_X4_next_201 {Q : HS → Prop} {X118 X118_2 : Nat → Int32 → Int32 → Int32 → Int32 → HS → Prop} {v0 : Nat} {v1 : Int32} {v2 : Int32} {v3 : Int32} {v4 : Int32} {S0 S : HS} (h : P_X4_next_201 Q X118 v0 v1 v2 v3 v4 S) (K : KV v0 S0 S) (hX118 : ∀ (u0 : Nat) (u1 : Int32) (u2 : Int32) (u3 : Int32) (u4 : Int32) (u5 : HS), X118 u0 u1 u2 u3 u4 u5 → u0 = v0 → KV v0 S0 u5 → X118_2 u0 u1 u2 u3 u4 u5) : P_X4_next_201 (fun T => Q T ∧ KV v0 S0 T) X118_2 v0 v1 v2 v3 v4 S := by
  delta P_X4_next_201 at h ⊢
  obtain ⟨c1, h⟩ := h
  refine ⟨c1, ?_⟩
  intro x3 e2
  have h := h x3 e2
  intro x5 e4
  have h := h x5 e4
  intro x7 e6
  have h := h x7 e6
  have K := kv_I K e6
  intro x9 e8
  have h := h x9 e8
  exact hX118 _ _ _ _ _ _ h rfl K
set_option maxRecDepth 20000 in
set_option maxHeartbeats 1000000 in
theorem kv_X4_next_195 {Q : HS → Prop} {X118 X118_2 : Nat → Int32 → Int32 → Int32 → Int32 → HS → Prop} {v0 : Nat} {v1 : Int32} {v2 : Int32} {v3 : Int32} {v4 : Int32} {s0 : Nat} {s1 : Int64} {s2 : Int32} {s3 : Int32} {S0 S : HS} (h : P_X4_next_195 Q X118 v0 v1 v2 v3 v4 s0 s1 s2 s3 S) (K : KV v0 S0 S) (hX118 : ∀ (u0 : Nat) (u1 : Int32) (u2 : Int32) (u3 : Int32) (u4 : Int32) (u5 : HS), X118 u0 u1 u2 u3 u4 u5 → u0 = v0 → KV v0 S0 u5 → X118_2 u0 u1 u2 u3 u4 u5) : P_X4_next_195 (fun T => Q T ∧ KV v0 S0 T) X118_2 v0 v1 v2 v3 v4 s0 s1 s2 s3 S := by
  delta P_X4_next_195 at h ⊢
  obtain ⟨c1, h⟩ := h
  refine ⟨c1, ?_⟩
  intro x3 e2
  have h := h x3 e2
  intro x5 e4
  have h := h x5 e4
  have K := kv_J K e4
  exact kv_X4_next_201 h K hX118
set_option maxRecDepth 20000 in
set_option maxHeartbeats 1000000 in
theorem kv_X4_next_240 {Q : HS → Prop} {v0 : Nat} {v1 : Int32} {S0 S : HS} (h : P_X4_next_240 Q v0 v1 S) (K : KV v0 S0 S) : P_X4_next_240 (fun T => Q T ∧ KV v0 S0 T) v0 v1 S := by
  delta P_X4_next_240 at h ⊢
  refine ⟨?_, ?_⟩
  · intro c1
    have h := h.1 c1
    exact ⟨h, K⟩
  · intro c2
    have h := h.2 c2
    obtain ⟨c3, h⟩ := h
    refine ⟨c3, ?_⟩
    intro x5 e4
    have h := h x5 e4
    refine ⟨?_, ?_⟩
    · intro c6
      have h := h.1 c6
      exact ⟨h, K⟩
    · intro c7
      have h := h.2 c7
      intro x9 e8
      have h := h x9 e8
      intro x11 e10
      have h := h x11 e10
      intro x13 e12
      have h := h x13 e12
      have K := kv_I K e12
      exact ⟨h, K⟩
set_option maxRecDepth 20000 in
set_option maxHeartbeats 1000000 in
theorem kv_X4_next_217 {Q : HS → Prop} {v0 : Nat} {v1 : Int32} {v2 : Int32} {S0 S : HS} (h : P_X4_next_217 Q v0 v1 v2 S) (K : KV v0 S0 S) : P_X4_next_217 (fun T => Q T ∧ KV v0 S0 T) v0 v1 v2 S := by
  delta P_X4_next_217 at h ⊢
  refine ⟨?_, ?_⟩
  · intro c1
    have h := h.1 c1
    exact kv_X4_next_240 h K
  · intro c2
    have h := h.2 c2
    obtain ⟨c3, h⟩ := h
    refine ⟨c3, ?_⟩
    intro x5 e4
    have h := h x5 e4
    intro x7 e6
    have h := h x7 e6
    refine ⟨?_, ?_⟩
    · intro c8
      have h := h.1 c8
      exact kv_X4_next_240 h K
    · intro c9
      have h := h.2 c9
      intro x11 e10
      have h := h x11 e10
      have K := kv_I K e10
      exact kv_X4_next_240 h K
set_option maxRecDepth 20000 in
set_option maxHeartbeats 1000000 in
theorem kvB_X4_next_118 {Q : HS → Prop} {X118 X118_2 : Nat → Int32 → Int32 → Int32 → Int32 → HS → Prop} {v0 : Nat} {v1 : Int32} {v2 : Int32} {v3 : Int32} {v4 : Int32} {S0 S : HS} (h : B_X4_next_118 Q X118 v0 v1 v2 v3 v4 S) (K : KV v0 S0 S) (hX118 : ∀ (u0 : Nat) (u1 : Int32) (u2 : Int32) (u3 : Int32) (u4 : Int32) (u5 : HS), X118 u0 u1 u2 u3 u4 u5 → u0 = v0 → KV v0 S0 u5 → X118_2 u0 u1 u2 u3 u4 u5) : B_X4_next_118 (fun T => Q T ∧ KV v0 S0 T) X118_2 v0 v1 v2 v3 v4 S := by
  delta B_X4_next_118 at h ⊢
  refine ⟨?_, ?_⟩
  · intro c1
    have h := h.1 c1
    exact kv_X4_next_217 h K
  · intro c2
    have h := h.2 c2
    refine ⟨?_, ?_⟩
    · intro c3
      have h := h.1 c3
      exact kv_X4_next_217 h K
    · intro c4
      have h := h.2 c4
      obtain ⟨c5, h⟩ := h
      refine ⟨c5, ?_⟩
      intro x7 e6
      have h := h x7 e6
      refine cm_X4_sortAt (kz_X4_sortAt h) h (fun x8 x9 p11 h g10 => ?_)
      have h := h g10
      have K := kv_Z K p11.2
      intro x13 e12
      have h := h x13 e12
      refine ⟨?_, ?_⟩
      · intro c14
        have h := h.1 c14
        exact kv_X4_next_217 h K
      · intro c15
        have h := h.2 c15
        refine ⟨?_, ?_⟩
        · intro c16
          have h := h.1 c16
          exact kv_X4_next_201 h K hX118
        · intro c17
          have h := h.2 c17
          intro x19 e18
          have h := h x19 e18
          obtain ⟨b20, e21, h⟩ := h
          refine ⟨b20, e21, ?_⟩
          obtain ⟨c22, h⟩ := h
          refine ⟨c22, ?_⟩
          refine ⟨?_, ?_⟩
          · intro c23
            have h := h.1 c23
            exact kv_X4_next_201 h K hX118
          · intro c24
            have h := h.2 c24
            intro x26 e25
            have h := h x26 e25
            obtain ⟨b27, e28, h⟩ := h
            refine ⟨b27, e28, ?_⟩
            intro x30 e29
            have h := h x30 e29
            obtain ⟨c31, h⟩ := h
            refine ⟨c31, ?_⟩
            obtain ⟨c32, h⟩ := h
            refine ⟨c32, ?_⟩
            intro x34 e33
            have h := h x34 e33
            intro x36 e35
            have h := h x36 e35
            refine ⟨?_, ?_⟩
            · intro c37
              have h := h.1 c37
              exact kv_X4_next_195 h K hX118
            · intro c38
              have h := h.2 c38
              exact kv_X4_next_195 h K hX118
theorem kv_X4_next_118 {Q : HS → Prop} {v0 : Nat} {v1 : Int32} {v2 : Int32} {v3 : Int32} {v4 : Int32} {S0 S : HS} (h : P_X4_next_118 Q v0 v1 v2 v3 v4 S) (K : KV v0 S0 S) : P_X4_next_118 (fun T => Q T ∧ KV v0 S0 T) v0 v1 v2 v3 v4 S := h (fun w0 v1 v2 v3 v4 S => w0 = v0 → KV v0 S0 S → P_X4_next_118 (fun T => Q T ∧ KV v0 S0 T) w0 v1 v2 v3 v4 S) (fun w0 v1 v2 v3 v4 S hB e K => by
  subst e; exact fd_X4_next_118 (kvB_X4_next_118 hB K (fun _ _ _ _ _ _ hx e K => hx e K))) rfl K
set_option maxRecDepth 20000 in
set_option maxHeartbeats 1000000 in
theorem kv_X4_next_114 {Q : HS → Prop} {v0 : Nat} {v1 : Int32} {v2 : Int32} {s0 : Int32} {S0 S : HS} (h : P_X4_next_114 Q v0 v1 v2 s0 S) (K : KV v0 S0 S) : P_X4_next_114 (fun T => Q T ∧ KV v0 S0 T) v0 v1 v2 s0 S := by
  delta P_X4_next_114 at h ⊢
  exact kv_X4_next_118 h K
set_option maxRecDepth 20000 in
set_option maxHeartbeats 1000000 in
theorem kv_X4_next_98 {Q : HS → Prop} {v0 : Nat} {v1 : Int32} {s0 : Int32} {S0 S : HS} (h : P_X4_next_98 Q v0 v1 s0 S) (K : KV v0 S0 S) : P_X4_next_98 (fun T => Q T ∧ KV v0 S0 T) v0 v1 s0 S := by
  delta P_X4_next_98 at h ⊢
  obtain ⟨c1, h⟩ := h
  refine ⟨c1, ?_⟩
  intro x3 e2
  have h := h x3 e2
  refine ⟨?_, ?_⟩
  · intro c4
    have h := h.1 c4
    exact kv_X4_next_114 h K
  · intro c5
    have h := h.2 c5
    exact kv_X4_next_114 h K
set_option maxRecDepth 20000 in
set_option maxHeartbeats 1000000 in
theorem kv_X4_next_83 {Q : HS → Prop} {v0 : Nat} {s0 : Int32} {S0 S : HS} (h : P_X4_next_83 Q v0 s0 S) (K : KV v0 S0 S) : P_X4_next_83 (fun T => Q T ∧ KV v0 S0 T) v0 s0 S := by
  delta P_X4_next_83 at h ⊢
  obtain ⟨c1, h⟩ := h
  refine ⟨c1, ?_⟩
  intro x3 e2
  have h := h x3 e2
  refine ⟨?_, ?_⟩
  · intro c4
    have h := h.1 c4
    exact kv_X4_next_98 h K
  · intro c5
    have h := h.2 c5
    exact kv_X4_next_98 h K
set_option maxRecDepth 20000 in
set_option maxHeartbeats 1000000 in
theorem kv_X4_next_78 {Q : HS → Prop} {v0 : Nat} {S0 S : HS} (h : P_X4_next_78 Q v0 S) (K : KV v0 S0 S) : P_X4_next_78 (fun T => Q T ∧ KV v0 S0 T) v0 S := by
  delta P_X4_next_78 at h ⊢
  exact kv_X4_next_83 h K
set_option maxRecDepth 20000 in
set_option maxHeartbeats 1000000 in
theorem kv_X4_next_37 {Q : HS → Prop} {v0 : Nat} {S0 S : HS} (h : P_X4_next_37 Q v0 S) (K : KV v0 S0 S) : P_X4_next_37 (fun T => Q T ∧ KV v0 S0 T) v0 S := by
  delta P_X4_next_37 at h ⊢
  obtain ⟨c1, h⟩ := h
  refine ⟨c1, ?_⟩
  intro x3 e2
  have h := h x3 e2
  intro x5 e4
  have h := h x5 e4
  have K := kv_I K e4
  intro x7 e6
  have h := h x7 e6
  refine cm_X4_sortAt (kz_X4_sortAt h) h (fun x8 x9 p11 h g10 => ?_)
  have h := h g10
  have K := kv_Z K p11.2
  intro x13 e12
  have h := h x13 e12
  have K := kv_I K e12
  intro x15 e14
  have h := h x15 e14
  have K := kv_J K e14
  intro x17 e16
  have h := h x17 e16
  refine ⟨?_, ?_⟩
  · intro c18
    have h := h.1 c18
    exact kv_X4_next_78 h K
  · intro c19
    have h := h.2 c19
    intro x21 e20
    have h := h x21 e20
    refine ⟨?_, ?_⟩
    · intro c22
      have h := h.1 c22
      exact kv_X4_next_83 h K
    · intro c23
      have h := h.2 c23
      exact kv_X4_next_78 h K
set_option maxRecDepth 20000 in
set_option maxHeartbeats 1000000 in
theorem kvB_X4_next_2 {Q : HS → Prop} {X2 X2_2 : Nat → Int32 → HS → Prop} {v0 : Nat} {v1 : Int32} {S0 S : HS} (h : B_X4_next_2 Q X2 v0 v1 S) (K : KV v0 S0 S) (hX2 : ∀ (u0 : Nat) (u1 : Int32) (u2 : HS), X2 u0 u1 u2 → u0 = v0 → KV v0 S0 u2 → X2_2 u0 u1 u2) : B_X4_next_2 (fun T => Q T ∧ KV v0 S0 T) X2_2 v0 v1 S := by
  delta B_X4_next_2 at h ⊢
  refine ⟨?_, ?_⟩
  · intro c1
    have h := h.1 c1
    exact kv_X4_next_37 h K
  · intro c2
    have h := h.2 c2
    obtain ⟨c3, h⟩ := h
    refine ⟨c3, ?_⟩
    intro x5 e4
    have h := h x5 e4
    refine cm_X4_sortAt (kz_X4_sortAt h) h (fun x6 x7 p9 h g8 => ?_)
    have h := h g8
    have K := kv_Z K p9.2
    refine ⟨?_, ?_⟩
    · intro c10
      have h := h.1 c10
      exact kv_X4_next_37 h K
    · intro c11
      have h := h.2 c11
      intro x13 e12
      have h := h x13 e12
      intro x15 e14
      have h := h x15 e14
      intro x17 e16
      have h := h x17 e16
      have K := kv_I K e16
      intro x19 e18
      have h := h x19 e18
      exact hX2 _ _ _ h rfl K
theorem kv_X4_next_2 {Q : HS → Prop} {v0 : Nat} {v1 : Int32} {S0 S : HS} (h : P_X4_next_2 Q v0 v1 S) (K : KV v0 S0 S) : P_X4_next_2 (fun T => Q T ∧ KV v0 S0 T) v0 v1 S := h (fun w0 v1 S => w0 = v0 → KV v0 S0 S → P_X4_next_2 (fun T => Q T ∧ KV v0 S0 T) w0 v1 S) (fun w0 v1 S hB e K => by
  subst e; exact fd_X4_next_2 (kvB_X4_next_2 hB K (fun _ _ _ hx e K => hx e K))) rfl K
set_option maxRecDepth 20000 in
set_option maxHeartbeats 1000000 in
theorem kv_X4_next_0 {Q : HS → Prop} {v0 : Nat} {S0 S : HS} (h : P_X4_next_0 Q v0 S) (K : KV v0 S0 S) : P_X4_next_0 (fun T => Q T ∧ KV v0 S0 T) v0 S := by
  delta P_X4_next_0 at h ⊢
  exact kv_X4_next_2 h K
theorem kv_X4_next {Q : HS → Prop} {v0 : Nat} {S : HS} (h : P_X4_next v0 Q S) : P_X4_next v0 (fun T => Q T ∧ KV v0 S T) S := kv_X4_next_0 h (kv_rf _ S)
set_option maxRecDepth 20000 in
set_option maxHeartbeats 1000000 in
theorem kv_X4_whole_34 {Q : Int32 → HS → Prop} {v0 : Nat} {S0 S : HS} (h : P_X4_whole_34 Q v0 S) (K : KV v0 S0 S) : P_X4_whole_34 (fun r T => Q r T ∧ KV v0 S0 T) v0 S := by
  delta P_X4_whole_34 at h ⊢
  obtain ⟨c1, h⟩ := h
  refine ⟨c1, ?_⟩
  refine cm_X4_fail (kv_X4_fail h) h (fun x2 x3 p6 h g4 g5 => ?_)
  have h := h g4 g5
  have K := kv_tr K p6.2
  obtain ⟨c7, h⟩ := h
  refine ⟨c7, ?_⟩
  exact ⟨h, K⟩
set_option maxRecDepth 20000 in
set_option maxHeartbeats 1000000 in
theorem kv_X4_whole_0 {Q : Int32 → HS → Prop} {v0 : Nat} {v1 : Int32} {v2 : Int32} {S0 S : HS} (h : P_X4_whole_0 Q v0 v1 v2 S) (K : KV v0 S0 S) : P_X4_whole_0 (fun r T => Q r T ∧ KV v0 S0 T) v0 v1 v2 S := by
  delta P_X4_whole_0 at h ⊢
  obtain ⟨c1, h⟩ := h
  refine ⟨c1, ?_⟩
  intro x3 e2
  have h := h x3 e2
  refine ⟨?_, ?_⟩
  · intro c4
    have h := h.1 c4
    intro x6 e5
    have h := h x6 e5
    refine ⟨?_, ?_⟩
    · intro c7
      have h := h.1 c7
      exact kv_X4_whole_34 h K
    · intro c8
      have h := h.2 c8
      intro x10 e9
      have h := h x10 e9
      refine ⟨?_, ?_⟩
      · intro c11
        have h := h.1 c11
        intro x13 e12
        have h := h x13 e12
        intro x15 e14
        have h := h x15 e14
        intro x17 e16
        have h := h x17 e16
        have K := kv_I K e16
        refine cm_X4_next (kv_X4_next h) h (fun x18 p20 h g19 => ?_)
        have h := h g19
        have K := kv_tr K p20.2
        exact ⟨h, K⟩
      · intro c21
        have h := h.2 c21
        exact kv_X4_whole_34 h K
  · intro c22
    have h := h.2 c22
    refine cm_X4_fail (kv_X4_fail h) h (fun x23 x24 p27 h g25 g26 => ?_)
    have h := h g25 g26
    have K := kv_tr K p27.2
    obtain ⟨c28, h⟩ := h
    refine ⟨c28, ?_⟩
    exact ⟨h, K⟩
theorem kv_X4_whole {Q : Int32 → HS → Prop} {v0 : Nat} {v1 : Int32} {v2 : Int32} {S : HS} (h : P_X4_whole v0 v1 v2 Q S) : P_X4_whole v0 v1 v2 (fun r T => Q r T ∧ KV v0 S T) S := kv_X4_whole_0 h (kv_rf _ S)
set_option maxRecDepth 20000 in
set_option maxHeartbeats 1000000 in
theorem kzB_X4_is_15 {Q : Int32 → HS → Prop} {X15 X15_2 : Nat → Nat → Int64 → Int32 → HS → Prop} {v0 : Nat} {v1 : Nat} {v2 : Int64} {v4 : Int32} {S0 S : HS} (h : B_X4_is_15 Q X15 v0 v1 v2 v4 S) (K : KZ S0 S) (hX15 : ∀ (u0 : Nat) (u1 : Nat) (u2 : Int64) (u3 : Int32) (u4 : HS), X15 u0 u1 u2 u3 u4 → KZ S0 u4 → X15_2 u0 u1 u2 u3 u4) : B_X4_is_15 (fun r T => Q r T ∧ KZ S0 T) X15_2 v0 v1 v2 v4 S := by
  delta B_X4_is_15 at h ⊢
  obtain ⟨c1, h⟩ := h
  refine ⟨c1, ?_⟩
  intro x3 e2
  have h := h x3 e2
  refine ⟨?_, ?_⟩
  · intro c4
    have h := h.1 c4
    obtain ⟨c5, h⟩ := h
    refine ⟨c5, ?_⟩
    intro x7 e6
    have h := h x7 e6
    refine ⟨?_, ?_⟩
    · intro c8
      have h := h.1 c8
      exact ⟨h, K⟩
    · intro c9
      have h := h.2 c9
      exact ⟨h, K⟩
  · intro c10
    have h := h.2 c10
    obtain ⟨c11, h⟩ := h
    refine ⟨c11, ?_⟩
    obtain ⟨c12, h⟩ := h
    refine ⟨c12, ?_⟩
    intro x14 e13
    have h := h x14 e13
    intro x16 e15
    have h := h x16 e15
    intro x18 e17
    have h := h x18 e17
    exact hX15 _ _ _ _ _ h K
theorem kz_X4_is_15 {Q : Int32 → HS → Prop} {v0 : Nat} {v1 : Nat} {v2 : Int64} {v4 : Int32} {S0 S : HS} (h : P_X4_is_15 Q v0 v1 v2 v4 S) (K : KZ S0 S) : P_X4_is_15 (fun r T => Q r T ∧ KZ S0 T) v0 v1 v2 v4 S := h (fun w0 v1 v2 v4 S => KZ S0 S → P_X4_is_15 (fun r T => Q r T ∧ KZ S0 T) w0 v1 v2 v4 S) (fun w0 v1 v2 v4 S hB K => by
  exact fd_X4_is_15 (kzB_X4_is_15 hB K (fun _ _ _ _ _ hx K => hx K))) K
set_option maxRecDepth 20000 in
set_option maxHeartbeats 1000000 in
theorem kz_X4_is_0 {Q : Int32 → HS → Prop} {v0 : Nat} {v1 : Nat} {S0 S : HS} (h : P_X4_is_0 Q v0 v1 S) (K : KZ S0 S) : P_X4_is_0 (fun r T => Q r T ∧ KZ S0 T) v0 v1 S := by
  delta P_X4_is_0 at h ⊢
  obtain ⟨c1, h⟩ := h
  refine ⟨c1, ?_⟩
  intro x3 e2
  have h := h x3 e2
  refine ⟨?_, ?_⟩
  · intro c4
    have h := h.1 c4
    exact kz_X4_is_15 h K
  · intro c5
    have h := h.2 c5
    exact ⟨h, K⟩
theorem kz_X4_is {Q : Int32 → HS → Prop} {v0 : Nat} {v1 : Nat} {S : HS} (h : P_X4_is v0 v1 Q S) : P_X4_is v0 v1 (fun r T => Q r T ∧ KZ S T) S := kz_X4_is_0 h (kz_rf S)
set_option maxRecDepth 20000 in
set_option maxHeartbeats 1000000 in
theorem kv_X4_word_0 {Q : Int32 → HS → Prop} {v0 : Nat} {v1 : Nat} {S0 S : HS} (h : P_X4_word_0 Q v0 v1 S) (K : KV v0 S0 S) : P_X4_word_0 (fun r T => Q r T ∧ KV v0 S0 T) v0 v1 S := by
  delta P_X4_word_0 at h ⊢
  obtain ⟨c1, h⟩ := h
  refine ⟨c1, ?_⟩
  refine cm_X4_is (kz_X4_is h) h (fun x2 x3 p6 h g4 g5 => ?_)
  have h := h g4 g5
  have K := kv_Z K p6.2
  refine ⟨?_, ?_⟩
  · intro c7
    have h := h.1 c7
    refine cm_X4_next (kv_X4_next h) h (fun x8 p10 h g9 => ?_)
    have h := h g9
    have K := kv_tr K p10.2
    exact ⟨h, K⟩
  · intro c11
    have h := h.2 c11
    refine cm_X4_fail (kv_X4_fail h) h (fun x12 x13 p16 h g14 g15 => ?_)
    have h := h g14 g15
    have K := kv_tr K p16.2
    obtain ⟨c17, h⟩ := h
    refine ⟨c17, ?_⟩
    exact ⟨h, K⟩
theorem kv_X4_word {Q : Int32 → HS → Prop} {v0 : Nat} {v1 : Nat} {S : HS} (h : P_X4_word v0 v1 Q S) : P_X4_word v0 v1 (fun r T => Q r T ∧ KV v0 S T) S := kv_X4_word_0 h (kv_rf _ S)
set_option maxRecDepth 20000 in
set_option maxHeartbeats 1000000 in
theorem kv_X4_wordAndWhole_0 {Q : Int32 → HS → Prop} {v0 : Nat} {v1 : Nat} {v2 : Int32} {v3 : Int32} {S0 S : HS} (h : P_X4_wordAndWhole_0 Q v0 v1 v2 v3 S) (K : KV v0 S0 S) : P_X4_wordAndWhole_0 (fun r T => Q r T ∧ KV v0 S0 T) v0 v1 v2 v3 S := by
  delta P_X4_wordAndWhole_0 at h ⊢
  obtain ⟨c1, h⟩ := h
  refine ⟨c1, ?_⟩
  refine cm_X4_word (kv_X4_word h) h (fun x2 x3 p6 h g4 g5 => ?_)
  have h := h g4 g5
  have K := kv_tr K p6.2
  refine ⟨?_, ?_⟩
  · intro c7
    have h := h.1 c7
    exact ⟨h, K⟩
  · intro c8
    have h := h.2 c8
    refine cm_X4_whole (kv_X4_whole h) h (fun x9 x10 p13 h g11 g12 => ?_)
    have h := h g11 g12
    have K := kv_tr K p13.2
    refine ⟨?_, ?_⟩
    · intro c14
      have h := h.1 c14
      exact ⟨h, K⟩
    · intro c15
      have h := h.2 c15
      exact ⟨h, K⟩
theorem kv_X4_wordAndWhole {Q : Int32 → HS → Prop} {v0 : Nat} {v1 : Nat} {v2 : Int32} {v3 : Int32} {S : HS} (h : P_X4_wordAndWhole v0 v1 v2 v3 Q S) : P_X4_wordAndWhole v0 v1 v2 v3 (fun r T => Q r T ∧ KV v0 S T) S := kv_X4_wordAndWhole_0 h (kv_rf _ S)
set_option maxRecDepth 20000 in
set_option maxHeartbeats 1000000 in
theorem kv_X6_shape_16 {Q : HS → Prop} {v0 : Nat} {v1 : Int32} {v2 : Int32} {v3 : Int32} {s0 : Int32} {S0 S : HS} (h : P_X6_shape_16 Q v0 v1 v2 v3 s0 S) (K : KV v0 S0 S) : P_X6_shape_16 (fun T => Q T ∧ KV v0 S0 T) v0 v1 v2 v3 s0 S := by
  delta P_X6_shape_16 at h ⊢
  obtain ⟨c1, h⟩ := h
  refine ⟨c1, ?_⟩
  intro x3 e2
  have h := h x3 e2
  intro x5 e4
  have h := h x5 e4
  have K := kv_I K e4
  intro x7 e6
  have h := h x7 e6
  intro x9 e8
  have h := h x9 e8
  have K := kv_I K e8
  intro x11 e10
  have h := h x11 e10
  intro x13 e12
  have h := h x13 e12
  have K := kv_I K e12
  exact ⟨h, K⟩
set_option maxRecDepth 20000 in
set_option maxHeartbeats 1000000 in
theorem kv_X6_shape_0 {Q : HS → Prop} {v0 : Nat} {v1 : Int32} {v2 : Int32} {v3 : Int32} {S0 S : HS} (h : P_X6_shape_0 Q v0 v1 v2 v3 S) (K : KV v0 S0 S) : P_X6_shape_0 (fun T => Q T ∧ KV v0 S0 T) v0 v1 v2 v3 S := by
  delta P_X6_shape_0 at h ⊢
  obtain ⟨c1, h⟩ := h
  refine ⟨c1, ?_⟩
  intro x3 e2
  have h := h x3 e2
  refine ⟨?_, ?_⟩
  · intro c4
    have h := h.1 c4
    exact kv_X6_shape_16 h K
  · intro c5
    have h := h.2 c5
    intro x7 e6
    have h := h x7 e6
    exact kv_X6_shape_16 h K
theorem kv_X6_shape {Q : HS → Prop} {v0 : Nat} {v1 : Int32} {v2 : Int32} {v3 : Int32} {S : HS} (h : P_X6_shape v0 v1 v2 v3 Q S) : P_X6_shape v0 v1 v2 v3 (fun T => Q T ∧ KV v0 S T) S := kv_X6_shape_0 h (kv_rf _ S)
set_option maxRecDepth 20000 in
set_option maxHeartbeats 1000000 in
theorem ko_X4_bodyOf_58 {Q : Int32 → HS → Prop} {v0 : Nat} {v1 : Nat} {v2 : Int32} {v3 : Int32} {s0 : Int32} {S0 S : HS} (h : P_X4_bodyOf_58 Q v0 v1 v2 v3 s0 S) (K : KO_C v0 S0 S) (o_v1 : OwS_C v0 S0 v1) : P_X4_bodyOf_58 (fun r T => Q r T ∧ KO_C v0 S0 T) v0 v1 v2 v3 s0 S := by
  delta P_X4_bodyOf_58 at h ⊢
  obtain ⟨c1, h⟩ := h
  refine ⟨c1, ?_⟩
  refine cm_X4_wordAndWhole (kv_X4_wordAndWhole h) h (fun x2 x3 p6 h g4 g5 => ?_)
  have h := h g4 g5
  have K := koc_V K p6.2 owc_r
  refine ⟨?_, ?_⟩
  · intro c7
    have h := h.1 c7
    intro x9 e8
    have h := h x9 e8
    obtain ⟨c10, h⟩ := h
    refine ⟨c10, ?_⟩
    refine cm_X6_shape (kv_X6_shape h) h (fun x11 p13 h g12 => ?_)
    have h := h g12
    have K := koc_V K p13.2 o_v1
    exact ⟨h, K⟩
  · intro c14
    have h := h.2 c14
    exact ⟨h, K⟩
set_option maxRecDepth 20000 in
set_option maxHeartbeats 1000000 in
theorem ko_X4_bodyOf_0 {Q : Int32 → HS → Prop} {v0 : Nat} {v1 : Nat} {S0 S : HS} (h : P_X4_bodyOf_0 Q v0 v1 S) (K : KO_C v0 S0 S) (o_v1 : OwS_C v0 S0 v1) : P_X4_bodyOf_0 (fun r T => Q r T ∧ KO_C v0 S0 T) v0 v1 S := by
  delta P_X4_bodyOf_0 at h ⊢
  obtain ⟨c1, h⟩ := h
  refine ⟨c1, ?_⟩
  refine cm_X4_wordAndWhole (kv_X4_wordAndWhole h) h (fun x2 x3 p6 h g4 g5 => ?_)
  have h := h g4 g5
  have K := koc_V K p6.2 owc_r
  refine ⟨?_, ?_⟩
  · intro c7
    have h := h.1 c7
    intro x9 e8
    have h := h x9 e8
    refine cm_X4_wordAndWhole (kv_X4_wordAndWhole h) h (fun x10 x11 p14 h g12 g13 => ?_)
    have h := h g12 g13
    have K := koc_V K p14.2 owc_r
    refine ⟨?_, ?_⟩
    · intro c15
      have h := h.1 c15
      intro x17 e16
      have h := h x17 e16
      obtain ⟨c18, h⟩ := h
      refine ⟨c18, ?_⟩
      intro x20 e19
      have h := h x20 e19
      refine ⟨?_, ?_⟩
      · intro c21
        have h := h.1 c21
        exact ko_X4_bodyOf_58 h K o_v1
      · intro c22
        have h := h.2 c22
        intro x24 e23
        have h := h x24 e23
        exact ko_X4_bodyOf_58 h K o_v1
    · intro c25
      have h := h.2 c25
      exact ⟨h, K⟩
  · intro c26
    have h := h.2 c26
    exact ⟨h, K⟩
theorem ko_X4_bodyOf {Q : Int32 → HS → Prop} {v0 : Nat} {v1 : Nat} {S : HS} (h : P_X4_bodyOf v0 v1 Q S) (o_v1 : OwS_C v0 S v1) : P_X4_bodyOf v0 v1 (fun r T => Q r T ∧ KO_C v0 S T) S := ko_X4_bodyOf_0 h (koc_rf _ S) o_v1
set_option maxRecDepth 20000 in
set_option maxHeartbeats 1000000 in
theorem kz_X4_canBeName_86 {Q : Int32 → HS → Prop} {v0 : Nat} {s0 : Int32} {S0 S : HS} (h : P_X4_canBeName_86 Q v0 s0 S) (K : KZ S0 S) : P_X4_canBeName_86 (fun r T => Q r T ∧ KZ S0 T) v0 s0 S := by
  delta P_X4_canBeName_86 at h ⊢
  obtain ⟨c1, h⟩ := h
  refine ⟨c1, ?_⟩
  intro x3 e2
  have h := h x3 e2
  refine ⟨?_, ?_⟩
  · intro c4
    have h := h.1 c4
    exact ⟨h, K⟩
  · intro c5
    have h := h.2 c5
    refine ⟨?_, ?_⟩
    · intro c6
      have h := h.1 c6
      exact ⟨h, K⟩
    · intro c7
      have h := h.2 c7
      exact ⟨h, K⟩
set_option maxRecDepth 20000 in
set_option maxHeartbeats 1000000 in
theorem kz_X4_canBeName_81 {Q : Int32 → HS → Prop} {v0 : Nat} {S0 S : HS} (h : P_X4_canBeName_81 Q v0 S) (K : KZ S0 S) : P_X4_canBeName_81 (fun r T => Q r T ∧ KZ S0 T) v0 S := by
  delta P_X4_canBeName_81 at h ⊢
  exact kz_X4_canBeName_86 h K
set_option maxRecDepth 20000 in
set_option maxHeartbeats 1000000 in
theorem kz_X4_canBeName_0 {Q : Int32 → HS → Prop} {v0 : Nat} {S0 S : HS} (h : P_X4_canBeName_0 Q v0 S) (K : KZ S0 S) : P_X4_canBeName_0 (fun r T => Q r T ∧ KZ S0 T) v0 S := by
  delta P_X4_canBeName_0 at h ⊢
  obtain ⟨c1, h⟩ := h
  refine ⟨c1, ?_⟩
  refine cm_X4_is (kz_X4_is h) h (fun x2 x3 p6 h g4 g5 => ?_)
  have h := h g4 g5
  have K := kz_Z K p6.2
  refine ⟨?_, ?_⟩
  · intro c7
    have h := h.1 c7
    exact kz_X4_canBeName_81 h K
  · intro c8
    have h := h.2 c8
    refine cm_X4_is (kz_X4_is h) h (fun x9 x10 p13 h g11 g12 => ?_)
    have h := h g11 g12
    have K := kz_Z K p13.2
    refine ⟨?_, ?_⟩
    · intro c14
      have h := h.1 c14
      exact kz_X4_canBeName_81 h K
    · intro c15
      have h := h.2 c15
      refine cm_X4_is (kz_X4_is h) h (fun x16 x17 p20 h g18 g19 => ?_)
      have h := h g18 g19
      have K := kz_Z K p20.2
      refine ⟨?_, ?_⟩
      · intro c21
        have h := h.1 c21
        exact kz_X4_canBeName_81 h K
      · intro c22
        have h := h.2 c22
        refine cm_X4_is (kz_X4_is h) h (fun x23 x24 p27 h g25 g26 => ?_)
        have h := h g25 g26
        have K := kz_Z K p27.2
        refine ⟨?_, ?_⟩
        · intro c28
          have h := h.1 c28
          exact kz_X4_canBeName_81 h K
        · intro c29
          have h := h.2 c29
          refine cm_X4_is (kz_X4_is h) h (fun x30 x31 p34 h g32 g33 => ?_)
          have h := h g32 g33
          have K := kz_Z K p34.2
          refine ⟨?_, ?_⟩
          · intro c35
            have h := h.1 c35
            exact kz_X4_canBeName_81 h K
          · intro c36
            have h := h.2 c36
            refine cm_X4_is (kz_X4_is h) h (fun x37 x38 p41 h g39 g40 => ?_)
            have h := h g39 g40
            have K := kz_Z K p41.2
            refine ⟨?_, ?_⟩
            · intro c42
              have h := h.1 c42
              exact kz_X4_canBeName_81 h K
            · intro c43
              have h := h.2 c43
              refine cm_X4_is (kz_X4_is h) h (fun x44 x45 p48 h g46 g47 => ?_)
              have h := h g46 g47
              have K := kz_Z K p48.2
              refine ⟨?_, ?_⟩
              · intro c49
                have h := h.1 c49
                exact kz_X4_canBeName_81 h K
              · intro c50
                have h := h.2 c50
                refine cm_X4_is (kz_X4_is h) h (fun x51 x52 p55 h g53 g54 => ?_)
                have h := h g53 g54
                have K := kz_Z K p55.2
                refine ⟨?_, ?_⟩
                · intro c56
                  have h := h.1 c56
                  exact kz_X4_canBeName_81 h K
                · intro c57
                  have h := h.2 c57
                  refine cm_X4_is (kz_X4_is h) h (fun x58 x59 p62 h g60 g61 => ?_)
                  have h := h g60 g61
                  have K := kz_Z K p62.2
                  refine ⟨?_, ?_⟩
                  · intro c63
                    have h := h.1 c63
                    exact kz_X4_canBeName_86 h K
                  · intro c64
                    have h := h.2 c64
                    exact kz_X4_canBeName_81 h K
theorem kz_X4_canBeName {Q : Int32 → HS → Prop} {v0 : Nat} {S : HS} (h : P_X4_canBeName v0 Q S) : P_X4_canBeName v0 (fun r T => Q r T ∧ KZ S T) S := kz_X4_canBeName_0 h (kz_rf S)
set_option maxRecDepth 20000 in
set_option maxHeartbeats 1000000 in
theorem kzB_X4_findName_2 {Q : Int32 → HS → Prop} {X2 X2_2 : Nat → Int32 → HS → Prop} {v0 : Nat} {v1 : Int32} {S0 S : HS} (h : B_X4_findName_2 Q X2 v0 v1 S) (K : KZ S0 S) (hX2 : ∀ (u0 : Nat) (u1 : Int32) (u2 : HS), X2 u0 u1 u2 → KZ S0 u2 → X2_2 u0 u1 u2) : B_X4_findName_2 (fun r T => Q r T ∧ KZ S0 T) X2_2 v0 v1 S := by
  delta B_X4_findName_2 at h ⊢
  obtain ⟨c1, h⟩ := h
  refine ⟨c1, ?_⟩
  intro x3 e2
  have h := h x3 e2
  refine ⟨?_, ?_⟩
  · intro c4
    have h := h.1 c4
    exact ⟨h, K⟩
  · intro c5
    have h := h.2 c5
    refine ⟨?_, ?_⟩
    · intro c6
      have h := h.1 c6
      exact ⟨h, K⟩
    · intro c7
      have h := h.2 c7
      obtain ⟨b8, e9, h⟩ := h
      refine ⟨b8, e9, ?_⟩
      obtain ⟨c10, h⟩ := h
      refine ⟨c10, ?_⟩
      obtain ⟨c11, h⟩ := h
      refine ⟨c11, ?_⟩
      intro x13 e12
      have h := h x13 e12
      intro x15 e14
      have h := h x15 e14
      refine ⟨?_, ?_⟩
      · intro c16
        have h := h.1 c16
        intro x18 e17
        have h := h x18 e17
        exact hX2 _ _ _ h K
      · intro c19
        have h := h.2 c19
        obtain ⟨b20, e21, h⟩ := h
        refine ⟨b20, e21, ?_⟩
        obtain ⟨c22, h⟩ := h
        refine ⟨c22, ?_⟩
        obtain ⟨c23, h⟩ := h
        refine ⟨c23, ?_⟩
        intro x25 e24
        have h := h x25 e24
        exact ⟨h, K⟩
theorem kz_X4_findName_2 {Q : Int32 → HS → Prop} {v0 : Nat} {v1 : Int32} {S0 S : HS} (h : P_X4_findName_2 Q v0 v1 S) (K : KZ S0 S) : P_X4_findName_2 (fun r T => Q r T ∧ KZ S0 T) v0 v1 S := h (fun w0 v1 S => KZ S0 S → P_X4_findName_2 (fun r T => Q r T ∧ KZ S0 T) w0 v1 S) (fun w0 v1 S hB K => by
  exact fd_X4_findName_2 (kzB_X4_findName_2 hB K (fun _ _ _ hx K => hx K))) K
set_option maxRecDepth 20000 in
set_option maxHeartbeats 1000000 in
theorem kz_X4_findName_0 {Q : Int32 → HS → Prop} {v0 : Nat} {S0 S : HS} (h : P_X4_findName_0 Q v0 S) (K : KZ S0 S) : P_X4_findName_0 (fun r T => Q r T ∧ KZ S0 T) v0 S := by
  delta P_X4_findName_0 at h ⊢
  exact kz_X4_findName_2 h K
theorem kz_X4_findName {Q : Int32 → HS → Prop} {v0 : Nat} {S : HS} (h : P_X4_findName v0 Q S) : P_X4_findName v0 (fun r T => Q r T ∧ KZ S T) S := kz_X4_findName_0 h (kz_rf S)
set_option maxRecDepth 20000 in
set_option maxHeartbeats 1000000 in
theorem kz_X8_isTold_0 {Q : Int32 → HS → Prop} {v0 : Nat} {S0 S : HS} (h : P_X8_isTold_0 Q v0 S) (K : KZ S0 S) : P_X8_isTold_0 (fun r T => Q r T ∧ KZ S0 T) v0 S := by
  delta P_X8_isTold_0 at h ⊢
  obtain ⟨c1, h⟩ := h
  refine ⟨c1, ?_⟩
  intro x3 e2
  have h := h x3 e2
  refine ⟨?_, ?_⟩
  · intro c4
    have h := h.1 c4
    exact ⟨h, K⟩
  · intro c5
    have h := h.2 c5
    exact ⟨h, K⟩
theorem kz_X8_isTold {Q : Int32 → HS → Prop} {v0 : Nat} {S : HS} (h : P_X8_isTold v0 Q S) : P_X8_isTold v0 (fun r T => Q r T ∧ KZ S T) S := kz_X8_isTold_0 h (kz_rf S)
set_option maxRecDepth 20000 in
set_option maxHeartbeats 1000000 in
theorem kv_X4_hasRoom_0 {Q : Int32 → HS → Prop} {v0 : Nat} {v1 : Int32} {v2 : Int32} {S0 S : HS} (h : P_X4_hasRoom_0 Q v0 v1 v2 S) (K : KV v0 S0 S) : P_X4_hasRoom_0 (fun r T => Q r T ∧ KV v0 S0 T) v0 v1 v2 S := by
  delta P_X4_hasRoom_0 at h ⊢
  obtain ⟨c1, h⟩ := h
  refine ⟨c1, ?_⟩
  obtain ⟨b2, e3, h⟩ := h
  refine ⟨b2, e3, ?_⟩
  obtain ⟨c4, h⟩ := h
  refine ⟨c4, ?_⟩
  refine cm_X8_isTold (kz_X8_isTold h) h (fun x5 x6 p9 h g7 g8 => ?_)
  have h := h g7 g8
  have K := kv_Z K p9.2
  refine ⟨?_, ?_⟩
  · intro c10
    have h := h.1 c10
    refine ⟨?_, ?_⟩
    · intro c11
      have h := h.1 c11
      refine cm_X4_next (kv_X4_next h) h (fun x12 p14 h g13 => ?_)
      have h := h g13
      have K := kv_tr K p14.2
      exact ⟨h, K⟩
    · intro c15
      have h := h.2 c15
      refine cm_X4_fail (kv_X4_fail h) h (fun x16 x17 p20 h g18 g19 => ?_)
      have h := h g18 g19
      have K := kv_tr K p20.2
      obtain ⟨c21, h⟩ := h
      refine ⟨c21, ?_⟩
      exact ⟨h, K⟩
  · intro c22
    have h := h.2 c22
    refine cm_X4_fail (kv_X4_fail h) h (fun x23 x24 p27 h g25 g26 => ?_)
    have h := h g25 g26
    have K := kv_tr K p27.2
    obtain ⟨c28, h⟩ := h
    refine ⟨c28, ?_⟩
    exact ⟨h, K⟩
theorem kv_X4_hasRoom {Q : Int32 → HS → Prop} {v0 : Nat} {v1 : Int32} {v2 : Int32} {S : HS} (h : P_X4_hasRoom v0 v1 v2 Q S) : P_X4_hasRoom v0 v1 v2 (fun r T => Q r T ∧ KV v0 S T) S := kv_X4_hasRoom_0 h (kv_rf _ S)
set_option maxRecDepth 20000 in
set_option maxHeartbeats 1000000 in
theorem ko_X4_kindOf_0 {Q : Int32 → HS → Prop} {v0 : Nat} {v1 : Nat} {S0 S : HS} (h : P_X4_kindOf_0 Q v0 v1 S) (K : KO_C v0 S0 S) (o_v1 : OwS_C v0 S0 v1) : P_X4_kindOf_0 (fun r T => Q r T ∧ KO_C v0 S0 T) v0 v1 S := by
  delta P_X4_kindOf_0 at h ⊢
  obtain ⟨c1, h⟩ := h
  refine ⟨c1, ?_⟩
  intro x3 e2
  have h := h x3 e2
  have K := koc_I K e2 owc_r
  refine cm_X4_is (kz_X4_is h) h (fun x4 x5 p8 h g6 g7 => ?_)
  have h := h g6 g7
  have K := koc_Z K p8.2
  refine ⟨?_, ?_⟩
  · intro c9
    have h := h.1 c9
    refine cm_X4_is (kz_X4_is h) h (fun x10 x11 p14 h g12 g13 => ?_)
    have h := h g12 g13
    have K := koc_Z K p14.2
    refine ⟨?_, ?_⟩
    · intro c15
      have h := h.1 c15
      refine cm_X4_is (kz_X4_is h) h (fun x16 x17 p20 h g18 g19 => ?_)
      have h := h g18 g19
      have K := koc_Z K p20.2
      refine ⟨?_, ?_⟩
      · intro c21
        have h := h.1 c21
        obtain ⟨c22, h⟩ := h
        refine ⟨c22, ?_⟩
        intro x24 e23
        have h := h x24 e23
        have K := koc_I K e23 o_v1
        refine cm_X4_word (kv_X4_word h) h (fun x25 x26 p29 h g27 g28 => ?_)
        have h := h g27 g28
        have K := koc_V K p29.2 owc_r
        intro x31 e30
        have h := h x31 e30
        intro x33 e32
        have h := h x33 e32
        have K := koc_I K e32 o_v1
        obtain ⟨c34, h⟩ := h
        refine ⟨c34, ?_⟩
        exact ⟨h, K⟩
      · intro c35
        have h := h.2 c35
        obtain ⟨c36, h⟩ := h
        refine ⟨c36, ?_⟩
        intro x38 e37
        have h := h x38 e37
        have K := koc_I K e37 o_v1
        refine cm_X4_wordAndWhole (kv_X4_wordAndWhole h) h (fun x39 x40 p43 h g41 g42 => ?_)
        have h := h g41 g42
        have K := koc_V K p43.2 owc_r
        intro x45 e44
        have h := h x45 e44
        intro x47 e46
        have h := h x47 e46
        have K := koc_I K e46 o_v1
        obtain ⟨c48, h⟩ := h
        refine ⟨c48, ?_⟩
        exact ⟨h, K⟩
    · intro c49
      have h := h.2 c49
      obtain ⟨c50, h⟩ := h
      refine ⟨c50, ?_⟩
      intro x52 e51
      have h := h x52 e51
      have K := koc_I K e51 o_v1
      refine cm_X4_wordAndWhole (kv_X4_wordAndWhole h) h (fun x53 x54 p57 h g55 g56 => ?_)
      have h := h g55 g56
      have K := koc_V K p57.2 owc_r
      intro x59 e58
      have h := h x59 e58
      intro x61 e60
      have h := h x61 e60
      have K := koc_I K e60 o_v1
      obtain ⟨c62, h⟩ := h
      refine ⟨c62, ?_⟩
      exact ⟨h, K⟩
  · intro c63
    have h := h.2 c63
    obtain ⟨c64, h⟩ := h
    refine ⟨c64, ?_⟩
    intro x66 e65
    have h := h x66 e65
    have K := koc_I K e65 o_v1
    refine cm_X4_wordAndWhole (kv_X4_wordAndWhole h) h (fun x67 x68 p71 h g69 g70 => ?_)
    have h := h g69 g70
    have K := koc_V K p71.2 owc_r
    intro x73 e72
    have h := h x73 e72
    intro x75 e74
    have h := h x75 e74
    have K := koc_I K e74 o_v1
    obtain ⟨c76, h⟩ := h
    refine ⟨c76, ?_⟩
    exact ⟨h, K⟩
theorem ko_X4_kindOf {Q : Int32 → HS → Prop} {v0 : Nat} {v1 : Nat} {S : HS} (h : P_X4_kindOf v0 v1 Q S) (o_v1 : OwS_C v0 S v1) : P_X4_kindOf v0 v1 (fun r T => Q r T ∧ KO_C v0 S T) S := ko_X4_kindOf_0 h (koc_rf _ S) o_v1
set_option maxRecDepth 20000 in
set_option maxHeartbeats 1000000 in
theorem ko_X4_newName_69 {Q : Int32 → HS → Prop} {v0 : Nat} {S0 S : HS} (h : P_X4_newName_69 Q v0 S) (K : KO_C v0 S0 S) : P_X4_newName_69 (fun r T => Q r T ∧ KO_C v0 S0 T) v0 S := by
  delta P_X4_newName_69 at h ⊢
  obtain ⟨c1, h⟩ := h
  refine ⟨c1, ?_⟩
  refine cm_X4_next (kv_X4_next h) h (fun x2 p4 h g3 => ?_)
  have h := h g3
  have K := koc_V K p4.2 owc_r
  exact ⟨h, K⟩
set_option maxRecDepth 20000 in
set_option maxHeartbeats 1000000 in
theorem ko_X4_newName_0 {Q : Int32 → HS → Prop} {v0 : Nat} {v1 : Int32} {S0 S : HS} (h : P_X4_newName_0 Q v0 v1 S) (K : KO_C v0 S0 S) : P_X4_newName_0 (fun r T => Q r T ∧ KO_C v0 S0 T) v0 v1 S := by
  delta P_X4_newName_0 at h ⊢
  obtain ⟨c1, h⟩ := h
  refine ⟨c1, ?_⟩
  refine cm_X4_canBeName (kz_X4_canBeName h) h (fun x2 x3 p6 h g4 g5 => ?_)
  have h := h g4 g5
  have K := koc_Z K p6.2
  refine ⟨?_, ?_⟩
  · intro c7
    have h := h.1 c7
    refine cm_X4_findName (kz_X4_findName h) h (fun x8 x9 p11 h g10 => ?_)
    have h := h g10
    have K := koc_Z K p11.2
    refine ⟨?_, ?_⟩
    · intro c12
      have h := h.1 c12
      intro x14 e13
      have h := h x14 e13
      refine ⟨?_, ?_⟩
      · intro c15
        have h := h.1 c15
        exact ko_X4_newName_69 h K
      · intro c16
        have h := h.2 c16
        obtain ⟨b17, e18, h⟩ := h
        refine ⟨b17, e18, ?_⟩
        have f19 := koc_f K e18
        intro x21 e20
        have h := h x21 e20
        intro x23 e22
        have h := h x23 e22
        obtain ⟨c24, h⟩ := h
        refine ⟨c24, ?_⟩
        obtain ⟨c25, h⟩ := h
        refine ⟨c25, ?_⟩
        intro x27 e26
        have h := h x27 e26
        have K := koc_J K e26
        obtain ⟨b28, e29, h⟩ := h
        refine ⟨b28, e29, ?_⟩
        have f30 := koc_f K e29
        intro x32 e31
        have h := h x32 e31
        obtain ⟨c33, h⟩ := h
        refine ⟨c33, ?_⟩
        obtain ⟨c34, h⟩ := h
        refine ⟨c34, ?_⟩
        intro x36 e35
        have h := h x36 e35
        have K := koc_I K e35 (owc_a f30 (by decide))
        intro x38 e37
        have h := h x38 e37
        intro x40 e39
        have h := h x40 e39
        intro x42 e41
        have h := h x42 e41
        have K := koc_I K e41 owc_r
        exact ko_X4_newName_69 h K
    · intro c43
      have h := h.2 c43
      refine cm_X4_fail (kv_X4_fail h) h (fun x44 x45 p48 h g46 g47 => ?_)
      have h := h g46 g47
      have K := koc_V K p48.2 owc_r
      obtain ⟨c49, h⟩ := h
      refine ⟨c49, ?_⟩
      exact ⟨h, K⟩
  · intro c50
    have h := h.2 c50
    refine cm_X4_fail (kv_X4_fail h) h (fun x51 x52 p55 h g53 g54 => ?_)
    have h := h g53 g54
    have K := koc_V K p55.2 owc_r
    obtain ⟨c56, h⟩ := h
    refine ⟨c56, ?_⟩
    exact ⟨h, K⟩
theorem ko_X4_newName {Q : Int32 → HS → Prop} {v0 : Nat} {v1 : Int32} {S : HS} (h : P_X4_newName v0 v1 Q S) : P_X4_newName v0 v1 (fun r T => Q r T ∧ KO_C v0 S T) S := ko_X4_newName_0 h (koc_rf _ S)
set_option maxRecDepth 20000 in
set_option maxHeartbeats 1000000 in
theorem kv_X8_clear_0 {Q : HS → Prop} {v0 : Nat} {S0 S : HS} (h : P_X8_clear_0 Q v0 S) (K : KV v0 S0 S) : P_X8_clear_0 (fun T => Q T ∧ KV v0 S0 T) v0 S := by
  delta P_X8_clear_0 at h ⊢
  obtain ⟨c1, h⟩ := h
  refine ⟨c1, ?_⟩
  intro x3 e2
  have h := h x3 e2
  have K := kv_I K e2
  intro x5 e4
  have h := h x5 e4
  have K := kv_I K e4
  intro x7 e6
  have h := h x7 e6
  have K := kv_I K e6
  intro x9 e8
  have h := h x9 e8
  have K := kv_I K e8
  intro x11 e10
  have h := h x11 e10
  have K := kv_I K e10
  intro x13 e12
  have h := h x13 e12
  have K := kv_I K e12
  exact ⟨h, K⟩
theorem kv_X8_clear {Q : HS → Prop} {v0 : Nat} {S : HS} (h : P_X8_clear v0 Q S) : P_X8_clear v0 (fun T => Q T ∧ KV v0 S T) S := kv_X8_clear_0 h (kv_rf _ S)
set_option maxRecDepth 20000 in
set_option maxHeartbeats 1000000 in
theorem kv_X4_placeBut_29 {Q : Int32 → HS → Prop} {v0 : Nat} {S0 S : HS} (h : P_X4_placeBut_29 Q v0 S) (K : KV v0 S0 S) : P_X4_placeBut_29 (fun r T => Q r T ∧ KV v0 S0 T) v0 S := by
  delta P_X4_placeBut_29 at h ⊢
  obtain ⟨c1, h⟩ := h
  refine ⟨c1, ?_⟩
  refine cm_X4_fail (kv_X4_fail h) h (fun x2 x3 p6 h g4 g5 => ?_)
  have h := h g4 g5
  have K := kv_tr K p6.2
  obtain ⟨c7, h⟩ := h
  refine ⟨c7, ?_⟩
  exact ⟨h, K⟩
set_option maxRecDepth 20000 in
set_option maxHeartbeats 1000000 in
theorem kv_X4_placeBut_0 {Q : Int32 → HS → Prop} {v0 : Nat} {v1 : Int32} {S0 S : HS} (h : P_X4_placeBut_0 Q v0 v1 S) (K : KV v0 S0 S) : P_X4_placeBut_0 (fun r T => Q r T ∧ KV v0 S0 T) v0 v1 S := by
  delta P_X4_placeBut_0 at h ⊢
  obtain ⟨c1, h⟩ := h
  refine ⟨c1, ?_⟩
  refine cm_X4_canBeName (kz_X4_canBeName h) h (fun x2 x3 p6 h g4 g5 => ?_)
  have h := h g4 g5
  have K := kv_Z K p6.2
  refine ⟨?_, ?_⟩
  · intro c7
    have h := h.1 c7
    refine cm_X4_findName (kz_X4_findName h) h (fun x8 x9 p11 h g10 => ?_)
    have h := h g10
    have K := kv_Z K p11.2
    refine ⟨?_, ?_⟩
    · intro c12
      have h := h.1 c12
      exact kv_X4_placeBut_29 h K
    · intro c13
      have h := h.2 c13
      refine ⟨?_, ?_⟩
      · intro c14
        have h := h.1 c14
        refine ⟨?_, ?_⟩
        · intro c15
          have h := h.1 c15
          intro x17 e16
          have h := h x17 e16
          have K := kv_I K e16
          refine cm_X4_next (kv_X4_next h) h (fun x18 p20 h g19 => ?_)
          have h := h g19
          have K := kv_tr K p20.2
          exact ⟨h, K⟩
        · intro c21
          have h := h.2 c21
          refine cm_X4_fail (kv_X4_fail h) h (fun x22 x23 p26 h g24 g25 => ?_)
          have h := h g24 g25
          have K := kv_tr K p26.2
          obtain ⟨c27, h⟩ := h
          refine ⟨c27, ?_⟩
          exact ⟨h, K⟩
      · intro c28
        have h := h.2 c28
        exact kv_X4_placeBut_29 h K
  · intro c29
    have h := h.2 c29
    refine cm_X4_fail (kv_X4_fail h) h (fun x30 x31 p34 h g32 g33 => ?_)
    have h := h g32 g33
    have K := kv_tr K p34.2
    obtain ⟨c35, h⟩ := h
    refine ⟨c35, ?_⟩
    exact ⟨h, K⟩
theorem kv_X4_placeBut {Q : Int32 → HS → Prop} {v0 : Nat} {v1 : Int32} {S : HS} (h : P_X4_placeBut v0 v1 Q S) : P_X4_placeBut v0 v1 (fun r T => Q r T ∧ KV v0 S T) S := kv_X4_placeBut_0 h (kv_rf _ S)
set_option maxRecDepth 20000 in
set_option maxHeartbeats 1000000 in
theorem ko_X4_placeLine_64 {Q : Int32 → HS → Prop} {v0 : Nat} {v1 : Int32} {S0 S : HS} (h : P_X4_placeLine_64 Q v0 v1 S) (K : KO_C v0 S0 S) : P_X4_placeLine_64 (fun r T => Q r T ∧ KO_C v0 S0 T) v0 v1 S := by
  delta P_X4_placeLine_64 at h ⊢
  obtain ⟨c1, h⟩ := h
  refine ⟨c1, ?_⟩
  obtain ⟨b2, e3, h⟩ := h
  refine ⟨b2, e3, ?_⟩
  have f4 := koc_f K e3
  obtain ⟨c5, h⟩ := h
  refine ⟨c5, ?_⟩
  obtain ⟨b6, e7, h⟩ := h
  refine ⟨b6, e7, ?_⟩
  have f8 := koc_f K e7
  obtain ⟨b9, e10, h⟩ := h
  refine ⟨b9, e10, ?_⟩
  have f11 := koc_f K e10
  obtain ⟨c12, h⟩ := h
  refine ⟨c12, ?_⟩
  intro x14 e13
  have h := h x14 e13
  obtain ⟨c15, h⟩ := h
  refine ⟨c15, ?_⟩
  obtain ⟨c16, h⟩ := h
  refine ⟨c16, ?_⟩
  intro x18 e17
  have h := h x18 e17
  have K := koc_I K e17 (owc_d f4 f8 (by decide))
  obtain ⟨b19, e20, h⟩ := h
  refine ⟨b19, e20, ?_⟩
  have f21 := koc_f K e20
  obtain ⟨c22, h⟩ := h
  refine ⟨c22, ?_⟩
  intro x24 e23
  have h := h x24 e23
  intro x26 e25
  have h := h x26 e25
  intro x28 e27
  have h := h x28 e27
  have K := koc_I K e27 (owc_w f21)
  exact ⟨h, K⟩
set_option maxRecDepth 20000 in
set_option maxHeartbeats 1000000 in
theorem ko_X4_placeLine_0 {Q : Int32 → HS → Prop} {v0 : Nat} {S0 S : HS} (h : P_X4_placeLine_0 Q v0 S) (K : KO_C v0 S0 S) : P_X4_placeLine_0 (fun r T => Q r T ∧ KO_C v0 S0 T) v0 S := by
  delta P_X4_placeLine_0 at h ⊢
  obtain ⟨c1, h⟩ := h
  refine ⟨c1, ?_⟩
  obtain ⟨b2, e3, h⟩ := h
  refine ⟨b2, e3, ?_⟩
  have f4 := koc_f K e3
  obtain ⟨c5, h⟩ := h
  refine ⟨c5, ?_⟩
  intro x7 e6
  have h := h x7 e6
  refine cm_X4_newName (ko_X4_newName h) h (fun x8 x9 p12 h g10 g11 => ?_)
  have h := h g10 g11
  have K := koc_tr K p12.2
  refine ⟨?_, ?_⟩
  · intro c13
    have h := h.1 c13
    refine cm_X4_is (kz_X4_is h) h (fun x14 x15 p18 h g16 g17 => ?_)
    have h := h g16 g17
    have K := koc_Z K p18.2
    refine ⟨?_, ?_⟩
    · intro c19
      have h := h.1 c19
      refine cm_X4_is (kz_X4_is h) h (fun x20 x21 p24 h g22 g23 => ?_)
      have h := h g22 g23
      have K := koc_Z K p24.2
      refine ⟨?_, ?_⟩
      · intro c25
        have h := h.1 c25
        exact ko_X4_placeLine_64 h K
      · intro c26
        have h := h.2 c26
        refine cm_X4_wordAndWhole (kv_X4_wordAndWhole h) h (fun x27 x28 p31 h g29 g30 => ?_)
        have h := h g29 g30
        have K := koc_V K p31.2 owc_r
        refine ⟨?_, ?_⟩
        · intro c32
          have h := h.1 c32
          intro x34 e33
          have h := h x34 e33
          exact ko_X4_placeLine_64 h K
        · intro c35
          have h := h.2 c35
          exact ⟨h, K⟩
    · intro c36
      have h := h.2 c36
      refine cm_X4_next (kv_X4_next h) h (fun x37 p39 h g38 => ?_)
      have h := h g38
      have K := koc_V K p39.2 owc_r
      exact ko_X4_placeLine_64 h K
  · intro c40
    have h := h.2 c40
    exact ⟨h, K⟩
theorem ko_X4_placeLine {Q : Int32 → HS → Prop} {v0 : Nat} {S : HS} (h : P_X4_placeLine v0 Q S) : P_X4_placeLine v0 (fun r T => Q r T ∧ KO_C v0 S T) S := ko_X4_placeLine_0 h (koc_rf _ S)
set_option maxRecDepth 20000 in
set_option maxHeartbeats 1000000 in
theorem kv_X4_side_74 {Q : Int32 → HS → Prop} {v0 : Nat} {S0 S : HS} (h : P_X4_side_74 Q v0 S) (K : KV v0 S0 S) : P_X4_side_74 (fun r T => Q r T ∧ KV v0 S0 T) v0 S := by
  delta P_X4_side_74 at h ⊢
  obtain ⟨c1, h⟩ := h
  refine ⟨c1, ?_⟩
  refine cm_X4_next (kv_X4_next h) h (fun x2 p4 h g3 => ?_)
  have h := h g3
  have K := kv_tr K p4.2
  exact ⟨h, K⟩
set_option maxRecDepth 20000 in
set_option maxHeartbeats 1000000 in
theorem kv_X4_side_0 {Q : Int32 → HS → Prop} {v0 : Nat} {S0 S : HS} (h : P_X4_side_0 Q v0 S) (K : KV v0 S0 S) : P_X4_side_0 (fun r T => Q r T ∧ KV v0 S0 T) v0 S := by
  delta P_X4_side_0 at h ⊢
  obtain ⟨c1, h⟩ := h
  refine ⟨c1, ?_⟩
  refine cm_X4_is (kz_X4_is h) h (fun x2 x3 p6 h g4 g5 => ?_)
  have h := h g4 g5
  have K := kv_Z K p6.2
  refine ⟨?_, ?_⟩
  · intro c7
    have h := h.1 c7
    refine cm_X4_is (kz_X4_is h) h (fun x8 x9 p12 h g10 g11 => ?_)
    have h := h g10 g11
    have K := kv_Z K p12.2
    refine ⟨?_, ?_⟩
    · intro c13
      have h := h.1 c13
      refine cm_X4_is (kz_X4_is h) h (fun x14 x15 p18 h g16 g17 => ?_)
      have h := h g16 g17
      have K := kv_Z K p18.2
      refine ⟨?_, ?_⟩
      · intro c19
        have h := h.1 c19
        refine cm_X4_is (kz_X4_is h) h (fun x20 x21 p24 h g22 g23 => ?_)
        have h := h g22 g23
        have K := kv_Z K p24.2
        refine ⟨?_, ?_⟩
        · intro c25
          have h := h.1 c25
          refine cm_X4_fail (kv_X4_fail h) h (fun x26 x27 p30 h g28 g29 => ?_)
          have h := h g28 g29
          have K := kv_tr K p30.2
          obtain ⟨c31, h⟩ := h
          refine ⟨c31, ?_⟩
          exact ⟨h, K⟩
        · intro c32
          have h := h.2 c32
          intro x34 e33
          have h := h x34 e33
          have K := kv_I K e33
          exact kv_X4_side_74 h K
      · intro c35
        have h := h.2 c35
        intro x37 e36
        have h := h x37 e36
        have K := kv_I K e36
        exact kv_X4_side_74 h K
    · intro c38
      have h := h.2 c38
      intro x40 e39
      have h := h x40 e39
      have K := kv_I K e39
      exact kv_X4_side_74 h K
  · intro c41
    have h := h.2 c41
    intro x43 e42
    have h := h x43 e42
    have K := kv_I K e42
    exact kv_X4_side_74 h K
theorem kv_X4_side {Q : Int32 → HS → Prop} {v0 : Nat} {S : HS} (h : P_X4_side v0 Q S) : P_X4_side v0 (fun r T => Q r T ∧ KV v0 S T) S := kv_X4_side_0 h (kv_rf _ S)
set_option maxRecDepth 20000 in
set_option maxHeartbeats 1000000 in
theorem ko_X4_rainLine_0 {Q : Int32 → HS → Prop} {v0 : Nat} {S0 S : HS} (h : P_X4_rainLine_0 Q v0 S) (K : KO_C v0 S0 S) : P_X4_rainLine_0 (fun r T => Q r T ∧ KO_C v0 S0 T) v0 S := by
  delta P_X4_rainLine_0 at h ⊢
  obtain ⟨c1, h⟩ := h
  refine ⟨c1, ?_⟩
  obtain ⟨b2, e3, h⟩ := h
  refine ⟨b2, e3, ?_⟩
  have f4 := koc_f K e3
  obtain ⟨c5, h⟩ := h
  refine ⟨c5, ?_⟩
  obtain ⟨b6, e7, h⟩ := h
  refine ⟨b6, e7, ?_⟩
  have f8 := koc_f K e7
  obtain ⟨b9, e10, h⟩ := h
  refine ⟨b9, e10, ?_⟩
  have f11 := koc_f K e10
  obtain ⟨c12, h⟩ := h
  refine ⟨c12, ?_⟩
  intro x14 e13
  have h := h x14 e13
  obtain ⟨c15, h⟩ := h
  refine ⟨c15, ?_⟩
  obtain ⟨c16, h⟩ := h
  refine ⟨c16, ?_⟩
  obtain ⟨b17, e18, h⟩ := h
  refine ⟨b17, e18, ?_⟩
  have f19 := koc_f K e18
  refine cm_X4_wordAndWhole (kv_X4_wordAndWhole h) h (fun x20 x21 p24 h g22 g23 => ?_)
  have h := h g22 g23
  have K := koc_V K p24.2 owc_r
  refine ⟨?_, ?_⟩
  · intro c25
    have h := h.1 c25
    intro x27 e26
    have h := h x27 e26
    obtain ⟨c28, h⟩ := h
    refine ⟨c28, ?_⟩
    intro x30 e29
    have h := h x30 e29
    have K := koc_I K e29 (owc_e f4 f8 f19 (by decide))
    refine cm_X4_wordAndWhole (kv_X4_wordAndWhole h) h (fun x31 x32 p35 h g33 g34 => ?_)
    have h := h g33 g34
    have K := koc_V K p35.2 owc_r
    refine ⟨?_, ?_⟩
    · intro c36
      have h := h.1 c36
      intro x38 e37
      have h := h x38 e37
      intro x40 e39
      have h := h x40 e39
      have K := koc_I K e39 (owc_e f4 f8 f19 (by decide))
      refine cm_X4_word (kv_X4_word h) h (fun x41 x42 p45 h g43 g44 => ?_)
      have h := h g43 g44
      have K := koc_V K p45.2 owc_r
      refine ⟨?_, ?_⟩
      · intro c46
        have h := h.1 c46
        exact ⟨h, K⟩
      · intro c47
        have h := h.2 c47
        refine cm_X4_side (kv_X4_side h) h (fun x48 x49 p52 h g50 g51 => ?_)
        have h := h g50 g51
        have K := koc_V K p52.2 owc_r
        refine ⟨?_, ?_⟩
        · intro c53
          have h := h.1 c53
          intro x55 e54
          have h := h x55 e54
          intro x57 e56
          have h := h x57 e56
          have K := koc_I K e56 (owc_e f4 f8 f19 (by decide))
          refine cm_X4_whole (kv_X4_whole h) h (fun x58 x59 p62 h g60 g61 => ?_)
          have h := h g60 g61
          have K := koc_V K p62.2 owc_r
          refine ⟨?_, ?_⟩
          · intro c63
            have h := h.1 c63
            intro x65 e64
            have h := h x65 e64
            intro x67 e66
            have h := h x67 e66
            have K := koc_I K e66 (owc_e f4 f8 f19 (by decide))
            refine cm_X4_wordAndWhole (kv_X4_wordAndWhole h) h (fun x68 x69 p72 h g70 g71 => ?_)
            have h := h g70 g71
            have K := koc_V K p72.2 owc_r
            refine ⟨?_, ?_⟩
            · intro c73
              have h := h.1 c73
              intro x75 e74
              have h := h x75 e74
              intro x77 e76
              have h := h x77 e76
              have K := koc_I K e76 (owc_e f4 f8 f19 (by decide))
              obtain ⟨b78, e79, h⟩ := h
              refine ⟨b78, e79, ?_⟩
              have f80 := koc_f K e79
              obtain ⟨c81, h⟩ := h
              refine ⟨c81, ?_⟩
              intro x83 e82
              have h := h x83 e82
              intro x85 e84
              have h := h x85 e84
              intro x87 e86
              have h := h x87 e86
              have K := koc_I K e86 (owc_w f80)
              exact ⟨h, K⟩
            · intro c88
              have h := h.2 c88
              exact ⟨h, K⟩
          · intro c89
            have h := h.2 c89
            exact ⟨h, K⟩
        · intro c90
          have h := h.2 c90
          exact ⟨h, K⟩
    · intro c91
      have h := h.2 c91
      exact ⟨h, K⟩
  · intro c92
    have h := h.2 c92
    exact ⟨h, K⟩
theorem ko_X4_rainLine {Q : Int32 → HS → Prop} {v0 : Nat} {S : HS} (h : P_X4_rainLine v0 Q S) : P_X4_rainLine v0 (fun r T => Q r T ∧ KO_C v0 S T) S := ko_X4_rainLine_0 h (koc_rf _ S)
set_option maxRecDepth 20000 in
set_option maxHeartbeats 1000000 in
theorem ko_X4_roadLine_130 {Q : Int32 → HS → Prop} {v0 : Nat} {S0 S : HS} (h : P_X4_roadLine_130 Q v0 S) (K : KO_C v0 S0 S) : P_X4_roadLine_130 (fun r T => Q r T ∧ KO_C v0 S0 T) v0 S := by
  delta P_X4_roadLine_130 at h ⊢
  obtain ⟨c1, h⟩ := h
  refine ⟨c1, ?_⟩
  obtain ⟨b2, e3, h⟩ := h
  refine ⟨b2, e3, ?_⟩
  have f4 := koc_f K e3
  obtain ⟨c5, h⟩ := h
  refine ⟨c5, ?_⟩
  intro x7 e6
  have h := h x7 e6
  intro x9 e8
  have h := h x9 e8
  intro x11 e10
  have h := h x11 e10
  have K := koc_I K e10 (owc_w f4)
  exact ⟨h, K⟩
set_option maxRecDepth 20000 in
set_option maxHeartbeats 1000000 in
theorem ko_X4_roadLine_0 {Q : Int32 → HS → Prop} {v0 : Nat} {S0 S : HS} (h : P_X4_roadLine_0 Q v0 S) (K : KO_C v0 S0 S) : P_X4_roadLine_0 (fun r T => Q r T ∧ KO_C v0 S0 T) v0 S := by
  delta P_X4_roadLine_0 at h ⊢
  obtain ⟨c1, h⟩ := h
  refine ⟨c1, ?_⟩
  obtain ⟨b2, e3, h⟩ := h
  refine ⟨b2, e3, ?_⟩
  have f4 := koc_f K e3
  obtain ⟨c5, h⟩ := h
  refine ⟨c5, ?_⟩
  obtain ⟨b6, e7, h⟩ := h
  refine ⟨b6, e7, ?_⟩
  have f8 := koc_f K e7
  obtain ⟨b9, e10, h⟩ := h
  refine ⟨b9, e10, ?_⟩
  have f11 := koc_f K e10
  obtain ⟨c12, h⟩ := h
  refine ⟨c12, ?_⟩
  intro x14 e13
  have h := h x14 e13
  obtain ⟨c15, h⟩ := h
  refine ⟨c15, ?_⟩
  obtain ⟨c16, h⟩ := h
  refine ⟨c16, ?_⟩
  obtain ⟨b17, e18, h⟩ := h
  refine ⟨b17, e18, ?_⟩
  have f19 := koc_f K e18
  refine cm_X4_placeBut (kv_X4_placeBut h) h (fun x20 x21 p24 h g22 g23 => ?_)
  have h := h g22 g23
  have K := koc_V K p24.2 owc_r
  refine ⟨?_, ?_⟩
  · intro c25
    have h := h.1 c25
    intro x27 e26
    have h := h x27 e26
    obtain ⟨c28, h⟩ := h
    refine ⟨c28, ?_⟩
    intro x30 e29
    have h := h x30 e29
    have K := koc_I K e29 (owc_e f4 f8 f19 (by decide))
    refine cm_X4_side (kv_X4_side h) h (fun x31 x32 p35 h g33 g34 => ?_)
    have h := h g33 g34
    have K := koc_V K p35.2 owc_r
    refine ⟨?_, ?_⟩
    · intro c36
      have h := h.1 c36
      intro x38 e37
      have h := h x38 e37
      intro x40 e39
      have h := h x40 e39
      have K := koc_I K e39 (owc_e f4 f8 f19 (by decide))
      refine cm_X4_whole (kv_X4_whole h) h (fun x41 x42 p45 h g43 g44 => ?_)
      have h := h g43 g44
      have K := koc_V K p45.2 owc_r
      refine ⟨?_, ?_⟩
      · intro c46
        have h := h.1 c46
        intro x48 e47
        have h := h x48 e47
        intro x50 e49
        have h := h x50 e49
        have K := koc_I K e49 (owc_e f4 f8 f19 (by decide))
        intro x52 e51
        have h := h x52 e51
        refine cm_X4_placeBut (kv_X4_placeBut h) h (fun x53 x54 p57 h g55 g56 => ?_)
        have h := h g55 g56
        have K := koc_V K p57.2 owc_r
        refine ⟨?_, ?_⟩
        · intro c58
          have h := h.1 c58
          intro x60 e59
          have h := h x60 e59
          intro x62 e61
          have h := h x62 e61
          have K := koc_I K e61 (owc_e f4 f8 f19 (by decide))
          intro x64 e63
          have h := h x64 e63
          have K := koc_I K e63 (owc_e f4 f8 f19 (by decide))
          refine cm_X4_is (kz_X4_is h) h (fun x65 x66 p69 h g67 g68 => ?_)
          have h := h g67 g68
          have K := koc_Z K p69.2
          refine ⟨?_, ?_⟩
          · intro c70
            have h := h.1 c70
            exact ko_X4_roadLine_130 h K
          · intro c71
            have h := h.2 c71
            intro x73 e72
            have h := h x73 e72
            refine cm_X4_wordAndWhole (kv_X4_wordAndWhole h) h (fun x74 x75 p78 h g76 g77 => ?_)
            have h := h g76 g77
            have K := koc_V K p78.2 owc_r
            refine ⟨?_, ?_⟩
            · intro c79
              have h := h.1 c79
              intro x81 e80
              have h := h x81 e80
              intro x83 e82
              have h := h x83 e82
              have K := koc_I K e82 (owc_e f4 f8 f19 (by decide))
              exact ko_X4_roadLine_130 h K
            · intro c84
              have h := h.2 c84
              exact ⟨h, K⟩
        · intro c85
          have h := h.2 c85
          exact ⟨h, K⟩
      · intro c86
        have h := h.2 c86
        exact ⟨h, K⟩
    · intro c87
      have h := h.2 c87
      exact ⟨h, K⟩
  · intro c88
    have h := h.2 c88
    exact ⟨h, K⟩
theorem ko_X4_roadLine {Q : Int32 → HS → Prop} {v0 : Nat} {S : HS} (h : P_X4_roadLine v0 Q S) : P_X4_roadLine v0 (fun r T => Q r T ∧ KO_C v0 S T) S := ko_X4_roadLine_0 h (koc_rf _ S)
set_option maxRecDepth 20000 in
set_option maxHeartbeats 1000000 in
theorem kv_X4_sign_0 {Q : Int32 → HS → Prop} {v0 : Nat} {v1 : Int32} {S0 S : HS} (h : P_X4_sign_0 Q v0 v1 S) (K : KV v0 S0 S) : P_X4_sign_0 (fun r T => Q r T ∧ KV v0 S0 T) v0 v1 S := by
  delta P_X4_sign_0 at h ⊢
  obtain ⟨c1, h⟩ := h
  refine ⟨c1, ?_⟩
  intro x3 e2
  have h := h x3 e2
  refine ⟨?_, ?_⟩
  · intro c4
    have h := h.1 c4
    refine cm_X4_next (kv_X4_next h) h (fun x5 p7 h g6 => ?_)
    have h := h g6
    have K := kv_tr K p7.2
    exact ⟨h, K⟩
  · intro c8
    have h := h.2 c8
    refine cm_X4_fail (kv_X4_fail h) h (fun x9 x10 p13 h g11 g12 => ?_)
    have h := h g11 g12
    have K := kv_tr K p13.2
    obtain ⟨c14, h⟩ := h
    refine ⟨c14, ?_⟩
    exact ⟨h, K⟩
theorem kv_X4_sign {Q : Int32 → HS → Prop} {v0 : Nat} {v1 : Int32} {S : HS} (h : P_X4_sign v0 v1 Q S) : P_X4_sign v0 v1 (fun r T => Q r T ∧ KV v0 S T) S := kv_X4_sign_0 h (kv_rf _ S)
set_option maxRecDepth 20000 in
set_option maxHeartbeats 1000000 in
theorem kv_X4_someWalker_0 {Q : Int32 → HS → Prop} {v0 : Nat} {S0 S : HS} (h : P_X4_someWalker_0 Q v0 S) (K : KV v0 S0 S) : P_X4_someWalker_0 (fun r T => Q r T ∧ KV v0 S0 T) v0 S := by
  delta P_X4_someWalker_0 at h ⊢
  obtain ⟨c1, h⟩ := h
  refine ⟨c1, ?_⟩
  refine cm_X4_canBeName (kz_X4_canBeName h) h (fun x2 x3 p6 h g4 g5 => ?_)
  have h := h g4 g5
  have K := kv_Z K p6.2
  refine ⟨?_, ?_⟩
  · intro c7
    have h := h.1 c7
    refine cm_X4_findName (kz_X4_findName h) h (fun x8 x9 p11 h g10 => ?_)
    have h := h g10
    have K := kv_Z K p11.2
    refine ⟨?_, ?_⟩
    · intro c12
      have h := h.1 c12
      intro x14 e13
      have h := h x14 e13
      intro x16 e15
      have h := h x16 e15
      have K := kv_I K e15
      refine cm_X4_next (kv_X4_next h) h (fun x17 p19 h g18 => ?_)
      have h := h g18
      have K := kv_tr K p19.2
      exact ⟨h, K⟩
    · intro c20
      have h := h.2 c20
      refine cm_X4_fail (kv_X4_fail h) h (fun x21 x22 p25 h g23 g24 => ?_)
      have h := h g23 g24
      have K := kv_tr K p25.2
      obtain ⟨c26, h⟩ := h
      refine ⟨c26, ?_⟩
      exact ⟨h, K⟩
  · intro c27
    have h := h.2 c27
    refine cm_X4_fail (kv_X4_fail h) h (fun x28 x29 p32 h g30 g31 => ?_)
    have h := h g30 g31
    have K := kv_tr K p32.2
    obtain ⟨c33, h⟩ := h
    refine ⟨c33, ?_⟩
    exact ⟨h, K⟩
theorem kv_X4_someWalker {Q : Int32 → HS → Prop} {v0 : Nat} {S : HS} (h : P_X4_someWalker v0 Q S) : P_X4_someWalker v0 (fun r T => Q r T ∧ KV v0 S T) S := kv_X4_someWalker_0 h (kv_rf _ S)
set_option maxRecDepth 20000 in
set_option maxHeartbeats 1000000 in
theorem ko_X4_seenLine_47 {Q : Int32 → HS → Prop} {X30 X30_2 : Nat → Int32 → HS → Prop} {v0 : Nat} {v1 : Int32} {S0 S : HS} (h : P_X4_seenLine_47 Q X30 v0 v1 S) (K : KO_C v0 S0 S) (hX30 : ∀ (u0 : Nat) (u1 : Int32) (u2 : HS), X30 u0 u1 u2 → u0 = v0 → KO_C v0 S0 u2 → X30_2 u0 u1 u2) : P_X4_seenLine_47 (fun r T => Q r T ∧ KO_C v0 S0 T) X30_2 v0 v1 S := by
  delta P_X4_seenLine_47 at h ⊢
  obtain ⟨c1, h⟩ := h
  refine ⟨c1, ?_⟩
  refine cm_X4_whole (kv_X4_whole h) h (fun x2 x3 p6 h g4 g5 => ?_)
  have h := h g4 g5
  have K := koc_V K p6.2 owc_r
  refine ⟨?_, ?_⟩
  · intro c7
    have h := h.1 c7
    obtain ⟨b8, e9, h⟩ := h
    refine ⟨b8, e9, ?_⟩
    have f10 := koc_f K e9
    obtain ⟨c11, h⟩ := h
    refine ⟨c11, ?_⟩
    obtain ⟨b12, e13, h⟩ := h
    refine ⟨b12, e13, ?_⟩
    have f14 := koc_f K e13
    obtain ⟨b15, e16, h⟩ := h
    refine ⟨b15, e16, ?_⟩
    have f17 := koc_f K e16
    obtain ⟨c18, h⟩ := h
    refine ⟨c18, ?_⟩
    intro x20 e19
    have h := h x20 e19
    intro x22 e21
    have h := h x22 e21
    obtain ⟨c23, h⟩ := h
    refine ⟨c23, ?_⟩
    obtain ⟨c24, h⟩ := h
    refine ⟨c24, ?_⟩
    intro x26 e25
    have h := h x26 e25
    have K := koc_I K e25 (owc_d f10 f14 (by decide))
    intro x28 e27
    have h := h x28 e27
    exact hX30 _ _ _ h rfl K
  · intro c29
    have h := h.2 c29
    exact ⟨h, K⟩
set_option maxRecDepth 20000 in
set_option maxHeartbeats 1000000 in
theorem koB_X4_seenLine_30 {Q : Int32 → HS → Prop} {X30 X30_2 : Nat → Int32 → HS → Prop} {v0 : Nat} {v1 : Int32} {S0 S : HS} (h : B_X4_seenLine_30 Q X30 v0 v1 S) (K : KO_C v0 S0 S) (hX30 : ∀ (u0 : Nat) (u1 : Int32) (u2 : HS), X30 u0 u1 u2 → u0 = v0 → KO_C v0 S0 u2 → X30_2 u0 u1 u2) : B_X4_seenLine_30 (fun r T => Q r T ∧ KO_C v0 S0 T) X30_2 v0 v1 S := by
  delta B_X4_seenLine_30 at h ⊢
  refine ⟨?_, ?_⟩
  · intro c1
    have h := h.1 c1
    obtain ⟨c2, h⟩ := h
    refine ⟨c2, ?_⟩
    obtain ⟨b3, e4, h⟩ := h
    refine ⟨b3, e4, ?_⟩
    have f5 := koc_f K e4
    obtain ⟨c6, h⟩ := h
    refine ⟨c6, ?_⟩
    intro x8 e7
    have h := h x8 e7
    intro x10 e9
    have h := h x10 e9
    intro x12 e11
    have h := h x12 e11
    have K := koc_I K e11 (owc_w f5)
    exact ⟨h, K⟩
  · intro c13
    have h := h.2 c13
    refine ⟨?_, ?_⟩
    · intro c14
      have h := h.1 c14
      exact ko_X4_seenLine_47 h K hX30
    · intro c15
      have h := h.2 c15
      obtain ⟨c16, h⟩ := h
      refine ⟨c16, ?_⟩
      refine cm_X4_sign (kv_X4_sign h) h (fun x17 x18 p21 h g19 g20 => ?_)
      have h := h g19 g20
      have K := koc_V K p21.2 owc_r
      refine ⟨?_, ?_⟩
      · intro c22
        have h := h.1 c22
        exact ⟨h, K⟩
      · intro c23
        have h := h.2 c23
        exact ko_X4_seenLine_47 h K hX30
theorem ko_X4_seenLine_30 {Q : Int32 → HS → Prop} {v0 : Nat} {v1 : Int32} {S0 S : HS} (h : P_X4_seenLine_30 Q v0 v1 S) (K : KO_C v0 S0 S) : P_X4_seenLine_30 (fun r T => Q r T ∧ KO_C v0 S0 T) v0 v1 S := h (fun w0 v1 S => w0 = v0 → KO_C v0 S0 S → P_X4_seenLine_30 (fun r T => Q r T ∧ KO_C v0 S0 T) w0 v1 S) (fun w0 v1 S hB e K => by
  subst e; exact fd_X4_seenLine_30 (koB_X4_seenLine_30 hB K (fun _ _ _ hx e K => hx e K))) rfl K
set_option maxRecDepth 20000 in
set_option maxHeartbeats 1000000 in
theorem ko_X4_seenLine_0 {Q : Int32 → HS → Prop} {v0 : Nat} {S0 S : HS} (h : P_X4_seenLine_0 Q v0 S) (K : KO_C v0 S0 S) : P_X4_seenLine_0 (fun r T => Q r T ∧ KO_C v0 S0 T) v0 S := by
  delta P_X4_seenLine_0 at h ⊢
  obtain ⟨c1, h⟩ := h
  refine ⟨c1, ?_⟩
  refine cm_X4_someWalker (kv_X4_someWalker h) h (fun x2 x3 p6 h g4 g5 => ?_)
  have h := h g4 g5
  have K := koc_V K p6.2 owc_r
  refine ⟨?_, ?_⟩
  · intro c7
    have h := h.1 c7
    obtain ⟨b8, e9, h⟩ := h
    refine ⟨b8, e9, ?_⟩
    have f10 := koc_f K e9
    obtain ⟨c11, h⟩ := h
    refine ⟨c11, ?_⟩
    obtain ⟨b12, e13, h⟩ := h
    refine ⟨b12, e13, ?_⟩
    have f14 := koc_f K e13
    obtain ⟨b15, e16, h⟩ := h
    refine ⟨b15, e16, ?_⟩
    have f17 := koc_f K e16
    obtain ⟨c18, h⟩ := h
    refine ⟨c18, ?_⟩
    intro x20 e19
    have h := h x20 e19
    intro x22 e21
    have h := h x22 e21
    obtain ⟨c23, h⟩ := h
    refine ⟨c23, ?_⟩
    obtain ⟨c24, h⟩ := h
    refine ⟨c24, ?_⟩
    intro x26 e25
    have h := h x26 e25
    have K := koc_I K e25 (owc_d f10 f14 (by decide))
    exact ko_X4_seenLine_30 h K
  · intro c27
    have h := h.2 c27
    exact ⟨h, K⟩
theorem ko_X4_seenLine {Q : Int32 → HS → Prop} {v0 : Nat} {S : HS} (h : P_X4_seenLine v0 Q S) : P_X4_seenLine v0 (fun r T => Q r T ∧ KO_C v0 S T) S := ko_X4_seenLine_0 h (koc_rf _ S)
set_option maxRecDepth 20000 in
set_option maxHeartbeats 1000000 in
theorem ko_X4_walkerLine_0 {Q : Int32 → HS → Prop} {v0 : Nat} {S0 S : HS} (h : P_X4_walkerLine_0 Q v0 S) (K : KO_C v0 S0 S) : P_X4_walkerLine_0 (fun r T => Q r T ∧ KO_C v0 S0 T) v0 S := by
  delta P_X4_walkerLine_0 at h ⊢
  obtain ⟨c1, h⟩ := h
  refine ⟨c1, ?_⟩
  obtain ⟨b2, e3, h⟩ := h
  refine ⟨b2, e3, ?_⟩
  have f4 := koc_f K e3
  obtain ⟨c5, h⟩ := h
  refine ⟨c5, ?_⟩
  obtain ⟨b6, e7, h⟩ := h
  refine ⟨b6, e7, ?_⟩
  have f8 := koc_f K e7
  obtain ⟨b9, e10, h⟩ := h
  refine ⟨b9, e10, ?_⟩
  have f11 := koc_f K e10
  obtain ⟨c12, h⟩ := h
  refine ⟨c12, ?_⟩
  intro x14 e13
  have h := h x14 e13
  obtain ⟨c15, h⟩ := h
  refine ⟨c15, ?_⟩
  obtain ⟨c16, h⟩ := h
  refine ⟨c16, ?_⟩
  obtain ⟨b17, e18, h⟩ := h
  refine ⟨b17, e18, ?_⟩
  have f19 := koc_f K e18
  obtain ⟨b20, e21, h⟩ := h
  refine ⟨b20, e21, ?_⟩
  have f22 := koc_f K e21
  obtain ⟨c23, h⟩ := h
  refine ⟨c23, ?_⟩
  intro x25 e24
  have h := h x25 e24
  refine cm_X4_newName (ko_X4_newName h) h (fun x26 x27 p30 h g28 g29 => ?_)
  have h := h g28 g29
  have K := koc_tr K p30.2
  refine ⟨?_, ?_⟩
  · intro c31
    have h := h.1 c31
    exact ⟨h, K⟩
  · intro c32
    have h := h.2 c32
    refine cm_X4_kindOf (ko_X4_kindOf h (owtc K (owc_e f4 f8 f19 (by decide)))) h (fun x33 x34 p37 h g35 g36 => ?_)
    have h := h g35 g36
    have K := koc_tr K p37.2
    refine ⟨?_, ?_⟩
    · intro c38
      have h := h.1 c38
      exact ⟨h, K⟩
    · intro c39
      have h := h.2 c39
      refine cm_X4_bodyOf (ko_X4_bodyOf h (owtc K (owc_e f4 f8 f19 (by decide)))) h (fun x40 x41 p44 h g42 g43 => ?_)
      have h := h g42 g43
      have K := koc_tr K p44.2
      refine ⟨?_, ?_⟩
      · intro c45
        have h := h.1 c45
        refine cm_X4_wordAndWhole (kv_X4_wordAndWhole h) h (fun x46 x47 p50 h g48 g49 => ?_)
        have h := h g48 g49
        have K := koc_V K p50.2 owc_r
        refine ⟨?_, ?_⟩
        · intro c51
          have h := h.1 c51
          intro x53 e52
          have h := h x53 e52
          obtain ⟨c54, h⟩ := h
          refine ⟨c54, ?_⟩
          intro x56 e55
          have h := h x56 e55
          have K := koc_I K e55 (owc_e f4 f8 f19 (by decide))
          intro x58 e57
          have h := h x58 e57
          refine cm_X4_wordAndWhole (kv_X4_wordAndWhole h) h (fun x59 x60 p63 h g61 g62 => ?_)
          have h := h g61 g62
          have K := koc_V K p63.2 owc_r
          refine ⟨?_, ?_⟩
          · intro c64
            have h := h.1 c64
            intro x66 e65
            have h := h x66 e65
            intro x68 e67
            have h := h x68 e67
            have K := koc_I K e67 (owc_e f4 f8 f19 (by decide))
            obtain ⟨b69, e70, h⟩ := h
            refine ⟨b69, e70, ?_⟩
            have f71 := koc_f K e70
            obtain ⟨c72, h⟩ := h
            refine ⟨c72, ?_⟩
            intro x74 e73
            have h := h x74 e73
            intro x76 e75
            have h := h x76 e75
            intro x78 e77
            have h := h x78 e77
            have K := koc_I K e77 (owc_w f71)
            exact ⟨h, K⟩
          · intro c79
            have h := h.2 c79
            exact ⟨h, K⟩
        · intro c80
          have h := h.2 c80
          exact ⟨h, K⟩
      · intro c81
        have h := h.2 c81
        exact ⟨h, K⟩
theorem ko_X4_walkerLine {Q : Int32 → HS → Prop} {v0 : Nat} {S : HS} (h : P_X4_walkerLine v0 Q S) : P_X4_walkerLine v0 (fun r T => Q r T ∧ KO_C v0 S T) S := ko_X4_walkerLine_0 h (koc_rf _ S)
set_option maxRecDepth 20000 in
set_option maxHeartbeats 1000000 in
theorem ko_X4_worldLine_0 {Q : Int32 → HS → Prop} {v0 : Nat} {S0 S : HS} (h : P_X4_worldLine_0 Q v0 S) (K : KO_C v0 S0 S) : P_X4_worldLine_0 (fun r T => Q r T ∧ KO_C v0 S0 T) v0 S := by
  delta P_X4_worldLine_0 at h ⊢
  obtain ⟨c1, h⟩ := h
  refine ⟨c1, ?_⟩
  obtain ⟨b2, e3, h⟩ := h
  refine ⟨b2, e3, ?_⟩
  have f4 := koc_f K e3
  obtain ⟨c5, h⟩ := h
  refine ⟨c5, ?_⟩
  refine cm_X8_isTold (kz_X8_isTold h) h (fun x6 x7 p10 h g8 g9 => ?_)
  have h := h g8 g9
  have K := koc_Z K p10.2
  refine ⟨?_, ?_⟩
  · intro c11
    have h := h.1 c11
    refine cm_X4_next (kv_X4_next h) h (fun x12 p14 h g13 => ?_)
    have h := h g13
    have K := koc_V K p14.2 owc_r
    refine cm_X4_wordAndWhole (kv_X4_wordAndWhole h) h (fun x15 x16 p19 h g17 g18 => ?_)
    have h := h g17 g18
    have K := koc_V K p19.2 owc_r
    refine ⟨?_, ?_⟩
    · intro c20
      have h := h.1 c20
      obtain ⟨b21, e22, h⟩ := h
      refine ⟨b21, e22, ?_⟩
      have f23 := koc_f K e22
      intro x25 e24
      have h := h x25 e24
      obtain ⟨c26, h⟩ := h
      refine ⟨c26, ?_⟩
      intro x28 e27
      have h := h x28 e27
      have K := koc_I K e27 (owc_w f23)
      exact ⟨h, K⟩
    · intro c29
      have h := h.2 c29
      exact ⟨h, K⟩
  · intro c30
    have h := h.2 c30
    refine cm_X4_fail (kv_X4_fail h) h (fun x31 x32 p35 h g33 g34 => ?_)
    have h := h g33 g34
    have K := koc_V K p35.2 owc_r
    obtain ⟨c36, h⟩ := h
    refine ⟨c36, ?_⟩
    exact ⟨h, K⟩
theorem ko_X4_worldLine {Q : Int32 → HS → Prop} {v0 : Nat} {S : HS} (h : P_X4_worldLine v0 Q S) : P_X4_worldLine v0 (fun r T => Q r T ∧ KO_C v0 S T) S := ko_X4_worldLine_0 h (koc_rf _ S)
set_option maxRecDepth 20000 in
set_option maxHeartbeats 1000000 in
theorem ko_X4_read_280 {Q : Int32 → HS → Prop} {v0 : Nat} {S0 S : HS} (h : P_X4_read_280 Q v0 S) (K : KO_C v0 S0 S) : P_X4_read_280 (fun r T => Q r T ∧ KO_C v0 S0 T) v0 S := by
  delta P_X4_read_280 at h ⊢
  obtain ⟨c1, h⟩ := h
  refine ⟨c1, ?_⟩
  refine cm_X4_fail (kv_X4_fail h) h (fun x2 x3 p6 h g4 g5 => ?_)
  have h := h g4 g5
  have K := koc_V K p6.2 owc_r
  refine ⟨?_, ?_⟩
  · intro c7
    have h := h.1 c7
    exact ⟨h, K⟩
  · intro c8
    have h := h.2 c8
    exact ⟨h, K⟩
set_option maxRecDepth 20000 in
set_option maxHeartbeats 1000000 in
theorem ko_X4_read_295 {Q : Int32 → HS → Prop} {X8 X8_2 : Nat → Int32 → HS → Prop} {v0 : Nat} {v3 : Int32} {v4 : Int32} {S0 S : HS} (h : P_X4_read_295 Q X8 v0 v3 v4 S) (K : KO_C v0 S0 S) (hX8 : ∀ (u0 : Nat) (u1 : Int32) (u2 : HS), X8 u0 u1 u2 → u0 = v0 → KO_C v0 S0 u2 → X8_2 u0 u1 u2) : P_X4_read_295 (fun r T => Q r T ∧ KO_C v0 S0 T) X8_2 v0 v3 v4 S := by
  delta P_X4_read_295 at h ⊢
  refine ⟨?_, ?_⟩
  · intro c1
    have h := h.1 c1
    exact ⟨h, K⟩
  · intro c2
    have h := h.2 c2
    obtain ⟨c3, h⟩ := h
    refine ⟨c3, ?_⟩
    refine cm_X4_sign (kv_X4_sign h) h (fun x4 x5 p8 h g6 g7 => ?_)
    have h := h g6 g7
    have K := koc_V K p8.2 owc_r
    refine ⟨?_, ?_⟩
    · intro c9
      have h := h.1 c9
      intro x11 e10
      have h := h x11 e10
      exact hX8 _ _ _ h rfl K
    · intro c12
      have h := h.2 c12
      exact ⟨h, K⟩
set_option maxRecDepth 20000 in
set_option maxHeartbeats 1000000 in
theorem ko_X4_read_248 {Q : Int32 → HS → Prop} {X8 X8_2 : Nat → Int32 → HS → Prop} {v0 : Nat} {v3 : Int32} {v4 : Int32} {S0 S : HS} (h : P_X4_read_248 Q X8 v0 v3 v4 S) (K : KO_C v0 S0 S) (hX8 : ∀ (u0 : Nat) (u1 : Int32) (u2 : HS), X8 u0 u1 u2 → u0 = v0 → KO_C v0 S0 u2 → X8_2 u0 u1 u2) : P_X4_read_248 (fun r T => Q r T ∧ KO_C v0 S0 T) X8_2 v0 v3 v4 S := by
  delta P_X4_read_248 at h ⊢
  refine ⟨?_, ?_⟩
  · intro c1
    have h := h.1 c1
    exact ko_X4_read_295 h K hX8
  · intro c2
    have h := h.2 c2
    obtain ⟨c3, h⟩ := h
    refine ⟨c3, ?_⟩
    intro x5 e4
    have h := h x5 e4
    refine ⟨?_, ?_⟩
    · intro c6
      have h := h.1 c6
      exact ko_X4_read_295 h K hX8
    · intro c7
      have h := h.2 c7
      obtain ⟨b8, e9, h⟩ := h
      refine ⟨b8, e9, ?_⟩
      have f10 := koc_f K e9
      obtain ⟨c11, h⟩ := h
      refine ⟨c11, ?_⟩
      intro x13 e12
      have h := h x13 e12
      refine ⟨?_, ?_⟩
      · intro c14
        have h := h.1 c14
        exact ko_X4_read_280 h K
      · intro c15
        have h := h.2 c15
        obtain ⟨b16, e17, h⟩ := h
        refine ⟨b16, e17, ?_⟩
        have f18 := koc_f K e17
        obtain ⟨c19, h⟩ := h
        refine ⟨c19, ?_⟩
        intro x21 e20
        have h := h x21 e20
        refine ⟨?_, ?_⟩
        · intro c22
          have h := h.1 c22
          exact ⟨h, K⟩
        · intro c23
          have h := h.2 c23
          exact ko_X4_read_280 h K
set_option maxRecDepth 20000 in
set_option maxHeartbeats 1000000 in
theorem ko_X4_read_70 {Q : Int32 → HS → Prop} {X8 X8_2 : Nat → Int32 → HS → Prop} {v0 : Nat} {v3 : Int32} {s0 : Int32} {S0 S : HS} (h : P_X4_read_70 Q X8 v0 v3 s0 S) (K : KO_C v0 S0 S) (hX8 : ∀ (u0 : Nat) (u1 : Int32) (u2 : HS), X8 u0 u1 u2 → u0 = v0 → KO_C v0 S0 u2 → X8_2 u0 u1 u2) : P_X4_read_70 (fun r T => Q r T ∧ KO_C v0 S0 T) X8_2 v0 v3 s0 S := by
  delta P_X4_read_70 at h ⊢
  exact ko_X4_read_248 h K hX8
set_option maxRecDepth 20000 in
set_option maxHeartbeats 1000000 in
theorem ko_X4_read_69 {Q : Int32 → HS → Prop} {X8 X8_2 : Nat → Int32 → HS → Prop} {v0 : Nat} {v3 : Int32} {S0 S : HS} (h : P_X4_read_69 Q X8 v0 v3 S) (K : KO_C v0 S0 S) (hX8 : ∀ (u0 : Nat) (u1 : Int32) (u2 : HS), X8 u0 u1 u2 → u0 = v0 → KO_C v0 S0 u2 → X8_2 u0 u1 u2) : P_X4_read_69 (fun r T => Q r T ∧ KO_C v0 S0 T) X8_2 v0 v3 S := by
  delta P_X4_read_69 at h ⊢
  exact ko_X4_read_70 h K hX8
set_option maxRecDepth 20000 in
set_option maxHeartbeats 1000000 in
theorem ko_X4_read_112 {Q : Int32 → HS → Prop} {X8 X8_2 : Nat → Int32 → HS → Prop} {v0 : Nat} {v3 : Int32} {s0 : Int32} {S0 S : HS} (h : P_X4_read_112 Q X8 v0 v3 s0 S) (K : KO_C v0 S0 S) (hX8 : ∀ (u0 : Nat) (u1 : Int32) (u2 : HS), X8 u0 u1 u2 → u0 = v0 → KO_C v0 S0 u2 → X8_2 u0 u1 u2) : P_X4_read_112 (fun r T => Q r T ∧ KO_C v0 S0 T) X8_2 v0 v3 s0 S := by
  delta P_X4_read_112 at h ⊢
  exact ko_X4_read_248 h K hX8
set_option maxRecDepth 20000 in
set_option maxHeartbeats 1000000 in
theorem ko_X4_read_111 {Q : Int32 → HS → Prop} {X8 X8_2 : Nat → Int32 → HS → Prop} {v0 : Nat} {v3 : Int32} {S0 S : HS} (h : P_X4_read_111 Q X8 v0 v3 S) (K : KO_C v0 S0 S) (hX8 : ∀ (u0 : Nat) (u1 : Int32) (u2 : HS), X8 u0 u1 u2 → u0 = v0 → KO_C v0 S0 u2 → X8_2 u0 u1 u2) : P_X4_read_111 (fun r T => Q r T ∧ KO_C v0 S0 T) X8_2 v0 v3 S := by
  delta P_X4_read_111 at h ⊢
  exact ko_X4_read_112 h K hX8
set_option maxRecDepth 20000 in
set_option maxHeartbeats 1000000 in
theorem ko_X4_read_154 {Q : Int32 → HS → Prop} {X8 X8_2 : Nat → Int32 → HS → Prop} {v0 : Nat} {v3 : Int32} {s0 : Int32} {S0 S : HS} (h : P_X4_read_154 Q X8 v0 v3 s0 S) (K : KO_C v0 S0 S) (hX8 : ∀ (u0 : Nat) (u1 : Int32) (u2 : HS), X8 u0 u1 u2 → u0 = v0 → KO_C v0 S0 u2 → X8_2 u0 u1 u2) : P_X4_read_154 (fun r T => Q r T ∧ KO_C v0 S0 T) X8_2 v0 v3 s0 S := by
  delta P_X4_read_154 at h ⊢
  exact ko_X4_read_248 h K hX8
set_option maxRecDepth 20000 in
set_option maxHeartbeats 1000000 in
theorem ko_X4_read_153 {Q : Int32 → HS → Prop} {X8 X8_2 : Nat → Int32 → HS → Prop} {v0 : Nat} {v3 : Int32} {S0 S : HS} (h : P_X4_read_153 Q X8 v0 v3 S) (K : KO_C v0 S0 S) (hX8 : ∀ (u0 : Nat) (u1 : Int32) (u2 : HS), X8 u0 u1 u2 → u0 = v0 → KO_C v0 S0 u2 → X8_2 u0 u1 u2) : P_X4_read_153 (fun r T => Q r T ∧ KO_C v0 S0 T) X8_2 v0 v3 S := by
  delta P_X4_read_153 at h ⊢
  exact ko_X4_read_154 h K hX8
set_option maxRecDepth 20000 in
set_option maxHeartbeats 1000000 in
theorem ko_X4_read_195 {Q : Int32 → HS → Prop} {X8 X8_2 : Nat → Int32 → HS → Prop} {v0 : Nat} {v3 : Int32} {s0 : Int32} {S0 S : HS} (h : P_X4_read_195 Q X8 v0 v3 s0 S) (K : KO_C v0 S0 S) (hX8 : ∀ (u0 : Nat) (u1 : Int32) (u2 : HS), X8 u0 u1 u2 → u0 = v0 → KO_C v0 S0 u2 → X8_2 u0 u1 u2) : P_X4_read_195 (fun r T => Q r T ∧ KO_C v0 S0 T) X8_2 v0 v3 s0 S := by
  delta P_X4_read_195 at h ⊢
  exact ko_X4_read_248 h K hX8
set_option maxRecDepth 20000 in
set_option maxHeartbeats 1000000 in
theorem ko_X4_read_194 {Q : Int32 → HS → Prop} {X8 X8_2 : Nat → Int32 → HS → Prop} {v0 : Nat} {v3 : Int32} {S0 S : HS} (h : P_X4_read_194 Q X8 v0 v3 S) (K : KO_C v0 S0 S) (hX8 : ∀ (u0 : Nat) (u1 : Int32) (u2 : HS), X8 u0 u1 u2 → u0 = v0 → KO_C v0 S0 u2 → X8_2 u0 u1 u2) : P_X4_read_194 (fun r T => Q r T ∧ KO_C v0 S0 T) X8_2 v0 v3 S := by
  delta P_X4_read_194 at h ⊢
  exact ko_X4_read_195 h K hX8
set_option maxRecDepth 20000 in
set_option maxHeartbeats 1000000 in
theorem ko_X4_read_236 {Q : Int32 → HS → Prop} {X8 X8_2 : Nat → Int32 → HS → Prop} {v0 : Nat} {v3 : Int32} {s0 : Int32} {S0 S : HS} (h : P_X4_read_236 Q X8 v0 v3 s0 S) (K : KO_C v0 S0 S) (hX8 : ∀ (u0 : Nat) (u1 : Int32) (u2 : HS), X8 u0 u1 u2 → u0 = v0 → KO_C v0 S0 u2 → X8_2 u0 u1 u2) : P_X4_read_236 (fun r T => Q r T ∧ KO_C v0 S0 T) X8_2 v0 v3 s0 S := by
  delta P_X4_read_236 at h ⊢
  exact ko_X4_read_248 h K hX8
set_option maxRecDepth 20000 in
set_option maxHeartbeats 1000000 in
theorem ko_X4_read_235 {Q : Int32 → HS → Prop} {X8 X8_2 : Nat → Int32 → HS → Prop} {v0 : Nat} {v3 : Int32} {S0 S : HS} (h : P_X4_read_235 Q X8 v0 v3 S) (K : KO_C v0 S0 S) (hX8 : ∀ (u0 : Nat) (u1 : Int32) (u2 : HS), X8 u0 u1 u2 → u0 = v0 → KO_C v0 S0 u2 → X8_2 u0 u1 u2) : P_X4_read_235 (fun r T => Q r T ∧ KO_C v0 S0 T) X8_2 v0 v3 S := by
  delta P_X4_read_235 at h ⊢
  exact ko_X4_read_236 h K hX8
set_option maxRecDepth 20000 in
set_option maxHeartbeats 1000000 in
theorem koB_X4_read_8 {Q : Int32 → HS → Prop} {X8 X8_2 : Nat → Int32 → HS → Prop} {v0 : Nat} {v3 : Int32} {S0 S : HS} (h : B_X4_read_8 Q X8 v0 v3 S) (K : KO_C v0 S0 S) (hX8 : ∀ (u0 : Nat) (u1 : Int32) (u2 : HS), X8 u0 u1 u2 → u0 = v0 → KO_C v0 S0 u2 → X8_2 u0 u1 u2) : B_X4_read_8 (fun r T => Q r T ∧ KO_C v0 S0 T) X8_2 v0 v3 S := by
  delta B_X4_read_8 at h ⊢
  refine ⟨?_, ?_⟩
  · intro c1
    have h := h.1 c1
    obtain ⟨c2, h⟩ := h
    refine ⟨c2, ?_⟩
    refine cm_X4_fail (kv_X4_fail h) h (fun x3 x4 p7 h g5 g6 => ?_)
    have h := h g5 g6
    have K := koc_V K p7.2 owc_r
    obtain ⟨c8, h⟩ := h
    refine ⟨c8, ?_⟩
    exact ⟨h, K⟩
  · intro c9
    have h := h.2 c9
    obtain ⟨c10, h⟩ := h
    refine ⟨c10, ?_⟩
    refine cm_X4_is (kz_X4_is h) h (fun x11 x12 p15 h g13 g14 => ?_)
    have h := h g13 g14
    have K := koc_Z K p15.2
    refine ⟨?_, ?_⟩
    · intro c16
      have h := h.1 c16
      refine cm_X4_is (kz_X4_is h) h (fun x17 x18 p21 h g19 g20 => ?_)
      have h := h g19 g20
      have K := koc_Z K p21.2
      refine ⟨?_, ?_⟩
      · intro c22
        have h := h.1 c22
        refine cm_X4_is (kz_X4_is h) h (fun x23 x24 p27 h g25 g26 => ?_)
        have h := h g25 g26
        have K := koc_Z K p27.2
        refine ⟨?_, ?_⟩
        · intro c28
          have h := h.1 c28
          refine cm_X4_is (kz_X4_is h) h (fun x29 x30 p33 h g31 g32 => ?_)
          have h := h g31 g32
          have K := koc_Z K p33.2
          refine ⟨?_, ?_⟩
          · intro c34
            have h := h.1 c34
            refine cm_X4_is (kz_X4_is h) h (fun x35 x36 p39 h g37 g38 => ?_)
            have h := h g37 g38
            have K := koc_Z K p39.2
            refine ⟨?_, ?_⟩
            · intro c40
              have h := h.1 c40
              refine cm_X4_is (kz_X4_is h) h (fun x41 x42 p45 h g43 g44 => ?_)
              have h := h g43 g44
              have K := koc_Z K p45.2
              refine ⟨?_, ?_⟩
              · intro c46
                have h := h.1 c46
                refine cm_X4_fail (kv_X4_fail h) h (fun x47 x48 p51 h g49 g50 => ?_)
                have h := h g49 g50
                have K := koc_V K p51.2 owc_r
                exact ko_X4_read_248 h K hX8
              · intro c52
                have h := h.2 c52
                obtain ⟨b53, e54, h⟩ := h
                refine ⟨b53, e54, ?_⟩
                have f55 := koc_f K e54
                obtain ⟨c56, h⟩ := h
                refine ⟨c56, ?_⟩
                intro x58 e57
                have h := h x58 e57
                refine cm_X4_hasRoom (kv_X4_hasRoom h) h (fun x59 x60 p63 h g61 g62 => ?_)
                have h := h g61 g62
                have K := koc_V K p63.2 owc_r
                refine ⟨?_, ?_⟩
                · intro c64
                  have h := h.1 c64
                  exact ko_X4_read_235 h K hX8
                · intro c65
                  have h := h.2 c65
                  refine cm_X4_seenLine (ko_X4_seenLine h) h (fun x66 x67 p70 h g68 g69 => ?_)
                  have h := h g68 g69
                  have K := koc_tr K p70.2
                  refine ⟨?_, ?_⟩
                  · intro c71
                    have h := h.1 c71
                    exact ko_X4_read_235 h K hX8
                  · intro c72
                    have h := h.2 c72
                    exact ko_X4_read_236 h K hX8
            · intro c73
              have h := h.2 c73
              obtain ⟨b74, e75, h⟩ := h
              refine ⟨b74, e75, ?_⟩
              have f76 := koc_f K e75
              obtain ⟨c77, h⟩ := h
              refine ⟨c77, ?_⟩
              intro x79 e78
              have h := h x79 e78
              refine cm_X4_hasRoom (kv_X4_hasRoom h) h (fun x80 x81 p84 h g82 g83 => ?_)
              have h := h g82 g83
              have K := koc_V K p84.2 owc_r
              refine ⟨?_, ?_⟩
              · intro c85
                have h := h.1 c85
                exact ko_X4_read_194 h K hX8
              · intro c86
                have h := h.2 c86
                refine cm_X4_walkerLine (ko_X4_walkerLine h) h (fun x87 x88 p91 h g89 g90 => ?_)
                have h := h g89 g90
                have K := koc_tr K p91.2
                refine ⟨?_, ?_⟩
                · intro c92
                  have h := h.1 c92
                  exact ko_X4_read_194 h K hX8
                · intro c93
                  have h := h.2 c93
                  exact ko_X4_read_195 h K hX8
          · intro c94
            have h := h.2 c94
            obtain ⟨b95, e96, h⟩ := h
            refine ⟨b95, e96, ?_⟩
            have f97 := koc_f K e96
            obtain ⟨c98, h⟩ := h
            refine ⟨c98, ?_⟩
            intro x100 e99
            have h := h x100 e99
            refine cm_X4_hasRoom (kv_X4_hasRoom h) h (fun x101 x102 p105 h g103 g104 => ?_)
            have h := h g103 g104
            have K := koc_V K p105.2 owc_r
            refine ⟨?_, ?_⟩
            · intro c106
              have h := h.1 c106
              exact ko_X4_read_153 h K hX8
            · intro c107
              have h := h.2 c107
              refine cm_X4_roadLine (ko_X4_roadLine h) h (fun x108 x109 p112 h g110 g111 => ?_)
              have h := h g110 g111
              have K := koc_tr K p112.2
              refine ⟨?_, ?_⟩
              · intro c113
                have h := h.1 c113
                exact ko_X4_read_153 h K hX8
              · intro c114
                have h := h.2 c114
                exact ko_X4_read_154 h K hX8
        · intro c115
          have h := h.2 c115
          obtain ⟨b116, e117, h⟩ := h
          refine ⟨b116, e117, ?_⟩
          have f118 := koc_f K e117
          obtain ⟨c119, h⟩ := h
          refine ⟨c119, ?_⟩
          intro x121 e120
          have h := h x121 e120
          refine cm_X4_hasRoom (kv_X4_hasRoom h) h (fun x122 x123 p126 h g124 g125 => ?_)
          have h := h g124 g125
          have K := koc_V K p126.2 owc_r
          refine ⟨?_, ?_⟩
          · intro c127
            have h := h.1 c127
            exact ko_X4_read_111 h K hX8
          · intro c128
            have h := h.2 c128
            refine cm_X4_placeLine (ko_X4_placeLine h) h (fun x129 x130 p133 h g131 g132 => ?_)
            have h := h g131 g132
            have K := koc_tr K p133.2
            refine ⟨?_, ?_⟩
            · intro c134
              have h := h.1 c134
              exact ko_X4_read_111 h K hX8
            · intro c135
              have h := h.2 c135
              exact ko_X4_read_112 h K hX8
      · intro c136
        have h := h.2 c136
        obtain ⟨b137, e138, h⟩ := h
        refine ⟨b137, e138, ?_⟩
        have f139 := koc_f K e138
        obtain ⟨c140, h⟩ := h
        refine ⟨c140, ?_⟩
        intro x142 e141
        have h := h x142 e141
        refine cm_X4_hasRoom (kv_X4_hasRoom h) h (fun x143 x144 p147 h g145 g146 => ?_)
        have h := h g145 g146
        have K := koc_V K p147.2 owc_r
        refine ⟨?_, ?_⟩
        · intro c148
          have h := h.1 c148
          exact ko_X4_read_69 h K hX8
        · intro c149
          have h := h.2 c149
          refine cm_X4_rainLine (ko_X4_rainLine h) h (fun x150 x151 p154 h g152 g153 => ?_)
          have h := h g152 g153
          have K := koc_tr K p154.2
          refine ⟨?_, ?_⟩
          · intro c155
            have h := h.1 c155
            exact ko_X4_read_69 h K hX8
          · intro c156
            have h := h.2 c156
            exact ko_X4_read_70 h K hX8
    · intro c157
      have h := h.2 c157
      refine cm_X4_worldLine (ko_X4_worldLine h) h (fun x158 x159 p162 h g160 g161 => ?_)
      have h := h g160 g161
      have K := koc_tr K p162.2
      exact ko_X4_read_248 h K hX8
theorem ko_X4_read_8 {Q : Int32 → HS → Prop} {v0 : Nat} {v3 : Int32} {S0 S : HS} (h : P_X4_read_8 Q v0 v3 S) (K : KO_C v0 S0 S) : P_X4_read_8 (fun r T => Q r T ∧ KO_C v0 S0 T) v0 v3 S := h (fun w0 v3 S => w0 = v0 → KO_C v0 S0 S → P_X4_read_8 (fun r T => Q r T ∧ KO_C v0 S0 T) w0 v3 S) (fun w0 v3 S hB e K => by
  subst e; exact fd_X4_read_8 (koB_X4_read_8 hB K (fun _ _ _ hx e K => hx e K))) rfl K
end
