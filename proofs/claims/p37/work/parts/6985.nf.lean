/-! how the commands leave refusal and where -/
abbrev c9 (v : Int32) : Prop := v ≠ 4
abbrev c11 (v : Int32) : Prop := v = -1
def NFq (k f : Nat) (C : Int32 → Prop) (c : Nat) (S : HS) : Prop := ob S c k ∧ C (fI S c f)
section NFs
variable {S T U : HS} {a k j f c i : Nat} {C : Int32 → Prop}
theorem ob_nq {b q : Nat} (o : ob S b k) (u : ob S c q) (h : k ≠ q) : b ≠ c := fun z => h (ob_inj o (z ▸ u))
theorem ob_wI {v : Int32} (o : ob T c k) (e : U = sI T a j v) : ob U c k := by
  rw [e]
  exact o
theorem ob_wJ {v : Int64} (o : ob T c k) (e : U = sJ T a j v) : ob U c k := by
  rw [e]
  exact o
theorem ob_wR {v : Option Nat} (o : ob T c k) (e : U = sR T a j v) : ob U c k := by
  rw [e]
  exact o
theorem nf_set {v : Int32} (o : ob T c k) (e : U = sI T c f v) (h : C v) : NFq k f C c U := ⟨ob_wI o e, by rw [wI_at e]; exact h⟩
theorem nf_ne {v : Int32} (N : NFq k f C c T) (e : U = sI T a j v) (h : c ≠ a ∨ f ≠ j) : NFq k f C c U := by
  refine ⟨ob_wI N.1 e, ?_⟩
  have q : fI U c f = fI T c f := by
    rw [e]
    exact u2_ne _ _ (fun z => h.elim (fun q => q z.1) (fun q => q z.2))
  rw [q]
  exact N.2
theorem nf_wJ {v : Int64} (N : NFq k f C c T) (e : U = sJ T a j v) : NFq k f C c U := by
  rw [e]
  exact N
theorem nf_wR {v : Option Nat} (N : NFq k f C c T) (e : U = sR T a j v) : NFq k f C c U := by
  rw [e]
  exact N
theorem nf_wW {n : Nat} (N : NFq k f C c T) (ha : a ∉ hL T) (e : U = nW T a i n) : NFq k f C c U := by
  refine ⟨gr_ob (gr_of_new e ha) N.1, ?_⟩
  have q : fI U c = fI T c := by
    rw [e]
    exact va_up_ne _ _ (fun z => ha (z ▸ N.1.1))
  rw [q]
  exact N.2
theorem nf_K (N : NFq k f C c S) (K : K5 S T) (hq : (k, f) ∈ pL) : NFq k f C c T := ⟨gr_ob K.1 N.1, by rw [K.2 _ hq c N.1]; exact N.2⟩
end NFs
set_option maxRecDepth 20000 in
set_option maxHeartbeats 1000000 in
theorem nf_X11_good_0 {Q : Int32 → HS → Prop} {v0 : Nat} {v1 : Int32} {S : HS} (h : P_X11_good_0 Q v0 v1 S) (oc : ob S v0 11) : P_X11_good_0 (fun r T => Q r T ∧ NFq 11 2 c11 v0 T) v0 v1 S := by
  delta P_X11_good_0 at h ⊢
  obtain ⟨c1, h⟩ := h
  refine ⟨c1, ?_⟩
  intro x3 e2
  have h := h x3 e2
  have oc := ob_wI oc e2
  intro x5 e4
  have h := h x5 e4
  have N := nf_set (C := c11) oc e4 (by decide)
  have oc := N.1
  exact ⟨h, N⟩
theorem nf_X11_good {Q : Int32 → HS → Prop} {v0 : Nat} {v1 : Int32} {S : HS} (h : P_X11_good v0 v1 Q S) (oc : ob S v0 11) : P_X11_good v0 v1 (fun r T => Q r T ∧ NFq 11 2 c11 v0 T) S := nf_X11_good_0 h oc
set_option maxRecDepth 20000 in
set_option maxHeartbeats 1000000 in
theorem nf_X11_refused_0 {Q : Int32 → HS → Prop} {v0 : Nat} {v1 : Int32} {S : HS} (h : P_X11_refused_0 Q v0 v1 S) (oc : ob S v0 11) : P_X11_refused_0 (fun r T => Q r T ∧ NFq 11 2 c11 v0 T) v0 v1 S := by
  delta P_X11_refused_0 at h ⊢
  obtain ⟨c1, h⟩ := h
  refine ⟨c1, ?_⟩
  intro x3 e2
  have h := h x3 e2
  have oc := ob_wI oc e2
  intro x5 e4
  have h := h x5 e4
  have N := nf_set (C := c11) oc e4 (by decide)
  have oc := N.1
  exact ⟨h, N⟩
theorem nf_X11_refused {Q : Int32 → HS → Prop} {v0 : Nat} {v1 : Int32} {S : HS} (h : P_X11_refused v0 v1 Q S) (oc : ob S v0 11) : P_X11_refused v0 v1 (fun r T => Q r T ∧ NFq 11 2 c11 v0 T) S := nf_X11_refused_0 h oc
set_option maxRecDepth 20000 in
set_option maxHeartbeats 1000000 in
theorem nf_X11_lost_0 {Q : Int32 → HS → Prop} {v0 : Nat} {v1 : Int32} {S : HS} (h : P_X11_lost_0 Q v0 v1 S) (oc : ob S v0 11) : P_X11_lost_0 (fun r T => Q r T ∧ NFq 11 2 c11 v0 T) v0 v1 S := by
  delta P_X11_lost_0 at h ⊢
  obtain ⟨c1, h⟩ := h
  refine ⟨c1, ?_⟩
  refine cm_X11_refused (nf_X11_refused h oc) h (fun x2 x3 p5 h g4 => ?_)
  have h := h g4
  have N := p5.2
  have oc := N.1
  exact ⟨h, N⟩
theorem nf_X11_lost {Q : Int32 → HS → Prop} {v0 : Nat} {v1 : Int32} {S : HS} (h : P_X11_lost v0 v1 Q S) (oc : ob S v0 11) : P_X11_lost v0 v1 (fun r T => Q r T ∧ NFq 11 2 c11 v0 T) S := nf_X11_lost_0 h oc
set_option maxRecDepth 20000 in
set_option maxHeartbeats 1000000 in
theorem nf_X11_air_30 {Q : Int32 → HS → Prop} {v0 : Nat} {S : HS} (h : P_X11_air_30 Q v0 S) (oc : ob S v0 11) : P_X11_air_30 (fun r T => Q r T ∧ NFq 11 2 c11 v0 T) v0 S := by
  delta P_X11_air_30 at h ⊢
  obtain ⟨c1, h⟩ := h
  refine ⟨c1, ?_⟩
  refine cm_X11_lost (nf_X11_lost h oc) h (fun x2 x3 p5 h g4 => ?_)
  have h := h g4
  have N := p5.2
  have oc := N.1
  exact ⟨h, N⟩
set_option maxRecDepth 20000 in
set_option maxHeartbeats 1000000 in
theorem nf_X11_air_0 {Q : Int32 → HS → Prop} {v0 : Nat} {v1 : Int32} {v2 : Int32} {v3 : Int32} {S : HS} (h : P_X11_air_0 Q v0 v1 v2 v3 S) (oc : ob S v0 11) : P_X11_air_0 (fun r T => Q r T ∧ NFq 11 2 c11 v0 T) v0 v1 v2 v3 S := by
  delta P_X11_air_0 at h ⊢
  obtain ⟨c1, h⟩ := h
  refine ⟨c1, ?_⟩
  intro x3 e2
  have h := h x3 e2
  have oc := ob_wI oc e2
  refine cm_X11_isRoad (kg_X11_isRoad h) h (fun x4 x5 p8 h g6 g7 => ?_)
  have h := h g6 g7
  have oc := gr_ob p8.2.1 oc
  refine ⟨?_, ?_⟩
  · intro c9
    have h := h.1 c9
    exact nf_X11_air_30 h oc
  · intro c10
    have h := h.2 c10
    refine cm_X11_in (kg_X11_in h) h (fun x11 x12 p15 h g13 g14 => ?_)
    have h := h g13 g14
    have oc := gr_ob p15.2.1 oc
    refine ⟨?_, ?_⟩
    · intro c16
      have h := h.1 c16
      exact nf_X11_air_30 h oc
    · intro c17
      have h := h.2 c17
      refine cm_X11_isHour (kg_X11_isHour h) h (fun x18 x19 p22 h g20 g21 => ?_)
      have h := h g20 g21
      have oc := gr_ob p22.2.1 oc
      refine ⟨?_, ?_⟩
      · intro c23
        have h := h.1 c23
        obtain ⟨b24, e25, h⟩ := h
        refine ⟨b24, e25, ?_⟩
        obtain ⟨c26, h⟩ := h
        refine ⟨c26, ?_⟩
        have n27 := ob_nq oc c26 (by decide)
        refine cm_X10_air (kg_X10_air h) h (fun x28 x29 p31 h g30 => ?_)
        have h := h g30
        have oc := gr_ob p31.2.1 oc
        refine cm_X11_good (nf_X11_good h oc) h (fun x32 x33 p35 h g34 => ?_)
        have h := h g34
        have N := p35.2
        have oc := N.1
        exact ⟨h, N⟩
      · intro c36
        have h := h.2 c36
        exact nf_X11_air_30 h oc
theorem nf_X11_air {Q : Int32 → HS → Prop} {v0 : Nat} {v1 : Int32} {v2 : Int32} {v3 : Int32} {S : HS} (h : P_X11_air v0 v1 v2 v3 Q S) (oc : ob S v0 11) : P_X11_air v0 v1 v2 v3 (fun r T => Q r T ∧ NFq 11 2 c11 v0 T) S := nf_X11_air_0 h oc
set_option maxRecDepth 20000 in
set_option maxHeartbeats 1000000 in
theorem nf_X11_denied_0 {Q : Int32 → HS → Prop} {v0 : Nat} {v1 : Int32} {S : HS} (h : P_X11_denied_0 Q v0 v1 S) (oc : ob S v0 11) : P_X11_denied_0 (fun r T => Q r T ∧ NFq 11 2 c11 v0 T) v0 v1 S := by
  delta P_X11_denied_0 at h ⊢
  obtain ⟨c1, h⟩ := h
  refine ⟨c1, ?_⟩
  refine cm_X11_refused (nf_X11_refused h oc) h (fun x2 x3 p5 h g4 => ?_)
  have h := h g4
  have N := p5.2
  have oc := N.1
  exact ⟨h, N⟩
theorem nf_X11_denied {Q : Int32 → HS → Prop} {v0 : Nat} {v1 : Int32} {S : HS} (h : P_X11_denied v0 v1 Q S) (oc : ob S v0 11) : P_X11_denied v0 v1 (fun r T => Q r T ∧ NFq 11 2 c11 v0 T) S := nf_X11_denied_0 h oc
set_option maxRecDepth 20000 in
set_option maxHeartbeats 1000000 in
theorem nf_X11_granted_0 {Q : Int32 → HS → Prop} {v0 : Nat} {S : HS} (h : P_X11_granted_0 Q v0 S) (oc : ob S v0 11) : P_X11_granted_0 (fun r T => Q r T ∧ NFq 11 2 c11 v0 T) v0 S := by
  delta P_X11_granted_0 at h ⊢
  obtain ⟨c1, h⟩ := h
  refine ⟨c1, ?_⟩
  refine cm_X11_good (nf_X11_good h oc) h (fun x2 x3 p5 h g4 => ?_)
  have h := h g4
  have N := p5.2
  have oc := N.1
  exact ⟨h, N⟩
theorem nf_X11_granted {Q : Int32 → HS → Prop} {v0 : Nat} {S : HS} (h : P_X11_granted v0 Q S) (oc : ob S v0 11) : P_X11_granted v0 (fun r T => Q r T ∧ NFq 11 2 c11 v0 T) S := nf_X11_granted_0 h oc
set_option maxRecDepth 20000 in
set_option maxHeartbeats 1000000 in
theorem nf_X11_back_24 {Q : Int32 → HS → Prop} {v0 : Nat} {S : HS} (h : P_X11_back_24 Q v0 S) (oc : ob S v0 11) : P_X11_back_24 (fun r T => Q r T ∧ NFq 11 2 c11 v0 T) v0 S := by
  delta P_X11_back_24 at h ⊢
  obtain ⟨c1, h⟩ := h
  refine ⟨c1, ?_⟩
  refine cm_X11_denied (nf_X11_denied h oc) h (fun x2 x3 p6 h g4 g5 => ?_)
  have h := h g4 g5
  have N := p6.2
  have oc := N.1
  obtain ⟨c7, h⟩ := h
  refine ⟨c7, ?_⟩
  exact ⟨h, N⟩
set_option maxRecDepth 20000 in
set_option maxHeartbeats 1000000 in
theorem nfB_X11_back_32 {Q : Int32 → HS → Prop} {X32 X32_2 : Nat → Int32 → Int32 → HS → Prop} {v0 : Nat} {v1 : Int32} {v2 : Int32} {S : HS} (h : B_X11_back_32 Q X32 v0 v1 v2 S) (oc : ob S v0 11) (hX32 : ∀ (u0 : Nat) (u1 : Int32) (u2 : Int32) (u3 : HS), X32 u0 u1 u2 u3 → u0 = v0 → ob u3 v0 11 → X32_2 u0 u1 u2 u3) : B_X11_back_32 (fun r T => Q r T ∧ NFq 11 2 c11 v0 T) X32_2 v0 v1 v2 S := by
  delta B_X11_back_32 at h ⊢
  refine ⟨?_, ?_⟩
  · intro c1
    have h := h.1 c1
    obtain ⟨c2, h⟩ := h
    refine ⟨c2, ?_⟩
    intro x4 e3
    have h := h x4 e3
    have oc := ob_wI oc e3
    refine cm_X11_granted (nf_X11_granted h oc) h (fun x5 x6 p9 h g7 g8 => ?_)
    have h := h g7 g8
    have N := p9.2
    have oc := N.1
    obtain ⟨c10, h⟩ := h
    refine ⟨c10, ?_⟩
    exact ⟨h, N⟩
  · intro c11
    have h := h.2 c11
    obtain ⟨c12, h⟩ := h
    refine ⟨c12, ?_⟩
    obtain ⟨b13, e14, h⟩ := h
    refine ⟨b13, e14, ?_⟩
    obtain ⟨b15, e16, h⟩ := h
    refine ⟨b15, e16, ?_⟩
    obtain ⟨c17, h⟩ := h
    refine ⟨c17, ?_⟩
    have n18 := ob_nq oc c17 (by decide)
    intro x20 e19
    have h := h x20 e19
    obtain ⟨c21, h⟩ := h
    refine ⟨c21, ?_⟩
    intro x23 e22
    have h := h x23 e22
    obtain ⟨c24, h⟩ := h
    refine ⟨c24, ?_⟩
    have n25 := ob_nq oc c24 (by decide)
    obtain ⟨c26, h⟩ := h
    refine ⟨c26, ?_⟩
    intro x28 e27
    have h := h x28 e27
    have oc := ob_wJ oc e27
    intro x30 e29
    have h := h x30 e29
    exact hX32 _ _ _ _ h rfl oc
theorem nf_X11_back_32 {Q : Int32 → HS → Prop} {v0 : Nat} {v1 : Int32} {v2 : Int32} {S : HS} (h : P_X11_back_32 Q v0 v1 v2 S) (oc : ob S v0 11) : P_X11_back_32 (fun r T => Q r T ∧ NFq 11 2 c11 v0 T) v0 v1 v2 S := h (fun w0 v1 v2 S => w0 = v0 → ob S v0 11 → P_X11_back_32 (fun r T => Q r T ∧ NFq 11 2 c11 v0 T) w0 v1 v2 S) (fun w0 v1 v2 S hB e oc => by
  subst e; exact fd_X11_back_32 (nfB_X11_back_32 hB oc (fun _ _ _ _ hx e oc => hx e oc))) rfl oc
set_option maxRecDepth 20000 in
set_option maxHeartbeats 1000000 in
theorem nf_X11_back_0 {Q : Int32 → HS → Prop} {v0 : Nat} {v1 : Int32} {S : HS} (h : P_X11_back_0 Q v0 v1 S) (oc : ob S v0 11) : P_X11_back_0 (fun r T => Q r T ∧ NFq 11 2 c11 v0 T) v0 v1 S := by
  delta P_X11_back_0 at h ⊢
  obtain ⟨c1, h⟩ := h
  refine ⟨c1, ?_⟩
  intro x3 e2
  have h := h x3 e2
  have oc := ob_wI oc e2
  refine cm_X11_isDay (kg_X11_isDay h) h (fun x4 x5 p8 h g6 g7 => ?_)
  have h := h g6 g7
  have oc := gr_ob p8.2.1 oc
  refine ⟨?_, ?_⟩
  · intro c9
    have h := h.1 c9
    exact nf_X11_back_24 h oc
  · intro c10
    have h := h.2 c10
    refine ⟨?_, ?_⟩
    · intro c11
      have h := h.1 c11
      exact nf_X11_back_24 h oc
    · intro c12
      have h := h.2 c12
      intro x14 e13
      have h := h x14 e13
      refine ⟨?_, ?_⟩
      · intro c15
        have h := h.1 c15
        exact nf_X11_back_32 h oc
      · intro c16
        have h := h.2 c16
        exact nf_X11_back_24 h oc
theorem nf_X11_back {Q : Int32 → HS → Prop} {v0 : Nat} {v1 : Int32} {S : HS} (h : P_X11_back v0 v1 Q S) (oc : ob S v0 11) : P_X11_back v0 v1 (fun r T => Q r T ∧ NFq 11 2 c11 v0 T) S := nf_X11_back_0 h oc
set_option maxRecDepth 20000 in
set_option maxHeartbeats 1000000 in
theorem nf_X11_best_39 {Q : Int32 → HS → Prop} {v0 : Nat} {S : HS} (h : P_X11_best_39 Q v0 S) (oc : ob S v0 11) : P_X11_best_39 (fun r T => Q r T ∧ NFq 11 2 c11 v0 T) v0 S := by
  delta P_X11_best_39 at h ⊢
  obtain ⟨c1, h⟩ := h
  refine ⟨c1, ?_⟩
  refine cm_X11_refused (nf_X11_refused h oc) h (fun x2 x3 p5 h g4 => ?_)
  have h := h g4
  have N := p5.2
  have oc := N.1
  exact ⟨h, N⟩
set_option maxRecDepth 20000 in
set_option maxHeartbeats 1000000 in
theorem nf_X11_best_0 {Q : Int32 → HS → Prop} {v0 : Nat} {v1 : Int32} {v2 : Int32} {v3 : Int32} {v4 : Int32} {S : HS} (h : P_X11_best_0 Q v0 v1 v2 v3 v4 S) (oc : ob S v0 11) : P_X11_best_0 (fun r T => Q r T ∧ NFq 11 2 c11 v0 T) v0 v1 v2 v3 v4 S := by
  delta P_X11_best_0 at h ⊢
  obtain ⟨c1, h⟩ := h
  refine ⟨c1, ?_⟩
  intro x3 e2
  have h := h x3 e2
  have oc := ob_wI oc e2
  refine cm_X11_isWalker (kg_X11_isWalker h) h (fun x4 x5 p8 h g6 g7 => ?_)
  have h := h g6 g7
  have oc := gr_ob p8.2.1 oc
  refine ⟨?_, ?_⟩
  · intro c9
    have h := h.1 c9
    exact nf_X11_best_39 h oc
  · intro c10
    have h := h.2 c10
    refine cm_X11_isRoad (kg_X11_isRoad h) h (fun x11 x12 p15 h g13 g14 => ?_)
    have h := h g13 g14
    have oc := gr_ob p15.2.1 oc
    refine ⟨?_, ?_⟩
    · intro c16
      have h := h.1 c16
      exact nf_X11_best_39 h oc
    · intro c17
      have h := h.2 c17
      refine cm_X11_in (kg_X11_in h) h (fun x18 x19 p22 h g20 g21 => ?_)
      have h := h g20 g21
      have oc := gr_ob p22.2.1 oc
      refine ⟨?_, ?_⟩
      · intro c23
        have h := h.1 c23
        exact nf_X11_best_39 h oc
      · intro c24
        have h := h.2 c24
        refine cm_X11_isHour (kg_X11_isHour h) h (fun x25 x26 p29 h g27 g28 => ?_)
        have h := h g27 g28
        have oc := gr_ob p29.2.1 oc
        refine ⟨?_, ?_⟩
        · intro c30
          have h := h.1 c30
          refine cm_X11_bestOf (kg_X11_bestOf h) h (fun x31 x32 p34 h g33 => ?_)
          have h := h g33
          have oc := gr_ob p34.2.1 oc
          refine cm_X11_good (nf_X11_good h oc) h (fun x35 x36 p38 h g37 => ?_)
          have h := h g37
          have N := p38.2
          have oc := N.1
          exact ⟨h, N⟩
        · intro c39
          have h := h.2 c39
          exact nf_X11_best_39 h oc
theorem nf_X11_best {Q : Int32 → HS → Prop} {v0 : Nat} {v1 : Int32} {v2 : Int32} {v3 : Int32} {v4 : Int32} {S : HS} (h : P_X11_best v0 v1 v2 v3 v4 Q S) (oc : ob S v0 11) : P_X11_best v0 v1 v2 v3 v4 (fun r T => Q r T ∧ NFq 11 2 c11 v0 T) S := nf_X11_best_0 h oc
set_option maxRecDepth 20000 in
set_option maxHeartbeats 1000000 in
theorem nf_X11_day_21 {Q : Int32 → HS → Prop} {v0 : Nat} {S : HS} (h : P_X11_day_21 Q v0 S) (oc : ob S v0 11) : P_X11_day_21 (fun r T => Q r T ∧ NFq 11 2 c11 v0 T) v0 S := by
  delta P_X11_day_21 at h ⊢
  obtain ⟨c1, h⟩ := h
  refine ⟨c1, ?_⟩
  refine cm_X11_refused (nf_X11_refused h oc) h (fun x2 x3 p5 h g4 => ?_)
  have h := h g4
  have N := p5.2
  have oc := N.1
  exact ⟨h, N⟩
set_option maxRecDepth 20000 in
set_option maxHeartbeats 1000000 in
theorem nf_X11_day_50 {Q : Int32 → HS → Prop} {v0 : Nat} {S : HS} (h : P_X11_day_50 Q v0 S) (oc : ob S v0 11) : P_X11_day_50 (fun r T => Q r T ∧ NFq 11 2 c11 v0 T) v0 S := by
  delta P_X11_day_50 at h ⊢
  obtain ⟨c1, h⟩ := h
  refine ⟨c1, ?_⟩
  refine cm_X11_refused (nf_X11_refused h oc) h (fun x2 x3 p5 h g4 => ?_)
  have h := h g4
  have N := p5.2
  have oc := N.1
  exact ⟨h, N⟩
set_option maxRecDepth 20000 in
set_option maxHeartbeats 1000000 in
theorem nf_X11_day_134 {Q : Int32 → HS → Prop} {X73 X73_2 : Nat → Int32 → Int32 → Int32 → Int32 → HS → Prop} {v0 : Nat} {v2 : Int32} {v3 : Int32} {v5 : Int32} {v6 : Int32} {s0 : Nat} {s1 : Int32} {s2 : Int32} {S : HS} (h : P_X11_day_134 Q X73 v0 v2 v3 v5 v6 s0 s1 s2 S) (oc : ob S v0 11) (hX73 : ∀ (u0 : Nat) (u1 : Int32) (u2 : Int32) (u3 : Int32) (u4 : Int32) (u5 : HS), X73 u0 u1 u2 u3 u4 u5 → u0 = v0 → ob u5 v0 11 → X73_2 u0 u1 u2 u3 u4 u5) : P_X11_day_134 (fun r T => Q r T ∧ NFq 11 2 c11 v0 T) X73_2 v0 v2 v3 v5 v6 s0 s1 s2 S := by
  delta P_X11_day_134 at h ⊢
  obtain ⟨c1, h⟩ := h
  refine ⟨c1, ?_⟩
  intro x3 e2
  have h := h x3 e2
  intro x5 e4
  have h := h x5 e4
  have oc := ob_wI oc e4
  intro x7 e6
  have h := h x7 e6
  exact hX73 _ _ _ _ _ _ h rfl oc
set_option maxRecDepth 20000 in
set_option maxHeartbeats 1000000 in
theorem nfB_X11_day_147 {Q : Int32 → HS → Prop} {X147 X147_2 : Nat → Int32 → Int32 → Int32 → HS → Prop} {v0 : Nat} {v2 : Int32} {v3 : Int32} {v6 : Int32} {S : HS} (h : B_X11_day_147 Q X147 v0 v2 v3 v6 S) (oc : ob S v0 11) (hX147 : ∀ (u0 : Nat) (u1 : Int32) (u2 : Int32) (u3 : Int32) (u4 : HS), X147 u0 u1 u2 u3 u4 → u0 = v0 → ob u4 v0 11 → X147_2 u0 u1 u2 u3 u4) : B_X11_day_147 (fun r T => Q r T ∧ NFq 11 2 c11 v0 T) X147_2 v0 v2 v3 v6 S := by
  delta B_X11_day_147 at h ⊢
  refine ⟨?_, ?_⟩
  · intro c1
    have h := h.1 c1
    obtain ⟨c2, h⟩ := h
    refine ⟨c2, ?_⟩
    obtain ⟨b3, e4, h⟩ := h
    refine ⟨b3, e4, ?_⟩
    obtain ⟨c5, h⟩ := h
    refine ⟨c5, ?_⟩
    have n6 := ob_nq oc c5 (by decide)
    intro x8 e7
    have h := h x8 e7
    obtain ⟨c9, h⟩ := h
    refine ⟨c9, ?_⟩
    intro x11 e10
    have h := h x11 e10
    have oc := ob_wJ oc e10
    obtain ⟨b12, e13, h⟩ := h
    refine ⟨b12, e13, ?_⟩
    obtain ⟨c14, h⟩ := h
    refine ⟨c14, ?_⟩
    have n15 := ob_nq oc c14 (by decide)
    intro x17 e16
    have h := h x17 e16
    obtain ⟨c18, h⟩ := h
    refine ⟨c18, ?_⟩
    intro x20 e19
    have h := h x20 e19
    have oc := ob_wJ oc e19
    intro x22 e21
    have h := h x22 e21
    have oc := ob_wI oc e21
    intro x24 e23
    have h := h x24 e23
    have oc := ob_wI oc e23
    intro x26 e25
    have h := h x26 e25
    refine cm_X11_good (nf_X11_good h oc) h (fun x27 x28 p30 h g29 => ?_)
    have h := h g29
    have N := p30.2
    have oc := N.1
    exact ⟨h, N⟩
  · intro c31
    have h := h.2 c31
    obtain ⟨c32, h⟩ := h
    refine ⟨c32, ?_⟩
    obtain ⟨b33, e34, h⟩ := h
    refine ⟨b33, e34, ?_⟩
    obtain ⟨c35, h⟩ := h
    refine ⟨c35, ?_⟩
    have n36 := ob_nq oc c35 (by decide)
    obtain ⟨c37, h⟩ := h
    refine ⟨c37, ?_⟩
    intro x39 e38
    have h := h x39 e38
    have oc := ob_wJ oc e38
    intro x41 e40
    have h := h x41 e40
    exact hX147 _ _ _ _ _ h rfl oc
theorem nf_X11_day_147 {Q : Int32 → HS → Prop} {v0 : Nat} {v2 : Int32} {v3 : Int32} {v6 : Int32} {S : HS} (h : P_X11_day_147 Q v0 v2 v3 v6 S) (oc : ob S v0 11) : P_X11_day_147 (fun r T => Q r T ∧ NFq 11 2 c11 v0 T) v0 v2 v3 v6 S := h (fun w0 v2 v3 v6 S => w0 = v0 → ob S v0 11 → P_X11_day_147 (fun r T => Q r T ∧ NFq 11 2 c11 v0 T) w0 v2 v3 v6 S) (fun w0 v2 v3 v6 S hB e oc => by
  subst e; exact fd_X11_day_147 (nfB_X11_day_147 hB oc (fun _ _ _ _ _ hx e oc => hx e oc))) rfl oc
set_option maxRecDepth 20000 in
set_option maxHeartbeats 1000000 in
theorem nfB_X11_day_73 {Q : Int32 → HS → Prop} {X73 X73_2 : Nat → Int32 → Int32 → Int32 → Int32 → HS → Prop} {v0 : Nat} {v2 : Int32} {v3 : Int32} {v5 : Int32} {v6 : Int32} {S : HS} (h : B_X11_day_73 Q X73 v0 v2 v3 v5 v6 S) (oc : ob S v0 11) (hX73 : ∀ (u0 : Nat) (u1 : Int32) (u2 : Int32) (u3 : Int32) (u4 : Int32) (u5 : HS), X73 u0 u1 u2 u3 u4 u5 → u0 = v0 → ob u5 v0 11 → X73_2 u0 u1 u2 u3 u4 u5) : B_X11_day_73 (fun r T => Q r T ∧ NFq 11 2 c11 v0 T) X73_2 v0 v2 v3 v5 v6 S := by
  delta B_X11_day_73 at h ⊢
  obtain ⟨c1, h⟩ := h
  refine ⟨c1, ?_⟩
  obtain ⟨b2, e3, h⟩ := h
  refine ⟨b2, e3, ?_⟩
  obtain ⟨c4, h⟩ := h
  refine ⟨c4, ?_⟩
  have n5 := ob_nq oc c4 (by decide)
  intro x7 e6
  have h := h x7 e6
  refine ⟨?_, ?_⟩
  · intro c8
    have h := h.1 c8
    exact nf_X11_day_147 h oc
  · intro c9
    have h := h.2 c9
    intro x11 e10
    have h := h x11 e10
    intro x13 e12
    have h := h x13 e12
    intro x15 e14
    have h := h x15 e14
    intro x17 e16
    have h := h x17 e16
    obtain ⟨b18, e19, h⟩ := h
    refine ⟨b18, e19, ?_⟩
    obtain ⟨c20, h⟩ := h
    refine ⟨c20, ?_⟩
    have n21 := ob_nq oc c20 (by decide)
    obtain ⟨b22, e23, h⟩ := h
    refine ⟨b22, e23, ?_⟩
    obtain ⟨c24, h⟩ := h
    refine ⟨c24, ?_⟩
    have n25 := ob_nq oc c24 (by decide)
    obtain ⟨c26, h⟩ := h
    refine ⟨c26, ?_⟩
    intro x28 e27
    have h := h x28 e27
    refine ⟨?_, ?_⟩
    · intro c29
      have h := h.1 c29
      exact nf_X11_day_134 h oc hX73
    · intro c30
      have h := h.2 c30
      exact nf_X11_day_134 h oc hX73
theorem nf_X11_day_73 {Q : Int32 → HS → Prop} {v0 : Nat} {v2 : Int32} {v3 : Int32} {v5 : Int32} {v6 : Int32} {S : HS} (h : P_X11_day_73 Q v0 v2 v3 v5 v6 S) (oc : ob S v0 11) : P_X11_day_73 (fun r T => Q r T ∧ NFq 11 2 c11 v0 T) v0 v2 v3 v5 v6 S := h (fun w0 v2 v3 v5 v6 S => w0 = v0 → ob S v0 11 → P_X11_day_73 (fun r T => Q r T ∧ NFq 11 2 c11 v0 T) w0 v2 v3 v5 v6 S) (fun w0 v2 v3 v5 v6 S hB e oc => by
  subst e; exact fd_X11_day_73 (nfB_X11_day_73 hB oc (fun _ _ _ _ _ _ hx e oc => hx e oc))) rfl oc
set_option maxRecDepth 20000 in
set_option maxHeartbeats 1000000 in
theorem nf_X11_day_0 {Q : Int32 → HS → Prop} {v0 : Nat} {v1 : Int32} {v2 : Int32} {v3 : Int32} {v4 : Int32} {S : HS} (h : P_X11_day_0 Q v0 v1 v2 v3 v4 S) (oc : ob S v0 11) : P_X11_day_0 (fun r T => Q r T ∧ NFq 11 2 c11 v0 T) v0 v1 v2 v3 v4 S := by
  delta P_X11_day_0 at h ⊢
  obtain ⟨c1, h⟩ := h
  refine ⟨c1, ?_⟩
  intro x3 e2
  have h := h x3 e2
  have oc := ob_wI oc e2
  refine cm_X11_isWalker (kg_X11_isWalker h) h (fun x4 x5 p8 h g6 g7 => ?_)
  have h := h g6 g7
  have oc := gr_ob p8.2.1 oc
  refine ⟨?_, ?_⟩
  · intro c9
    have h := h.1 c9
    exact nf_X11_day_21 h oc
  · intro c10
    have h := h.2 c10
    refine cm_X11_isPlace (kg_X11_isPlace h) h (fun x11 x12 p15 h g13 g14 => ?_)
    have h := h g13 g14
    have oc := gr_ob p15.2.1 oc
    refine ⟨?_, ?_⟩
    · intro c16
      have h := h.1 c16
      refine cm_X11_in (kg_X11_in h) h (fun x17 x18 p21 h g19 g20 => ?_)
      have h := h g19 g20
      have oc := gr_ob p21.2.1 oc
      refine ⟨?_, ?_⟩
      · intro c22
        have h := h.1 c22
        exact nf_X11_day_50 h oc
      · intro c23
        have h := h.2 c23
        refine cm_X11_in (kg_X11_in h) h (fun x24 x25 p28 h g26 g27 => ?_)
        have h := h g26 g27
        have oc := gr_ob p28.2.1 oc
        refine ⟨?_, ?_⟩
        · intro c29
          have h := h.1 c29
          intro x31 e30
          have h := h x31 e30
          have oc := ob_wI oc e30
          intro x33 e32
          have h := h x33 e32
          have oc := ob_wI oc e32
          exact nf_X11_day_73 h oc
        · intro c34
          have h := h.2 c34
          exact nf_X11_day_50 h oc
    · intro c35
      have h := h.2 c35
      exact nf_X11_day_21 h oc
theorem nf_X11_day {Q : Int32 → HS → Prop} {v0 : Nat} {v1 : Int32} {v2 : Int32} {v3 : Int32} {v4 : Int32} {S : HS} (h : P_X11_day v0 v1 v2 v3 v4 Q S) (oc : ob S v0 11) : P_X11_day v0 v1 v2 v3 v4 (fun r T => Q r T ∧ NFq 11 2 c11 v0 T) S := nf_X11_day_0 h oc
set_option maxRecDepth 20000 in
set_option maxHeartbeats 1000000 in
theorem nf_X11_driest_30 {Q : Int32 → HS → Prop} {v0 : Nat} {S : HS} (h : P_X11_driest_30 Q v0 S) (oc : ob S v0 11) : P_X11_driest_30 (fun r T => Q r T ∧ NFq 11 2 c11 v0 T) v0 S := by
  delta P_X11_driest_30 at h ⊢
  obtain ⟨c1, h⟩ := h
  refine ⟨c1, ?_⟩
  refine cm_X11_refused (nf_X11_refused h oc) h (fun x2 x3 p5 h g4 => ?_)
  have h := h g4
  have N := p5.2
  have oc := N.1
  exact ⟨h, N⟩
set_option maxRecDepth 20000 in
set_option maxHeartbeats 1000000 in
theorem nf_X11_driest_105 {Q : Int32 → HS → Prop} {X45 X45_2 : Nat → Int32 → Int32 → Int32 → Int32 → Int64 → Int32 → HS → Prop} {v0 : Nat} {v1 : Int32} {v2 : Int32} {v3 : Int32} {v4 : Int32} {v5 : Int64} {v7 : Int32} {S : HS} (h : P_X11_driest_105 Q X45 v0 v1 v2 v3 v4 v5 v7 S) (oc : ob S v0 11) (hX45 : ∀ (u0 : Nat) (u1 : Int32) (u2 : Int32) (u3 : Int32) (u4 : Int32) (u5 : Int64) (u6 : Int32) (u7 : HS), X45 u0 u1 u2 u3 u4 u5 u6 u7 → u0 = v0 → ob u7 v0 11 → X45_2 u0 u1 u2 u3 u4 u5 u6 u7) : P_X11_driest_105 (fun r T => Q r T ∧ NFq 11 2 c11 v0 T) X45_2 v0 v1 v2 v3 v4 v5 v7 S := by
  delta P_X11_driest_105 at h ⊢
  intro x2 e1
  have h := h x2 e1
  exact hX45 _ _ _ _ _ _ _ _ h rfl oc
set_option maxRecDepth 20000 in
set_option maxHeartbeats 1000000 in
theorem nf_X11_driest_97 {Q : Int32 → HS → Prop} {X45 X45_2 : Nat → Int32 → Int32 → Int32 → Int32 → Int64 → Int32 → HS → Prop} {v0 : Nat} {v1 : Int32} {v2 : Int32} {v3 : Int32} {v7 : Int32} {v8 : Int64} {S : HS} (h : P_X11_driest_97 Q X45 v0 v1 v2 v3 v7 v8 S) (oc : ob S v0 11) (hX45 : ∀ (u0 : Nat) (u1 : Int32) (u2 : Int32) (u3 : Int32) (u4 : Int32) (u5 : Int64) (u6 : Int32) (u7 : HS), X45 u0 u1 u2 u3 u4 u5 u6 u7 → u0 = v0 → ob u7 v0 11 → X45_2 u0 u1 u2 u3 u4 u5 u6 u7) : P_X11_driest_97 (fun r T => Q r T ∧ NFq 11 2 c11 v0 T) X45_2 v0 v1 v2 v3 v7 v8 S := by
  delta P_X11_driest_97 at h ⊢
  exact nf_X11_driest_105 h oc hX45
set_option maxRecDepth 20000 in
set_option maxHeartbeats 1000000 in
theorem nfB_X11_driest_45 {Q : Int32 → HS → Prop} {X45 X45_2 : Nat → Int32 → Int32 → Int32 → Int32 → Int64 → Int32 → HS → Prop} {v0 : Nat} {v1 : Int32} {v2 : Int32} {v3 : Int32} {v4 : Int32} {v5 : Int64} {v7 : Int32} {S : HS} (h : B_X11_driest_45 Q X45 v0 v1 v2 v3 v4 v5 v7 S) (oc : ob S v0 11) (hX45 : ∀ (u0 : Nat) (u1 : Int32) (u2 : Int32) (u3 : Int32) (u4 : Int32) (u5 : Int64) (u6 : Int32) (u7 : HS), X45 u0 u1 u2 u3 u4 u5 u6 u7 → u0 = v0 → ob u7 v0 11 → X45_2 u0 u1 u2 u3 u4 u5 u6 u7) : B_X11_driest_45 (fun r T => Q r T ∧ NFq 11 2 c11 v0 T) X45_2 v0 v1 v2 v3 v4 v5 v7 S := by
  delta B_X11_driest_45 at h ⊢
  obtain ⟨c1, h⟩ := h
  refine ⟨c1, ?_⟩
  obtain ⟨b2, e3, h⟩ := h
  refine ⟨b2, e3, ?_⟩
  obtain ⟨c4, h⟩ := h
  refine ⟨c4, ?_⟩
  have n5 := ob_nq oc c4 (by decide)
  intro x7 e6
  have h := h x7 e6
  refine ⟨?_, ?_⟩
  · intro c8
    have h := h.1 c8
    refine ⟨?_, ?_⟩
    · intro c9
      have h := h.1 c9
      refine cm_X11_good (nf_X11_good h oc) h (fun x10 x11 p13 h g12 => ?_)
      have h := h g12
      have N := p13.2
      have oc := N.1
      exact ⟨h, N⟩
    · intro c14
      have h := h.2 c14
      refine cm_X11_refused (nf_X11_refused h oc) h (fun x15 x16 p18 h g17 => ?_)
      have h := h g17
      have N := p18.2
      have oc := N.1
      exact ⟨h, N⟩
  · intro c19
    have h := h.2 c19
    refine cm_X11_wetAtBest (kg_X11_wetAtBest h) h (fun x20 x21 p23 h g22 => ?_)
    have h := h g22
    have oc := gr_ob p23.2.1 oc
    obtain ⟨b24, e25, h⟩ := h
    refine ⟨b24, e25, ?_⟩
    obtain ⟨c26, h⟩ := h
    refine ⟨c26, ?_⟩
    have n27 := ob_nq oc c26 (by decide)
    obtain ⟨b28, e29, h⟩ := h
    refine ⟨b28, e29, ?_⟩
    obtain ⟨c30, h⟩ := h
    refine ⟨c30, ?_⟩
    have n31 := ob_nq oc c30 (by decide)
    obtain ⟨c32, h⟩ := h
    refine ⟨c32, ?_⟩
    intro x34 e33
    have h := h x34 e33
    intro x36 e35
    have h := h x36 e35
    refine ⟨?_, ?_⟩
    · intro c37
      have h := h.1 c37
      exact nf_X11_driest_97 h oc hX45
    · intro c38
      have h := h.2 c38
      refine ⟨?_, ?_⟩
      · intro c39
        have h := h.1 c39
        exact nf_X11_driest_97 h oc hX45
      · intro c40
        have h := h.2 c40
        exact nf_X11_driest_105 h oc hX45
theorem nf_X11_driest_45 {Q : Int32 → HS → Prop} {v0 : Nat} {v1 : Int32} {v2 : Int32} {v3 : Int32} {v4 : Int32} {v5 : Int64} {v7 : Int32} {S : HS} (h : P_X11_driest_45 Q v0 v1 v2 v3 v4 v5 v7 S) (oc : ob S v0 11) : P_X11_driest_45 (fun r T => Q r T ∧ NFq 11 2 c11 v0 T) v0 v1 v2 v3 v4 v5 v7 S := h (fun w0 v1 v2 v3 v4 v5 v7 S => w0 = v0 → ob S v0 11 → P_X11_driest_45 (fun r T => Q r T ∧ NFq 11 2 c11 v0 T) w0 v1 v2 v3 v4 v5 v7 S) (fun w0 v1 v2 v3 v4 v5 v7 S hB e oc => by
  subst e; exact fd_X11_driest_45 (nfB_X11_driest_45 hB oc (fun _ _ _ _ _ _ _ _ hx e oc => hx e oc))) rfl oc
set_option maxRecDepth 20000 in
set_option maxHeartbeats 1000000 in
theorem nf_X11_driest_0 {Q : Int32 → HS → Prop} {v0 : Nat} {v1 : Int32} {v2 : Int32} {v3 : Int32} {S : HS} (h : P_X11_driest_0 Q v0 v1 v2 v3 S) (oc : ob S v0 11) : P_X11_driest_0 (fun r T => Q r T ∧ NFq 11 2 c11 v0 T) v0 v1 v2 v3 S := by
  delta P_X11_driest_0 at h ⊢
  obtain ⟨c1, h⟩ := h
  refine ⟨c1, ?_⟩
  intro x3 e2
  have h := h x3 e2
  have oc := ob_wI oc e2
  refine cm_X11_isWalker (kg_X11_isWalker h) h (fun x4 x5 p8 h g6 g7 => ?_)
  have h := h g6 g7
  have oc := gr_ob p8.2.1 oc
  refine ⟨?_, ?_⟩
  · intro c9
    have h := h.1 c9
    exact nf_X11_driest_30 h oc
  · intro c10
    have h := h.2 c10
    refine cm_X11_isRoad (kg_X11_isRoad h) h (fun x11 x12 p15 h g13 g14 => ?_)
    have h := h g13 g14
    have oc := gr_ob p15.2.1 oc
    refine ⟨?_, ?_⟩
    · intro c16
      have h := h.1 c16
      exact nf_X11_driest_30 h oc
    · intro c17
      have h := h.2 c17
      refine cm_X11_in (kg_X11_in h) h (fun x18 x19 p22 h g20 g21 => ?_)
      have h := h g20 g21
      have oc := gr_ob p22.2.1 oc
      refine ⟨?_, ?_⟩
      · intro c23
        have h := h.1 c23
        exact nf_X11_driest_45 h oc
      · intro c24
        have h := h.2 c24
        exact nf_X11_driest_30 h oc
theorem nf_X11_driest {Q : Int32 → HS → Prop} {v0 : Nat} {v1 : Int32} {v2 : Int32} {v3 : Int32} {S : HS} (h : P_X11_driest v0 v1 v2 v3 Q S) (oc : ob S v0 11) : P_X11_driest v0 v1 v2 v3 (fun r T => Q r T ∧ NFq 11 2 c11 v0 T) S := nf_X11_driest_0 h oc
set_option maxRecDepth 20000 in
set_option maxHeartbeats 1000000 in
theorem nf_X11_even_39 {Q : Int32 → HS → Prop} {v0 : Nat} {S : HS} (h : P_X11_even_39 Q v0 S) (oc : ob S v0 11) : P_X11_even_39 (fun r T => Q r T ∧ NFq 11 2 c11 v0 T) v0 S := by
  delta P_X11_even_39 at h ⊢
  obtain ⟨c1, h⟩ := h
  refine ⟨c1, ?_⟩
  refine cm_X11_refused (nf_X11_refused h oc) h (fun x2 x3 p5 h g4 => ?_)
  have h := h g4
  have N := p5.2
  have oc := N.1
  exact ⟨h, N⟩
set_option maxRecDepth 20000 in
set_option maxHeartbeats 1000000 in
theorem nf_X11_even_111 {Q : Int32 → HS → Prop} {X59 X59_2 : Nat → Int32 → Int32 → Int32 → Int32 → Int32 → Int32 → HS → Prop} {v0 : Nat} {v1 : Int32} {v2 : Int32} {v3 : Int32} {v4 : Int32} {v6 : Int32} {s0 : Int32} {S : HS} (h : P_X11_even_111 Q X59 v0 v1 v2 v3 v4 v6 s0 S) (oc : ob S v0 11) (hX59 : ∀ (u0 : Nat) (u1 : Int32) (u2 : Int32) (u3 : Int32) (u4 : Int32) (u5 : Int32) (u6 : Int32) (u7 : HS), X59 u0 u1 u2 u3 u4 u5 u6 u7 → u0 = v0 → ob u7 v0 11 → X59_2 u0 u1 u2 u3 u4 u5 u6 u7) : P_X11_even_111 (fun r T => Q r T ∧ NFq 11 2 c11 v0 T) X59_2 v0 v1 v2 v3 v4 v6 s0 S := by
  delta P_X11_even_111 at h ⊢
  intro x2 e1
  have h := h x2 e1
  exact hX59 _ _ _ _ _ _ _ _ h rfl oc
set_option maxRecDepth 20000 in
set_option maxHeartbeats 1000000 in
theorem nf_X11_even_110 {Q : Int32 → HS → Prop} {X59 X59_2 : Nat → Int32 → Int32 → Int32 → Int32 → Int32 → Int32 → HS → Prop} {v0 : Nat} {v1 : Int32} {v2 : Int32} {v3 : Int32} {v4 : Int32} {v6 : Int32} {S : HS} (h : P_X11_even_110 Q X59 v0 v1 v2 v3 v4 v6 S) (oc : ob S v0 11) (hX59 : ∀ (u0 : Nat) (u1 : Int32) (u2 : Int32) (u3 : Int32) (u4 : Int32) (u5 : Int32) (u6 : Int32) (u7 : HS), X59 u0 u1 u2 u3 u4 u5 u6 u7 → u0 = v0 → ob u7 v0 11 → X59_2 u0 u1 u2 u3 u4 u5 u6 u7) : P_X11_even_110 (fun r T => Q r T ∧ NFq 11 2 c11 v0 T) X59_2 v0 v1 v2 v3 v4 v6 S := by
  delta P_X11_even_110 at h ⊢
  exact nf_X11_even_111 h oc hX59
set_option maxRecDepth 20000 in
set_option maxHeartbeats 1000000 in
theorem nf_X11_even_130 {Q : Int32 → HS → Prop} {s0 : Nat} {s1 : Int32} {v0 : Nat} {S : HS} (h : P_X11_even_130 Q s0 s1 S) (oc : ob S v0 11) (q_s0 : s0 = v0) : P_X11_even_130 (fun r T => Q r T ∧ NFq 11 2 c11 v0 T) s0 s1 S := by
  delta P_X11_even_130 at h ⊢
  subst q_s0
  obtain ⟨c1, h⟩ := h
  refine ⟨c1, ?_⟩
  refine cm_X11_good (nf_X11_good h oc) h (fun x2 x3 p5 h g4 => ?_)
  have h := h g4
  have N := p5.2
  have oc := N.1
  exact ⟨h, N⟩
set_option maxRecDepth 20000 in
set_option maxHeartbeats 1000000 in
theorem nfB_X11_even_59 {Q : Int32 → HS → Prop} {X59 X59_2 : Nat → Int32 → Int32 → Int32 → Int32 → Int32 → Int32 → HS → Prop} {v0 : Nat} {v1 : Int32} {v2 : Int32} {v3 : Int32} {v4 : Int32} {v5 : Int32} {v6 : Int32} {S : HS} (h : B_X11_even_59 Q X59 v0 v1 v2 v3 v4 v5 v6 S) (oc : ob S v0 11) (hX59 : ∀ (u0 : Nat) (u1 : Int32) (u2 : Int32) (u3 : Int32) (u4 : Int32) (u5 : Int32) (u6 : Int32) (u7 : HS), X59 u0 u1 u2 u3 u4 u5 u6 u7 → u0 = v0 → ob u7 v0 11 → X59_2 u0 u1 u2 u3 u4 u5 u6 u7) : B_X11_even_59 (fun r T => Q r T ∧ NFq 11 2 c11 v0 T) X59_2 v0 v1 v2 v3 v4 v5 v6 S := by
  delta B_X11_even_59 at h ⊢
  obtain ⟨c1, h⟩ := h
  refine ⟨c1, ?_⟩
  obtain ⟨b2, e3, h⟩ := h
  refine ⟨b2, e3, ?_⟩
  obtain ⟨c4, h⟩ := h
  refine ⟨c4, ?_⟩
  have n5 := ob_nq oc c4 (by decide)
  obtain ⟨b6, e7, h⟩ := h
  refine ⟨b6, e7, ?_⟩
  obtain ⟨c8, h⟩ := h
  refine ⟨c8, ?_⟩
  have n9 := ob_nq oc c8 (by decide)
  obtain ⟨c10, h⟩ := h
  refine ⟨c10, ?_⟩
  intro x12 e11
  have h := h x12 e11
  refine ⟨?_, ?_⟩
  · intro c13
    have h := h.1 c13
    refine ⟨?_, ?_⟩
    · intro c14
      have h := h.1 c14
      exact nf_X11_even_130 h oc rfl
    · intro c15
      have h := h.2 c15
      exact nf_X11_even_130 h oc rfl
  · intro c16
    have h := h.2 c16
    refine ⟨?_, ?_⟩
    · intro c17
      have h := h.1 c17
      exact nf_X11_even_110 h oc hX59
    · intro c18
      have h := h.2 c18
      refine cm_X11_wetOf (kg_X11_wetOf h) h (fun x19 x20 p22 h g21 => ?_)
      have h := h g21
      have oc := gr_ob p22.2.1 oc
      refine cm_X11_wetOf (kg_X11_wetOf h) h (fun x23 x24 p26 h g25 => ?_)
      have h := h g25
      have oc := gr_ob p26.2.1 oc
      refine ⟨?_, ?_⟩
      · intro c27
        have h := h.1 c27
        exact nf_X11_even_110 h oc hX59
      · intro c28
        have h := h.2 c28
        exact nf_X11_even_111 h oc hX59
theorem nf_X11_even_59 {Q : Int32 → HS → Prop} {v0 : Nat} {v1 : Int32} {v2 : Int32} {v3 : Int32} {v4 : Int32} {v5 : Int32} {v6 : Int32} {S : HS} (h : P_X11_even_59 Q v0 v1 v2 v3 v4 v5 v6 S) (oc : ob S v0 11) : P_X11_even_59 (fun r T => Q r T ∧ NFq 11 2 c11 v0 T) v0 v1 v2 v3 v4 v5 v6 S := h (fun w0 v1 v2 v3 v4 v5 v6 S => w0 = v0 → ob S v0 11 → P_X11_even_59 (fun r T => Q r T ∧ NFq 11 2 c11 v0 T) w0 v1 v2 v3 v4 v5 v6 S) (fun w0 v1 v2 v3 v4 v5 v6 S hB e oc => by
  subst e; exact fd_X11_even_59 (nfB_X11_even_59 hB oc (fun _ _ _ _ _ _ _ _ hx e oc => hx e oc))) rfl oc
set_option maxRecDepth 20000 in
set_option maxHeartbeats 1000000 in
theorem nf_X11_even_0 {Q : Int32 → HS → Prop} {v0 : Nat} {v1 : Int32} {v2 : Int32} {v3 : Int32} {v4 : Int32} {S : HS} (h : P_X11_even_0 Q v0 v1 v2 v3 v4 S) (oc : ob S v0 11) : P_X11_even_0 (fun r T => Q r T ∧ NFq 11 2 c11 v0 T) v0 v1 v2 v3 v4 S := by
  delta P_X11_even_0 at h ⊢
  obtain ⟨c1, h⟩ := h
  refine ⟨c1, ?_⟩
  intro x3 e2
  have h := h x3 e2
  have oc := ob_wI oc e2
  refine cm_X11_isWalker (kg_X11_isWalker h) h (fun x4 x5 p8 h g6 g7 => ?_)
  have h := h g6 g7
  have oc := gr_ob p8.2.1 oc
  refine ⟨?_, ?_⟩
  · intro c9
    have h := h.1 c9
    exact nf_X11_even_39 h oc
  · intro c10
    have h := h.2 c10
    refine cm_X11_isRoad (kg_X11_isRoad h) h (fun x11 x12 p15 h g13 g14 => ?_)
    have h := h g13 g14
    have oc := gr_ob p15.2.1 oc
    refine ⟨?_, ?_⟩
    · intro c16
      have h := h.1 c16
      exact nf_X11_even_39 h oc
    · intro c17
      have h := h.2 c17
      refine cm_X11_in (kg_X11_in h) h (fun x18 x19 p22 h g20 g21 => ?_)
      have h := h g20 g21
      have oc := gr_ob p22.2.1 oc
      refine ⟨?_, ?_⟩
      · intro c23
        have h := h.1 c23
        exact nf_X11_even_39 h oc
      · intro c24
        have h := h.2 c24
        refine cm_X11_isHour (kg_X11_isHour h) h (fun x25 x26 p29 h g27 g28 => ?_)
        have h := h g27 g28
        have oc := gr_ob p29.2.1 oc
        refine ⟨?_, ?_⟩
        · intro c30
          have h := h.1 c30
          obtain ⟨b31, e32, h⟩ := h
          refine ⟨b31, e32, ?_⟩
          obtain ⟨c33, h⟩ := h
          refine ⟨c33, ?_⟩
          have n34 := ob_nq oc c33 (by decide)
          obtain ⟨b35, e36, h⟩ := h
          refine ⟨b35, e36, ?_⟩
          obtain ⟨c37, h⟩ := h
          refine ⟨c37, ?_⟩
          have n38 := ob_nq oc c37 (by decide)
          obtain ⟨c39, h⟩ := h
          refine ⟨c39, ?_⟩
          intro x41 e40
          have h := h x41 e40
          exact nf_X11_even_59 h oc
        · intro c42
          have h := h.2 c42
          exact nf_X11_even_39 h oc
theorem nf_X11_even {Q : Int32 → HS → Prop} {v0 : Nat} {v1 : Int32} {v2 : Int32} {v3 : Int32} {v4 : Int32} {S : HS} (h : P_X11_even v0 v1 v2 v3 v4 Q S) (oc : ob S v0 11) : P_X11_even v0 v1 v2 v3 v4 (fun r T => Q r T ∧ NFq 11 2 c11 v0 T) S := nf_X11_even_0 h oc
set_option maxRecDepth 20000 in
set_option maxHeartbeats 1000000 in
theorem nfB_X11_told_12 {Q : Int64 → HS → Prop} {X12 X12_2 : Int64 → Int64 → Int32 → Int64 → Int64 → HS → Prop} {v1 : Int64} {v3 : Int64} {v5 : Int32} {v6 : Int64} {v8 : Int64} {v0 : Nat} {S : HS} (h : B_X11_told_12 Q X12 v1 v3 v5 v6 v8 S) (oc : ob S v0 11) (N : NFq 11 2 c11 v0 S) (hX12 : ∀ (u0 : Int64) (u1 : Int64) (u2 : Int32) (u3 : Int64) (u4 : Int64) (u5 : HS), X12 u0 u1 u2 u3 u4 u5 → ob u5 v0 11 → NFq 11 2 c11 v0 u5 → X12_2 u0 u1 u2 u3 u4 u5) : B_X11_told_12 (fun r T => Q r T ∧ NFq 11 2 c11 v0 T) X12_2 v1 v3 v5 v6 v8 S := by
  delta B_X11_told_12 at h ⊢
  refine ⟨?_, ?_⟩
  · intro c1
    have h := h.1 c1
    refine ⟨?_, ?_⟩
    · intro c2
      have h := h.1 c2
      obtain ⟨c3, h⟩ := h
      refine ⟨c3, ?_⟩
      intro x5 e4
      have h := h x5 e4
      exact ⟨h, N⟩
    · intro c6
      have h := h.2 c6
      obtain ⟨c7, h⟩ := h
      refine ⟨c7, ?_⟩
      intro x9 e8
      have h := h x9 e8
      exact ⟨h, N⟩
  · intro c10
    have h := h.2 c10
    obtain ⟨c11, h⟩ := h
    refine ⟨c11, ?_⟩
    intro x13 e12
    have h := h x13 e12
    exact hX12 _ _ _ _ _ _ h oc N
theorem nf_X11_told_12 {Q : Int64 → HS → Prop} {v1 : Int64} {v3 : Int64} {v5 : Int32} {v6 : Int64} {v8 : Int64} {v0 : Nat} {S : HS} (h : P_X11_told_12 Q v1 v3 v5 v6 v8 S) (oc : ob S v0 11) (N : NFq 11 2 c11 v0 S) : P_X11_told_12 (fun r T => Q r T ∧ NFq 11 2 c11 v0 T) v1 v3 v5 v6 v8 S := h (fun v1 v3 v5 v6 v8 S => ob S v0 11 → NFq 11 2 c11 v0 S → P_X11_told_12 (fun r T => Q r T ∧ NFq 11 2 c11 v0 T) v1 v3 v5 v6 v8 S) (fun v1 v3 v5 v6 v8 S hB oc N => by
  exact fd_X11_told_12 (nfB_X11_told_12 hB oc N (fun _ _ _ _ _ _ hx oc N => hx oc N))) oc N
set_option maxRecDepth 20000 in
set_option maxHeartbeats 1000000 in
theorem nf_X11_told_0 {Q : Int64 → HS → Prop} {v0 : Nat} {v1 : Int64} {v3 : Int64} {v5 : Int32} {S : HS} (h : P_X11_told_0 Q v0 v1 v3 v5 S) (oc : ob S v0 11) : P_X11_told_0 (fun r T => Q r T ∧ NFq 11 2 c11 v0 T) v0 v1 v3 v5 S := by
  delta P_X11_told_0 at h ⊢
  obtain ⟨c1, h⟩ := h
  refine ⟨c1, ?_⟩
  refine cm_X11_good (nf_X11_good h oc) h (fun x2 x3 p5 h g4 => ?_)
  have h := h g4
  have N := p5.2
  have oc := N.1
  exact nf_X11_told_12 h oc N
theorem nf_X11_told {Q : Int64 → HS → Prop} {v0 : Nat} {v1 : Int64} {v3 : Int64} {v5 : Int32} {S : HS} (h : P_X11_told v0 v1 v3 v5 Q S) (oc : ob S v0 11) : P_X11_told v0 v1 v3 v5 (fun r T => Q r T ∧ NFq 11 2 c11 v0 T) S := nf_X11_told_0 h oc
set_option maxRecDepth 20000 in
set_option maxHeartbeats 1000000 in
theorem nf_X11_face_30 {Q : Int64 → HS → Prop} {v0 : Nat} {v1 : Int32} {v2 : Int32} {v3 : Int32} {v4 : Int32} {v5 : Int32} {v6 : Int32} {v7 : Int32} {s0 : Int32} {S : HS} (h : P_X11_face_30 Q v0 v1 v2 v3 v4 v5 v6 v7 s0 S) (oc : ob S v0 11) : P_X11_face_30 (fun r T => Q r T ∧ NFq 11 2 c11 v0 T) v0 v1 v2 v3 v4 v5 v6 v7 s0 S := by
  delta P_X11_face_30 at h ⊢
  refine ⟨?_, ?_⟩
  · intro c1
    have h := h.1 c1
    obtain ⟨c2, h⟩ := h
    refine ⟨c2, ?_⟩
    refine cm_X11_partsOf (kg_X11_partsOf h) h (fun x3 x4 p6 h g5 => ?_)
    have h := h g5
    have oc := gr_ob p6.2.1 oc
    refine cm_X11_told (nf_X11_told h oc) h (fun x7 x8 p10 h g9 => ?_)
    have h := h g9
    have N := p10.2
    have oc := N.1
    exact ⟨h, N⟩
  · intro c11
    have h := h.2 c11
    obtain ⟨c12, h⟩ := h
    refine ⟨c12, ?_⟩
    refine cm_X11_refused (nf_X11_refused h oc) h (fun x13 x14 p16 h g15 => ?_)
    have h := h g15
    have N := p16.2
    have oc := N.1
    exact ⟨h, N⟩
set_option maxRecDepth 20000 in
set_option maxHeartbeats 1000000 in
theorem nf_X11_face_0 {Q : Int64 → HS → Prop} {v0 : Nat} {v1 : Int32} {v2 : Int32} {v3 : Int32} {v4 : Int32} {v5 : Int32} {v6 : Int32} {v7 : Int32} {S : HS} (h : P_X11_face_0 Q v0 v1 v2 v3 v4 v5 v6 v7 S) (oc : ob S v0 11) : P_X11_face_0 (fun r T => Q r T ∧ NFq 11 2 c11 v0 T) v0 v1 v2 v3 v4 v5 v6 v7 S := by
  delta P_X11_face_0 at h ⊢
  obtain ⟨c1, h⟩ := h
  refine ⟨c1, ?_⟩
  intro x3 e2
  have h := h x3 e2
  have oc := ob_wI oc e2
  refine cm_X11_in (kg_X11_in h) h (fun x4 x5 p8 h g6 g7 => ?_)
  have h := h g6 g7
  have oc := gr_ob p8.2.1 oc
  refine ⟨?_, ?_⟩
  · intro c9
    have h := h.1 c9
    exact nf_X11_face_30 h oc
  · intro c10
    have h := h.2 c10
    refine cm_X11_refuses (kg_X11_refuses h) h (fun x11 x12 p14 h g13 => ?_)
    have h := h g13
    have oc := gr_ob p14.2.1 oc
    exact nf_X11_face_30 h oc
theorem nf_X11_face {Q : Int64 → HS → Prop} {v0 : Nat} {v1 : Int32} {v2 : Int32} {v3 : Int32} {v4 : Int32} {v5 : Int32} {v6 : Int32} {v7 : Int32} {S : HS} (h : P_X11_face v0 v1 v2 v3 v4 v5 v6 v7 Q S) (oc : ob S v0 11) : P_X11_face v0 v1 v2 v3 v4 v5 v6 v7 (fun r T => Q r T ∧ NFq 11 2 c11 v0 T) S := nf_X11_face_0 h oc
set_option maxRecDepth 20000 in
set_option maxHeartbeats 1000000 in
theorem nf_X11_first_89 {Q : Int32 → HS → Prop} {s0 : Nat} {s1 : Int32} {v0 : Nat} {S : HS} (h : P_X11_first_89 Q s0 s1 S) (oc : ob S v0 11) (q_s0 : s0 = v0) : P_X11_first_89 (fun r T => Q r T ∧ NFq 11 2 c11 v0 T) s0 s1 S := by
  delta P_X11_first_89 at h ⊢
  subst q_s0
  obtain ⟨c1, h⟩ := h
  refine ⟨c1, ?_⟩
  refine cm_X11_good (nf_X11_good h oc) h (fun x2 x3 p5 h g4 => ?_)
  have h := h g4
  have N := p5.2
  have oc := N.1
  exact ⟨h, N⟩
set_option maxRecDepth 20000 in
set_option maxHeartbeats 1000000 in
theorem nf_X11_first_0 {Q : Int32 → HS → Prop} {v0 : Nat} {v1 : Int32} {v2 : Int32} {v3 : Int32} {v4 : Int32} {v5 : Int32} {v6 : Int32} {S : HS} (h : P_X11_first_0 Q v0 v1 v2 v3 v4 v5 v6 S) (oc : ob S v0 11) : P_X11_first_0 (fun r T => Q r T ∧ NFq 11 2 c11 v0 T) v0 v1 v2 v3 v4 v5 v6 S := by
  delta P_X11_first_0 at h ⊢
  obtain ⟨c1, h⟩ := h
  refine ⟨c1, ?_⟩
  intro x3 e2
  have h := h x3 e2
  have oc := ob_wI oc e2
  refine cm_X11_refusesTwo (kg_X11_refusesTwo h) h (fun x4 x5 p7 h g6 => ?_)
  have h := h g6
  have oc := gr_ob p7.2.1 oc
  refine ⟨?_, ?_⟩
  · intro c8
    have h := h.1 c8
    refine cm_X11_together (kg_X11_together h) h (fun x9 x10 p12 h g11 => ?_)
    have h := h g11
    have oc := gr_ob p12.2.1 oc
    refine cm_X11_together (kg_X11_together h) h (fun x13 x14 p16 h g15 => ?_)
    have h := h g15
    have oc := gr_ob p16.2.1 oc
    refine ⟨?_, ?_⟩
    · intro c17
      have h := h.1 c17
      refine ⟨?_, ?_⟩
      · intro c18
        have h := h.1 c18
        exact nf_X11_first_89 h oc rfl
      · intro c19
        have h := h.2 c19
        exact nf_X11_first_89 h oc rfl
    · intro c20
      have h := h.2 c20
      exact nf_X11_first_89 h oc rfl
  · intro c21
    have h := h.2 c21
    refine cm_X11_refused (nf_X11_refused h oc) h (fun x22 x23 p25 h g24 => ?_)
    have h := h g24
    have N := p25.2
    have oc := N.1
    exact ⟨h, N⟩
theorem nf_X11_first {Q : Int32 → HS → Prop} {v0 : Nat} {v1 : Int32} {v2 : Int32} {v3 : Int32} {v4 : Int32} {v5 : Int32} {v6 : Int32} {S : HS} (h : P_X11_first v0 v1 v2 v3 v4 v5 v6 Q S) (oc : ob S v0 11) : P_X11_first v0 v1 v2 v3 v4 v5 v6 (fun r T => Q r T ∧ NFq 11 2 c11 v0 T) S := nf_X11_first_0 h oc
set_option maxRecDepth 20000 in
set_option maxHeartbeats 1000000 in
theorem nf_X11_fit_27 {Q : Int32 → HS → Prop} {v0 : Nat} {s0 : Int32} {S : HS} (h : P_X11_fit_27 Q v0 s0 S) (oc : ob S v0 11) : P_X11_fit_27 (fun r T => Q r T ∧ NFq 11 2 c11 v0 T) v0 s0 S := by
  delta P_X11_fit_27 at h ⊢
  refine ⟨?_, ?_⟩
  · intro c1
    have h := h.1 c1
    obtain ⟨c2, h⟩ := h
    refine ⟨c2, ?_⟩
    refine cm_X11_good (nf_X11_good h oc) h (fun x3 x4 p6 h g5 => ?_)
    have h := h g5
    have N := p6.2
    have oc := N.1
    exact ⟨h, N⟩
  · intro c7
    have h := h.2 c7
    obtain ⟨c8, h⟩ := h
    refine ⟨c8, ?_⟩
    refine cm_X11_refused (nf_X11_refused h oc) h (fun x9 x10 p12 h g11 => ?_)
    have h := h g11
    have N := p12.2
    have oc := N.1
    exact ⟨h, N⟩
set_option maxRecDepth 20000 in
set_option maxHeartbeats 1000000 in
theorem nf_X11_fit_26 {Q : Int32 → HS → Prop} {v0 : Nat} {S : HS} (h : P_X11_fit_26 Q v0 S) (oc : ob S v0 11) : P_X11_fit_26 (fun r T => Q r T ∧ NFq 11 2 c11 v0 T) v0 S := by
  delta P_X11_fit_26 at h ⊢
  exact nf_X11_fit_27 h oc
set_option maxRecDepth 20000 in
set_option maxHeartbeats 1000000 in
theorem nf_X11_fit_0 {Q : Int32 → HS → Prop} {v0 : Nat} {v1 : Int32} {v2 : Int32} {S : HS} (h : P_X11_fit_0 Q v0 v1 v2 S) (oc : ob S v0 11) : P_X11_fit_0 (fun r T => Q r T ∧ NFq 11 2 c11 v0 T) v0 v1 v2 S := by
  delta P_X11_fit_0 at h ⊢
  obtain ⟨c1, h⟩ := h
  refine ⟨c1, ?_⟩
  intro x3 e2
  have h := h x3 e2
  have oc := ob_wI oc e2
  refine cm_X11_isSeen (kg_X11_isSeen h) h (fun x4 x5 p8 h g6 g7 => ?_)
  have h := h g6 g7
  have oc := gr_ob p8.2.1 oc
  refine ⟨?_, ?_⟩
  · intro c9
    have h := h.1 c9
    exact nf_X11_fit_26 h oc
  · intro c10
    have h := h.2 c10
    refine ⟨?_, ?_⟩
    · intro c11
      have h := h.1 c11
      exact nf_X11_fit_26 h oc
    · intro c12
      have h := h.2 c12
      refine cm_X11_fitOf (kg_X11_fitOf h) h (fun x13 x14 p16 h g15 => ?_)
      have h := h g15
      have oc := gr_ob p16.2.1 oc
      exact nf_X11_fit_27 h oc
theorem nf_X11_fit {Q : Int32 → HS → Prop} {v0 : Nat} {v1 : Int32} {v2 : Int32} {S : HS} (h : P_X11_fit v0 v1 v2 Q S) (oc : ob S v0 11) : P_X11_fit v0 v1 v2 (fun r T => Q r T ∧ NFq 11 2 c11 v0 T) S := nf_X11_fit_0 h oc
set_option maxRecDepth 20000 in
set_option maxHeartbeats 1000000 in
theorem nf_X11_fits_0 {Q : Int32 → HS → Prop} {v0 : Nat} {v1 : Int32} {S : HS} (h : P_X11_fits_0 Q v0 v1 S) (oc : ob S v0 11) : P_X11_fits_0 (fun r T => Q r T ∧ NFq 11 2 c11 v0 T) v0 v1 S := by
  delta P_X11_fits_0 at h ⊢
  obtain ⟨c1, h⟩ := h
  refine ⟨c1, ?_⟩
  intro x3 e2
  have h := h x3 e2
  have oc := ob_wI oc e2
  refine cm_X11_isSeen (kg_X11_isSeen h) h (fun x4 x5 p8 h g6 g7 => ?_)
  have h := h g6 g7
  have oc := gr_ob p8.2.1 oc
  refine ⟨?_, ?_⟩
  · intro c9
    have h := h.1 c9
    refine cm_X11_refused (nf_X11_refused h oc) h (fun x10 x11 p13 h g12 => ?_)
    have h := h g12
    have N := p13.2
    have oc := N.1
    exact ⟨h, N⟩
  · intro c14
    have h := h.2 c14
    refine cm_X11_fitOf (kg_X11_fitOf h) h (fun x15 x16 p18 h g17 => ?_)
    have h := h g17
    have oc := gr_ob p18.2.1 oc
    refine cm_X11_good (nf_X11_good h oc) h (fun x19 x20 p22 h g21 => ?_)
    have h := h g21
    have N := p22.2
    have oc := N.1
    exact ⟨h, N⟩
theorem nf_X11_fits {Q : Int32 → HS → Prop} {v0 : Nat} {v1 : Int32} {S : HS} (h : P_X11_fits v0 v1 Q S) (oc : ob S v0 11) : P_X11_fits v0 v1 (fun r T => Q r T ∧ NFq 11 2 c11 v0 T) S := nf_X11_fits_0 h oc
set_option maxRecDepth 20000 in
set_option maxHeartbeats 1000000 in
theorem nf_X11_go_29 {Q : Int32 → HS → Prop} {v0 : Nat} {S : HS} (h : P_X11_go_29 Q v0 S) (oc : ob S v0 11) : P_X11_go_29 (fun r T => Q r T ∧ NFq 11 2 c11 v0 T) v0 S := by
  delta P_X11_go_29 at h ⊢
  obtain ⟨c1, h⟩ := h
  refine ⟨c1, ?_⟩
  refine cm_X11_refused (nf_X11_refused h oc) h (fun x2 x3 p5 h g4 => ?_)
  have h := h g4
  have N := p5.2
  have oc := N.1
  exact ⟨h, N⟩
set_option maxRecDepth 20000 in
set_option maxHeartbeats 1000000 in
theorem nf_X11_go_171 {Q : Int32 → HS → Prop} {v0 : Nat} {v1 : Int32} {v2 : Int32} {v3 : Int32} {v4 : Int32} {S : HS} (h : P_X11_go_171 Q v0 v1 v2 v3 v4 S) (oc : ob S v0 11) : P_X11_go_171 (fun r T => Q r T ∧ NFq 11 2 c11 v0 T) v0 v1 v2 v3 v4 S := by
  delta P_X11_go_171 at h ⊢
  obtain ⟨c1, h⟩ := h
  refine ⟨c1, ?_⟩
  obtain ⟨b2, e3, h⟩ := h
  refine ⟨b2, e3, ?_⟩
  obtain ⟨b4, e5, h⟩ := h
  refine ⟨b4, e5, ?_⟩
  obtain ⟨c6, h⟩ := h
  refine ⟨c6, ?_⟩
  have n7 := ob_nq oc c6 (by decide)
  refine cm_X10_ends (kg_X10_ends h) h (fun x8 x9 p11 h g10 => ?_)
  have h := h g10
  have oc := gr_ob p11.2.1 oc
  obtain ⟨c12, h⟩ := h
  refine ⟨c12, ?_⟩
  have n13 := ob_nq oc c12 (by decide)
  intro x15 e14
  have h := h x15 e14
  obtain ⟨c16, h⟩ := h
  refine ⟨c16, ?_⟩
  intro x18 e17
  have h := h x18 e17
  have oc := ob_wJ oc e17
  obtain ⟨b19, e20, h⟩ := h
  refine ⟨b19, e20, ?_⟩
  obtain ⟨b21, e22, h⟩ := h
  refine ⟨b21, e22, ?_⟩
  obtain ⟨c23, h⟩ := h
  refine ⟨c23, ?_⟩
  have n24 := ob_nq oc c23 (by decide)
  refine cm_X10_minutes (kg_X10_minutes h) h (fun x25 x26 p28 h g27 => ?_)
  have h := h g27
  have oc := gr_ob p28.2.1 oc
  obtain ⟨c29, h⟩ := h
  refine ⟨c29, ?_⟩
  have n30 := ob_nq oc c29 (by decide)
  intro x32 e31
  have h := h x32 e31
  obtain ⟨c33, h⟩ := h
  refine ⟨c33, ?_⟩
  intro x35 e34
  have h := h x35 e34
  have oc := ob_wJ oc e34
  obtain ⟨b36, e37, h⟩ := h
  refine ⟨b36, e37, ?_⟩
  obtain ⟨c38, h⟩ := h
  refine ⟨c38, ?_⟩
  have n39 := ob_nq oc c38 (by decide)
  obtain ⟨c40, h⟩ := h
  refine ⟨c40, ?_⟩
  intro x42 e41
  have h := h x42 e41
  refine cm_X11_good (nf_X11_good h oc) h (fun x43 x44 p46 h g45 => ?_)
  have h := h g45
  have N := p46.2
  have oc := N.1
  exact ⟨h, N⟩
set_option maxRecDepth 20000 in
set_option maxHeartbeats 1000000 in
theorem nfB_X11_go_119 {Q : Int32 → HS → Prop} {X119 X119_2 : Nat → Int32 → Int32 → Int32 → Int32 → Int32 → HS → Prop} {v0 : Nat} {v1 : Int32} {v2 : Int32} {v3 : Int32} {v4 : Int32} {v5 : Int32} {S : HS} (h : B_X11_go_119 Q X119 v0 v1 v2 v3 v4 v5 S) (oc : ob S v0 11) (hX119 : ∀ (u0 : Nat) (u1 : Int32) (u2 : Int32) (u3 : Int32) (u4 : Int32) (u5 : Int32) (u6 : HS), X119 u0 u1 u2 u3 u4 u5 u6 → u0 = v0 → ob u6 v0 11 → X119_2 u0 u1 u2 u3 u4 u5 u6) : B_X11_go_119 (fun r T => Q r T ∧ NFq 11 2 c11 v0 T) X119_2 v0 v1 v2 v3 v4 v5 S := by
  delta B_X11_go_119 at h ⊢
  refine ⟨?_, ?_⟩
  · intro c1
    have h := h.1 c1
    exact nf_X11_go_171 h oc
  · intro c2
    have h := h.2 c2
    obtain ⟨c3, h⟩ := h
    refine ⟨c3, ?_⟩
    refine cm_X11_rainsIn (kg_X11_rainsIn h) h (fun x4 x5 p8 h g6 g7 => ?_)
    have h := h g6 g7
    have oc := gr_ob p8.2.1 oc
    refine ⟨?_, ?_⟩
    · intro c9
      have h := h.1 c9
      exact nf_X11_go_171 h oc
    · intro c10
      have h := h.2 c10
      obtain ⟨b11, e12, h⟩ := h
      refine ⟨b11, e12, ?_⟩
      obtain ⟨c13, h⟩ := h
      refine ⟨c13, ?_⟩
      have n14 := ob_nq oc c13 (by decide)
      intro x16 e15
      have h := h x16 e15
      obtain ⟨c17, h⟩ := h
      refine ⟨c17, ?_⟩
      intro x19 e18
      have h := h x19 e18
      intro x21 e20
      have h := h x21 e20
      refine cm_X11_hourOf (kg_X11_hourOf h) h (fun x22 x23 p25 h g24 => ?_)
      have h := h g24
      have oc := gr_ob p25.2.1 oc
      refine cm_X11_partsOf (kg_X11_partsOf h) h (fun x26 x27 p29 h g28 => ?_)
      have h := h g28
      have oc := gr_ob p29.2.1 oc
      intro x31 e30
      have h := h x31 e30
      obtain ⟨c32, h⟩ := h
      refine ⟨c32, ?_⟩
      intro x34 e33
      have h := h x34 e33
      have oc := ob_wJ oc e33
      intro x36 e35
      have h := h x36 e35
      exact hX119 _ _ _ _ _ _ _ h rfl oc
theorem nf_X11_go_119 {Q : Int32 → HS → Prop} {v0 : Nat} {v1 : Int32} {v2 : Int32} {v3 : Int32} {v4 : Int32} {v5 : Int32} {S : HS} (h : P_X11_go_119 Q v0 v1 v2 v3 v4 v5 S) (oc : ob S v0 11) : P_X11_go_119 (fun r T => Q r T ∧ NFq 11 2 c11 v0 T) v0 v1 v2 v3 v4 v5 S := h (fun w0 v1 v2 v3 v4 v5 S => w0 = v0 → ob S v0 11 → P_X11_go_119 (fun r T => Q r T ∧ NFq 11 2 c11 v0 T) w0 v1 v2 v3 v4 v5 S) (fun w0 v1 v2 v3 v4 v5 S hB e oc => by
  subst e; exact fd_X11_go_119 (nfB_X11_go_119 hB oc (fun _ _ _ _ _ _ _ hx e oc => hx e oc))) rfl oc
set_option maxRecDepth 20000 in
set_option maxHeartbeats 1000000 in
theorem nf_X11_go_0 {Q : Int32 → HS → Prop} {v0 : Nat} {v1 : Int32} {v2 : Int32} {v3 : Int32} {S : HS} (h : P_X11_go_0 Q v0 v1 v2 v3 S) (oc : ob S v0 11) : P_X11_go_0 (fun r T => Q r T ∧ NFq 11 2 c11 v0 T) v0 v1 v2 v3 S := by
  delta P_X11_go_0 at h ⊢
  obtain ⟨c1, h⟩ := h
  refine ⟨c1, ?_⟩
  intro x3 e2
  have h := h x3 e2
  have oc := ob_wI oc e2
  refine cm_X11_isDay (kg_X11_isDay h) h (fun x4 x5 p8 h g6 g7 => ?_)
  have h := h g6 g7
  have oc := gr_ob p8.2.1 oc
  refine ⟨?_, ?_⟩
  · intro c9
    have h := h.1 c9
    exact nf_X11_go_29 h oc
  · intro c10
    have h := h.2 c10
    refine cm_X11_isRoad (kg_X11_isRoad h) h (fun x11 x12 p15 h g13 g14 => ?_)
    have h := h g13 g14
    have oc := gr_ob p15.2.1 oc
    refine ⟨?_, ?_⟩
    · intro c16
      have h := h.1 c16
      exact nf_X11_go_29 h oc
    · intro c17
      have h := h.2 c17
      refine cm_X11_in (kg_X11_in h) h (fun x18 x19 p22 h g20 g21 => ?_)
      have h := h g20 g21
      have oc := gr_ob p22.2.1 oc
      refine ⟨?_, ?_⟩
      · intro c23
        have h := h.1 c23
        intro x25 e24
        have h := h x25 e24
        refine cm_X11_isSpeed (kg_X11_isSpeed h) h (fun x26 x27 p30 h g28 g29 => ?_)
        have h := h g28 g29
        have oc := gr_ob p30.2.1 oc
        refine ⟨?_, ?_⟩
        · intro c31
          have h := h.1 c31
          obtain ⟨b32, e33, h⟩ := h
          refine ⟨b32, e33, ?_⟩
          obtain ⟨c34, h⟩ := h
          refine ⟨c34, ?_⟩
          have n35 := ob_nq oc c34 (by decide)
          refine cm_X10_begins (kg_X10_begins h) h (fun x36 x37 p39 h g38 => ?_)
          have h := h g38
          have oc := gr_ob p39.2.1 oc
          obtain ⟨b40, e41, h⟩ := h
          refine ⟨b40, e41, ?_⟩
          obtain ⟨c42, h⟩ := h
          refine ⟨c42, ?_⟩
          have n43 := ob_nq oc c42 (by decide)
          obtain ⟨c44, h⟩ := h
          refine ⟨c44, ?_⟩
          intro x46 e45
          have h := h x46 e45
          refine ⟨?_, ?_⟩
          · intro c47
            have h := h.1 c47
            obtain ⟨b48, e49, h⟩ := h
            refine ⟨b48, e49, ?_⟩
            obtain ⟨c50, h⟩ := h
            refine ⟨c50, ?_⟩
            have n51 := ob_nq oc c50 (by decide)
            obtain ⟨c52, h⟩ := h
            refine ⟨c52, ?_⟩
            intro x54 e53
            have h := h x54 e53
            intro x56 e55
            have h := h x56 e55
            obtain ⟨b57, e58, h⟩ := h
            refine ⟨b57, e58, ?_⟩
            obtain ⟨c59, h⟩ := h
            refine ⟨c59, ?_⟩
            have n60 := ob_nq oc c59 (by decide)
            refine cm_X10_minutes (kg_X10_minutes h) h (fun x61 x62 p64 h g63 => ?_)
            have h := h g63
            have oc := gr_ob p64.2.1 oc
            refine ⟨?_, ?_⟩
            · intro c65
              have h := h.1 c65
              refine cm_X11_keeps (kg_X11_keeps h) h (fun x66 p68 h g67 => ?_)
              have h := h g67
              have oc := gr_ob p68.2.1 oc
              exact nf_X11_go_119 h oc
            · intro c69
              have h := h.2 c69
              refine cm_X11_refused (nf_X11_refused h oc) h (fun x70 x71 p73 h g72 => ?_)
              have h := h g72
              have N := p73.2
              have oc := N.1
              exact ⟨h, N⟩
          · intro c74
            have h := h.2 c74
            refine cm_X11_refused (nf_X11_refused h oc) h (fun x75 x76 p78 h g77 => ?_)
            have h := h g77
            have N := p78.2
            have oc := N.1
            exact ⟨h, N⟩
        · intro c79
          have h := h.2 c79
          refine cm_X11_refused (nf_X11_refused h oc) h (fun x80 x81 p83 h g82 => ?_)
          have h := h g82
          have N := p83.2
          have oc := N.1
          exact ⟨h, N⟩
      · intro c84
        have h := h.2 c84
        exact nf_X11_go_29 h oc
theorem nf_X11_go {Q : Int32 → HS → Prop} {v0 : Nat} {v1 : Int32} {v2 : Int32} {v3 : Int32} {S : HS} (h : P_X11_go v0 v1 v2 v3 Q S) (oc : ob S v0 11) : P_X11_go v0 v1 v2 v3 (fun r T => Q r T ∧ NFq 11 2 c11 v0 T) S := nf_X11_go_0 h oc
set_option maxRecDepth 20000 in
set_option maxHeartbeats 1000000 in
theorem nf_X11_got_40 {Q : Int64 → HS → Prop} {v0 : Nat} {S : HS} (h : P_X11_got_40 Q v0 S) (oc : ob S v0 11) : P_X11_got_40 (fun r T => Q r T ∧ NFq 11 2 c11 v0 T) v0 S := by
  delta P_X11_got_40 at h ⊢
  obtain ⟨c1, h⟩ := h
  refine ⟨c1, ?_⟩
  refine cm_X11_refused (nf_X11_refused h oc) h (fun x2 x3 p5 h g4 => ?_)
  have h := h g4
  have N := p5.2
  have oc := N.1
  exact ⟨h, N⟩
set_option maxRecDepth 20000 in
set_option maxHeartbeats 1000000 in
theorem nf_X11_got_0 {Q : Int64 → HS → Prop} {v0 : Nat} {v1 : Int32} {v2 : Int32} {S : HS} (h : P_X11_got_0 Q v0 v1 v2 S) (oc : ob S v0 11) : P_X11_got_0 (fun r T => Q r T ∧ NFq 11 2 c11 v0 T) v0 v1 v2 S := by
  delta P_X11_got_0 at h ⊢
  obtain ⟨c1, h⟩ := h
  refine ⟨c1, ?_⟩
  intro x3 e2
  have h := h x3 e2
  have oc := ob_wI oc e2
  refine cm_X11_isDay (kg_X11_isDay h) h (fun x4 x5 p8 h g6 g7 => ?_)
  have h := h g6 g7
  have oc := gr_ob p8.2.1 oc
  refine ⟨?_, ?_⟩
  · intro c9
    have h := h.1 c9
    exact nf_X11_got_40 h oc
  · intro c10
    have h := h.2 c10
    refine cm_X11_in (kg_X11_in h) h (fun x11 x12 p15 h g13 g14 => ?_)
    have h := h g13 g14
    have oc := gr_ob p15.2.1 oc
    refine ⟨?_, ?_⟩
    · intro c16
      have h := h.1 c16
      exact nf_X11_got_40 h oc
    · intro c17
      have h := h.2 c17
      obtain ⟨b18, e19, h⟩ := h
      refine ⟨b18, e19, ?_⟩
      obtain ⟨c20, h⟩ := h
      refine ⟨c20, ?_⟩
      have n21 := ob_nq oc c20 (by decide)
      intro x23 e22
      have h := h x23 e22
      obtain ⟨c24, h⟩ := h
      refine ⟨c24, ?_⟩
      intro x26 e25
      have h := h x26 e25
      refine cm_X11_told (nf_X11_told h oc) h (fun x27 x28 p30 h g29 => ?_)
      have h := h g29
      have N := p30.2
      have oc := N.1
      exact ⟨h, N⟩
theorem nf_X11_got {Q : Int64 → HS → Prop} {v0 : Nat} {v1 : Int32} {v2 : Int32} {S : HS} (h : P_X11_got v0 v1 v2 Q S) (oc : ob S v0 11) : P_X11_got v0 v1 v2 (fun r T => Q r T ∧ NFq 11 2 c11 v0 T) S := nf_X11_got_0 h oc
set_option maxRecDepth 20000 in
set_option maxHeartbeats 1000000 in
theorem nf_X11_held_68 {Q : Int32 → HS → Prop} {s0 : Nat} {s1 : Int32} {v0 : Nat} {S : HS} (h : P_X11_held_68 Q s0 s1 S) (oc : ob S v0 11) (q_s0 : s0 = v0) : P_X11_held_68 (fun r T => Q r T ∧ NFq 11 2 c11 v0 T) s0 s1 S := by
  delta P_X11_held_68 at h ⊢
  subst q_s0
  obtain ⟨c1, h⟩ := h
  refine ⟨c1, ?_⟩
  refine cm_X11_good (nf_X11_good h oc) h (fun x2 x3 p5 h g4 => ?_)
  have h := h g4
  have N := p5.2
  have oc := N.1
  exact ⟨h, N⟩
set_option maxRecDepth 20000 in
set_option maxHeartbeats 1000000 in
theorem nf_X11_held_0 {Q : Int32 → HS → Prop} {v0 : Nat} {v1 : Int32} {v2 : Int32} {v3 : Int32} {v4 : Int32} {v5 : Int32} {S : HS} (h : P_X11_held_0 Q v0 v1 v2 v3 v4 v5 S) (oc : ob S v0 11) : P_X11_held_0 (fun r T => Q r T ∧ NFq 11 2 c11 v0 T) v0 v1 v2 v3 v4 v5 S := by
  delta P_X11_held_0 at h ⊢
  obtain ⟨c1, h⟩ := h
  refine ⟨c1, ?_⟩
  intro x3 e2
  have h := h x3 e2
  have oc := ob_wI oc e2
  refine cm_X11_refuses (kg_X11_refuses h) h (fun x4 x5 p7 h g6 => ?_)
  have h := h g6
  have oc := gr_ob p7.2.1 oc
  refine ⟨?_, ?_⟩
  · intro c8
    have h := h.1 c8
    obtain ⟨b9, e10, h⟩ := h
    refine ⟨b9, e10, ?_⟩
    obtain ⟨c11, h⟩ := h
    refine ⟨c11, ?_⟩
    have n12 := ob_nq oc c11 (by decide)
    obtain ⟨b13, e14, h⟩ := h
    refine ⟨b13, e14, ?_⟩
    obtain ⟨c15, h⟩ := h
    refine ⟨c15, ?_⟩
    have n16 := ob_nq oc c15 (by decide)
    obtain ⟨c17, h⟩ := h
    refine ⟨c17, ?_⟩
    intro x19 e18
    have h := h x19 e18
    refine ⟨?_, ?_⟩
    · intro c20
      have h := h.1 c20
      refine cm_X11_isForward (kg_X11_isForward h) h (fun x21 x22 p25 h g23 g24 => ?_)
      have h := h g23 g24
      have oc := gr_ob p25.2.1 oc
      refine ⟨?_, ?_⟩
      · intro c26
        have h := h.1 c26
        exact nf_X11_held_68 h oc rfl
      · intro c27
        have h := h.2 c27
        exact nf_X11_held_68 h oc rfl
    · intro c28
      have h := h.2 c28
      exact nf_X11_held_68 h oc rfl
  · intro c29
    have h := h.2 c29
    refine cm_X11_refused (nf_X11_refused h oc) h (fun x30 x31 p33 h g32 => ?_)
    have h := h g32
    have N := p33.2
    have oc := N.1
    exact ⟨h, N⟩
theorem nf_X11_held {Q : Int32 → HS → Prop} {v0 : Nat} {v1 : Int32} {v2 : Int32} {v3 : Int32} {v4 : Int32} {v5 : Int32} {S : HS} (h : P_X11_held v0 v1 v2 v3 v4 v5 Q S) (oc : ob S v0 11) : P_X11_held v0 v1 v2 v3 v4 v5 (fun r T => Q r T ∧ NFq 11 2 c11 v0 T) S := nf_X11_held_0 h oc
set_option maxRecDepth 20000 in
set_option maxHeartbeats 1000000 in
theorem nf_X11_least_0 {Q : Int64 → HS → Prop} {v0 : Nat} {v1 : Int32} {v2 : Int32} {v3 : Int32} {v4 : Int32} {v5 : Int32} {v6 : Int32} {S : HS} (h : P_X11_least_0 Q v0 v1 v2 v3 v4 v5 v6 S) (oc : ob S v0 11) : P_X11_least_0 (fun r T => Q r T ∧ NFq 11 2 c11 v0 T) v0 v1 v2 v3 v4 v5 v6 S := by
  delta P_X11_least_0 at h ⊢
  obtain ⟨c1, h⟩ := h
  refine ⟨c1, ?_⟩
  intro x3 e2
  have h := h x3 e2
  have oc := ob_wI oc e2
  refine cm_X11_refusesWay (kg_X11_refusesWay h) h (fun x4 x5 p7 h g6 => ?_)
  have h := h g6
  have oc := gr_ob p7.2.1 oc
  refine ⟨?_, ?_⟩
  · intro c8
    have h := h.1 c8
    obtain ⟨b9, e10, h⟩ := h
    refine ⟨b9, e10, ?_⟩
    refine cm_X11_spotOf (kg_X11_spotOf h) h (fun x11 x12 p14 h g13 => ?_)
    have h := h g13
    have oc := gr_ob p14.2.1 oc
    obtain ⟨c15, h⟩ := h
    refine ⟨c15, ?_⟩
    have n16 := ob_nq oc c15 (by decide)
    obtain ⟨c17, h⟩ := h
    refine ⟨c17, ?_⟩
    intro x19 e18
    have h := h x19 e18
    refine cm_X11_told (nf_X11_told h oc) h (fun x20 x21 p23 h g22 => ?_)
    have h := h g22
    have N := p23.2
    have oc := N.1
    exact ⟨h, N⟩
  · intro c24
    have h := h.2 c24
    refine cm_X11_refused (nf_X11_refused h oc) h (fun x25 x26 p28 h g27 => ?_)
    have h := h g27
    have N := p28.2
    have oc := N.1
    exact ⟨h, N⟩
theorem nf_X11_least {Q : Int64 → HS → Prop} {v0 : Nat} {v1 : Int32} {v2 : Int32} {v3 : Int32} {v4 : Int32} {v5 : Int32} {v6 : Int32} {S : HS} (h : P_X11_least v0 v1 v2 v3 v4 v5 v6 Q S) (oc : ob S v0 11) : P_X11_least v0 v1 v2 v3 v4 v5 v6 (fun r T => Q r T ∧ NFq 11 2 c11 v0 T) S := nf_X11_least_0 h oc
set_option maxRecDepth 20000 in
set_option maxHeartbeats 1000000 in
theorem nf_X11_lee_0 {Q : Int64 → HS → Prop} {v0 : Nat} {v1 : Int32} {v2 : Int32} {v3 : Int32} {v4 : Int32} {v5 : Int32} {v6 : Int32} {v7 : Int32} {S : HS} (h : P_X11_lee_0 Q v0 v1 v2 v3 v4 v5 v6 v7 S) (oc : ob S v0 11) : P_X11_lee_0 (fun r T => Q r T ∧ NFq 11 2 c11 v0 T) v0 v1 v2 v3 v4 v5 v6 v7 S := by
  delta P_X11_lee_0 at h ⊢
  obtain ⟨c1, h⟩ := h
  refine ⟨c1, ?_⟩
  intro x3 e2
  have h := h x3 e2
  have oc := ob_wI oc e2
  refine cm_X11_refusesTwo (kg_X11_refusesTwo h) h (fun x4 x5 p7 h g6 => ?_)
  have h := h g6
  have oc := gr_ob p7.2.1 oc
  refine ⟨?_, ?_⟩
  · intro c8
    have h := h.1 c8
    refine cm_X11_together (kg_X11_together h) h (fun x9 x10 p12 h g11 => ?_)
    have h := h g11
    have oc := gr_ob p12.2.1 oc
    refine cm_X11_told (nf_X11_told h oc) h (fun x13 x14 p16 h g15 => ?_)
    have h := h g15
    have N := p16.2
    have oc := N.1
    exact ⟨h, N⟩
  · intro c17
    have h := h.2 c17
    refine cm_X11_refused (nf_X11_refused h oc) h (fun x18 x19 p21 h g20 => ?_)
    have h := h g20
    have N := p21.2
    have oc := N.1
    exact ⟨h, N⟩
theorem nf_X11_lee {Q : Int64 → HS → Prop} {v0 : Nat} {v1 : Int32} {v2 : Int32} {v3 : Int32} {v4 : Int32} {v5 : Int32} {v6 : Int32} {v7 : Int32} {S : HS} (h : P_X11_lee v0 v1 v2 v3 v4 v5 v6 v7 Q S) (oc : ob S v0 11) : P_X11_lee v0 v1 v2 v3 v4 v5 v6 v7 (fun r T => Q r T ∧ NFq 11 2 c11 v0 T) S := nf_X11_lee_0 h oc
set_option maxRecDepth 20000 in
set_option maxHeartbeats 1000000 in
theorem nf_X11_lies_50 {Q : Int32 → HS → Prop} {X22 X22_2 : Nat → Int32 → Int32 → HS → Prop} {v0 : Nat} {v2 : Int32} {s0 : Int32} {s1 : Int32} {S : HS} (h : P_X11_lies_50 Q X22 v0 v2 s0 s1 S) (oc : ob S v0 11) (hX22 : ∀ (u0 : Nat) (u1 : Int32) (u2 : Int32) (u3 : HS), X22 u0 u1 u2 u3 → u0 = v0 → ob u3 v0 11 → X22_2 u0 u1 u2 u3) : P_X11_lies_50 (fun r T => Q r T ∧ NFq 11 2 c11 v0 T) X22_2 v0 v2 s0 s1 S := by
  delta P_X11_lies_50 at h ⊢
  intro x2 e1
  have h := h x2 e1
  intro x4 e3
  have h := h x4 e3
  exact hX22 _ _ _ _ h rfl oc
set_option maxRecDepth 20000 in
set_option maxHeartbeats 1000000 in
theorem nfB_X11_lies_22 {Q : Int32 → HS → Prop} {X22 X22_2 : Nat → Int32 → Int32 → HS → Prop} {v0 : Nat} {v1 : Int32} {v2 : Int32} {S : HS} (h : B_X11_lies_22 Q X22 v0 v1 v2 S) (oc : ob S v0 11) (hX22 : ∀ (u0 : Nat) (u1 : Int32) (u2 : Int32) (u3 : HS), X22 u0 u1 u2 u3 → u0 = v0 → ob u3 v0 11 → X22_2 u0 u1 u2 u3) : B_X11_lies_22 (fun r T => Q r T ∧ NFq 11 2 c11 v0 T) X22_2 v0 v1 v2 S := by
  delta B_X11_lies_22 at h ⊢
  obtain ⟨c1, h⟩ := h
  refine ⟨c1, ?_⟩
  obtain ⟨b2, e3, h⟩ := h
  refine ⟨b2, e3, ?_⟩
  obtain ⟨c4, h⟩ := h
  refine ⟨c4, ?_⟩
  have n5 := ob_nq oc c4 (by decide)
  intro x7 e6
  have h := h x7 e6
  refine ⟨?_, ?_⟩
  · intro c8
    have h := h.1 c8
    refine cm_X11_good (nf_X11_good h oc) h (fun x9 x10 p12 h g11 => ?_)
    have h := h g11
    have N := p12.2
    have oc := N.1
    exact ⟨h, N⟩
  · intro c13
    have h := h.2 c13
    refine cm_X11_fitOf (kg_X11_fitOf h) h (fun x14 x15 p17 h g16 => ?_)
    have h := h g16
    have oc := gr_ob p17.2.1 oc
    refine ⟨?_, ?_⟩
    · intro c18
      have h := h.1 c18
      exact nf_X11_lies_50 h oc hX22
    · intro c19
      have h := h.2 c19
      exact nf_X11_lies_50 h oc hX22
theorem nf_X11_lies_22 {Q : Int32 → HS → Prop} {v0 : Nat} {v1 : Int32} {v2 : Int32} {S : HS} (h : P_X11_lies_22 Q v0 v1 v2 S) (oc : ob S v0 11) : P_X11_lies_22 (fun r T => Q r T ∧ NFq 11 2 c11 v0 T) v0 v1 v2 S := h (fun w0 v1 v2 S => w0 = v0 → ob S v0 11 → P_X11_lies_22 (fun r T => Q r T ∧ NFq 11 2 c11 v0 T) w0 v1 v2 S) (fun w0 v1 v2 S hB e oc => by
  subst e; exact fd_X11_lies_22 (nfB_X11_lies_22 hB oc (fun _ _ _ _ hx e oc => hx e oc))) rfl oc
set_option maxRecDepth 20000 in
set_option maxHeartbeats 1000000 in
theorem nf_X11_lies_0 {Q : Int32 → HS → Prop} {v0 : Nat} {S : HS} (h : P_X11_lies_0 Q v0 S) (oc : ob S v0 11) : P_X11_lies_0 (fun r T => Q r T ∧ NFq 11 2 c11 v0 T) v0 S := by
  delta P_X11_lies_0 at h ⊢
  obtain ⟨c1, h⟩ := h
  refine ⟨c1, ?_⟩
  intro x3 e2
  have h := h x3 e2
  have oc := ob_wI oc e2
  refine ⟨?_, ?_⟩
  · intro c4
    have h := h.1 c4
    refine cm_X11_refused (nf_X11_refused h oc) h (fun x5 x6 p8 h g7 => ?_)
    have h := h g7
    have N := p8.2
    have oc := N.1
    exact ⟨h, N⟩
  · intro x9 c10
    have h := h.2 x9 c10
    exact nf_X11_lies_22 h oc
theorem nf_X11_lies {Q : Int32 → HS → Prop} {v0 : Nat} {S : HS} (h : P_X11_lies v0 Q S) (oc : ob S v0 11) : P_X11_lies v0 (fun r T => Q r T ∧ NFq 11 2 c11 v0 T) S := nf_X11_lies_0 h oc
set_option maxRecDepth 20000 in
set_option maxHeartbeats 1000000 in
theorem nfB_X11_mark_34 {Q : Int32 → HS → Prop} {X34 X34_2 : Nat → Int32 → HS → Prop} {v0 : Nat} {v1 : Int32} {S : HS} (h : B_X11_mark_34 Q X34 v0 v1 S) (oc : ob S v0 11) (hX34 : ∀ (u0 : Nat) (u1 : Int32) (u2 : HS), X34 u0 u1 u2 → u0 = v0 → ob u2 v0 11 → X34_2 u0 u1 u2) : B_X11_mark_34 (fun r T => Q r T ∧ NFq 11 2 c11 v0 T) X34_2 v0 v1 S := by
  delta B_X11_mark_34 at h ⊢
  refine ⟨?_, ?_⟩
  · intro c1
    have h := h.1 c1
    obtain ⟨c2, h⟩ := h
    refine ⟨c2, ?_⟩
    intro x4 e3
    have h := h x4 e3
    intro x6 e5
    have h := h x6 e5
    intro x8 e7
    have h := h x8 e7
    have oc := ob_wI oc e7
    intro x10 e9
    have h := h x10 e9
    refine cm_X11_good (nf_X11_good h oc) h (fun x11 x12 p14 h g13 => ?_)
    have h := h g13
    have N := p14.2
    have oc := N.1
    exact ⟨h, N⟩
  · intro c15
    have h := h.2 c15
    obtain ⟨c16, h⟩ := h
    refine ⟨c16, ?_⟩
    obtain ⟨b17, e18, h⟩ := h
    refine ⟨b17, e18, ?_⟩
    intro x20 e19
    have h := h x20 e19
    obtain ⟨b21, e22, h⟩ := h
    refine ⟨b21, e22, ?_⟩
    obtain ⟨c23, h⟩ := h
    refine ⟨c23, ?_⟩
    have n24 := ob_nq oc c23 (by decide)
    obtain ⟨c25, h⟩ := h
    refine ⟨c25, ?_⟩
    intro x27 e26
    have h := h x27 e26
    obtain ⟨c28, h⟩ := h
    refine ⟨c28, ?_⟩
    have n29 := ob_nq oc c28 (by decide)
    obtain ⟨c30, h⟩ := h
    refine ⟨c30, ?_⟩
    intro x32 e31
    have h := h x32 e31
    have oc := ob_wJ oc e31
    intro x34 e33
    have h := h x34 e33
    exact hX34 _ _ _ h rfl oc
theorem nf_X11_mark_34 {Q : Int32 → HS → Prop} {v0 : Nat} {v1 : Int32} {S : HS} (h : P_X11_mark_34 Q v0 v1 S) (oc : ob S v0 11) : P_X11_mark_34 (fun r T => Q r T ∧ NFq 11 2 c11 v0 T) v0 v1 S := h (fun w0 v1 S => w0 = v0 → ob S v0 11 → P_X11_mark_34 (fun r T => Q r T ∧ NFq 11 2 c11 v0 T) w0 v1 S) (fun w0 v1 S hB e oc => by
  subst e; exact fd_X11_mark_34 (nfB_X11_mark_34 hB oc (fun _ _ _ hx e oc => hx e oc))) rfl oc
set_option maxRecDepth 20000 in
set_option maxHeartbeats 1000000 in
theorem nf_X11_mark_0 {Q : Int32 → HS → Prop} {v0 : Nat} {S : HS} (h : P_X11_mark_0 Q v0 S) (oc : ob S v0 11) : P_X11_mark_0 (fun r T => Q r T ∧ NFq 11 2 c11 v0 T) v0 S := by
  delta P_X11_mark_0 at h ⊢
  obtain ⟨c1, h⟩ := h
  refine ⟨c1, ?_⟩
  intro x3 e2
  have h := h x3 e2
  have oc := ob_wI oc e2
  refine cm_X11_isDay (kg_X11_isDay h) h (fun x4 x5 p8 h g6 g7 => ?_)
  have h := h g6 g7
  have oc := gr_ob p8.2.1 oc
  refine ⟨?_, ?_⟩
  · intro c9
    have h := h.1 c9
    intro x11 e10
    have h := h x11 e10
    refine ⟨?_, ?_⟩
    · intro c12
      have h := h.1 c12
      exact nf_X11_mark_34 h oc
    · intro c13
      have h := h.2 c13
      refine cm_X11_refused (nf_X11_refused h oc) h (fun x14 x15 p17 h g16 => ?_)
      have h := h g16
      have N := p17.2
      have oc := N.1
      exact ⟨h, N⟩
  · intro c18
    have h := h.2 c18
    refine cm_X11_refused (nf_X11_refused h oc) h (fun x19 x20 p22 h g21 => ?_)
    have h := h g21
    have N := p22.2
    have oc := N.1
    exact ⟨h, N⟩
theorem nf_X11_mark {Q : Int32 → HS → Prop} {v0 : Nat} {S : HS} (h : P_X11_mark v0 Q S) (oc : ob S v0 11) : P_X11_mark v0 (fun r T => Q r T ∧ NFq 11 2 c11 v0 T) S := nf_X11_mark_0 h oc
set_option maxRecDepth 20000 in
set_option maxHeartbeats 1000000 in
theorem nf_X11_mean_0 {Q : Int64 → HS → Prop} {v0 : Nat} {v1 : Int32} {v2 : Int32} {v3 : Int32} {v4 : Int32} {v5 : Int32} {v6 : Int32} {S : HS} (h : P_X11_mean_0 Q v0 v1 v2 v3 v4 v5 v6 S) (oc : ob S v0 11) : P_X11_mean_0 (fun r T => Q r T ∧ NFq 11 2 c11 v0 T) v0 v1 v2 v3 v4 v5 v6 S := by
  delta P_X11_mean_0 at h ⊢
  obtain ⟨c1, h⟩ := h
  refine ⟨c1, ?_⟩
  intro x3 e2
  have h := h x3 e2
  have oc := ob_wI oc e2
  refine cm_X11_refuses (kg_X11_refuses h) h (fun x4 x5 p7 h g6 => ?_)
  have h := h g6
  have oc := gr_ob p7.2.1 oc
  refine ⟨?_, ?_⟩
  · intro c8
    have h := h.1 c8
    refine cm_X11_wetOf (kg_X11_wetOf h) h (fun x9 x10 p12 h g11 => ?_)
    have h := h g11
    have oc := gr_ob p12.2.1 oc
    obtain ⟨b13, e14, h⟩ := h
    refine ⟨b13, e14, ?_⟩
    obtain ⟨c15, h⟩ := h
    refine ⟨c15, ?_⟩
    have n16 := ob_nq oc c15 (by decide)
    obtain ⟨b17, e18, h⟩ := h
    refine ⟨b17, e18, ?_⟩
    obtain ⟨c19, h⟩ := h
    refine ⟨c19, ?_⟩
    have n20 := ob_nq oc c19 (by decide)
    obtain ⟨c21, h⟩ := h
    refine ⟨c21, ?_⟩
    intro x23 e22
    have h := h x23 e22
    refine cm_X11_told (nf_X11_told h oc) h (fun x24 x25 p27 h g26 => ?_)
    have h := h g26
    have N := p27.2
    have oc := N.1
    exact ⟨h, N⟩
  · intro c28
    have h := h.2 c28
    refine cm_X11_refused (nf_X11_refused h oc) h (fun x29 x30 p32 h g31 => ?_)
    have h := h g31
    have N := p32.2
    have oc := N.1
    exact ⟨h, N⟩
theorem nf_X11_mean {Q : Int64 → HS → Prop} {v0 : Nat} {v1 : Int32} {v2 : Int32} {v3 : Int32} {v4 : Int32} {v5 : Int32} {v6 : Int32} {S : HS} (h : P_X11_mean v0 v1 v2 v3 v4 v5 v6 Q S) (oc : ob S v0 11) : P_X11_mean v0 v1 v2 v3 v4 v5 v6 (fun r T => Q r T ∧ NFq 11 2 c11 v0 T) S := nf_X11_mean_0 h oc
set_option maxRecDepth 20000 in
set_option maxHeartbeats 1000000 in
theorem nf_X11_minutes_21 {Q : Int32 → HS → Prop} {v0 : Nat} {S : HS} (h : P_X11_minutes_21 Q v0 S) (oc : ob S v0 11) : P_X11_minutes_21 (fun r T => Q r T ∧ NFq 11 2 c11 v0 T) v0 S := by
  delta P_X11_minutes_21 at h ⊢
  obtain ⟨c1, h⟩ := h
  refine ⟨c1, ?_⟩
  refine cm_X11_refused (nf_X11_refused h oc) h (fun x2 x3 p5 h g4 => ?_)
  have h := h g4
  have N := p5.2
  have oc := N.1
  exact ⟨h, N⟩
set_option maxRecDepth 20000 in
set_option maxHeartbeats 1000000 in
theorem nf_X11_minutes_0 {Q : Int32 → HS → Prop} {v0 : Nat} {v1 : Int32} {v2 : Int32} {v3 : Int32} {S : HS} (h : P_X11_minutes_0 Q v0 v1 v2 v3 S) (oc : ob S v0 11) : P_X11_minutes_0 (fun r T => Q r T ∧ NFq 11 2 c11 v0 T) v0 v1 v2 v3 S := by
  delta P_X11_minutes_0 at h ⊢
  obtain ⟨c1, h⟩ := h
  refine ⟨c1, ?_⟩
  intro x3 e2
  have h := h x3 e2
  have oc := ob_wI oc e2
  refine cm_X11_isWalker (kg_X11_isWalker h) h (fun x4 x5 p8 h g6 g7 => ?_)
  have h := h g6 g7
  have oc := gr_ob p8.2.1 oc
  refine ⟨?_, ?_⟩
  · intro c9
    have h := h.1 c9
    exact nf_X11_minutes_21 h oc
  · intro c10
    have h := h.2 c10
    refine cm_X11_isRoad (kg_X11_isRoad h) h (fun x11 x12 p15 h g13 g14 => ?_)
    have h := h g13 g14
    have oc := gr_ob p15.2.1 oc
    refine ⟨?_, ?_⟩
    · intro c16
      have h := h.1 c16
      refine cm_X11_isSpeed (kg_X11_isSpeed h) h (fun x17 x18 p21 h g19 g20 => ?_)
      have h := h g19 g20
      have oc := gr_ob p21.2.1 oc
      refine ⟨?_, ?_⟩
      · intro c22
        have h := h.1 c22
        refine cm_X11_refused (nf_X11_refused h oc) h (fun x23 x24 p26 h g25 => ?_)
        have h := h g25
        have N := p26.2
        have oc := N.1
        exact ⟨h, N⟩
      · intro c27
        have h := h.2 c27
        obtain ⟨b28, e29, h⟩ := h
        refine ⟨b28, e29, ?_⟩
        obtain ⟨c30, h⟩ := h
        refine ⟨c30, ?_⟩
        have n31 := ob_nq oc c30 (by decide)
        refine cm_X10_minutes (kg_X10_minutes h) h (fun x32 x33 p35 h g34 => ?_)
        have h := h g34
        have oc := gr_ob p35.2.1 oc
        refine cm_X11_good (nf_X11_good h oc) h (fun x36 x37 p39 h g38 => ?_)
        have h := h g38
        have N := p39.2
        have oc := N.1
        exact ⟨h, N⟩
    · intro c40
      have h := h.2 c40
      exact nf_X11_minutes_21 h oc
theorem nf_X11_minutes {Q : Int32 → HS → Prop} {v0 : Nat} {v1 : Int32} {v2 : Int32} {v3 : Int32} {S : HS} (h : P_X11_minutes v0 v1 v2 v3 Q S) (oc : ob S v0 11) : P_X11_minutes v0 v1 v2 v3 (fun r T => Q r T ∧ NFq 11 2 c11 v0 T) S := nf_X11_minutes_0 h oc
set_option maxRecDepth 20000 in
set_option maxHeartbeats 1000000 in
theorem nf_X11_off_29 {Q : Int32 → HS → Prop} {v0 : Nat} {S : HS} (h : P_X11_off_29 Q v0 S) (oc : ob S v0 11) : P_X11_off_29 (fun r T => Q r T ∧ NFq 11 2 c11 v0 T) v0 S := by
  delta P_X11_off_29 at h ⊢
  obtain ⟨c1, h⟩ := h
  refine ⟨c1, ?_⟩
  refine cm_X11_refused (nf_X11_refused h oc) h (fun x2 x3 p5 h g4 => ?_)
  have h := h g4
  have N := p5.2
  have oc := N.1
  exact ⟨h, N⟩
set_option maxRecDepth 20000 in
set_option maxHeartbeats 1000000 in
theorem nf_X11_off_128 {Q : Int32 → HS → Prop} {X67 X67_2 : Nat → Int32 → Int32 → Int32 → Int32 → HS → Prop} {v0 : Nat} {v2 : Int32} {v4 : Int32} {v5 : Int32} {v6 : Int32} {S : HS} (h : P_X11_off_128 Q X67 v0 v2 v4 v5 v6 S) (oc : ob S v0 11) (hX67 : ∀ (u0 : Nat) (u1 : Int32) (u2 : Int32) (u3 : Int32) (u4 : Int32) (u5 : HS), X67 u0 u1 u2 u3 u4 u5 → u0 = v0 → ob u5 v0 11 → X67_2 u0 u1 u2 u3 u4 u5) : P_X11_off_128 (fun r T => Q r T ∧ NFq 11 2 c11 v0 T) X67_2 v0 v2 v4 v5 v6 S := by
  delta P_X11_off_128 at h ⊢
  intro x2 e1
  have h := h x2 e1
  exact hX67 _ _ _ _ _ _ h rfl oc
set_option maxRecDepth 20000 in
set_option maxHeartbeats 1000000 in
theorem nf_X11_off_124 {Q : Int32 → HS → Prop} {X67 X67_2 : Nat → Int32 → Int32 → Int32 → Int32 → HS → Prop} {v0 : Nat} {v2 : Int32} {v4 : Int32} {v6 : Int32} {S : HS} (h : P_X11_off_124 Q X67 v0 v2 v4 v6 S) (oc : ob S v0 11) (hX67 : ∀ (u0 : Nat) (u1 : Int32) (u2 : Int32) (u3 : Int32) (u4 : Int32) (u5 : HS), X67 u0 u1 u2 u3 u4 u5 → u0 = v0 → ob u5 v0 11 → X67_2 u0 u1 u2 u3 u4 u5) : P_X11_off_124 (fun r T => Q r T ∧ NFq 11 2 c11 v0 T) X67_2 v0 v2 v4 v6 S := by
  delta P_X11_off_124 at h ⊢
  exact nf_X11_off_128 h oc hX67
set_option maxRecDepth 20000 in
set_option maxHeartbeats 1000000 in
theorem nfB_X11_off_67 {Q : Int32 → HS → Prop} {X67 X67_2 : Nat → Int32 → Int32 → Int32 → Int32 → HS → Prop} {v0 : Nat} {v2 : Int32} {v4 : Int32} {v5 : Int32} {v6 : Int32} {S : HS} (h : B_X11_off_67 Q X67 v0 v2 v4 v5 v6 S) (oc : ob S v0 11) (hX67 : ∀ (u0 : Nat) (u1 : Int32) (u2 : Int32) (u3 : Int32) (u4 : Int32) (u5 : HS), X67 u0 u1 u2 u3 u4 u5 → u0 = v0 → ob u5 v0 11 → X67_2 u0 u1 u2 u3 u4 u5) : B_X11_off_67 (fun r T => Q r T ∧ NFq 11 2 c11 v0 T) X67_2 v0 v2 v4 v5 v6 S := by
  delta B_X11_off_67 at h ⊢
  refine ⟨?_, ?_⟩
  · intro c1
    have h := h.1 c1
    refine ⟨?_, ?_⟩
    · intro c2
      have h := h.1 c2
      obtain ⟨c3, h⟩ := h
      refine ⟨c3, ?_⟩
      refine cm_X11_good (nf_X11_good h oc) h (fun x4 x5 p7 h g6 => ?_)
      have h := h g6
      have N := p7.2
      have oc := N.1
      exact ⟨h, N⟩
    · intro c8
      have h := h.2 c8
      obtain ⟨c9, h⟩ := h
      refine ⟨c9, ?_⟩
      refine cm_X11_refused (nf_X11_refused h oc) h (fun x10 x11 p13 h g12 => ?_)
      have h := h g12
      have N := p13.2
      have oc := N.1
      exact ⟨h, N⟩
  · intro c14
    have h := h.2 c14
    obtain ⟨c15, h⟩ := h
    refine ⟨c15, ?_⟩
    obtain ⟨b16, e17, h⟩ := h
    refine ⟨b16, e17, ?_⟩
    refine cm_X11_spotOf (kg_X11_spotOf h) h (fun x18 x19 p21 h g20 => ?_)
    have h := h g20
    have oc := gr_ob p21.2.1 oc
    obtain ⟨c22, h⟩ := h
    refine ⟨c22, ?_⟩
    have n23 := ob_nq oc c22 (by decide)
    obtain ⟨c24, h⟩ := h
    refine ⟨c24, ?_⟩
    intro x26 e25
    have h := h x26 e25
    refine ⟨?_, ?_⟩
    · intro c27
      have h := h.1 c27
      exact nf_X11_off_128 h oc hX67
    · intro c28
      have h := h.2 c28
      refine ⟨?_, ?_⟩
      · intro c29
        have h := h.1 c29
        exact nf_X11_off_124 h oc hX67
      · intro c30
        have h := h.2 c30
        obtain ⟨b31, e32, h⟩ := h
        refine ⟨b31, e32, ?_⟩
        refine cm_X11_spotOf (kg_X11_spotOf h) h (fun x33 x34 p36 h g35 => ?_)
        have h := h g35
        have oc := gr_ob p36.2.1 oc
        obtain ⟨c37, h⟩ := h
        refine ⟨c37, ?_⟩
        have n38 := ob_nq oc c37 (by decide)
        obtain ⟨c39, h⟩ := h
        refine ⟨c39, ?_⟩
        intro x41 e40
        have h := h x41 e40
        obtain ⟨b42, e43, h⟩ := h
        refine ⟨b42, e43, ?_⟩
        refine cm_X11_spotOf (kg_X11_spotOf h) h (fun x44 x45 p47 h g46 => ?_)
        have h := h g46
        have oc := gr_ob p47.2.1 oc
        obtain ⟨c48, h⟩ := h
        refine ⟨c48, ?_⟩
        have n49 := ob_nq oc c48 (by decide)
        obtain ⟨c50, h⟩ := h
        refine ⟨c50, ?_⟩
        intro x52 e51
        have h := h x52 e51
        refine ⟨?_, ?_⟩
        · intro c53
          have h := h.1 c53
          exact nf_X11_off_128 h oc hX67
        · intro c54
          have h := h.2 c54
          exact nf_X11_off_124 h oc hX67
theorem nf_X11_off_67 {Q : Int32 → HS → Prop} {v0 : Nat} {v2 : Int32} {v4 : Int32} {v5 : Int32} {v6 : Int32} {S : HS} (h : P_X11_off_67 Q v0 v2 v4 v5 v6 S) (oc : ob S v0 11) : P_X11_off_67 (fun r T => Q r T ∧ NFq 11 2 c11 v0 T) v0 v2 v4 v5 v6 S := h (fun w0 v2 v4 v5 v6 S => w0 = v0 → ob S v0 11 → P_X11_off_67 (fun r T => Q r T ∧ NFq 11 2 c11 v0 T) w0 v2 v4 v5 v6 S) (fun w0 v2 v4 v5 v6 S hB e oc => by
  subst e; exact fd_X11_off_67 (nfB_X11_off_67 hB oc (fun _ _ _ _ _ _ hx e oc => hx e oc))) rfl oc
set_option maxRecDepth 20000 in
set_option maxHeartbeats 1000000 in
theorem nf_X11_off_0 {Q : Int32 → HS → Prop} {v0 : Nat} {v1 : Int32} {v2 : Int32} {v3 : Int32} {v4 : Int32} {S : HS} (h : P_X11_off_0 Q v0 v1 v2 v3 v4 S) (oc : ob S v0 11) : P_X11_off_0 (fun r T => Q r T ∧ NFq 11 2 c11 v0 T) v0 v1 v2 v3 v4 S := by
  delta P_X11_off_0 at h ⊢
  obtain ⟨c1, h⟩ := h
  refine ⟨c1, ?_⟩
  intro x3 e2
  have h := h x3 e2
  have oc := ob_wI oc e2
  refine cm_X11_isWalker (kg_X11_isWalker h) h (fun x4 x5 p8 h g6 g7 => ?_)
  have h := h g6 g7
  have oc := gr_ob p8.2.1 oc
  refine ⟨?_, ?_⟩
  · intro c9
    have h := h.1 c9
    exact nf_X11_off_29 h oc
  · intro c10
    have h := h.2 c10
    refine cm_X11_isPlace (kg_X11_isPlace h) h (fun x11 x12 p15 h g13 g14 => ?_)
    have h := h g13 g14
    have oc := gr_ob p15.2.1 oc
    refine ⟨?_, ?_⟩
    · intro c16
      have h := h.1 c16
      exact nf_X11_off_29 h oc
    · intro c17
      have h := h.2 c17
      refine cm_X11_isPlace (kg_X11_isPlace h) h (fun x18 x19 p22 h g20 g21 => ?_)
      have h := h g20 g21
      have oc := gr_ob p22.2.1 oc
      refine ⟨?_, ?_⟩
      · intro c23
        have h := h.1 c23
        refine cm_X11_in (kg_X11_in h) h (fun x24 x25 p28 h g26 g27 => ?_)
        have h := h g26 g27
        have oc := gr_ob p28.2.1 oc
        refine ⟨?_, ?_⟩
        · intro c29
          have h := h.1 c29
          refine cm_X11_laysWays (kg_X11_laysWays h) h (fun x30 p32 h g31 => ?_)
          have h := h g31
          have oc := gr_ob p32.2.1 oc
          exact nf_X11_off_67 h oc
        · intro c33
          have h := h.2 c33
          refine cm_X11_refused (nf_X11_refused h oc) h (fun x34 x35 p37 h g36 => ?_)
          have h := h g36
          have N := p37.2
          have oc := N.1
          exact ⟨h, N⟩
      · intro c38
        have h := h.2 c38
        exact nf_X11_off_29 h oc
theorem nf_X11_off {Q : Int32 → HS → Prop} {v0 : Nat} {v1 : Int32} {v2 : Int32} {v3 : Int32} {v4 : Int32} {S : HS} (h : P_X11_off v0 v1 v2 v3 v4 Q S) (oc : ob S v0 11) : P_X11_off v0 v1 v2 v3 v4 (fun r T => Q r T ∧ NFq 11 2 c11 v0 T) S := nf_X11_off_0 h oc
set_option maxRecDepth 20000 in
set_option maxHeartbeats 1000000 in
theorem nf_X11_road_22 {Q : Int32 → HS → Prop} {v0 : Nat} {S : HS} (h : P_X11_road_22 Q v0 S) (oc : ob S v0 11) : P_X11_road_22 (fun r T => Q r T ∧ NFq 11 2 c11 v0 T) v0 S := by
  delta P_X11_road_22 at h ⊢
  obtain ⟨c1, h⟩ := h
  refine ⟨c1, ?_⟩
  refine cm_X11_refused (nf_X11_refused h oc) h (fun x2 x3 p5 h g4 => ?_)
  have h := h g4
  have N := p5.2
  have oc := N.1
  exact ⟨h, N⟩
set_option maxRecDepth 20000 in
set_option maxHeartbeats 1000000 in
theorem nf_X11_road_0 {Q : Int32 → HS → Prop} {v0 : Nat} {v1 : Int32} {v2 : Int32} {S : HS} (h : P_X11_road_0 Q v0 v1 v2 S) (oc : ob S v0 11) : P_X11_road_0 (fun r T => Q r T ∧ NFq 11 2 c11 v0 T) v0 v1 v2 S := by
  delta P_X11_road_0 at h ⊢
  obtain ⟨c1, h⟩ := h
  refine ⟨c1, ?_⟩
  intro x3 e2
  have h := h x3 e2
  have oc := ob_wI oc e2
  refine cm_X11_isRoad (kg_X11_isRoad h) h (fun x4 x5 p8 h g6 g7 => ?_)
  have h := h g6 g7
  have oc := gr_ob p8.2.1 oc
  refine ⟨?_, ?_⟩
  · intro c9
    have h := h.1 c9
    exact nf_X11_road_22 h oc
  · intro c10
    have h := h.2 c10
    refine cm_X11_in (kg_X11_in h) h (fun x11 x12 p15 h g13 g14 => ?_)
    have h := h g13 g14
    have oc := gr_ob p15.2.1 oc
    refine ⟨?_, ?_⟩
    · intro c16
      have h := h.1 c16
      refine ⟨?_, ?_, ?_, ?_, ?_⟩
      · intro c17
        have h := h.1 c17
        obtain ⟨b18, e19, h⟩ := h
        refine ⟨b18, e19, ?_⟩
        obtain ⟨c20, h⟩ := h
        refine ⟨c20, ?_⟩
        have n21 := ob_nq oc c20 (by decide)
        obtain ⟨b22, e23, h⟩ := h
        refine ⟨b22, e23, ?_⟩
        obtain ⟨c24, h⟩ := h
        refine ⟨c24, ?_⟩
        have n25 := ob_nq oc c24 (by decide)
        obtain ⟨c26, h⟩ := h
        refine ⟨c26, ?_⟩
        intro x28 e27
        have h := h x28 e27
        refine cm_X11_good (nf_X11_good h oc) h (fun x29 x30 p32 h g31 => ?_)
        have h := h g31
        have N := p32.2
        have oc := N.1
        exact ⟨h, N⟩
      · intro c33
        have h := h.2.1 c33
        obtain ⟨b34, e35, h⟩ := h
        refine ⟨b34, e35, ?_⟩
        obtain ⟨c36, h⟩ := h
        refine ⟨c36, ?_⟩
        have n37 := ob_nq oc c36 (by decide)
        obtain ⟨b38, e39, h⟩ := h
        refine ⟨b38, e39, ?_⟩
        obtain ⟨c40, h⟩ := h
        refine ⟨c40, ?_⟩
        have n41 := ob_nq oc c40 (by decide)
        obtain ⟨c42, h⟩ := h
        refine ⟨c42, ?_⟩
        intro x44 e43
        have h := h x44 e43
        refine cm_X11_good (nf_X11_good h oc) h (fun x45 x46 p48 h g47 => ?_)
        have h := h g47
        have N := p48.2
        have oc := N.1
        exact ⟨h, N⟩
      · intro c49
        have h := h.2.2.1 c49
        obtain ⟨b50, e51, h⟩ := h
        refine ⟨b50, e51, ?_⟩
        obtain ⟨c52, h⟩ := h
        refine ⟨c52, ?_⟩
        have n53 := ob_nq oc c52 (by decide)
        obtain ⟨b54, e55, h⟩ := h
        refine ⟨b54, e55, ?_⟩
        obtain ⟨c56, h⟩ := h
        refine ⟨c56, ?_⟩
        have n57 := ob_nq oc c56 (by decide)
        obtain ⟨c58, h⟩ := h
        refine ⟨c58, ?_⟩
        intro x60 e59
        have h := h x60 e59
        refine cm_X11_good (nf_X11_good h oc) h (fun x61 x62 p64 h g63 => ?_)
        have h := h g63
        have N := p64.2
        have oc := N.1
        exact ⟨h, N⟩
      · intro c65
        have h := h.2.2.2.1 c65
        obtain ⟨b66, e67, h⟩ := h
        refine ⟨b66, e67, ?_⟩
        obtain ⟨c68, h⟩ := h
        refine ⟨c68, ?_⟩
        have n69 := ob_nq oc c68 (by decide)
        obtain ⟨b70, e71, h⟩ := h
        refine ⟨b70, e71, ?_⟩
        obtain ⟨c72, h⟩ := h
        refine ⟨c72, ?_⟩
        have n73 := ob_nq oc c72 (by decide)
        obtain ⟨c74, h⟩ := h
        refine ⟨c74, ?_⟩
        intro x76 e75
        have h := h x76 e75
        refine cm_X11_good (nf_X11_good h oc) h (fun x77 x78 p80 h g79 => ?_)
        have h := h g79
        have N := p80.2
        have oc := N.1
        exact ⟨h, N⟩
      · intro c81
        have h := h.2.2.2.2 c81
        obtain ⟨b82, e83, h⟩ := h
        refine ⟨b82, e83, ?_⟩
        obtain ⟨c84, h⟩ := h
        refine ⟨c84, ?_⟩
        have n85 := ob_nq oc c84 (by decide)
        obtain ⟨b86, e87, h⟩ := h
        refine ⟨b86, e87, ?_⟩
        obtain ⟨c88, h⟩ := h
        refine ⟨c88, ?_⟩
        have n89 := ob_nq oc c88 (by decide)
        obtain ⟨c90, h⟩ := h
        refine ⟨c90, ?_⟩
        intro x92 e91
        have h := h x92 e91
        refine cm_X11_good (nf_X11_good h oc) h (fun x93 x94 p96 h g95 => ?_)
        have h := h g95
        have N := p96.2
        have oc := N.1
        exact ⟨h, N⟩
    · intro c97
      have h := h.2 c97
      exact nf_X11_road_22 h oc
theorem nf_X11_road {Q : Int32 → HS → Prop} {v0 : Nat} {v1 : Int32} {v2 : Int32} {S : HS} (h : P_X11_road v0 v1 v2 Q S) (oc : ob S v0 11) : P_X11_road v0 v1 v2 (fun r T => Q r T ∧ NFq 11 2 c11 v0 T) S := nf_X11_road_0 h oc
set_option maxRecDepth 20000 in
set_option maxHeartbeats 1000000 in
theorem nf_X11_round_29 {Q : Int64 → HS → Prop} {v0 : Nat} {S : HS} (h : P_X11_round_29 Q v0 S) (oc : ob S v0 11) : P_X11_round_29 (fun r T => Q r T ∧ NFq 11 2 c11 v0 T) v0 S := by
  delta P_X11_round_29 at h ⊢
  obtain ⟨c1, h⟩ := h
  refine ⟨c1, ?_⟩
  refine cm_X11_refused (nf_X11_refused h oc) h (fun x2 x3 p5 h g4 => ?_)
  have h := h g4
  have N := p5.2
  have oc := N.1
  exact ⟨h, N⟩
set_option maxRecDepth 20000 in
set_option maxHeartbeats 1000000 in
theorem nf_X11_round_0 {Q : Int64 → HS → Prop} {v0 : Nat} {v1 : Int32} {v2 : Int32} {v3 : Int32} {v4 : Int32} {S : HS} (h : P_X11_round_0 Q v0 v1 v2 v3 v4 S) (oc : ob S v0 11) : P_X11_round_0 (fun r T => Q r T ∧ NFq 11 2 c11 v0 T) v0 v1 v2 v3 v4 S := by
  delta P_X11_round_0 at h ⊢
  obtain ⟨c1, h⟩ := h
  refine ⟨c1, ?_⟩
  intro x3 e2
  have h := h x3 e2
  have oc := ob_wI oc e2
  refine cm_X11_isWalker (kg_X11_isWalker h) h (fun x4 x5 p8 h g6 g7 => ?_)
  have h := h g6 g7
  have oc := gr_ob p8.2.1 oc
  refine ⟨?_, ?_⟩
  · intro c9
    have h := h.1 c9
    exact nf_X11_round_29 h oc
  · intro c10
    have h := h.2 c10
    refine cm_X11_isRoad (kg_X11_isRoad h) h (fun x11 x12 p15 h g13 g14 => ?_)
    have h := h g13 g14
    have oc := gr_ob p15.2.1 oc
    refine ⟨?_, ?_⟩
    · intro c16
      have h := h.1 c16
      exact nf_X11_round_29 h oc
    · intro c17
      have h := h.2 c17
      refine cm_X11_isHour (kg_X11_isHour h) h (fun x18 x19 p22 h g20 g21 => ?_)
      have h := h g20 g21
      have oc := gr_ob p22.2.1 oc
      refine ⟨?_, ?_⟩
      · intro c23
        have h := h.1 c23
        refine cm_X11_wetAtBest (kg_X11_wetAtBest h) h (fun x24 x25 p27 h g26 => ?_)
        have h := h g26
        have oc := gr_ob p27.2.1 oc
        refine cm_X11_wetAtBest (kg_X11_wetAtBest h) h (fun x28 x29 p31 h g30 => ?_)
        have h := h g30
        have oc := gr_ob p31.2.1 oc
        refine cm_X11_told (nf_X11_told h oc) h (fun x32 x33 p35 h g34 => ?_)
        have h := h g34
        have N := p35.2
        have oc := N.1
        exact ⟨h, N⟩
      · intro c36
        have h := h.2 c36
        exact nf_X11_round_29 h oc
theorem nf_X11_round {Q : Int64 → HS → Prop} {v0 : Nat} {v1 : Int32} {v2 : Int32} {v3 : Int32} {v4 : Int32} {S : HS} (h : P_X11_round v0 v1 v2 v3 v4 Q S) (oc : ob S v0 11) : P_X11_round v0 v1 v2 v3 v4 (fun r T => Q r T ∧ NFq 11 2 c11 v0 T) S := nf_X11_round_0 h oc
set_option maxRecDepth 20000 in
set_option maxHeartbeats 1000000 in
theorem nf_X11_saves_39 {Q : Int64 → HS → Prop} {v0 : Nat} {S : HS} (h : P_X11_saves_39 Q v0 S) (oc : ob S v0 11) : P_X11_saves_39 (fun r T => Q r T ∧ NFq 11 2 c11 v0 T) v0 S := by
  delta P_X11_saves_39 at h ⊢
  obtain ⟨c1, h⟩ := h
  refine ⟨c1, ?_⟩
  refine cm_X11_refused (nf_X11_refused h oc) h (fun x2 x3 p5 h g4 => ?_)
  have h := h g4
  have N := p5.2
  have oc := N.1
  exact ⟨h, N⟩
set_option maxRecDepth 20000 in
set_option maxHeartbeats 1000000 in
theorem nf_X11_saves_0 {Q : Int64 → HS → Prop} {v0 : Nat} {v1 : Int32} {v2 : Int32} {v3 : Int32} {v4 : Int32} {v5 : Int32} {S : HS} (h : P_X11_saves_0 Q v0 v1 v2 v3 v4 v5 S) (oc : ob S v0 11) : P_X11_saves_0 (fun r T => Q r T ∧ NFq 11 2 c11 v0 T) v0 v1 v2 v3 v4 v5 S := by
  delta P_X11_saves_0 at h ⊢
  obtain ⟨c1, h⟩ := h
  refine ⟨c1, ?_⟩
  intro x3 e2
  have h := h x3 e2
  have oc := ob_wI oc e2
  refine cm_X11_isWalker (kg_X11_isWalker h) h (fun x4 x5 p8 h g6 g7 => ?_)
  have h := h g6 g7
  have oc := gr_ob p8.2.1 oc
  refine ⟨?_, ?_⟩
  · intro c9
    have h := h.1 c9
    exact nf_X11_saves_39 h oc
  · intro c10
    have h := h.2 c10
    refine cm_X11_isRoad (kg_X11_isRoad h) h (fun x11 x12 p15 h g13 g14 => ?_)
    have h := h g13 g14
    have oc := gr_ob p15.2.1 oc
    refine ⟨?_, ?_⟩
    · intro c16
      have h := h.1 c16
      exact nf_X11_saves_39 h oc
    · intro c17
      have h := h.2 c17
      refine cm_X11_in (kg_X11_in h) h (fun x18 x19 p22 h g20 g21 => ?_)
      have h := h g20 g21
      have oc := gr_ob p22.2.1 oc
      refine ⟨?_, ?_⟩
      · intro c23
        have h := h.1 c23
        exact nf_X11_saves_39 h oc
      · intro c24
        have h := h.2 c24
        refine cm_X11_isHour (kg_X11_isHour h) h (fun x25 x26 p29 h g27 g28 => ?_)
        have h := h g27 g28
        have oc := gr_ob p29.2.1 oc
        refine ⟨?_, ?_⟩
        · intro c30
          have h := h.1 c30
          obtain ⟨b31, e32, h⟩ := h
          refine ⟨b31, e32, ?_⟩
          obtain ⟨c33, h⟩ := h
          refine ⟨c33, ?_⟩
          have n34 := ob_nq oc c33 (by decide)
          obtain ⟨b35, e36, h⟩ := h
          refine ⟨b35, e36, ?_⟩
          obtain ⟨c37, h⟩ := h
          refine ⟨c37, ?_⟩
          have n38 := ob_nq oc c37 (by decide)
          obtain ⟨c39, h⟩ := h
          refine ⟨c39, ?_⟩
          intro x41 e40
          have h := h x41 e40
          refine cm_X11_wetOf (kg_X11_wetOf h) h (fun x42 x43 p45 h g44 => ?_)
          have h := h g44
          have oc := gr_ob p45.2.1 oc
          refine cm_X11_bestOf (kg_X11_bestOf h) h (fun x46 x47 p49 h g48 => ?_)
          have h := h g48
          have oc := gr_ob p49.2.1 oc
          refine cm_X11_wetOf (kg_X11_wetOf h) h (fun x50 x51 p53 h g52 => ?_)
          have h := h g52
          have oc := gr_ob p53.2.1 oc
          refine cm_X11_told (nf_X11_told h oc) h (fun x54 x55 p57 h g56 => ?_)
          have h := h g56
          have N := p57.2
          have oc := N.1
          exact ⟨h, N⟩
        · intro c58
          have h := h.2 c58
          exact nf_X11_saves_39 h oc
theorem nf_X11_saves {Q : Int64 → HS → Prop} {v0 : Nat} {v1 : Int32} {v2 : Int32} {v3 : Int32} {v4 : Int32} {v5 : Int32} {S : HS} (h : P_X11_saves v0 v1 v2 v3 v4 v5 Q S) (oc : ob S v0 11) : P_X11_saves v0 v1 v2 v3 v4 v5 (fun r T => Q r T ∧ NFq 11 2 c11 v0 T) S := nf_X11_saves_0 h oc
set_option maxRecDepth 20000 in
set_option maxHeartbeats 1000000 in
theorem nf_X11_soaked_57 {Q : Int32 → HS → Prop} {s0 : Nat} {s1 : Int32} {v0 : Nat} {S : HS} (h : P_X11_soaked_57 Q s0 s1 S) (oc : ob S v0 11) (q_s0 : s0 = v0) : P_X11_soaked_57 (fun r T => Q r T ∧ NFq 11 2 c11 v0 T) s0 s1 S := by
  delta P_X11_soaked_57 at h ⊢
  subst q_s0
  obtain ⟨c1, h⟩ := h
  refine ⟨c1, ?_⟩
  refine cm_X11_good (nf_X11_good h oc) h (fun x2 x3 p5 h g4 => ?_)
  have h := h g4
  have N := p5.2
  have oc := N.1
  exact ⟨h, N⟩
set_option maxRecDepth 20000 in
set_option maxHeartbeats 1000000 in
theorem nf_X11_soaked_0 {Q : Int32 → HS → Prop} {v0 : Nat} {S : HS} (h : P_X11_soaked_0 Q v0 S) (oc : ob S v0 11) : P_X11_soaked_0 (fun r T => Q r T ∧ NFq 11 2 c11 v0 T) v0 S := by
  delta P_X11_soaked_0 at h ⊢
  obtain ⟨c1, h⟩ := h
  refine ⟨c1, ?_⟩
  intro x3 e2
  have h := h x3 e2
  have oc := ob_wI oc e2
  refine cm_X11_isDay (kg_X11_isDay h) h (fun x4 x5 p8 h g6 g7 => ?_)
  have h := h g6 g7
  have oc := gr_ob p8.2.1 oc
  refine ⟨?_, ?_⟩
  · intro c9
    have h := h.1 c9
    obtain ⟨b10, e11, h⟩ := h
    refine ⟨b10, e11, ?_⟩
    obtain ⟨c12, h⟩ := h
    refine ⟨c12, ?_⟩
    have n13 := ob_nq oc c12 (by decide)
    obtain ⟨b14, e15, h⟩ := h
    refine ⟨b14, e15, ?_⟩
    intro x17 e16
    have h := h x17 e16
    obtain ⟨c18, h⟩ := h
    refine ⟨c18, ?_⟩
    have n19 := ob_nq oc c18 (by decide)
    obtain ⟨c20, h⟩ := h
    refine ⟨c20, ?_⟩
    intro x22 e21
    have h := h x22 e21
    refine ⟨?_, ?_⟩
    · intro c23
      have h := h.1 c23
      refine cm_X11_gotInAll (kg_X11_gotInAll h) h (fun x24 x25 p27 h g26 => ?_)
      have h := h g26
      have oc := gr_ob p27.2.1 oc
      refine cm_X11_holds (kg_X11_holds h) h (fun x28 x29 p31 h g30 => ?_)
      have h := h g30
      have oc := gr_ob p31.2.1 oc
      refine ⟨?_, ?_⟩
      · intro c32
        have h := h.1 c32
        exact nf_X11_soaked_57 h oc rfl
      · intro c33
        have h := h.2 c33
        exact nf_X11_soaked_57 h oc rfl
    · intro c34
      have h := h.2 c34
      exact nf_X11_soaked_57 h oc rfl
  · intro c35
    have h := h.2 c35
    refine cm_X11_refused (nf_X11_refused h oc) h (fun x36 x37 p39 h g38 => ?_)
    have h := h g38
    have N := p39.2
    have oc := N.1
    exact ⟨h, N⟩
theorem nf_X11_soaked {Q : Int32 → HS → Prop} {v0 : Nat} {S : HS} (h : P_X11_soaked v0 Q S) (oc : ob S v0 11) : P_X11_soaked v0 (fun r T => Q r T ∧ NFq 11 2 c11 v0 T) S := nf_X11_soaked_0 h oc
set_option maxRecDepth 20000 in
set_option maxHeartbeats 1000000 in
theorem nf_X11_stay_133 {Q : Int32 → HS → Prop} {X84 X84_2 : Nat → Int32 → Int32 → Int32 → HS → Prop} {v0 : Nat} {v1 : Int32} {v2 : Int32} {v3 : Int32} {S : HS} (h : P_X11_stay_133 Q X84 v0 v1 v2 v3 S) (oc : ob S v0 11) (hX84 : ∀ (u0 : Nat) (u1 : Int32) (u2 : Int32) (u3 : Int32) (u4 : HS), X84 u0 u1 u2 u3 u4 → u0 = v0 → ob u4 v0 11 → X84_2 u0 u1 u2 u3 u4) : P_X11_stay_133 (fun r T => Q r T ∧ NFq 11 2 c11 v0 T) X84_2 v0 v1 v2 v3 S := by
  delta P_X11_stay_133 at h ⊢
  obtain ⟨c1, h⟩ := h
  refine ⟨c1, ?_⟩
  obtain ⟨b2, e3, h⟩ := h
  refine ⟨b2, e3, ?_⟩
  obtain ⟨c4, h⟩ := h
  refine ⟨c4, ?_⟩
  have n5 := ob_nq oc c4 (by decide)
  obtain ⟨c6, h⟩ := h
  refine ⟨c6, ?_⟩
  intro x8 e7
  have h := h x8 e7
  intro x10 e9
  have h := h x10 e9
  obtain ⟨c11, h⟩ := h
  refine ⟨c11, ?_⟩
  intro x13 e12
  have h := h x13 e12
  have oc := ob_wJ oc e12
  intro x15 e14
  have h := h x15 e14
  exact hX84 _ _ _ _ _ h rfl oc
set_option maxRecDepth 20000 in
set_option maxHeartbeats 1000000 in
theorem nfB_X11_stay_84 {Q : Int32 → HS → Prop} {X84 X84_2 : Nat → Int32 → Int32 → Int32 → HS → Prop} {v0 : Nat} {v1 : Int32} {v2 : Int32} {v3 : Int32} {S : HS} (h : B_X11_stay_84 Q X84 v0 v1 v2 v3 S) (oc : ob S v0 11) (hX84 : ∀ (u0 : Nat) (u1 : Int32) (u2 : Int32) (u3 : Int32) (u4 : HS), X84 u0 u1 u2 u3 u4 → u0 = v0 → ob u4 v0 11 → X84_2 u0 u1 u2 u3 u4) : B_X11_stay_84 (fun r T => Q r T ∧ NFq 11 2 c11 v0 T) X84_2 v0 v1 v2 v3 S := by
  delta B_X11_stay_84 at h ⊢
  refine ⟨?_, ?_⟩
  · intro c1
    have h := h.1 c1
    obtain ⟨c2, h⟩ := h
    refine ⟨c2, ?_⟩
    refine cm_X11_granted (nf_X11_granted h oc) h (fun x3 x4 p7 h g5 g6 => ?_)
    have h := h g5 g6
    have N := p7.2
    have oc := N.1
    obtain ⟨c8, h⟩ := h
    refine ⟨c8, ?_⟩
    exact ⟨h, N⟩
  · intro c9
    have h := h.2 c9
    obtain ⟨c10, h⟩ := h
    refine ⟨c10, ?_⟩
    obtain ⟨b11, e12, h⟩ := h
    refine ⟨b11, e12, ?_⟩
    obtain ⟨c13, h⟩ := h
    refine ⟨c13, ?_⟩
    have n14 := ob_nq oc c13 (by decide)
    obtain ⟨b15, e16, h⟩ := h
    refine ⟨b15, e16, ?_⟩
    obtain ⟨c17, h⟩ := h
    refine ⟨c17, ?_⟩
    have n18 := ob_nq oc c17 (by decide)
    obtain ⟨c19, h⟩ := h
    refine ⟨c19, ?_⟩
    intro x21 e20
    have h := h x21 e20
    refine ⟨?_, ?_⟩
    · intro c22
      have h := h.1 c22
      exact nf_X11_stay_133 h oc hX84
    · intro c23
      have h := h.2 c23
      obtain ⟨b24, e25, h⟩ := h
      refine ⟨b24, e25, ?_⟩
      obtain ⟨c26, h⟩ := h
      refine ⟨c26, ?_⟩
      have n27 := ob_nq oc c26 (by decide)
      obtain ⟨c28, h⟩ := h
      refine ⟨c28, ?_⟩
      intro x30 e29
      have h := h x30 e29
      refine cm_X11_rainsIn (kg_X11_rainsIn h) h (fun x31 x32 p35 h g33 g34 => ?_)
      have h := h g33 g34
      have oc := gr_ob p35.2.1 oc
      refine ⟨?_, ?_⟩
      · intro c36
        have h := h.1 c36
        exact nf_X11_stay_133 h oc hX84
      · intro c37
        have h := h.2 c37
        obtain ⟨b38, e39, h⟩ := h
        refine ⟨b38, e39, ?_⟩
        obtain ⟨c40, h⟩ := h
        refine ⟨c40, ?_⟩
        have n41 := ob_nq oc c40 (by decide)
        obtain ⟨c42, h⟩ := h
        refine ⟨c42, ?_⟩
        intro x44 e43
        have h := h x44 e43
        intro x46 e45
        have h := h x46 e45
        refine cm_X11_drips (kg_X11_drips h) h (fun x47 x48 p50 h g49 => ?_)
        have h := h g49
        have oc := gr_ob p50.2.1 oc
        intro x52 e51
        have h := h x52 e51
        obtain ⟨c53, h⟩ := h
        refine ⟨c53, ?_⟩
        intro x55 e54
        have h := h x55 e54
        have oc := ob_wJ oc e54
        exact nf_X11_stay_133 h oc hX84
theorem nf_X11_stay_84 {Q : Int32 → HS → Prop} {v0 : Nat} {v1 : Int32} {v2 : Int32} {v3 : Int32} {S : HS} (h : P_X11_stay_84 Q v0 v1 v2 v3 S) (oc : ob S v0 11) : P_X11_stay_84 (fun r T => Q r T ∧ NFq 11 2 c11 v0 T) v0 v1 v2 v3 S := h (fun w0 v1 v2 v3 S => w0 = v0 → ob S v0 11 → P_X11_stay_84 (fun r T => Q r T ∧ NFq 11 2 c11 v0 T) w0 v1 v2 v3 S) (fun w0 v1 v2 v3 S hB e oc => by
  subst e; exact fd_X11_stay_84 (nfB_X11_stay_84 hB oc (fun _ _ _ _ _ hx e oc => hx e oc))) rfl oc
set_option maxRecDepth 20000 in
set_option maxHeartbeats 1000000 in
theorem nf_X11_stay_0 {Q : Int32 → HS → Prop} {v0 : Nat} {v1 : Int32} {S : HS} (h : P_X11_stay_0 Q v0 v1 S) (oc : ob S v0 11) : P_X11_stay_0 (fun r T => Q r T ∧ NFq 11 2 c11 v0 T) v0 v1 S := by
  delta P_X11_stay_0 at h ⊢
  obtain ⟨c1, h⟩ := h
  refine ⟨c1, ?_⟩
  intro x3 e2
  have h := h x3 e2
  have oc := ob_wI oc e2
  refine cm_X11_isDay (kg_X11_isDay h) h (fun x4 x5 p8 h g6 g7 => ?_)
  have h := h g6 g7
  have oc := gr_ob p8.2.1 oc
  refine ⟨?_, ?_⟩
  · intro c9
    have h := h.1 c9
    refine cm_X11_in (kg_X11_in h) h (fun x10 x11 p14 h g12 g13 => ?_)
    have h := h g12 g13
    have oc := gr_ob p14.2.1 oc
    refine ⟨?_, ?_⟩
    · intro c15
      have h := h.1 c15
      obtain ⟨b16, e17, h⟩ := h
      refine ⟨b16, e17, ?_⟩
      obtain ⟨c18, h⟩ := h
      refine ⟨c18, ?_⟩
      have n19 := ob_nq oc c18 (by decide)
      obtain ⟨c20, h⟩ := h
      refine ⟨c20, ?_⟩
      intro x22 e21
      have h := h x22 e21
      intro x24 e23
      have h := h x24 e23
      refine cm_X11_canWait (kg_X11_canWait h) h (fun x25 x26 p29 h g27 g28 => ?_)
      have h := h g27 g28
      have oc := gr_ob p29.2.1 oc
      refine ⟨?_, ?_⟩
      · intro c30
        have h := h.1 c30
        obtain ⟨b31, e32, h⟩ := h
        refine ⟨b31, e32, ?_⟩
        obtain ⟨c33, h⟩ := h
        refine ⟨c33, ?_⟩
        have n34 := ob_nq oc c33 (by decide)
        obtain ⟨c35, h⟩ := h
        refine ⟨c35, ?_⟩
        intro x37 e36
        have h := h x37 e36
        refine ⟨?_, ?_⟩
        · intro c38
          have h := h.1 c38
          refine cm_X11_keeps (kg_X11_keeps h) h (fun x39 p41 h g40 => ?_)
          have h := h g40
          have oc := gr_ob p41.2.1 oc
          exact nf_X11_stay_84 h oc
        · intro c42
          have h := h.2 c42
          refine cm_X11_denied (nf_X11_denied h oc) h (fun x43 x44 p47 h g45 g46 => ?_)
          have h := h g45 g46
          have N := p47.2
          have oc := N.1
          obtain ⟨c48, h⟩ := h
          refine ⟨c48, ?_⟩
          exact ⟨h, N⟩
      · intro c49
        have h := h.2 c49
        refine cm_X11_denied (nf_X11_denied h oc) h (fun x50 x51 p54 h g52 g53 => ?_)
        have h := h g52 g53
        have N := p54.2
        have oc := N.1
        obtain ⟨c55, h⟩ := h
        refine ⟨c55, ?_⟩
        exact ⟨h, N⟩
    · intro c56
      have h := h.2 c56
      refine cm_X11_denied (nf_X11_denied h oc) h (fun x57 x58 p61 h g59 g60 => ?_)
      have h := h g59 g60
      have N := p61.2
      have oc := N.1
      obtain ⟨c62, h⟩ := h
      refine ⟨c62, ?_⟩
      exact ⟨h, N⟩
  · intro c63
    have h := h.2 c63
    refine cm_X11_denied (nf_X11_denied h oc) h (fun x64 x65 p68 h g66 g67 => ?_)
    have h := h g66 g67
    have N := p68.2
    have oc := N.1
    obtain ⟨c69, h⟩ := h
    refine ⟨c69, ?_⟩
    exact ⟨h, N⟩
theorem nf_X11_stay {Q : Int32 → HS → Prop} {v0 : Nat} {v1 : Int32} {S : HS} (h : P_X11_stay v0 v1 Q S) (oc : ob S v0 11) : P_X11_stay v0 v1 (fun r T => Q r T ∧ NFq 11 2 c11 v0 T) S := nf_X11_stay_0 h oc
set_option maxRecDepth 20000 in
set_option maxHeartbeats 1000000 in
theorem nf_X11_step_49 {Q : Int32 → HS → Prop} {v0 : Nat} {s0 : Int32} {S : HS} (h : P_X11_step_49 Q v0 s0 S) (oc : ob S v0 11) : P_X11_step_49 (fun r T => Q r T ∧ NFq 11 2 c11 v0 T) v0 s0 S := by
  delta P_X11_step_49 at h ⊢
  refine ⟨?_, ?_⟩
  · intro c1
    have h := h.1 c1
    obtain ⟨c2, h⟩ := h
    refine ⟨c2, ?_⟩
    refine cm_X11_good (nf_X11_good h oc) h (fun x3 x4 p6 h g5 => ?_)
    have h := h g5
    have N := p6.2
    have oc := N.1
    exact ⟨h, N⟩
  · intro c7
    have h := h.2 c7
    obtain ⟨c8, h⟩ := h
    refine ⟨c8, ?_⟩
    refine cm_X11_refused (nf_X11_refused h oc) h (fun x9 x10 p12 h g11 => ?_)
    have h := h g11
    have N := p12.2
    have oc := N.1
    exact ⟨h, N⟩
set_option maxRecDepth 20000 in
set_option maxHeartbeats 1000000 in
theorem nf_X11_step_0 {Q : Int32 → HS → Prop} {v0 : Nat} {v1 : Int32} {v2 : Int32} {v3 : Int32} {v4 : Int32} {v5 : Int32} {v6 : Int32} {S : HS} (h : P_X11_step_0 Q v0 v1 v2 v3 v4 v5 v6 S) (oc : ob S v0 11) : P_X11_step_0 (fun r T => Q r T ∧ NFq 11 2 c11 v0 T) v0 v1 v2 v3 v4 v5 v6 S := by
  delta P_X11_step_0 at h ⊢
  obtain ⟨c1, h⟩ := h
  refine ⟨c1, ?_⟩
  intro x3 e2
  have h := h x3 e2
  have oc := ob_wI oc e2
  refine cm_X11_refusesWay (kg_X11_refusesWay h) h (fun x4 x5 p7 h g6 => ?_)
  have h := h g6
  have oc := gr_ob p7.2.1 oc
  refine ⟨?_, ?_⟩
  · intro c8
    have h := h.1 c8
    refine ⟨?_, ?_⟩
    · intro c9
      have h := h.1 c9
      refine cm_X11_stepOf (kg_X11_stepOf h) h (fun x10 x11 p13 h g12 => ?_)
      have h := h g12
      have oc := gr_ob p13.2.1 oc
      exact nf_X11_step_49 h oc
    · intro c14
      have h := h.2 c14
      exact nf_X11_step_49 h oc
  · intro c15
    have h := h.2 c15
    refine cm_X11_refused (nf_X11_refused h oc) h (fun x16 x17 p19 h g18 => ?_)
    have h := h g18
    have N := p19.2
    have oc := N.1
    exact ⟨h, N⟩
theorem nf_X11_step {Q : Int32 → HS → Prop} {v0 : Nat} {v1 : Int32} {v2 : Int32} {v3 : Int32} {v4 : Int32} {v5 : Int32} {v6 : Int32} {S : HS} (h : P_X11_step v0 v1 v2 v3 v4 v5 v6 Q S) (oc : ob S v0 11) : P_X11_step v0 v1 v2 v3 v4 v5 v6 (fun r T => Q r T ∧ NFq 11 2 c11 v0 T) S := nf_X11_step_0 h oc
set_option maxRecDepth 20000 in
set_option maxHeartbeats 1000000 in
theorem nf_X11_steps_0 {Q : Int32 → HS → Prop} {v0 : Nat} {v1 : Int32} {v2 : Int32} {v3 : Int32} {v4 : Int32} {v5 : Int32} {S : HS} (h : P_X11_steps_0 Q v0 v1 v2 v3 v4 v5 S) (oc : ob S v0 11) : P_X11_steps_0 (fun r T => Q r T ∧ NFq 11 2 c11 v0 T) v0 v1 v2 v3 v4 v5 S := by
  delta P_X11_steps_0 at h ⊢
  obtain ⟨c1, h⟩ := h
  refine ⟨c1, ?_⟩
  intro x3 e2
  have h := h x3 e2
  have oc := ob_wI oc e2
  refine cm_X11_refusesWay (kg_X11_refusesWay h) h (fun x4 x5 p7 h g6 => ?_)
  have h := h g6
  have oc := gr_ob p7.2.1 oc
  refine ⟨?_, ?_⟩
  · intro c8
    have h := h.1 c8
    refine cm_X11_stepOf (kg_X11_stepOf h) h (fun x9 x10 p12 h g11 => ?_)
    have h := h g11
    have oc := gr_ob p12.2.1 oc
    refine cm_X11_good (nf_X11_good h oc) h (fun x13 x14 p16 h g15 => ?_)
    have h := h g15
    have N := p16.2
    have oc := N.1
    exact ⟨h, N⟩
  · intro c17
    have h := h.2 c17
    refine cm_X11_refused (nf_X11_refused h oc) h (fun x18 x19 p21 h g20 => ?_)
    have h := h g20
    have N := p21.2
    have oc := N.1
    exact ⟨h, N⟩
theorem nf_X11_steps {Q : Int32 → HS → Prop} {v0 : Nat} {v1 : Int32} {v2 : Int32} {v3 : Int32} {v4 : Int32} {v5 : Int32} {S : HS} (h : P_X11_steps v0 v1 v2 v3 v4 v5 Q S) (oc : ob S v0 11) : P_X11_steps v0 v1 v2 v3 v4 v5 (fun r T => Q r T ∧ NFq 11 2 c11 v0 T) S := nf_X11_steps_0 h oc
set_option maxRecDepth 20000 in
set_option maxHeartbeats 1000000 in
theorem nf_X11_there_0 {Q : Int32 → HS → Prop} {v0 : Nat} {v1 : Int32} {v2 : Int32} {v3 : Int32} {v4 : Int32} {v5 : Int32} {S : HS} (h : P_X11_there_0 Q v0 v1 v2 v3 v4 v5 S) (oc : ob S v0 11) : P_X11_there_0 (fun r T => Q r T ∧ NFq 11 2 c11 v0 T) v0 v1 v2 v3 v4 v5 S := by
  delta P_X11_there_0 at h ⊢
  obtain ⟨c1, h⟩ := h
  refine ⟨c1, ?_⟩
  intro x3 e2
  have h := h x3 e2
  have oc := ob_wI oc e2
  refine cm_X11_refusesWay (kg_X11_refusesWay h) h (fun x4 x5 p7 h g6 => ?_)
  have h := h g6
  have oc := gr_ob p7.2.1 oc
  refine ⟨?_, ?_⟩
  · intro c8
    have h := h.1 c8
    obtain ⟨b9, e10, h⟩ := h
    refine ⟨b9, e10, ?_⟩
    refine cm_X11_spotOf (kg_X11_spotOf h) h (fun x11 x12 p14 h g13 => ?_)
    have h := h g13
    have oc := gr_ob p14.2.1 oc
    obtain ⟨c15, h⟩ := h
    refine ⟨c15, ?_⟩
    have n16 := ob_nq oc c15 (by decide)
    obtain ⟨c17, h⟩ := h
    refine ⟨c17, ?_⟩
    intro x19 e18
    have h := h x19 e18
    refine cm_X11_good (nf_X11_good h oc) h (fun x20 x21 p23 h g22 => ?_)
    have h := h g22
    have N := p23.2
    have oc := N.1
    exact ⟨h, N⟩
  · intro c24
    have h := h.2 c24
    refine cm_X11_refused (nf_X11_refused h oc) h (fun x25 x26 p28 h g27 => ?_)
    have h := h g27
    have N := p28.2
    have oc := N.1
    exact ⟨h, N⟩
theorem nf_X11_there {Q : Int32 → HS → Prop} {v0 : Nat} {v1 : Int32} {v2 : Int32} {v3 : Int32} {v4 : Int32} {v5 : Int32} {S : HS} (h : P_X11_there v0 v1 v2 v3 v4 v5 Q S) (oc : ob S v0 11) : P_X11_there v0 v1 v2 v3 v4 v5 (fun r T => Q r T ∧ NFq 11 2 c11 v0 T) S := nf_X11_there_0 h oc
set_option maxRecDepth 20000 in
set_option maxHeartbeats 1000000 in
theorem nf_X11_undo_19 {Q : Int32 → HS → Prop} {v0 : Nat} {S : HS} (h : P_X11_undo_19 Q v0 S) (oc : ob S v0 11) : P_X11_undo_19 (fun r T => Q r T ∧ NFq 11 2 c11 v0 T) v0 S := by
  delta P_X11_undo_19 at h ⊢
  obtain ⟨c1, h⟩ := h
  refine ⟨c1, ?_⟩
  refine cm_X11_denied (nf_X11_denied h oc) h (fun x2 x3 p6 h g4 g5 => ?_)
  have h := h g4 g5
  have N := p6.2
  have oc := N.1
  obtain ⟨c7, h⟩ := h
  refine ⟨c7, ?_⟩
  exact ⟨h, N⟩
set_option maxRecDepth 20000 in
set_option maxHeartbeats 1000000 in
theorem nfB_X11_undo_38 {Q : Int32 → HS → Prop} {X38 X38_2 : Nat → Int32 → HS → Prop} {v0 : Nat} {v1 : Int32} {S : HS} (h : B_X11_undo_38 Q X38 v0 v1 S) (oc : ob S v0 11) (hX38 : ∀ (u0 : Nat) (u1 : Int32) (u2 : HS), X38 u0 u1 u2 → u0 = v0 → ob u2 v0 11 → X38_2 u0 u1 u2) : B_X11_undo_38 (fun r T => Q r T ∧ NFq 11 2 c11 v0 T) X38_2 v0 v1 S := by
  delta B_X11_undo_38 at h ⊢
  refine ⟨?_, ?_⟩
  · intro c1
    have h := h.1 c1
    obtain ⟨c2, h⟩ := h
    refine ⟨c2, ?_⟩
    refine cm_X11_granted (nf_X11_granted h oc) h (fun x3 x4 p7 h g5 g6 => ?_)
    have h := h g5 g6
    have N := p7.2
    have oc := N.1
    obtain ⟨c8, h⟩ := h
    refine ⟨c8, ?_⟩
    exact ⟨h, N⟩
  · intro c9
    have h := h.2 c9
    obtain ⟨c10, h⟩ := h
    refine ⟨c10, ?_⟩
    obtain ⟨b11, e12, h⟩ := h
    refine ⟨b11, e12, ?_⟩
    obtain ⟨b13, e14, h⟩ := h
    refine ⟨b13, e14, ?_⟩
    intro x16 e15
    have h := h x16 e15
    obtain ⟨c17, h⟩ := h
    refine ⟨c17, ?_⟩
    have n18 := ob_nq oc c17 (by decide)
    intro x20 e19
    have h := h x20 e19
    obtain ⟨c21, h⟩ := h
    refine ⟨c21, ?_⟩
    intro x23 e22
    have h := h x23 e22
    obtain ⟨c24, h⟩ := h
    refine ⟨c24, ?_⟩
    have n25 := ob_nq oc c24 (by decide)
    obtain ⟨c26, h⟩ := h
    refine ⟨c26, ?_⟩
    intro x28 e27
    have h := h x28 e27
    have oc := ob_wJ oc e27
    intro x30 e29
    have h := h x30 e29
    exact hX38 _ _ _ h rfl oc
theorem nf_X11_undo_38 {Q : Int32 → HS → Prop} {v0 : Nat} {v1 : Int32} {S : HS} (h : P_X11_undo_38 Q v0 v1 S) (oc : ob S v0 11) : P_X11_undo_38 (fun r T => Q r T ∧ NFq 11 2 c11 v0 T) v0 v1 S := h (fun w0 v1 S => w0 = v0 → ob S v0 11 → P_X11_undo_38 (fun r T => Q r T ∧ NFq 11 2 c11 v0 T) w0 v1 S) (fun w0 v1 S hB e oc => by
  subst e; exact fd_X11_undo_38 (nfB_X11_undo_38 hB oc (fun _ _ _ hx e oc => hx e oc))) rfl oc
set_option maxRecDepth 20000 in
set_option maxHeartbeats 1000000 in
theorem nf_X11_undo_0 {Q : Int32 → HS → Prop} {v0 : Nat} {S : HS} (h : P_X11_undo_0 Q v0 S) (oc : ob S v0 11) : P_X11_undo_0 (fun r T => Q r T ∧ NFq 11 2 c11 v0 T) v0 S := by
  delta P_X11_undo_0 at h ⊢
  obtain ⟨c1, h⟩ := h
  refine ⟨c1, ?_⟩
  intro x3 e2
  have h := h x3 e2
  have oc := ob_wI oc e2
  refine cm_X11_isDay (kg_X11_isDay h) h (fun x4 x5 p8 h g6 g7 => ?_)
  have h := h g6 g7
  have oc := gr_ob p8.2.1 oc
  refine ⟨?_, ?_⟩
  · intro c9
    have h := h.1 c9
    exact nf_X11_undo_19 h oc
  · intro c10
    have h := h.2 c10
    intro x12 e11
    have h := h x12 e11
    refine ⟨?_, ?_⟩
    · intro c13
      have h := h.1 c13
      intro x15 e14
      have h := h x15 e14
      intro x17 e16
      have h := h x17 e16
      intro x19 e18
      have h := h x19 e18
      have oc := ob_wI oc e18
      exact nf_X11_undo_38 h oc
    · intro c20
      have h := h.2 c20
      exact nf_X11_undo_19 h oc
theorem nf_X11_undo {Q : Int32 → HS → Prop} {v0 : Nat} {S : HS} (h : P_X11_undo v0 Q S) (oc : ob S v0 11) : P_X11_undo v0 (fun r T => Q r T ∧ NFq 11 2 c11 v0 T) S := nf_X11_undo_0 h oc
set_option maxRecDepth 20000 in
set_option maxHeartbeats 1000000 in
theorem nf_X11_walker_23 {Q : Int32 → HS → Prop} {v0 : Nat} {S : HS} (h : P_X11_walker_23 Q v0 S) (oc : ob S v0 11) : P_X11_walker_23 (fun r T => Q r T ∧ NFq 11 2 c11 v0 T) v0 S := by
  delta P_X11_walker_23 at h ⊢
  obtain ⟨c1, h⟩ := h
  refine ⟨c1, ?_⟩
  refine cm_X11_refused (nf_X11_refused h oc) h (fun x2 x3 p5 h g4 => ?_)
  have h := h g4
  have N := p5.2
  have oc := N.1
  exact ⟨h, N⟩
set_option maxRecDepth 20000 in
set_option maxHeartbeats 1000000 in
theorem nf_X11_walker_0 {Q : Int32 → HS → Prop} {v0 : Nat} {v1 : Int32} {v2 : Int32} {S : HS} (h : P_X11_walker_0 Q v0 v1 v2 S) (oc : ob S v0 11) : P_X11_walker_0 (fun r T => Q r T ∧ NFq 11 2 c11 v0 T) v0 v1 v2 S := by
  delta P_X11_walker_0 at h ⊢
  obtain ⟨c1, h⟩ := h
  refine ⟨c1, ?_⟩
  intro x3 e2
  have h := h x3 e2
  have oc := ob_wI oc e2
  refine cm_X11_isWalker (kg_X11_isWalker h) h (fun x4 x5 p8 h g6 g7 => ?_)
  have h := h g6 g7
  have oc := gr_ob p8.2.1 oc
  refine ⟨?_, ?_⟩
  · intro c9
    have h := h.1 c9
    exact nf_X11_walker_23 h oc
  · intro c10
    have h := h.2 c10
    refine cm_X11_in (kg_X11_in h) h (fun x11 x12 p15 h g13 g14 => ?_)
    have h := h g13 g14
    have oc := gr_ob p15.2.1 oc
    refine ⟨?_, ?_⟩
    · intro c16
      have h := h.1 c16
      refine ⟨?_, ?_, ?_, ?_, ?_, ?_, ?_⟩
      · intro c17
        have h := h.1 c17
        obtain ⟨b18, e19, h⟩ := h
        refine ⟨b18, e19, ?_⟩
        obtain ⟨c20, h⟩ := h
        refine ⟨c20, ?_⟩
        have n21 := ob_nq oc c20 (by decide)
        obtain ⟨b22, e23, h⟩ := h
        refine ⟨b22, e23, ?_⟩
        obtain ⟨c24, h⟩ := h
        refine ⟨c24, ?_⟩
        have n25 := ob_nq oc c24 (by decide)
        obtain ⟨c26, h⟩ := h
        refine ⟨c26, ?_⟩
        intro x28 e27
        have h := h x28 e27
        refine cm_X11_good (nf_X11_good h oc) h (fun x29 x30 p32 h g31 => ?_)
        have h := h g31
        have N := p32.2
        have oc := N.1
        exact ⟨h, N⟩
      · intro c33
        have h := h.2.1 c33
        obtain ⟨b34, e35, h⟩ := h
        refine ⟨b34, e35, ?_⟩
        obtain ⟨c36, h⟩ := h
        refine ⟨c36, ?_⟩
        have n37 := ob_nq oc c36 (by decide)
        obtain ⟨b38, e39, h⟩ := h
        refine ⟨b38, e39, ?_⟩
        obtain ⟨c40, h⟩ := h
        refine ⟨c40, ?_⟩
        have n41 := ob_nq oc c40 (by decide)
        obtain ⟨c42, h⟩ := h
        refine ⟨c42, ?_⟩
        intro x44 e43
        have h := h x44 e43
        refine cm_X11_good (nf_X11_good h oc) h (fun x45 x46 p48 h g47 => ?_)
        have h := h g47
        have N := p48.2
        have oc := N.1
        exact ⟨h, N⟩
      · intro c49
        have h := h.2.2.1 c49
        obtain ⟨b50, e51, h⟩ := h
        refine ⟨b50, e51, ?_⟩
        obtain ⟨c52, h⟩ := h
        refine ⟨c52, ?_⟩
        have n53 := ob_nq oc c52 (by decide)
        obtain ⟨b54, e55, h⟩ := h
        refine ⟨b54, e55, ?_⟩
        obtain ⟨c56, h⟩ := h
        refine ⟨c56, ?_⟩
        have n57 := ob_nq oc c56 (by decide)
        obtain ⟨c58, h⟩ := h
        refine ⟨c58, ?_⟩
        intro x60 e59
        have h := h x60 e59
        refine cm_X11_good (nf_X11_good h oc) h (fun x61 x62 p64 h g63 => ?_)
        have h := h g63
        have N := p64.2
        have oc := N.1
        exact ⟨h, N⟩
      · intro c65
        have h := h.2.2.2.1 c65
        obtain ⟨b66, e67, h⟩ := h
        refine ⟨b66, e67, ?_⟩
        obtain ⟨c68, h⟩ := h
        refine ⟨c68, ?_⟩
        have n69 := ob_nq oc c68 (by decide)
        obtain ⟨b70, e71, h⟩ := h
        refine ⟨b70, e71, ?_⟩
        obtain ⟨c72, h⟩ := h
        refine ⟨c72, ?_⟩
        have n73 := ob_nq oc c72 (by decide)
        obtain ⟨c74, h⟩ := h
        refine ⟨c74, ?_⟩
        intro x76 e75
        have h := h x76 e75
        refine cm_X11_good (nf_X11_good h oc) h (fun x77 x78 p80 h g79 => ?_)
        have h := h g79
        have N := p80.2
        have oc := N.1
        exact ⟨h, N⟩
      · intro c81
        have h := h.2.2.2.2.1 c81
        obtain ⟨b82, e83, h⟩ := h
        refine ⟨b82, e83, ?_⟩
        obtain ⟨c84, h⟩ := h
        refine ⟨c84, ?_⟩
        have n85 := ob_nq oc c84 (by decide)
        obtain ⟨b86, e87, h⟩ := h
        refine ⟨b86, e87, ?_⟩
        obtain ⟨c88, h⟩ := h
        refine ⟨c88, ?_⟩
        have n89 := ob_nq oc c88 (by decide)
        obtain ⟨c90, h⟩ := h
        refine ⟨c90, ?_⟩
        intro x92 e91
        have h := h x92 e91
        refine cm_X11_good (nf_X11_good h oc) h (fun x93 x94 p96 h g95 => ?_)
        have h := h g95
        have N := p96.2
        have oc := N.1
        exact ⟨h, N⟩
      · intro c97
        have h := h.2.2.2.2.2.1 c97
        obtain ⟨b98, e99, h⟩ := h
        refine ⟨b98, e99, ?_⟩
        obtain ⟨c100, h⟩ := h
        refine ⟨c100, ?_⟩
        have n101 := ob_nq oc c100 (by decide)
        obtain ⟨b102, e103, h⟩ := h
        refine ⟨b102, e103, ?_⟩
        obtain ⟨c104, h⟩ := h
        refine ⟨c104, ?_⟩
        have n105 := ob_nq oc c104 (by decide)
        obtain ⟨c106, h⟩ := h
        refine ⟨c106, ?_⟩
        intro x108 e107
        have h := h x108 e107
        refine cm_X11_good (nf_X11_good h oc) h (fun x109 x110 p112 h g111 => ?_)
        have h := h g111
        have N := p112.2
        have oc := N.1
        exact ⟨h, N⟩
      · intro c113
        have h := h.2.2.2.2.2.2 c113
        obtain ⟨b114, e115, h⟩ := h
        refine ⟨b114, e115, ?_⟩
        obtain ⟨c116, h⟩ := h
        refine ⟨c116, ?_⟩
        have n117 := ob_nq oc c116 (by decide)
        obtain ⟨b118, e119, h⟩ := h
        refine ⟨b118, e119, ?_⟩
        obtain ⟨c120, h⟩ := h
        refine ⟨c120, ?_⟩
        have n121 := ob_nq oc c120 (by decide)
        obtain ⟨c122, h⟩ := h
        refine ⟨c122, ?_⟩
        intro x124 e123
        have h := h x124 e123
        refine cm_X11_good (nf_X11_good h oc) h (fun x125 x126 p128 h g127 => ?_)
        have h := h g127
        have N := p128.2
        have oc := N.1
        exact ⟨h, N⟩
    · intro c129
      have h := h.2 c129
      exact nf_X11_walker_23 h oc
theorem nf_X11_walker {Q : Int32 → HS → Prop} {v0 : Nat} {v1 : Int32} {v2 : Int32} {S : HS} (h : P_X11_walker v0 v1 v2 Q S) (oc : ob S v0 11) : P_X11_walker v0 v1 v2 (fun r T => Q r T ∧ NFq 11 2 c11 v0 T) S := nf_X11_walker_0 h oc
set_option maxRecDepth 20000 in
set_option maxHeartbeats 1000000 in
theorem nf_X11_wet_0 {Q : Int64 → HS → Prop} {v0 : Nat} {v1 : Int32} {v2 : Int32} {v3 : Int32} {v4 : Int32} {v5 : Int32} {v6 : Int32} {S : HS} (h : P_X11_wet_0 Q v0 v1 v2 v3 v4 v5 v6 S) (oc : ob S v0 11) : P_X11_wet_0 (fun r T => Q r T ∧ NFq 11 2 c11 v0 T) v0 v1 v2 v3 v4 v5 v6 S := by
  delta P_X11_wet_0 at h ⊢
  obtain ⟨c1, h⟩ := h
  refine ⟨c1, ?_⟩
  intro x3 e2
  have h := h x3 e2
  have oc := ob_wI oc e2
  refine cm_X11_refuses (kg_X11_refuses h) h (fun x4 x5 p7 h g6 => ?_)
  have h := h g6
  have oc := gr_ob p7.2.1 oc
  refine ⟨?_, ?_⟩
  · intro c8
    have h := h.1 c8
    refine cm_X11_wetOf (kg_X11_wetOf h) h (fun x9 x10 p12 h g11 => ?_)
    have h := h g11
    have oc := gr_ob p12.2.1 oc
    refine cm_X11_told (nf_X11_told h oc) h (fun x13 x14 p16 h g15 => ?_)
    have h := h g15
    have N := p16.2
    have oc := N.1
    exact ⟨h, N⟩
  · intro c17
    have h := h.2 c17
    refine cm_X11_refused (nf_X11_refused h oc) h (fun x18 x19 p21 h g20 => ?_)
    have h := h g20
    have N := p21.2
    have oc := N.1
    exact ⟨h, N⟩
theorem nf_X11_wet {Q : Int64 → HS → Prop} {v0 : Nat} {v1 : Int32} {v2 : Int32} {v3 : Int32} {v4 : Int32} {v5 : Int32} {v6 : Int32} {S : HS} (h : P_X11_wet v0 v1 v2 v3 v4 v5 v6 Q S) (oc : ob S v0 11) : P_X11_wet v0 v1 v2 v3 v4 v5 v6 (fun r T => Q r T ∧ NFq 11 2 c11 v0 T) S := nf_X11_wet_0 h oc
set_option maxRecDepth 20000 in
set_option maxHeartbeats 1000000 in
theorem nf_X11_wetness_41 {Q : Int64 → HS → Prop} {v1 : Int32} {s0 : Nat} {s1 : Int64} {v0 : Nat} {S : HS} (h : P_X11_wetness_41 Q v1 s0 s1 S) (oc : ob S v0 11) (q_s0 : s0 = v0) : P_X11_wetness_41 (fun r T => Q r T ∧ NFq 11 2 c11 v0 T) v1 s0 s1 S := by
  delta P_X11_wetness_41 at h ⊢
  subst q_s0
  obtain ⟨c1, h⟩ := h
  refine ⟨c1, ?_⟩
  refine cm_X11_told (nf_X11_told h oc) h (fun x2 x3 p5 h g4 => ?_)
  have h := h g4
  have N := p5.2
  have oc := N.1
  exact ⟨h, N⟩
set_option maxRecDepth 20000 in
set_option maxHeartbeats 1000000 in
theorem nf_X11_wetness_0 {Q : Int64 → HS → Prop} {v0 : Nat} {v1 : Int32} {S : HS} (h : P_X11_wetness_0 Q v0 v1 S) (oc : ob S v0 11) : P_X11_wetness_0 (fun r T => Q r T ∧ NFq 11 2 c11 v0 T) v0 v1 S := by
  delta P_X11_wetness_0 at h ⊢
  obtain ⟨c1, h⟩ := h
  refine ⟨c1, ?_⟩
  intro x3 e2
  have h := h x3 e2
  have oc := ob_wI oc e2
  refine cm_X11_isDay (kg_X11_isDay h) h (fun x4 x5 p8 h g6 g7 => ?_)
  have h := h g6 g7
  have oc := gr_ob p8.2.1 oc
  refine ⟨?_, ?_⟩
  · intro c9
    have h := h.1 c9
    refine cm_X11_gotInAll (kg_X11_gotInAll h) h (fun x10 x11 p13 h g12 => ?_)
    have h := h g12
    have oc := gr_ob p13.2.1 oc
    refine cm_X11_holds (kg_X11_holds h) h (fun x14 x15 p17 h g16 => ?_)
    have h := h g16
    have oc := gr_ob p17.2.1 oc
    intro x19 e18
    have h := h x19 e18
    refine ⟨?_, ?_⟩
    · intro c20
      have h := h.1 c20
      exact nf_X11_wetness_41 h oc rfl
    · intro c21
      have h := h.2 c21
      exact nf_X11_wetness_41 h oc rfl
  · intro c22
    have h := h.2 c22
    refine cm_X11_refused (nf_X11_refused h oc) h (fun x23 x24 p26 h g25 => ?_)
    have h := h g25
    have N := p26.2
    have oc := N.1
    exact ⟨h, N⟩
theorem nf_X11_wetness {Q : Int64 → HS → Prop} {v0 : Nat} {v1 : Int32} {S : HS} (h : P_X11_wetness v0 v1 Q S) (oc : ob S v0 11) : P_X11_wetness v0 v1 (fun r T => Q r T ∧ NFq 11 2 c11 v0 T) S := nf_X11_wetness_0 h oc
set_option maxRecDepth 20000 in
set_option maxHeartbeats 1000000 in
theorem nf_X11_worst_39 {Q : Int32 → HS → Prop} {v0 : Nat} {S : HS} (h : P_X11_worst_39 Q v0 S) (oc : ob S v0 11) : P_X11_worst_39 (fun r T => Q r T ∧ NFq 11 2 c11 v0 T) v0 S := by
  delta P_X11_worst_39 at h ⊢
  obtain ⟨c1, h⟩ := h
  refine ⟨c1, ?_⟩
  refine cm_X11_refused (nf_X11_refused h oc) h (fun x2 x3 p5 h g4 => ?_)
  have h := h g4
  have N := p5.2
  have oc := N.1
  exact ⟨h, N⟩
set_option maxRecDepth 20000 in
set_option maxHeartbeats 1000000 in
theorem nf_X11_worst_106 {Q : Int32 → HS → Prop} {X62 X62_2 : Nat → Int32 → Int32 → Int32 → Int32 → Int32 → Int32 → HS → Prop} {v0 : Nat} {v1 : Int32} {v2 : Int32} {v3 : Int32} {v4 : Int32} {v5 : Int32} {v6 : Int32} {S : HS} (h : P_X11_worst_106 Q X62 v0 v1 v2 v3 v4 v5 v6 S) (oc : ob S v0 11) (hX62 : ∀ (u0 : Nat) (u1 : Int32) (u2 : Int32) (u3 : Int32) (u4 : Int32) (u5 : Int32) (u6 : Int32) (u7 : HS), X62 u0 u1 u2 u3 u4 u5 u6 u7 → u0 = v0 → ob u7 v0 11 → X62_2 u0 u1 u2 u3 u4 u5 u6 u7) : P_X11_worst_106 (fun r T => Q r T ∧ NFq 11 2 c11 v0 T) X62_2 v0 v1 v2 v3 v4 v5 v6 S := by
  delta P_X11_worst_106 at h ⊢
  intro x2 e1
  have h := h x2 e1
  exact hX62 _ _ _ _ _ _ _ _ h rfl oc
set_option maxRecDepth 20000 in
set_option maxHeartbeats 1000000 in
theorem nfB_X11_worst_62 {Q : Int32 → HS → Prop} {X62 X62_2 : Nat → Int32 → Int32 → Int32 → Int32 → Int32 → Int32 → HS → Prop} {v0 : Nat} {v1 : Int32} {v2 : Int32} {v3 : Int32} {v4 : Int32} {v5 : Int32} {v6 : Int32} {S : HS} (h : B_X11_worst_62 Q X62 v0 v1 v2 v3 v4 v5 v6 S) (oc : ob S v0 11) (hX62 : ∀ (u0 : Nat) (u1 : Int32) (u2 : Int32) (u3 : Int32) (u4 : Int32) (u5 : Int32) (u6 : Int32) (u7 : HS), X62 u0 u1 u2 u3 u4 u5 u6 u7 → u0 = v0 → ob u7 v0 11 → X62_2 u0 u1 u2 u3 u4 u5 u6 u7) : B_X11_worst_62 (fun r T => Q r T ∧ NFq 11 2 c11 v0 T) X62_2 v0 v1 v2 v3 v4 v5 v6 S := by
  delta B_X11_worst_62 at h ⊢
  obtain ⟨c1, h⟩ := h
  refine ⟨c1, ?_⟩
  obtain ⟨b2, e3, h⟩ := h
  refine ⟨b2, e3, ?_⟩
  obtain ⟨c4, h⟩ := h
  refine ⟨c4, ?_⟩
  have n5 := ob_nq oc c4 (by decide)
  obtain ⟨b6, e7, h⟩ := h
  refine ⟨b6, e7, ?_⟩
  obtain ⟨c8, h⟩ := h
  refine ⟨c8, ?_⟩
  have n9 := ob_nq oc c8 (by decide)
  obtain ⟨c10, h⟩ := h
  refine ⟨c10, ?_⟩
  intro x12 e11
  have h := h x12 e11
  refine ⟨?_, ?_⟩
  · intro c13
    have h := h.1 c13
    refine cm_X11_good (nf_X11_good h oc) h (fun x14 x15 p17 h g16 => ?_)
    have h := h g16
    have N := p17.2
    have oc := N.1
    exact ⟨h, N⟩
  · intro c18
    have h := h.2 c18
    refine cm_X11_wetOf (kg_X11_wetOf h) h (fun x19 x20 p22 h g21 => ?_)
    have h := h g21
    have oc := gr_ob p22.2.1 oc
    refine cm_X11_wetOf (kg_X11_wetOf h) h (fun x23 x24 p26 h g25 => ?_)
    have h := h g25
    have oc := gr_ob p26.2.1 oc
    refine ⟨?_, ?_⟩
    · intro c27
      have h := h.1 c27
      exact nf_X11_worst_106 h oc hX62
    · intro c28
      have h := h.2 c28
      exact nf_X11_worst_106 h oc hX62
theorem nf_X11_worst_62 {Q : Int32 → HS → Prop} {v0 : Nat} {v1 : Int32} {v2 : Int32} {v3 : Int32} {v4 : Int32} {v5 : Int32} {v6 : Int32} {S : HS} (h : P_X11_worst_62 Q v0 v1 v2 v3 v4 v5 v6 S) (oc : ob S v0 11) : P_X11_worst_62 (fun r T => Q r T ∧ NFq 11 2 c11 v0 T) v0 v1 v2 v3 v4 v5 v6 S := h (fun w0 v1 v2 v3 v4 v5 v6 S => w0 = v0 → ob S v0 11 → P_X11_worst_62 (fun r T => Q r T ∧ NFq 11 2 c11 v0 T) w0 v1 v2 v3 v4 v5 v6 S) (fun w0 v1 v2 v3 v4 v5 v6 S hB e oc => by
  subst e; exact fd_X11_worst_62 (nfB_X11_worst_62 hB oc (fun _ _ _ _ _ _ _ _ hx e oc => hx e oc))) rfl oc
set_option maxRecDepth 20000 in
set_option maxHeartbeats 1000000 in
theorem nf_X11_worst_0 {Q : Int32 → HS → Prop} {v0 : Nat} {v1 : Int32} {v2 : Int32} {v3 : Int32} {v4 : Int32} {S : HS} (h : P_X11_worst_0 Q v0 v1 v2 v3 v4 S) (oc : ob S v0 11) : P_X11_worst_0 (fun r T => Q r T ∧ NFq 11 2 c11 v0 T) v0 v1 v2 v3 v4 S := by
  delta P_X11_worst_0 at h ⊢
  obtain ⟨c1, h⟩ := h
  refine ⟨c1, ?_⟩
  intro x3 e2
  have h := h x3 e2
  have oc := ob_wI oc e2
  refine cm_X11_isWalker (kg_X11_isWalker h) h (fun x4 x5 p8 h g6 g7 => ?_)
  have h := h g6 g7
  have oc := gr_ob p8.2.1 oc
  refine ⟨?_, ?_⟩
  · intro c9
    have h := h.1 c9
    exact nf_X11_worst_39 h oc
  · intro c10
    have h := h.2 c10
    refine cm_X11_isRoad (kg_X11_isRoad h) h (fun x11 x12 p15 h g13 g14 => ?_)
    have h := h g13 g14
    have oc := gr_ob p15.2.1 oc
    refine ⟨?_, ?_⟩
    · intro c16
      have h := h.1 c16
      exact nf_X11_worst_39 h oc
    · intro c17
      have h := h.2 c17
      refine cm_X11_in (kg_X11_in h) h (fun x18 x19 p22 h g20 g21 => ?_)
      have h := h g20 g21
      have oc := gr_ob p22.2.1 oc
      refine ⟨?_, ?_⟩
      · intro c23
        have h := h.1 c23
        exact nf_X11_worst_39 h oc
      · intro c24
        have h := h.2 c24
        refine cm_X11_isHour (kg_X11_isHour h) h (fun x25 x26 p29 h g27 g28 => ?_)
        have h := h g27 g28
        have oc := gr_ob p29.2.1 oc
        refine ⟨?_, ?_⟩
        · intro c30
          have h := h.1 c30
          obtain ⟨b31, e32, h⟩ := h
          refine ⟨b31, e32, ?_⟩
          obtain ⟨c33, h⟩ := h
          refine ⟨c33, ?_⟩
          have n34 := ob_nq oc c33 (by decide)
          obtain ⟨b35, e36, h⟩ := h
          refine ⟨b35, e36, ?_⟩
          obtain ⟨c37, h⟩ := h
          refine ⟨c37, ?_⟩
          have n38 := ob_nq oc c37 (by decide)
          obtain ⟨c39, h⟩ := h
          refine ⟨c39, ?_⟩
          intro x41 e40
          have h := h x41 e40
          intro x43 e42
          have h := h x43 e42
          exact nf_X11_worst_62 h oc
        · intro c44
          have h := h.2 c44
          exact nf_X11_worst_39 h oc
theorem nf_X11_worst {Q : Int32 → HS → Prop} {v0 : Nat} {v1 : Int32} {v2 : Int32} {v3 : Int32} {v4 : Int32} {S : HS} (h : P_X11_worst v0 v1 v2 v3 v4 Q S) (oc : ob S v0 11) : P_X11_worst v0 v1 v2 v3 v4 (fun r T => Q r T ∧ NFq 11 2 c11 v0 T) S := nf_X11_worst_0 h oc
set_option maxRecDepth 20000 in
set_option maxHeartbeats 1000000 in
theorem nf_X9_grant_0 {Q : Int32 → HS → Prop} {v0 : Nat} {v1 : Int32} {S : HS} (h : P_X9_grant_0 Q v0 v1 S) (oc : ob S v0 9) : P_X9_grant_0 (fun r T => Q r T ∧ NFq 9 9 c9 v0 T) v0 v1 S := by
  delta P_X9_grant_0 at h ⊢
  obtain ⟨c1, h⟩ := h
  refine ⟨c1, ?_⟩
  intro x3 e2
  have h := h x3 e2
  have N := nf_set (C := c9) oc e2 (by decide)
  have oc := N.1
  exact ⟨h, N⟩
theorem nf_X9_grant {Q : Int32 → HS → Prop} {v0 : Nat} {v1 : Int32} {S : HS} (h : P_X9_grant v0 v1 Q S) (oc : ob S v0 9) : P_X9_grant v0 v1 (fun r T => Q r T ∧ NFq 9 9 c9 v0 T) S := nf_X9_grant_0 h oc
set_option maxRecDepth 20000 in
set_option maxHeartbeats 1000000 in
theorem nf_X9_air_0 {Q : Int32 → HS → Prop} {v0 : Nat} {v1 : Int32} {v2 : Int32} {v3 : Int32} {S : HS} (h : P_X9_air_0 Q v0 v1 v2 v3 S) (oc : ob S v0 9) : P_X9_air_0 (fun r T => Q r T ∧ NFq 9 9 c9 v0 T) v0 v1 v2 v3 S := by
  delta P_X9_air_0 at h ⊢
  obtain ⟨c1, h⟩ := h
  refine ⟨c1, ?_⟩
  obtain ⟨b2, e3, h⟩ := h
  refine ⟨b2, e3, ?_⟩
  obtain ⟨c4, h⟩ := h
  refine ⟨c4, ?_⟩
  have n5 := ob_nq oc c4 (by decide)
  refine cm_X8_hasRoad (kg_X8_hasRoad h) h (fun x6 x7 p10 h g8 g9 => ?_)
  have h := h g8 g9
  have oc := gr_ob p10.2.1 oc
  refine ⟨?_, ?_⟩
  · intro c11
    have h := h.1 c11
    intro x13 e12
    have h := h x13 e12
    have N := nf_set (C := c9) oc e12 (by decide)
    have oc := N.1
    exact ⟨h, N⟩
  · intro c14
    have h := h.2 c14
    refine cm_X9_isWay (kg_X9_isWay h) h (fun x15 x16 p19 h g17 g18 => ?_)
    have h := h g17 g18
    have oc := gr_ob p19.2.1 oc
    refine ⟨?_, ?_⟩
    · intro c20
      have h := h.1 c20
      intro x22 e21
      have h := h x22 e21
      have N := nf_set (C := c9) oc e21 (by decide)
      have oc := N.1
      exact ⟨h, N⟩
    · intro c23
      have h := h.2 c23
      obtain ⟨b24, e25, h⟩ := h
      refine ⟨b24, e25, ?_⟩
      obtain ⟨c26, h⟩ := h
      refine ⟨c26, ?_⟩
      have n27 := ob_nq oc c26 (by decide)
      refine cm_X8_hasHour (kg_X8_hasHour h) h (fun x28 x29 p32 h g30 g31 => ?_)
      have h := h g30 g31
      have oc := gr_ob p32.2.1 oc
      refine ⟨?_, ?_⟩
      · intro c33
        have h := h.1 c33
        obtain ⟨b34, e35, h⟩ := h
        refine ⟨b34, e35, ?_⟩
        obtain ⟨c36, h⟩ := h
        refine ⟨c36, ?_⟩
        have n37 := ob_nq oc c36 (by decide)
        obtain ⟨b38, e39, h⟩ := h
        refine ⟨b38, e39, ?_⟩
        obtain ⟨c40, h⟩ := h
        refine ⟨c40, ?_⟩
        have n41 := ob_nq oc c40 (by decide)
        obtain ⟨c42, h⟩ := h
        refine ⟨c42, ?_⟩
        obtain ⟨b43, e44, h⟩ := h
        refine ⟨b43, e44, ?_⟩
        obtain ⟨b45, e46, h⟩ := h
        refine ⟨b45, e46, ?_⟩
        obtain ⟨c47, h⟩ := h
        refine ⟨c47, ?_⟩
        have n48 := ob_nq oc c47 (by decide)
        obtain ⟨b49, e50, h⟩ := h
        refine ⟨b49, e50, ?_⟩
        obtain ⟨c51, h⟩ := h
        refine ⟨c51, ?_⟩
        have n52 := ob_nq oc c51 (by decide)
        obtain ⟨c53, h⟩ := h
        refine ⟨c53, ?_⟩
        obtain ⟨b54, e55, h⟩ := h
        refine ⟨b54, e55, ?_⟩
        obtain ⟨c56, h⟩ := h
        refine ⟨c56, ?_⟩
        have n57 := ob_nq oc c56 (by decide)
        refine cm_X5_airAlong (kg_X5_airAlong h) h (fun x58 x59 p61 h g60 => ?_)
        have h := h g60
        have oc := gr_ob p61.2.1 oc
        refine cm_X9_grant (nf_X9_grant h oc) h (fun x62 x63 p65 h g64 => ?_)
        have h := h g64
        have N := p65.2
        have oc := N.1
        exact ⟨h, N⟩
      · intro c66
        have h := h.2 c66
        intro x68 e67
        have h := h x68 e67
        have N := nf_set (C := c9) oc e67 (by decide)
        have oc := N.1
        exact ⟨h, N⟩
theorem nf_X9_air {Q : Int32 → HS → Prop} {v0 : Nat} {v1 : Int32} {v2 : Int32} {v3 : Int32} {S : HS} (h : P_X9_air v0 v1 v2 v3 Q S) (oc : ob S v0 9) : P_X9_air v0 v1 v2 v3 (fun r T => Q r T ∧ NFq 9 9 c9 v0 T) S := nf_X9_air_0 h oc
set_option maxRecDepth 20000 in
set_option maxHeartbeats 1000000 in
theorem nf_X9_refusedBy_0 {Q : Int32 → HS → Prop} {v0 : Nat} {v1 : Int32} {S : HS} (h : P_X9_refusedBy_0 Q v0 v1 S) (oc : ob S v0 9) (z_v1 : c9 v1) : P_X9_refusedBy_0 (fun r T => Q r T ∧ NFq 9 9 c9 v0 T) v0 v1 S := by
  delta P_X9_refusedBy_0 at h ⊢
  obtain ⟨c1, h⟩ := h
  refine ⟨c1, ?_⟩
  intro x3 e2
  have h := h x3 e2
  have N := nf_set (C := c9) oc e2 z_v1
  have oc := N.1
  refine ⟨?_, ?_⟩
  · intro c4
    have h := h.1 c4
    exact ⟨h, N⟩
  · intro c5
    have h := h.2 c5
    exact ⟨h, N⟩
theorem nf_X9_refusedBy {Q : Int32 → HS → Prop} {v0 : Nat} {v1 : Int32} {S : HS} (h : P_X9_refusedBy v0 v1 Q S) (oc : ob S v0 9) (z_v1 : c9 v1) : P_X9_refusedBy v0 v1 (fun r T => Q r T ∧ NFq 9 9 c9 v0 T) S := nf_X9_refusedBy_0 h oc z_v1
set_option maxRecDepth 20000 in
set_option maxHeartbeats 1000000 in
theorem nf_X9_back_17 {Q : Int32 → HS → Prop} {s0 : Nat} {s1 : Int32} {v0 : Nat} {S : HS} (h : P_X9_back_17 Q s0 s1 S) (oc : ob S v0 9) (q_s0 : s0 = v0) (z_s1 : c9 s1) : P_X9_back_17 (fun r T => Q r T ∧ NFq 9 9 c9 v0 T) s0 s1 S := by
  delta P_X9_back_17 at h ⊢
  subst q_s0
  obtain ⟨c1, h⟩ := h
  refine ⟨c1, ?_⟩
  refine cm_X9_refusedBy (nf_X9_refusedBy h oc z_s1) h (fun x2 x3 p6 h g4 g5 => ?_)
  have h := h g4 g5
  have N := p6.2
  have oc := N.1
  refine ⟨?_, ?_⟩
  · intro c7
    have h := h.1 c7
    exact ⟨h, N⟩
  · intro c8
    have h := h.2 c8
    exact ⟨h, N⟩
set_option maxRecDepth 20000 in
set_option maxHeartbeats 1000000 in
theorem nf_X9_back_0 {Q : Int32 → HS → Prop} {v0 : Nat} {v1 : Int32} {S : HS} (h : P_X9_back_0 Q v0 v1 S) (oc : ob S v0 9) : P_X9_back_0 (fun r T => Q r T ∧ NFq 9 9 c9 v0 T) v0 v1 S := by
  delta P_X9_back_0 at h ⊢
  obtain ⟨c1, h⟩ := h
  refine ⟨c1, ?_⟩
  obtain ⟨b2, e3, h⟩ := h
  refine ⟨b2, e3, ?_⟩
  obtain ⟨c4, h⟩ := h
  refine ⟨c4, ?_⟩
  have n5 := ob_nq oc c4 (by decide)
  refine cm_X0_returnTo (kg_X0_returnTo h) h (fun x6 x7 p10 h g8 g9 => ?_)
  have h := h g8 g9
  have oc := gr_ob p10.2.1 oc
  refine ⟨?_, ?_⟩
  · intro c11
    have h := h.1 c11
    exact nf_X9_back_17 h oc rfl (by decide)
  · intro c12
    have h := h.2 c12
    exact nf_X9_back_17 h oc rfl (by decide)
theorem nf_X9_back {Q : Int32 → HS → Prop} {v0 : Nat} {v1 : Int32} {S : HS} (h : P_X9_back v0 v1 Q S) (oc : ob S v0 9) : P_X9_back v0 v1 (fun r T => Q r T ∧ NFq 9 9 c9 v0 T) S := nf_X9_back_0 h oc
set_option maxRecDepth 20000 in
set_option maxHeartbeats 1000000 in
theorem nr_X9_tripTrouble_46 {Q : Int32 → HS → Prop} {s0 : Int32} {S : HS} (h : P_X9_tripTrouble_46 Q s0 S) : P_X9_tripTrouble_46 (fun r T => Q r T ∧ c9 r) s0 S := by
  delta P_X9_tripTrouble_46 at h ⊢
  refine ⟨?_, ?_⟩
  · intro c1
    have h := h.1 c1
    exact ⟨h, (by decide)⟩
  · intro c2
    have h := h.2 c2
    exact ⟨h, (by decide)⟩
set_option maxRecDepth 20000 in
set_option maxHeartbeats 1000000 in
theorem nr_X9_tripTrouble_45 {Q : Int32 → HS → Prop} {S : HS} (h : P_X9_tripTrouble_45 Q S) : P_X9_tripTrouble_45 (fun r T => Q r T ∧ c9 r) S := by
  delta P_X9_tripTrouble_45 at h ⊢
  exact nr_X9_tripTrouble_46 h
set_option maxRecDepth 20000 in
set_option maxHeartbeats 1000000 in
theorem nr_X9_tripTrouble_0 {Q : Int32 → HS → Prop} {v0 : Nat} {v1 : Int32} {v2 : Int32} {v3 : Int32} {v4 : Int32} {S : HS} (h : P_X9_tripTrouble_0 Q v0 v1 v2 v3 v4 S) : P_X9_tripTrouble_0 (fun r T => Q r T ∧ c9 r) v0 v1 v2 v3 v4 S := by
  delta P_X9_tripTrouble_0 at h ⊢
  obtain ⟨c1, h⟩ := h
  refine ⟨c1, ?_⟩
  obtain ⟨b2, e3, h⟩ := h
  refine ⟨b2, e3, ?_⟩
  obtain ⟨c4, h⟩ := h
  refine ⟨c4, ?_⟩
  refine cm_X8_hasWalker h h (fun x5 x6 h _ g7 g8 => ?_)
  have h := h g7 g8
  refine ⟨?_, ?_⟩
  · intro c10
    have h := h.1 c10
    exact nr_X9_tripTrouble_45 h
  · intro c11
    have h := h.2 c11
    obtain ⟨b12, e13, h⟩ := h
    refine ⟨b12, e13, ?_⟩
    obtain ⟨c14, h⟩ := h
    refine ⟨c14, ?_⟩
    refine cm_X8_hasRoad h h (fun x15 x16 h _ g17 g18 => ?_)
    have h := h g17 g18
    refine ⟨?_, ?_⟩
    · intro c20
      have h := h.1 c20
      exact nr_X9_tripTrouble_45 h
    · intro c21
      have h := h.2 c21
      refine cm_X9_isWay h h (fun x22 x23 h _ g24 g25 => ?_)
      have h := h g24 g25
      refine ⟨?_, ?_⟩
      · intro c27
        have h := h.1 c27
        exact nr_X9_tripTrouble_45 h
      · intro c28
        have h := h.2 c28
        obtain ⟨b29, e30, h⟩ := h
        refine ⟨b29, e30, ?_⟩
        obtain ⟨c31, h⟩ := h
        refine ⟨c31, ?_⟩
        refine cm_X8_hasHour h h (fun x32 x33 h _ g34 g35 => ?_)
        have h := h g34 g35
        refine ⟨?_, ?_⟩
        · intro c37
          have h := h.1 c37
          exact nr_X9_tripTrouble_45 h
        · intro c38
          have h := h.2 c38
          exact nr_X9_tripTrouble_46 h
theorem nr_X9_tripTrouble {Q : Int32 → HS → Prop} {v0 : Nat} {v1 : Int32} {v2 : Int32} {v3 : Int32} {v4 : Int32} {S : HS} (h : P_X9_tripTrouble v0 v1 v2 v3 v4 Q S) : P_X9_tripTrouble v0 v1 v2 v3 v4 (fun r T => Q r T ∧ c9 r) S := nr_X9_tripTrouble_0 h
theorem kr_X9_tripTrouble {Q : Int32 → HS → Prop} {v0 : Nat} {v1 : Int32} {v2 : Int32} {v3 : Int32} {v4 : Int32} {S : HS} (h : P_X9_tripTrouble v0 v1 v2 v3 v4 Q S) : P_X9_tripTrouble v0 v1 v2 v3 v4 (fun r T => Q r T ∧ K5 S T ∧ c9 r) S := cm_X9_tripTrouble (kg_X9_tripTrouble h) (nr_X9_tripTrouble h) (fun _ _ a b => ⟨a.1, a.2, b.2⟩)
set_option maxRecDepth 20000 in
set_option maxHeartbeats 1000000 in
theorem nf_X9_best_0 {Q : Int32 → HS → Prop} {v0 : Nat} {v1 : Int32} {v2 : Int32} {v3 : Int32} {v4 : Int32} {S : HS} (h : P_X9_best_0 Q v0 v1 v2 v3 v4 S) (oc : ob S v0 9) : P_X9_best_0 (fun r T => Q r T ∧ NFq 9 9 c9 v0 T) v0 v1 v2 v3 v4 S := by
  delta P_X9_best_0 at h ⊢
  obtain ⟨c1, h⟩ := h
  refine ⟨c1, ?_⟩
  refine cm_X9_tripTrouble (kr_X9_tripTrouble h) h (fun x2 x3 p5 h g4 => ?_)
  have h := h g4
  have oc := gr_ob p5.2.1.1 oc
  refine cm_X9_refusedBy (nf_X9_refusedBy h oc p5.2.2) h (fun x6 x7 p10 h g8 g9 => ?_)
  have h := h g8 g9
  have N := p10.2
  have oc := N.1
  refine ⟨?_, ?_⟩
  · intro c11
    have h := h.1 c11
    obtain ⟨b12, e13, h⟩ := h
    refine ⟨b12, e13, ?_⟩
    obtain ⟨b14, e15, h⟩ := h
    refine ⟨b14, e15, ?_⟩
    obtain ⟨c16, h⟩ := h
    refine ⟨c16, ?_⟩
    have n17 := ob_nq oc c16 (by decide)
    obtain ⟨b18, e19, h⟩ := h
    refine ⟨b18, e19, ?_⟩
    obtain ⟨c20, h⟩ := h
    refine ⟨c20, ?_⟩
    have n21 := ob_nq oc c20 (by decide)
    obtain ⟨c22, h⟩ := h
    refine ⟨c22, ?_⟩
    obtain ⟨b23, e24, h⟩ := h
    refine ⟨b23, e24, ?_⟩
    obtain ⟨b25, e26, h⟩ := h
    refine ⟨b25, e26, ?_⟩
    obtain ⟨c27, h⟩ := h
    refine ⟨c27, ?_⟩
    have n28 := ob_nq oc c27 (by decide)
    obtain ⟨b29, e30, h⟩ := h
    refine ⟨b29, e30, ?_⟩
    obtain ⟨c31, h⟩ := h
    refine ⟨c31, ?_⟩
    have n32 := ob_nq oc c31 (by decide)
    obtain ⟨c33, h⟩ := h
    refine ⟨c33, ?_⟩
    obtain ⟨b34, e35, h⟩ := h
    refine ⟨b34, e35, ?_⟩
    obtain ⟨b36, e37, h⟩ := h
    refine ⟨b36, e37, ?_⟩
    obtain ⟨c38, h⟩ := h
    refine ⟨c38, ?_⟩
    have n39 := ob_nq oc c38 (by decide)
    obtain ⟨b40, e41, h⟩ := h
    refine ⟨b40, e41, ?_⟩
    obtain ⟨c42, h⟩ := h
    refine ⟨c42, ?_⟩
    have n43 := ob_nq oc c42 (by decide)
    obtain ⟨c44, h⟩ := h
    refine ⟨c44, ?_⟩
    obtain ⟨b45, e46, h⟩ := h
    refine ⟨b45, e46, ?_⟩
    obtain ⟨c47, h⟩ := h
    refine ⟨c47, ?_⟩
    have n48 := ob_nq oc c47 (by decide)
    refine cm_X1_bestSpeed (kg_X1_bestSpeed h) h (fun x49 x50 p52 h g51 => ?_)
    have h := h g51
    have oc := gr_ob p52.2.1 oc
    have N := nf_K N p52.2 (by decide)
    exact ⟨h, N⟩
  · intro c53
    have h := h.2 c53
    exact ⟨h, N⟩
theorem nf_X9_best {Q : Int32 → HS → Prop} {v0 : Nat} {v1 : Int32} {v2 : Int32} {v3 : Int32} {v4 : Int32} {S : HS} (h : P_X9_best v0 v1 v2 v3 v4 Q S) (oc : ob S v0 9) : P_X9_best v0 v1 v2 v3 v4 (fun r T => Q r T ∧ NFq 9 9 c9 v0 T) S := nf_X9_best_0 h oc
set_option maxRecDepth 20000 in
set_option maxHeartbeats 1000000 in
theorem nf_X9_refuse_0 {Q : Int32 → HS → Prop} {v0 : Nat} {v1 : Int32} {S : HS} (h : P_X9_refuse_0 Q v0 v1 S) (oc : ob S v0 9) (z_v1 : c9 v1) : P_X9_refuse_0 (fun r T => Q r T ∧ NFq 9 9 c9 v0 T) v0 v1 S := by
  delta P_X9_refuse_0 at h ⊢
  obtain ⟨c1, h⟩ := h
  refine ⟨c1, ?_⟩
  intro x3 e2
  have h := h x3 e2
  have N := nf_set (C := c9) oc e2 z_v1
  have oc := N.1
  exact ⟨h, N⟩
theorem nf_X9_refuse {Q : Int32 → HS → Prop} {v0 : Nat} {v1 : Int32} {S : HS} (h : P_X9_refuse v0 v1 Q S) (oc : ob S v0 9) (z_v1 : c9 v1) : P_X9_refuse v0 v1 (fun r T => Q r T ∧ NFq 9 9 c9 v0 T) S := nf_X9_refuse_0 h oc z_v1
set_option maxRecDepth 20000 in
set_option maxHeartbeats 1000000 in
theorem nf_X9_day_22 {Q : Int32 → HS → Prop} {v0 : Nat} {S : HS} (h : P_X9_day_22 Q v0 S) (oc : ob S v0 9) : P_X9_day_22 (fun r T => Q r T ∧ NFq 9 9 c9 v0 T) v0 S := by
  delta P_X9_day_22 at h ⊢
  obtain ⟨c1, h⟩ := h
  refine ⟨c1, ?_⟩
  refine cm_X9_refuse (nf_X9_refuse h oc (by decide)) h (fun x2 x3 p5 h g4 => ?_)
  have h := h g4
  have N := p5.2
  have oc := N.1
  exact ⟨h, N⟩
set_option maxRecDepth 20000 in
set_option maxHeartbeats 1000000 in
theorem nf_X9_day_52 {Q : Int32 → HS → Prop} {v0 : Nat} {S : HS} (h : P_X9_day_52 Q v0 S) (oc : ob S v0 9) : P_X9_day_52 (fun r T => Q r T ∧ NFq 9 9 c9 v0 T) v0 S := by
  delta P_X9_day_52 at h ⊢
  obtain ⟨c1, h⟩ := h
  refine ⟨c1, ?_⟩
  refine cm_X9_refuse (nf_X9_refuse h oc (by decide)) h (fun x2 x3 p5 h g4 => ?_)
  have h := h g4
  have N := p5.2
  have oc := N.1
  exact ⟨h, N⟩
set_option maxRecDepth 20000 in
set_option maxHeartbeats 1000000 in
theorem nf_X9_day_0 {Q : Int32 → HS → Prop} {v0 : Nat} {v1 : Int32} {v2 : Int32} {v3 : Int32} {v4 : Int32} {S : HS} (h : P_X9_day_0 Q v0 v1 v2 v3 v4 S) (oc : ob S v0 9) : P_X9_day_0 (fun r T => Q r T ∧ NFq 9 9 c9 v0 T) v0 v1 v2 v3 v4 S := by
  delta P_X9_day_0 at h ⊢
  obtain ⟨c1, h⟩ := h
  refine ⟨c1, ?_⟩
  obtain ⟨b2, e3, h⟩ := h
  refine ⟨b2, e3, ?_⟩
  obtain ⟨c4, h⟩ := h
  refine ⟨c4, ?_⟩
  have n5 := ob_nq oc c4 (by decide)
  refine cm_X8_hasWalker (kg_X8_hasWalker h) h (fun x6 x7 p10 h g8 g9 => ?_)
  have h := h g8 g9
  have oc := gr_ob p10.2.1 oc
  refine ⟨?_, ?_⟩
  · intro c11
    have h := h.1 c11
    exact nf_X9_day_22 h oc
  · intro c12
    have h := h.2 c12
    obtain ⟨b13, e14, h⟩ := h
    refine ⟨b13, e14, ?_⟩
    obtain ⟨c15, h⟩ := h
    refine ⟨c15, ?_⟩
    have n16 := ob_nq oc c15 (by decide)
    refine cm_X8_hasPlace (kg_X8_hasPlace h) h (fun x17 x18 p21 h g19 g20 => ?_)
    have h := h g19 g20
    have oc := gr_ob p21.2.1 oc
    refine ⟨?_, ?_⟩
    · intro c22
      have h := h.1 c22
      refine ⟨?_, ?_⟩
      · intro c23
        have h := h.1 c23
        exact nf_X9_day_52 h oc
      · intro c24
        have h := h.2 c24
        refine ⟨?_, ?_⟩
        · intro c25
          have h := h.1 c25
          exact nf_X9_day_52 h oc
        · intro c26
          have h := h.2 c26
          refine ⟨?_, ?_⟩
          · intro c27
            have h := h.1 c27
            exact nf_X9_day_52 h oc
          · intro c28
            have h := h.2 c28
            refine ⟨?_, ?_⟩
            · intro c29
              have h := h.1 c29
              obtain ⟨b30, e31, h⟩ := h
              refine ⟨b30, e31, ?_⟩
              obtain ⟨c32, h⟩ := h
              refine ⟨c32, ?_⟩
              have n33 := ob_nq oc c32 (by decide)
              refine cm_X0_begin (kg_X0_begin h) h (fun x34 p36 h g35 => ?_)
              have h := h g35
              have oc := gr_ob p36.2.1 oc
              obtain ⟨b37, e38, h⟩ := h
              refine ⟨b37, e38, ?_⟩
              obtain ⟨b39, e40, h⟩ := h
              refine ⟨b39, e40, ?_⟩
              obtain ⟨c41, h⟩ := h
              refine ⟨c41, ?_⟩
              have n42 := ob_nq oc c41 (by decide)
              refine cm_X0_draw (kg_X0_draw h) h (fun x43 p45 h g44 => ?_)
              have h := h g44
              have oc := gr_ob p45.2.1 oc
              obtain ⟨b46, e47, h⟩ := h
              refine ⟨b46, e47, ?_⟩
              obtain ⟨c48, h⟩ := h
              refine ⟨c48, ?_⟩
              have n49 := ob_nq oc c48 (by decide)
              intro x51 e50
              have h := h x51 e50
              refine cm_X9_grant (nf_X9_grant h oc) h (fun x52 x53 p55 h g54 => ?_)
              have h := h g54
              have N := p55.2
              have oc := N.1
              exact ⟨h, N⟩
            · intro c56
              have h := h.2 c56
              exact nf_X9_day_52 h oc
    · intro c57
      have h := h.2 c57
      exact nf_X9_day_22 h oc
theorem nf_X9_day {Q : Int32 → HS → Prop} {v0 : Nat} {v1 : Int32} {v2 : Int32} {v3 : Int32} {v4 : Int32} {S : HS} (h : P_X9_day v0 v1 v2 v3 v4 Q S) (oc : ob S v0 9) : P_X9_day v0 v1 v2 v3 v4 (fun r T => Q r T ∧ NFq 9 9 c9 v0 T) S := nf_X9_day_0 h oc
set_option maxRecDepth 20000 in
set_option maxHeartbeats 1000000 in
theorem nf_X9_driest_29 {Q : Int32 → HS → Prop} {v0 : Nat} {S : HS} (h : P_X9_driest_29 Q v0 S) (oc : ob S v0 9) : P_X9_driest_29 (fun r T => Q r T ∧ NFq 9 9 c9 v0 T) v0 S := by
  delta P_X9_driest_29 at h ⊢
  obtain ⟨c1, h⟩ := h
  refine ⟨c1, ?_⟩
  refine cm_X9_refuse (nf_X9_refuse h oc (by decide)) h (fun x2 x3 p5 h g4 => ?_)
  have h := h g4
  have N := p5.2
  have oc := N.1
  exact ⟨h, N⟩
set_option maxRecDepth 20000 in
set_option maxHeartbeats 1000000 in
theorem nf_X9_driest_140 {Q : Int32 → HS → Prop} {X63 X63_2 : Nat → Int32 → Int32 → Int32 → Int32 → Int64 → Int32 → HS → Prop} {v0 : Nat} {v1 : Int32} {v2 : Int32} {v3 : Int32} {v4 : Int32} {v5 : Int64} {v7 : Int32} {S : HS} (h : P_X9_driest_140 Q X63 v0 v1 v2 v3 v4 v5 v7 S) (oc : ob S v0 9) (hX63 : ∀ (u0 : Nat) (u1 : Int32) (u2 : Int32) (u3 : Int32) (u4 : Int32) (u5 : Int64) (u6 : Int32) (u7 : HS), X63 u0 u1 u2 u3 u4 u5 u6 u7 → u0 = v0 → ob u7 v0 9 → X63_2 u0 u1 u2 u3 u4 u5 u6 u7) : P_X9_driest_140 (fun r T => Q r T ∧ NFq 9 9 c9 v0 T) X63_2 v0 v1 v2 v3 v4 v5 v7 S := by
  delta P_X9_driest_140 at h ⊢
  intro x2 e1
  have h := h x2 e1
  exact hX63 _ _ _ _ _ _ _ _ h rfl oc
set_option maxRecDepth 20000 in
set_option maxHeartbeats 1000000 in
theorem nfB_X9_driest_63 {Q : Int32 → HS → Prop} {X63 X63_2 : Nat → Int32 → Int32 → Int32 → Int32 → Int64 → Int32 → HS → Prop} {v0 : Nat} {v1 : Int32} {v2 : Int32} {v3 : Int32} {v4 : Int32} {v5 : Int64} {v7 : Int32} {S : HS} (h : B_X9_driest_63 Q X63 v0 v1 v2 v3 v4 v5 v7 S) (oc : ob S v0 9) (hX63 : ∀ (u0 : Nat) (u1 : Int32) (u2 : Int32) (u3 : Int32) (u4 : Int32) (u5 : Int64) (u6 : Int32) (u7 : HS), X63 u0 u1 u2 u3 u4 u5 u6 u7 → u0 = v0 → ob u7 v0 9 → X63_2 u0 u1 u2 u3 u4 u5 u6 u7) : B_X9_driest_63 (fun r T => Q r T ∧ NFq 9 9 c9 v0 T) X63_2 v0 v1 v2 v3 v4 v5 v7 S := by
  delta B_X9_driest_63 at h ⊢
  obtain ⟨c1, h⟩ := h
  refine ⟨c1, ?_⟩
  obtain ⟨b2, e3, h⟩ := h
  refine ⟨b2, e3, ?_⟩
  obtain ⟨c4, h⟩ := h
  refine ⟨c4, ?_⟩
  have n5 := ob_nq oc c4 (by decide)
  intro x7 e6
  have h := h x7 e6
  refine ⟨?_, ?_⟩
  · intro c8
    have h := h.1 c8
    refine cm_X9_grant (nf_X9_grant h oc) h (fun x9 x10 p12 h g11 => ?_)
    have h := h g11
    have N := p12.2
    have oc := N.1
    exact ⟨h, N⟩
  · intro c13
    have h := h.2 c13
    obtain ⟨b14, e15, h⟩ := h
    refine ⟨b14, e15, ?_⟩
    obtain ⟨c16, h⟩ := h
    refine ⟨c16, ?_⟩
    have n17 := ob_nq oc c16 (by decide)
    obtain ⟨b18, e19, h⟩ := h
    refine ⟨b18, e19, ?_⟩
    obtain ⟨c20, h⟩ := h
    refine ⟨c20, ?_⟩
    have n21 := ob_nq oc c20 (by decide)
    obtain ⟨c22, h⟩ := h
    refine ⟨c22, ?_⟩
    obtain ⟨b23, e24, h⟩ := h
    refine ⟨b23, e24, ?_⟩
    obtain ⟨b25, e26, h⟩ := h
    refine ⟨b25, e26, ?_⟩
    obtain ⟨b27, e28, h⟩ := h
    refine ⟨b27, e28, ?_⟩
    obtain ⟨c29, h⟩ := h
    refine ⟨c29, ?_⟩
    have n30 := ob_nq oc c29 (by decide)
    obtain ⟨b31, e32, h⟩ := h
    refine ⟨b31, e32, ?_⟩
    obtain ⟨c33, h⟩ := h
    refine ⟨c33, ?_⟩
    have n34 := ob_nq oc c33 (by decide)
    obtain ⟨c35, h⟩ := h
    refine ⟨c35, ?_⟩
    obtain ⟨b36, e37, h⟩ := h
    refine ⟨b36, e37, ?_⟩
    obtain ⟨b38, e39, h⟩ := h
    refine ⟨b38, e39, ?_⟩
    obtain ⟨c40, h⟩ := h
    refine ⟨c40, ?_⟩
    have n41 := ob_nq oc c40 (by decide)
    obtain ⟨b42, e43, h⟩ := h
    refine ⟨b42, e43, ?_⟩
    obtain ⟨c44, h⟩ := h
    refine ⟨c44, ?_⟩
    have n45 := ob_nq oc c44 (by decide)
    obtain ⟨c46, h⟩ := h
    refine ⟨c46, ?_⟩
    obtain ⟨b47, e48, h⟩ := h
    refine ⟨b47, e48, ?_⟩
    obtain ⟨c49, h⟩ := h
    refine ⟨c49, ?_⟩
    have n50 := ob_nq oc c49 (by decide)
    refine cm_X1_leastWet (kg_X1_leastWet h) h (fun x51 x52 p54 h g53 => ?_)
    have h := h g53
    have oc := gr_ob p54.2.1 oc
    obtain ⟨c55, h⟩ := h
    refine ⟨c55, ?_⟩
    have n56 := ob_nq oc c55 (by decide)
    intro x58 e57
    have h := h x58 e57
    intro x60 e59
    have h := h x60 e59
    refine ⟨?_, ?_⟩
    · intro c61
      have h := h.1 c61
      exact nf_X9_driest_140 h oc hX63
    · intro c62
      have h := h.2 c62
      exact nf_X9_driest_140 h oc hX63
theorem nf_X9_driest_63 {Q : Int32 → HS → Prop} {v0 : Nat} {v1 : Int32} {v2 : Int32} {v3 : Int32} {v4 : Int32} {v5 : Int64} {v7 : Int32} {S : HS} (h : P_X9_driest_63 Q v0 v1 v2 v3 v4 v5 v7 S) (oc : ob S v0 9) : P_X9_driest_63 (fun r T => Q r T ∧ NFq 9 9 c9 v0 T) v0 v1 v2 v3 v4 v5 v7 S := h (fun w0 v1 v2 v3 v4 v5 v7 S => w0 = v0 → ob S v0 9 → P_X9_driest_63 (fun r T => Q r T ∧ NFq 9 9 c9 v0 T) w0 v1 v2 v3 v4 v5 v7 S) (fun w0 v1 v2 v3 v4 v5 v7 S hB e oc => by
  subst e; exact fd_X9_driest_63 (nfB_X9_driest_63 hB oc (fun _ _ _ _ _ _ _ _ hx e oc => hx e oc))) rfl oc
set_option maxRecDepth 20000 in
set_option maxHeartbeats 1000000 in
theorem nf_X9_driest_0 {Q : Int32 → HS → Prop} {v0 : Nat} {v1 : Int32} {v2 : Int32} {v3 : Int32} {S : HS} (h : P_X9_driest_0 Q v0 v1 v2 v3 S) (oc : ob S v0 9) : P_X9_driest_0 (fun r T => Q r T ∧ NFq 9 9 c9 v0 T) v0 v1 v2 v3 S := by
  delta P_X9_driest_0 at h ⊢
  obtain ⟨c1, h⟩ := h
  refine ⟨c1, ?_⟩
  obtain ⟨b2, e3, h⟩ := h
  refine ⟨b2, e3, ?_⟩
  obtain ⟨c4, h⟩ := h
  refine ⟨c4, ?_⟩
  have n5 := ob_nq oc c4 (by decide)
  refine cm_X8_hasWalker (kg_X8_hasWalker h) h (fun x6 x7 p10 h g8 g9 => ?_)
  have h := h g8 g9
  have oc := gr_ob p10.2.1 oc
  refine ⟨?_, ?_⟩
  · intro c11
    have h := h.1 c11
    exact nf_X9_driest_29 h oc
  · intro c12
    have h := h.2 c12
    obtain ⟨b13, e14, h⟩ := h
    refine ⟨b13, e14, ?_⟩
    obtain ⟨c15, h⟩ := h
    refine ⟨c15, ?_⟩
    have n16 := ob_nq oc c15 (by decide)
    refine cm_X8_hasRoad (kg_X8_hasRoad h) h (fun x17 x18 p21 h g19 g20 => ?_)
    have h := h g19 g20
    have oc := gr_ob p21.2.1 oc
    refine ⟨?_, ?_⟩
    · intro c22
      have h := h.1 c22
      exact nf_X9_driest_29 h oc
    · intro c23
      have h := h.2 c23
      refine cm_X9_isWay (kg_X9_isWay h) h (fun x24 x25 p28 h g26 g27 => ?_)
      have h := h g26 g27
      have oc := gr_ob p28.2.1 oc
      refine ⟨?_, ?_⟩
      · intro c29
        have h := h.1 c29
        obtain ⟨b30, e31, h⟩ := h
        refine ⟨b30, e31, ?_⟩
        obtain ⟨c32, h⟩ := h
        refine ⟨c32, ?_⟩
        have n33 := ob_nq oc c32 (by decide)
        intro x35 e34
        have h := h x35 e34
        refine ⟨?_, ?_⟩
        · intro c36
          have h := h.1 c36
          exact nf_X9_driest_63 h oc
        · intro c37
          have h := h.2 c37
          refine cm_X9_refuse (nf_X9_refuse h oc (by decide)) h (fun x38 x39 p41 h g40 => ?_)
          have h := h g40
          have N := p41.2
          have oc := N.1
          exact ⟨h, N⟩
      · intro c42
        have h := h.2 c42
        exact nf_X9_driest_29 h oc
theorem nf_X9_driest {Q : Int32 → HS → Prop} {v0 : Nat} {v1 : Int32} {v2 : Int32} {v3 : Int32} {S : HS} (h : P_X9_driest v0 v1 v2 v3 Q S) (oc : ob S v0 9) : P_X9_driest v0 v1 v2 v3 (fun r T => Q r T ∧ NFq 9 9 c9 v0 T) S := nf_X9_driest_0 h oc
set_option maxRecDepth 20000 in
set_option maxHeartbeats 1000000 in
theorem nf_X9_even_0 {Q : Int32 → HS → Prop} {v0 : Nat} {v1 : Int32} {v2 : Int32} {v3 : Int32} {v4 : Int32} {S : HS} (h : P_X9_even_0 Q v0 v1 v2 v3 v4 S) (oc : ob S v0 9) : P_X9_even_0 (fun r T => Q r T ∧ NFq 9 9 c9 v0 T) v0 v1 v2 v3 v4 S := by
  delta P_X9_even_0 at h ⊢
  obtain ⟨c1, h⟩ := h
  refine ⟨c1, ?_⟩
  refine cm_X9_tripTrouble (kr_X9_tripTrouble h) h (fun x2 x3 p5 h g4 => ?_)
  have h := h g4
  have oc := gr_ob p5.2.1.1 oc
  refine cm_X9_refusedBy (nf_X9_refusedBy h oc p5.2.2) h (fun x6 x7 p10 h g8 g9 => ?_)
  have h := h g8 g9
  have N := p10.2
  have oc := N.1
  refine ⟨?_, ?_⟩
  · intro c11
    have h := h.1 c11
    obtain ⟨b12, e13, h⟩ := h
    refine ⟨b12, e13, ?_⟩
    obtain ⟨c14, h⟩ := h
    refine ⟨c14, ?_⟩
    have n15 := ob_nq oc c14 (by decide)
    obtain ⟨b16, e17, h⟩ := h
    refine ⟨b16, e17, ?_⟩
    obtain ⟨c18, h⟩ := h
    refine ⟨c18, ?_⟩
    have n19 := ob_nq oc c18 (by decide)
    obtain ⟨c20, h⟩ := h
    refine ⟨c20, ?_⟩
    obtain ⟨b21, e22, h⟩ := h
    refine ⟨b21, e22, ?_⟩
    obtain ⟨b23, e24, h⟩ := h
    refine ⟨b23, e24, ?_⟩
    obtain ⟨b25, e26, h⟩ := h
    refine ⟨b25, e26, ?_⟩
    obtain ⟨c27, h⟩ := h
    refine ⟨c27, ?_⟩
    have n28 := ob_nq oc c27 (by decide)
    obtain ⟨b29, e30, h⟩ := h
    refine ⟨b29, e30, ?_⟩
    obtain ⟨c31, h⟩ := h
    refine ⟨c31, ?_⟩
    have n32 := ob_nq oc c31 (by decide)
    obtain ⟨c33, h⟩ := h
    refine ⟨c33, ?_⟩
    obtain ⟨b34, e35, h⟩ := h
    refine ⟨b34, e35, ?_⟩
    obtain ⟨b36, e37, h⟩ := h
    refine ⟨b36, e37, ?_⟩
    obtain ⟨c38, h⟩ := h
    refine ⟨c38, ?_⟩
    have n39 := ob_nq oc c38 (by decide)
    obtain ⟨b40, e41, h⟩ := h
    refine ⟨b40, e41, ?_⟩
    obtain ⟨c42, h⟩ := h
    refine ⟨c42, ?_⟩
    have n43 := ob_nq oc c42 (by decide)
    obtain ⟨c44, h⟩ := h
    refine ⟨c44, ?_⟩
    obtain ⟨b45, e46, h⟩ := h
    refine ⟨b45, e46, ?_⟩
    obtain ⟨c47, h⟩ := h
    refine ⟨c47, ?_⟩
    have n48 := ob_nq oc c47 (by decide)
    refine cm_X1_worstSpeed (kg_X1_worstSpeed h) h (fun x49 x50 p52 h g51 => ?_)
    have h := h g51
    have oc := gr_ob p52.2.1 oc
    have N := nf_K N p52.2 (by decide)
    obtain ⟨b53, e54, h⟩ := h
    refine ⟨b53, e54, ?_⟩
    obtain ⟨b55, e56, h⟩ := h
    refine ⟨b55, e56, ?_⟩
    obtain ⟨c57, h⟩ := h
    refine ⟨c57, ?_⟩
    have n58 := ob_nq oc c57 (by decide)
    obtain ⟨b59, e60, h⟩ := h
    refine ⟨b59, e60, ?_⟩
    obtain ⟨c61, h⟩ := h
    refine ⟨c61, ?_⟩
    have n62 := ob_nq oc c61 (by decide)
    obtain ⟨c63, h⟩ := h
    refine ⟨c63, ?_⟩
    obtain ⟨b64, e65, h⟩ := h
    refine ⟨b64, e65, ?_⟩
    obtain ⟨b66, e67, h⟩ := h
    refine ⟨b66, e67, ?_⟩
    obtain ⟨c68, h⟩ := h
    refine ⟨c68, ?_⟩
    have n69 := ob_nq oc c68 (by decide)
    obtain ⟨b70, e71, h⟩ := h
    refine ⟨b70, e71, ?_⟩
    obtain ⟨c72, h⟩ := h
    refine ⟨c72, ?_⟩
    have n73 := ob_nq oc c72 (by decide)
    obtain ⟨c74, h⟩ := h
    refine ⟨c74, ?_⟩
    obtain ⟨b75, e76, h⟩ := h
    refine ⟨b75, e76, ?_⟩
    obtain ⟨c77, h⟩ := h
    refine ⟨c77, ?_⟩
    have n78 := ob_nq oc c77 (by decide)
    refine cm_X1_leastWet (kg_X1_leastWet h) h (fun x79 x80 p82 h g81 => ?_)
    have h := h g81
    have oc := gr_ob p82.2.1 oc
    have N := nf_K N p82.2 (by decide)
    obtain ⟨b83, e84, h⟩ := h
    refine ⟨b83, e84, ?_⟩
    obtain ⟨b85, e86, h⟩ := h
    refine ⟨b85, e86, ?_⟩
    obtain ⟨c87, h⟩ := h
    refine ⟨c87, ?_⟩
    have n88 := ob_nq oc c87 (by decide)
    obtain ⟨b89, e90, h⟩ := h
    refine ⟨b89, e90, ?_⟩
    obtain ⟨c91, h⟩ := h
    refine ⟨c91, ?_⟩
    have n92 := ob_nq oc c91 (by decide)
    obtain ⟨c93, h⟩ := h
    refine ⟨c93, ?_⟩
    obtain ⟨b94, e95, h⟩ := h
    refine ⟨b94, e95, ?_⟩
    obtain ⟨b96, e97, h⟩ := h
    refine ⟨b96, e97, ?_⟩
    obtain ⟨c98, h⟩ := h
    refine ⟨c98, ?_⟩
    have n99 := ob_nq oc c98 (by decide)
    obtain ⟨b100, e101, h⟩ := h
    refine ⟨b100, e101, ?_⟩
    obtain ⟨c102, h⟩ := h
    refine ⟨c102, ?_⟩
    have n103 := ob_nq oc c102 (by decide)
    obtain ⟨c104, h⟩ := h
    refine ⟨c104, ?_⟩
    obtain ⟨b105, e106, h⟩ := h
    refine ⟨b105, e106, ?_⟩
    obtain ⟨c107, h⟩ := h
    refine ⟨c107, ?_⟩
    have n108 := ob_nq oc c107 (by decide)
    refine cm_X1_wetOf (kg_X1_wetOf h) h (fun x109 x110 p112 h g111 => ?_)
    have h := h g111
    have oc := gr_ob p112.2.1 oc
    have N := nf_K N p112.2 (by decide)
    refine ⟨?_, ?_⟩
    · intro c113
      have h := h.1 c113
      exact ⟨h, N⟩
    · intro c114
      have h := h.2 c114
      exact ⟨h, N⟩
  · intro c115
    have h := h.2 c115
    exact ⟨h, N⟩
theorem nf_X9_even {Q : Int32 → HS → Prop} {v0 : Nat} {v1 : Int32} {v2 : Int32} {v3 : Int32} {v4 : Int32} {S : HS} (h : P_X9_even v0 v1 v2 v3 v4 Q S) (oc : ob S v0 9) : P_X9_even v0 v1 v2 v3 v4 (fun r T => Q r T ∧ NFq 9 9 c9 v0 T) S := nf_X9_even_0 h oc
