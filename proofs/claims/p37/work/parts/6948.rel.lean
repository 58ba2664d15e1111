section Rel4
variable {S S0 T : HS} {c m v0 : Nat} {QU : HS → Prop}
theorem sp_X11_init (h : P_X11_init v0 QU S) (E : S = nW S0 v0 11 0) : P_X11_init v0 (fun T => QU T ∧ ∃ F g, BX S T v0 F g ∧ (5, 12, 900) ∈ F ∧ g 6 = 0 ∧ g 13 = 0 ∧ g 2 = -1 ∧ g 1 = 0) S := by
  have hv : v0 ∈ hL S := by rw [E]; exact List.mem_append_right _ (List.mem_singleton.mpr rfl)
  have hz : fI S v0 = fun _ => 0 := by rw [E]; exact zero_new.2
  have b0 := bx_rf (S0 := S) (v := v0) (fun j b e => by rw [E, zero_new.1 j] at e; exact absurd e (by simp))
  rw [hz] at b0
  delta P_X11_init P_X11_init_0
  obtain ⟨oq1, h⟩ := h
  refine ⟨oq1, ?_⟩
  intro Sq2 eSq2
  have h := h Sq2 eSq2
  have b1 := bx_I b0 hv eSq2
  intro aq3 eaq3
  have h := h aq3 eaq3
  intro Sq4 eSq4
  have h := h Sq4 eSq4
  intro Sq5 eSq5
  have h := h Sq5 eSq5
  have b2 := bx_arr b1 hv eaq3 eSq4 eSq5 (by decide) (by decide)
  intro aq6 eaq6
  have h := h aq6 eaq6
  intro Sq7 eSq7
  have h := h Sq7 eSq7
  intro Sq8 eSq8
  have h := h Sq8 eSq8
  have b3 := bx_arr b2 hv eaq6 eSq7 eSq8 (by decide) (by decide)
  intro aq9 eaq9
  have h := h aq9 eaq9
  intro Sq10 eSq10
  have h := h Sq10 eSq10
  intro Sq11 eSq11
  have h := h Sq11 eSq11
  have b4 := bx_arr b3 hv eaq9 eSq10 eSq11 (by decide) (by decide)
  intro aq12 eaq12
  have h := h aq12 eaq12
  intro Sq13 eSq13
  have h := h Sq13 eSq13
  intro Sq14 eSq14
  have h := h Sq14 eSq14
  have b5 := bx_arr b4 hv eaq12 eSq13 eSq14 (by decide) (by decide)
  intro Sq15 eSq15
  have h := h Sq15 eSq15
  have b6 := bx_I b5 hv eSq15
  intro aq16 eaq16
  have h := h aq16 eaq16
  intro Sq17 eSq17
  have h := h Sq17 eSq17
  intro Sq18 eSq18
  have h := h Sq18 eSq18
  have b7 := bx_arr b6 hv eaq16 eSq17 eSq18 (by decide) (by decide)
  intro aq19 eaq19
  have h := h aq19 eaq19
  intro Sq20 eSq20
  have h := h Sq20 eSq20
  intro Sq21 eSq21
  have h := h Sq21 eSq21
  have b8 := bx_arr b7 hv eaq19 eSq20 eSq21 (by decide) (by decide)
  intro aq22 eaq22
  have h := h aq22 eaq22
  intro Sq23 eSq23
  have h := h Sq23 eSq23
  intro Sq24 eSq24
  have h := h Sq24 eSq24
  have b9 := bx_arr b8 hv eaq22 eSq23 eSq24 (by decide) (by decide)
  exact ⟨h, _, _, b9, by simp, by decide, by decide, by decide, by decide⟩
/-- at the start both tapes are empty -/
theorem tt_start {F : List (Nat × Nat × Nat)} {g : Nat → Int32} (hI : IV T) (hf : m ∉ hL S0) (oc : ob S0 c 9) (h0 : IV S0) (hc1 : fI S0 c 1 = 0) (bx : BX (nW S0 m 11 0) T m F g) (h5 : (5, 12, 900) ∈ F) (h6 : g 6 = 0) : TT c m T := by
  obtain ⟨b1, b2, b3, b4, b5, b6, b7, b8, b9⟩ := bx
  obtain ⟨a, a1, a2, a3⟩ := h0.1 (9, 0, 12, 900) (by decide) c oc
  obtain ⟨b, e1, e2, e3, e4, -⟩ := b4 _ h5
  have om : ob (nW S0 m 11 0) m 11 := ob_of_new rfl
  have oc1 : ob (nW S0 m 11 0) c 9 := gr_ob (gr_of_new rfl hf) oc
  have oa1 : ob (nW S0 m 11 0) a 12 := gr_ob (gr_of_new rfl hf) a2
  have ncm : c ≠ m := ob_ne oc1 om (by decide)
  have a3 : hN S0 a = 900 := a3.resolve_left (by decide)
  have nam : a ≠ m := ob_ne oa1 om (by decide)
  have q1 : fI T c = fI S0 c := (b2 c oc1.1 ncm).1.trans (va_up_ne _ _ ncm)
  have q2 : fR T c = fR S0 c := (b2 c oc1.1 ncm).2.2.trans (va_up_ne _ _ ncm)
  have oT : ob T m 11 := gr_ob b1 om
  refine ⟨fun _ => 0, 0, a, b, by omega, ⟨by rw [q2]; exact a1, by rw [q1]; exact hc1, ?_, gr_ob b1 oa1, ob_ne oa1 oc1 (by decide), fun j hj => absurd hj (by omega)⟩, ⟨e1, by rw [b7]; exact h6, e4, e3, ob_ne e3 oT (by decide), fun j hj => absurd hj (by omega)⟩, fun z => e2 (z ▸ oa1.1), fun j hj => absurd hj (by omega)⟩
  rw [(b1 a oa1.1).2.2]
  exact (va_up_ne _ _ nam).trans a3
end Rel4
