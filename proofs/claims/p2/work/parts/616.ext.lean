def rowsF : List (Nat × Nat × Nat) := [(8, 13, 224), (7, 14, 224), (6, 13, 224), (5, 13, 224), (4, 13, 224), (2, 13, 3208), (1, 14, 3208), (0, 13, 401)]
def wldF : List (Nat × Nat × Nat) := [(30, 13, 12), (29, 13, 12), (28, 14, 12), (27, 13, 20), (26, 13, 4), (25, 13, 4), (24, 13, 4), (23, 13, 4), (22, 13, 4), (21, 13, 4), (20, 13, 4), (19, 13, 4), (18, 15, 8), (17, 13, 12), (16, 13, 12), (15, 13, 12), (14, 13, 12), (13, 13, 12), (12, 13, 8), (11, 13, 6), (10, 13, 6), (9, 13, 6), (8, 13, 6), (7, 13, 6)]
def refF : List (Nat × Nat × Nat) := [(23, 14, 21), (22, 14, 112), (21, 14, 7), (18, 13, 3208), (17, 13, 3208), (16, 14, 3208), (5, 12, 900)]
theorem bx_get {S0 S : HS} {v : Nat} {F : List (Nat × Nat × Nat)} {f : Nat → Int32} (h : BX S0 S v F f) {e : Nat × Nat × Nat} (he : e ∈ F) {b : Nat} (hb : fR S v e.1 = some b) : ob S b e.2.1 ∧ hN S b = e.2.2 ∧ b ∉ hL S0 ∧ ∀ z, fJ S b z = 0 := by
  obtain ⟨c, c1, c2, c3, c4, c5⟩ := h.2.2.2.1 e he
  obtain rfl : c = b := Option.some.inj (c1.symm.trans hb)
  exact ⟨c3, c4, c2, c5⟩
theorem bx_sh {S0 S : HS} {v k : Nat} {F : List (Nat × Nat × Nat)} {f : Nat → Int32} (h : BX S0 S v F f) (hF : ∀ e ∈ shT, e.1 = k → ∃ g ∈ F, g.1 = e.2.1 ∧ g.2.1 = e.2.2.1 ∧ (e.2.2.2 = 0 ∨ g.2.2 = e.2.2.2)) : ∀ e ∈ shT, e.1 = k → ∃ b, fR S v e.2.1 = some b ∧ ob S b e.2.2.1 ∧ (e.2.2.2 = 0 ∨ hN S b = e.2.2.2) := by
  intro e he hk
  obtain ⟨g, hg, g1, g2, g3⟩ := hF e he hk
  obtain ⟨c, c1, c2, c3, c4, c5⟩ := h.2.2.2.1 g hg
  refine ⟨c, by rw [← g1]; exact c1, by rw [← g2]; exact c3, ?_⟩
  rcases g3 with g3 | g3
  · exact Or.inl g3
  · exact Or.inr (c4.trans g3)
theorem bx_iv7 {S T : HS} {v : Nat} (hI : IV S) (o : ob S v 7) (h : BX S T v rowsF (fI S v)) : IV T ∧ WM T v ∧ Gr S T ∧ FRI [] [(7, 0), (7, 1), (7, 2), (7, 4), (7, 5), (7, 6), (7, 7), (7, 8)] S T := by
  have hh := h
  obtain ⟨h1, h2, h3, h4, h5, h6, h7, h8, h9⟩ := h
  have hv7 : hK T v = 7 := (h1 v o.1).2.1.trans o.2
  have wm : WM T v := fun e he b hb => by
    have hm : ∀ e ∈ wyT, ∃ f ∈ rowsF, f.1 = e.1 ∧ f.2.2 = e.2 := by decide
    obtain ⟨f, hf, f1, f2⟩ := hm e he
    rw [← f2]; exact (bx_get hh hf (by rw [f1]; exact hb)).2.1
  refine ⟨iv_ext (v := v) hI (fun a ha hn _ => ⟨(h1 a ha).1, (h1 a ha).2.1, (h1 a ha).2.2, (h2 a ha hn).1, (h2 a ha hn).2.1, (h2 a ha hn).2.2⟩) (fun a ha => (h1 a ha).1) (fun a ha => ?_) (Or.inr ⟨(h1 v o.1).1, by rw [hv7]; omega, fun _ => Or.inr ⟨o.2.trans hv7.symm, by rw [o.2]; omega⟩, ?_, fun _ => Or.inr wm, ?_, fun j b hb => ?_, fun j b hp => ?_, fun z => ?_⟩), wm, h1, ?_⟩
  · rcases h3 a ha with g | g
    · by_cases c : a = v
      · exact Or.inr (Or.inl c)
      · by_cases c2 : hK S a = 99
        · exact Or.inr (Or.inr (Or.inr ((h1 a g).2.1.trans c2)))
        · exact Or.inl ⟨g, c, c2⟩
    · exact Or.inr (Or.inr (Or.inl g))
  · rw [hv7]
    exact bx_sh hh (by decide)
  · intro e he hk
    rw [h7]
    exact hI.2.2.2.1 e he v (by rw [hk, hv7]; exact o)
  · rcases h5 j b hb with ⟨g1, g2, -⟩ | g
    · refine ⟨g2, fun x k j' ox hp hx e => ?_⟩
      exact g1 (hI.2.2.2.2.2.1 x k j' b ox (pr_ge _ hp).2 e)
    · refine ⟨(h1 b (h8 j b g)).1, fun x k j' ox hp hx e => ?_⟩
      exact hx (hI.2.2.2.2.1 v 7 j x k j' b o (by omega) ox hp g e).1.symm
  · rw [hv7] at hp
    exact absurd hp (np10 (by omega))
  · rw [hv7] at z; omega
  · refine ⟨fun k j hk hj a oa => ?_, fun k j hk hj a oa => ?_⟩
    · by_cases c : a = v
      · rw [c, h7]
      · rw [(h2 a oa.1 c).1]
    · by_cases c : a = v
      · subst c
        have hk7 := ob_inj oa o
        subst hk7
        refine h9 j (fun f hf hfj => ?_)
        have : ∀ f ∈ rowsF, (7, f.1) ∈ [(7, 0), (7, 1), (7, 2), (7, 4), (7, 5), (7, 6), (7, 7), (7, 8)] := by decide
        exact hj (hfj ▸ this f hf)
      · rw [(h2 a oa.1 c).2.2]

theorem zero_new {S : HS} {v k : Nat} : (∀ j, fR (nW S v k 0) v j = none) ∧ (fI (nW S v k 0) v = fun _ => 0) := ⟨fun j => by
  show va_up (fR S) v (fun _ => none) v j = none
  rw [va_up_self], va_up_self _ _ _⟩
/-- an object of the reference is made: what it was before, and its arrays -/
theorem bx_iv {S T : HS} {v k : Nat} {F : List (Nat × Nat × Nat)} {f : Nat → Int32} (hI : IV S) (hv : v ∉ hL S) (hk : k < 12) (h7n : k ≠ 7) (h : BX (nW S v k 0) T v F f) (hF : ∀ e ∈ shT, e.1 = k → ∃ g ∈ F, g.1 = e.2.1 ∧ g.2.1 = e.2.2.1 ∧ (e.2.2.2 = 0 ∨ g.2.2 = e.2.2.2)) (hf : ∀ e ∈ nuT, e.1 = k → e.2.2.1 ≤ f e.2.1 ∧ f e.2.1 ≤ e.2.2.2) (hm : k = 11 → ML T v) : IV T ∧ Gr S T ∧ FRI [] [] S T ∧ ob T v k ∧ (∀ a, a ∈ hL S → fR T a = fR S a) ∧ (∀ a k', ob T a k' → k' < 12 → a = v ∨ a ∈ hL S) := by
  have hh := h
  obtain ⟨h1, h2, h3, h4, h5, h6, h7, h8, h9⟩ := h
  have hvb : v ∈ hL (nW S v k 0) := List.mem_append_right _ (List.mem_singleton.mpr rfl)
  have hin : ∀ a, a ∈ hL S → a ∈ hL (nW S v k 0) := fun a ha => List.mem_append_left _ ha
  have hne : ∀ a, a ∈ hL S → a ≠ v := fun a ha z => hv (z ▸ ha)
  have hvk : hK T v = k := (h1 v hvb).2.1.trans (va_up_self _ _ _)
  have sd : ∀ a, a ∈ hL S → SD S T a := fun a ha => by
    have n := hne a ha
    have g := h1 a (hin a ha)
    have g2 := h2 a (hin a ha) n
    exact ⟨g.1, g.2.1.trans (va_up_ne _ _ n), g.2.2.trans (va_up_ne _ _ n), g2.1.trans (va_up_ne _ _ n), g2.2.1.trans (va_up_ne _ _ n), g2.2.2.trans (va_up_ne _ _ n)⟩
  have hc : ∀ a, a ∈ hL T → a ∈ hL S ∨ a = v ∨ (12 ≤ hK T a ∧ hK T a < 16) := fun a ha => by
    rcases h3 a ha with g | g
    · rcases List.mem_append.mp g with g | g
      · exact Or.inl g
      · exact Or.inr (Or.inl (List.mem_singleton.mp g))
    · exact Or.inr (Or.inr g)
  have z := (zero_new (S := S) (v := v) (k := k)).1
  refine ⟨iv_ext (v := v) hI (fun a ha _ _ => sd a ha) (fun a ha => (sd a ha).1) (fun a ha => ?_) (Or.inr ⟨(h1 v hvb).1, by rw [hvk]; exact hk, fun t => absurd t hv, ?_, fun t => absurd (hvk.symm.trans t) h7n, ?_, fun j b hb => ?_, fun j b hp hb => ?_, fun t => hm (hvk.symm.trans t)⟩), fun a ha => ⟨(sd a ha).1, (sd a ha).2.1, (sd a ha).2.2.1⟩, ⟨fun _ j _ _ a oa => by rw [(sd a oa.1).2.2.2.1], fun _ j _ _ a oa => by rw [(sd a oa.1).2.2.2.2.2]⟩, ⟨(h1 v hvb).1, hvk⟩, fun a ha => (sd a ha).2.2.2.2.2, fun a k' oa hk' => ?_⟩
  · rcases hc a ha with g | g | g
    · by_cases c2 : hK S a = 99
      · exact Or.inr (Or.inr (Or.inr ((sd a g).2.1.trans c2)))
      · exact Or.inl ⟨g, hne a g, c2⟩
    · exact Or.inr (Or.inl g)
    · exact Or.inr (Or.inr (Or.inl g))
  · rw [hvk]
    exact bx_sh hh hF
  · intro e he hk2
    rw [h7]
    exact hf e he (hk2.trans hvk)
  · rcases h5 j b hb with ⟨g1, g2, -⟩ | g
    · refine ⟨g2, fun x q j' ox hp hx e => ?_⟩
      exact g1 (hin b (hI.2.2.2.2.2.1 x q j' b ox (pr_ge _ hp).2 e))
    · rw [z j] at g
      exact absurd g (by simp)
  · rcases h5 j b hb with ⟨g1, g2, -⟩ | g
    · exact ⟨fun t => g1 (hin b t), fun j' hb' => h6 j' j b g1 hb' hb⟩
    · rw [z j] at g
      exact absurd g (by simp)
  · rcases hc a oa.1 with g | g | g
    · exact Or.inr g
    · exact Or.inl g
    · have := oa.2; omega
set_option maxRecDepth 20000 in
theorem m_X7_makeRowsN {v0 : Nat} {Q : HS → Prop} {S : HS} (hI : IV S) (o_v0 : ob S v0 7) (hq : ∀ (T : HS), IV T → Gr S T → FRI [] [(7, 0), (7, 1), (7, 2), (7, 4), (7, 5), (7, 6), (7, 7), (7, 8)] S T → (WM T v0) → Q T) : P_X7_makeRows v0 Q S := by
  show P_X7_makeRows_0 Q v0 S
  unfold P_X7_makeRows_0
  have b0 := bx_rf (S0 := S) (v := v0) (fun j b e => hI.2.2.2.2.2.1 v0 7 j b o_v0 (by omega) e)
  intro a0 q0 T0 e0
  refine ⟨gr_ob (gr_of_new e0 q0) o_v0, ?_⟩
  intro U0 g0
  have b1 := bx_arr b0 o_v0.1 q0 e0 g0 (by decide) (by decide)
  intro a1 q1 T1 e1
  intro U1 g1
  have b2 := bx_arr b1 o_v0.1 q1 e1 g1 (by decide) (by decide)
  intro a2 q2 T2 e2
  intro U2 g2
  have b3 := bx_arr b2 o_v0.1 q2 e2 g2 (by decide) (by decide)
  intro a3 q3 T3 e3
  intro U3 g3
  have b4 := bx_arr b3 o_v0.1 q3 e3 g3 (by decide) (by decide)
  intro a4 q4 T4 e4
  intro U4 g4
  have b5 := bx_arr b4 o_v0.1 q4 e4 g4 (by decide) (by decide)
  intro a5 q5 T5 e5
  intro U5 g5
  have b6 := bx_arr b5 o_v0.1 q5 e5 g5 (by decide) (by decide)
  intro a6 q6 T6 e6
  intro U6 g6
  have b7 := bx_arr b6 o_v0.1 q6 e6 g6 (by decide) (by decide)
  intro a7 q7 T7 e7
  intro U7 g7
  have b8 := bx_arr b7 o_v0.1 q7 e7 g7 (by decide) (by decide)
  obtain ⟨r1, r2, r3, r4⟩ := bx_iv7 hI o_v0 b8
  exact hq _ r1 r3 r4 r2
set_option maxRecDepth 20000 in
theorem m_X10_init {v0 : Nat} {Q : HS → Prop} {S0 S : HS} (hI : IV S0) (hf : v0 ∉ hL S0) (E : S = nW S0 v0 10 0) (hq : ∀ T, IV T → Gr S0 T → Gr S T → FRI [] [] S0 T → ob T v0 10 → (∀ j, fI T v0 j = 0) → WG T v0 → NW T v0 → Q T) : P_X10_init v0 Q S := by
  subst E
  show P_X10_init_0 Q v0 _
  unfold P_X10_init_0
  have hv : v0 ∈ hL (nW S0 v0 10 0) := List.mem_append_right _ (List.mem_singleton.mpr rfl)
  have b0 := bx_rf (S0 := nW S0 v0 10 0) (v := v0) (fun j b e => by rw [zero_new.1 j] at e; exact absurd e (by simp))
  have o_v0 : ob (nW S0 v0 10 0) v0 10 := ob_of_new rfl
  intro a0 q0 T0 e0
  refine ⟨gr_ob (gr_of_new e0 q0) o_v0, ?_⟩
  intro U0 g0
  have b1 := bx_arr b0 hv q0 e0 g0 (by decide) (by decide)
  intro a1 q1 T1 e1
  intro U1 g1
  have b2 := bx_arr b1 hv q1 e1 g1 (by decide) (by decide)
  intro a2 q2 T2 e2
  intro U2 g2
  have b3 := bx_arr b2 hv q2 e2 g2 (by decide) (by decide)
  intro a3 q3 T3 e3
  intro U3 g3
  have b4 := bx_arr b3 hv q3 e3 g3 (by decide) (by decide)
  intro a4 q4 T4 e4
  intro U4 g4
  have b5 := bx_arr b4 hv q4 e4 g4 (by decide) (by decide)
  intro a5 q5 T5 e5
  intro U5 g5
  have b6 := bx_arr b5 hv q5 e5 g5 (by decide) (by decide)
  intro a6 q6 T6 e6
  intro U6 g6
  have b7 := bx_arr b6 hv q6 e6 g6 (by decide) (by decide)
  intro a7 q7 T7 e7
  intro U7 g7
  have b8 := bx_arr b7 hv q7 e7 g7 (by decide) (by decide)
  intro a8 q8 T8 e8
  intro U8 g8
  have b9 := bx_arr b8 hv q8 e8 g8 (by decide) (by decide)
  intro a9 q9 T9 e9
  intro U9 g9
  have b10 := bx_arr b9 hv q9 e9 g9 (by decide) (by decide)
  intro a10 q10 T10 e10
  intro U10 g10
  have b11 := bx_arr b10 hv q10 e10 g10 (by decide) (by decide)
  intro a11 q11 T11 e11
  intro U11 g11
  have b12 := bx_arr b11 hv q11 e11 g11 (by decide) (by decide)
  intro a12 q12 T12 e12
  intro U12 g12
  have b13 := bx_arr b12 hv q12 e12 g12 (by decide) (by decide)
  intro a13 q13 T13 e13
  intro U13 g13
  have b14 := bx_arr b13 hv q13 e13 g13 (by decide) (by decide)
  intro a14 q14 T14 e14
  intro U14 g14
  have b15 := bx_arr b14 hv q14 e14 g14 (by decide) (by decide)
  intro a15 q15 T15 e15
  intro U15 g15
  have b16 := bx_arr b15 hv q15 e15 g15 (by decide) (by decide)
  intro a16 q16 T16 e16
  intro U16 g16
  have b17 := bx_arr b16 hv q16 e16 g16 (by decide) (by decide)
  intro a17 q17 T17 e17
  intro U17 g17
  have b18 := bx_arr b17 hv q17 e17 g17 (by decide) (by decide)
  intro a18 q18 T18 e18
  intro U18 g18
  have b19 := bx_arr b18 hv q18 e18 g18 (by decide) (by decide)
  intro a19 q19 T19 e19
  intro U19 g19
  have b20 := bx_arr b19 hv q19 e19 g19 (by decide) (by decide)
  intro a20 q20 T20 e20
  intro U20 g20
  have b21 := bx_arr b20 hv q20 e20 g20 (by decide) (by decide)
  intro a21 q21 T21 e21
  intro U21 g21
  have b22 := bx_arr b21 hv q21 e21 g21 (by decide) (by decide)
  intro a22 q22 T22 e22
  intro U22 g22
  have b23 := bx_arr b22 hv q22 e22 g22 (by decide) (by decide)
  intro a23 q23 T23 e23
  intro U23 g23
  have b24 := bx_arr b23 hv q23 e23 g23 (by decide) (by decide)
  have e0 : fI (nW S0 v0 10 0) v0 = fun _ => 0 := zero_new.2
  rw [e0] at b24
  obtain ⟨r1, r2, r3, r4, r5, r6⟩ := bx_iv hI hf (by omega) (by omega) b24 (F := wldF) (by decide) (by decide) (fun z => absurd z (by omega))
  have z0 : ∀ j, fI U23 v0 j = 0 := fun j => by rw [b24.2.2.2.2.2.2.1]
  refine hq _ r1 r2 b24.1 r3 r4 z0 ⟨fun e he x h0 hx b hb => ?_, fun x h0 hx b c hb hc => ?_⟩ (fun y oy e => ?_)
  · rw [z0] at hx
    exact absurd (Int32.lt_iff_toInt_lt.mp hx) (by have := Int32.le_iff_toInt_le.mp h0; omega)
  · rw [z0, z0] at hx
    have hz : (0 : Int32) + 0 = 0 := by decide
    rw [hz] at hx
    exact absurd (Int32.lt_iff_toInt_lt.mp hx) (by have := Int32.le_iff_toInt_le.mp h0; omega)
  · rcases r6 y 11 oy (by omega) with g | g
    · have := ob_inj (g ▸ oy) r4; omega
    · rw [r5 y g] at e
      have oy' : ob S0 y 11 := ⟨g, by rw [← (r2 y g).2.1]; exact oy.2⟩
      exact hf ((ml_ob hI oy' e).1)
set_option maxRecDepth 20000 in
theorem m_X11_init {v0 : Nat} {Q : HS → Prop} {S0 S : HS} (hI : IV S0) (hf : v0 ∉ hL S0) (E : S = nW S0 v0 11 0) (hq : ∀ T, IV T → Gr S0 T → Gr S T → FRI [] [] S0 T → ob T v0 11 → fI T v0 6 = 0 → Q T) : P_X11_init v0 Q S := by
  subst E
  show P_X11_init_0 Q v0 _
  unfold P_X11_init_0
  have hv : v0 ∈ hL (nW S0 v0 11 0) := List.mem_append_right _ (List.mem_singleton.mpr rfl)
  have b00 := bx_rf (S0 := nW S0 v0 11 0) (v := v0) (fun j b e => by rw [zero_new.1 j] at e; exact absurd e (by simp))
  have o_v0 : ob (nW S0 v0 11 0) v0 11 := ob_of_new rfl
  refine ⟨o_v0, ?_⟩
  intro Ua ga
  have b0 := bx_I b00 hv ga
  intro a0 q0 T0 e0
  intro U0 g0
  have b1 := bx_arr b0 hv q0 e0 g0 (by decide) (by decide)
  intro a1 q1 T1 e1
  intro U1 g1
  have b2 := bx_arr b1 hv q1 e1 g1 (by decide) (by decide)
  intro a2 q2 T2 e2
  intro U2 g2
  have b3 := bx_arr b2 hv q2 e2 g2 (by decide) (by decide)
  intro a3 q3 T3 e3
  intro U3 g3
  have b4 := bx_arr b3 hv q3 e3 g3 (by decide) (by decide)
  intro Ub gb
  have b4 := bx_I b4 hv gb
  intro a4 q4 T4 e4
  intro U4 g4
  have b5 := bx_arr b4 hv q4 e4 g4 (by decide) (by decide)
  intro a5 q5 T5 e5
  intro U5 g5
  have b6 := bx_arr b5 hv q5 e5 g5 (by decide) (by decide)
  intro a6 q6 T6 e6
  intro U6 g6
  have b7 := bx_arr b6 hv q6 e6 g6 (by decide) (by decide)
  have e0 : fI (nW S0 v0 11 0) v0 = fun _ => 0 := zero_new.2
  rw [e0] at b7
  have n3 : ∀ j, (∀ e ∈ refF, e.1 ≠ j) → fR U6 v0 j = none := fun j hj => (b7.2.2.2.2.2.2.2.2 j hj).trans (zero_new.1 j)
  have ml : ML U6 v0 := by
    refine ⟨fun w e => ?_, fun w e => ?_, Or.inl ?_, fun j hj b e z => ?_⟩
    · rw [n3 3 (by decide)] at e; exact absurd e (by simp)
    · rw [n3 4 (by decide)] at e; exact absurd e (by simp)
    · rw [b7.2.2.2.2.2.2.1]; decide
    · have hm : ∃ g ∈ refF, g.1 = j := by rcases hj with rfl | rfl | rfl <;> decide
      obtain ⟨g, hg, rfl⟩ := hm
      rw [(bx_get b7 hg e).2.2.2 z]
      exact ⟨fun _ => by decide, fun _ => by decide⟩
  obtain ⟨r1, r2, r3, r4, r5, r6⟩ := bx_iv hI hf (by omega) (by omega) b7 (F := refF) (by decide) (by decide) (fun _ => ml)
  exact hq _ r1 r2 b7.1 r3 r4 (by rw [b7.2.2.2.2.2.2.1]; decide)
