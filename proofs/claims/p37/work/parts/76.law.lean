theorem uz_1 {S : HS} {a : Nat} (E : S = nW S00 a 9 0) : UZ S := by
  have r : ∀ x j, fR S x j = none := fun x j => by
    rw [E]
    by_cases h : x = a
    · rw [h]
      exact congrFun (va_up_self (fR S00) a (fun _ => none)) j
    · exact congrFun (va_up_ne (fR S00) _ h) j
  refine ⟨⟨fun x j b e => ?_, fun x j x' j' b e => ?_⟩, fun x o => ?_⟩
  · rw [r] at e; cases e
  · rw [r] at e; cases e
  · exfalso
    rw [E] at o
    obtain ⟨o1, o2⟩ := o
    have o1 : x ∈ ([] : List Nat) ++ [a] := o1
    have o1 : x = a := by simpa using o1
    have o2 : va_up (hK S00) a 9 x = 8 := o2
    rw [o1, va_up_self] at o2
    exact absurd o2 (by decide)
theorem iv_arr {S T : HS} {a q n : Nat} (hI : IV S) (ha : a ∉ hL S) (E1 : T = nW S a q n) (hq : 12 ≤ q ∧ q < 16) : IV T := by
  have h := x_arr (E := []) (by rw [ms_nil]; exact hI) ha (by simp) E1 hq
  rw [ms_nil] at h
  exact h
theorem sc_cmp {L c : Nat} {v4 : Int32} (hL : L ≤ 4096) (hv : v4 = nI (8 * c)) (hcc : c ≤ 513) (h : ¬ (nI L - (8 : Int32)) < v4) : 8 * c + 8 ≤ L := by
  have e8 : (8 : Int32).toInt = 8 := by decide
  have eL : (nI L).toInt = (L : Int) := nI_toInt (by omega)
  have ec : (nI (8 * c)).toInt = ((8 * c : Nat) : Int) := nI_toInt (by omega)
  have es : (nI L - (8 : Int32)).toInt = (L : Int) - 8 := by
    rw [Int32.toInt_sub, eL, e8]
    exact Int.bmod_eq_of_le (by omega) (by omega)
  have h1 := Int32.le_iff_toInt_le.mp (Int32.not_lt.mp h)
  rw [hv, ec, es] at h1
  omega
theorem sc_next {v4 x : Int32} {c : Nat} (hv : v4 = nI (8 * c)) (hx : x = v4 + (8 : Int32)) : x = nI (8 * (c + 1)) := by
  have h8 : (8 : Int32) = nI 8 := by decide
  have e : 8 * c + 8 = 8 * (c + 1) := by omega
  rw [hx, hv, h8, nI_add, e]
set_option maxRecDepth 20000 in
set_option maxHeartbeats 4000000 in
theorem lp_L_law {scL : Nat} {scx : Nat → Int32} {Q : Int32 → HS → Prop} {v1 v2 v3 : Nat} (hL : scL ≤ 4096) (hQ : ∀ S, Q 1 S) : ∀ (d c : Nat), c + d = 513 → ∀ (v4 : Int32) (kk nn : Nat) (S : HS), LI v1 v2 v3 v4 kk nn S c → ∀ X23 : Nat → Nat → Nat → Int32 → Nat → Nat → HS → Prop, (∀ (v1 v2 v3 : Nat) (v4 : Int32) (kk nn : Nat) (S : HS), B_L_law_23 scL scx Q X23 v1 v2 v3 v4 kk nn S → X23 v1 v2 v3 v4 kk nn S) → X23 v1 v2 v3 v4 kk nn S := by
  intro d
  induction d with
  | zero =>
    intro c hcd v4 kk nn S h X23 hX
    have h' := h
    obtain ⟨-, -, -, -, -, -, -, -, -, hv, hk, hn⟩ := h'
    refine hX _ _ _ _ _ _ _ ⟨fun _ => ⟨by show _ ≤ 601024; omega, by show _ ≤ 7293034; omega, rfl, hQ S⟩, fun hcn => ?_⟩
    have hc := sc_cmp hL hv (by omega) hcn
    omega
  | succ d ih =>
    intro c hcd v4 kk nn S h X23 hX
    have h' := h
    obtain ⟨-, -, -, -, -, -, -, -, -, hv, hk, hn⟩ := h'
    refine hX _ _ _ _ _ _ _ ⟨fun _ => ⟨by show _ ≤ 601024; omega, by show _ ≤ 7293034; omega, rfl, hQ S⟩, fun hcn => ?_⟩
    have hc := sc_cmp hL hv (by omega) hcn
    have hb : ∀ x : Int32, x = v4 + (8 : Int32) → ∀ (kk nn : Nat) (T : HS), IV T → ob T v1 9 → ob T v2 11 → ob T v3 14 → hN T v3 = 1 → TT v1 v2 T → fI T v1 7 = fI T v2 13 → WH v1 v2 T → WRx v1 v2 T → kk ≤ 200 + 35 * (c + 1) → nn ≤ 13000 + 8200 * (c + 1) → X23 v1 v2 v3 x kk nn T := fun x ex kk nn T i1 i2 i3 i4 i5 i6 i6a i6b i6c i7 i8 => ih (c + 1) (by omega) x kk nn T ⟨i1, i2, i3, i4, i5, i6, i6a, i6b, i6c, sc_next hv ex, i7, i8⟩ X23 hX
    refine ⟨sc_in0 hv hc hL, fun x ex => ?_⟩
    exact ⟨fun _ => a_L_law_2341 hL hc hb h, fun _ => a_L_law_216 hL hc hb h, fun _ => a_L_law_289 hL hc hb h, fun _ => a_L_law_314 hL hc hb h, fun _ => a_L_law_327 hL hc hb h, fun _ => a_L_law_340 hL hc hb h, fun _ => a_L_law_457 hL hc hb h, fun _ => a_L_law_560 hL hc hb h, fun _ => a_L_law_663 hL hc hb h, fun _ => a_L_law_712 hL hc hb h, fun _ => a_L_law_761 hL hc hb h, fun _ => a_L_law_834 hL hc hb h, fun _ => a_L_law_895 hL hc hb h, fun _ => a_L_law_984 hL hc hb h, fun _ => a_L_law_1045 hL hc hb h, fun _ => a_L_law_1106 hL hc hb h, fun _ => a_L_law_1183 hL hc hb h, fun _ => a_L_law_1232 hL hc hb h, fun _ => a_L_law_1349 hL hc hb h, fun _ => a_L_law_1436 hL hc hb h, fun _ => a_L_law_1539 hL hc hb h, fun _ => a_L_law_1612 hL hc hb h, fun _ => a_L_law_1685 hL hc hb h, fun _ => a_L_law_1772 hL hc hb h, fun _ => a_L_law_1833 hL hc hb h, fun _ => a_L_law_1858 hL hc hb h, fun _ => a_L_law_1895 hL hc hb h, fun _ => a_L_law_1908 hL hc hb h, fun _ => a_L_law_1969 hL hc hb h, fun _ => a_L_law_2018 hL hc hb h, fun _ => a_L_law_2043 hL hc hb h, fun _ => a_L_law_2096 hL hc hb h, fun _ => a_L_law_2137 hL hc hb h, fun _ => a_L_law_2150 hL hc hb h, fun _ => a_L_law_2163 hL hc hb h, fun _ => a_L_law_2176 hL hc hb h, fun _ => a_L_law_2201 hL hc hb h, fun _ => a_L_law_2238 hL hc hb h, fun _ => a_L_law_2275 hL hc hb h, fun _ => a_L_law_2303 hL hc hb h, fun _ => a_L_law_2328 hL hc hb h⟩
theorem p_L_law {scL : Nat} {scx : Nat → Int32} {Q : Int32 → HS → Prop} (hL : scL ≤ 4096) (hQ : ∀ S, Q 1 S) : P_L_law_0 scL scx Q 0 0 S00 := by
  unfold P_L_law_0
  refine ⟨by decide, by decide, fun a1 q1 S1 e1 => ⟨by decide, by decide, ?_⟩⟩
  have hc : P_X9_init a1 (fun T => IV T ∧ ob T a1 9 ∧ fI T a1 1 = 0) S1 := m_X9_new e1 (fun T i o _ t => ⟨i, o, t⟩)
  refine cm_X9_init (kg_X9_init hc) (ku_X9_init hc (uz_1 e1)) (fun S2 h2 hu _ => ?_)
  obtain ⟨⟨i2, o1, t2⟩, K0⟩ := h2
  have uz := hu.2.1
  have ob1 : ob S1 a1 9 := ob_of_new e1
  have z1 : fI S1 a1 = fun _ => 0 := by rw [e1]; exact va_up_self _ _ _
  have f7 : fI S2 a1 7 = 0 := (K0.2 (9, 7) (by decide) a1 ob1).trans (by rw [z1])
  have f9 : fI S2 a1 9 = 0 := (K0.2 (9, 9) (by decide) a1 ob1).trans (by rw [z1])
  refine ⟨by decide, by decide, fun a2 q2 S3 e3 => ⟨by decide, by decide, ?_⟩⟩
  have hm : P_X11_init a2 (fun T => IV T ∧ Gr S2 T ∧ ob T a2 11 ∧ FRI [] [] S2 T) S3 := m_X11_init i2 q2 e3 (fun T i g1 _ f o _ => ⟨i, g1, o, f⟩)
  refine cm_X11_init (sq_X11_init hm e3) hm (fun S4 h4 _ _ => ?_)
  obtain ⟨⟨i4, g4, o2, fc⟩, F, g, bx, h5, h6, h13, hm2, -, h3n⟩ := h4
  refine ⟨by decide, by decide, fun a3 q3 S5 e5 => ?_⟩
  subst e3
  have tt := tt_start i4 q2 o1 i2 t2 bx h5 h6
  have wrs := fun (a3 : Nat) (U : HS) => wr_start (a3 := a3) (U := U) i2 o1 uz q2 bx h3n
  have f7 := (fc.1 9 7 (by decide) (by decide) a1 o1).trans f7
  have f9 := (fc.1 9 9 (by decide) (by decide) a1 o1).trans f9
  have bm := bx.2.2.2.2.2.2.1
  have o1 := gr_ob g4 o1
  have n1 := (xp_new (v := a3) q3 e5 a1 o1.1).2.2.2 (fun z => q3 (z ▸ o1.1))
  have n2 := (xp_new (v := a3) q3 e5 a2 o2.1).2.2.2 (fun z => q3 (z ▸ o2.1))
  have tt := tt_K tt o1 o2 (k2_W (k2_rf S4) q3 e5) (by rw [n1.2.2]) (by rw [n1.1]) (by rw [n2.2.2]) (by rw [n2.1])
  have fa : fI S5 a1 7 = fI S5 a2 13 := by rw [n1.1, n2.1, f7, bm, h13]
  have wh : WH a1 a2 S5 := by
    unfold WH
    rw [n1.1, n2.1, f9, bm, hm2]
    exact ⟨fun z => absurd z (by decide), fun _ => rfl⟩
  exact fun X23 hX => lp_L_law hL hQ 513 0 rfl _ _ _ _ ⟨iv_arr i4 q3 e5 (by omega), gr_ob (gr_of_new e5 q3) o1, gr_ob (gr_of_new e5 q3) o2, ob_of_new e5, by rw [e5]; exact va_up_self _ _ _, tt, fa, wh, wrs a3 S5 q3 e5, by rw [Nat.mul_zero, nI_0], by omega, by omega⟩ X23 hX
/-- the law's walk, out of what is still open: C, E (the start) and ht (led) -/
theorem whole_open {X : CX} {scb scL : Nat} {scx : Nat → Int32} (C : Cx X cL_law RL 7 rm_L_law) (E : LE X scb scL scx (fun _ _ => True)) (ht : LD X) (hL : scL ≤ 4096) : WS X 7 0 0 0 [(0, .ref scb)] [] S00 := T_L_law_0 C E ht trivial (p_L_law hL (fun _ => trivial))
