/-! what the invariant gives of the class, and the tapes of the two -/
section Rel
variable {S T : HS} {c m t n : Nat} {f : Nat → Int32}
theorem iv_rdy (hI : IV S) (oc : ob S c 9) (hn : n ≤ 900) (hf : ∀ a, fR S c 0 = some a → ∀ j, j < n → fI S a j = f j) : ∃ a r w nm nd, fR S c 0 = some a ∧ fR S c 3 = some r ∧ Rdy f n a r w nm nd S ∧ DSt w nd S ∧ (∀ x b i, fR S w 9 = some b → i < hN S b → fR S b i = some x → ob S x 6) ∧ ∀ b, fR S w 9 = some b → b ≠ r := by
  obtain ⟨a, a1, a2, a3⟩ := hI.1 (9, 0, 12, 900) (by decide) c oc
  obtain ⟨r, r1, r2, -⟩ := hI.1 (9, 3, 4, 0) (by decide) c oc
  obtain ⟨w, w1, w2, -⟩ := hI.1 (4, 5, 8, 0) (by decide) r r2
  obtain ⟨nm, m1, m2, -⟩ := hI.1 (4, 11, 14, 12) (by decide) r r2
  obtain ⟨nd, d1, d2, d3⟩ := hI.1 (4, 12, 13, 12) (by decide) r r2
  obtain ⟨p7, q7, -, s7⟩ := hI.1 (8, 7, 13, 8) (by decide) w w2
  obtain ⟨p10, q10, -, s10⟩ := hI.1 (8, 10, 13, 4) (by decide) w w2
  obtain ⟨p11, q11, -, s11⟩ := hI.1 (8, 11, 13, 20) (by decide) w w2
  obtain ⟨p9, q9, u9, -⟩ := hI.1 (8, 9, 19, 4) (by decide) w w2
  have a3 : hN S a = 900 := a3.resolve_left (by decide)
  have d3 : hN S nd = 12 := d3.resolve_left (by decide)
  have s7 : hN S p7 = 8 := s7.resolve_left (by decide)
  have s10 : hN S p10 = 4 := s10.resolve_left (by decide)
  have s11 : hN S p11 = 20 := s11.resolve_left (by decide)
  refine ⟨a, r, w, nm, nd, a1, r1, ⟨hf a a1, a3, hn, m1, d1, w1, r2, w2, m2, d2, a2⟩, fun j b hj hb z => ?_, fun x b i hb hi hx => ?_, fun b hb => ?_⟩
  · subst z
    rcases hj with rfl | rfl | rfl
    · cases q7.symm.trans hb
      omega
    · cases q10.symm.trans hb
      omega
    · cases q11.symm.trans hb
      omega
  · cases q9.symm.trans hb
    obtain ⟨y, y1, y2⟩ := hI.2.1 19 (by decide) (by decide) p9 u9 i hi
    cases y1.symm.trans hx
    exact y2
  · cases q9.symm.trans hb
    exact ob_ne u9 r2 (by decide)
/-- the tapes of the class c and of the model m hold the same bytes -/
def TT (c m : Nat) (S : HS) : Prop := ∃ (f : Nat → Int32) (t a b : Nat), t ≤ 900 ∧ TP 0 1 f t a c S ∧ TP 5 6 f t b m S ∧ a ≠ b ∧ ∀ j, j < t → -128 ≤ (f j).toInt ∧ (f j).toInt ≤ 127
/-- what keeps the tapes: the rows of bytes, the tape's reference and its count -/
theorem tp_K {fl tf k : Nat} {a c : Nat} (P : TP fl tf f t a c S) (oc : ob S c k) (K : K2 S T) (hR : fR T c fl = fR S c fl) (hI : fI T c tf = fI S c tf) : TP fl tf f t a c T := by
  obtain ⟨p1, p2, p3, p4, p5, p6⟩ := P
  exact ⟨hR.trans p1, hI.trans p2, (K.1 a p4.1).2.2.trans p3, gr_ob K.1 p4, p5, fun j hj => by rw [K.2 a p4]; exact p6 j hj⟩
theorem tt_K (h : TT c m S) (oc : ob S c 9) (om : ob S m 11) (K : K2 S T) (r1 : fR T c 0 = fR S c 0) (i1 : fI T c 1 = fI S c 1) (r2 : fR T m 5 = fR S m 5) (i2 : fI T m 6 = fI S m 6) : TT c m T := by
  obtain ⟨f, t, a, b, h1, h2, h3, h4, h5⟩ := h
  exact ⟨f, t, a, b, h1, tp_K h2 oc K r1 i1, tp_K h3 om K r2 i2, h4, h5⟩
end Rel
