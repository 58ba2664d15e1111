section Rel5
variable {S T U : HS} {c m : Nat} {wi wr wi' wr' : List (Nat × Nat)}
/-- a call that writes neither tape nor its count keeps the tapes alike -/
theorem tt_fri (h : TT c m S) (oc : ob S c 9) (om : ob S m 11) (K : K2 S T) (F : FRI wi wr S T) (hc : (9, 1) ∉ wi) (hm : (11, 6) ∉ wi) (rc : (9, 0) ∉ wr) (rm : (11, 5) ∉ wr) : TT c m T :=
  tt_K h oc om K (F.2 9 0 (by decide) rc c oc) (F.1 9 1 (by decide) hc c oc) (F.2 11 5 (by decide) rm m om) (F.1 11 6 (by decide) hm m om)
/-- world on both sides keeps the tapes alike -/
theorem tt_world {v1 : Int32} (h : TT c m S) (oc : ob S c 9) (om : ob S m 11) (K : K2 S T) (K' : K2 T U) (F : FRI wi wr S T) (F' : FRI wi' wr' T U) (hm : (11, 6) ∉ wi) (rc : (9, 0) ∉ wr) (rm : (11, 5) ∉ wr) (hc' : (9, 1) ∉ wi') (rc' : (9, 0) ∉ wr') (rm' : (11, 5) ∉ wr')
    (p : (v1 < 0 ∨ fI S c 1 < v1 → fI T c 1 = fI S c 1) ∧ (0 ≤ v1 ∧ v1 ≤ fI S c 1 → fI T c 1 = 0)) (q : (v1 < 0 ∨ fI T m 6 < v1 → fI U m 6 = fI T m 6) ∧ (0 ≤ v1 ∧ v1 ≤ fI T m 6 → fI U m 6 = 0)) : TT c m U := by
  have oc' := gr_ob K.1 oc
  have om' := gr_ob K.1 om
  have m6 : fI T m 6 = fI S m 6 := F.1 11 6 (by decide) hm m om
  have c1 : fI U c 1 = fI T c 1 := F'.1 9 1 (by decide) hc' c oc'
  have c0 : fR U c 0 = fR S c 0 := (F'.2 9 0 (by decide) rc' c oc').trans (F.2 9 0 (by decide) rc c oc)
  have m5 : fR U m 5 = fR S m 5 := (F'.2 11 5 (by decide) rm' m om').trans (F.2 11 5 (by decide) rm m om)
  have KK := k2_tr K K'
  obtain ⟨f, t, a, b, h1, P, R, h4, h5⟩ := h
  have e1 : fI S c 1 = fI S m 6 := P.2.1.trans R.2.1.symm
  by_cases hb : v1 < 0 ∨ fI S c 1 < v1
  · have z1 := p.1 hb
    have z2 := q.1 (by rw [m6, ← e1]; exact hb)
    exact ⟨f, t, a, b, h1, tp_K P oc KK c0 (c1.trans z1), tp_K R om KK m5 (z2.trans m6), h4, h5⟩
  · have hg : 0 ≤ v1 ∧ v1 ≤ fI S c 1 := ⟨Int32.not_lt.mp (fun z => hb (Or.inl z)), Int32.not_lt.mp (fun z => hb (Or.inr z))⟩
    have z1 := p.2 hg
    have z2 := q.2 (by rw [m6, ← e1]; exact hg)
    obtain ⟨p1, p2, p3, p4, p5, p6⟩ := P
    obtain ⟨r1, r2, r3, r4, r5, r6⟩ := R
    exact ⟨f, 0, a, b, by omega, ⟨c0.trans p1, c1.trans z1, (KK.1 a p4.1).2.2.trans p3, gr_ob KK.1 p4, p5, fun j hj => absurd hj (by omega)⟩, ⟨m5.trans r1, z2, (KK.1 b r4.1).2.2.trans r3, gr_ob KK.1 r4, r5, fun j hj => absurd hj (by omega)⟩, h4, fun j hj => absurd hj (by omega)⟩
/-- the model's tape after a call of the class -/
theorem tp_mid {f : Nat → Int32} {t b : Nat} (R : TP 5 6 f t b m S) (om : ob S m 11) (K : K2 S T) (F : FRI wi wr S T) (hm : (11, 6) ∉ wi) (rm : (11, 5) ∉ wr) : TP 5 6 f t b m T := tp_K R om K (F.2 11 5 (by decide) rm m om) (F.1 11 6 (by decide) hm m om)
end Rel5
