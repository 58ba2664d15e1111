/-! fault and where, kept alike -/
section Inv45
variable {S T U : HS} {c m t : Nat} {f : Nat → Int32} {v1 : Int32} {wi wr wi' wr' : List (Nat × Nat)}
theorem fa_fri (h : fI S c 7 = fI S m 13) (oc : ob S c 9) (om : ob S m 11) (F : FRI wi wr S T) (hc : (9, 7) ∉ wi) (hm : (11, 13) ∉ wi) : fI T c 7 = fI T m 13 :=
  (F.1 9 7 (by decide) hc c oc).trans (h.trans (F.1 11 13 (by decide) hm m om).symm)
theorem wh_fri (h : WH c m S) (oc : ob S c 9) (om : ob S m 11) (F : FRI wi wr S T) (h8 : (9, 8) ∉ wi) (h9 : (9, 9) ∉ wi) (hm : (11, 2) ∉ wi) : WH c m T := by
  have e8 := F.1 9 8 (by decide) h8 c oc
  have e9 := F.1 9 9 (by decide) h9 c oc
  have e2 := F.1 11 2 (by decide) hm m om
  unfold WH
  rw [e8, e9, e2]
  exact h
theorem wh_set (N : NFq 9 9 c9 c T) (F : FRI wi wr T U) (h9 : (9, 9) ∉ wi) (M : NFq 11 2 c11 m U) : WH c m U := by
  have e9 := F.1 9 9 (by decide) h9 c N.1
  exact ⟨fun z => absurd (e9.symm.trans z) N.2, fun _ => M.2⟩
theorem fa_world {x y : Int32} (ht : t ≤ 900) (h : WCd S f t v1 c x T) (g : WMd T f t v1 m y U) (hf : fI S c 7 = fI S m 13) (oc : ob T c 9) (om : ob S m 11) (F : FRI wi wr S T) (F' : FRI wi' wr' T U) (hm : (11, 13) ∉ wi) (hc : (9, 7) ∉ wi') : fI U c 7 = fI U m 13 :=
  (F'.1 9 7 (by decide) hc c oc).trans (wc_fault ht h g (hf.trans (F.1 11 13 (by decide) hm m om).symm))
theorem wh_world {x y : Int32} (ht : t ≤ 900) (h : WCd S f t v1 c x T) (g : WMd T f t v1 m y U) (oc : ob T c 9) (F' : FRI wi' wr' T U) (h8 : (9, 8) ∉ wi') (h9 : (9, 9) ∉ wi') : WH c m U := by
  have e8 := F'.1 9 8 (by decide) h8 c oc
  have e9 := F'.1 9 9 (by decide) h9 c oc
  unfold WH
  rw [e8, e9]
  exact wc_where ht h g
theorem wh_eq {x y : Int32} (h : WH c m S) (hx : (fI S c 9 = 4 → x = fI S c 8) ∧ (fI S c 9 ≠ 4 → x = -1)) (hy : y = fI S m 2) : x = y := by
  by_cases z : fI S c 9 = 4
  · rw [hx.1 z, hy, h.1 z]
  · rw [hx.2 z, hy, h.2 z]
end Inv45
