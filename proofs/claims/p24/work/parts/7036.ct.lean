section
/-! the reference's day -/
def mwO (w : Int32) : Int32 := if w = -1 then -2 else w
def MVd (S : HS) (b o : Nat) (v : MO) : Prop := fJ S b o = v.1.toInt64 ∧ fJ S b (o + 1) = v.2.1.toInt64 ∧ ∀ f, f < 5 → fJ S b (o + 2 + f) = v.2.2 f
def MDs (m d p k : Nat) (S : HS) : Prop := fR S m 21 = some d ∧ fR S m 22 = some p ∧ fR S m 23 = some k ∧ ob S d 14 ∧ ob S p 14 ∧ ob S k 14 ∧ p ≠ d ∧ k ≠ d ∧ k ≠ p
def MDv (m d p k : Nat) (D : DY) (S : HS) : Prop := fI S m 19 = mwO (dW D) ∧ fI S m 20 = dR D ∧ fI S m 24 = nI (dU D) ∧ fI S m 25 = nI (dK D) ∧ dU D ≤ 16 ∧ dK D ≤ 3 ∧ MVd S d 0 (dN D) ∧ (∀ i, i < dU D → MVd S p (7 * i) (dP D i)) ∧ ∀ i, i < dK D → MVd S k (7 * i) (dM D i)
def MDd (m : Nat) (D : DY) (S : HS) : Prop := ob S m 11 ∧ ∃ d p k, MDs m d p k S ∧ MDv m d p k D S
def DSm (m : Nat) (S T : HS) : Prop := hL T = hL S ∧ hK T = hK S ∧ hN T = hN S ∧ fR T = fR S ∧ ∀ x, x ≠ m → fI T x = fI S x
section C51
variable {m d p k rd a b i j : Nat} {A : AS} {G : GC} {D : DY} {S T U : HS} {v x y t : Int32} {Q : Int32 → HS → Prop} {QJ : Int64 → HS → Prop} {Q0 : HS → Prop}
theorem dm_rf (m : Nat) (S : HS) : DSm m S S := ⟨rfl, rfl, rfl, rfl, fun _ _ => rfl⟩
theorem dm_tr (h : DSm m S T) (g : DSm m T U) : DSm m S U := ⟨g.1.trans h.1, g.2.1.trans h.2.1, g.2.2.1.trans h.2.2.1, g.2.2.2.1.trans h.2.2.2.1, fun x hx => (g.2.2.2.2 x hx).trans (h.2.2.2.2 x hx)⟩
theorem dm_o (h : DSm m S T) {q k : Nat} (o : ob S q k) : ob T q k := by
  unfold ob
  rw [h.1, h.2.1]
  exact o
theorem dm_I {j : Nat} (e : T = sI S m j v) : DSm m S T := by
  rw [e]
  exact ⟨rfl, rfl, rfl, rfl, fun x hx => u2_row _ _ hx⟩
theorem dm_J {j : Nat} {v : Int64} (e : T = sJ S a j v) : DSm m S T := by
  rw [e]
  exact ⟨rfl, rfl, rfl, rfl, fun _ _ => rfl⟩
theorem dm_wJ (g : Nat → Nat → Int64) : DSm m S (wJ S g) := ⟨rfl, rfl, rfl, rfl, fun _ _ => rfl⟩
theorem dm_F {W WJ : List Nat} (F : Fr W WJ m S T) : DSm m S T := ⟨F.1, F.2.1, F.2.2.1, F.2.2.2.1, fun x hx => (F.2.2.2.2.1 x hx).1⟩
theorem mvd_mv {o : Nat} {w : MO} (h : MVd S b o w) (e : fJ T b = fJ S b) : MVd T b o w := by
  unfold MVd
  rw [e]
  exact h
theorem ms_mv (h : MDs m d p k S) (g : DSm m S T) : MDs m d p k T := by
  unfold MDs ob at h ⊢
  rw [g.1, g.2.1, g.2.2.2.1]
  exact h
/-- ints of the model's own are written, none of the day's -/
theorem md_I (h : MDd m D S) (e : T = sI S m j v) (h1 : j ≠ 19) (h2 : j ≠ 20) (h3 : j ≠ 24) (h4 : j ≠ 25) : MDd m D T := by
  obtain ⟨om, d, p, k, ms, mv⟩ := h
  have r : fI T m = va_up (fI S m) j v := row_I e
  have rj : fJ T = fJ S := by rw [e]; rfl
  obtain ⟨q1, q2, q3, q4, q5, q6, q7, q8, q9⟩ := mv
  refine ⟨by rw [e]; exact om, d, p, k, ms_mv ms (dm_I e), ?_, ?_, ?_, ?_, q5, q6, mvd_mv q7 (by rw [rj]), fun i hi => mvd_mv (q8 i hi) (by rw [rj]), fun i hi => mvd_mv (q9 i hi) (by rw [rj])⟩
  · rw [r, va_up_ne _ _ h1.symm]; exact q1
  · rw [r, va_up_ne _ _ h2.symm]; exact q2
  · rw [r, va_up_ne _ _ h3.symm]; exact q3
  · rw [r, va_up_ne _ _ h4.symm]; exact q4
theorem md_F {W WJ : List Nat} (h : MDd m D S) (F : Fr W WJ m S T) (h1 : 19 ∉ W) (h2 : 20 ∉ W) (h3 : 24 ∉ W) (h4 : 25 ∉ W) : MDd m D T := by
  obtain ⟨om, d, p, k, ms, q1, q2, q3, q4, q5, q6, q7, q8, q9⟩ := h
  have nm : ∀ {x : Nat}, ob S x 14 → x ≠ m := fun o => ob_ne o om (by decide)
  have f := F.2.2.2.2.2.1
  have fj : ∀ {x : Nat}, ob S x 14 → fJ T x = fJ S x := fun o => (F.2.2.2.2.1 _ (nm o)).2
  exact ⟨dm_o (dm_F F) om, d, p, k, ms_mv ms (dm_F F), by rw [f 19 h1]; exact q1, by rw [f 20 h2]; exact q2, by rw [f 24 h3]; exact q3, by rw [f 25 h4]; exact q4, q5, q6, mvd_mv q7 (fj ms.2.2.2.1), fun i hi => mvd_mv (q8 i hi) (fj ms.2.2.2.2.1), fun i hi => mvd_mv (q9 i hi) (fj ms.2.2.2.2.2.1)⟩
theorem md_12 (h : MDd m D S) (F : Fr [1, 2] [] m S T) : MDd m D T := md_F h F (by decide) (by decide) (by decide) (by decide)
/-- the world told, over these steps -/
theorem wrm_ds (om : ob S m 11) (g : DSm m S T) (h : WRm m rd A G S) : WRm m rd A G T := by
  obtain ⟨h1, h2, h3, h4, h5, h6⟩ := h
  obtain ⟨g1, g2, g3, g4, g5⟩ := g
  have rm : rd ≠ m := ob_ne h2 om (by decide)
  refine ⟨by rw [g4]; exact h1, by unfold ob; rw [g1, g2]; exact h2, ?_, fun i b i1 i2 e z hz => ?_, ?_, fun i b i1 i2 e => ?_⟩
  · unfold Cnt
    rw [g5 rd rm]
    exact h3
  · rw [g4] at e
    have q := h6 i b i1 i2 e
    have bm : b ≠ m := q.1.elim (fun o => ob_ne o om (by decide)) (fun o => ob_ne o om (by decide))
    rw [g5 b bm]
    exact h4 i b i1 i2 e z hz
  · unfold DMr
    rw [g4]
    exact h5
  · rw [g4] at e
    unfold NW8 ob
    rw [g1, g2, g4]
    exact h6 i b i1 i2 e
def HM (m : Nat) (A : AS) (G : GC) (S : HS) : Prop := (fR S m 3 = none ∧ A = A00) ∨ ∃ rd, WRm m rd A G S
theorem hm_ds (om : ob S m 11) (g : DSm m S T) (h : HM m A G S) : HM m A G T := h.elim (fun z => Or.inl ⟨by rw [g.2.2.2.1]; exact z.1, z.2⟩) (fun ⟨rd, z⟩ => Or.inr ⟨rd, wrm_ds om g z⟩)
def HE (S : HS) : Prop := ∀ rd i, ob S rd 10 → 7 ≤ i → i ≤ 27 → ∃ b, fR S rd i = some b
theorem he_iv (hI : IV S) : HE S := fun rd i o h1 h2 => m_start hI (S1 := sI S rd 0 0) rfl rd i o h1 h2
theorem he_ds (g : DSm m S T) (h : HE S) : HE T := fun rd i o h1 h2 => by
  unfold ob at o
  rw [g.1, g.2.1] at o
  rw [g.2.2.2.1]
  exact h rd i o h1 h2
theorem sm_X11_isDay (hm : HM m A G S) (md : MDd m D S) (db : DBd A D) (h : P_X11_isDay m Q S) : P_X11_isDay m (fun x T => Q x T ∧ S = T ∧ ans (onD D) x) S := by
  obtain ⟨om, d, p, k, ms, mv⟩ := md
  have q1 := mv.1
  delta P_X11_isDay P_X11_isDay_0
  obtain ⟨o1, h⟩ := h
  refine ⟨o1, fun n => ⟨h.1 n, rfl, Or.inr ⟨fun on => ?_, rfl⟩⟩, fun a1 e1 x3 q3 => ?_⟩
  · rcases hm with ⟨-, hA⟩ | ⟨rd, hr⟩
    · have := (db_on db on).1
      rw [hA] at this
      exact zero_n (k := aW A00) rfl this
    · exact absurd (hr.1.symm.trans n) (by intro z; cases z)
  · have h := h.2 a1 e1 x3 q3
    have q3 := q3.trans q1
    unfold mwO at q3
    refine ⟨fun cc => ⟨h.1 cc, rfl, Or.inr ⟨fun on => ?_, rfl⟩⟩, fun cc => ⟨h.2 cc, rfl, Or.inl ⟨fun z => ?_, rfl⟩⟩⟩
    · rw [if_neg on] at q3
      have z := (db_on db on).1.1
      rw [← q3, cc] at z
      exact z (by decide)
    · rw [if_pos z] at q3
      exact cc q3
theorem sm_X11_hourOf (om : ob S m 11) (hr : WRm m rd A G S) (h : P_X11_hourOf m v Q S) : P_X11_hourOf m v (fun x T => Q x T ∧ S = T ∧ x = hrO A v ∧ ¬ aH A = 0) S := by
  delta P_X11_hourOf P_X11_hourOf_0
  obtain ⟨o1, a1, e1, o2, h⟩ := h
  cases hr.1.symm.trans e1
  refine ⟨o1, _, e1, o2, fun x2 q2 => ?_⟩
  obtain ⟨n2, h⟩ := h x2 q2
  have q2 := q2.trans hr.2.2.1.1
  have na : ¬ aH A = 0 := fun z => n2 (by rw [q2, z]; rfl)
  refine ⟨n2, fun x4 q4 => ⟨h x4 q4, rfl, ?_, na⟩⟩
  unfold hrO
  rw [if_neg na, q4, q2]
theorem hr_nn (ab : ABd A) (h : 0 ≤ t.toInt) : ¬ hrO A t < 0 := fun z => by
  have e0 : (0 : Int32).toInt = 0 := by decide
  have q := lt_i z
  unfold hrO at q
  by_cases c : aH A = 0
  · rw [if_pos c] at q
    omega
  · rw [if_neg c, Int32.toInt_div, nI_i (by have := ab.1; omega), e0] at q
    have l := t.toInt_lt
    have p1 : 0 ≤ t.toInt.tdiv (aH A : Int) := Int.tdiv_nonneg h (by omega)
    have p2 : t.toInt.tdiv (aH A : Int) ≤ t.toInt := by
      rw [Int.tdiv_eq_ediv_of_nonneg h]
      exact Int.ediv_le_self _ h
    rw [Int.bmod_eq_of_le (by omega) (by omega)] at q
    omega
theorem sm_X11_rainsIn (ab : ABd A) (hr : WRm m rd A G S) (md : MDd m D S) (ht : 0 ≤ t.toInt) (h : P_X11_rainsIn m t Q S) : P_X11_rainsIn m t (fun x T => Q x T ∧ S = T ∧ ans (rnO A D t) x) S := by
  have om := md.1
  obtain ⟨_, d, p, k, ms, mv⟩ := md
  delta P_X11_rainsIn P_X11_rainsIn_0
  obtain ⟨o1, h⟩ := h
  refine ⟨o1, ?_⟩
  refine cm_X11_hourOf (sm_X11_hourOf om hr h) h (fun x3 S1 hp h g => ?_)
  have h := h g
  obtain ⟨-, hS, h3, -⟩ := hp
  subst hS
  obtain ⟨a4, e4, o4, h⟩ := h
  cases hr.1.symm.trans e4
  refine ⟨_, e4, o4, fun x5 q5 => ?_⟩
  have h := h x5 q5
  have q5 := q5.trans hr.2.2.1.2.1
  rw [q5, h3] at h ⊢
  refine ⟨fun cc => ⟨h.1 cc, rfl, Or.inr ⟨fun z => absurd z.1.2 (Int32.not_lt.mpr cc), rfl⟩⟩, fun cc x7 q7 => ?_⟩
  have h := h.2 cc x7 q7
  have q7 := q7.trans mv.2.1
  rw [q7] at h ⊢
  exact ⟨fun c2 => ⟨h.1 c2, rfl, Or.inr ⟨fun z => c2 z.2, rfl⟩⟩, fun c2 => ⟨h.2 c2, rfl, Or.inl ⟨⟨⟨hr_nn ab ht, Int32.not_le.mp cc⟩, c2⟩, rfl⟩⟩⟩
theorem sm_X10_begins (hr : WRm m rd A G S) (ir : v.toNatClampNeg < aR A) (h : P_X10_begins rd v x Q S) : P_X10_begins rd v x (fun z T => Q z T ∧ S = T ∧ z = goB G v x) S := by
  delta P_X10_begins P_X10_begins_0
  unfold goB
  refine ⟨fun cc => ?_, fun cc => ?_⟩
  · obtain ⟨o1, a2, e2, o2, i2, h⟩ := h.1 cc
    exact ⟨o1, _, e2, o2, i2, fun x4 q4 => ⟨h x4 q4, rfl, by rw [if_neg cc]; exact q4.trans (hr.2.2.2.1 14 a2 (by decide) (by decide) e2 _ ir)⟩⟩
  · obtain ⟨o1, a2, e2, o2, i2, h⟩ := h.2 cc
    exact ⟨o1, _, e2, o2, i2, fun x4 q4 => ⟨h x4 q4, rfl, by rw [if_pos cc]; exact q4.trans (hr.2.2.2.1 13 a2 (by decide) (by decide) e2 _ ir)⟩⟩
theorem sm_X10_ends (hr : WRm m rd A G S) (ir : v.toNatClampNeg < aR A) (h : P_X10_ends rd v x Q S) : P_X10_ends rd v x (fun z T => Q z T ∧ S = T ∧ z = goT G v x) S := by
  delta P_X10_ends P_X10_ends_0
  unfold goT
  refine ⟨fun cc => ?_, fun cc => ?_⟩
  · obtain ⟨o1, a2, e2, o2, i2, h⟩ := h.1 cc
    exact ⟨o1, _, e2, o2, i2, fun x4 q4 => ⟨h x4 q4, rfl, by rw [if_neg cc]; exact q4.trans (hr.2.2.2.1 13 a2 (by decide) (by decide) e2 _ ir)⟩⟩
  · obtain ⟨o1, a2, e2, o2, i2, h⟩ := h.2 cc
    exact ⟨o1, _, e2, o2, i2, fun x4 q4 => ⟨h x4 q4, rfl, by rw [if_pos cc]; exact q4.trans (hr.2.2.2.1 14 a2 (by decide) (by decide) e2 _ ir)⟩⟩
theorem pl_eq {k : Nat} {w : Int32} (hk : k ≤ 2) (hw : inI 0 9 w) : (¬ dripOf k w = -1) ↔ (¬ innOf k = 0 ∨ ¬ treeOf k w = -2) := by
  have e1 : ¬ w = -1 := fun z => by have := hw.1; rw [z] at this; exact absurd this (by decide)
  have e2 : ¬ w = -2 := fun z => by have := hw.1; rw [z] at this; exact absurd this (by decide)
  have e3 : ¬ (0 : Int32) = -1 := by decide
  unfold dripOf innOf treeOf
  rcases (by omega : k = 0 ∨ k = 1 ∨ k = 2) with rfl | rfl | rfl
  · simp
  · simp
  · simp [e1, e2]
theorem sm_X11_canWait (ab : ABd A) (gb : GBd A G) (hr : WRm m rd A G S) (hv : ¬ v < 0 ∧ v < nI (aP A)) (h : P_X11_canWait m v Q S) : P_X11_canWait m v (fun x T => Q x T ∧ S = T ∧ ans (cwO A G v) x) S := by
  have iv := ix_lt (by have := ab.2.2.1; omega) hv
  have b := gb.2.1 _ iv
  have pq := pl_eq b.1 b.2
  delta P_X11_canWait P_X11_canWait_0
  obtain ⟨o1, a1, e1, o2, a2, e2, o3, i3, h⟩ := h
  cases hr.1.symm.trans e1
  refine ⟨o1, _, e1, o2, _, e2, o3, i3, fun x4 q4 => ?_⟩
  have h := h x4 q4
  have q4 : x4 = innOf (gPk G v.toNatClampNeg) := q4.trans (hr.2.2.2.1 18 a2 (by decide) (by decide) e2 _ iv)
  refine ⟨fun cc => ⟨h.1 cc, rfl, Or.inl ⟨⟨hv, pq.mpr (Or.inl (by rw [← q4]; exact cc))⟩, rfl⟩⟩, fun cc => ?_⟩
  obtain ⟨a6, e6, o6, a7, e7, o7, i7, h⟩ := h.2 cc
  cases hr.1.symm.trans e6
  refine ⟨_, e6, o6, _, e7, o7, i7, fun x9 q9 => ?_⟩
  have h := h x9 q9
  have q9 : x9 = treeOf (gPk G v.toNatClampNeg) (gPv G v.toNatClampNeg) := q9.trans (hr.2.2.2.1 12 a7 (by decide) (by decide) e7 _ iv)
  refine ⟨fun c2 => ⟨h.1 c2, rfl, Or.inr ⟨fun z => ?_, rfl⟩⟩, fun c2 => ⟨h.2 c2, rfl, Or.inl ⟨⟨hv, pq.mpr (Or.inr (by rw [← q9]; exact c2))⟩, rfl⟩⟩⟩
  rcases pq.mp z.2 with q | q
  · exact q (by rw [← q4]; exact cc)
  · exact q (by rw [← q9]; exact c2)
end C51
/-! the reference's day: keeping, undoing, marks -/
def cpJ (S : HS) (g : Nat → Nat → Int64) (dst o src q n : Nat) : Prop := (∀ x, x ≠ dst → g x = fJ S x) ∧ (∀ z, (z < o ∨ o + n ≤ z) → g dst z = fJ S dst z) ∧ ∀ j, j < n → g dst (o + j) = fJ S src (q + j)
section C52
variable {m d p k rd a b i j dst src o q n : Nat} {A : AS} {G : GC} {D : DY} {S T U : HS} {v x y t : Int32} {Q : Int32 → HS → Prop} {QJ : Int64 → HS → Prop} {Q0 : HS → Prop} {g : Nat → Nat → Int64}
theorem cp_0 : cpJ S (fJ S) dst o src q 0 := ⟨fun _ _ => rfl, fun _ _ => rfl, fun j hj => absurd hj (Nat.not_lt_zero j)⟩
theorem cp_s {w : Int64} (h : cpJ S g dst o src q n) (ne : src ≠ dst) (hw : w = g src (q + n)) : cpJ S (u2 g dst (o + n) w) dst o src q (n + 1) := by
  refine ⟨fun x hx => (u2_row _ _ hx).trans (h.1 x hx), fun z hz => ?_, fun j hj => ?_⟩
  · rw [u2_ne _ _ (by omega)]
    exact h.2.1 z (by omega)
  · by_cases e : j = n
    · rw [e, u2_self, hw, h.1 src ne]
    · rw [u2_ne _ _ (by omega)]
      exact h.2.2 j (by omega)
theorem mv_cp {w : MO} (h : cpJ S g dst o src q 7) (hv : MVd S src q w) : MVd (wJ S g) dst o w := by
  refine ⟨(h.2.2 0 (by decide)).trans hv.1, (h.2.2 1 (by decide)).trans hv.2.1, fun f hf => ?_⟩
  have e := h.2.2 (2 + f) (by omega)
  rw [show o + (2 + f) = o + 2 + f by omega, show q + (2 + f) = q + 2 + f by omega] at e
  exact e.trans (hv.2.2 f hf)
theorem mv_ot {w : MO} {o' : Nat} (h : cpJ S g dst o src q 7) (hv : MVd S dst o' w) (ho : o' + 7 ≤ o ∨ o + 7 ≤ o') : MVd (wJ S g) dst o' w := by
  refine ⟨(h.2.1 o' (by omega)).trans hv.1, (h.2.1 (o' + 1) (by omega)).trans hv.2.1, fun f hf => (h.2.1 (o' + 2 + f) (by omega)).trans (hv.2.2 f hf)⟩
theorem mv_nx {w : MO} (h : ∀ x, x ≠ dst → g x = fJ S x) (hv : MVd S b o w) (hb : b ≠ dst) : MVd (wJ S g) b o w := mvd_mv hv (h b hb)
theorem sv7 {u z : Nat} : (7 : Int32) * nI u + nI z = nI (7 * u + z) := by
  show nI 7 * nI u + nI z = _
  rw [nJ_mul, nI_add]
theorem kp48 (md : MDd m D S) (hu : dU D < 16) (h : P_X11_keeps_48 Q0 m S) : P_X11_keeps_48 (fun T => Q0 T ∧ MDd m (kpE D) T ∧ DSm m S T) m S := by
  obtain ⟨om, d, p, k, ms, mv⟩ := md
  delta P_X11_keeps_48
  intro X hX
  refine h (fun a0 v1 T => (a0 = m ∧ ∃ n g, n ≤ 7 ∧ v1 = nI n ∧ T = wJ S g ∧ cpJ S g p (7 * dU D) d 0 n) → X a0 v1 T) ?_ ⟨rfl, 0, fJ S, by decide, rfl, rfl, cp_0⟩
  rintro a0 v1 T h ⟨rfl, n, g, hn, rfl, rfl, cp⟩
  apply hX
  have e7 : (7 : Int32).toInt = 7 := by decide
  have nk : (nI n).toInt = (n : Int) := nI_i (by omega)
  have ck : (nI n).toNatClampNeg = n := nI_cl (by omega)
  obtain ⟨q1, q2, q3, q4, q5, q6, q7, q8, q9⟩ := mv
  refine ⟨fun cc => ?_, fun cc => ?_⟩
  · have n7 : n = 7 := by have := le_i cc; omega
    rw [n7] at cp
    obtain ⟨o1, h⟩ := h.1 cc
    refine ⟨o1, fun x2 w2 x3 w3 S4 w4 => ⟨h x2 w2 x3 w3 S4 w4, ?_, dm_tr (dm_wJ g) (dm_I w4)⟩⟩
    have r : fI S4 a0 = va_up (fI S a0) 24 x3 := row_I (S := wJ S g) w4
    have rj : fJ S4 = g := by rw [w4]; rfl
    have mvt : ∀ {b o w}, MVd (wJ S g) b o w → MVd S4 b o w := fun h => mvd_mv h (by rw [rj]; rfl)
    refine ⟨by rw [w4]; exact om, d, p, k, ms_mv ms (dm_tr (dm_wJ g) (dm_I w4)), by rw [r]; exact q1, by rw [r]; exact q2, ?_, by rw [r]; exact q4, by show dU D + 1 ≤ 16; omega, q6, mvt (mv_nx cp.1 q7 ms.2.2.2.2.2.2.1.symm), fun i hi => ?_, fun i hi => mvt (mv_nx cp.1 (q9 i hi) ms.2.2.2.2.2.2.2.2)⟩
    · rw [r, va_up_self, w3, w2]
      show fI S a0 24 + 1 = nI (dU D + 1)
      rw [q3]
      exact nI_add (dU D) 1
    · have hi : i < dU D + 1 := hi
      refine mvt ?_
      show MVd (wJ S g) p (7 * i) (if i = dU D then dN D else dP D i)
      by_cases z : i = dU D
      · rw [if_pos z, z]
        exact mv_cp cp q7
      · rw [if_neg z]
        exact mv_ot cp (q8 i (by omega)) (by omega)
  · have lt := nle_i cc
    obtain ⟨o1, a5, e5, h⟩ := h.2 cc
    cases ms.2.1.symm.trans e5
    refine ⟨o1, _, e5, fun x6 w6 => ?_⟩
    obtain ⟨a7, e7', o7, i7, h⟩ := h x6 w6
    cases ms.1.symm.trans e7'
    have w6 : x6 = nI (dU D) := w6.trans q3
    refine ⟨_, e7', o7, i7, fun x9 w9 => ?_⟩
    obtain ⟨o9, i9, h⟩ := h x9 w9
    refine ⟨o9, i9, fun S11 w11 x12 w12 => h S11 w11 x12 w12 ⟨rfl, n + 1, u2 g p (7 * dU D + n) x9, by omega, by rw [w12]; exact nI_add n 1, ?_, cp_s cp ms.2.2.2.2.2.2.1.symm ?_⟩⟩
    · rw [w11, w6, sv7, nI_cl (by omega)]
      rfl
    · rw [w9, ck, Nat.zero_add]
      rfl
theorem kpm11 (md : MDd m D S) (hu : dU D = 16) (h : P_X11_keeps_11 Q0 m 0 S) : P_X11_keeps_11 (fun T => Q0 T ∧ MDd m (kpE (rotD D)) T ∧ DSm m S T) m 0 S := by
  obtain ⟨om, d, p, k, ms, mv⟩ := md
  intro X hX
  refine h (fun a0 v1 T => (a0 = m ∧ ∃ n g, n ≤ 105 ∧ v1 = nI n ∧ T = wJ S g ∧ (∀ x, x ≠ p → g x = fJ S x) ∧ (∀ z, n ≤ z → g p z = fJ S p z) ∧ ∀ z, z < n → g p z = fJ S p (z + 7)) → X a0 v1 T) ?_ ⟨rfl, 0, fJ S, by decide, rfl, rfl, fun _ _ => rfl, fun _ _ => rfl, fun z hz => absurd hz (Nat.not_lt_zero z)⟩
  rintro a0 v1 T h ⟨rfl, n, g, hn, rfl, rfl, g1, g2, g3⟩
  apply hX
  have e105 : (105 : Int32).toInt = 105 := by decide
  have nk : (nI n).toInt = (n : Int) := nI_i (by omega)
  have ck : (nI n).toNatClampNeg = n := nI_cl (by omega)
  obtain ⟨q1, q2, q3, q4, q5, q6, q7, q8, q9⟩ := mv
  refine ⟨fun cc => ?_, fun cc => ?_⟩
  · have n7 : n = 105 := by have := le_i cc; omega
    rw [n7] at g3
    obtain ⟨o1, h⟩ := h.1 cc
    refine ⟨o1, fun x2 w2 x3 w3 S4 w4 => ?_⟩
    have h := h x2 w2 x3 w3 S4 w4
    have r : fI S4 a0 = va_up (fI S a0) 24 x3 := row_I (S := wJ S g) w4
    have rj : fJ S4 = g := by rw [w4]; rfl
    have d4 : DSm a0 S S4 := dm_tr (dm_wJ g) (dm_I w4)
    have mvt : ∀ {b o w}, MVd (wJ S g) b o w → MVd S4 b o w := fun h => mvd_mv h (by rw [rj]; rfl)
    have md4 : MDd a0 (rotD D) S4 := by
      refine ⟨dm_o d4 om, d, p, k, ms_mv ms d4, by rw [r]; exact q1, by rw [r]; exact q2, ?_, by rw [r]; exact q4, by show 15 ≤ 16; omega, q6, mvt (mv_nx g1 q7 ms.2.2.2.2.2.2.1.symm), fun i hi => ?_, fun i hi => mvt (mv_nx g1 (q9 i hi) ms.2.2.2.2.2.2.2.2)⟩
      · rw [r, va_up_self, w3, w2]
        show fI S a0 24 - 1 = nI 15
        rw [q3, hu]
        decide
      · have hi : i < 15 := hi
        refine mvt ?_
        have w := q8 (i + 1) (by omega)
        rw [show 7 * (i + 1) = 7 * i + 7 by omega] at w
        refine ⟨(g3 (7 * i) (by omega)).trans w.1, (g3 (7 * i + 1) (by omega)).trans ?_, fun f hf => (g3 (7 * i + 2 + f) (by omega)).trans ?_⟩
        · rw [show 7 * i + 1 + 7 = 7 * i + 7 + 1 by omega]
          exact w.2.1
        · rw [show 7 * i + 2 + f + 7 = 7 * i + 7 + 2 + f by omega]
          exact w.2.2 f hf
    refine cm_X11_keeps_48 (kp48 md4 (by show 15 < 16; omega) h) h (fun T hp _ => ⟨hp.1, hp.2.1, dm_tr d4 hp.2.2⟩)
  · have lt := nle_i cc
    obtain ⟨o1, a5, e5, a6, e6, o6, h⟩ := h.2 cc
    cases ms.2.1.symm.trans e5
    cases ms.2.1.symm.trans e6
    refine ⟨o1, _, e5, _, e6, o6, fun x8 w8 => ?_⟩
    obtain ⟨i8, h⟩ := h x8 w8
    have w8 : x8 = nI (n + 7) := by rw [w8]; exact nI_add n 7
    refine ⟨i8, fun x9 w9 => ?_⟩
    obtain ⟨o9, i9, h⟩ := h x9 w9
    have w9 : x9 = g p (n + 7) := by rw [w9, w8, nI_cl (by omega)]; rfl
    refine ⟨o9, i9, fun S11 w11 x12 w12 => h S11 w11 x12 w12 ⟨rfl, n + 1, u2 g p n x9, by omega, by rw [w12]; exact nI_add n 1, by rw [w11, ck]; rfl, fun x hx => (u2_row _ _ hx).trans (g1 x hx), fun z hz => ?_, fun z hz => ?_⟩⟩
    · rw [u2_ne _ _ (by omega)]
      exact g2 z (by omega)
    · by_cases e : z = n
      · rw [e, u2_self, w9, g2 (n + 7) (by omega)]
      · rw [u2_ne _ _ (by omega)]
        exact g3 z (by omega)
theorem sm_X11_keeps (md : MDd m D S) (h : P_X11_keeps m Q0 S) : P_X11_keeps m (fun T => Q0 T ∧ MDd m (kpF D) T ∧ DSm m S T) S := by
  have md0 := md
  obtain ⟨om, d, p, k, ms, mv⟩ := md0
  have u := mv.2.2.2.2.1
  delta P_X11_keeps P_X11_keeps_0
  obtain ⟨o1, h⟩ := h
  refine ⟨o1, fun x1 q1 => ?_⟩
  have h := h x1 q1
  have q1 := q1.trans mv.2.2.1
  have n1 : x1.toInt = (dU D : Int) := by rw [q1, nI_i (by omega)]
  have e16 : (16 : Int32).toInt = 16 := by decide
  unfold kpF
  refine ⟨fun cc => ?_, fun cc => ?_⟩
  · have hu : ¬ dU D = 16 := fun z => cc (by rw [q1, z]; rfl)
    rw [if_neg hu]
    exact kp48 md (by omega) (h.1 cc)
  · have hu : dU D = 16 := by rw [cc] at n1; omega
    rw [if_pos hu]
    exact kpm11 md hu (h.2 cc)
theorem sm_granted {md' : Prop} (h : P_X11_granted m Q S) : P_X11_granted m (fun x T => Q x T ∧ x = 1 ∧ Fr [1, 2] [] m S T) S := by
  delta P_X11_granted P_X11_granted_0
  obtain ⟨o1, h⟩ := h
  refine ⟨o1, ?_⟩
  refine cm_X11_good (sp_X11_good h) h (fun x U hp h g => ⟨h g, rfl, hp.2.2.1⟩)
theorem sm_denied (h : P_X11_denied m v Q S) : P_X11_denied m v (fun x T => Q x T ∧ x = 0 ∧ Fr [1, 2] [] m S T) S := by
  delta P_X11_denied P_X11_denied_0
  obtain ⟨o1, h⟩ := h
  refine ⟨o1, ?_⟩
  refine cm_X11_refused (sp_X11_refused h) h (fun x U hp h g => ⟨h g, rfl, hp.2.2.1⟩)
/-- the day's row is written out of another -/
theorem md_nw {g : Nat → Nat → Int64} {w : MO} {u' k' : Nat} (om : ob S m 11) (ms : MDs m d p k S) (mv : MDv m d p k D S) (g1 : ∀ x, x ≠ d → g x = fJ S x) (hw : MVd (wJ S g) d 0 w) : MDd m (nwD D w) (wJ S g) := by
  obtain ⟨q1, q2, q3, q4, q5, q6, q7, q8, q9⟩ := mv
  exact ⟨om, d, p, k, ms_mv ms (dm_wJ g), q1, q2, q3, q4, q5, q6, hw, fun i hi => mv_nx g1 (q8 i hi) ms.2.2.2.2.2.2.1, fun i hi => mv_nx g1 (q9 i hi) ms.2.2.2.2.2.2.2.1⟩
theorem tl_X11_undo (hm : HM m A G S) (md : MDd m D S) (db : DBd A D) (h : P_X11_undo m Q S) : P_X11_undo m (fun x T => Q x T ∧ ans (0 < dU D) x ∧ MDd m (nxundo D) T) S := by
  have om := md.1
  delta P_X11_undo P_X11_undo_0
  obtain ⟨o1, h⟩ := h
  refine ⟨o1, fun S1 s1 => ?_⟩
  have h := h S1 s1
  have md1 := md_I md s1 (by decide) (by decide) (by decide) (by decide)
  have d1 : DSm m S S1 := dm_I s1
  have hm1 := hm_ds om d1 hm
  have no : ¬ 0 < dU D → P_X11_undo_19 Q m S1 → P_X11_undo_19 (fun x T => Q x T ∧ ans (0 < dU D) x ∧ MDd m (nxundo D) T) m S1 := by
    intro hn h
    delta P_X11_undo_19
    obtain ⟨o1, h⟩ := h
    refine ⟨o1, ?_⟩
    refine cm_X11_denied (sm_denied h) h (fun x U hp h g b => ?_)
    have h := h g b
    unfold nxundo
    rw [if_neg hn]
    exact ⟨h.1, h.2, Or.inr ⟨hn, hp.2.1⟩, md_12 md1 hp.2.2⟩
  refine cm_X11_isDay (sm_X11_isDay hm1 md1 db h) h (fun x4 S2 hp h g b => ?_)
  have h := h g b
  obtain ⟨-, hS, hx⟩ := hp
  subst hS
  refine ⟨fun cc => no (fun z => ?_) (h.1 cc), fun cc => ?_⟩
  · rcases db with q | q
    · omega
    · exact an0 hx cc q.1
  have h := h.2 cc
  obtain ⟨om1, d, p, k, ms, mv⟩ := md1
  intro x6 q6
  have h := h x6 q6
  have q6 := q6.trans mv.2.2.1
  have u := mv.2.2.2.2.1
  have n6 : x6.toInt = (dU D : Int) := by rw [q6, nI_i (by omega)]
  refine Iff.mp and_comm ⟨fun c2 => no (fun z => ?_) (h.2 c2), fun c2 => ?_⟩
  · rw [c2] at n6
    have e0 : (0 : Int32).toInt = 0 := by decide
    omega
  have hu : 0 < dU D := Nat.pos_of_ne_zero (fun z => c2 (by rw [q6, z]; rfl))
  have h := h.1 c2
  intro x8 q8 x9 q9 S10 q10
  have h := h x8 q8 x9 q9 S10 q10
  have e9 : x9 = nI (dU D - 1) := by
    rw [q9, q8, mv.2.2.1]
    have w : nI (dU D) = nI (dU D - 1) + (1 : Int32) := by
      have := nI_add (dU D - 1) 1
      rw [show dU D - 1 + 1 = dU D by omega] at this
      exact this.symm
    rw [w, Int32.add_sub_cancel]
  have r10 : fI S10 m = va_up (fI S1 m) 24 x9 := row_I q10
  have rj : fJ S10 = fJ S1 := by rw [q10]; rfl
  have d10 : DSm m S1 S10 := dm_I q10
  have ms10 := ms_mv ms d10
  intro X hX
  refine h (fun a0 v1 T => (a0 = m ∧ ∃ n g, n ≤ 7 ∧ v1 = nI n ∧ T = wJ S10 g ∧ cpJ S10 g d 0 p (7 * (dU D - 1)) n) → X a0 v1 T) ?_ ⟨rfl, 0, fJ S10, by decide, rfl, rfl, cp_0⟩
  rintro a0 v1 T h ⟨rfl, n, g, hn, rfl, rfl, cp⟩
  apply hX
  have e7 : (7 : Int32).toInt = 7 := by decide
  have nk : (nI n).toInt = (n : Int) := nI_i (by omega)
  have ck : (nI n).toNatClampNeg = n := nI_cl (by omega)
  refine ⟨fun cc => ?_, fun cc => ?_⟩
  · have n7 : n = 7 := by have := le_i cc; omega
    rw [n7] at cp
    obtain ⟨o1, h⟩ := h.1 cc
    refine ⟨o1, ?_⟩
    refine cm_X11_granted (sm_granted (md' := True) h) h (fun x U hp h g b => ?_)
    have h := h g b
    refine ⟨h.1, h.2, Or.inl ⟨hu, hp.2.1⟩, ?_⟩
    unfold nxundo
    rw [if_pos hu]
    refine md_12 ?_ hp.2.2
    obtain ⟨w1, w2, w3, w4, w5, w6, w7, w8, w9⟩ := mv
    have mvt : ∀ {b o w}, MVd S1 b o w → MVd S10 b o w := fun h => mvd_mv h (by rw [rj])
    refine ⟨dm_o d10 om1, d, p, k, ms_mv ms10 (dm_wJ _), ?_, ?_, ?_, ?_, by show dU D - 1 ≤ 16; omega, w6, mv_cp cp (mvt (w8 (dU D - 1) (by omega))), fun i hi => mv_nx cp.1 (mvt (w8 i (by have hi : i < dU D - 1 := hi; omega))) ms.2.2.2.2.2.2.1, fun i hi => mv_nx cp.1 (mvt (w9 i hi)) ms.2.2.2.2.2.2.2.1⟩
    · show fI S10 a0 19 = _; rw [r10]; exact w1
    · show fI S10 a0 20 = _; rw [r10]; exact w2
    · show fI S10 a0 24 = _; rw [r10, va_up_self, e9]; rfl
    · show fI S10 a0 25 = _; rw [r10]; exact w4
  · have lt := nle_i cc
    obtain ⟨o1, a5, e5, a6, e6, h⟩ := h.2 cc
    cases ms10.1.symm.trans e5
    cases ms10.2.1.symm.trans e6
    refine ⟨o1, _, e5, _, e6, fun x7 w7 => ?_⟩
    obtain ⟨o7, h⟩ := h x7 w7
    have w7 : x7 = nI (dU D - 1) := by
      rw [w7]
      show fI S10 a0 24 = _
      rw [r10, va_up_self, e9]
    refine ⟨o7, fun y9 w9 => ?_⟩
    obtain ⟨i9, h⟩ := h y9 w9
    refine ⟨i9, fun x10 w10 => ?_⟩
    obtain ⟨o10, i10, h⟩ := h x10 w10
    refine ⟨o10, i10, fun S12 w12 x13 w13 => h S12 w12 x13 w13 ⟨rfl, n + 1, u2 g d (0 + n) x10, by omega, by rw [w13]; exact nI_add n 1, by rw [w12, ck, Nat.zero_add]; rfl, cp_s cp ms.2.2.2.2.2.2.1 ?_⟩⟩
    rw [w10, w9, w7, sv7, nI_cl (by omega)]
    rfl
theorem tl_X11_back (hm : HM m A G S) (md : MDd m D S) (db : DBd A D) (h : P_X11_back m v Q S) : P_X11_back m v (fun x T => Q x T ∧ ans (¬ v < 0 ∧ v < nI (dK D)) x ∧ MDd m (bkF D v) T) S := by
  have om := md.1
  delta P_X11_back P_X11_back_0
  obtain ⟨o1, h⟩ := h
  refine ⟨o1, fun S1 s1 => ?_⟩
  have h := h S1 s1
  have md1 := md_I md s1 (by decide) (by decide) (by decide) (by decide)
  have d1 : DSm m S S1 := dm_I s1
  have hm1 := hm_ds om d1 hm
  have no : ¬ (¬ v < 0 ∧ v < nI (dK D)) → P_X11_back_24 Q m S1 → P_X11_back_24 (fun x T => Q x T ∧ ans (¬ v < 0 ∧ v < nI (dK D)) x ∧ MDd m (bkF D v) T) m S1 := by
    intro hn h
    delta P_X11_back_24
    obtain ⟨o1, h⟩ := h
    refine ⟨o1, ?_⟩
    refine cm_X11_denied (sm_denied h) h (fun x U hp h g b => ?_)
    have h := h g b
    unfold bkF
    rw [dc_n hn]
    exact ⟨h.1, h.2, Or.inr ⟨hn, hp.2.1⟩, md_12 md1 hp.2.2⟩
  refine cm_X11_isDay (sm_X11_isDay hm1 md1 db h) h (fun x4 S2 hp h g b => ?_)
  have h := h g b
  obtain ⟨-, hS, hx⟩ := hp
  subst hS
  refine ⟨fun cc => no (fun z => ?_) (h.1 cc), fun cc => ?_⟩
  · rcases db with q | q
    · rw [q.2.2] at z
      exact zero_n rfl z
    · exact an0 hx cc q.1
  have h := h.2 cc
  refine ⟨fun c1 => no (fun z => z.1 c1) (h.1 c1), fun c1 => ?_⟩
  have h := h.2 c1
  obtain ⟨om1, d, p, k, ms, mv⟩ := md1
  intro x7 q7
  have h := h x7 q7
  have q7 := q7.trans mv.2.2.2.1
  have k3 := mv.2.2.2.2.2.1
  rw [q7] at h ⊢
  refine Iff.mp and_comm ⟨fun c2 => no (fun z => c2 z.2) (h.2 c2), fun c2 => ?_⟩
  have ok : ¬ v < 0 ∧ v < nI (dK D) := ⟨c1, c2⟩
  have hv := ix_lt (by omega) ok
  have ev : v = nI v.toNatClampNeg := by
    have e0 : (0 : Int32).toInt = 0 := by decide
    have := nlt_i c1
    apply Int32.toInt_inj.mp
    rw [nI_i (by omega), Int32.toNatClampNeg]
    omega
  have h := h.1 c2
  intro X hX
  refine h (fun a0 a1 v1 T => (a0 = m ∧ a1 = v ∧ ∃ n g, n ≤ 7 ∧ v1 = nI n ∧ T = wJ S1 g ∧ cpJ S1 g d 0 k (7 * v.toNatClampNeg) n) → X a0 a1 v1 T) ?_ ⟨rfl, rfl, 0, fJ S1, by decide, rfl, rfl, cp_0⟩
  rintro a0 a1 v1 T h ⟨rfl, rfl, n, g, hn, rfl, rfl, cp⟩
  apply hX
  have e7 : (7 : Int32).toInt = 7 := by decide
  have nk : (nI n).toInt = (n : Int) := nI_i (by omega)
  have ck : (nI n).toNatClampNeg = n := nI_cl (by omega)
  refine ⟨fun cc => ?_, fun cc => ?_⟩
  · have n7 : n = 7 := by have := le_i cc; omega
    rw [n7] at cp
    obtain ⟨o1, h⟩ := h.1 cc
    refine ⟨o1, fun S2 w2 => ?_⟩
    have h := h S2 w2
    have r : fI S2 a0 = va_up (fI S1 a0) 24 0 := row_I (S := wJ S1 g) w2
    have rj : fJ S2 = g := by rw [w2]; rfl
    have d2 : DSm a0 S1 S2 := dm_tr (dm_wJ g) (dm_I w2)
    have mvt : ∀ {b o w}, MVd (wJ S1 g) b o w → MVd S2 b o w := fun h => mvd_mv h (by rw [rj]; rfl)
    refine cm_X11_granted (sm_granted (md' := True) h) h (fun x U hp h g b => ?_)
    have h := h g b
    refine ⟨h.1, h.2, Or.inl ⟨ok, hp.2.1⟩, ?_⟩
    unfold bkF
    rw [dc_y ok]
    refine md_12 ?_ hp.2.2
    obtain ⟨w1, w2, w3, w4, w5, w6, w7, w8, w9⟩ := mv
    exact ⟨dm_o d2 om1, d, p, k, ms_mv ms d2, by rw [r]; exact w1, by rw [r]; exact w2, by rw [r]; rfl, by rw [r]; exact w4, by show 0 ≤ 16; omega, w6, mvt (mv_cp cp (w9 _ hv)), fun i hi => absurd hi (Nat.not_lt_zero i), fun i hi => mvt (mv_nx cp.1 (w9 i hi) ms.2.2.2.2.2.2.2.1)⟩
  · have lt := nle_i cc
    obtain ⟨o1, a5, e5, a6, e6, o6, h⟩ := h.2 cc
    cases ms.1.symm.trans e5
    cases ms.2.2.1.symm.trans e6
    refine ⟨o1, _, e5, _, e6, o6, fun y9 w9 => ?_⟩
    obtain ⟨i9, h⟩ := h y9 w9
    refine ⟨i9, fun x10 w10 => ?_⟩
    obtain ⟨o10, i10, h⟩ := h x10 w10
    refine ⟨o10, i10, fun S12 w12 x13 w13 => h S12 w12 x13 w13 ⟨rfl, rfl, n + 1, u2 g d (0 + n) x10, by omega, by rw [w13]; exact nI_add n 1, by rw [w12, ck, Nat.zero_add]; rfl, cp_s cp ms.2.2.2.2.2.2.2.1 ?_⟩⟩
    have w9 : y9 = nI (7 * a1.toNatClampNeg + n) := by
      rw [w9]
      rw [← sv7, ← ev]
    rw [w10, w9, nI_cl (by omega)]
    rfl
theorem tl_X11_mark (hm : HM m A G S) (md : MDd m D S) (db : DBd A D) (h : P_X11_mark m Q S) : P_X11_mark m (fun x T => Q x T ∧ x = tellmark D ∧ MDd m (nxmark D) T) S := by
  have om := md.1
  delta P_X11_mark P_X11_mark_0
  obtain ⟨o1, h⟩ := h
  refine ⟨o1, fun S1 s1 => ?_⟩
  have h := h S1 s1
  have md1 := md_I md s1 (by decide) (by decide) (by decide) (by decide)
  have d1 : DSm m S S1 := dm_I s1
  have hm1 := hm_ds om d1 hm
  refine cm_X11_isDay (sm_X11_isDay hm1 md1 db h) h (fun x4 S2 hp h g b => ?_)
  have h := h g b
  obtain ⟨-, hS, hx⟩ := hp
  subst hS
  unfold tellmark nxmark
  refine Iff.mp and_comm ⟨fun cc => ?_, fun cc => ?_⟩
  · have h := h.2 cc
    have hn := an0 hx cc
    refine cm_X11_refused (sp_X11_refused h) h (fun x U hp h g => ⟨h g, ?_⟩)
    rw [dc_n hn, dc_n hn]
    exact ⟨hp.2.1, md_12 md1 hp.2.2.1⟩
  have on := an1 hx cc
  rw [dc_y on, dc_y on]
  have h := h.1 cc
  obtain ⟨om1, d, p, k, ms, mv⟩ := md1
  intro x6 q6
  have h := h x6 q6
  have q6 := q6.trans mv.2.2.2.1
  have k3 := mv.2.2.2.2.2.1
  have n6 : x6.toInt = (dK D : Int) := by rw [q6, nI_i (by omega)]
  have e3 : (3 : Int32).toInt = 3 := by decide
  refine Iff.mp and_comm ⟨fun c2 => ?_, fun c2 => ?_⟩
  · have h := h.2 c2
    rw [c2] at n6
    have hk : ¬ dK D < 3 := by omega
    refine cm_X11_refused (sp_X11_refused h) h (fun x U hp h g => ⟨h g, ?_⟩)
    rw [if_neg hk, if_neg hk]
    exact ⟨hp.2.1, md_12 ⟨om1, d, p, k, ms, mv⟩ hp.2.2.1⟩
  have hk : dK D < 3 := by
    have : ¬ dK D = 3 := fun z => c2 (by rw [q6, z]; rfl)
    omega
  rw [if_pos hk, if_pos hk]
  have h := h.1 c2
  intro X hX
  refine h (fun a0 v1 T => (a0 = m ∧ ∃ n g, n ≤ 7 ∧ v1 = nI n ∧ T = wJ S1 g ∧ cpJ S1 g k (7 * dK D) d 0 n) → X a0 v1 T) ?_ ⟨rfl, 0, fJ S1, by decide, rfl, rfl, cp_0⟩
  rintro a0 v1 T h ⟨rfl, n, g, hn, rfl, rfl, cp⟩
  apply hX
  have e7 : (7 : Int32).toInt = 7 := by decide
  have nk : (nI n).toInt = (n : Int) := nI_i (by omega)
  have ck : (nI n).toNatClampNeg = n := nI_cl (by omega)
  refine ⟨fun cc => ?_, fun cc => ?_⟩
  · have n7 : n = 7 := by have := le_i cc; omega
    rw [n7] at cp
    obtain ⟨o1, h⟩ := h.1 cc
    refine ⟨o1, fun x2 w2 x3 w3 S4 w4 x5 w5 => ?_⟩
    have h := h x2 w2 x3 w3 S4 w4 x5 w5
    have w2 : x2 = nI (dK D) := w2.trans mv.2.2.2.1
    have w3 : x3 = nI (dK D + 1) := by rw [w3, w2]; exact nI_add (dK D) 1
    have r : fI S4 a0 = va_up (fI S1 a0) 25 x3 := row_I (S := wJ S1 g) w4
    have rj : fJ S4 = g := by rw [w4]; rfl
    have d4 : DSm a0 S1 S4 := dm_tr (dm_wJ g) (dm_I w4)
    have mvt : ∀ {b o w}, MVd (wJ S1 g) b o w → MVd S4 b o w := fun h => mvd_mv h (by rw [rj]; rfl)
    have w5 : x5 - 1 = nI (dK D) := by
      rw [w5, r, va_up_self, w3]
      have w : nI (dK D + 1) = nI (dK D) + (1 : Int32) := (nI_add (dK D) 1).symm
      rw [w, Int32.add_sub_cancel]
    refine cm_X11_good (sp_X11_good h) h (fun x U hp h g => ⟨h g, hp.2.1.trans w5, md_12 ?_ hp.2.2.1⟩)
    obtain ⟨q1, q2, q3, q4, q5, q6, q7, q8, q9⟩ := mv
    refine ⟨dm_o d4 om1, d, p, k, ms_mv ms d4, by rw [r]; exact q1, by rw [r]; exact q2, by rw [r]; exact q3, by rw [r, va_up_self, w3]; rfl, q5, by show dK D + 1 ≤ 3; omega, mvt (mv_nx cp.1 q7 ms.2.2.2.2.2.2.2.1.symm), fun i hi => mvt (mv_nx cp.1 (q8 i hi) ms.2.2.2.2.2.2.2.2.symm), fun i hi => ?_⟩
    have hi : i < dK D + 1 := hi
    refine mvt ?_
    show MVd (wJ S1 _) k (7 * i) (if i = dK D then dN D else dM D i)
    by_cases z : i = dK D
    · rw [if_pos z, z]
      exact mv_cp cp q7
    · rw [if_neg z]
      exact mv_ot cp (q9 i (by omega)) (by omega)
  · have lt := nle_i cc
    obtain ⟨o1, a9, e9, h⟩ := h.2 cc
    cases ms.2.2.1.symm.trans e9
    refine ⟨o1, _, e9, fun x10 w10 => ?_⟩
    obtain ⟨a11, e11, o11, i11, h⟩ := h x10 w10
    cases ms.1.symm.trans e11
    have w10 : x10 = nI (dK D) := w10.trans mv.2.2.2.1
    refine ⟨_, e11, o11, i11, fun x13 w13 => ?_⟩
    obtain ⟨o13, i13, h⟩ := h x13 w13
    refine ⟨o13, i13, fun S15 w15 x16 w16 => h S15 w15 x16 w16 ⟨rfl, n + 1, u2 g k (7 * dK D + n) x13, by omega, by rw [w16]; exact nI_add n 1, by rw [w15, w10, sv7, nI_cl (by omega)]; rfl, cp_s cp ms.2.2.2.2.2.2.2.1.symm ?_⟩⟩
    rw [w13, ck, Nat.zero_add]
    rfl
end C52
end
section
/-! what the reference's got, wetness, soaked, day tell -/
section C53
variable {m d p k rd a b i j : Nat} {A : AS} {G : GC} {D : DY} {S T U : HS} {v v1 v2 v3 v4 x y t l : Int32} {Q : Int32 → HS → Prop} {QJ : Int64 → HS → Prop} {Q0 : HS → Prop}
theorem hm_rd (hm : HM m A G S) (db : DBd A D) (on : onD D) : ∃ rd, WRm m rd A G S := hm.elim (fun z => by
  have := (db_on db on).1
  rw [z.2] at this
  exact absurd this (zero_n (k := aW A00) rfl)) id
theorem sm_X11_isPlace (hm : HM m A G S) (h : P_X11_isPlace m v Q S) : P_X11_isPlace m v (fun x T => Q x T ∧ S = T ∧ ans ((∃ rd, WRm m rd A G S) ∧ ¬ v < 0 ∧ v < nI (aP A)) x) S := by
  delta P_X11_isPlace P_X11_isPlace_0
  obtain ⟨o1, h⟩ := h
  refine ⟨o1, fun n => ⟨h.1 n, rfl, Or.inr ⟨fun z => ?_, rfl⟩⟩, fun a1 e1 => ?_⟩
  · obtain ⟨⟨rd, hr⟩, -⟩ := z
    exact absurd (hr.1.symm.trans n) (by intro z; cases z)
  have h := h.2 a1 e1
  have hr : WRm m a1 A G S := hm.elim (fun z => absurd (z.1.symm.trans e1) (by intro z; cases z)) (fun ⟨rd, hr⟩ => by
    cases hr.1.symm.trans e1
    exact hr)
  refine ⟨fun c1 => ⟨h.1 c1, rfl, Or.inr ⟨fun z => z.2.1 c1, rfl⟩⟩, fun c1 => ?_⟩
  obtain ⟨a4, e4, o4, h⟩ := h.2 c1
  cases e1.symm.trans e4
  refine ⟨_, e4, o4, fun x5 q5 => ?_⟩
  have h := h x5 q5
  have q5 := q5.trans hr.2.2.1.2.2.1
  rw [q5] at h ⊢
  exact ⟨fun c2 => ⟨h.1 c2, rfl, Or.inr ⟨fun z => absurd z.2.2 (Int32.not_lt.mpr c2), rfl⟩⟩, fun c2 => ⟨h.2 c2, rfl, Or.inl ⟨⟨⟨_, hr⟩, c1, Int32.not_le.mp c2⟩, rfl⟩⟩⟩
theorem rm_n32 {a b : Int32} {n k : Nat} (ha : a.toInt = (n : Int)) (hb : b.toInt = (k : Int)) (h : 0 < k) : (a - a / b * b).toInt = ((n % k : Nat) : Int) := by
  have h1 : (a.toInt.tmod b.toInt).natAbs < b.toInt.natAbs := by
    rw [Int.natAbs_tmod]
    exact Nat.mod_lt _ (by omega)
  have l1 := b.le_toInt
  have l2 := b.toInt_lt
  have e : (a - a / b * b).toInt = a.toInt.tmod b.toInt := by
    rw [Int32.toInt_sub, Int32.toInt_mul, Int32.toInt_div, Int.bmod_mul_bmod, Int.sub_bmod_bmod, Int.mul_comm, ← Int.tmod_def]
    exact Int.bmod_eq_of_le (by omega) (by omega)
  rw [e, ha, hb]
  exact (Int.ofNat_tmod n k).symm
theorem dr_step {s : Int32} {n : Nat} (hs : s.toInt = (n : Int)) (hn : n ≤ 65536) : (rm7 ((75 : Int32) * s + (74 : Int32))).toInt = (((75 * n + 74) % 65537 : Nat) : Int) ∧ ((((75 : Int64) * s.toInt64) + (74 : Int64)) - (((75 : Int64) * s.toInt64) + (74 : Int64)) / (65537 : Int64) * (65537 : Int64)).toInt32 = rm7 ((75 : Int32) * s + (74 : Int32)) := by
  have e75 : (75 : Int32).toInt = 75 := by decide
  have e74 : (74 : Int32).toInt = 74 := by decide
  have f75 : (75 : Int64).toInt = 75 := by decide
  have f74 : (74 : Int64).toInt = 74 := by decide
  have ea : ((75 : Int32) * s + (74 : Int32)).toInt = ((75 * n + 74 : Nat) : Int) := by
    rw [Int32.toInt_add, Int32.toInt_mul, hs, e75, e74, Int.bmod_add_bmod, Int.bmod_eq_of_le (by omega) (by omega)]
    omega
  have eb : ((75 : Int64) * s.toInt64 + (74 : Int64)).toInt = ((75 * n + 74 : Nat) : Int) := by
    rw [Int64.toInt_add, Int64.toInt_mul, Int32.toInt_toInt64, hs, f75, f74, Int.bmod_add_bmod, Int.bmod_eq_of_le (by omega) (by omega)]
    omega
  have r1 : (rm7 ((75 : Int32) * s + (74 : Int32))).toInt = (((75 * n + 74) % 65537 : Nat) : Int) := rm_n32 ea (by decide) (by decide)
  have r2 := rem_n (a := (75 : Int64) * s.toInt64 + (74 : Int64)) (b := 65537) (k := 65537) eb (by decide) (by decide)
  have lt : (75 * n + 74) % 65537 < 65537 := Nat.mod_lt _ (by decide)
  refine ⟨r1, Int32.toInt_inj.mp ?_⟩
  rw [Int64.toInt_toInt32, r2, r1, Int.bmod_eq_of_le (by omega) (by omega)]
theorem drS_b {s : Int32} (h0 : 0 ≤ s.toInt) (h1 : s.toInt ≤ 65536) : ∀ k, ∃ n : Nat, (drS k s).toInt = (n : Int) ∧ n ≤ 65536
  | 0 => ⟨s.toInt.toNat, by show s.toInt = _; omega, by omega⟩
  | k + 1 => by
    obtain ⟨n, e, hn⟩ := drS_b h0 h1 k
    have lt : (75 * n + 74) % 65537 < 65537 := Nat.mod_lt _ (by decide)
    exact ⟨_, (dr_step e hn).1, by omega⟩
theorem md_who {w : Int32} (md : MDd m D S) (e : T = sI S m 19 w) (hw : ¬ w = -1) : MDd m (w, D.2) T := by
  obtain ⟨om, d, p, k, ms, q1, q2, q3, q4, q5, q6, q7, q8, q9⟩ := md
  have r : fI T m = va_up (fI S m) 19 w := row_I e
  have rj : fJ T = fJ S := by rw [e]; rfl
  refine ⟨dm_o (dm_I (m := m) e) om, d, p, k, ms_mv ms (dm_I e), ?_, by rw [r]; exact q2, by rw [r]; exact q3, by rw [r]; exact q4, q5, q6, mvd_mv q7 (by rw [rj]), fun i hi => mvd_mv (q8 i hi) (by rw [rj]), fun i hi => mvd_mv (q9 i hi) (by rw [rj])⟩
  rw [r, va_up_self]
  show w = mwO w
  unfold mwO
  rw [if_neg hw]
theorem md_rn {w : Int32} (md : MDd m D S) (e : T = sI S m 20 w) : MDd m (rnD D w) T := by
  obtain ⟨om, d, p, k, ms, q1, q2, q3, q4, q5, q6, q7, q8, q9⟩ := md
  have r : fI T m = va_up (fI S m) 20 w := row_I e
  have rj : fJ T = fJ S := by rw [e]; rfl
  exact ⟨dm_o (dm_I (m := m) e) om, d, p, k, ms_mv ms (dm_I e), by rw [r]; exact q1, by rw [r]; rfl, by rw [r]; exact q3, by rw [r]; exact q4, q5, q6, mvd_mv q7 (by rw [rj]), fun i hi => mvd_mv (q8 i hi) (by rw [rj]), fun i hi => mvd_mv (q9 i hi) (by rw [rj])⟩
theorem lp147 {p0 t0 : Int32} (md : MDd m D S) (h : P_X11_day_147 Q m p0 t0 0 S) : P_X11_day_147 (fun x T => Q x T ∧ x = dR D ∧ MDd m (bgD D (dW D) p0 t0) T) m p0 t0 0 S := by
  obtain ⟨om, d, p, k, ms, mv⟩ := md
  intro X hX
  refine h (fun a0 a2 a3 v6 T => (a0 = m ∧ a2 = p0 ∧ a3 = t0 ∧ ∃ n g, n ≤ 7 ∧ v6 = nI n ∧ T = wJ S g ∧ (∀ x, x ≠ d → g x = fJ S x) ∧ ∀ j, j < n → g d j = 0) → X a0 a2 a3 v6 T) ?_ ⟨rfl, rfl, rfl, 0, fJ S, by decide, rfl, rfl, fun _ _ => rfl, fun j hj => absurd hj (Nat.not_lt_zero j)⟩
  rintro a0 a2 a3 v6 T h ⟨rfl, rfl, rfl, n, g, hn, rfl, rfl, g1, g2⟩
  apply hX
  have e7 : (7 : Int32).toInt = 7 := by decide
  have nk : (nI n).toInt = (n : Int) := nI_i (by omega)
  have ck : (nI n).toNatClampNeg = n := nI_cl (by omega)
  refine ⟨fun cc => ?_, fun cc => ?_⟩
  · have n7 : n = 7 := by have := le_i cc; omega
    rw [n7] at g2
    obtain ⟨o1, a2', e2, o2, h⟩ := h.1 cc
    cases ms.1.symm.trans e2
    refine ⟨o1, _, e2, o2, fun x4 q4 => ?_⟩
    obtain ⟨i4, h⟩ := h x4 q4
    refine ⟨i4, fun S5 q5 => ?_⟩
    obtain ⟨a6, e6, o6, h⟩ := h S5 q5
    have r5 : fR S5 = fR S := by rw [q5]; rfl
    cases ms.1.symm.trans (by rw [← r5]; exact e6 : fR S a0 21 = some a6)
    refine ⟨_, e6, o6, fun x8 q8 => ?_⟩
    obtain ⟨i8, h⟩ := h x8 q8
    refine ⟨i8, fun S9 q9 S10 q10 S11 q11 x12 q12 => ?_⟩
    have h := h S9 q9 S10 q10 S11 q11 x12 q12
    have c0 : (0 : Int32).toNatClampNeg = 0 := by decide
    have c1 : (1 : Int32).toNatClampNeg = 1 := by decide
    rw [c0] at q5
    rw [c1] at q9
    have e9 : S9 = wJ S (u2 (u2 g d 0 x4) d 1 x8) := by rw [q9, q5]; rfl
    have d9 : DSm a0 S S9 := by rw [e9]; exact dm_wJ _
    have d11 : DSm a0 S S11 := dm_tr d9 (dm_tr (dm_I q10) (dm_I q11))
    have r10 : fI S10 a0 = va_up (fI S9 a0) 24 0 := row_I q10
    have r11 : fI S11 a0 = va_up (fI S10 a0) 25 0 := row_I q11
    have i9 : fI S9 = fI S := by rw [e9]; rfl
    rw [r10, i9] at r11
    have rj : fJ S11 = u2 (u2 g d 0 x4) d 1 x8 := by rw [q11, q10, e9]; rfl
    obtain ⟨w1, w2, w3, w4, w5, w6, w7, w8, w9⟩ := mv
    refine cm_X11_good (sp_X11_good h) h (fun x U hp h g => ⟨h g, ?_, md_12 ?_ hp.2.2.1⟩)
    · rw [hp.2.1, q12, r11]
      exact w2
    · refine ⟨dm_o d11 om, d, p, k, ms_mv ms d11, by rw [r11]; exact w1, by rw [r11]; exact w2, by rw [r11]; rfl, by rw [r11]; rfl, by show 0 ≤ 16; omega, by show 0 ≤ 3; omega, ⟨?_, ?_, fun f hf => ?_⟩, fun i hi => absurd hi (Nat.not_lt_zero i), fun i hi => absurd hi (Nat.not_lt_zero i)⟩
      · rw [rj, u2_ne _ _ (by omega), u2_self, q4]
        rfl
      · rw [rj, u2_self, q8]
        rfl
      · rw [rj, u2_ne _ _ (by omega), u2_ne _ _ (by omega)]
        exact g2 _ (by omega)
  · have lt := nle_i cc
    obtain ⟨o1, a16, e16, o16, i16, h⟩ := h.2 cc
    cases ms.1.symm.trans e16
    refine ⟨o1, _, e16, o16, i16, fun S18 w18 x19 w19 => h S18 w18 x19 w19 ⟨rfl, rfl, rfl, n + 1, u2 g d n 0, by omega, by rw [w19]; exact nI_add n 1, by rw [w18, ck]; rfl, fun x hx => (u2_row _ _ hx).trans (g1 x hx), fun j hj => ?_⟩⟩
    by_cases z : j = n
    · rw [z, u2_self]
    · rw [u2_ne _ _ (by omega)]
      exact g2 j (by omega)
theorem tl_X11_day (hm : HM m A G S) (ab : ABd A) (md : MDd m D S) (db : DBd A D) (h : P_X11_day m v1 v2 v3 v4 Q S) : P_X11_day m v1 v2 v3 v4 (fun x T => Q x T ∧ x = tellday A G v1 v2 v3 v4 ∧ MDd m (nxday A G D v1 v2 v3 v4) T) S := by
  have om := md.1
  have hh := ab.2.1
  delta P_X11_day P_X11_day_0
  obtain ⟨o1, h⟩ := h
  refine ⟨o1, fun S1 s1 => ?_⟩
  have h := h S1 s1
  have md1 := md_I md s1 (by decide) (by decide) (by decide) (by decide)
  have d1 : DSm m S S1 := dm_I s1
  have hm1 := hm_ds om d1 hm
  have no1 : ¬ dayOK A v1 v2 v3 v4 → P_X11_day_21 Q m S1 → P_X11_day_21 (fun x T => Q x T ∧ x = tellday A G v1 v2 v3 v4 ∧ MDd m (nxday A G D v1 v2 v3 v4) T) m S1 := by
    intro hn h
    delta P_X11_day_21
    obtain ⟨o1, h⟩ := h
    refine ⟨o1, ?_⟩
    refine cm_X11_refused (sp_X11_refused h) h (fun x U hp h g => ⟨h g, ?_⟩)
    unfold tellday nxday
    rw [dc_n hn, dc_n hn]
    exact ⟨hp.2.1, md_12 md1 hp.2.2.1⟩
  have no2 : ¬ dayOK A v1 v2 v3 v4 → P_X11_day_50 Q m S1 → P_X11_day_50 (fun x T => Q x T ∧ x = tellday A G v1 v2 v3 v4 ∧ MDd m (nxday A G D v1 v2 v3 v4) T) m S1 := by
    intro hn h
    delta P_X11_day_50
    obtain ⟨o1, h⟩ := h
    refine ⟨o1, ?_⟩
    refine cm_X11_refused (sp_X11_refused h) h (fun x U hp h g => ⟨h g, ?_⟩)
    unfold tellday nxday
    rw [dc_n hn, dc_n hn]
    exact ⟨hp.2.1, md_12 md1 hp.2.2.1⟩
  refine cm_X11_isWalker (sp_X11_isWalker hm1 h) h (fun x4 S2 hp h g b => ?_)
  have h := h g b
  obtain ⟨-, hS, hx⟩ := hp
  subst hS
  refine ⟨fun cc => no1 (fun z => ?_) (h.1 cc), fun cc => ?_⟩
  · rcases hm1 with ⟨n, hA⟩ | hr
    · rw [hA] at z
      exact zero_n (k := aW A00) rfl z.1.1
    · exact an0 hx cc ⟨hr, z.1.1⟩
  have k1 := (an1 hx cc).2
  obtain ⟨rd, hr⟩ := (an1 hx cc).1
  have h := h.2 cc
  refine cm_X11_isPlace (sm_X11_isPlace hm1 h) h (fun x8 S6 hp h g b => ?_)
  have h := h g b
  obtain ⟨-, hS, hx8⟩ := hp
  subst hS
  refine Iff.mp and_comm ⟨fun cc => no1 (fun z => an0 hx8 cc ⟨⟨rd, hr⟩, z.1.2⟩) (h.2 cc), fun cc => ?_⟩
  have k2 := (an1 hx8 cc).2
  have h := h.1 cc
  refine cm_X11_in (sp_X11_in h) h (fun x12 S10 hp h g b => ?_)
  have h := h g b
  obtain ⟨-, hS, hx12⟩ := hp
  subst hS
  refine ⟨fun cc => no2 (fun z => an0 hx12 cc z.2.1) (h.1 cc), fun cc => ?_⟩
  have k3 := an1 hx12 cc
  have h := h.2 cc
  refine cm_X11_in (sp_X11_in h) h (fun x16 S14 hp h g b => ?_)
  have h := h g b
  obtain ⟨-, hS, hx16⟩ := hp
  subst hS
  refine Iff.mp and_comm ⟨fun cc => no2 (fun z => an0 hx16 cc z.2.2) (h.2 cc), fun cc => ?_⟩
  have k4 := an1 hx16 cc
  have ok : dayOK A v1 v2 v3 v4 := ⟨⟨k1, k2⟩, k3, k4⟩
  have h := h.1 cc
  intro S18 q18 S19 q19
  have h := h S18 q18 S19 q19
  have nw : ¬ v1 = -1 := fun z => k1.1 (by rw [z]; decide)
  have md18 := md_who md1 q18 nw
  have md19 := md_rn md18 q19
  have d19 : DSm m S1 S19 := dm_tr (dm_I q18) (dm_I q19)
  have e0 : (0 : Int32).toInt = 0 := by decide
  have e5 : (65536 : Int32).toInt = 65536 := by decide
  have s0 := nlt_i (fun z => k4 (Or.inl z))
  have s1' := nlt_i (fun z => k4 (Or.inr z))
  have sb := drS_b (s := v4) (by omega) (by omega)
  unfold tellday nxday
  rw [dc_y ok, dc_y ok]
  intro X hX
  refine h (fun a0 a2 a3 v5 v6 T => (a0 = m ∧ a2 = v2 ∧ a3 = v3 ∧ ∃ n, n ≤ aHs A ∧ v6 = nI n ∧ v5 = drS n v4 ∧ MDd m (rnD (v1, D.2) (drB G n v4)) T ∧ DSm m S1 T) → X a0 a2 a3 v5 v6 T) ?_ ⟨rfl, rfl, rfl, 0, Nat.zero_le _, rfl, rfl, md19, d19⟩
  rintro a0 a2 a3 v5 v6 T h ⟨rfl, rfl, rfl, n, hn, rfl, rfl, mdT, dT⟩
  apply hX
  have hrT := wrm_ds md1.1 dT hr
  obtain ⟨o1, a1, e1, o2, h⟩ := h
  cases hrT.1.symm.trans e1
  refine ⟨o1, _, e1, o2, fun x2 q2 => ?_⟩
  have h := h x2 q2
  have q2 := q2.trans hrT.2.2.1.2.1
  have n2 : x2.toInt = (aHs A : Int) := by rw [q2, nI_i (by omega)]
  have nk : (nI n).toInt = (n : Int) := nI_i (by omega)
  have ck : (nI n).toNatClampNeg = n := nI_cl (by omega)
  refine ⟨fun cc => ?_, fun cc => ?_⟩
  · have kk : n = aHs A := by have := le_i cc; omega
    rw [kk] at mdT
    have h := h.1 cc
    exact cm_X11_day_147 (lp147 mdT h) h (fun x T hp hq => ⟨hq, hp.2.1, hp.2.2⟩)
  have lt := nle_i cc
  have h := h.2 cc
  obtain ⟨sn, es, hs⟩ := sb n
  have ds := dr_step es hs
  intro x4 q4 x5 q5 x6 q6 x7 q7
  obtain ⟨a8, e8, o8, a9, e9, o9, i9, h⟩ := h x4 q4 x5 q5 x6 q6 x7 q7
  cases hrT.1.symm.trans e8
  refine ⟨_, e8, o8, _, e9, o9, i9, fun x11 q11 => ?_⟩
  have h := h x11 q11
  rw [ck] at q11
  have q11 : x11 = gRn G n 4 := q11.trans (hrT.2.2.2.1 11 a9 (by decide) (by decide) e9 n (by show n < aHs A; omega))
  have q5 : x5 = drS (n + 1) v4 := by rw [q5, q4]; exact ds.2
  have q7 : x7 = rm1 (drS (n + 1) v4) := by rw [q7, q5]; rfl
  have q6 : x6 = drB G n v4 := by
    obtain ⟨_, _, _, _, _, mv⟩ := mdT
    exact q6.trans mv.2.1
  rw [q11, q7, q6, q5] at h
  rw [q11, q7, q6, q5]
  have en : ∀ {z : Int32}, drB G n v4 ||| z = drB G (n + 1) v4 → P_X11_day_134 Q (fun a0_1 a2_1 a3_1 v5 v6 T => (a0_1 = a0 ∧ a2_1 = a2 ∧ a3_1 = a3 ∧ ∃ n, n ≤ aHs A ∧ v6 = nI n ∧ v5 = drS n v4 ∧ MDd a0 (rnD (v1, D.2) (drB G n v4)) T ∧ DSm a0 S1 T) → X a0_1 a2_1 a3_1 v5 v6 T) a0 a2 a3 (drS (n + 1) v4) (nI n) a0 (drB G n v4) z T → P_X11_day_134 (fun x T => Q x T ∧ x = drB G (aHs A) v4 ∧ MDd a0 (rnD (bgD D v1 a2 a3) (drB G (aHs A) v4)) T) X a0 a2 a3 (drS (n + 1) v4) (nI n) a0 (drB G n v4) z T := by
    intro z hz h
    delta P_X11_day_134
    obtain ⟨o1, h⟩ := h
    refine ⟨o1, fun x1 q1 S2 q2 x3 q3 => h x1 q1 S2 q2 x3 q3 ⟨rfl, rfl, rfl, n + 1, by omega, by rw [q3]; exact nI_add n 1, rfl, ?_, dm_tr dT (dm_I q2)⟩⟩
    have := md_rn mdT q2
    rw [q1, hz] at this
    exact this
  refine ⟨fun c2 => en ?_ (h.1 c2), fun c2 => en ?_ (h.2 c2)⟩
  · rw [Int32.or_zero]
    show _ = if gRn G n 4 ≤ rm1 (drS (n + 1) v4) then drB G n v4 else _
    rw [if_pos c2]
  · show _ = if gRn G n 4 ≤ rm1 (drS (n + 1) v4) then _ else drB G n v4 ||| ((1 : Int32) <<< (nI n &&& 31))
    rw [if_neg c2]
end C53
/-! what the reference's go and stay tell, and leave -/
section C54
variable {m d p k rd a b i j : Nat} {A : AS} {G : GC} {D : DY} {S T U : HS} {v v1 v2 v3 v4 x y t l : Int32} {Q : Int32 → HS → Prop} {QJ : Int64 → HS → Prop} {Q0 : HS → Prop}
theorem md_wh (md : MDd m D S) (on : onD D) : fI S m 19 = dW D := by
  obtain ⟨_, d, p, k, ms, mv⟩ := md
  have q := mv.1
  unfold mwO at q
  rw [if_neg on] at q
  exact q
theorem md_g {p t : Int32} {f f' : Nat → Int64} (h : ∀ k, k < 5 → f k = f' k) (md : MDd m (nwD D (p, t, f)) S) : MDd m (nwD D (p, t, f')) S := by
  obtain ⟨om, d, pp, k, ms, q1, q2, q3, q4, q5, q6, q7, q8, q9⟩ := md
  exact ⟨om, d, pp, k, ms, q1, q2, q3, q4, q5, q6, ⟨q7.1, q7.2.1, fun k hk => (q7.2.2 k hk).trans (h k hk)⟩, q8, q9⟩
/-- the day's row itself is written -/
theorem md_row {g : Nat → Nat → Int64} {w : MO} (md : MDd m D S) (ed : fR S m 21 = some d) (g1 : ∀ x, x ≠ d → g x = fJ S x) (hw : MVd (wJ S g) d 0 w) : MDd m (nwD D w) (wJ S g) := by
  obtain ⟨om, d', p, k, ms, mv⟩ := md
  cases ms.1.symm.trans ed
  exact md_nw (u' := 0) (k' := 0) om ms mv g1 hw
theorem md_now (md : MDd m D S) (ed : fR S m 21 = some d) : ob S d 14 ∧ MVd S d 0 (dN D) := by
  obtain ⟨om, d', p, k, ms, mv⟩ := md
  cases ms.1.symm.trans ed
  exact ⟨ms.2.2.2.1, mv.2.2.2.2.2.2.1⟩
theorem md_d (md : MDd m D S) : ∃ d, fR S m 21 = some d := by
  obtain ⟨om, d, p, k, ms, mv⟩ := md
  exact ⟨d, ms.1⟩
theorem go171 (he : HE S) (hr : WRm m rd A G S) (ir : v1.toNatClampNeg < aR A) (md : MDd m D S) (h : P_X11_go_171 Q m v1 v2 v3 v4 S) : P_X11_go_171 (fun x T => Q x T ∧ x = v4 + goM G v1 v3 ∧ MDd m (nwD D (goT G v1 v2, v4 + goM G v1 v3, (dN D).2.2)) T) m v1 v2 v3 v4 S := by
  have om := md.1
  obtain ⟨d, ed⟩ := md_d md
  obtain ⟨od, nv⟩ := md_now md ed
  delta P_X11_go_171
  obtain ⟨o1, a1, e1, a2, e2, o2, h⟩ := h
  cases ed.symm.trans e1
  cases hr.1.symm.trans e2
  refine ⟨o1, _, e1, _, e2, o2, ?_⟩
  refine cm_X10_ends (sm_X10_ends hr ir h) h (fun x5 S3 hp h g => ?_)
  have h := h g
  obtain ⟨-, hS, h5⟩ := hp
  subst hS
  obtain ⟨o3, h⟩ := h
  refine ⟨o3, fun x7 q7 => ?_⟩
  obtain ⟨i7, h⟩ := h x7 q7
  refine ⟨i7, fun S8 q8 => ?_⟩
  obtain ⟨a9, e9, a10, e10, o10, h⟩ := h S8 q8
  have c0 : (0 : Int32).toNatClampNeg = 0 := by decide
  have c1 : (1 : Int32).toNatClampNeg = 1 := by decide
  rw [c0] at q8
  have d8 : DSm m S S8 := dm_J q8
  have hr8 := wrm_ds om d8 hr
  have ed8 : fR S8 m 21 = some d := by rw [d8.2.2.2.1]; exact ed
  cases ed8.symm.trans e9
  cases hr8.1.symm.trans e10
  refine ⟨_, e9, _, e10, o10, ?_⟩
  obtain ⟨b16, e16⟩ := he_ds d8 he rd 16 hr8.2.1 (by decide) (by decide)
  refine cm_X10_minutes (sp_X10_minutes e16 h) h (fun x13 S11 hp h g => ?_)
  have h := h g
  obtain ⟨-, hS, h13⟩ := hp
  subst hS
  have h13 : x13 = goM G v1 v3 := by
    rw [h13, hr8.2.2.2.1 16 b16 (by decide) (by decide) e16 v1.toNatClampNeg ir]
    rfl
  obtain ⟨o11, h⟩ := h
  refine ⟨o11, fun x15 q15 => ?_⟩
  obtain ⟨i15, h⟩ := h x15 q15
  refine ⟨i15, fun S16 q16 => ?_⟩
  obtain ⟨a17, e17, o17, i17, h⟩ := h S16 q16
  rw [c1] at q16
  have e16' : S16 = wJ S (u2 (u2 (fJ S) d 0 x7) d 1 x15) := by rw [q16, q8]; rfl
  have ed16 : fR S16 m 21 = some d := by rw [e16']; exact ed
  cases ed16.symm.trans e17
  refine ⟨_, e17, o17, i17, fun x19 q19 => ?_⟩
  have h := h x19 q19
  have q19 : x19.toInt32 = v4 + goM G v1 v3 := by
    rw [q19, c1, e16']
    show (u2 (u2 (fJ S) d 0 x7) d 1 x15 d 1).toInt32 = _
    rw [u2_self, q15, Int32.toInt32_toInt64, h13]
  refine cm_X11_good (sp_X11_good h) h (fun x U hp h g => ⟨h g, hp.2.1.trans q19, md_12 ?_ hp.2.2.1⟩)
  rw [e16']
  refine md_row md ed (fun x hx => (u2_row _ _ hx).trans (u2_row _ _ hx)) ⟨?_, ?_, fun f hf => ?_⟩
  · show u2 (u2 (fJ S) d 0 x7) d 1 x15 d 0 = _
    rw [u2_ne _ _ (by omega), u2_self, q7, h5]
  · show u2 (u2 (fJ S) d 0 x7) d 1 x15 d 1 = _
    rw [u2_self, q15, h13]
  · show u2 (u2 (fJ S) d 0 x7) d 1 x15 d (0 + 2 + f) = _
    rw [u2_ne _ _ (by omega), u2_ne _ _ (by omega)]
    exact nv.2.2 f hf
theorem lp119 (he : HE S) (hr : WRm m rd A G S) (ab : ABd A) (db : DBd A D) (on : onD D) (ir : v1.toNatClampNeg < aR A) (md : MDd m (kpF D) S) (hv4 : v4 = (dN D).2.1) (h : P_X11_go_119 Q m v1 v2 v3 v4 0 S) : P_X11_go_119 (fun x T => Q x T ∧ x = v4 + goM G v1 v3 ∧ MDd m (nwD (kpF D) (goT G v1 v2, v4 + goM G v1 v3, goG A G D v1 v2 v3)) T) m v1 v2 v3 v4 0 S := by
  have om := md.1
  obtain ⟨kN, kW, kR, -, -⟩ := kpF_N D
  have dbo := db_on db on
  have iw := ix_lt (by have := ab.2.2.2.2.1; omega) dbo.1
  obtain ⟨d, ed⟩ := md_d md
  obtain ⟨od, nv⟩ := md_now md ed
  rw [kN] at nv
  have on' : onD (kpF D) := by unfold onD; rw [kW]; exact on
  have wh := md_wh md on'
  rw [kW] at wh
  have t0 : 0 ≤ v4.toInt := by rw [hv4]; exact dbo.2.2.1.2.2.1
  have rn' : rnO A (kpF D) v4 = rnO A D (dN D).2.1 := by unfold rnO; rw [kR, hv4]
  intro X hX
  refine h (fun a0 a1 a2 a3 a4 v5 T => (a0 = m ∧ a1 = v1 ∧ a2 = v2 ∧ a3 = v3 ∧ a4 = v4 ∧ ∃ n g, n ≤ 5 ∧ v5 = nI n ∧ T = wJ S g ∧ (0 < n → rnO A D (dN D).2.1) ∧ (∀ x, x ≠ d → g x = fJ S x) ∧ (∀ z, z < 2 ∨ 2 + n ≤ z → g d z = fJ S d z) ∧ ∀ j, j < n → g d (2 + j) = (dN D).2.2 j + ptM (gRn G (hrO A (dN D).2.1).toNatClampNeg) (gRd G v1.toNatClampNeg) (gWk G (dW D).toNatClampNeg) v2 v3 j) → X a0 a1 a2 a3 a4 v5 T) ?_ ⟨rfl, rfl, rfl, rfl, rfl, 0, fJ S, by decide, rfl, rfl, fun z => absurd z (by decide), fun _ _ => rfl, fun _ _ => rfl, fun j hj => absurd hj (Nat.not_lt_zero j)⟩
  rintro a0 a1 a2 a3 a4 v5 T h ⟨rfl, rfl, rfl, rfl, rfl, n, g, hn, rfl, rfl, hrn, g1, g2, g3⟩
  apply hX
  have e5 : (5 : Int32).toInt = 5 := by decide
  have nk : (nI n).toInt = (n : Int) := nI_i (by omega)
  have ck : (nI n).toNatClampNeg = n := nI_cl (by omega)
  have dT : DSm a0 S (wJ S g) := dm_wJ g
  have hrT := wrm_ds om dT hr
  have fin : (∀ f, f < 5 → g d (2 + f) = goG A G D a1 a2 a3 f) → P_X11_go_171 Q a0 a1 a2 a3 a4 (wJ S g) → P_X11_go_171 (fun x T => Q x T ∧ x = a4 + goM G a1 a3 ∧ MDd a0 (nwD (kpF D) (goT G a1 a2, a4 + goM G a1 a3, goG A G D a1 a2 a3)) T) a0 a1 a2 a3 a4 (wJ S g) := by
    intro hf h
    have mdT : MDd a0 (nwD (kpF D) ((dN D).1, (dN D).2.1, goG A G D a1 a2 a3)) (wJ S g) := by
      refine md_row md ed g1 ⟨(g2 0 (by omega)).trans nv.1, (g2 1 (by omega)).trans nv.2.1, fun f h5 => ?_⟩
      show g d (0 + 2 + f) = _
      rw [show 0 + 2 + f = 2 + f by omega]
      exact hf f h5
    exact cm_X11_go_171 (go171 (he_ds dT he) hrT ir mdT h) h (fun x T hp hq => ⟨hq, hp.2.1, hp.2.2⟩)
  refine ⟨fun cc => fin (fun f hf => ?_) (h.1 cc), fun cc => ?_⟩
  · have n5 : n = 5 := by have := le_i cc; omega
    rw [g3 f (by omega)]
    unfold goG
    rw [dc_y (hrn (by omega))]
  have lt := nle_i cc
  obtain ⟨o1, h⟩ := h.2 cc
  refine ⟨o1, ?_⟩
  have mdT0 : MDd a0 (nwD (kpF D) ((dN D).1, (dN D).2.1, fun f => g d (2 + f))) (wJ S g) := by
    refine md_row md ed g1 ⟨(g2 0 (by omega)).trans nv.1, (g2 1 (by omega)).trans nv.2.1, fun f h5 => ?_⟩
    show g d (0 + 2 + f) = _
    rw [show 0 + 2 + f = 2 + f by omega]
  refine cm_X11_rainsIn (sm_X11_rainsIn ab hrT mdT0 t0 h) h (fun x4 S2 hp h g' b => ?_)
  have h := h g' b
  obtain ⟨-, hS, hx⟩ := hp
  subst hS
  have hx : ans (rnO A D (dN D).2.1) x4 := by rw [← rn']; exact hx
  refine ⟨fun c2 => fin (fun f hf => ?_) (h.1 c2), fun c2 => ?_⟩
  · have nr := an0 hx c2
    have n0 : n = 0 := by
      rcases Nat.eq_zero_or_pos n with z | z
      · exact z
      · exact absurd (hrn z) nr
    rw [g2 (2 + f) (by omega)]
    unfold goG
    rw [dc_n nr]
    have q := nv.2.2 f hf
    rw [show 0 + 2 + f = 2 + f by omega] at q
    exact q
  have rn := an1 hx c2
  obtain ⟨a6, e6, o6, h⟩ := h.2 c2
  cases ed.symm.trans e6
  refine ⟨_, e6, o6, fun x8 q8 => ?_⟩
  obtain ⟨i8, h⟩ := h x8 q8
  have q8 : x8 = nI (2 + n) := by rw [q8]; exact nI_add 2 n
  refine ⟨i8, fun x9 q9 x10 q10 => ?_⟩
  have h := h x9 q9 x10 q10
  have q10 : x10 = dW D := q10.trans wh
  have q9 : x9 = (dN D).2.2 n := by
    rw [q9, q8, nI_cl (by omega)]
    refine (g2 (2 + n) (by omega)).trans ?_
    have q := nv.2.2 n (by omega)
    rw [show 0 + 2 + n = 2 + n by omega] at q
    exact q
  refine cm_X11_hourOf (sm_X11_hourOf (dm_o dT om) hrT h) h (fun x13 S11 hp h g' => ?_)
  have h := h g'
  obtain ⟨-, hS, h13, -⟩ := hp
  subst hS
  rw [hv4] at h13
  have ih := ix_lt (by have := ab.2.1; omega) rn.1
  have heT : ∀ i, 7 ≤ i → i ≤ 27 → ∃ b, fR (wJ S g) rd i = some b := fun i => he_ds dT he rd i hrT.2.1
  refine cm_X11_partsOf (sp_X11_partsOf heT hrT.1 ⟨by omega, by omega⟩ h) h (fun x16 S14 hp h g' => ?_)
  have h := h g'
  obtain ⟨-, hS, h16⟩ := hp
  subst hS
  have mr := m_rows (v1 := dW D) (v2 := a1) (v4 := hrO A (dN D).2.1) heT hrT iw ir ih
  have h16 : x16 = ptM (gRn G (hrO A (dN D).2.1).toNatClampNeg) (gRd G a1.toNatClampNeg) (gWk G (dW D).toNatClampNeg) a2 a3 n := by
    rw [h16, h13, q10, ck, ptM_c mr.1 mr.2.1 mr.2.2]
  intro x18 q18
  obtain ⟨i18, h⟩ := h x18 q18
  refine ⟨i18, fun S19 q19 x20 q20 => h S19 q19 x20 q20 ⟨rfl, rfl, rfl, rfl, rfl, n + 1, u2 g d (2 + n) x18, by omega, by rw [q20]; exact nI_add n 1, ?_, fun _ => rn, fun x hx => (u2_row _ _ hx).trans (g1 x hx), fun z hz => ?_, fun j hj => ?_⟩⟩
  · rw [q19, show (2 : Int32) + nI n = nI (2 + n) from nI_add 2 n, nI_cl (by omega)]
    rfl
  · rw [u2_ne _ _ (by omega)]
    exact g2 z (by omega)
  · by_cases z : j = n
    · rw [z, u2_self, q18, q9, h16]
    · rw [u2_ne _ _ (by omega)]
      exact g3 j (by omega)
theorem i64_inj {a b : Int32} (h : a.toInt64 = b.toInt64) : a = b := by
  have := congrArg Int64.toInt32 h
  rw [Int32.toInt32_toInt64, Int32.toInt32_toInt64] at this
  exact this
theorem tl_X11_go (hI : IV S) (hm : HM m A G S) (ab : ABd A) (gb : GBd A G) (md : MDd m D S) (db : DBd A D) (h : P_X11_go m v1 v2 v3 Q S) : P_X11_go m v1 v2 v3 (fun x T => Q x T ∧ x = tellgo A G D v1 v2 v3 ∧ MDd m (nxgo A G D v1 v2 v3) T) S := by
  have om := md.1
  delta P_X11_go P_X11_go_0
  obtain ⟨o1, h⟩ := h
  refine ⟨o1, fun S1 s1 => ?_⟩
  have h := h S1 s1
  have md1 := md_I md s1 (by decide) (by decide) (by decide) (by decide)
  have d1 : DSm m S S1 := dm_I s1
  have hm1 := hm_ds om d1 hm
  have he := he_ds d1 (he_iv hI)
  have no0 : ∀ {k : Int32} {Q1 : Int32 → HS → Prop}, ¬ goC A G D v1 v2 v3 → P_X11_refused m k (fun x3 S2 => Gr S1 S2 → Q1 x3 S2) S1 → P_X11_refused m k (fun x3 S2 => Gr S1 S2 → (Q1 x3 S2 ∧ x3 = tellgo A G D v1 v2 v3 ∧ MDd m (nxgo A G D v1 v2 v3) S2)) S1 := by
    intro k Q1 hn h
    refine cm_X11_refused (sp_X11_refused h) h (fun x U hp h g => ⟨h g, ?_⟩)
    unfold tellgo nxgo
    rw [dc_n hn, dc_n hn]
    exact ⟨hp.2.1, md_12 md1 hp.2.2.1⟩
  have no : ¬ goC A G D v1 v2 v3 → P_X11_go_29 Q m S1 → P_X11_go_29 (fun x T => Q x T ∧ x = tellgo A G D v1 v2 v3 ∧ MDd m (nxgo A G D v1 v2 v3) T) m S1 := by
    intro hn h
    delta P_X11_go_29
    obtain ⟨o1, h⟩ := h
    exact ⟨o1, no0 hn h⟩
  refine cm_X11_isDay (sm_X11_isDay hm1 md1 db h) h (fun x4 S2 hp h g b => ?_)
  have h := h g b
  obtain ⟨-, hS, hx⟩ := hp
  subst hS
  refine ⟨fun cc => no (fun z => an0 hx cc z.1.1) (h.1 cc), fun cc => ?_⟩
  have on := an1 hx cc
  have dbo := db_on db on
  have iw := ix_lt (by have := ab.2.2.2.2.1; omega) dbo.1
  obtain ⟨rd, hr⟩ := hm_rd hm1 db on
  have wh := md_wh md1 on
  have h := h.2 cc
  refine cm_X11_isRoad (sp_X11_isRoad hm1 h) h (fun x8 S6 hp h g b => ?_)
  have h := h g b
  obtain ⟨-, hS, hx8⟩ := hp
  subst hS
  refine ⟨fun cc => no (fun z => an0 hx8 cc ⟨⟨rd, hr⟩, z.1.2.1⟩) (h.1 cc), fun cc => ?_⟩
  have kr := (an1 hx8 cc).2
  have ir := ix_lt (by have := ab.2.2.2.1; omega) kr
  have h := h.2 cc
  refine cm_X11_in (sp_X11_in h) h (fun x12 S10 hp h g b => ?_)
  have h := h g b
  obtain ⟨-, hS, hx12⟩ := hp
  subst hS
  refine Iff.mp and_comm ⟨fun cc => no (fun z => an0 hx12 cc (way_in.mpr z.1.2.2)) (h.2 cc), fun cc => ?_⟩
  have kw := way_in.mp (an1 hx12 cc)
  have h := h.1 cc
  intro x14 q14
  have h := h x14 q14
  have q14 := q14.trans wh
  obtain ⟨b24, e24⟩ := he rd 24 hr.2.1 (by decide) (by decide)
  obtain ⟨b25, e25⟩ := he rd 25 hr.2.1 (by decide) (by decide)
  have c24 : fI S1 b24 (dW D).toNatClampNeg = gWk G (dW D).toNatClampNeg 5 := hr.2.2.2.1 24 b24 (by decide) (by decide) e24 _ iw
  have c25 : fI S1 b25 (dW D).toNatClampNeg = gWk G (dW D).toNatClampNeg 6 := hr.2.2.2.1 25 b25 (by decide) (by decide) e25 _ iw
  refine cm_X11_isSpeed (sp_X11_isSpeed hr.1 e24 e25 h) h (fun x17 S15 hp h g b => ?_)
  have h := h g b
  obtain ⟨-, hS, hx17⟩ := hp
  subst hS
  rw [q14, c24, c25] at hx17
  replace hx17 : ans (spOK G (dW D) v3) x17 := hx17
  refine Iff.mp and_comm ⟨fun cc => no0 (fun z => an0 hx17 cc z.2.1) (h.2 cc), fun cc => ?_⟩
  have ks := an1 hx17 cc
  have h := h.1 cc
  obtain ⟨a19, e19, o19, h⟩ := h
  cases hr.1.symm.trans e19
  refine ⟨_, e19, o19, ?_⟩
  refine cm_X10_begins (sm_X10_begins hr ir h) h (fun x22 S20 hp h g => ?_)
  have h := h g
  obtain ⟨-, hS, h22⟩ := hp
  subst hS
  obtain ⟨d, ed⟩ := md_d md1
  obtain ⟨od, nv⟩ := md_now md1 ed
  obtain ⟨a23, e23, o23, i23, h⟩ := h
  cases ed.symm.trans e23
  have c0 : (0 : Int32).toNatClampNeg = 0 := by decide
  have c1 : (1 : Int32).toNatClampNeg = 1 := by decide
  refine ⟨_, e23, o23, i23, fun x25 q25 => ?_⟩
  have h := h x25 q25
  rw [c0] at q25
  have q25 := q25.trans nv.1
  rw [q25, h22] at h ⊢
  refine Iff.mp and_comm ⟨fun c2 => no0 (fun z => c2 (lgc_eq.mpr (by rw [z.2.2.1]))) (h.2 c2), fun c2 => ?_⟩
  have kb : goB G v1 v2 = (dN D).1 := i64_inj (lgc_eq.mp c2)
  have h := h.1 c2
  obtain ⟨a27, e27, o27, i27, h⟩ := h
  cases ed.symm.trans e27
  refine ⟨_, e27, o27, i27, fun x29 q29 x30 q30 => ?_⟩
  obtain ⟨a31, e31, o31, h⟩ := h x29 q29 x30 q30
  cases hr.1.symm.trans e31
  rw [c1] at q29
  have q30 : x30 = (dN D).2.1 := by
    rw [q30, q29.trans nv.2.1, Int32.toInt32_toInt64]
  refine ⟨_, e31, o31, ?_⟩
  obtain ⟨b16, e16⟩ := he rd 16 hr.2.1 (by decide) (by decide)
  refine cm_X10_minutes (sp_X10_minutes e16 h) h (fun x34 S32 hp h g => ?_)
  have h := h g
  obtain ⟨-, hS, h34⟩ := hp
  subst hS
  have h34 : x34 = goM G v1 v3 := by
    rw [h34, hr.2.2.2.1 16 b16 (by decide) (by decide) e16 v1.toNatClampNeg ir]
    rfl
  refine Iff.mp and_comm ⟨fun c3 => no0 (fun z => c3 (by rw [q30, h34]; exact z.2.2.2)) (h.2 c3), fun c3 => ?_⟩
  have ok : goC A G D v1 v2 v3 := ⟨⟨on, kr, kw⟩, ks, kb, by rw [← q30, ← h34]; exact c3⟩
  have h := h.1 c3
  refine cm_X11_keeps (sm_X11_keeps md1 h) h (fun S36 hp h g => ?_)
  have h := h g
  obtain ⟨-, md6, d6⟩ := hp
  refine cm_X11_go_119 (lp119 (he_ds d6 he) (wrm_ds md1.1 d6 hr) ab db on ir md6 q30 h) h (fun x T hp hq => ⟨hq, ?_, ?_⟩)
  · unfold tellgo
    rw [dc_y ok, hp.2.1, q30]
  · unfold nxgo
    rw [dc_y ok, ← q30]
    exact hp.2.2
end C54
/-! what the reference's stay answers, and leaves -/
section C55
variable {m d p k rd a b i j : Nat} {A : AS} {G : GC} {D : DY} {S T U : HS} {v v1 v2 v3 v4 x y t l : Int32} {Q : Int32 → HS → Prop} {QJ : Int64 → HS → Prop} {Q0 : HS → Prop}
theorem i64_s {x : Int32} (h0 : 0 ≤ x.toInt) (h1 : x.toInt ≤ 2000) : x.toInt64 + 1 = (x + 1).toInt64 := by
  have e1 : (1 : Int32).toInt = 1 := by decide
  have f1 : (1 : Int64).toInt = 1 := by decide
  apply Int64.toInt_inj.mp
  rw [Int64.toInt_add, Int32.toInt_toInt64, Int32.toInt_toInt64, Int32.toInt_add, e1, f1, Int.bmod_eq_of_le (by omega) (by omega), Int.bmod_eq_of_le (by omega) (by omega)]
theorem mx_ls {a b : Int32} {p q : Int} (h : bI a p 153) (g : bI b q 999) : mx0 (a - b) = ls2 a b := by
  apply Int32.toInt_inj.mp
  rw [(bI_ls h g (by decide) (by decide)).1, (bI_mx (bI_sub h g (by decide) (by decide)) (by have := h.2; have := g.2; omega : p - q ≤ 153) (by decide)).1]
theorem sm_X11_drips (he : HE S) (hr : WRm m rd A G S) (iw : v1.toNatClampNeg < aW A) (ip : v2.toNatClampNeg < aP A) (h : P_X11_drips m v1 v2 QJ S) : P_X11_drips m v1 v2 (fun x T => QJ x T ∧ S = T ∧ x = (treeOf (gPk G v2.toNatClampNeg) (gPv G v2.toNatClampNeg)).toInt64 * (ls2 (gWk G v1.toNatClampNeg 2) (shO (gWk G v1.toNatClampNeg))).toInt64 * 2520) S := by
  delta P_X11_drips P_X11_drips_0
  obtain ⟨o1, a1, e1, o2, a2, e2, o3, i3, h⟩ := h
  cases hr.1.symm.trans e1
  refine ⟨o1, _, e1, o2, _, e2, o3, i3, fun x4 q4 => ?_⟩
  obtain ⟨a5, e5, o5, a6, e6, o6, i6, h⟩ := h x4 q4
  have q4 : x4 = treeOf (gPk G v2.toNatClampNeg) (gPv G v2.toNatClampNeg) := q4.trans (hr.2.2.2.1 12 a2 (by decide) (by decide) e2 _ ip)
  cases hr.1.symm.trans e5
  refine ⟨_, e5, o5, _, e6, o6, i6, fun x8 q8 => ?_⟩
  obtain ⟨a9, e9, o9, h⟩ := h x8 q8
  have q8 : x8 = gWk G v1.toNatClampNeg 2 := q8.trans (hr.2.2.2.1 21 a6 (by decide) (by decide) e6 _ iw)
  cases hr.1.symm.trans e9
  refine ⟨_, e9, o9, ?_⟩
  refine cm_X10_shield (sp_X10_shield h) h (fun x12 S10 hp h g => ?_)
  have h := h g
  obtain ⟨-, hS, h12⟩ := hp
  subst hS
  have sh : shO (mWk S rd v1.toNatClampNeg) = shO (gWk G v1.toNatClampNeg) := by
    obtain ⟨b19, e19⟩ := he rd 19 hr.2.1 (by decide) (by decide)
    obtain ⟨b20, e20⟩ := he rd 20 hr.2.1 (by decide) (by decide)
    have c19 : mWk S rd v1.toNatClampNeg 0 = gWk G v1.toNatClampNeg 0 := by
      rw [← mwk (j := 0) e19]
      exact hr.2.2.2.1 19 b19 (by decide) (by decide) e19 _ iw
    have c20 : mWk S rd v1.toNatClampNeg 1 = gWk G v1.toNatClampNeg 1 := by
      rw [← mwk (j := 1) e20]
      exact hr.2.2.2.1 20 b20 (by decide) (by decide) e20 _ iw
    unfold shO
    rw [c19, c20]
  refine cm_X11_less (sp_X11_less h) h (fun x15 S13 hp h g => ?_)
  have h := h g
  obtain ⟨-, hS, h15⟩ := hp
  subst hS
  exact ⟨h, rfl, by rw [h15, q4, q8, h12, sh]⟩
theorem st_tree (gb : GBd A G) (iw : (dW D).toNatClampNeg < aW A) (ip : (dN D).1.toNatClampNeg < aP A) (cw : cwO A G (dN D).1) (hk : ¬ gPk G (dN D).1.toNatClampNeg = 1) : (treeOf (gPk G (dN D).1.toNatClampNeg) (gPv G (dN D).1.toNatClampNeg)).toInt64 * (ls2 (gWk G (dW D).toNatClampNeg 2) (shO (gWk G (dW D).toNatClampNeg))).toInt64 * 2520 = stX A G D := by
  have b := gb.2.1 _ ip
  have bw := gb.2.2.2 _ iw
  have k2 : gPk G (dN D).1.toNatClampNeg = 2 := by
    have q := cw.2
    unfold dripOf at q
    rw [if_neg hk] at q
    by_cases z : gPk G (dN D).1.toNatClampNeg = 2
    · exact z
    · rw [if_neg z] at q
      exact absurd rfl q
  unfold stX drpO
  rw [dc_y cw, mx_ls (bI_of bw.2.2.1 (by decide)) (sh_b bw)]
  unfold treeOf dripOf
  rw [if_pos k2, if_neg hk, if_pos k2]
  have bv := bI_of b.2 (by decide)
  have bl := bI_ls (bI_of bw.2.2.1 (by decide)) (sh_b bw) (by decide) (by decide)
  congr 1
  apply Int64.toInt_inj.mp
  rw [(bJ_mul (bJ_of bv) (bJ_of bl) (by decide)).1, Int32.toInt_toInt64, (bI_mul bv bl (by decide)).1]
theorem st_inn (hk : gPk G (dN D).1.toNatClampNeg = 1) : stX A G D = 0 := by
  unfold stX drpO
  by_cases cw : cwO A G (dN D).1
  · rw [dc_y cw]
    unfold dripOf
    rw [if_pos hk, Int32.zero_mul]
    decide
  · rw [dc_n cw]
    decide
theorem st133 {X84 X' : Nat → Int32 → Int32 → Int32 → HS → Prop} {Q' : Int32 → HS → Prop} {n : Int32} {pp v3 : Int32} (md : MDd m D S) (h0 : 0 ≤ (dN D).2.1.toInt) (h1 : (dN D).2.1.toInt ≤ 2000) (hX : ∀ T x7, x7 = v3 + 1 → MDd m (nwD D ((dN D).1, (dN D).2.1 + 1, (dN D).2.2)) T → DSm m S T → X84 m n pp x7 T → X' m n pp x7 T) (h : P_X11_stay_133 Q X84 m n pp v3 S) : P_X11_stay_133 Q' X' m n pp v3 S := by
  obtain ⟨d, ed⟩ := md_d md
  obtain ⟨od, nv⟩ := md_now md ed
  have c1 : (1 : Int32).toNatClampNeg = 1 := by decide
  delta P_X11_stay_133
  obtain ⟨o1, a1, e1, o2, i2, h⟩ := h
  cases ed.symm.trans e1
  refine ⟨o1, _, e1, o2, i2, fun x3 q3 x5 q5 => ?_⟩
  obtain ⟨i5, h⟩ := h x3 q3 x5 q5
  refine ⟨i5, fun S6 q6 x7 q7 => ?_⟩
  have h := h S6 q6 x7 q7
  rw [c1] at q3 q6
  have q5 : x5 = ((dN D).2.1 + 1).toInt64 := by
    rw [q5, q3.trans nv.2.1]
    exact i64_s h0 h1
  have e6 : S6 = wJ S (u2 (fJ S) d 1 x5) := by rw [q6]; rfl
  refine hX S6 x7 q7 ?_ (dm_J q6) h
  rw [e6]
  refine md_row md ed (fun x hx => u2_row _ _ hx) ⟨?_, ?_, fun f hf => ?_⟩
  · show u2 (fJ S) d 1 x5 d 0 = _
    rw [u2_ne _ _ (by omega)]
    exact nv.1
  · show u2 (fJ S) d 1 x5 d 1 = _
    rw [u2_self, q5]
  · show u2 (fJ S) d 1 x5 d (0 + 2 + f) = _
    rw [u2_ne _ _ (by omega)]
    exact nv.2.2 f hf
theorem lp84 {n : Int32} (he : HE S) (hr : WRm m rd A G S) (ab : ABd A) (gb : GBd A G) (db : DBd A D) (md : MDd m (kpF D) S) (ok : stC A G D n) (h : P_X11_stay_84 Q m n (dN D).1 0 S) : P_X11_stay_84 (fun x T => Q x T ∧ x = 1 ∧ MDd m (nwD (kpF D) ((dN D).1, (dN D).2.1 + n, stG A G D n.toNatClampNeg)) T) m n (dN D).1 0 S := by
  have om := md.1
  obtain ⟨kN, kW, kR, -, -⟩ := kpF_N D
  have on := ok.1
  have dbo := db_on db on
  have iw := ix_lt (by have := ab.2.2.2.2.1; omega) dbo.1
  have ip := ix_lt (by have := ab.2.2.1; omega) ok.2.2.1.1
  have mb := dbo.2.2.1
  have e1 : (1 : Int32).toInt = 1 := by decide
  have e60 : (60 : Int32).toInt = 60 := by decide
  have e9 : (999 : Int32).toInt = 999 := by decide
  have n1 := nlt_i (fun z => ok.2.1 (Or.inl z))
  have n2 := nlt_i (fun z => ok.2.1 (Or.inr z))
  have nn : (n.toNatClampNeg : Int) = n.toInt := by
    rw [Int32.toNatClampNeg]
    omega
  have cn : n = nI n.toNatClampNeg := by
    apply Int32.toInt_inj.mp
    rw [nI_i (by omega), nn]
  have m3 := mb.2.2.1
  have m4 := mb.2.2.2.1
  have tt : ∀ k, k ≤ n.toNatClampNeg → ((dN D).2.1 + nI k).toInt = (dN D).2.1.toInt + (k : Int) ∧ (dN D).2.1.toInt + (k : Int) ≤ 999 := fun k hk => by
    have q := le_i ok.2.2.2
    rw [Int32.toInt_add, Int.bmod_eq_of_le (by omega) (by omega)] at q
    rw [Int32.toInt_add, nI_i (by omega), Int.bmod_eq_of_le (by omega) (by omega)]
    omega
  intro X hX
  refine h (fun a0 a1 a2 v3 T => (a0 = m ∧ a1 = n ∧ a2 = (dN D).1 ∧ ∃ k, k ≤ n.toNatClampNeg ∧ v3 = nI k ∧ MDd m (nwD (kpF D) ((dN D).1, (dN D).2.1 + nI k, stG A G D k)) T ∧ DSm m S T) → X a0 a1 a2 v3 T) ?_ ⟨rfl, rfl, rfl, 0, Nat.zero_le _, rfl, ?_, dm_rf m S⟩
  · rintro a0 a1 a2 v3 T h ⟨rfl, rfl, rfl, k, hk, rfl, mdT, dT⟩
    apply hX
    have nk : (nI k).toInt = (k : Int) := nI_i (by omega)
    have tk := tt k hk
    have hrT := wrm_ds om dT hr
    have heT := he_ds dT he
    refine ⟨fun cc => ?_, fun cc => ?_⟩
    · have := le_i cc
      have kk : k = a1.toNatClampNeg := by omega
      obtain ⟨o1, h⟩ := h.1 cc
      refine ⟨o1, ?_⟩
      refine cm_X11_granted (sm_granted (md' := True) h) h (fun x U hp h g b => ?_)
      have h := h g b
      refine ⟨h.1, h.2, hp.2.1, md_12 ?_ hp.2.2⟩
      rw [kk, ← cn] at mdT
      exact mdT
    have lt := nle_i cc
    obtain ⟨o1, a5, e5, o5, a6, e6, o6, i6, h⟩ := h.2 cc
    cases hrT.1.symm.trans e5
    refine ⟨o1, _, e5, o5, _, e6, o6, i6, fun x8 q8 => ?_⟩
    have h := h x8 q8
    have q8 : x8 = innOf (gPk G (dN D).1.toNatClampNeg) := q8.trans (hrT.2.2.2.1 18 a6 (by decide) (by decide) e6 _ ip)
    have fin : ∀ (g : Nat → Int64), (∀ f, f < 5 → g f = stG A G D (k + 1) f) → ∀ U, MDd a0 (nwD (kpF D) ((dN D).1, (dN D).2.1 + nI k, g)) U → DSm a0 S U → P_X11_stay_133 Q (fun a0_1 a1_1 a2 v3 T => (a0_1 = a0 ∧ a1_1 = a1 ∧ a2 = (dN D).1 ∧ ∃ k, k ≤ a1.toNatClampNeg ∧ v3 = nI k ∧ MDd a0 (nwD (kpF D) ((dN D).1, (dN D).2.1 + nI k, stG A G D k)) T ∧ DSm a0 S T) → X a0_1 a1_1 a2 v3 T) a0 a1 (dN D).1 (nI k) U → P_X11_stay_133 (fun x T => Q x T ∧ x = 1 ∧ MDd a0 (nwD (kpF D) ((dN D).1, (dN D).2.1 + a1, stG A G D a1.toNatClampNeg)) T) X a0 a1 (dN D).1 (nI k) U := by
      intro g hg U mdU dU h
      refine st133 mdU (by show 0 ≤ ((dN D).2.1 + nI k).toInt; have := mb.2.2.1; omega) (by show ((dN D).2.1 + nI k).toInt ≤ 2000; omega) (fun T x7 q7 mdT dT' h => h ⟨rfl, rfl, rfl, k + 1, by omega, by rw [q7]; exact nI_add k 1, ?_, dm_tr dU dT'⟩) h
      have e : (dN D).2.1 + nI k + 1 = (dN D).2.1 + nI (k + 1) := by
        rw [Int32.add_assoc]
        exact congrArg _ (nI_add k 1)
      have mdT : MDd a0 (nwD (kpF D) ((dN D).1, (dN D).2.1 + nI k + 1, g)) T := mdT
      rw [e] at mdT
      exact md_g hg mdT
    refine ⟨fun c2 => fin _ (fun f hf => ?_) _ mdT dT (h.1 c2), fun c2 => ?_⟩
    · have k1 : gPk G (dN D).1.toNatClampNeg = 1 := by
        rw [q8] at c2
        unfold innOf at c2
        by_cases z : gPk G (dN D).1.toNatClampNeg = 1
        · exact z
        · rw [if_neg z] at c2
          exact absurd rfl c2
      unfold stG
      show _ = if f = 0 then dc (rnO A D ((dN D).2.1 + nI k)) (stJ A D (stX A G D) (dN D).2.1 k ((dN D).2.2 0) + stX A G D) (stJ A D (stX A G D) (dN D).2.1 k ((dN D).2.2 0)) else _
      rw [st_inn (A := A) k1, Int64.add_zero]
      by_cases z : f = 0
      · rw [if_pos z, if_pos z]
        by_cases rn : rnO A D ((dN D).2.1 + nI k)
        · rw [dc_y rn]
        · rw [dc_n rn]
      · rw [if_neg z, if_neg z]
    have k1 : ¬ gPk G (dN D).1.toNatClampNeg = 1 := fun z => by
      rw [q8] at c2
      unfold innOf at c2
      rw [if_pos z] at c2
      exact absurd c2 (by decide)
    obtain ⟨d, ed⟩ := md_d mdT
    obtain ⟨od, nv⟩ := md_now mdT ed
    have cc1 : (1 : Int32).toNatClampNeg = 1 := by decide
    have cc2 : (2 : Int32).toNatClampNeg = 2 := by decide
    obtain ⟨a10, e10, o10, i10, h⟩ := h.2 c2
    cases ed.symm.trans e10
    refine ⟨_, e10, o10, i10, fun x12 q12 => ?_⟩
    have h := h x12 q12
    rw [cc1] at q12
    have q12 : x12.toInt32 = (dN D).2.1 + nI k := by
      rw [q12.trans nv.2.1, Int32.toInt32_toInt64]
      rfl
    rw [q12] at h ⊢
    refine cm_X11_rainsIn (sm_X11_rainsIn ab hrT mdT (by have := mb.2.2.1; omega) h) h (fun x15 S13 hp h g b => ?_)
    have h := h g b
    obtain ⟨-, hS, hx15⟩ := hp
    subst hS
    have dR' : dR (nwD (kpF D) ((dN D).1, (dN D).2.1 + nI k, stG A G D k)) = dR D := kR
    have hx15 : ans (rnO A D ((dN D).2.1 + nI k)) x15 := by
      unfold rnO at hx15 ⊢
      rw [dR'] at hx15
      exact hx15
    refine ⟨fun c3 => fin _ (fun f hf => ?_) _ mdT dT (h.1 c3), fun c3 => ?_⟩
    · unfold stG
      show _ = if f = 0 then dc (rnO A D ((dN D).2.1 + nI k)) _ _ else _
      rw [dc_n (an0 hx15 c3)]
    have rn := an1 hx15 c3
    obtain ⟨a17, e17, o17, i17, h⟩ := h.2 c3
    cases ed.symm.trans e17
    refine ⟨_, e17, o17, i17, fun x19 q19 x20 q20 => ?_⟩
    have h := h x19 q19 x20 q20
    rw [cc2] at q19
    have q19 : x19 = stG A G D k 0 := q19.trans (nv.2.2 0 (by decide))
    have on' : onD (nwD (kpF D) ((dN D).1, (dN D).2.1 + nI k, stG A G D k)) := by
      show ¬ dW (kpF D) = -1
      rw [kW]
      exact on
    have q20 : x20 = dW D := (q20.trans (md_wh mdT on')).trans kW
    rw [q20] at h ⊢
    refine cm_X11_drips (sm_X11_drips heT hrT iw ip h) h (fun x23 S21 hp h g => ?_)
    have h := h g
    obtain ⟨-, hS, h23⟩ := hp
    subst hS
    rw [st_tree gb iw ip ok.2.2.1 k1] at h23
    intro x25 q25
    obtain ⟨i25, h⟩ := h x25 q25
    refine ⟨i25, fun S26 q26 => ?_⟩
    have h := h S26 q26
    rw [cc2] at q26
    have e26 : S26 = wJ T (u2 (fJ T) d 2 x25) := by rw [q26]; rfl
    have md26 : MDd a0 (nwD (kpF D) ((dN D).1, (dN D).2.1 + nI k, fun f => if f = 0 then x25 else stG A G D k f)) S26 := by
      rw [e26]
      show MDd a0 (nwD (nwD (kpF D) ((dN D).1, (dN D).2.1 + nI k, stG A G D k)) ((dN D).1, (dN D).2.1 + nI k, fun f => if f = 0 then x25 else stG A G D k f)) _
      refine md_row mdT ed (fun x hx => u2_row _ _ hx) ⟨?_, ?_, fun f hf => ?_⟩
      · show u2 (fJ T) d 2 x25 d 0 = _
        rw [u2_ne _ _ (by omega)]
        exact nv.1
      · show u2 (fJ T) d 2 x25 d 1 = _
        rw [u2_ne _ _ (by omega)]
        exact nv.2.1
      · show u2 (fJ T) d 2 x25 d (0 + 2 + f) = if f = 0 then x25 else stG A G D k f
        by_cases z : f = 0
        · rw [z, if_pos rfl, u2_self]
        · rw [if_neg z, u2_ne _ _ (by omega)]
          exact nv.2.2 f hf
    refine fin (fun f => if f = 0 then x25 else stG A G D k f) (fun f hf => ?_) S26 md26 (dm_tr dT (dm_J q26)) h
    unfold stG
    show _ = if f = 0 then dc (rnO A D ((dN D).2.1 + nI k)) _ _ else _
    rw [dc_y rn]
    by_cases z : f = 0
    · rw [if_pos z, if_pos z, q25, q19, h23]
      rfl
    · rw [if_neg z, if_neg z, if_neg z]
  · have e : (dN D).2.1 + nI 0 = (dN D).2.1 := by
      rw [nI_0, Int32.add_zero]
    rw [e]
    have g0 : stG A G D 0 = (dN D).2.2 := by
      funext f
      unfold stG
      by_cases z : f = 0
      · rw [if_pos z, z]; rfl
      · rw [if_neg z]
    rw [g0]
    have q : nwD (kpF D) ((dN D).1, (dN D).2.1, (dN D).2.2) = kpF D := by
      show nwD (kpF D) (dN D) = kpF D
      rw [← kN]
      rfl
    rw [q]
    exact md
theorem lg_999 {t n : Int32} (h0 : 0 ≤ t.toInt) (h1 : t.toInt ≤ 999) (h2 : 0 ≤ n.toInt) (h3 : n.toInt ≤ 60) : (lg_cmp (t.toInt64 + n.toInt64) 999 ≤ 0) ↔ t + n ≤ 999 := by
  have e9 : (999 : Int32).toInt = 999 := by decide
  have f9 : (999 : Int64).toInt = 999 := by decide
  have a : (t.toInt64 + n.toInt64).toInt = t.toInt + n.toInt := by
    rw [Int64.toInt_add, Int32.toInt_toInt64, Int32.toInt_toInt64, Int.bmod_eq_of_le (by omega) (by omega)]
  have b : (t + n).toInt = t.toInt + n.toInt := by
    rw [Int32.toInt_add, Int.bmod_eq_of_le (by omega) (by omega)]
  constructor
  · intro h
    have z : ¬ (999 : Int64).toInt < (t.toInt64 + n.toInt64).toInt := fun q => lgc.mpr q h
    apply Int32.le_iff_toInt_le.mpr
    omega
  · intro h
    have q := le_i h
    apply Classical.byContradiction
    intro z
    have := lgc.mp z
    omega
theorem tl_X11_stay (hI : IV S) (hm : HM m A G S) (ab : ABd A) (gb : GBd A G) (md : MDd m D S) (db : DBd A D) (h : P_X11_stay m v Q S) : P_X11_stay m v (fun x T => Q x T ∧ ans (stC A G D v) x ∧ MDd m (nxstay A G D v) T) S := by
  have om := md.1
  delta P_X11_stay P_X11_stay_0
  obtain ⟨o1, h⟩ := h
  refine ⟨o1, fun S1 s1 => ?_⟩
  have h := h S1 s1
  have md1 := md_I md s1 (by decide) (by decide) (by decide) (by decide)
  have d1 : DSm m S S1 := dm_I s1
  have hm1 := hm_ds om d1 hm
  have he := he_ds d1 (he_iv hI)
  have no : ∀ {k : Int32}, ¬ stC A G D v → P_X11_denied m k (fun x3 S2 => Gr S1 S2 → bl x3 → (bl x3 ∧ Q x3 S2)) S1 → P_X11_denied m k (fun x3 S2 => Gr S1 S2 → bl x3 → (bl x3 ∧ (Q x3 S2 ∧ ans (stC A G D v) x3 ∧ MDd m (nxstay A G D v) S2))) S1 := by
    intro k hn h
    refine cm_X11_denied (sm_denied h) h (fun x U hp h g b => ?_)
    have h := h g b
    unfold nxstay
    rw [dc_n hn]
    exact ⟨h.1, h.2, Or.inr ⟨hn, hp.2.1⟩, md_12 md1 hp.2.2⟩
  refine cm_X11_isDay (sm_X11_isDay hm1 md1 db h) h (fun x4 S2 hp h g b => ?_)
  have h := h g b
  obtain ⟨-, hS, hx⟩ := hp
  subst hS
  refine Iff.mp and_comm ⟨fun cc => no (fun z => an0 hx cc z.1) (h.2 cc), fun cc => ?_⟩
  have on := an1 hx cc
  have dbo := db_on db on
  have mb := dbo.2.2.1
  obtain ⟨rd, hr⟩ := hm_rd hm1 db on
  have h := h.1 cc
  refine cm_X11_in (sp_X11_in h) h (fun x8 S6 hp h g b => ?_)
  have h := h g b
  obtain ⟨-, hS, hx8⟩ := hp
  subst hS
  refine Iff.mp and_comm ⟨fun cc => no (fun z => an0 hx8 cc z.2.1) (h.2 cc), fun cc => ?_⟩
  have kn := an1 hx8 cc
  have e1 : (1 : Int32).toInt = 1 := by decide
  have e60 : (60 : Int32).toInt = 60 := by decide
  have n1 := nlt_i (fun z => kn (Or.inl z))
  have n2 := nlt_i (fun z => kn (Or.inr z))
  obtain ⟨d, ed⟩ := md_d md1
  obtain ⟨od, nv⟩ := md_now md1 ed
  have c0 : (0 : Int32).toNatClampNeg = 0 := by decide
  have c1 : (1 : Int32).toNatClampNeg = 1 := by decide
  obtain ⟨a10, e10, o10, i10, h⟩ := h.1 cc
  cases ed.symm.trans e10
  refine ⟨_, e10, o10, i10, fun x12 q12 x13 q13 => ?_⟩
  have h := h x12 q12 x13 q13
  rw [c0] at q12
  have q13 : x13 = (dN D).1 := by rw [q13, q12.trans nv.1, Int32.toInt32_toInt64]
  have e0 : (0 : Int32).toInt = 0 := by decide
  have hp : ¬ (dN D).1 < 0 ∧ (dN D).1 < nI (aP A) := by
    refine ⟨fun z => ?_, Int32.lt_iff_toInt_lt.mpr ?_⟩
    · have := lt_i z
      have := mb.1
      omega
    · rw [nI_i (by have := ab.2.2.1; omega)]
      exact mb.2.1
  rw [q13] at h ⊢
  refine cm_X11_canWait (sm_X11_canWait ab gb hr hp h) h (fun x16 S14 hp h g b => ?_)
  have h := h g b
  obtain ⟨-, hS, hx16⟩ := hp
  subst hS
  refine Iff.mp and_comm ⟨fun cc => no (fun z => an0 hx16 cc z.2.2.1) (h.2 cc), fun cc => ?_⟩
  have cw := an1 hx16 cc
  obtain ⟨a18, e18, o18, i18, h⟩ := h.1 cc
  cases ed.symm.trans e18
  refine ⟨_, e18, o18, i18, fun x20 q20 => ?_⟩
  have h := h x20 q20
  rw [c1] at q20
  have q20 := q20.trans nv.2.1
  have l9 := lg_999 (t := (dN D).2.1) (n := v) mb.2.2.1 mb.2.2.2.1 (by omega) (by omega)
  rw [q20] at h ⊢
  refine Iff.mp and_comm ⟨fun c3 => no (fun z => c3 (l9.mpr z.2.2.2)) (h.2 c3), fun c3 => ?_⟩
  have ok : stC A G D v := ⟨on, kn, cw, l9.mp c3⟩
  have h := h.1 c3
  refine cm_X11_keeps (sm_X11_keeps md1 h) h (fun S22 hp h g => ?_)
  have h := h g
  obtain ⟨-, md2, d2⟩ := hp
  refine cm_X11_stay_84 (lp84 (he_ds d2 he) (wrm_ds md1.1 d2 hr) ab gb db md2 ok h) h (fun x T hp hq => ⟨hq, Or.inl ⟨ok, hp.2.1⟩, ?_⟩)
  unfold nxstay
  rw [dc_y ok]
  exact hp.2.2
end C55
end
section
/-! the day over calls that leave it, and over world -/
section C56
variable {c m dy d p k rd a b i j r w1 w2 t : Nat} {A : AS} {G : GC} {D D' : DY} {S T U : HS} {v v1 v2 v3 v4 x y l : Int32} {Q : Int32 → HS → Prop} {f : Nat → Int32} {wi wr : List (Nat × Nat)} {bb : Bool}
/-- the class's day behind a call, if its rows and joints stay -/
theorem cd_mk (hI : IV S) (cd : CDd dy D S) (K : K9 true LB S T) (F : FRI wi wr S T) (hr : ∀ q ∈ ([(0, 4), (0, 5), (0, 6), (2, 2)] : List (Nat × Nat)), q ∉ wr) (hi : ∀ q ∈ ([(2, 0), (2, 1)] : List (Nat × Nat)), q ∉ wi) (hN' : dN D' = dN D) (hP' : ∀ i, i < dU D' → i < dU D ∧ dP D' i = dP D i) (hM' : ∀ i, i < dK D' → i < dK D ∧ dM D' i = dM D i) (v0 : fI T dy 0 = dW D') (v1 : fI T dy 1 = dR D') (v2 : fI T dy 2 = nI (dU D')) (v3 : fI T dy 3 = nI (dK D')) (u' : dU D' ≤ 16) (k' : dK D' ≤ 3) : CDd dy D' T := by
  obtain ⟨od, pa, ma, mo, go, cs, cv⟩ := cd
  have g := K.1
  have u := cv.2.2.2.2.1
  have k3 := cv.2.2.2.2.2.1
  obtain ⟨s1, s2, s3, s4, s5, s6, s7, s8, s9, s10⟩ := cs
  have om : ob S ma 16 := by
    obtain ⟨b, e, o, -⟩ := hI.1 (0, 6, 16, 3) (by decide) dy od
    cases e.symm.trans s3
    exact o
  have pr : ∀ i, i < 20 → fJ T (go i) = fJ S (go i) ∧ NW9 LB T (go i) := fun i hi => K.2.2 _ ⟨(s8 i hi).2.2.1, (s8 i hi).2.2.2⟩
  have vm : ∀ i, i < 20 → ∀ w, VM S (mo i) (go i) w → VM T (mo i) (go i) w := fun i h w hv => vm_mv hv (F.1 2 0 (by decide) (hi (2, 0) (by decide)) _ (s8 i h).1) (F.1 2 1 (by decide) (hi (2, 1) (by decide)) _ (s8 i h).1) (pr i h).1
  have fr : ∀ j, (0, j) ∉ wr → fR T dy j = fR S dy j := fun j hj => F.2 0 j (by decide) hj dy od
  refine ⟨gr_ob g od, pa, ma, mo, go, ⟨(fr 4 (hr (0, 4) (by decide))).trans s1, (fr 5 (hr (0, 5) (by decide))).trans s2, (fr 6 (hr (0, 6) (by decide))).trans s3, gr_ob g s4, s5, fun i h => by rw [K.2.1 rfl pa s4]; exact s6 i h, fun i h => by rw [K.2.1 rfl ma om]; exact s7 i h, fun i h => ⟨gr_ob g (s8 i h).1, (F.2 2 2 (by decide) (hr (2, 2) (by decide)) _ (s8 i h).1).trans (s8 i h).2.1, gr_ob g (s8 i h).2.2.1, (pr i h).2⟩, s9, s10⟩, v0, v1, v2, v3, u', k', ?_, fun i h => ?_, fun i h => ?_⟩
  · rw [hN']
    exact vm 0 (by decide) _ cv.2.2.2.2.2.2.1
  · obtain ⟨q1, q2⟩ := hP' i h
    rw [q2]
    exact vm _ (by omega) _ (cv.2.2.2.2.2.2.2.1 i q1)
  · obtain ⟨q1, q2⟩ := hM' i h
    rw [q2]
    exact vm _ (by omega) _ (cv.2.2.2.2.2.2.2.2 i q1)
theorem cd_keep (hI : IV S) (cd : CDd dy D S) (K : K9 true LB S T) (F : FRI wi wr S T) (hr : ∀ q ∈ ([(0, 4), (0, 5), (0, 6), (2, 2)] : List (Nat × Nat)), q ∉ wr) (hi : ∀ q ∈ ([(2, 0), (2, 1), (0, 0), (0, 1), (0, 2), (0, 3)] : List (Nat × Nat)), q ∉ wi) : CDd dy D T := by
  have cd0 := cd
  obtain ⟨od, pa, ma, mo, go, cs, cv⟩ := cd
  have f0 : ∀ j, (0, j) ∉ wi → fI T dy j = fI S dy j := fun j hj => F.1 0 j (by decide) hj dy od
  exact cd_mk hI cd0 K F hr (fun q hq => hi q (by
    simp only [List.mem_cons, List.not_mem_nil, or_false] at hq
    rcases hq with rfl | rfl <;> decide)) rfl (fun i h => ⟨h, rfl⟩) (fun i h => ⟨h, rfl⟩) ((f0 0 (hi (0, 0) (by decide))).trans cv.1) ((f0 1 (hi (0, 1) (by decide))).trans cv.2.1) ((f0 2 (hi (0, 2) (by decide))).trans cv.2.2.1) ((f0 3 (hi (0, 3) (by decide))).trans cv.2.2.2.1) cv.2.2.2.2.1 cv.2.2.2.2.2.1
/-- the reference's day's rows are its own -/
theorem md_own (hI : IV S) (om : ob S m 11) (hj : j = 21 ∨ j = 22 ∨ j = 23) (e : fR S m j = some b) : NW9 LA S b := fun q hq x ox z => by
  have hp : (11, j) ∈ prT := by rcases hj with rfl | rfl | rfl <;> decide
  have hk : q.1 < 12 ∧ q ≠ (11, 21) ∧ q ≠ (11, 22) ∧ q ≠ (11, 23) := by
    simp only [List.mem_cons, List.not_mem_nil, or_false] at hq
    rcases hq with rfl | rfl | rfl | rfl | rfl | rfl | rfl | rfl <;> decide
  obtain ⟨q1, q2⟩ := hI.2.2.2.2.1 x q.1 q.2 m 11 j b ox hk.1 om hp z e
  have q3 : q.1 = 11 := ob_inj ox (q1 ▸ om)
  rcases hj with rfl | rfl | rfl
  · exact hk.2.1 (Prod.ext q3 q2)
  · exact hk.2.2.1 (Prod.ext q3 q2)
  · exact hk.2.2.2 (Prod.ext q3 q2)
theorem md_mk (hI : IV S) (md : MDd m D S) (K : K9 bb LA S T) (F : FRI wi wr S T) (hr : ∀ q ∈ ([(11, 21), (11, 22), (11, 23)] : List (Nat × Nat)), q ∉ wr) (hN' : dN D' = dN D) (hP' : ∀ i, i < dU D' → i < dU D ∧ dP D' i = dP D i) (hM' : ∀ i, i < dK D' → i < dK D ∧ dM D' i = dM D i) (v0 : fI T m 19 = mwO (dW D')) (v1 : fI T m 20 = dR D') (v2 : fI T m 24 = nI (dU D')) (v3 : fI T m 25 = nI (dK D')) (u' : dU D' ≤ 16) (k' : dK D' ≤ 3) : MDd m D' T := by
  obtain ⟨om, d, p, k, ⟨e1, e2, e3, o1, o2, o3, n1, n2, n3⟩, q1, q2, q3, q4, q5, q6, q7, q8, q9⟩ := md
  have g := K.1
  have fr : ∀ j, (11, j) ∉ wr → fR T m j = fR S m j := fun j hj => F.2 11 j (by decide) hj m om
  have k1 := (K.2.2 d ⟨o1, md_own hI om (Or.inl rfl) e1⟩).1
  have k2 := (K.2.2 p ⟨o2, md_own hI om (Or.inr (Or.inl rfl)) e2⟩).1
  have k3 := (K.2.2 k ⟨o3, md_own hI om (Or.inr (Or.inr rfl)) e3⟩).1
  refine ⟨gr_ob g om, d, p, k, ⟨(fr 21 (hr (11, 21) (by decide))).trans e1, (fr 22 (hr (11, 22) (by decide))).trans e2, (fr 23 (hr (11, 23) (by decide))).trans e3, gr_ob g o1, gr_ob g o2, gr_ob g o3, n1, n2, n3⟩, v0, v1, v2, v3, u', k', ?_, fun i h => ?_, fun i h => ?_⟩
  · rw [hN']
    exact mvd_mv q7 k1
  · obtain ⟨w1, w2⟩ := hP' i h
    rw [w2]
    exact mvd_mv (q8 i w1) k2
  · obtain ⟨w1, w2⟩ := hM' i h
    rw [w2]
    exact mvd_mv (q9 i w1) k3
theorem md_keep (hI : IV S) (md : MDd m D S) (K : K9 bb LA S T) (F : FRI wi wr S T) (hr : ∀ q ∈ ([(11, 21), (11, 22), (11, 23)] : List (Nat × Nat)), q ∉ wr) (hi : ∀ q ∈ ([(11, 19), (11, 20), (11, 24), (11, 25)] : List (Nat × Nat)), q ∉ wi) : MDd m D T := by
  have md0 := md
  obtain ⟨om, d, p, k, ms, mv⟩ := md
  have f0 : ∀ j, (11, j) ∉ wi → fI T m j = fI S m j := fun j hj => F.1 11 j (by decide) hj m om
  exact md_mk hI md0 K F hr rfl (fun i h => ⟨h, rfl⟩) (fun i h => ⟨h, rfl⟩) ((f0 19 (hi (11, 19) (by decide))).trans mv.1) ((f0 20 (hi (11, 20) (by decide))).trans mv.2.1) ((f0 24 (hi (11, 24) (by decide))).trans mv.2.2.1) ((f0 25 (hi (11, 25) (by decide))).trans mv.2.2.2.1) mv.2.2.2.2.1 mv.2.2.2.2.2.1
/-- world(n) in the class: the day is ended, or as it was -/
def DwC (c dy : Nat) (S : HS) (x : Int32) (T : HS) : Prop := (x = -1 ∧ ∀ j, (0, j) ∈ pD → fI T dy j = fI S dy j) ∨ ((∃ a, fR T c 6 = some a ∧ fI T a 0 = -1 ∧ fI T a 2 = 0 ∧ fI T a 3 = 0) ∧ ∃ w, fR T c 2 = some w ∧ x = fI T w 4)
def DwM (m : Nat) (S : HS) (x : Int32) (T : HS) : Prop := (x = -1 ∧ fI T m 19 = fI S m 19 ∧ fI T m 24 = fI S m 24 ∧ fI T m 25 = fI S m 25) ∨ ((fI T m 19 = -2 ∧ fI T m 24 = 0 ∧ fI T m 25 = 0) ∧ ∃ w, ob T w 10 ∧ x = fI T w 4)
theorem dw_X9_world (oc : ob S c 9) (od : ob S dy 0) (h : P_X9_world c v1 Q S) : P_X9_world c v1 (fun x T => Q x T ∧ DwC c dy S x T) S := by
  have nc : dy ≠ c := ob_ne od oc (by decide)
  have no : P_X9_world_12 Q c S → P_X9_world_12 (fun x T => Q x T ∧ DwC c dy S x T) c S := by
    intro h
    delta P_X9_world_12
    obtain ⟨o1, h⟩ := h
    refine ⟨o1, ?_⟩
    refine cm_X9_refuse (sp_X9_refuse h) h (fun x U hp h g => ⟨h g, Or.inl ⟨hp.2.1, fun j _ => congrFun (row_o hp.2.2 nc) j⟩⟩)
  delta P_X9_world P_X9_world_0
  refine ⟨fun c1 => no (h.1 c1), fun c1 => ?_⟩
  obtain ⟨o1, h⟩ := h.2 c1
  refine ⟨o1, fun x2 q2 => ?_⟩
  have h := h x2 q2
  refine Iff.mp and_comm ⟨fun c2 => no (h.2 c2), fun c2 => ?_⟩
  obtain ⟨a4, e4, a5, e5, o5, h⟩ := h.1 c2
  refine ⟨_, e4, _, e5, o5, ?_⟩
  refine cm_X4_read (kd_X4_read h) h (fun x8 S6 hp h g b => ?_)
  have h := h g b
  have K := hp.2
  have oc6 := gr_ob g oc
  have f6 : ∀ j, (0, j) ∈ pD → fI S6 dy j = fI S dy j := fun j hj => K.2 (0, j) hj dy od
  intro S9 q9
  obtain ⟨a10, e10, o10, h⟩ := h S9 q9
  refine ⟨_, e10, o10, fun x11 q11 S12 q12 => ?_⟩
  obtain ⟨a13, e13, o13, h⟩ := h x11 q11 S12 q12
  refine ⟨_, e13, o13, fun x14 q14 S15 q15 => ?_⟩
  have h := h x14 q14 S15 q15
  have f15 : fI S15 dy = fI S6 dy := (row_o q15 nc).trans ((row_o q12 nc).trans (row_o q9 nc))
  have oc15 : ob S15 c 9 := ob_wI (ob_wI (ob_wI oc6 q9) q12) q15
  refine Iff.mp and_comm ⟨fun c3 => ?_, fun c3 => ?_⟩
  · have h := h.2 c3
    refine cm_X9_refuse (sp_X9_refuse h) h (fun x U hp h g => ⟨h g, Or.inl ⟨hp.2.1, fun j hj => ?_⟩⟩)
    rw [row_o hp.2.2 nc, f15]
    exact f6 j hj
  obtain ⟨a17, e17, a18, e18, o18, h⟩ := h.1 c3
  refine ⟨_, e17, _, e18, o18, ?_⟩
  refine cm_X4_exchange h h (fun a21 S19 h _ g => ?_)
  have h := h g
  have oc19 := gr_ob g oc15
  intro S22 q22
  obtain ⟨a23, e23, o23, h⟩ := h S22 q22
  have oc22 : ob S22 c 9 := ob_wR oc19 q22
  refine ⟨_, e23, o23, ?_⟩
  refine cm_X7_forget h h (fun S24 h _ g => ?_)
  have h := h g
  have oc24 := gr_ob g oc22
  obtain ⟨a27, e27, o27, h⟩ := h
  refine ⟨_, e27, o27, ?_⟩
  have n27 : a27 ≠ c := ob_ne o27 oc24 (by decide)
  refine cm_X0_end (sp_X0_end h) h (fun S28 hp h g => ?_)
  have h := h g
  obtain ⟨-, F, z0, z2, z3⟩ := hp
  have oc28 := gr_ob g oc24
  obtain ⟨a31, e31, o31, h⟩ := h
  refine ⟨_, e31, o31, fun x32 q32 => ?_⟩
  have h := h x32 q32
  refine cm_X9_grant (sp_X9_grant h) h (fun x U hp h g => ⟨h g, Or.inr ⟨⟨a27, ?_, ?_, ?_, ?_⟩, a31, ?_, ?_⟩⟩)
  · rw [hp.2.2]
    show fR S28 c 6 = _
    rw [F.2.2.2.1]
    exact e27
  · rw [row_o hp.2.2 n27]; exact z0
  · rw [row_o hp.2.2 n27]; exact z2
  · rw [row_o hp.2.2 n27]; exact z3
  · rw [hp.2.2]; exact e31
  · rw [row_o hp.2.2 (ob_ne o31 oc28 (by decide)), hp.2.1, q32]
theorem dw_X11_world (om : ob S m 11) (h : P_X11_world m v1 Q S) : P_X11_world m v1 (fun x T => Q x T ∧ DwM m S x T) S := by
  delta P_X11_world P_X11_world_0
  obtain ⟨o1, h⟩ := h
  refine ⟨o1, fun S1 s1 => ?_⟩
  have h := h S1 s1
  have r1 : fI S1 m = va_up (fI S m) 0 0 := row_I s1
  have om1 : ob S1 m 11 := ob_wI om s1
  have no : P_X11_world_17 Q m S1 → P_X11_world_17 (fun x T => Q x T ∧ DwM m S x T) m S1 := by
    intro h
    delta P_X11_world_17
    obtain ⟨o1, h⟩ := h
    refine ⟨o1, ?_⟩
    refine cm_X11_refused (sp_X11_refused h) h (fun x U hp h g => ⟨h g, Or.inl ⟨hp.2.1, ?_, ?_, ?_⟩⟩)
    · rw [hp.2.2.1.2.2.2.2.2.1 19 (by decide), r1]; rfl
    · rw [hp.2.2.1.2.2.2.2.2.1 24 (by decide), r1]; rfl
    · rw [hp.2.2.1.2.2.2.2.2.1 25 (by decide), r1]; rfl
  refine ⟨fun c1 => no (h.1 c1), fun c1 x3 q3 => ?_⟩
  have h := h.2 c1 x3 q3
  refine Iff.mp and_comm ⟨fun c2 => no (h.2 c2), fun c2 => ?_⟩
  have h := h.1 c2
  intro S5 q5 S6 q6 S7 q7 S8 q8 a9 n9 S10 q10
  have h := h S5 q5 S6 q6 S7 q7 S8 q8 a9 n9 S10 q10
  have r5 : fI S5 m = va_up (fI S1 m) 7 v1 := row_I q5
  have r6 : fI S6 m = va_up (fI S5 m) 6 0 := row_I q6
  have r7 : fI S7 m = va_up (fI S6 m) 8 0 := row_I q7
  have r8 : fI S8 m = va_up (fI S7 m) 13 0 := row_I q8
  have om8 : ob S8 m 11 := ob_wI (ob_wI (ob_wI (ob_wI om1 q5) q6) q7) q8
  have om10 : ob S10 m 11 := gr_ob (gr_of_new q10 n9) om8
  have r10 : fI S10 m = fI S8 m := by
    rw [q10]
    exact va_up_ne _ _ (fun z => n9 (z ▸ om8.1))
  have f10 : fI S10 m 19 = fI S m 19 ∧ fI S10 m 24 = fI S m 24 ∧ fI S10 m 25 = fI S m 25 := by
    rw [r10, r8, r7, r6, r5, r1]
    exact ⟨rfl, rfl, rfl⟩
  refine cm_X10_init (kd_X10_init h) h (fun S11 hp h g => ?_)
  have h := h g
  have K := hp.2
  have om11 := gr_ob g om10
  have f11 : fI S11 m 19 = fI S m 19 ∧ fI S11 m 24 = fI S m 24 ∧ fI S11 m 25 = fI S m 25 := ⟨(K.2 (11, 19) (by decide) m om10).trans f10.1, (K.2 (11, 24) (by decide) m om10).trans f10.2.1, (K.2 (11, 25) (by decide) m om10).trans f10.2.2⟩
  intro S14 q14 S15 q15
  have h := h S14 q14 S15 q15
  have i14 : fI S14 = fI S11 := by rw [q14]; rfl
  have om14 : ob S14 m 11 := ob_wR om11 q14
  have r15 : fI S15 m = va_up (fI S14 m) 9 0 := row_I q15
  have om15 : ob S15 m 11 := ob_wI om14 q15
  have f15 : fI S15 m 19 = fI S m 19 ∧ fI S15 m 24 = fI S m 24 ∧ fI S15 m 25 = fI S m 25 := by
    rw [r15, i14]
    exact f11
  refine cm_X11_goesOn (kd_X11_goesOn h) h (fun S16 hp h g => ?_)
  have h := h g
  have K := hp.2
  have om16 := gr_ob g om15
  have f16 : fI S16 m 19 = fI S m 19 ∧ fI S16 m 24 = fI S m 24 ∧ fI S16 m 25 = fI S m 25 := ⟨(K.2 (11, 19) (by decide) m om15).trans f15.1, (K.2 (11, 24) (by decide) m om15).trans f15.2.1, (K.2 (11, 25) (by decide) m om15).trans f15.2.2⟩
  refine cm_X11_readAll (kd_X11_readAll h) h (fun S19 hp h g => ?_)
  have h := h g
  have K := hp.2
  have om19 := gr_ob g om16
  have f19 : fI S19 m 19 = fI S m 19 ∧ fI S19 m 24 = fI S m 24 ∧ fI S19 m 25 = fI S m 25 := ⟨(K.2 (11, 19) (by decide) m om16).trans f16.1, (K.2 (11, 24) (by decide) m om16).trans f16.2.1, (K.2 (11, 25) (by decide) m om16).trans f16.2.2⟩
  intro x22 q22
  have h := h x22 q22
  refine Iff.mp and_comm ⟨fun c3 S34 q34 x35 q35 S36 q36 => ⟨h.2 c3 S34 q34 x35 q35 S36 q36, Or.inl ⟨rfl, ?_⟩⟩, fun c3 => ?_⟩
  · have r34 : fI S34 m = va_up (fI S19 m) 1 4 := row_I q34
    have r36 : fI S36 m = va_up (fI S34 m) 2 x35 := row_I q36
    rw [r36, r34]
    exact f19
  obtain ⟨a24, e24, h⟩ := h.1 c3
  refine ⟨_, e24, fun S25 q25 S26 q26 S27 q27 S28 q28 => ?_⟩
  obtain ⟨a29, e29, o29, h⟩ := h S25 q25 S26 q26 S27 q27 S28 q28
  have r26 : fI S26 m = va_up (fI S25 m) 19 (-2) := row_I q26
  have r27 : fI S27 m = va_up (fI S26 m) 24 0 := row_I q27
  have r28 : fI S28 m = va_up (fI S27 m) 25 0 := row_I q28
  refine ⟨_, e29, o29, fun x30 q30 => ?_⟩
  have h := h x30 q30
  have om28 : ob S28 m 11 := ob_wI (ob_wI (ob_wI (ob_wR om19 q25) q26) q27) q28
  refine cm_X11_good (sp_X11_good h) h (fun x U hp h g => ⟨h g, Or.inr ⟨?_, a29, gr_ob g o29, ?_⟩⟩)
  · rw [hp.2.2.1.2.2.2.2.2.1 19 (by decide), hp.2.2.1.2.2.2.2.2.1 24 (by decide), hp.2.2.1.2.2.2.2.2.1 25 (by decide), r28, r27, r26]
    exact ⟨rfl, rfl, rfl⟩
  · rw [(hp.2.2.1.2.2.2.2.1 a29 (ob_ne o29 om28 (by decide))).1, hp.2.1, q30]
theorem dwm_x (hT : IV T) (w : DwM m S x T) : (¬ x = -1 → fI T m 19 = -2 ∧ fI T m 24 = 0 ∧ fI T m 25 = 0) ∧ (x = -1 → fI T m 19 = fI S m 19 ∧ fI T m 24 = fI S m 24 ∧ fI T m 25 = fI S m 25) := by
  rcases w with ⟨hx, hw⟩ | ⟨hw, w, ow, hx⟩
  · exact ⟨fun z => absurd hx z, fun _ => hw⟩
  · refine ⟨fun _ => hw, fun z => ?_⟩
    have q := le_i (hT.2.2.2.1 (10, 4, 0, 4) (by decide) w ow).1
    rw [← hx, z] at q
    exact absurd q (by decide)
theorem xr_w (ht : t ≤ 900) (h : WCd S f t v1 c x T) (e : WCe c r w1 w2 U (RWo f t v1) T) : (RWo f t v1 = none ∧ x = -1) ∨ ((∃ p, RWo f t v1 = some p) ∧ ¬ x = -1) := by
  rcases h with ⟨hb, hx, -⟩ | ⟨n, hn, hv, hw⟩
  · exact Or.inl ⟨rw_bad hb, hx⟩
  · rw [rw_ok ht hn hv] at e ⊢
    unfold RWs at e ⊢
    cases hR : sAll f n 1000 0 A00 with
    | inr q =>
      rw [hR] at hw
      exact Or.inl ⟨rfl, hw.1⟩
    | inl A =>
      rw [hR] at hw e
      have ab := e.2.2.2
      refine Or.inr ⟨⟨_, rfl⟩, ?_⟩
      rw [hw.1]
      exact nI_nm1 (by have := ab.2.2.2.2.1; show aW A < 100000; have : aW A ≤ 4 := this; omega)
/-- the day behind world(n), in the class -/
theorem cd_world (hI : IV S) (hT : IV T) (oc : ob S c 9) (e6 : fR S c 6 = some dy) (cd : CDd dy D S) (K : K9 true LB S T) (F : FRI wi wr S T) (hr : ∀ q ∈ ([(0, 4), (0, 5), (0, 6), (2, 2)] : List (Nat × Nat)), q ∉ wr) (h6 : (9, 6) ∉ wr) (hi : ∀ q ∈ ([(2, 0), (2, 1)] : List (Nat × Nat)), q ∉ wi) (h1 : (0, 1) ∉ wi) (w : DwC c dy S x T) : fR T c 6 = some dy ∧ ((x = -1 ∧ CDd dy D T) ∨ (¬ x = -1 ∧ CDd dy (offD D) T)) := by
  have e6T : fR T c 6 = some dy := (F.2 9 6 (by decide) h6 c oc).trans e6
  refine ⟨e6T, ?_⟩
  have cd0 := cd
  obtain ⟨od, pa, ma, mo, go, cs, cv⟩ := cd
  rcases w with ⟨hx, hw⟩ | ⟨⟨a, ea, z0, z2, z3⟩, w, ew, hx⟩
  · exact Or.inl ⟨hx, cd_mk hI cd0 K F hr hi rfl (fun i h => ⟨h, rfl⟩) (fun i h => ⟨h, rfl⟩) ((hw 0 (by decide)).trans cv.1) ((hw 1 (by decide)).trans cv.2.1) ((hw 2 (by decide)).trans cv.2.2.1) ((hw 3 (by decide)).trans cv.2.2.2.1) cv.2.2.2.2.1 cv.2.2.2.2.2.1⟩
  · cases e6T.symm.trans ea
    refine Or.inr ⟨fun z => ?_, cd_mk hI cd0 K F hr hi rfl (fun i h => absurd h (Nat.not_lt_zero i)) (fun i h => absurd h (Nat.not_lt_zero i)) z0 ((F.1 0 1 (by decide) h1 dy od).trans cv.2.1) z2 z3 (by show 0 ≤ 16; omega) (by show 0 ≤ 3; omega)⟩
    obtain ⟨w', e', o', -⟩ := hT.1 (9, 2, 8, 0) (by decide) c (gr_ob K.1 oc)
    cases e'.symm.trans ew
    have q := (hT.2.2.2.1 (8, 4, 0, 4) (by decide) w o').1
    have q := le_i q
    rw [← hx, z] at q
    exact absurd q (by decide)
theorem md_world (hI : IV S) (md : MDd m D S) (K : K9 bb LA S T) (F : FRI wi wr S T) (hr : ∀ q ∈ ([(11, 21), (11, 22), (11, 23)] : List (Nat × Nat)), q ∉ wr) (hi : (11, 20) ∉ wi) (hx : ¬ x = -1 → fI T m 19 = -2 ∧ fI T m 24 = 0 ∧ fI T m 25 = 0) (hy : x = -1 → fI T m 19 = fI S m 19 ∧ fI T m 24 = fI S m 24 ∧ fI T m 25 = fI S m 25) : (x = -1 → MDd m D T) ∧ (¬ x = -1 → MDd m (offD D) T) := by
  have md0 := md
  obtain ⟨om, d, p, k, ms, mv⟩ := md
  have f20 := F.1 11 20 (by decide) hi m om
  refine ⟨fun z => ?_, fun z => ?_⟩
  · obtain ⟨z1, z2, z3⟩ := hy z
    exact md_mk hI md0 K F hr rfl (fun i h => ⟨h, rfl⟩) (fun i h => ⟨h, rfl⟩) (z1.trans mv.1) (f20.trans mv.2.1) (z2.trans mv.2.2.1) (z3.trans mv.2.2.2.1) mv.2.2.2.2.1 mv.2.2.2.2.2.1
  · obtain ⟨z1, z2, z3⟩ := hx z
    exact md_mk hI md0 K F hr rfl (fun i h => absurd h (Nat.not_lt_zero i)) (fun i h => absurd h (Nat.not_lt_zero i)) z1 (f20.trans mv.2.1) z2 z3 (by show 0 ≤ 16; omega) (by show 0 ≤ 3; omega)
end C56
/-! the day's bounds stay -/
section C57
variable {A A' : AS} {G : GC} {D : DY} {v v1 v2 v3 v4 x y t : Int32} {i k : Nat}
theorem bt_or : ∀ b : Fin 64, ∀ k : Fin 6, b.1 < 2 ^ k.1 → nI b.1 ||| ((1 : Int32) <<< (nI k.1 &&& 31)) = nI (b.1 + 2 ^ k.1) := by decide +kernel
theorem drB_b (s : Int32) : ∀ k, k ≤ 6 → ∃ b, drB G k s = nI b ∧ b < 2 ^ k
  | 0, _ => ⟨0, rfl, by decide⟩
  | k + 1, hk => by
    obtain ⟨b, e, lt⟩ := drB_b s k (by omega)
    have p2 : (2 : Nat) ^ (k + 1) = 2 ^ k + 2 ^ k := by rw [Nat.pow_succ]; omega
    show ∃ b, (if gRn G k 4 ≤ rm1 (drS (k + 1) s) then drB G k s else drB G k s ||| ((1 : Int32) <<< (nI k &&& 31))) = nI b ∧ b < 2 ^ (k + 1)
    by_cases c : gRn G k 4 ≤ rm1 (drS (k + 1) s)
    · rw [if_pos c]
      exact ⟨b, e, by omega⟩
    · rw [if_neg c, e]
      have h6 : (2 : Nat) ^ k ≤ 2 ^ 5 := Nat.pow_le_pow_right (by decide) (by omega)
      exact ⟨b + 2 ^ k, bt_or ⟨b, by have q5 : (2 : Nat) ^ 5 = 32 := (by decide); omega⟩ ⟨k, by omega⟩ lt, by omega⟩
theorem mb_kp (h0 : MB A (dN D)) (hP : ∀ i, i < dU D → MB A (dP D i)) : ∀ i, i < dU (kpF D) → MB A (dP (kpF D) i) := by
  intro i hi
  unfold kpF at hi ⊢
  by_cases c : dU D = 16
  · rw [if_pos c] at hi ⊢
    have hi : i < 15 + 1 := hi
    show MB A (if i = 15 then dN D else dP D (i + 1))
    by_cases z : i = 15
    · rw [if_pos z]; exact h0
    · rw [if_neg z]; exact hP _ (by omega)
  · rw [if_neg c] at hi ⊢
    have hi : i < dU D + 1 := hi
    show MB A (if i = dU D then dN D else dP D i)
    by_cases z : i = dU D
    · rw [if_pos z]; exact h0
    · rw [if_neg z]; exact hP _ (by omega)
theorem db_kp {w : MO} (db : DBd A D) (on : onD D) (hw : MB A w) : DBd A (nwD (kpF D) w) := by
  obtain ⟨b1, b2, b3, b4, b5⟩ := db_on db on
  obtain ⟨kN, kW, kR, kK, kM⟩ := kpF_N D
  refine Or.inr ⟨?_, ?_, ?_, hw, mb_kp b3 b4, ?_⟩
  · show ¬ dW (kpF D) = -1
    rw [kW]; exact on
  · show ¬ dW (kpF D) < 0 ∧ dW (kpF D) < nI (aW A)
    rw [kW]; exact b1
  · show ∃ b, dR (kpF D) = nI b ∧ _
    rw [kR]; exact b2
  · intro i hi
    have hi : i < dK (kpF D) := hi
    show MB A (dM (kpF D) i)
    rw [kK] at hi
    rw [kM]
    exact b5 i hi
theorem db_day (ab : ABd A) (db : DBd A D) : DBd A (nxday A G D v1 v2 v3 v4) := by
  unfold nxday
  by_cases ok : dayOK A v1 v2 v3 v4
  · rw [dc_y ok]
    have e0 : (0 : Int32).toInt = 0 := by decide
    have e4 : (400 : Int32).toInt = 400 := by decide
    have p := ok.1.2
    have p0 := nlt_i p.1
    have p1 := lt_i p.2
    rw [nI_i (by have := ab.2.2.1; omega)] at p1
    have t0 := nlt_i (fun z => ok.2.1 (Or.inl z))
    have t1 := nlt_i (fun z => ok.2.1 (Or.inr z))
    refine Or.inr ⟨fun z => ?_, ok.1.1, drB_b v4 (aHs A) ab.2.1, ⟨?_, p1, ?_, ?_, fun f hf => ?_⟩, fun i hi => absurd hi (Nat.not_lt_zero i), fun i hi => absurd hi (Nat.not_lt_zero i)⟩
    · have z : v1 = -1 := z
      exact ok.1.1.1 (by rw [z]; decide)
    · show 0 ≤ v2.toInt; omega
    · show 0 ≤ v3.toInt; omega
    · show v3.toInt ≤ 999; omega
    · show 0 ≤ (0 : Int64).toInt ∧ (0 : Int64).toInt ≤ v3.toInt * 3747643200
      have z0 : (0 : Int64).toInt = 0 := by decide
      omega
  · rw [dc_n ok]
    exact db
theorem db_undo (db : DBd A D) : DBd A (nxundo D) := by
  unfold nxundo
  by_cases u : 0 < dU D
  · rw [if_pos u]
    rcases db with q | ⟨on, b1, b2, b3, b4, b5⟩
    · omega
    · exact Or.inr ⟨on, b1, b2, b4 (dU D - 1) (by omega), fun i hi => b4 i (by have hi : i < dU D - 1 := hi; omega), b5⟩
  · rw [if_neg u]
    exact db
theorem db_mark (db : DBd A D) : DBd A (nxmark D) := by
  unfold nxmark
  by_cases on : onD D
  · rw [dc_y on]
    by_cases c : dK D < 3
    · rw [if_pos c]
      obtain ⟨b1, b2, b3, b4, b5⟩ := db_on db on
      refine Or.inr ⟨on, b1, b2, b3, b4, fun i hi => ?_⟩
      have hi : i < dK D + 1 := hi
      show MB A (if i = dK D then dN D else dM D i)
      by_cases z : i = dK D
      · rw [if_pos z]; exact b3
      · rw [if_neg z]; exact b5 i (by omega)
    · rw [if_neg c]
      exact db
  · rw [dc_n on]
    exact db
theorem db_back (ab : ABd A) (k3 : dK D ≤ 3) (db : DBd A D) : DBd A (bkF D v) := by
  unfold bkF
  by_cases ok : ¬ v < 0 ∧ v < nI (dK D)
  · rw [dc_y ok]
    rcases db with q | ⟨on, b1, b2, b3, b4, b5⟩
    · rw [q.2.2] at ok
      exact absurd ok (zero_n rfl)
    · exact Or.inr ⟨on, b1, b2, b5 _ (ix_lt (by omega) ok), fun i hi => absurd hi (Nat.not_lt_zero i), b5⟩
  · rw [dc_n ok]
    exact db
theorem goM_b {l v : Int32} (h1 : 1 ≤ l.toInt) (h2 : l.toInt ≤ 60) (h3 : 1 ≤ v.toInt) (h4 : v.toInt ≤ 9) : 1 ≤ ((l + v - 1) / v).toInt ∧ ((l + v - 1) / v).toInt ≤ 68 := by
  have e1 : (1 : Int32).toInt = 1 := by decide
  have s : (l + v - 1).toInt = l.toInt + v.toInt - 1 := by
    rw [Int32.toInt_sub, Int32.toInt_add, e1, Int.bmod_eq_of_le (m := 2 ^ 32) (n := l.toInt + v.toInt) (by omega) (by omega), Int.bmod_eq_of_le (by omega) (by omega)]
  have q0 : 0 ≤ l.toInt + v.toInt - 1 := by omega
  have d1 : 1 ≤ (l.toInt + v.toInt - 1) / v.toInt := by
    rw [Int.le_ediv_iff_mul_le (by omega)]
    omega
  have d2 : (l.toInt + v.toInt - 1) / v.toInt ≤ l.toInt + v.toInt - 1 := Int.ediv_le_self _ q0
  rw [Int32.toInt_div, s, Int.tdiv_eq_ediv_of_nonneg q0, Int.bmod_eq_of_le (by omega) (by omega)]
  omega
theorem db_go (ab : ABd A) (gb : GBd A G) (ge : GBe A G) (db : DBd A D) : DBd A (nxgo A G D v1 v2 v3) := by
  unfold nxgo
  by_cases ok : goC A G D v1 v2 v3
  · rw [dc_y ok]
    have on := ok.1.1
    have dbo := db_on db on
    have mb := dbo.2.2.1
    obtain ⟨m0, m1, m2, m3, m4⟩ := mb
    have ir := ix_lt (by have := ab.2.2.2.1; omega) ok.1.2.1
    have iw := ix_lt (by have := ab.2.2.2.2.1; omega) dbo.1
    have bd := gb.2.2.1 _ ir
    have bw := gb.2.2.2 _ iw
    have er := ge.2.1 _ ir
    obtain ⟨s1, s9, -⟩ := ok_v bw ok.2.1
    have gm := goM_b (l := gRd G v1.toNatClampNeg 3) (v := v3) bd.2.2.2.1.1 bd.2.2.2.1.2 s1 s9
    have gm : 1 ≤ (goM G v1 v3).toInt ∧ (goM G v1 v3).toInt ≤ 68 := gm
    have e9 : (999 : Int32).toInt = 999 := by decide
    have s : ((dN D).2.1 + goM G v1 v3).toInt = (dN D).2.1.toInt + (goM G v1 v3).toInt := by
      rw [Int32.toInt_add, Int.bmod_eq_of_le (by omega) (by omega)]
    have c9 := le_i ok.2.2.2
    rw [s, e9] at c9
    refine db_kp db on ⟨?_, ?_, ?_, ?_, fun f hf => ?_⟩
    · show 0 ≤ (goT G v1 v2).toInt
      unfold goT
      by_cases z : v2 = 0
      · rw [if_pos z]; exact bd.2.1.1
      · rw [if_neg z]; exact bd.1.1
    · show (goT G v1 v2).toInt < _
      unfold goT
      by_cases z : v2 = 0
      · rw [if_pos z]; exact er.2
      · rw [if_neg z]; exact er.1
    · show 0 ≤ ((dN D).2.1 + goM G v1 v3).toInt
      omega
    · show ((dN D).2.1 + goM G v1 v3).toInt ≤ 999
      omega
    · show 0 ≤ (goG A G D v1 v2 v3 f).toInt ∧ (goG A G D v1 v2 v3 f).toInt ≤ ((dN D).2.1 + goM G v1 v3).toInt * 3747643200
      obtain ⟨g0, g1⟩ := m4 f hf
      rw [s]
      unfold goG
      by_cases rn : rnO A D (dN D).2.1
      · rw [dc_y rn]
        have ih := ix_lt (by have := ab.2.1; omega) rn.1
        have pb := pt_b (u := v2) (gb.1 _ ih) bd bw s1 s9 f hf
        have q := bJ_add (x := (dN D).2.2 f) (B := 999 * 3747643200) ⟨rfl, g0, by omega⟩ pb (by decide)
        rw [q.1]
        have := pb.2
        omega
      · rw [dc_n rn]
        omega
  · rw [dc_n ok]
    exact db
theorem stX_b (ab : ABd A) (gb : GBd A G) (iw : (dW D).toNatClampNeg < aW A) (cw : cwO A G (dN D).1) : 0 ≤ (stX A G D).toInt ∧ (stX A G D).toInt ≤ 3747643200 := by
  have ip := ix_lt (by have := ab.2.2.1; omega) cw.1
  have b := gb.2.1 _ ip
  have bw := gb.2.2.2 _ iw
  have bv : bI (dripOf (gPk G (dN D).1.toNatClampNeg) (gPv G (dN D).1.toNatClampNeg)) (dripOf (gPk G (dN D).1.toNatClampNeg) (gPv G (dN D).1.toNatClampNeg)).toInt 9 := by
    have q := cw.2
    unfold dripOf at q ⊢
    by_cases z : gPk G (dN D).1.toNatClampNeg = 1
    · rw [if_pos z]; exact ⟨rfl, by decide, by decide⟩
    · rw [if_neg z] at q ⊢
      by_cases z2 : gPk G (dN D).1.toNatClampNeg = 2
      · rw [if_pos z2]; exact bI_of b.2 (by decide)
      · rw [if_neg z2] at q; exact absurd rfl q
  have bm := bI_mx (B := 153) (bI_sub (bI_of bw.2.2.1 (by decide)) (sh_b bw) (by decide) (by decide)) (by have := bw.2.2.1.2; have := (sh_b bw).2.1; omega) (by decide)
  unfold stX drpO
  rw [dc_y cw]
  have q := bJ_mul (bJ_of (bI_mul bv bm (by decide))) (⟨by decide, by decide, by decide⟩ : bJ 2520 2520 2520) (by decide)
  rw [q.1]
  have := q.2
  omega
theorem stJ_b {xx : Int64} (hx : 0 ≤ xx.toInt ∧ xx.toInt ≤ 3747643200) {g : Int64} {B : Int} (hg : 0 ≤ g.toInt ∧ g.toInt ≤ B) (hB : B ≤ 999 * 3747643200) : ∀ k : Nat, k ≤ 60 → 0 ≤ (stJ A D xx t k g).toInt ∧ (stJ A D xx t k g).toInt ≤ B + (k : Int) * 3747643200
  | 0, _ => by
    show 0 ≤ g.toInt ∧ g.toInt ≤ B + ((0 : Nat) : Int) * 3747643200
    omega
  | k + 1, hk => by
    obtain ⟨q1, q2⟩ := stJ_b hx hg hB k (by omega)
    show 0 ≤ (dc (rnO A D (t + nI k)) (stJ A D xx t k g + xx) (stJ A D xx t k g)).toInt ∧ _
    by_cases rn : rnO A D (t + nI k)
    · have e : stJ A D xx t (k + 1) g = stJ A D xx t k g + xx := dc_y rn
      rw [e, dc_y rn, Int64.toInt_add, Int.bmod_eq_of_le (by omega) (by omega)]
      omega
    · have e : stJ A D xx t (k + 1) g = stJ A D xx t k g := dc_n rn
      rw [e, dc_n rn]
      omega
theorem db_stay (ab : ABd A) (gb : GBd A G) (db : DBd A D) : DBd A (nxstay A G D v) := by
  unfold nxstay
  by_cases ok : stC A G D v
  · rw [dc_y ok]
    have on := ok.1
    have dbo := db_on db on
    obtain ⟨m0, m1, m2, m3, m4⟩ := dbo.2.2.1
    have iw := ix_lt (by have := ab.2.2.2.2.1; omega) dbo.1
    have e1 : (1 : Int32).toInt = 1 := by decide
    have e60 : (60 : Int32).toInt = 60 := by decide
    have e9 : (999 : Int32).toInt = 999 := by decide
    have n1 := nlt_i (fun z => ok.2.1 (Or.inl z))
    have n2 := nlt_i (fun z => ok.2.1 (Or.inr z))
    have nn : (v.toNatClampNeg : Int) = v.toInt := by
      rw [Int32.toNatClampNeg]
      omega
    have s : ((dN D).2.1 + v).toInt = (dN D).2.1.toInt + v.toInt := by
      rw [Int32.toInt_add, Int.bmod_eq_of_le (by omega) (by omega)]
    have c9 := le_i ok.2.2.2
    rw [s, e9] at c9
    refine db_kp db on ⟨m0, m1, ?_, ?_, fun f hf => ?_⟩
    · show 0 ≤ ((dN D).2.1 + v).toInt
      omega
    · show ((dN D).2.1 + v).toInt ≤ 999
      omega
    · show 0 ≤ (stG A G D v.toNatClampNeg f).toInt ∧ (stG A G D v.toNatClampNeg f).toInt ≤ ((dN D).2.1 + v).toInt * 3747643200
      obtain ⟨g0, g1⟩ := m4 f hf
      rw [s]
      unfold stG
      by_cases z : f = 0
      · rw [if_pos z]
        rw [z] at g0 g1
        have q := stJ_b (A := A) (D := D) (t := (dN D).2.1) (stX_b ab gb iw ok.2.2.1) (g := (dN D).2.2 0) (B := (dN D).2.1.toInt * 3747643200) ⟨g0, g1⟩ (by omega) v.toNatClampNeg (by omega)
        omega
      · rw [if_neg z]
        omega
  · rw [dc_n ok]
    exact db
end C57
/-! the start of the day -/
section C58a
variable {S S0 T : HS} {c m v0 : Nat} {QU : HS → Prop}
theorem sr_X11_init (h : P_X11_init v0 QU S) (E : S = nW S0 v0 11 0) : P_X11_init v0 (fun T => QU T ∧ ∃ F g, BX S T v0 F g ∧ (5, 12, 900) ∈ F ∧ g 6 = 0 ∧ g 13 = 0 ∧ g 2 = -1 ∧ g 1 = 0 ∧ (∀ e ∈ F, e.1 ≠ 3) ∧ (21, 14, 7) ∈ F ∧ (22, 14, 112) ∈ F ∧ (23, 14, 21) ∈ F ∧ g 19 = -2 ∧ g 20 = 0 ∧ g 24 = 0 ∧ g 25 = 0) S := by
  have hv : v0 ∈ hL S := by rw [E]; exact List.mem_append_right _ (List.mem_singleton.mpr rfl)
  have hz : fI S v0 = fun _ => 0 := by rw [E]; exact zero_new.2
  have b0 := bx_rf (S0 := S) (v := v0) (fun j b e => by rw [E, zero_new.1 j] at e; exact absurd e (by simp))
  rw [hz] at b0
  delta P_X11_init P_X11_init_0
  obtain ⟨oq1, h⟩ := h
  refine ⟨oq1, ?_⟩
  intro Sq2 eSq2
  have h := h Sq2 eSq2
  have b1 := bx_I b0 hv eSq2
  intro aq3 eaq3
  have h := h aq3 eaq3
  intro Sq4 eSq4
  have h := h Sq4 eSq4
  intro Sq5 eSq5
  have h := h Sq5 eSq5
  have b2 := bx_arr b1 hv eaq3 eSq4 eSq5 (by decide) (by decide)
  intro aq6 eaq6
  have h := h aq6 eaq6
  intro Sq7 eSq7
  have h := h Sq7 eSq7
  intro Sq8 eSq8
  have h := h Sq8 eSq8
  have b3 := bx_arr b2 hv eaq6 eSq7 eSq8 (by decide) (by decide)
  intro aq9 eaq9
  have h := h aq9 eaq9
  intro Sq10 eSq10
  have h := h Sq10 eSq10
  intro Sq11 eSq11
  have h := h Sq11 eSq11
  have b4 := bx_arr b3 hv eaq9 eSq10 eSq11 (by decide) (by decide)
  intro aq12 eaq12
  have h := h aq12 eaq12
  intro Sq13 eSq13
  have h := h Sq13 eSq13
  intro Sq14 eSq14
  have h := h Sq14 eSq14
  have b5 := bx_arr b4 hv eaq12 eSq13 eSq14 (by decide) (by decide)
  intro Sq15 eSq15
  have h := h Sq15 eSq15
  have b6 := bx_I b5 hv eSq15
  intro aq16 eaq16
  have h := h aq16 eaq16
  intro Sq17 eSq17
  have h := h Sq17 eSq17
  intro Sq18 eSq18
  have h := h Sq18 eSq18
  have b7 := bx_arr b6 hv eaq16 eSq17 eSq18 (by decide) (by decide)
  intro aq19 eaq19
  have h := h aq19 eaq19
  intro Sq20 eSq20
  have h := h Sq20 eSq20
  intro Sq21 eSq21
  have h := h Sq21 eSq21
  have b8 := bx_arr b7 hv eaq19 eSq20 eSq21 (by decide) (by decide)
  intro aq22 eaq22
  have h := h aq22 eaq22
  intro Sq23 eSq23
  have h := h Sq23 eSq23
  intro Sq24 eSq24
  have h := h Sq24 eSq24
  have b9 := bx_arr b8 hv eaq22 eSq23 eSq24 (by decide) (by decide)
  exact ⟨h, _, _, b9, by simp, by decide, by decide, by decide, by decide, by decide, by simp, by simp, by simp, by decide, by decide, by decide, by decide⟩
end C58a

def M00 : MO := (0, 0, fun _ => 0)
def D00 : DY := (-1, 0, 0, 0, M00, (fun _ => M00), fun _ => M00)
section C58
variable {c m dy v0 a a3 x : Nat} {S T U : HS} {Q0 : HS → Prop} {F : List (Nat × Nat × Nat)} {g : Nat → Int32} {kk nn : Nat} {w : Int32}
theorem sz_X2_init (hx : x ∈ hL S) (h : P_X2_init a Q0 S) : P_X2_init a (fun T => Q0 T ∧ fI T x = fI S x ∧ x ∈ hL T) S := by
  delta P_X2_init P_X2_init_0
  intro a1 n1 S2 q2
  obtain ⟨o2, h⟩ := h a1 n1 S2 q2
  refine ⟨o2, fun S3 q3 => ⟨h S3 q3, ?_, ?_⟩⟩
  · rw [q3]
    show fI S2 x = _
    rw [q2]
    exact va_up_ne _ _ (fun z => n1 (z ▸ hx))
  · rw [q3]
    show x ∈ hL S2
    exact ((gr_of_new q2 n1) x hx).1
theorem sz69 (hx : v0 ∈ hL S) (h0 : fI S v0 0 = -1) (h : P_X0_init_69 Q0 v0 w kk nn S) : P_X0_init_69 (fun T => Q0 T ∧ fI T v0 0 = -1) v0 w kk nn S := by
  intro X hX
  refine h (fun a0 v1 kk nn T => (a0 = v0 ∧ v0 ∈ hL T ∧ fI T v0 0 = -1) → X a0 v1 kk nn T) ?_ ⟨rfl, hx, h0⟩
  rintro a0 v1 kk nn T h ⟨rfl, hx, h0⟩
  apply hX
  obtain ⟨o1, a1, e1, o2, h⟩ := h
  refine ⟨o1, _, e1, o2, fun c1 => ⟨(h.1 c1).1, (h.1 c1).2.1, (h.1 c1).2.2, h0⟩, fun c1 => ?_⟩
  obtain ⟨a3, e3, p1, p2, h⟩ := h.2 c1
  refine ⟨_, e3, p1, p2, fun a4 n4 S5 q5 => ?_⟩
  obtain ⟨p3, p4, h⟩ := h a4 n4 S5 q5
  have hx5 : a0 ∈ hL S5 := ((gr_of_new q5 n4) a0 hx).1
  have r5 : fI S5 a0 = fI T a0 := by
    rw [q5]
    exact va_up_ne _ _ (fun z => n4 (z ▸ hx))
  refine ⟨p3, p4, ?_⟩
  refine cm_X2_init (sz_X2_init hx5 h) h (fun S6 hp h g => ?_)
  obtain ⟨o6, i6, h⟩ := h g
  refine ⟨o6, i6, fun S10 q10 x11 q11 => h S10 q10 x11 q11 ⟨rfl, ?_, ?_⟩⟩
  · rw [q10]; exact hp.2.2
  · rw [q10]
    show fI S6 a0 0 = _
    rw [hp.2.1, r5]
    exact h0
theorem sz39 (hx : v0 ∈ hL S) (h0 : fI S v0 0 = -1) (h : P_X0_init_39 Q0 v0 w kk nn S) : P_X0_init_39 (fun T => Q0 T ∧ fI T v0 0 = -1) v0 w kk nn S := by
  intro X hX
  refine h (fun a0 v1 kk nn T => (a0 = v0 ∧ v0 ∈ hL T ∧ fI T v0 0 = -1) → X a0 v1 kk nn T) ?_ ⟨rfl, hx, h0⟩
  rintro a0 v1 kk nn T h ⟨rfl, hx, h0⟩
  apply hX
  obtain ⟨o1, a1, e1, o2, h⟩ := h
  refine ⟨o1, _, e1, o2, fun c1 => sz69 hx h0 (h.1 c1), fun c1 => ?_⟩
  obtain ⟨a3, e3, p1, p2, h⟩ := h.2 c1
  refine ⟨_, e3, p1, p2, fun a4 n4 S5 q5 => ?_⟩
  obtain ⟨p3, p4, h⟩ := h a4 n4 S5 q5
  have hx5 : a0 ∈ hL S5 := ((gr_of_new q5 n4) a0 hx).1
  have r5 : fI S5 a0 = fI T a0 := by
    rw [q5]
    exact va_up_ne _ _ (fun z => n4 (z ▸ hx))
  refine ⟨p3, p4, ?_⟩
  refine cm_X2_init (sz_X2_init hx5 h) h (fun S6 hp h g => ?_)
  obtain ⟨o6, i6, h⟩ := h g
  refine ⟨o6, i6, fun S10 q10 x11 q11 => h S10 q10 x11 q11 ⟨rfl, ?_, ?_⟩⟩
  · rw [q10]; exact hp.2.2
  · rw [q10]
    show fI S6 a0 0 = _
    rw [hp.2.1, r5]
    exact h0
theorem sz_X0_init (h : P_X0_init v0 Q0 S) : P_X0_init v0 (fun T => Q0 T ∧ fI T v0 0 = -1) S := by
  delta P_X0_init P_X0_init_0
  obtain ⟨o1, h⟩ := h
  refine ⟨o1, fun S1 q1 => ?_⟩
  obtain ⟨p1, p2, h⟩ := h S1 q1
  refine ⟨p1, p2, fun a2 n2 S3 q3 => ?_⟩
  obtain ⟨p3, p4, h⟩ := h a2 n2 S3 q3
  refine ⟨p3, p4, ?_⟩
  have h1 : v0 ∈ hL S1 := by rw [q1]; exact o1.1
  have f1 : fI S1 v0 0 = -1 := by rw [row_I q1]; rfl
  have h3 : v0 ∈ hL S3 := ((gr_of_new q3 n2) v0 h1).1
  have f3 : fI S3 v0 0 = -1 := by
    have w : fI S3 v0 = fI S1 v0 := by
      rw [q3]
      exact va_up_ne _ _ (fun z => n2 (z ▸ h1))
    rw [w]
    exact f1
  refine cm_X2_init (sz_X2_init h3 h) h (fun S4 hp h g => ?_)
  have h := h g
  intro S7 q7
  obtain ⟨p5, p6, h⟩ := h S7 q7
  have h7 : v0 ∈ hL S7 := by rw [q7]; exact hp.2.2
  have f7 : fI S7 v0 0 = -1 := by
    rw [q7]
    show fI S4 v0 0 = _
    rw [hp.2.1]
    exact f3
  refine ⟨p5, p6, fun a8 n8 S9 q9 S10 q10 => ?_⟩
  obtain ⟨p7, p8, h⟩ := h a8 n8 S9 q9 S10 q10
  have h9 : v0 ∈ hL S9 := ((gr_of_new q9 n8) v0 h7).1
  have f9 : fI S9 v0 0 = -1 := by
    have w : fI S9 v0 = fI S7 v0 := by
      rw [q9]
      exact va_up_ne _ _ (fun z => n8 (z ▸ h7))
    rw [w]
    exact f7
  have h10 : v0 ∈ hL S10 := by rw [q10]; exact h9
  have f10 : fI S10 v0 0 = -1 := by rw [q10]; exact f9
  refine ⟨p7, p8, fun a11 n11 S12 q12 S13 q13 => ?_⟩
  have h := h a11 n11 S12 q12 S13 q13
  have h12 : v0 ∈ hL S12 := ((gr_of_new q12 n11) v0 h10).1
  have f12 : fI S12 v0 0 = -1 := by
    have w : fI S12 v0 = fI S10 v0 := by
      rw [q12]
      exact va_up_ne _ _ (fun z => n11 (z ▸ h10))
    rw [w]
    exact f10
  exact sz39 (by rw [q13]; exact h12) (by rw [q13]; exact f12) h
theorem sz_X9_init (h : P_X9_init c Q0 S) : P_X9_init c (fun T => Q0 T ∧ ∀ dy, fR T c 6 = some dy → fI T dy 0 = -1) S := by
  delta P_X9_init P_X9_init_0
  intro a1 n1 S2 q2
  obtain ⟨o2, h⟩ := h a1 n1 S2 q2
  refine ⟨o2, fun S3 q3 a4 n4 S5 q5 => ?_⟩
  have h := h S3 q3 a4 n4 S5 q5
  refine cm_X8_init h h (fun S6 h _ g => ?_)
  have h := h g
  intro S9 q9 a10 n10 S11 q11
  have h := h S9 q9 a10 n10 S11 q11
  refine cm_X4_init h h (fun S12 h _ g => ?_)
  have h := h g
  intro S15 q15 a16 n16 S17 q17
  have h := h S15 q15 a16 n16 S17 q17
  refine cm_X1_init h h (fun S18 h _ g => ?_)
  have h := h g
  intro S21 q21 a22 n22 S23 q23
  have h := h S21 q21 a22 n22 S23 q23
  refine cm_X7_init h h (fun S24 h _ g => ?_)
  have h := h g
  intro S27 q27 a28 n28 S29 q29
  have h := h S27 q27 a28 n28 S29 q29
  refine cm_X0_init (sz_X0_init h) h (fun S30 hp h g => ?_)
  have h := h g
  intro S33 q33
  refine ⟨h S33 q33, fun dy e => ?_⟩
  have e' : u2 (fR S30) c 6 (some a28) c 6 = some dy := by rw [q33] at e; exact e
  rw [u2_self] at e'
  cases e'
  rw [q33]
  exact hp.2
theorem st_rows {b : Nat} (hf : m ∉ hL S) (bx : BX (nW S m 11 0) T m F g) (ha : a3 ∉ hL T) (e5 : U = nW T a3 14 1) (hb : b ∈ hL S) : fI U b = fI S b ∧ fJ U b = fJ S b ∧ fR U b = fR S b ∧ b ∈ hL U ∧ hK U b = hK S b := by
  have gn : Gr S (nW S m 11 0) := gr_of_new rfl hf
  have gT : Gr S T := gr_tr gn bx.1
  have gU : Gr T U := gr_of_new e5 ha
  have g : Gr S U := gr_tr gT gU
  have xm : b ≠ m := fun z => hf (z ▸ hb)
  have xa : b ≠ a3 := fun z => ha (z ▸ (gT b hb).1)
  have q := bx.2.1 b (gn b hb).1 xm
  refine ⟨?_, ?_, ?_, (g b hb).1, (g b hb).2.1⟩
  · rw [e5]; exact (va_up_ne _ _ xa).trans (q.1.trans (va_up_ne _ _ xm))
  · rw [e5]; exact (va_up_ne _ _ xa).trans (q.2.1.trans (va_up_ne _ _ xm))
  · rw [e5]; exact (va_up_ne _ _ xa).trans (q.2.2.trans (va_up_ne _ _ xm))
theorem cd_start (hI : IV S) (oc : ob S c 9) (u : UZ S) (z : ZV S) (hw : ∀ dy, fR S c 6 = some dy → fI S dy 0 = -1) (hf : m ∉ hL S) (bx : BX (nW S m 11 0) T m F g) (ha : a3 ∉ hL T) (e5 : U = nW T a3 14 1) : ∃ dy, fR U c 6 = some dy ∧ CDd dy D00 U := by
  have row := fun {b : Nat} (hb : b ∈ hL S) => st_rows hf bx ha e5 hb
  have obU : ∀ {b q : Nat}, ob S b q → ob U b q := fun o => ⟨(row o.1).2.2.2.1, (row o.1).2.2.2.2.trans o.2⟩
  obtain ⟨dy, e6, od, -⟩ := hI.1 (9, 6, 0, 0) (by decide) c oc
  obtain ⟨nw, e4, on, -⟩ := hI.1 (0, 4, 2, 0) (by decide) dy od
  obtain ⟨pa, e5', op, np⟩ := hI.1 (0, 5, 16, 16) (by decide) dy od
  obtain ⟨ma, e6', om, nm⟩ := hI.1 (0, 6, 16, 3) (by decide) dy od
  have np : hN S pa = 16 := np.resolve_left (by decide)
  have nm : hN S ma = 3 := nm.resolve_left (by decide)
  have pm : pa ≠ ma := fun z => by rw [z] at np; omega
  have dp : dy ≠ pa := ob_ne od op (by decide)
  have dm : dy ≠ ma := ob_ne od om (by decide)
  have hjx : ∀ i, i < 20 → ∃ o x j, fR S x j = some o ∧ ob S o 2 ∧ ((i = 0 ∧ x = dy ∧ j = 4) ∨ (1 ≤ i ∧ i < 17 ∧ x = pa ∧ j + 1 = i) ∨ (17 ≤ i ∧ x = ma ∧ j + 17 = i)) := fun i hi => by
    by_cases h0 : i = 0
    · exact ⟨nw, dy, 4, e4, on, Or.inl ⟨h0, rfl, rfl⟩⟩
    · by_cases h1 : i < 17
      · obtain ⟨o, q1, q2⟩ := hI.2.1 16 (by decide) (by decide) pa op (i - 1) (by omega)
        exact ⟨o, pa, i - 1, q1, q2, Or.inr (Or.inl ⟨by omega, h1, rfl, by omega⟩)⟩
      · obtain ⟨o, q1, q2⟩ := hI.2.1 16 (by decide) (by decide) ma om (i - 17) (by omega)
        exact ⟨o, ma, i - 17, q1, q2, Or.inr (Or.inr ⟨by omega, rfl, by omega⟩)⟩
  let mo : Nat → Nat := fun i => if h : i < 20 then (hjx i h).choose else 0
  have hmo : ∀ i, i < 20 → ∃ x j, fR S x j = some (mo i) ∧ ob S (mo i) 2 ∧ ((i = 0 ∧ x = dy ∧ j = 4) ∨ (1 ≤ i ∧ i < 17 ∧ x = pa ∧ j + 1 = i) ∨ (17 ≤ i ∧ x = ma ∧ j + 17 = i)) := fun i hi => by
    have e : mo i = (hjx i hi).choose := dif_pos hi
    rw [e]
    exact (hjx i hi).choose_spec
  have hgx : ∀ i, i < 20 → ∃ b, fR S (mo i) 2 = some b ∧ ob S b 14 := fun i hi => by
    obtain ⟨x, j, -, o, -⟩ := hmo i hi
    obtain ⟨b, e, ob_, -⟩ := hI.1 (2, 2, 14, 5) (by decide) (mo i) o
    exact ⟨b, e, ob_⟩
  let go : Nat → Nat := fun i => if h : i < 20 then (hgx i h).choose else 0
  have hgo : ∀ i, i < 20 → fR S (mo i) 2 = some (go i) ∧ ob S (go i) 14 := fun i hi => by
    have e : go i = (hgx i hi).choose := dif_pos hi
    rw [e]
    exact (hgx i hi).choose_spec
  have m0 : fR S dy 4 = some (mo 0) := by
    obtain ⟨x, j, e, -, q⟩ := hmo 0 (by decide)
    rcases q with ⟨-, rfl, rfl⟩ | ⟨q, -⟩ | ⟨q, -⟩
    · exact e
    · omega
    · omega
  have m1 : ∀ i, i < 16 → fR S pa i = some (mo (1 + i)) := fun i hi => by
    obtain ⟨x, j, e, -, q⟩ := hmo (1 + i) (by omega)
    rcases q with ⟨q, -⟩ | ⟨-, -, rfl, q⟩ | ⟨q, -⟩
    · omega
    · have ij : j = i := by omega
      rw [ij] at e
      exact e
    · omega
  have m2 : ∀ i, i < 3 → fR S ma i = some (mo (17 + i)) := fun i hi => by
    obtain ⟨x, j, e, -, q⟩ := hmo (17 + i) (by omega)
    rcases q with ⟨q, -⟩ | ⟨-, q, -⟩ | ⟨-, rfl, q⟩
    · omega
    · omega
    · have ij : j = i := by omega
      rw [ij] at e
      exact e
  have mi : ∀ i j, i < 20 → j < 20 → mo i = mo j → i = j := fun i j hi hj e => by
    obtain ⟨x, q, ex, -, cx⟩ := hmo i hi
    obtain ⟨y, s, ey, -, cy⟩ := hmo j hj
    rw [e] at ex
    obtain ⟨q1, q2⟩ := u.1.2 x q y s (mo j) ex ey
    subst q1
    subst q2
    rcases cx with ⟨c1, c2, c3⟩ | ⟨c1, c2, c3, c4⟩ | ⟨c1, c2, c3⟩ <;> rcases cy with ⟨d1, d2, d3⟩ | ⟨d1, d2, d3, d4⟩ | ⟨d1, d2, d3⟩
    · omega
    · exact absurd (c2.symm.trans d3) dp
    · exact absurd (c2.symm.trans d2) dm
    · exact absurd (d2.symm.trans c3) dp
    · omega
    · exact absurd (c3.symm.trans d2) pm
    · exact absurd (d2.symm.trans c2) dm
    · exact absurd (d3.symm.trans c2) pm
    · omega
  have om2 : ∀ i, i < 20 → ob S (mo i) 2 := fun i hi => by
    obtain ⟨-, -, -, o, -⟩ := hmo i hi
    exact o
  have gi : ∀ i j, i < 20 → j < 20 → go i = go j → i = j := fun i j hi hj e => mi i j hi hj (u.1.2 (mo i) 2 (mo j) 2 (go j) (by rw [← e]; exact (hgo i hi).1) (hgo j hj).1).1
  have kind : ∀ x k, ob U x k → k < 12 → x ∈ hL S ∨ x = m := fun x k ox hk => by
    obtain ⟨o1, o2⟩ := ox
    rw [e5] at o1 o2
    have o1 : x ∈ hL T ++ [a3] := o1
    by_cases xa : x = a3
    · exfalso
      have o2 : va_up (hK T) a3 14 x = k := o2
      rw [xa, va_up_self] at o2
      omega
    · have o2 : va_up (hK T) a3 14 x = k := o2
      rw [va_up_ne _ _ xa] at o2
      rcases List.mem_append.mp o1 with z | z
      · rcases bx.2.2.1 x z with q | q
        · have q : x ∈ hL S ++ [m] := q
          rcases List.mem_append.mp q with q | q
          · exact Or.inl q
          · exact Or.inr (List.mem_singleton.mp q)
        · omega
      · exact absurd (List.mem_singleton.mp z) xa
  have nw9 : ∀ i, i < 20 → NW9 LB U (go i) := fun i hi q hq x ox zz => by
    have hk : q.1 < 12 ∧ q.1 ≠ 2 := by
      simp only [List.mem_cons, List.not_mem_nil, or_false] at hq
      rcases hq with rfl | rfl | rfl | rfl | rfl | rfl | rfl | rfl | rfl | rfl <;> decide
    rcases kind x q.1 ox hk.1 with hx | hx
    · rw [(row hx).2.2.1] at zz
      have q1 := (u.1.2 x q.2 (mo i) 2 (go i) zz (hgo i hi).1).1
      have ox' : hK S x = q.1 := (row hx).2.2.2.2.symm.trans ox.2
      rw [q1, (om2 i hi).2] at ox'
      exact hk.2 ox'.symm
    · have ma3 : m ≠ a3 := fun w => ha (w ▸ (bx.1 m (by show m ∈ hL S ++ [m]; simp)).1)
      have rm : fR U m = fR T m := by rw [e5]; exact va_up_ne _ _ ma3
      rw [hx, rm] at zz
      rcases bx.2.2.2.2.1 q.2 (go i) zz with y | y
      · exact y.1 ((gr_of_new (T := nW S m 11 0) rfl hf) (go i) (hgo i hi).2.1).1
      · have y : va_up (fR S) m (fun _ => none) m q.2 = some (go i) := y
        rw [va_up_self] at y
        cases y
  refine ⟨dy, by rw [(row oc.1).2.2.1]; exact e6, obU od, pa, ma, mo, go, ⟨by rw [(row od.1).2.2.1]; exact m0, by rw [(row od.1).2.2.1]; exact e5', by rw [(row od.1).2.2.1]; exact e6', obU op, pm, fun i hi => by rw [(row op.1).2.2.1]; exact m1 i hi, fun i hi => by rw [(row om.1).2.2.1]; exact m2 i hi, fun i hi => ⟨obU (om2 i hi), by rw [(row (om2 i hi).1).2.2.1]; exact (hgo i hi).1, obU (hgo i hi).2, nw9 i hi⟩, mi, gi⟩, ?_, ?_, ?_, ?_, by show 0 ≤ 16; omega, by show 0 ≤ 3; omega, ⟨?_, ?_, fun f hf => ?_⟩, fun i hi => absurd hi (Nat.not_lt_zero i), fun i hi => absurd hi (Nat.not_lt_zero i)⟩
  · rw [(row od.1).1]; exact hw dy e6
  · rw [(row od.1).1]; exact z.2.2 dy od 1 (by decide)
  · rw [(row od.1).1]; exact z.2.2 dy od 2 (by decide)
  · rw [(row od.1).1]; exact z.2.2 dy od 3 (by decide)
  · rw [(row (om2 0 (by decide)).1).1]; exact z.2.1 _ (om2 0 (by decide)) 0
  · rw [(row (om2 0 (by decide)).1).1]; exact z.2.1 _ (om2 0 (by decide)) 1
  · rw [(row (hgo 0 (by decide)).2.1).2.1]; exact z.1 _ f
theorem md_start (hf : m ∉ hL S) (bx : BX (nW S m 11 0) T m F g) (f1 : (21, 14, 7) ∈ F) (f2 : (22, 14, 112) ∈ F) (f3 : (23, 14, 21) ∈ F) (g1 : g 19 = -2) (g2 : g 20 = 0) (g3 : g 24 = 0) (g4 : g 25 = 0) (ha : a3 ∉ hL T) (e5 : U = nW T a3 14 1) : MDd m D00 U := by
  have mi : m ∈ hL (nW S m 11 0) := by
    show m ∈ hL S ++ [m]
    simp
  have mT := bx.1 m mi
  have gU : Gr T U := gr_of_new e5 ha
  have omT : ob T m 11 := ⟨mT.1, mT.2.1.trans (va_up_self _ _ _)⟩
  have row : ∀ b, b ∈ hL T → fI U b = fI T b ∧ fJ U b = fJ T b ∧ fR U b = fR T b := fun b hb => by
    have xa : b ≠ a3 := fun z => ha (z ▸ hb)
    rw [e5]
    exact ⟨va_up_ne _ _ xa, va_up_ne _ _ xa, va_up_ne _ _ xa⟩
  obtain ⟨d, d1, d2, d3, -, d5⟩ := bx.2.2.2.1 _ f1
  obtain ⟨p, p1, p2, p3, -, p5⟩ := bx.2.2.2.1 _ f2
  obtain ⟨k, k1, k2, k3, -, k5⟩ := bx.2.2.2.1 _ f3
  have inj := bx.2.2.2.2.2.1
  have gm : fI T m = g := bx.2.2.2.2.2.2.1
  have rm := row m omT.1
  refine ⟨gr_ob gU omT, d, p, k, ⟨by rw [rm.2.2]; exact d1, by rw [rm.2.2]; exact p1, by rw [rm.2.2]; exact k1, gr_ob gU d3, gr_ob gU p3, gr_ob gU k3, fun z => ?_, fun z => ?_, fun z => ?_⟩, ?_, ?_, ?_, ?_, by show 0 ≤ 16; omega, by show 0 ≤ 3; omega, ⟨?_, ?_, fun f hf => ?_⟩, fun i hi => absurd hi (Nat.not_lt_zero i), fun i hi => absurd hi (Nat.not_lt_zero i)⟩
  · exact absurd (inj 22 21 d d2 (z ▸ p1) d1) (by decide)
  · exact absurd (inj 23 21 d d2 (z ▸ k1) d1) (by decide)
  · exact absurd (inj 23 22 p p2 (z ▸ k1) p1) (by decide)
  · rw [rm.1, gm, g1]; rfl
  · rw [rm.1, gm, g2]; rfl
  · rw [rm.1, gm, g3]; rfl
  · rw [rm.1, gm, g4]; rfl
  · rw [(row d d3.1).2.1, d5]; rfl
  · rw [(row d d3.1).2.1, d5]; rfl
  · rw [(row d d3.1).2.1, d5]; rfl
theorem zv_1 {a : Nat} (E : S = nW S00 a 9 0) : ZV S := by
  have z : ZV S00 := ⟨fun _ _ => rfl, fun _ _ _ => rfl, fun _ _ _ _ => rfl⟩
  exact kzz_W z (by show a ∉ ([] : List Nat); simp) E
theorem db_00 : DBd A00 D00 := Or.inl ⟨rfl, rfl, rfl⟩
end C58
/-! both sides, with the day -/
def LDx (v2 : Nat) (S T : HS) : Prop := hL T = hL S ∧ hK T = hK S ∧ hN T = hN S ∧ fI T = fI S ∧ fR T = fR S ∧ ∀ b, b ≠ v2 → fJ T b = fJ S b
section C59
variable {c m dy v2 r w1 w2 : Nat} {A : AS} {G : GC} {D : DY} {S T U : HS} {x y : Int32} {P : Prop} {wi wr : List (Nat × Nat)} {R : Option (AS × GC)}
theorem cd_k3 (cd : CDd dy D S) : dK D ≤ 3 := by
  obtain ⟨_, _, _, _, _, _, cv⟩ := cd
  exact cv.2.2.2.2.2.1
theorem cd_led (hI : IV S) (l2 : hN S v2 = 1) (cd : CDd dy D S) (L : LDx v2 S T) : CDd dy D T := by
  obtain ⟨od, pa, ma, mo, go, cs, cv⟩ := cd
  obtain ⟨h1, h2, h3, h4, h5, h6⟩ := L
  have u := cv.2.2.2.2.1
  have k := cv.2.2.2.2.2.1
  have ng : ∀ i, i < 20 → fJ T (go i) = fJ S (go i) := fun i hi => h6 _ (fun z => by
    obtain ⟨b, e, -, n⟩ := hI.1 (2, 2, 14, 5) (by decide) (mo i) (mo_at cs hi).1
    cases e.symm.trans (mo_at cs hi).2.1
    have n := n.resolve_left (by decide)
    rw [z, l2] at n
    exact absurd n (by decide))
  have vm : ∀ i, i < 20 → ∀ w, VM S (mo i) (go i) w → VM T (mo i) (go i) w := fun i hi w h => vm_mv h (by rw [h4]) (by rw [h4]) (ng i hi)
  exact ⟨by unfold ob; rw [h1, h2]; exact od, pa, ma, mo, go, cs_mv cs h1 h2 h5, by rw [h4]; exact cv.1, by rw [h4]; exact cv.2.1, by rw [h4]; exact cv.2.2.1, by rw [h4]; exact cv.2.2.2.1, u, k, vm 0 (by decide) _ cv.2.2.2.2.2.2.1, fun i hi => vm _ (by omega) _ (cv.2.2.2.2.2.2.2.1 i hi), fun i hi => vm _ (by omega) _ (cv.2.2.2.2.2.2.2.2 i hi)⟩
theorem md_led (hI : IV S) (l2 : hN S v2 = 1) (md : MDd m D S) (L : LDx v2 S T) : MDd m D T := by
  obtain ⟨om, d, p, k, ms, q1, q2, q3, q4, q5, q6, q7, q8, q9⟩ := md
  obtain ⟨h1, h2, h3, h4, h5, h6⟩ := L
  have ne : ∀ j N b, (11, j, 14, N) ∈ shT → N ≠ 0 → N ≠ 1 → fR S m j = some b → fJ T b = fJ S b := fun j N b hs n0 n1 e => h6 _ (fun z => by
    obtain ⟨b', e', -, n⟩ := hI.1 _ hs m om
    cases e'.symm.trans e
    have n : hN S b = N := n.resolve_left n0
    rw [z, l2] at n
    exact n1 n.symm)
  have k1 := ne 21 7 d (by decide) (by decide) (by decide) ms.1
  have k2 := ne 22 112 p (by decide) (by decide) (by decide) ms.2.1
  have k3 := ne 23 21 k (by decide) (by decide) (by decide) ms.2.2.1
  exact ⟨by unfold ob; rw [h1, h2]; exact om, d, p, k, ms_mv ms ⟨h1, h2, h3, h5, fun _ _ => by rw [h4]⟩, by rw [h4]; exact q1, by rw [h4]; exact q2, by rw [h4]; exact q3, by rw [h4]; exact q4, q5, q6, mvd_mv q7 k1, fun i hi => mvd_mv (q8 i hi) k2, fun i hi => mvd_mv (q9 i hi) k3⟩
end C59
end
section
/-! the roads that lead from where he is -/
noncomputable def ldP (n : Nat) (g : Nat → Nat → Int32) (pl i : Int32) : Nat → Nat → Int32 → Option Int32
  | 0, _, _ => none
  | d + 1, r, c => if n ≤ r then none else dc (g r 0 = pl ∨ g r 1 = pl) (if c = i then some (nI r) else ldP n g pl i d (r + 1) (c + 1)) (ldP n g pl i d (r + 1) c)
def LDf (v0 n : Nat) (g : Nat → Nat → Int32) (pl : Int32) (on : Prop) (S : HS) : Prop := ∃ a1 a2 a3 a4, fR S v0 2 = some a1 ∧ fR S v0 6 = some a2 ∧ fR S a1 8 = some a3 ∧ fR S a2 4 = some a4 ∧ fI S a1 3 = nI n ∧ n ≤ 12 ∧ (∀ r o, r < n → fR S a3 r = some o → fI S o 0 = g r 0 ∧ fI S o 1 = g r 1) ∧ fI S a4 0 = pl ∧ (fI S a2 0 = -1 ↔ ¬ on)
def LDr (res : Option Int32) (r : Int32) (v2 : Nat) (T : HS) : Prop := (r = 1 ∧ res = none) ∨ (r = 0 ∧ ∃ z, res = some z ∧ fJ T v2 0 = z.toInt64)
section C60
variable {c m dy a r w1 w2 : Nat} {A : AS} {G : GC} {D : DY} {S T U : HS} {v i : Int32} {Q : Int32 → HS → Prop}
theorem ldf_of (hI : IV S) (J : CJ c r w1 w2 S) (hc : Cnt w1 A S) (ct : CtB w1 A G S S) (ab : ABd A) (e6 : fR S c 6 = some dy) (cd : CDd dy D S) : LDf c (aR A) (gRd G) (dN D).1 (onD D) S := by
  have h8 := wt_of hI J hc ct ab
  have hw := cd_wh cd
  obtain ⟨a3, e3, -, -⟩ := hI.1 (8, 8, 18, 12) (by decide) w1 J.2.2.2.2.2.1
  obtain ⟨a4, e4, -, -⟩ := hI.1 (0, 4, 2, 0) (by decide) dy cd.1
  obtain ⟨-, gg, -, -, -, vp, -⟩ := nw_got cd e4
  refine ⟨w1, dy, a3, a4, J.1, e6, e3, e4, hc.2.2.2.1, ab.2.2.2.1, fun r o hr e => ?_, vp, ?_⟩
  · have q := ((h8.2.2.2.1 a3 e3).2.2 r o hr e).2
    exact ⟨q 0 (by decide), q 1 (by decide)⟩
  · rw [hw]
    exact ⟨fun z y => y z, fun z => Classical.byContradiction z⟩
theorem si_X0_isOn (h : P_X0_isOn a Q S) : P_X0_isOn a (fun x T => Q x T ∧ (x = 0 ↔ fI S a 0 = -1)) S := by
  delta P_X0_isOn P_X0_isOn_0
  obtain ⟨o1, h⟩ := h
  refine ⟨o1, fun x1 q1 => ?_⟩
  have h := h x1 q1
  subst q1
  exact ⟨fun cc => ⟨h.1 cc, fun _ => cc, fun _ => rfl⟩, fun cc => ⟨h.2 cc, fun z => absurd z (by decide), fun z => absurd z cc⟩⟩
theorem si_X5_touches (h : P_X5_touches a v Q S) : P_X5_touches a v (fun x T => Q x T ∧ (x = 0 ↔ ¬ (fI S a 0 = v ∨ fI S a 1 = v))) S := by
  delta P_X5_touches P_X5_touches_0
  obtain ⟨o1, h⟩ := h
  refine ⟨o1, fun x1 q1 => ?_⟩
  have h := h x1 q1
  subst q1
  refine ⟨fun cc => ⟨h.1 cc, fun z => absurd z (by decide), fun z => absurd (Or.inl cc) z⟩, fun cc x3 q3 => ?_⟩
  have h := h.2 cc x3 q3
  subst q3
  exact ⟨fun c2 => ⟨h.1 c2, fun _ z => z.elim cc c2, fun _ => rfl⟩, fun c2 => ⟨h.2 c2, fun z => absurd z (by decide), fun z => absurd (Or.inr c2) z⟩⟩
end C60
end
section
/-! which rows of ints a run leaves as they were: those that no joint in L holds -/
abbrev njT : List (Nat × Nat) := [(4, 12), (7, 0), (7, 2), (7, 4), (7, 5), (7, 6), (7, 8), (8, 7), (8, 10), (8, 11), (10, 7), (10, 8), (10, 9), (10, 10), (10, 11), (10, 12), (10, 13), (10, 14), (10, 15), (10, 16), (10, 17), (10, 18), (10, 19), (10, 20), (10, 21), (10, 22), (10, 23), (10, 24), (10, 25), (10, 26), (10, 27), (10, 29), (10, 30), (11, 17), (11, 18)]
def PRJ (L : List (Nat × Nat)) (S : HS) (a : Nat) : Prop := (ob S a 13 ∨ ob S a 15) ∧ NW9 L S a
def KJ (L : List (Nat × Nat)) (S T : HS) : Prop := Gr S T ∧ ∀ a, PRJ L S a → fI T a = fI S a ∧ NW9 L T a
def KNJ (L : List (Nat × Nat)) (S : HS) (x : Nat) : Prop := ∀ a, PRJ L S a → a ≠ x
section KJs
variable {L : List (Nat × Nat)} {S T U : HS} {a k j x y : Nat}
theorem nj_k (hU : ∀ q ∈ L, q ∈ njT) {q : Nat × Nat} (h : q ∈ L) : q.1 < 12 := by
  have d : ∀ q ∈ njT, q.1 < 12 := by decide
  exact d q (hU q h)
theorem prj_gr (g : Gr S T) (h : PRJ L S a) : ob T a 13 ∨ ob T a 15 := h.1.elim (fun o => Or.inl (gr_ob g o)) (fun o => Or.inr (gr_ob g o))
theorem prj_l (g : Gr S T) (h : PRJ L S a) : a ∈ hL T := (prj_gr g h).elim (fun o => o.1) (fun o => o.1)
theorem kj9_rf (L : List (Nat × Nat)) (S : HS) : KJ L S S := ⟨gr_rf S, fun _ h => ⟨rfl, h.2⟩⟩
theorem kj9_tr (h : KJ L S T) (g : KJ L T U) : KJ L S U := ⟨gr_tr h.1 g.1, fun a p => by
  have q := h.2 a p
  have r := g.2 a ⟨prj_gr h.1 p, q.2⟩
  exact ⟨r.1.trans q.1, r.2⟩⟩
theorem kj9_J {v : Int64} (h : KJ L S T) (e : U = sJ T x j v) : KJ L S U := by
  rw [e]
  exact h
theorem kj9_I {v : Int32} (h : KJ L S T) (e : U = sI T x j v) (hx : KNJ L S x) : KJ L S U := by
  rw [e]
  exact ⟨h.1, fun a p => ⟨(u2_row _ _ (hx a p)).trans (h.2 a p).1, (h.2 a p).2⟩⟩
theorem kj9_rr {v : Option Nat} (e : U = sR T x j v) : (∀ y i, ¬ (y = x ∧ i = j) → fR U y i = fR T y i) ∧ fI U = fI T := by
  rw [e]
  exact ⟨fun y i hy => u2_ne _ _ hy, rfl⟩
theorem kj9_R {v : Option Nat} (h : KJ L S T) (hU : ∀ q ∈ L, q ∈ njT) (e : U = sR T x j v) (o : ob T x k) (hn : (k, j) ∉ njT) : KJ L S U := by
  refine ⟨by rw [e]; exact h.1, fun a p => ⟨by rw [(kj9_rr e).2]; exact (h.2 a p).1, fun q hq y oy z => ?_⟩⟩
  have oy : ob T y q.1 := by rw [e] at oy; exact oy
  by_cases c : y = x ∧ q.2 = j
  · have : q.1 = k := ob_inj oy (c.1 ▸ o)
    exact hn (by rw [← this, ← c.2]; exact hU q hq)
  · rw [(kj9_rr e).1 y q.2 c] at z
    exact (h.2 a p).2 q hq y oy z
theorem kj9_RA {v : Option Nat} (h : KJ L S T) (hU : ∀ q ∈ L, q ∈ njT) (e : U = sR T x j v) (o : ob T x k) (hk : 12 ≤ k) : KJ L S U := by
  refine ⟨by rw [e]; exact h.1, fun a p => ⟨by rw [(kj9_rr e).2]; exact (h.2 a p).1, fun q hq y oy z => ?_⟩⟩
  have oy : ob T y q.1 := by rw [e] at oy; exact oy
  by_cases c : y = x ∧ q.2 = j
  · have e1 : q.1 = k := ob_inj oy (c.1 ▸ o)
    have := nj_k hU hq
    omega
  · rw [(kj9_rr e).1 y q.2 c] at z
    exact (h.2 a p).2 q hq y oy z
theorem kj9_S (h : KJ L S T) (e : U = sR T x j (some y)) (o : ob T x k) (hy : KNJ L S y) : KJ L S U := by
  refine ⟨by rw [e]; exact h.1, fun a p => ⟨by rw [(kj9_rr e).2]; exact (h.2 a p).1, fun q hq w ow z => ?_⟩⟩
  have ow : ob T w q.1 := by rw [e] at ow; exact ow
  by_cases c : w = x ∧ q.2 = j
  · rw [c.1, c.2, e] at z
    have z : u2 (fR T) x j (some y) x j = some a := z
    rw [u2_self] at z
    cases z
    exact hy y p rfl
  · rw [(kj9_rr e).1 w q.2 c] at z
    exact (h.2 a p).2 q hq w ow z
theorem kj9_W {n : Nat} (h : KJ L S T) (ha : x ∉ hL T) (e : U = nW T x k n) : KJ L S U := by
  have r : ∀ y, y ≠ x → fR U y = fR T y ∧ fI U y = fI T y := fun y hy => by rw [e]; exact ⟨va_up_ne _ _ hy, va_up_ne _ _ hy⟩
  refine ⟨gr_tr h.1 (gr_of_new e ha), fun a p => ?_⟩
  have hne : a ≠ x := fun z => ha (z ▸ prj_l h.1 p)
  refine ⟨(r a hne).2.trans (h.2 a p).1, fun q hq y oy z => ?_⟩
  by_cases c : y = x
  · rw [c, e] at z
    have z : va_up (fR T) x (fun _ => none) x q.2 = some a := z
    rw [va_up_self] at z
    cases z
  · rw [(r y c).1] at z
    have oy : ob T y q.1 := by
      rw [e] at oy
      obtain ⟨o1, o2⟩ := oy
      refine ⟨?_, ?_⟩
      · have o1 : y ∈ hL T ++ [x] := o1
        rcases List.mem_append.mp o1 with q | q
        · exact q
        · exact absurd (List.mem_singleton.mp q) c
      · have o2 : va_up (hK T) x k y = q.1 := o2
        rw [va_up_ne _ _ c] at o2
        exact o2
    exact (h.2 a p).2 q hq y oy z
theorem kj9_nf (h : KJ L S T) (ha : x ∉ hL T) : KNJ L S x := fun a p z => ha (z ▸ prj_l h.1 p)
theorem kj9_nk (h : KJ L S T) (o : ob T x k) (hk : k ≠ 13 ∧ k ≠ 15) : KNJ L S x := fun a p z => (prj_gr h.1 p).elim (fun q => hk.1 (ob_inj o (z ▸ q))) (fun q => hk.2 (ob_inj o (z ▸ q)))
theorem kj9_nr (h : KJ L S T) (e : fR T x j = some y) (o : ob T x k) (hk : (k, j) ∈ L) : KNJ L S y := fun a p z => (h.2 a p).2 (k, j) hk x o (z ▸ e)
end KJs

abbrev kjL_X0_end : List (Nat × Nat) := []
set_option maxRecDepth 20000 in
set_option maxHeartbeats 1000000 in
theorem kj_X0_end_0 {L : List (Nat × Nat)} (hU : ∀ q ∈ L, q ∈ njT) (hL : ∀ q ∈ kjL_X0_end, q ∈ L) {Q : HS → Prop} {v0 : Nat} {S0 S : HS} (h : P_X0_end_0 Q v0 S) (K : KJ L S0 S) : P_X0_end_0 (fun T => Q T ∧ KJ L S0 T) v0 S := by
  delta P_X0_end_0 at h ⊢
  obtain ⟨c1, h⟩ := h
  refine ⟨c1, ?_⟩
  have n2 := kj9_nk K c1 (by decide)
  intro x4 e3
  have h := h x4 e3
  have K := kj9_I K e3 n2
  intro x6 e5
  have h := h x6 e5
  have K := kj9_I K e5 n2
  intro x8 e7
  have h := h x8 e7
  have K := kj9_I K e7 n2
  exact ⟨h, K⟩
theorem kj_X0_end {L : List (Nat × Nat)} (hU : ∀ q ∈ L, q ∈ njT) (hL : ∀ q ∈ kjL_X0_end, q ∈ L) {Q : HS → Prop} {v0 : Nat} {S : HS} (h : P_X0_end v0 Q S) : P_X0_end v0 (fun T => Q T ∧ KJ L S T) S := kj_X0_end_0 hU hL h (kj9_rf L S)
abbrev kjL_X0_begin : List (Nat × Nat) := []
set_option maxRecDepth 20000 in
set_option maxHeartbeats 1000000 in
theorem kjB_X0_begin_28 {L : List (Nat × Nat)} (hU : ∀ q ∈ L, q ∈ njT) (hL : ∀ q ∈ kjL_X0_begin, q ∈ L) {Q : HS → Prop} {X28 X28_2 : Nat → Int32 → HS → Prop} {v0 : Nat} {v4 : Int32} {S0 S : HS} (h : B_X0_begin_28 Q X28 v0 v4 S) (K : KJ L S0 S) (hX28 : ∀ (u0 : Nat) (u1 : Int32) (u2 : HS), X28 u0 u1 u2 → KJ L S0 u2 → X28_2 u0 u1 u2) : B_X0_begin_28 (fun T => Q T ∧ KJ L S0 T) X28_2 v0 v4 S := by
  delta B_X0_begin_28 at h ⊢
  refine ⟨?_, ?_⟩
  · intro c1
    have h := h.1 c1
    exact ⟨h, K⟩
  · intro c2
    have h := h.2 c2
    obtain ⟨c3, h⟩ := h
    refine ⟨c3, ?_⟩
    obtain ⟨b4, e5, h⟩ := h
    refine ⟨b4, e5, ?_⟩
    obtain ⟨c6, h⟩ := h
    refine ⟨c6, ?_⟩
    obtain ⟨b7, e8, h⟩ := h
    refine ⟨b7, e8, ?_⟩
    obtain ⟨c9, h⟩ := h
    refine ⟨c9, ?_⟩
    obtain ⟨c10, h⟩ := h
    refine ⟨c10, ?_⟩
    intro x12 e11
    have h := h x12 e11
    have K := kj9_J K e11
    intro x14 e13
    have h := h x14 e13
    exact hX28 _ _ _ h K
theorem kj_X0_begin_28 {L : List (Nat × Nat)} (hU : ∀ q ∈ L, q ∈ njT) (hL : ∀ q ∈ kjL_X0_begin, q ∈ L) {Q : HS → Prop} {v0 : Nat} {v4 : Int32} {S0 S : HS} (h : P_X0_begin_28 Q v0 v4 S) (K : KJ L S0 S) : P_X0_begin_28 (fun T => Q T ∧ KJ L S0 T) v0 v4 S := h (fun v0 v4 S => KJ L S0 S → P_X0_begin_28 (fun T => Q T ∧ KJ L S0 T) v0 v4 S) (fun v0 v4 S hB K => fd_X0_begin_28 (kjB_X0_begin_28 hU hL hB K (fun _ _ _ hx K => hx K))) K
set_option maxRecDepth 20000 in
set_option maxHeartbeats 1000000 in
theorem kj_X0_begin_0 {L : List (Nat × Nat)} (hU : ∀ q ∈ L, q ∈ njT) (hL : ∀ q ∈ kjL_X0_begin, q ∈ L) {Q : HS → Prop} {v0 : Nat} {v1 : Int32} {v2 : Int32} {v3 : Int32} {S0 S : HS} (h : P_X0_begin_0 Q v0 v1 v2 v3 S) (K : KJ L S0 S) : P_X0_begin_0 (fun T => Q T ∧ KJ L S0 T) v0 v1 v2 v3 S := by
  delta P_X0_begin_0 at h ⊢
  obtain ⟨c1, h⟩ := h
  refine ⟨c1, ?_⟩
  have n2 := kj9_nk K c1 (by decide)
  refine cm_X0_end (kj_X0_end hU (fun q hq => hL q ((by decide : ∀ q ∈ kjL_X0_end, q ∈ kjL_X0_begin) q hq)) h) h (fun x3 p5 h g4 => ?_)
  have h := h g4
  have K := kj9_tr K p5.2
  intro x7 e6
  have h := h x7 e6
  have K := kj9_I K e6 n2
  obtain ⟨b8, e9, h⟩ := h
  refine ⟨b8, e9, ?_⟩
  obtain ⟨c10, h⟩ := h
  refine ⟨c10, ?_⟩
  have n11 := kj9_nk K c10 (by decide)
  intro x13 e12
  have h := h x13 e12
  have K := kj9_I K e12 n11
  obtain ⟨b14, e15, h⟩ := h
  refine ⟨b14, e15, ?_⟩
  obtain ⟨c16, h⟩ := h
  refine ⟨c16, ?_⟩
  have n17 := kj9_nk K c16 (by decide)
  intro x19 e18
  have h := h x19 e18
  have K := kj9_I K e18 n17
  exact kj_X0_begin_28 hU hL h K
theorem kj_X0_begin {L : List (Nat × Nat)} (hU : ∀ q ∈ L, q ∈ njT) (hL : ∀ q ∈ kjL_X0_begin, q ∈ L) {Q : HS → Prop} {v0 : Nat} {v1 : Int32} {v2 : Int32} {v3 : Int32} {S : HS} (h : P_X0_begin v0 v1 v2 v3 Q S) : P_X0_begin v0 v1 v2 v3 (fun T => Q T ∧ KJ L S T) S := kj_X0_begin_0 hU hL h (kj9_rf L S)
abbrev kjL_X0_draw : List (Nat × Nat) := []
set_option maxRecDepth 20000 in
set_option maxHeartbeats 1000000 in
theorem kj_X0_draw_60 {L : List (Nat × Nat)} (hU : ∀ q ∈ L, q ∈ njT) (hL : ∀ q ∈ kjL_X0_draw, q ∈ L) {Q : HS → Prop} {X10 X10_2 : Nat → Nat → Int32 → Int32 → HS → Prop} {v0 : Nat} {v1 : Nat} {v3 : Int32} {v4 : Int32} {S0 S : HS} (h : P_X0_draw_60 Q X10 v0 v1 v3 v4 S) (K : KJ L S0 S) (hX10 : ∀ (u0 : Nat) (u1 : Nat) (u2 : Int32) (u3 : Int32) (u4 : HS), X10 u0 u1 u2 u3 u4 → KJ L S0 u4 → X10_2 u0 u1 u2 u3 u4) : P_X0_draw_60 (fun T => Q T ∧ KJ L S0 T) X10_2 v0 v1 v3 v4 S := by
  delta P_X0_draw_60 at h ⊢
  intro x2 e1
  have h := h x2 e1
  exact hX10 _ _ _ _ _ h K
set_option maxRecDepth 20000 in
set_option maxHeartbeats 1000000 in
theorem kjB_X0_draw_10 {L : List (Nat × Nat)} (hU : ∀ q ∈ L, q ∈ njT) (hL : ∀ q ∈ kjL_X0_draw, q ∈ L) {Q : HS → Prop} {X10 X10_2 : Nat → Nat → Int32 → Int32 → HS → Prop} {v0 : Nat} {v1 : Nat} {v3 : Int32} {v4 : Int32} {S0 S : HS} (h : B_X0_draw_10 Q X10 v0 v1 v3 v4 S) (K : KJ L S0 S) (hX10 : ∀ (u0 : Nat) (u1 : Nat) (u2 : Int32) (u3 : Int32) (u4 : HS), X10 u0 u1 u2 u3 u4 → KJ L S0 u4 → X10_2 u0 u1 u2 u3 u4) : B_X0_draw_10 (fun T => Q T ∧ KJ L S0 T) X10_2 v0 v1 v3 v4 S := by
  delta B_X0_draw_10 at h ⊢
  obtain ⟨c1, h⟩ := h
  refine ⟨c1, ?_⟩
  have o2 := c1
  intro x4 e3
  have h := h x4 e3
  refine ⟨?_, ?_⟩
  · intro c5
    have h := h.1 c5
    exact ⟨h, K⟩
  · intro c6
    have h := h.2 c6
    intro x8 e7
    have h := h x8 e7
    intro x10 e9
    have h := h x10 e9
    obtain ⟨b11, e12, h⟩ := h
    refine ⟨b11, e12, ?_⟩
    obtain ⟨c13, h⟩ := h
    refine ⟨c13, ?_⟩
    obtain ⟨c14, h⟩ := h
    refine ⟨c14, ?_⟩
    obtain ⟨b15, e16, h⟩ := h
    refine ⟨b15, e16, ?_⟩
    obtain ⟨c17, h⟩ := h
    refine ⟨c17, ?_⟩
    intro x19 e18
    have h := h x19 e18
    refine ⟨?_, ?_⟩
    · intro c20
      have h := h.1 c20
      exact kj_X0_draw_60 hU hL h K hX10
    · intro c21
      have h := h.2 c21
      obtain ⟨c22, h⟩ := h
      refine ⟨c22, ?_⟩
      have n23 := kj9_nk K c22 (by decide)
      intro x25 e24
      have h := h x25 e24
      intro x27 e26
      have h := h x27 e26
      intro x29 e28
      have h := h x29 e28
      have K := kj9_I K e28 n23
      have o2 := ob_wI o2 e28
      exact kj_X0_draw_60 hU hL h K hX10
theorem kj_X0_draw_10 {L : List (Nat × Nat)} (hU : ∀ q ∈ L, q ∈ njT) (hL : ∀ q ∈ kjL_X0_draw, q ∈ L) {Q : HS → Prop} {v0 : Nat} {v1 : Nat} {v3 : Int32} {v4 : Int32} {S0 S : HS} (h : P_X0_draw_10 Q v0 v1 v3 v4 S) (K : KJ L S0 S) : P_X0_draw_10 (fun T => Q T ∧ KJ L S0 T) v0 v1 v3 v4 S := h (fun v0 v1 v3 v4 S => KJ L S0 S → P_X0_draw_10 (fun T => Q T ∧ KJ L S0 T) v0 v1 v3 v4 S) (fun v0 v1 v3 v4 S hB K => fd_X0_draw_10 (kjB_X0_draw_10 hU hL hB K (fun _ _ _ _ _ hx K => hx K))) K
set_option maxRecDepth 20000 in
set_option maxHeartbeats 1000000 in
theorem kj_X0_draw_0 {L : List (Nat × Nat)} (hU : ∀ q ∈ L, q ∈ njT) (hL : ∀ q ∈ kjL_X0_draw, q ∈ L) {Q : HS → Prop} {v0 : Nat} {v1 : Nat} {v2 : Int32} {S0 S : HS} (h : P_X0_draw_0 Q v0 v1 v2 S) (K : KJ L S0 S) : P_X0_draw_0 (fun T => Q T ∧ KJ L S0 T) v0 v1 v2 S := by
  delta P_X0_draw_0 at h ⊢
  obtain ⟨c1, h⟩ := h
  refine ⟨c1, ?_⟩
  have n2 := kj9_nk K c1 (by decide)
  intro x4 e3
  have h := h x4 e3
  have K := kj9_I K e3 n2
  exact kj_X0_draw_10 hU hL h K
theorem kj_X0_draw {L : List (Nat × Nat)} (hU : ∀ q ∈ L, q ∈ njT) (hL : ∀ q ∈ kjL_X0_draw, q ∈ L) {Q : HS → Prop} {v0 : Nat} {v1 : Nat} {v2 : Int32} {S : HS} (h : P_X0_draw v0 v1 v2 Q S) : P_X0_draw v0 v1 v2 (fun T => Q T ∧ KJ L S T) S := kj_X0_draw_0 hU hL h (kj9_rf L S)
abbrev kjL_X0_isOn : List (Nat × Nat) := []
set_option maxRecDepth 20000 in
set_option maxHeartbeats 1000000 in
theorem kj_X0_isOn_0 {L : List (Nat × Nat)} (hU : ∀ q ∈ L, q ∈ njT) (hL : ∀ q ∈ kjL_X0_isOn, q ∈ L) {Q : Int32 → HS → Prop} {v0 : Nat} {S0 S : HS} (h : P_X0_isOn_0 Q v0 S) (K : KJ L S0 S) : P_X0_isOn_0 (fun r T => Q r T ∧ KJ L S0 T) v0 S := by
  delta P_X0_isOn_0 at h ⊢
  obtain ⟨c1, h⟩ := h
  refine ⟨c1, ?_⟩
  intro x3 e2
  have h := h x3 e2
  refine ⟨?_, ?_⟩
  · intro c4
    have h := h.1 c4
    exact ⟨h, K⟩
  · intro c5
    have h := h.2 c5
    exact ⟨h, K⟩
theorem kj_X0_isOn {L : List (Nat × Nat)} (hU : ∀ q ∈ L, q ∈ njT) (hL : ∀ q ∈ kjL_X0_isOn, q ∈ L) {Q : Int32 → HS → Prop} {v0 : Nat} {S : HS} (h : P_X0_isOn v0 Q S) : P_X0_isOn v0 (fun r T => Q r T ∧ KJ L S T) S := kj_X0_isOn_0 hU hL h (kj9_rf L S)
abbrev kjL_X2_copy : List (Nat × Nat) := []
set_option maxRecDepth 20000 in
set_option maxHeartbeats 1000000 in
theorem kjB_X2_copy_18 {L : List (Nat × Nat)} (hU : ∀ q ∈ L, q ∈ njT) (hL : ∀ q ∈ kjL_X2_copy, q ∈ L) {Q : HS → Prop} {X18 X18_2 : Nat → Nat → Int32 → HS → Prop} {v0 : Nat} {v1 : Nat} {v2 : Int32} {S0 S : HS} (h : B_X2_copy_18 Q X18 v0 v1 v2 S) (K : KJ L S0 S) (hX18 : ∀ (u0 : Nat) (u1 : Nat) (u2 : Int32) (u3 : HS), X18 u0 u1 u2 u3 → KJ L S0 u3 → X18_2 u0 u1 u2 u3) : B_X2_copy_18 (fun T => Q T ∧ KJ L S0 T) X18_2 v0 v1 v2 S := by
  delta B_X2_copy_18 at h ⊢
  refine ⟨?_, ?_⟩
  · intro c1
    have h := h.1 c1
    exact ⟨h, K⟩
  · intro c2
    have h := h.2 c2
    obtain ⟨c3, h⟩ := h
    refine ⟨c3, ?_⟩
    obtain ⟨b4, e5, h⟩ := h
    refine ⟨b4, e5, ?_⟩
    obtain ⟨c6, h⟩ := h
    refine ⟨c6, ?_⟩
    obtain ⟨b7, e8, h⟩ := h
    refine ⟨b7, e8, ?_⟩
    obtain ⟨c9, h⟩ := h
    refine ⟨c9, ?_⟩
    obtain ⟨c10, h⟩ := h
    refine ⟨c10, ?_⟩
    intro x12 e11
    have h := h x12 e11
    obtain ⟨c13, h⟩ := h
    refine ⟨c13, ?_⟩
    obtain ⟨c14, h⟩ := h
    refine ⟨c14, ?_⟩
    intro x16 e15
    have h := h x16 e15
    have K := kj9_J K e15
    intro x18 e17
    have h := h x18 e17
    exact hX18 _ _ _ _ h K
theorem kj_X2_copy_18 {L : List (Nat × Nat)} (hU : ∀ q ∈ L, q ∈ njT) (hL : ∀ q ∈ kjL_X2_copy, q ∈ L) {Q : HS → Prop} {v0 : Nat} {v1 : Nat} {v2 : Int32} {S0 S : HS} (h : P_X2_copy_18 Q v0 v1 v2 S) (K : KJ L S0 S) : P_X2_copy_18 (fun T => Q T ∧ KJ L S0 T) v0 v1 v2 S := h (fun v0 v1 v2 S => KJ L S0 S → P_X2_copy_18 (fun T => Q T ∧ KJ L S0 T) v0 v1 v2 S) (fun v0 v1 v2 S hB K => fd_X2_copy_18 (kjB_X2_copy_18 hU hL hB K (fun _ _ _ _ hx K => hx K))) K
set_option maxRecDepth 20000 in
set_option maxHeartbeats 1000000 in
theorem kj_X2_copy_0 {L : List (Nat × Nat)} (hU : ∀ q ∈ L, q ∈ njT) (hL : ∀ q ∈ kjL_X2_copy, q ∈ L) {Q : HS → Prop} {v0 : Nat} {v1 : Nat} {S0 S : HS} (h : P_X2_copy_0 Q v0 v1 S) (K : KJ L S0 S) : P_X2_copy_0 (fun T => Q T ∧ KJ L S0 T) v0 v1 S := by
  delta P_X2_copy_0 at h ⊢
  obtain ⟨c1, h⟩ := h
  refine ⟨c1, ?_⟩
  intro x3 e2
  have h := h x3 e2
  obtain ⟨c4, h⟩ := h
  refine ⟨c4, ?_⟩
  have n5 := kj9_nk K c4 (by decide)
  intro x7 e6
  have h := h x7 e6
  have K := kj9_I K e6 n5
  intro x9 e8
  have h := h x9 e8
  intro x11 e10
  have h := h x11 e10
  have K := kj9_I K e10 n5
  exact kj_X2_copy_18 hU hL h K
theorem kj_X2_copy {L : List (Nat × Nat)} (hU : ∀ q ∈ L, q ∈ njT) (hL : ∀ q ∈ kjL_X2_copy, q ∈ L) {Q : HS → Prop} {v0 : Nat} {v1 : Nat} {S : HS} (h : P_X2_copy v0 v1 Q S) : P_X2_copy v0 v1 (fun T => Q T ∧ KJ L S T) S := kj_X2_copy_0 hU hL h (kj9_rf L S)
abbrev kjL_X0_keepForUndo : List (Nat × Nat) := []
set_option maxRecDepth 20000 in
set_option maxHeartbeats 1000000 in
theorem kj_X0_keepForUndo_58 {L : List (Nat × Nat)} (hU : ∀ q ∈ L, q ∈ njT) (hL : ∀ q ∈ kjL_X0_keepForUndo, q ∈ L) {Q : HS → Prop} {v0 : Nat} {S0 S : HS} (h : P_X0_keepForUndo_58 Q v0 S) (K : KJ L S0 S) : P_X0_keepForUndo_58 (fun T => Q T ∧ KJ L S0 T) v0 S := by
  delta P_X0_keepForUndo_58 at h ⊢
  obtain ⟨c1, h⟩ := h
  refine ⟨c1, ?_⟩
  have n2 := kj9_nk K c1 (by decide)
  obtain ⟨b3, e4, h⟩ := h
  refine ⟨b3, e4, ?_⟩
  intro x6 e5
  have h := h x6 e5
  obtain ⟨c7, h⟩ := h
  refine ⟨c7, ?_⟩
  obtain ⟨c8, h⟩ := h
  refine ⟨c8, ?_⟩
  obtain ⟨b9, e10, h⟩ := h
  refine ⟨b9, e10, ?_⟩
  obtain ⟨b11, e12, h⟩ := h
  refine ⟨b11, e12, ?_⟩
  obtain ⟨c13, h⟩ := h
  refine ⟨c13, ?_⟩
  refine cm_X2_copy (kj_X2_copy hU (fun q hq => hL q ((by decide : ∀ q ∈ kjL_X2_copy, q ∈ kjL_X0_keepForUndo) q hq)) h) h (fun x14 p16 h g15 => ?_)
  have h := h g15
  have K := kj9_tr K p16.2
  intro x18 e17
  have h := h x18 e17
  intro x20 e19
  have h := h x20 e19
  intro x22 e21
  have h := h x22 e21
  have K := kj9_I K e21 n2
  exact ⟨h, K⟩
set_option maxRecDepth 20000 in
set_option maxHeartbeats 1000000 in
theorem kjB_X0_keepForUndo_18 {L : List (Nat × Nat)} (hU : ∀ q ∈ L, q ∈ njT) (hL : ∀ q ∈ kjL_X0_keepForUndo, q ∈ L) {Q : HS → Prop} {X18 X18_2 : Nat → Nat → Int32 → HS → Prop} {v0 : Nat} {v1 : Nat} {v2 : Int32} {S0 S : HS} (h : B_X0_keepForUndo_18 Q X18 v0 v1 v2 S) (K : KJ L S0 S) (hX18 : ∀ (u0 : Nat) (u1 : Nat) (u2 : Int32) (u3 : HS), X18 u0 u1 u2 u3 → KJ L S0 u3 → X18_2 u0 u1 u2 u3) : B_X0_keepForUndo_18 (fun T => Q T ∧ KJ L S0 T) X18_2 v0 v1 v2 S := by
  delta B_X0_keepForUndo_18 at h ⊢
  refine ⟨?_, ?_⟩
  · intro c1
    have h := h.1 c1
    obtain ⟨c2, h⟩ := h
    refine ⟨c2, ?_⟩
    have n3 := kj9_nk K c2 (by decide)
    obtain ⟨b4, e5, h⟩ := h
    refine ⟨b4, e5, ?_⟩
    obtain ⟨c6, h⟩ := h
    refine ⟨c6, ?_⟩
    have o7 := c6
    obtain ⟨c8, h⟩ := h
    refine ⟨c8, ?_⟩
    obtain ⟨c9, h⟩ := h
    refine ⟨c9, ?_⟩
    intro x11 e10
    have h := h x11 e10
    have K := kj9_RA K hU e10 o7 (by decide)
    have o7 := ob_wR o7 e10
    intro x13 e12
    have h := h x13 e12
    have K := kj9_I K e12 n3
    have o7 := ob_wI o7 e12
    exact kj_X0_keepForUndo_58 hU hL h K
  · intro c14
    have h := h.2 c14
    obtain ⟨c15, h⟩ := h
    refine ⟨c15, ?_⟩
    have n16 := kj9_nk K c15 (by decide)
    obtain ⟨b17, e18, h⟩ := h
    refine ⟨b17, e18, ?_⟩
    obtain ⟨b19, e20, h⟩ := h
    refine ⟨b19, e20, ?_⟩
    obtain ⟨c21, h⟩ := h
    refine ⟨c21, ?_⟩
    obtain ⟨c22, h⟩ := h
    refine ⟨c22, ?_⟩
    obtain ⟨b23, e24, h⟩ := h
    refine ⟨b23, e24, ?_⟩
    obtain ⟨c25, h⟩ := h
    refine ⟨c25, ?_⟩
    have o26 := c25
    obtain ⟨c27, h⟩ := h
    refine ⟨c27, ?_⟩
    obtain ⟨c28, h⟩ := h
    refine ⟨c28, ?_⟩
    intro x30 e29
    have h := h x30 e29
    have K := kj9_RA K hU e29 o26 (by decide)
    have o26 := ob_wR o26 e29
    intro x32 e31
    have h := h x32 e31
    exact hX18 _ _ _ _ h K
theorem kj_X0_keepForUndo_18 {L : List (Nat × Nat)} (hU : ∀ q ∈ L, q ∈ njT) (hL : ∀ q ∈ kjL_X0_keepForUndo, q ∈ L) {Q : HS → Prop} {v0 : Nat} {v1 : Nat} {v2 : Int32} {S0 S : HS} (h : P_X0_keepForUndo_18 Q v0 v1 v2 S) (K : KJ L S0 S) : P_X0_keepForUndo_18 (fun T => Q T ∧ KJ L S0 T) v0 v1 v2 S := h (fun v0 v1 v2 S => KJ L S0 S → P_X0_keepForUndo_18 (fun T => Q T ∧ KJ L S0 T) v0 v1 v2 S) (fun v0 v1 v2 S hB K => fd_X0_keepForUndo_18 (kjB_X0_keepForUndo_18 hU hL hB K (fun _ _ _ _ hx K => hx K))) K
set_option maxRecDepth 20000 in
set_option maxHeartbeats 1000000 in
theorem kj_X0_keepForUndo_0 {L : List (Nat × Nat)} (hU : ∀ q ∈ L, q ∈ njT) (hL : ∀ q ∈ kjL_X0_keepForUndo, q ∈ L) {Q : HS → Prop} {v0 : Nat} {S0 S : HS} (h : P_X0_keepForUndo_0 Q v0 S) (K : KJ L S0 S) : P_X0_keepForUndo_0 (fun T => Q T ∧ KJ L S0 T) v0 S := by
  delta P_X0_keepForUndo_0 at h ⊢
  obtain ⟨c1, h⟩ := h
  refine ⟨c1, ?_⟩
  intro x3 e2
  have h := h x3 e2
  refine ⟨?_, ?_⟩
  · intro c4
    have h := h.1 c4
    exact kj_X0_keepForUndo_58 hU hL h K
  · intro c5
    have h := h.2 c5
    obtain ⟨b6, e7, h⟩ := h
    refine ⟨b6, e7, ?_⟩
    obtain ⟨c8, h⟩ := h
    refine ⟨c8, ?_⟩
    obtain ⟨c9, h⟩ := h
    refine ⟨c9, ?_⟩
    obtain ⟨b10, e11, h⟩ := h
    refine ⟨b10, e11, ?_⟩
    exact kj_X0_keepForUndo_18 hU hL h K
theorem kj_X0_keepForUndo {L : List (Nat × Nat)} (hU : ∀ q ∈ L, q ∈ njT) (hL : ∀ q ∈ kjL_X0_keepForUndo, q ∈ L) {Q : HS → Prop} {v0 : Nat} {S : HS} (h : P_X0_keepForUndo v0 Q S) : P_X0_keepForUndo v0 (fun T => Q T ∧ KJ L S T) S := kj_X0_keepForUndo_0 hU hL h (kj9_rf L S)
abbrev kjL_X0_rainsIn : List (Nat × Nat) := []
set_option maxRecDepth 20000 in
set_option maxHeartbeats 1000000 in
theorem kj_X0_rainsIn_0 {L : List (Nat × Nat)} (hU : ∀ q ∈ L, q ∈ njT) (hL : ∀ q ∈ kjL_X0_rainsIn, q ∈ L) {Q : Int32 → HS → Prop} {v0 : Nat} {v1 : Int32} {S0 S : HS} (h : P_X0_rainsIn_0 Q v0 v1 S) (K : KJ L S0 S) : P_X0_rainsIn_0 (fun r T => Q r T ∧ KJ L S0 T) v0 v1 S := by
  delta P_X0_rainsIn_0 at h ⊢
  refine ⟨?_, ?_⟩
  · intro c1
    have h := h.1 c1
    exact ⟨h, K⟩
  · intro c2
    have h := h.2 c2
    refine ⟨?_, ?_⟩
    · intro c3
      have h := h.1 c3
      exact ⟨h, K⟩
    · intro c4
      have h := h.2 c4
      obtain ⟨c5, h⟩ := h
      refine ⟨c5, ?_⟩
      intro x7 e6
      have h := h x7 e6
      refine ⟨?_, ?_⟩
      · intro c8
        have h := h.1 c8
        exact ⟨h, K⟩
      · intro c9
        have h := h.2 c9
        exact ⟨h, K⟩
theorem kj_X0_rainsIn {L : List (Nat × Nat)} (hU : ∀ q ∈ L, q ∈ njT) (hL : ∀ q ∈ kjL_X0_rainsIn, q ∈ L) {Q : Int32 → HS → Prop} {v0 : Nat} {v1 : Int32} {S : HS} (h : P_X0_rainsIn v0 v1 Q S) : P_X0_rainsIn v0 v1 (fun r T => Q r T ∧ KJ L S T) S := kj_X0_rainsIn_0 hU hL h (kj9_rf L S)
abbrev kjL_X0_returnTo : List (Nat × Nat) := []
set_option maxRecDepth 20000 in
set_option maxHeartbeats 1000000 in
theorem kj_X0_returnTo_0 {L : List (Nat × Nat)} (hU : ∀ q ∈ L, q ∈ njT) (hL : ∀ q ∈ kjL_X0_returnTo, q ∈ L) {Q : Int32 → HS → Prop} {v0 : Nat} {v1 : Int32} {S0 S : HS} (h : P_X0_returnTo_0 Q v0 v1 S) (K : KJ L S0 S) : P_X0_returnTo_0 (fun r T => Q r T ∧ KJ L S0 T) v0 v1 S := by
  delta P_X0_returnTo_0 at h ⊢
  refine ⟨?_, ?_⟩
  · intro c1
    have h := h.1 c1
    exact ⟨h, K⟩
  · intro c2
    have h := h.2 c2
    obtain ⟨c3, h⟩ := h
    refine ⟨c3, ?_⟩
    have n4 := kj9_nk K c3 (by decide)
    intro x6 e5
    have h := h x6 e5
    refine ⟨?_, ?_⟩
    · intro c7
      have h := h.1 c7
      obtain ⟨b8, e9, h⟩ := h
      refine ⟨b8, e9, ?_⟩
      obtain ⟨b10, e11, h⟩ := h
      refine ⟨b10, e11, ?_⟩
      obtain ⟨c12, h⟩ := h
      refine ⟨c12, ?_⟩
      obtain ⟨c13, h⟩ := h
      refine ⟨c13, ?_⟩
      obtain ⟨b14, e15, h⟩ := h
      refine ⟨b14, e15, ?_⟩
      obtain ⟨c16, h⟩ := h
      refine ⟨c16, ?_⟩
      refine cm_X2_copy (kj_X2_copy hU (fun q hq => hL q ((by decide : ∀ q ∈ kjL_X2_copy, q ∈ kjL_X0_returnTo) q hq)) h) h (fun x17 p19 h g18 => ?_)
      have h := h g18
      have K := kj9_tr K p19.2
      intro x21 e20
      have h := h x21 e20
      have K := kj9_I K e20 n4
      exact ⟨h, K⟩
    · intro c22
      have h := h.2 c22
      exact ⟨h, K⟩
theorem kj_X0_returnTo {L : List (Nat × Nat)} (hU : ∀ q ∈ L, q ∈ njT) (hL : ∀ q ∈ kjL_X0_returnTo, q ∈ L) {Q : Int32 → HS → Prop} {v0 : Nat} {v1 : Int32} {S : HS} (h : P_X0_returnTo v0 v1 Q S) : P_X0_returnTo v0 v1 (fun r T => Q r T ∧ KJ L S T) S := kj_X0_returnTo_0 hU hL h (kj9_rf L S)
abbrev kjL_X0_setMark : List (Nat × Nat) := []
set_option maxRecDepth 20000 in
set_option maxHeartbeats 1000000 in
theorem kj_X0_setMark_0 {L : List (Nat × Nat)} (hU : ∀ q ∈ L, q ∈ njT) (hL : ∀ q ∈ kjL_X0_setMark, q ∈ L) {Q : Int32 → HS → Prop} {v0 : Nat} {S0 S : HS} (h : P_X0_setMark_0 Q v0 S) (K : KJ L S0 S) : P_X0_setMark_0 (fun r T => Q r T ∧ KJ L S0 T) v0 S := by
  delta P_X0_setMark_0 at h ⊢
  obtain ⟨c1, h⟩ := h
  refine ⟨c1, ?_⟩
  have n2 := kj9_nk K c1 (by decide)
  intro x4 e3
  have h := h x4 e3
  refine ⟨?_, ?_⟩
  · intro c5
    have h := h.1 c5
    obtain ⟨b6, e7, h⟩ := h
    refine ⟨b6, e7, ?_⟩
    intro x9 e8
    have h := h x9 e8
    obtain ⟨c10, h⟩ := h
    refine ⟨c10, ?_⟩
    obtain ⟨c11, h⟩ := h
    refine ⟨c11, ?_⟩
    obtain ⟨b12, e13, h⟩ := h
    refine ⟨b12, e13, ?_⟩
    obtain ⟨b14, e15, h⟩ := h
    refine ⟨b14, e15, ?_⟩
    obtain ⟨c16, h⟩ := h
    refine ⟨c16, ?_⟩
    refine cm_X2_copy (kj_X2_copy hU (fun q hq => hL q ((by decide : ∀ q ∈ kjL_X2_copy, q ∈ kjL_X0_setMark) q hq)) h) h (fun x17 p19 h g18 => ?_)
    have h := h g18
    have K := kj9_tr K p19.2
    intro x21 e20
    have h := h x21 e20
    intro x23 e22
    have h := h x23 e22
    intro x25 e24
    have h := h x25 e24
    have K := kj9_I K e24 n2
    intro x27 e26
    have h := h x27 e26
    exact ⟨h, K⟩
  · intro c28
    have h := h.2 c28
    exact ⟨h, K⟩
theorem kj_X0_setMark {L : List (Nat × Nat)} (hU : ∀ q ∈ L, q ∈ njT) (hL : ∀ q ∈ kjL_X0_setMark, q ∈ L) {Q : Int32 → HS → Prop} {v0 : Nat} {S : HS} (h : P_X0_setMark v0 Q S) : P_X0_setMark v0 (fun r T => Q r T ∧ KJ L S T) S := kj_X0_setMark_0 hU hL h (kj9_rf L S)
abbrev kjL_X0_takeBack : List (Nat × Nat) := []
set_option maxRecDepth 20000 in
set_option maxHeartbeats 1000000 in
theorem kj_X0_takeBack_0 {L : List (Nat × Nat)} (hU : ∀ q ∈ L, q ∈ njT) (hL : ∀ q ∈ kjL_X0_takeBack, q ∈ L) {Q : Int32 → HS → Prop} {v0 : Nat} {S0 S : HS} (h : P_X0_takeBack_0 Q v0 S) (K : KJ L S0 S) : P_X0_takeBack_0 (fun r T => Q r T ∧ KJ L S0 T) v0 S := by
  delta P_X0_takeBack_0 at h ⊢
  obtain ⟨c1, h⟩ := h
  refine ⟨c1, ?_⟩
  have n2 := kj9_nk K c1 (by decide)
  intro x4 e3
  have h := h x4 e3
  refine ⟨?_, ?_⟩
  · intro c5
    have h := h.1 c5
    intro x7 e6
    have h := h x7 e6
    intro x9 e8
    have h := h x9 e8
    intro x11 e10
    have h := h x11 e10
    have K := kj9_I K e10 n2
    obtain ⟨b12, e13, h⟩ := h
    refine ⟨b12, e13, ?_⟩
    obtain ⟨b14, e15, h⟩ := h
    refine ⟨b14, e15, ?_⟩
    intro x17 e16
    have h := h x17 e16
    obtain ⟨c18, h⟩ := h
    refine ⟨c18, ?_⟩
    obtain ⟨c19, h⟩ := h
    refine ⟨c19, ?_⟩
    obtain ⟨b20, e21, h⟩ := h
    refine ⟨b20, e21, ?_⟩
    obtain ⟨c22, h⟩ := h
    refine ⟨c22, ?_⟩
    refine cm_X2_copy (kj_X2_copy hU (fun q hq => hL q ((by decide : ∀ q ∈ kjL_X2_copy, q ∈ kjL_X0_takeBack) q hq)) h) h (fun x23 p25 h g24 => ?_)
    have h := h g24
    have K := kj9_tr K p25.2
    exact ⟨h, K⟩
  · intro c26
    have h := h.2 c26
    exact ⟨h, K⟩
theorem kj_X0_takeBack {L : List (Nat × Nat)} (hU : ∀ q ∈ L, q ∈ njT) (hL : ∀ q ∈ kjL_X0_takeBack, q ∈ L) {Q : Int32 → HS → Prop} {v0 : Nat} {S : HS} (h : P_X0_takeBack v0 Q S) : P_X0_takeBack v0 (fun r T => Q r T ∧ KJ L S T) S := kj_X0_takeBack_0 hU hL h (kj9_rf L S)
abbrev kjL_X10_facing : List (Nat × Nat) := []
set_option maxRecDepth 20000 in
set_option maxHeartbeats 1000000 in
theorem kj_X10_facing_0 {L : List (Nat × Nat)} (hU : ∀ q ∈ L, q ∈ njT) (hL : ∀ q ∈ kjL_X10_facing, q ∈ L) {Q : Int32 → HS → Prop} {v0 : Nat} {v1 : Int32} {v2 : Int32} {S0 S : HS} (h : P_X10_facing_0 Q v0 v1 v2 S) (K : KJ L S0 S) : P_X10_facing_0 (fun r T => Q r T ∧ KJ L S0 T) v0 v1 v2 S := by
  delta P_X10_facing_0 at h ⊢
  refine ⟨?_, ?_⟩
  · intro c1
    have h := h.1 c1
    obtain ⟨c2, h⟩ := h
    refine ⟨c2, ?_⟩
    have o3 := c2
    obtain ⟨b4, e5, h⟩ := h
    refine ⟨b4, e5, ?_⟩
    obtain ⟨c6, h⟩ := h
    refine ⟨c6, ?_⟩
    obtain ⟨c7, h⟩ := h
    refine ⟨c7, ?_⟩
    intro x9 e8
    have h := h x9 e8
    exact ⟨h, K⟩
  · intro c10
    have h := h.2 c10
    obtain ⟨c11, h⟩ := h
    refine ⟨c11, ?_⟩
    have o12 := c11
    obtain ⟨b13, e14, h⟩ := h
    refine ⟨b13, e14, ?_⟩
    obtain ⟨c15, h⟩ := h
    refine ⟨c15, ?_⟩
    obtain ⟨c16, h⟩ := h
    refine ⟨c16, ?_⟩
    intro x18 e17
    have h := h x18 e17
    exact ⟨h, K⟩
theorem kj_X10_facing {L : List (Nat × Nat)} (hU : ∀ q ∈ L, q ∈ njT) (hL : ∀ q ∈ kjL_X10_facing, q ∈ L) {Q : Int32 → HS → Prop} {v0 : Nat} {v1 : Int32} {v2 : Int32} {S : HS} (h : P_X10_facing v0 v1 v2 Q S) : P_X10_facing v0 v1 v2 (fun r T => Q r T ∧ KJ L S T) S := kj_X10_facing_0 hU hL h (kj9_rf L S)
abbrev kjL_X10_across : List (Nat × Nat) := []
set_option maxRecDepth 20000 in
set_option maxHeartbeats 1000000 in
theorem kj_X10_across_0 {L : List (Nat × Nat)} (hU : ∀ q ∈ L, q ∈ njT) (hL : ∀ q ∈ kjL_X10_across, q ∈ L) {Q : Int32 → HS → Prop} {v0 : Nat} {v1 : Int32} {v2 : Int32} {v3 : Int32} {S0 S : HS} (h : P_X10_across_0 Q v0 v1 v2 v3 S) (K : KJ L S0 S) : P_X10_across_0 (fun r T => Q r T ∧ KJ L S0 T) v0 v1 v2 v3 S := by
  delta P_X10_across_0 at h ⊢
  obtain ⟨c1, h⟩ := h
  refine ⟨c1, ?_⟩
  have o2 := c1
  obtain ⟨b3, e4, h⟩ := h
  refine ⟨b3, e4, ?_⟩
  obtain ⟨c5, h⟩ := h
  refine ⟨c5, ?_⟩
  obtain ⟨c6, h⟩ := h
  refine ⟨c6, ?_⟩
  intro x8 e7
  have h := h x8 e7
  refine cm_X10_facing (kj_X10_facing hU (fun q hq => hL q ((by decide : ∀ q ∈ kjL_X10_facing, q ∈ kjL_X10_across) q hq)) h) h (fun x9 x10 p12 h g11 => ?_)
  have h := h g11
  have K := kj9_tr K p12.2
  have o2 := gr_ob p12.2.1 o2
  intro x14 e13
  have h := h x14 e13
  refine ⟨?_, ?_⟩
  · intro c15
    have h := h.1 c15
    refine ⟨?_, ?_⟩
    · intro c16
      have h := h.1 c16
      exact ⟨h, K⟩
    · intro c17
      have h := h.2 c17
      obtain ⟨b18, e19, h⟩ := h
      refine ⟨b18, e19, ?_⟩
      obtain ⟨c20, h⟩ := h
      refine ⟨c20, ?_⟩
      obtain ⟨c21, h⟩ := h
      refine ⟨c21, ?_⟩
      intro x23 e22
      have h := h x23 e22
      exact ⟨h, K⟩
  · intro c24
    have h := h.2 c24
    obtain ⟨b25, e26, h⟩ := h
    refine ⟨b25, e26, ?_⟩
    obtain ⟨c27, h⟩ := h
    refine ⟨c27, ?_⟩
    obtain ⟨c28, h⟩ := h
    refine ⟨c28, ?_⟩
    intro x30 e29
    have h := h x30 e29
    exact ⟨h, K⟩
theorem kj_X10_across {L : List (Nat × Nat)} (hU : ∀ q ∈ L, q ∈ njT) (hL : ∀ q ∈ kjL_X10_across, q ∈ L) {Q : Int32 → HS → Prop} {v0 : Nat} {v1 : Int32} {v2 : Int32} {v3 : Int32} {S : HS} (h : P_X10_across v0 v1 v2 v3 Q S) : P_X10_across v0 v1 v2 v3 (fun r T => Q r T ∧ KJ L S T) S := kj_X10_across_0 hU hL h (kj9_rf L S)
abbrev kjL_X10_air : List (Nat × Nat) := []
set_option maxRecDepth 20000 in
set_option maxHeartbeats 1000000 in
theorem kj_X10_air_0 {L : List (Nat × Nat)} (hU : ∀ q ∈ L, q ∈ njT) (hL : ∀ q ∈ kjL_X10_air, q ∈ L) {Q : Int32 → HS → Prop} {v0 : Nat} {v1 : Int32} {v2 : Int32} {v3 : Int32} {S0 S : HS} (h : P_X10_air_0 Q v0 v1 v2 v3 S) (K : KJ L S0 S) : P_X10_air_0 (fun r T => Q r T ∧ KJ L S0 T) v0 v1 v2 v3 S := by
  delta P_X10_air_0 at h ⊢
  obtain ⟨c1, h⟩ := h
  refine ⟨c1, ?_⟩
  have o2 := c1
  obtain ⟨b3, e4, h⟩ := h
  refine ⟨b3, e4, ?_⟩
  obtain ⟨c5, h⟩ := h
  refine ⟨c5, ?_⟩
  obtain ⟨c6, h⟩ := h
  refine ⟨c6, ?_⟩
  intro x8 e7
  have h := h x8 e7
  refine cm_X10_facing (kj_X10_facing hU (fun q hq => hL q ((by decide : ∀ q ∈ kjL_X10_facing, q ∈ kjL_X10_air) q hq)) h) h (fun x9 x10 p12 h g11 => ?_)
  have h := h g11
  have K := kj9_tr K p12.2
  have o2 := gr_ob p12.2.1 o2
  intro x14 e13
  have h := h x14 e13
  refine ⟨?_, ?_⟩
  · intro c15
    have h := h.1 c15
    refine ⟨?_, ?_⟩
    · intro c16
      have h := h.1 c16
      exact ⟨h, K⟩
    · intro c17
      have h := h.2 c17
      obtain ⟨b18, e19, h⟩ := h
      refine ⟨b18, e19, ?_⟩
      obtain ⟨c20, h⟩ := h
      refine ⟨c20, ?_⟩
      obtain ⟨c21, h⟩ := h
      refine ⟨c21, ?_⟩
      intro x23 e22
      have h := h x23 e22
      exact ⟨h, K⟩
  · intro c24
    have h := h.2 c24
    obtain ⟨b25, e26, h⟩ := h
    refine ⟨b25, e26, ?_⟩
    obtain ⟨c27, h⟩ := h
    refine ⟨c27, ?_⟩
    obtain ⟨c28, h⟩ := h
    refine ⟨c28, ?_⟩
    intro x30 e29
    have h := h x30 e29
    exact ⟨h, K⟩
theorem kj_X10_air {L : List (Nat × Nat)} (hU : ∀ q ∈ L, q ∈ njT) (hL : ∀ q ∈ kjL_X10_air, q ∈ L) {Q : Int32 → HS → Prop} {v0 : Nat} {v1 : Int32} {v2 : Int32} {v3 : Int32} {S : HS} (h : P_X10_air v0 v1 v2 v3 Q S) : P_X10_air v0 v1 v2 v3 (fun r T => Q r T ∧ KJ L S T) S := kj_X10_air_0 hU hL h (kj9_rf L S)
abbrev kjL_X10_begins : List (Nat × Nat) := []
set_option maxRecDepth 20000 in
set_option maxHeartbeats 1000000 in
theorem kj_X10_begins_0 {L : List (Nat × Nat)} (hU : ∀ q ∈ L, q ∈ njT) (hL : ∀ q ∈ kjL_X10_begins, q ∈ L) {Q : Int32 → HS → Prop} {v0 : Nat} {v1 : Int32} {v2 : Int32} {S0 S : HS} (h : P_X10_begins_0 Q v0 v1 v2 S) (K : KJ L S0 S) : P_X10_begins_0 (fun r T => Q r T ∧ KJ L S0 T) v0 v1 v2 S := by
  delta P_X10_begins_0 at h ⊢
  refine ⟨?_, ?_⟩
  · intro c1
    have h := h.1 c1
    obtain ⟨c2, h⟩ := h
    refine ⟨c2, ?_⟩
    have o3 := c2
    obtain ⟨b4, e5, h⟩ := h
    refine ⟨b4, e5, ?_⟩
    obtain ⟨c6, h⟩ := h
    refine ⟨c6, ?_⟩
    obtain ⟨c7, h⟩ := h
    refine ⟨c7, ?_⟩
    intro x9 e8
    have h := h x9 e8
    exact ⟨h, K⟩
  · intro c10
    have h := h.2 c10
    obtain ⟨c11, h⟩ := h
    refine ⟨c11, ?_⟩
    have o12 := c11
    obtain ⟨b13, e14, h⟩ := h
    refine ⟨b13, e14, ?_⟩
    obtain ⟨c15, h⟩ := h
    refine ⟨c15, ?_⟩
    obtain ⟨c16, h⟩ := h
    refine ⟨c16, ?_⟩
    intro x18 e17
    have h := h x18 e17
    exact ⟨h, K⟩
theorem kj_X10_begins {L : List (Nat × Nat)} (hU : ∀ q ∈ L, q ∈ njT) (hL : ∀ q ∈ kjL_X10_begins, q ∈ L) {Q : Int32 → HS → Prop} {v0 : Nat} {v1 : Int32} {v2 : Int32} {S : HS} (h : P_X10_begins v0 v1 v2 Q S) : P_X10_begins v0 v1 v2 (fun r T => Q r T ∧ KJ L S T) S := kj_X10_begins_0 hU hL h (kj9_rf L S)
abbrev kjL_X10_ends : List (Nat × Nat) := []
set_option maxRecDepth 20000 in
set_option maxHeartbeats 1000000 in
theorem kj_X10_ends_0 {L : List (Nat × Nat)} (hU : ∀ q ∈ L, q ∈ njT) (hL : ∀ q ∈ kjL_X10_ends, q ∈ L) {Q : Int32 → HS → Prop} {v0 : Nat} {v1 : Int32} {v2 : Int32} {S0 S : HS} (h : P_X10_ends_0 Q v0 v1 v2 S) (K : KJ L S0 S) : P_X10_ends_0 (fun r T => Q r T ∧ KJ L S0 T) v0 v1 v2 S := by
  delta P_X10_ends_0 at h ⊢
  refine ⟨?_, ?_⟩
  · intro c1
    have h := h.1 c1
    obtain ⟨c2, h⟩ := h
    refine ⟨c2, ?_⟩
    have o3 := c2
    obtain ⟨b4, e5, h⟩ := h
    refine ⟨b4, e5, ?_⟩
    obtain ⟨c6, h⟩ := h
    refine ⟨c6, ?_⟩
    obtain ⟨c7, h⟩ := h
    refine ⟨c7, ?_⟩
    intro x9 e8
    have h := h x9 e8
    exact ⟨h, K⟩
  · intro c10
    have h := h.2 c10
    obtain ⟨c11, h⟩ := h
    refine ⟨c11, ?_⟩
    have o12 := c11
    obtain ⟨b13, e14, h⟩ := h
    refine ⟨b13, e14, ?_⟩
    obtain ⟨c15, h⟩ := h
    refine ⟨c15, ?_⟩
    obtain ⟨c16, h⟩ := h
    refine ⟨c16, ?_⟩
    intro x18 e17
    have h := h x18 e17
    exact ⟨h, K⟩
theorem kj_X10_ends {L : List (Nat × Nat)} (hU : ∀ q ∈ L, q ∈ njT) (hL : ∀ q ∈ kjL_X10_ends, q ∈ L) {Q : Int32 → HS → Prop} {v0 : Nat} {v1 : Int32} {v2 : Int32} {S : HS} (h : P_X10_ends v0 v1 v2 Q S) : P_X10_ends v0 v1 v2 (fun r T => Q r T ∧ KJ L S T) S := kj_X10_ends_0 hU hL h (kj9_rf L S)
abbrev kjL_X10_find : List (Nat × Nat) := []
set_option maxRecDepth 20000 in
set_option maxHeartbeats 1000000 in
theorem kjB_X10_find_2 {L : List (Nat × Nat)} (hU : ∀ q ∈ L, q ∈ njT) (hL : ∀ q ∈ kjL_X10_find, q ∈ L) {Q : Int32 → HS → Prop} {X2 X2_2 : Nat → Int64 → Int32 → HS → Prop} {v0 : Nat} {v1 : Int64} {v3 : Int32} {S0 S : HS} (h : B_X10_find_2 Q X2 v0 v1 v3 S) (K : KJ L S0 S) (hX2 : ∀ (u0 : Nat) (u1 : Int64) (u2 : Int32) (u3 : HS), X2 u0 u1 u2 u3 → KJ L S0 u3 → X2_2 u0 u1 u2 u3) : B_X10_find_2 (fun r T => Q r T ∧ KJ L S0 T) X2_2 v0 v1 v3 S := by
  delta B_X10_find_2 at h ⊢
  obtain ⟨c1, h⟩ := h
  refine ⟨c1, ?_⟩
  have o2 := c1
  intro x4 e3
  have h := h x4 e3
  refine ⟨?_, ?_⟩
  · intro c5
    have h := h.1 c5
    exact ⟨h, K⟩
  · intro c6
    have h := h.2 c6
    obtain ⟨b7, e8, h⟩ := h
    refine ⟨b7, e8, ?_⟩
    obtain ⟨c9, h⟩ := h
    refine ⟨c9, ?_⟩
    obtain ⟨c10, h⟩ := h
    refine ⟨c10, ?_⟩
    intro x12 e11
    have h := h x12 e11
    refine ⟨?_, ?_⟩
    · intro c13
      have h := h.1 c13
      intro x15 e14
      have h := h x15 e14
      exact hX2 _ _ _ _ h K
    · intro c16
      have h := h.2 c16
      exact ⟨h, K⟩
theorem kj_X10_find_2 {L : List (Nat × Nat)} (hU : ∀ q ∈ L, q ∈ njT) (hL : ∀ q ∈ kjL_X10_find, q ∈ L) {Q : Int32 → HS → Prop} {v0 : Nat} {v1 : Int64} {v3 : Int32} {S0 S : HS} (h : P_X10_find_2 Q v0 v1 v3 S) (K : KJ L S0 S) : P_X10_find_2 (fun r T => Q r T ∧ KJ L S0 T) v0 v1 v3 S := h (fun v0 v1 v3 S => KJ L S0 S → P_X10_find_2 (fun r T => Q r T ∧ KJ L S0 T) v0 v1 v3 S) (fun v0 v1 v3 S hB K => fd_X10_find_2 (kjB_X10_find_2 hU hL hB K (fun _ _ _ _ hx K => hx K))) K
set_option maxRecDepth 20000 in
set_option maxHeartbeats 1000000 in
theorem kj_X10_find_0 {L : List (Nat × Nat)} (hU : ∀ q ∈ L, q ∈ njT) (hL : ∀ q ∈ kjL_X10_find, q ∈ L) {Q : Int32 → HS → Prop} {v0 : Nat} {v1 : Int64} {S0 S : HS} (h : P_X10_find_0 Q v0 v1 S) (K : KJ L S0 S) : P_X10_find_0 (fun r T => Q r T ∧ KJ L S0 T) v0 v1 S := by
  delta P_X10_find_0 at h ⊢
  exact kj_X10_find_2 hU hL h K
theorem kj_X10_find {L : List (Nat × Nat)} (hU : ∀ q ∈ L, q ∈ njT) (hL : ∀ q ∈ kjL_X10_find, q ∈ L) {Q : Int32 → HS → Prop} {v0 : Nat} {v1 : Int64} {S : HS} (h : P_X10_find v0 v1 Q S) : P_X10_find v0 v1 (fun r T => Q r T ∧ KJ L S T) S := kj_X10_find_0 hU hL h (kj9_rf L S)
abbrev kjL_X10_init : List (Nat × Nat) := []
set_option maxRecDepth 20000 in
set_option maxHeartbeats 1000000 in
theorem kj_X10_init_0 {L : List (Nat × Nat)} (hU : ∀ q ∈ L, q ∈ njT) (hL : ∀ q ∈ kjL_X10_init, q ∈ L) {Q : HS → Prop} {v0 : Nat} {S0 S : HS} (h : P_X10_init_0 Q v0 S) (K : KJ L S0 S) : P_X10_init_0 (fun T => Q T ∧ KJ L S0 T) v0 S := by
  delta P_X10_init_0 at h ⊢
  intro x2 e1
  have h := h x2 e1
  intro x4 e3
  have h := h x4 e3
  have n5 := kj9_nf K e1
  have K := kj9_W K e1 e3
  have o6 := ob_of_new e3
  obtain ⟨c7, h⟩ := h
  refine ⟨c7, ?_⟩
  have o8 := c7
  intro x10 e9
  have h := h x10 e9
  have K := kj9_S K e9 o8 n5
  have o6 := ob_wR o6 e9
  have o8 := ob_wR o8 e9
  intro x12 e11
  have h := h x12 e11
  intro x14 e13
  have h := h x14 e13
  have n15 := kj9_nf K e11
  have K := kj9_W K e11 e13
  have o6 := gr_ob (gr_of_new e13 e11) o6
  have o8 := gr_ob (gr_of_new e13 e11) o8
  have o16 := ob_of_new e13
  intro x18 e17
  have h := h x18 e17
  have K := kj9_S K e17 o8 n15
  have o6 := ob_wR o6 e17
  have o8 := ob_wR o8 e17
  have o16 := ob_wR o16 e17
  intro x20 e19
  have h := h x20 e19
  intro x22 e21
  have h := h x22 e21
  have n23 := kj9_nf K e19
  have K := kj9_W K e19 e21
  have o6 := gr_ob (gr_of_new e21 e19) o6
  have o8 := gr_ob (gr_of_new e21 e19) o8
  have o16 := gr_ob (gr_of_new e21 e19) o16
  have o24 := ob_of_new e21
  intro x26 e25
  have h := h x26 e25
  have K := kj9_S K e25 o8 n23
  have o6 := ob_wR o6 e25
  have o8 := ob_wR o8 e25
  have o16 := ob_wR o16 e25
  have o24 := ob_wR o24 e25
  intro x28 e27
  have h := h x28 e27
  intro x30 e29
  have h := h x30 e29
  have n31 := kj9_nf K e27
  have K := kj9_W K e27 e29
  have o6 := gr_ob (gr_of_new e29 e27) o6
  have o8 := gr_ob (gr_of_new e29 e27) o8
  have o16 := gr_ob (gr_of_new e29 e27) o16
  have o24 := gr_ob (gr_of_new e29 e27) o24
  have o32 := ob_of_new e29
  intro x34 e33
  have h := h x34 e33
  have K := kj9_S K e33 o8 n31
  have o6 := ob_wR o6 e33
  have o8 := ob_wR o8 e33
  have o16 := ob_wR o16 e33
  have o24 := ob_wR o24 e33
  have o32 := ob_wR o32 e33
  intro x36 e35
  have h := h x36 e35
  intro x38 e37
  have h := h x38 e37
  have n39 := kj9_nf K e35
  have K := kj9_W K e35 e37
  have o6 := gr_ob (gr_of_new e37 e35) o6
  have o8 := gr_ob (gr_of_new e37 e35) o8
  have o16 := gr_ob (gr_of_new e37 e35) o16
  have o24 := gr_ob (gr_of_new e37 e35) o24
  have o32 := gr_ob (gr_of_new e37 e35) o32
  have o40 := ob_of_new e37
  intro x42 e41
  have h := h x42 e41
  have K := kj9_S K e41 o8 n39
  have o6 := ob_wR o6 e41
  have o8 := ob_wR o8 e41
  have o16 := ob_wR o16 e41
  have o24 := ob_wR o24 e41
  have o32 := ob_wR o32 e41
  have o40 := ob_wR o40 e41
  intro x44 e43
  have h := h x44 e43
  intro x46 e45
  have h := h x46 e45
  have n47 := kj9_nf K e43
  have K := kj9_W K e43 e45
  have o6 := gr_ob (gr_of_new e45 e43) o6
  have o8 := gr_ob (gr_of_new e45 e43) o8
  have o16 := gr_ob (gr_of_new e45 e43) o16
  have o24 := gr_ob (gr_of_new e45 e43) o24
  have o32 := gr_ob (gr_of_new e45 e43) o32
  have o40 := gr_ob (gr_of_new e45 e43) o40
  have o48 := ob_of_new e45
  intro x50 e49
  have h := h x50 e49
  have K := kj9_S K e49 o8 n47
  have o6 := ob_wR o6 e49
  have o8 := ob_wR o8 e49
  have o16 := ob_wR o16 e49
  have o24 := ob_wR o24 e49
  have o32 := ob_wR o32 e49
  have o40 := ob_wR o40 e49
  have o48 := ob_wR o48 e49
  intro x52 e51
  have h := h x52 e51
  intro x54 e53
  have h := h x54 e53
  have n55 := kj9_nf K e51
  have K := kj9_W K e51 e53
  have o6 := gr_ob (gr_of_new e53 e51) o6
  have o8 := gr_ob (gr_of_new e53 e51) o8
  have o16 := gr_ob (gr_of_new e53 e51) o16
  have o24 := gr_ob (gr_of_new e53 e51) o24
  have o32 := gr_ob (gr_of_new e53 e51) o32
  have o40 := gr_ob (gr_of_new e53 e51) o40
  have o48 := gr_ob (gr_of_new e53 e51) o48
  have o56 := ob_of_new e53
  intro x58 e57
  have h := h x58 e57
  have K := kj9_S K e57 o8 n55
  have o6 := ob_wR o6 e57
  have o8 := ob_wR o8 e57
  have o16 := ob_wR o16 e57
  have o24 := ob_wR o24 e57
  have o32 := ob_wR o32 e57
  have o40 := ob_wR o40 e57
  have o48 := ob_wR o48 e57
  have o56 := ob_wR o56 e57
  intro x60 e59
  have h := h x60 e59
  intro x62 e61
  have h := h x62 e61
  have n63 := kj9_nf K e59
  have K := kj9_W K e59 e61
  have o6 := gr_ob (gr_of_new e61 e59) o6
  have o8 := gr_ob (gr_of_new e61 e59) o8
  have o16 := gr_ob (gr_of_new e61 e59) o16
  have o24 := gr_ob (gr_of_new e61 e59) o24
  have o32 := gr_ob (gr_of_new e61 e59) o32
  have o40 := gr_ob (gr_of_new e61 e59) o40
  have o48 := gr_ob (gr_of_new e61 e59) o48
  have o56 := gr_ob (gr_of_new e61 e59) o56
  have o64 := ob_of_new e61
  intro x66 e65
  have h := h x66 e65
  have K := kj9_S K e65 o8 n63
  have o6 := ob_wR o6 e65
  have o8 := ob_wR o8 e65
  have o16 := ob_wR o16 e65
  have o24 := ob_wR o24 e65
  have o32 := ob_wR o32 e65
  have o40 := ob_wR o40 e65
  have o48 := ob_wR o48 e65
  have o56 := ob_wR o56 e65
  have o64 := ob_wR o64 e65
  intro x68 e67
  have h := h x68 e67
  intro x70 e69
  have h := h x70 e69
  have n71 := kj9_nf K e67
  have K := kj9_W K e67 e69
  have o6 := gr_ob (gr_of_new e69 e67) o6
  have o8 := gr_ob (gr_of_new e69 e67) o8
  have o16 := gr_ob (gr_of_new e69 e67) o16
  have o24 := gr_ob (gr_of_new e69 e67) o24
  have o32 := gr_ob (gr_of_new e69 e67) o32
  have o40 := gr_ob (gr_of_new e69 e67) o40
  have o48 := gr_ob (gr_of_new e69 e67) o48
  have o56 := gr_ob (gr_of_new e69 e67) o56
  have o64 := gr_ob (gr_of_new e69 e67) o64
  have o72 := ob_of_new e69
  intro x74 e73
  have h := h x74 e73
  have K := kj9_S K e73 o8 n71
  have o6 := ob_wR o6 e73
  have o8 := ob_wR o8 e73
  have o16 := ob_wR o16 e73
  have o24 := ob_wR o24 e73
  have o32 := ob_wR o32 e73
  have o40 := ob_wR o40 e73
  have o48 := ob_wR o48 e73
  have o56 := ob_wR o56 e73
  have o64 := ob_wR o64 e73
  have o72 := ob_wR o72 e73
  intro x76 e75
  have h := h x76 e75
  intro x78 e77
  have h := h x78 e77
  have n79 := kj9_nf K e75
  have K := kj9_W K e75 e77
  have o6 := gr_ob (gr_of_new e77 e75) o6
  have o8 := gr_ob (gr_of_new e77 e75) o8
  have o16 := gr_ob (gr_of_new e77 e75) o16
  have o24 := gr_ob (gr_of_new e77 e75) o24
  have o32 := gr_ob (gr_of_new e77 e75) o32
  have o40 := gr_ob (gr_of_new e77 e75) o40
  have o48 := gr_ob (gr_of_new e77 e75) o48
  have o56 := gr_ob (gr_of_new e77 e75) o56
  have o64 := gr_ob (gr_of_new e77 e75) o64
  have o72 := gr_ob (gr_of_new e77 e75) o72
  have o80 := ob_of_new e77
  intro x82 e81
  have h := h x82 e81
  have K := kj9_S K e81 o8 n79
  have o6 := ob_wR o6 e81
  have o8 := ob_wR o8 e81
  have o16 := ob_wR o16 e81
  have o24 := ob_wR o24 e81
  have o32 := ob_wR o32 e81
  have o40 := ob_wR o40 e81
  have o48 := ob_wR o48 e81
  have o56 := ob_wR o56 e81
  have o64 := ob_wR o64 e81
  have o72 := ob_wR o72 e81
  have o80 := ob_wR o80 e81
  intro x84 e83
  have h := h x84 e83
  intro x86 e85
  have h := h x86 e85
  have n87 := kj9_nf K e83
  have K := kj9_W K e83 e85
  have o6 := gr_ob (gr_of_new e85 e83) o6
  have o8 := gr_ob (gr_of_new e85 e83) o8
  have o16 := gr_ob (gr_of_new e85 e83) o16
  have o24 := gr_ob (gr_of_new e85 e83) o24
  have o32 := gr_ob (gr_of_new e85 e83) o32
  have o40 := gr_ob (gr_of_new e85 e83) o40
  have o48 := gr_ob (gr_of_new e85 e83) o48
  have o56 := gr_ob (gr_of_new e85 e83) o56
  have o64 := gr_ob (gr_of_new e85 e83) o64
  have o72 := gr_ob (gr_of_new e85 e83) o72
  have o80 := gr_ob (gr_of_new e85 e83) o80
  have o88 := ob_of_new e85
  intro x90 e89
  have h := h x90 e89
  have K := kj9_S K e89 o8 n87
  have o6 := ob_wR o6 e89
  have o8 := ob_wR o8 e89
  have o16 := ob_wR o16 e89
  have o24 := ob_wR o24 e89
  have o32 := ob_wR o32 e89
  have o40 := ob_wR o40 e89
  have o48 := ob_wR o48 e89
  have o56 := ob_wR o56 e89
  have o64 := ob_wR o64 e89
  have o72 := ob_wR o72 e89
  have o80 := ob_wR o80 e89
  have o88 := ob_wR o88 e89
  intro x92 e91
  have h := h x92 e91
  intro x94 e93
  have h := h x94 e93
  have n95 := kj9_nf K e91
  have K := kj9_W K e91 e93
  have o6 := gr_ob (gr_of_new e93 e91) o6
  have o8 := gr_ob (gr_of_new e93 e91) o8
  have o16 := gr_ob (gr_of_new e93 e91) o16
  have o24 := gr_ob (gr_of_new e93 e91) o24
  have o32 := gr_ob (gr_of_new e93 e91) o32
  have o40 := gr_ob (gr_of_new e93 e91) o40
  have o48 := gr_ob (gr_of_new e93 e91) o48
  have o56 := gr_ob (gr_of_new e93 e91) o56
  have o64 := gr_ob (gr_of_new e93 e91) o64
  have o72 := gr_ob (gr_of_new e93 e91) o72
  have o80 := gr_ob (gr_of_new e93 e91) o80
  have o88 := gr_ob (gr_of_new e93 e91) o88
  have o96 := ob_of_new e93
  intro x98 e97
  have h := h x98 e97
  have K := kj9_S K e97 o8 n95
  have o6 := ob_wR o6 e97
  have o8 := ob_wR o8 e97
  have o16 := ob_wR o16 e97
  have o24 := ob_wR o24 e97
  have o32 := ob_wR o32 e97
  have o40 := ob_wR o40 e97
  have o48 := ob_wR o48 e97
  have o56 := ob_wR o56 e97
  have o64 := ob_wR o64 e97
  have o72 := ob_wR o72 e97
  have o80 := ob_wR o80 e97
  have o88 := ob_wR o88 e97
  have o96 := ob_wR o96 e97
  intro x100 e99
  have h := h x100 e99
  intro x102 e101
  have h := h x102 e101
  have n103 := kj9_nf K e99
  have K := kj9_W K e99 e101
  have o6 := gr_ob (gr_of_new e101 e99) o6
  have o8 := gr_ob (gr_of_new e101 e99) o8
  have o16 := gr_ob (gr_of_new e101 e99) o16
  have o24 := gr_ob (gr_of_new e101 e99) o24
  have o32 := gr_ob (gr_of_new e101 e99) o32
  have o40 := gr_ob (gr_of_new e101 e99) o40
  have o48 := gr_ob (gr_of_new e101 e99) o48
  have o56 := gr_ob (gr_of_new e101 e99) o56
  have o64 := gr_ob (gr_of_new e101 e99) o64
  have o72 := gr_ob (gr_of_new e101 e99) o72
  have o80 := gr_ob (gr_of_new e101 e99) o80
  have o88 := gr_ob (gr_of_new e101 e99) o88
  have o96 := gr_ob (gr_of_new e101 e99) o96
  have o104 := ob_of_new e101
  intro x106 e105
  have h := h x106 e105
  have K := kj9_S K e105 o8 n103
  have o6 := ob_wR o6 e105
  have o8 := ob_wR o8 e105
  have o16 := ob_wR o16 e105
  have o24 := ob_wR o24 e105
  have o32 := ob_wR o32 e105
  have o40 := ob_wR o40 e105
  have o48 := ob_wR o48 e105
  have o56 := ob_wR o56 e105
  have o64 := ob_wR o64 e105
  have o72 := ob_wR o72 e105
  have o80 := ob_wR o80 e105
  have o88 := ob_wR o88 e105
  have o96 := ob_wR o96 e105
  have o104 := ob_wR o104 e105
  intro x108 e107
  have h := h x108 e107
  intro x110 e109
  have h := h x110 e109
  have n111 := kj9_nf K e107
  have K := kj9_W K e107 e109
  have o6 := gr_ob (gr_of_new e109 e107) o6
  have o8 := gr_ob (gr_of_new e109 e107) o8
  have o16 := gr_ob (gr_of_new e109 e107) o16
  have o24 := gr_ob (gr_of_new e109 e107) o24
  have o32 := gr_ob (gr_of_new e109 e107) o32
  have o40 := gr_ob (gr_of_new e109 e107) o40
  have o48 := gr_ob (gr_of_new e109 e107) o48
  have o56 := gr_ob (gr_of_new e109 e107) o56
  have o64 := gr_ob (gr_of_new e109 e107) o64
  have o72 := gr_ob (gr_of_new e109 e107) o72
  have o80 := gr_ob (gr_of_new e109 e107) o80
  have o88 := gr_ob (gr_of_new e109 e107) o88
  have o96 := gr_ob (gr_of_new e109 e107) o96
  have o104 := gr_ob (gr_of_new e109 e107) o104
  have o112 := ob_of_new e109
  intro x114 e113
  have h := h x114 e113
  have K := kj9_S K e113 o8 n111
  have o6 := ob_wR o6 e113
  have o8 := ob_wR o8 e113
  have o16 := ob_wR o16 e113
  have o24 := ob_wR o24 e113
  have o32 := ob_wR o32 e113
  have o40 := ob_wR o40 e113
  have o48 := ob_wR o48 e113
  have o56 := ob_wR o56 e113
  have o64 := ob_wR o64 e113
  have o72 := ob_wR o72 e113
  have o80 := ob_wR o80 e113
  have o88 := ob_wR o88 e113
  have o96 := ob_wR o96 e113
  have o104 := ob_wR o104 e113
  have o112 := ob_wR o112 e113
  intro x116 e115
  have h := h x116 e115
  intro x118 e117
  have h := h x118 e117
  have n119 := kj9_nf K e115
  have K := kj9_W K e115 e117
  have o6 := gr_ob (gr_of_new e117 e115) o6
  have o8 := gr_ob (gr_of_new e117 e115) o8
  have o16 := gr_ob (gr_of_new e117 e115) o16
  have o24 := gr_ob (gr_of_new e117 e115) o24
  have o32 := gr_ob (gr_of_new e117 e115) o32
  have o40 := gr_ob (gr_of_new e117 e115) o40
  have o48 := gr_ob (gr_of_new e117 e115) o48
  have o56 := gr_ob (gr_of_new e117 e115) o56
  have o64 := gr_ob (gr_of_new e117 e115) o64
  have o72 := gr_ob (gr_of_new e117 e115) o72
  have o80 := gr_ob (gr_of_new e117 e115) o80
  have o88 := gr_ob (gr_of_new e117 e115) o88
  have o96 := gr_ob (gr_of_new e117 e115) o96
  have o104 := gr_ob (gr_of_new e117 e115) o104
  have o112 := gr_ob (gr_of_new e117 e115) o112
  have o120 := ob_of_new e117
  intro x122 e121
  have h := h x122 e121
  have K := kj9_S K e121 o8 n119
  have o6 := ob_wR o6 e121
  have o8 := ob_wR o8 e121
  have o16 := ob_wR o16 e121
  have o24 := ob_wR o24 e121
  have o32 := ob_wR o32 e121
  have o40 := ob_wR o40 e121
  have o48 := ob_wR o48 e121
  have o56 := ob_wR o56 e121
  have o64 := ob_wR o64 e121
  have o72 := ob_wR o72 e121
  have o80 := ob_wR o80 e121
  have o88 := ob_wR o88 e121
  have o96 := ob_wR o96 e121
  have o104 := ob_wR o104 e121
  have o112 := ob_wR o112 e121
  have o120 := ob_wR o120 e121
  intro x124 e123
  have h := h x124 e123
  intro x126 e125
  have h := h x126 e125
  have n127 := kj9_nf K e123
  have K := kj9_W K e123 e125
  have o6 := gr_ob (gr_of_new e125 e123) o6
  have o8 := gr_ob (gr_of_new e125 e123) o8
  have o16 := gr_ob (gr_of_new e125 e123) o16
  have o24 := gr_ob (gr_of_new e125 e123) o24
  have o32 := gr_ob (gr_of_new e125 e123) o32
  have o40 := gr_ob (gr_of_new e125 e123) o40
  have o48 := gr_ob (gr_of_new e125 e123) o48
  have o56 := gr_ob (gr_of_new e125 e123) o56
  have o64 := gr_ob (gr_of_new e125 e123) o64
  have o72 := gr_ob (gr_of_new e125 e123) o72
  have o80 := gr_ob (gr_of_new e125 e123) o80
  have o88 := gr_ob (gr_of_new e125 e123) o88
  have o96 := gr_ob (gr_of_new e125 e123) o96
  have o104 := gr_ob (gr_of_new e125 e123) o104
  have o112 := gr_ob (gr_of_new e125 e123) o112
  have o120 := gr_ob (gr_of_new e125 e123) o120
  have o128 := ob_of_new e125
  intro x130 e129
  have h := h x130 e129
  have K := kj9_S K e129 o8 n127
  have o6 := ob_wR o6 e129
  have o8 := ob_wR o8 e129
  have o16 := ob_wR o16 e129
  have o24 := ob_wR o24 e129
  have o32 := ob_wR o32 e129
  have o40 := ob_wR o40 e129
  have o48 := ob_wR o48 e129
  have o56 := ob_wR o56 e129
  have o64 := ob_wR o64 e129
  have o72 := ob_wR o72 e129
  have o80 := ob_wR o80 e129
  have o88 := ob_wR o88 e129
  have o96 := ob_wR o96 e129
  have o104 := ob_wR o104 e129
  have o112 := ob_wR o112 e129
  have o120 := ob_wR o120 e129
  have o128 := ob_wR o128 e129
  intro x132 e131
  have h := h x132 e131
  intro x134 e133
  have h := h x134 e133
  have n135 := kj9_nf K e131
  have K := kj9_W K e131 e133
  have o6 := gr_ob (gr_of_new e133 e131) o6
  have o8 := gr_ob (gr_of_new e133 e131) o8
  have o16 := gr_ob (gr_of_new e133 e131) o16
  have o24 := gr_ob (gr_of_new e133 e131) o24
  have o32 := gr_ob (gr_of_new e133 e131) o32
  have o40 := gr_ob (gr_of_new e133 e131) o40
  have o48 := gr_ob (gr_of_new e133 e131) o48
  have o56 := gr_ob (gr_of_new e133 e131) o56
  have o64 := gr_ob (gr_of_new e133 e131) o64
  have o72 := gr_ob (gr_of_new e133 e131) o72
  have o80 := gr_ob (gr_of_new e133 e131) o80
  have o88 := gr_ob (gr_of_new e133 e131) o88
  have o96 := gr_ob (gr_of_new e133 e131) o96
  have o104 := gr_ob (gr_of_new e133 e131) o104
  have o112 := gr_ob (gr_of_new e133 e131) o112
  have o120 := gr_ob (gr_of_new e133 e131) o120
  have o128 := gr_ob (gr_of_new e133 e131) o128
  have o136 := ob_of_new e133
  intro x138 e137
  have h := h x138 e137
  have K := kj9_S K e137 o8 n135
  have o6 := ob_wR o6 e137
  have o8 := ob_wR o8 e137
  have o16 := ob_wR o16 e137
  have o24 := ob_wR o24 e137
  have o32 := ob_wR o32 e137
  have o40 := ob_wR o40 e137
  have o48 := ob_wR o48 e137
  have o56 := ob_wR o56 e137
  have o64 := ob_wR o64 e137
  have o72 := ob_wR o72 e137
  have o80 := ob_wR o80 e137
  have o88 := ob_wR o88 e137
  have o96 := ob_wR o96 e137
  have o104 := ob_wR o104 e137
  have o112 := ob_wR o112 e137
  have o120 := ob_wR o120 e137
  have o128 := ob_wR o128 e137
  have o136 := ob_wR o136 e137
  intro x140 e139
  have h := h x140 e139
  intro x142 e141
  have h := h x142 e141
  have n143 := kj9_nf K e139
  have K := kj9_W K e139 e141
  have o6 := gr_ob (gr_of_new e141 e139) o6
  have o8 := gr_ob (gr_of_new e141 e139) o8
  have o16 := gr_ob (gr_of_new e141 e139) o16
  have o24 := gr_ob (gr_of_new e141 e139) o24
  have o32 := gr_ob (gr_of_new e141 e139) o32
  have o40 := gr_ob (gr_of_new e141 e139) o40
  have o48 := gr_ob (gr_of_new e141 e139) o48
  have o56 := gr_ob (gr_of_new e141 e139) o56
  have o64 := gr_ob (gr_of_new e141 e139) o64
  have o72 := gr_ob (gr_of_new e141 e139) o72
  have o80 := gr_ob (gr_of_new e141 e139) o80
  have o88 := gr_ob (gr_of_new e141 e139) o88
  have o96 := gr_ob (gr_of_new e141 e139) o96
  have o104 := gr_ob (gr_of_new e141 e139) o104
  have o112 := gr_ob (gr_of_new e141 e139) o112
  have o120 := gr_ob (gr_of_new e141 e139) o120
  have o128 := gr_ob (gr_of_new e141 e139) o128
  have o136 := gr_ob (gr_of_new e141 e139) o136
  have o144 := ob_of_new e141
  intro x146 e145
  have h := h x146 e145
  have K := kj9_S K e145 o8 n143
  have o6 := ob_wR o6 e145
  have o8 := ob_wR o8 e145
  have o16 := ob_wR o16 e145
  have o24 := ob_wR o24 e145
  have o32 := ob_wR o32 e145
  have o40 := ob_wR o40 e145
  have o48 := ob_wR o48 e145
  have o56 := ob_wR o56 e145
  have o64 := ob_wR o64 e145
  have o72 := ob_wR o72 e145
  have o80 := ob_wR o80 e145
  have o88 := ob_wR o88 e145
  have o96 := ob_wR o96 e145
  have o104 := ob_wR o104 e145
  have o112 := ob_wR o112 e145
  have o120 := ob_wR o120 e145
  have o128 := ob_wR o128 e145
  have o136 := ob_wR o136 e145
  have o144 := ob_wR o144 e145
  intro x148 e147
  have h := h x148 e147
  intro x150 e149
  have h := h x150 e149
  have n151 := kj9_nf K e147
  have K := kj9_W K e147 e149
  have o6 := gr_ob (gr_of_new e149 e147) o6
  have o8 := gr_ob (gr_of_new e149 e147) o8
  have o16 := gr_ob (gr_of_new e149 e147) o16
  have o24 := gr_ob (gr_of_new e149 e147) o24
  have o32 := gr_ob (gr_of_new e149 e147) o32
  have o40 := gr_ob (gr_of_new e149 e147) o40
  have o48 := gr_ob (gr_of_new e149 e147) o48
  have o56 := gr_ob (gr_of_new e149 e147) o56
  have o64 := gr_ob (gr_of_new e149 e147) o64
  have o72 := gr_ob (gr_of_new e149 e147) o72
  have o80 := gr_ob (gr_of_new e149 e147) o80
  have o88 := gr_ob (gr_of_new e149 e147) o88
  have o96 := gr_ob (gr_of_new e149 e147) o96
  have o104 := gr_ob (gr_of_new e149 e147) o104
  have o112 := gr_ob (gr_of_new e149 e147) o112
  have o120 := gr_ob (gr_of_new e149 e147) o120
  have o128 := gr_ob (gr_of_new e149 e147) o128
  have o136 := gr_ob (gr_of_new e149 e147) o136
  have o144 := gr_ob (gr_of_new e149 e147) o144
  have o152 := ob_of_new e149
  intro x154 e153
  have h := h x154 e153
  have K := kj9_S K e153 o8 n151
  have o6 := ob_wR o6 e153
  have o8 := ob_wR o8 e153
  have o16 := ob_wR o16 e153
  have o24 := ob_wR o24 e153
  have o32 := ob_wR o32 e153
  have o40 := ob_wR o40 e153
  have o48 := ob_wR o48 e153
  have o56 := ob_wR o56 e153
  have o64 := ob_wR o64 e153
  have o72 := ob_wR o72 e153
  have o80 := ob_wR o80 e153
  have o88 := ob_wR o88 e153
  have o96 := ob_wR o96 e153
  have o104 := ob_wR o104 e153
  have o112 := ob_wR o112 e153
  have o120 := ob_wR o120 e153
  have o128 := ob_wR o128 e153
  have o136 := ob_wR o136 e153
  have o144 := ob_wR o144 e153
  have o152 := ob_wR o152 e153
  intro x156 e155
  have h := h x156 e155
  intro x158 e157
  have h := h x158 e157
  have n159 := kj9_nf K e155
  have K := kj9_W K e155 e157
  have o6 := gr_ob (gr_of_new e157 e155) o6
  have o8 := gr_ob (gr_of_new e157 e155) o8
  have o16 := gr_ob (gr_of_new e157 e155) o16
  have o24 := gr_ob (gr_of_new e157 e155) o24
  have o32 := gr_ob (gr_of_new e157 e155) o32
  have o40 := gr_ob (gr_of_new e157 e155) o40
  have o48 := gr_ob (gr_of_new e157 e155) o48
  have o56 := gr_ob (gr_of_new e157 e155) o56
  have o64 := gr_ob (gr_of_new e157 e155) o64
  have o72 := gr_ob (gr_of_new e157 e155) o72
  have o80 := gr_ob (gr_of_new e157 e155) o80
  have o88 := gr_ob (gr_of_new e157 e155) o88
  have o96 := gr_ob (gr_of_new e157 e155) o96
  have o104 := gr_ob (gr_of_new e157 e155) o104
  have o112 := gr_ob (gr_of_new e157 e155) o112
  have o120 := gr_ob (gr_of_new e157 e155) o120
  have o128 := gr_ob (gr_of_new e157 e155) o128
  have o136 := gr_ob (gr_of_new e157 e155) o136
  have o144 := gr_ob (gr_of_new e157 e155) o144
  have o152 := gr_ob (gr_of_new e157 e155) o152
  have o160 := ob_of_new e157
  intro x162 e161
  have h := h x162 e161
  have K := kj9_S K e161 o8 n159
  have o6 := ob_wR o6 e161
  have o8 := ob_wR o8 e161
  have o16 := ob_wR o16 e161
  have o24 := ob_wR o24 e161
  have o32 := ob_wR o32 e161
  have o40 := ob_wR o40 e161
  have o48 := ob_wR o48 e161
  have o56 := ob_wR o56 e161
  have o64 := ob_wR o64 e161
  have o72 := ob_wR o72 e161
  have o80 := ob_wR o80 e161
  have o88 := ob_wR o88 e161
  have o96 := ob_wR o96 e161
  have o104 := ob_wR o104 e161
  have o112 := ob_wR o112 e161
  have o120 := ob_wR o120 e161
  have o128 := ob_wR o128 e161
  have o136 := ob_wR o136 e161
  have o144 := ob_wR o144 e161
  have o152 := ob_wR o152 e161
  have o160 := ob_wR o160 e161
  intro x164 e163
  have h := h x164 e163
  intro x166 e165
  have h := h x166 e165
  have n167 := kj9_nf K e163
  have K := kj9_W K e163 e165
  have o6 := gr_ob (gr_of_new e165 e163) o6
  have o8 := gr_ob (gr_of_new e165 e163) o8
  have o16 := gr_ob (gr_of_new e165 e163) o16
  have o24 := gr_ob (gr_of_new e165 e163) o24
  have o32 := gr_ob (gr_of_new e165 e163) o32
  have o40 := gr_ob (gr_of_new e165 e163) o40
  have o48 := gr_ob (gr_of_new e165 e163) o48
  have o56 := gr_ob (gr_of_new e165 e163) o56
  have o64 := gr_ob (gr_of_new e165 e163) o64
  have o72 := gr_ob (gr_of_new e165 e163) o72
  have o80 := gr_ob (gr_of_new e165 e163) o80
  have o88 := gr_ob (gr_of_new e165 e163) o88
  have o96 := gr_ob (gr_of_new e165 e163) o96
  have o104 := gr_ob (gr_of_new e165 e163) o104
  have o112 := gr_ob (gr_of_new e165 e163) o112
  have o120 := gr_ob (gr_of_new e165 e163) o120
  have o128 := gr_ob (gr_of_new e165 e163) o128
  have o136 := gr_ob (gr_of_new e165 e163) o136
  have o144 := gr_ob (gr_of_new e165 e163) o144
  have o152 := gr_ob (gr_of_new e165 e163) o152
  have o160 := gr_ob (gr_of_new e165 e163) o160
  have o168 := ob_of_new e165
  intro x170 e169
  have h := h x170 e169
  have K := kj9_S K e169 o8 n167
  have o6 := ob_wR o6 e169
  have o8 := ob_wR o8 e169
  have o16 := ob_wR o16 e169
  have o24 := ob_wR o24 e169
  have o32 := ob_wR o32 e169
  have o40 := ob_wR o40 e169
  have o48 := ob_wR o48 e169
  have o56 := ob_wR o56 e169
  have o64 := ob_wR o64 e169
  have o72 := ob_wR o72 e169
  have o80 := ob_wR o80 e169
  have o88 := ob_wR o88 e169
  have o96 := ob_wR o96 e169
  have o104 := ob_wR o104 e169
  have o112 := ob_wR o112 e169
  have o120 := ob_wR o120 e169
  have o128 := ob_wR o128 e169
  have o136 := ob_wR o136 e169
  have o144 := ob_wR o144 e169
  have o152 := ob_wR o152 e169
  have o160 := ob_wR o160 e169
  have o168 := ob_wR o168 e169
  intro x172 e171
  have h := h x172 e171
  intro x174 e173
  have h := h x174 e173
  have n175 := kj9_nf K e171
  have K := kj9_W K e171 e173
  have o6 := gr_ob (gr_of_new e173 e171) o6
  have o8 := gr_ob (gr_of_new e173 e171) o8
  have o16 := gr_ob (gr_of_new e173 e171) o16
  have o24 := gr_ob (gr_of_new e173 e171) o24
  have o32 := gr_ob (gr_of_new e173 e171) o32
  have o40 := gr_ob (gr_of_new e173 e171) o40
  have o48 := gr_ob (gr_of_new e173 e171) o48
  have o56 := gr_ob (gr_of_new e173 e171) o56
  have o64 := gr_ob (gr_of_new e173 e171) o64
  have o72 := gr_ob (gr_of_new e173 e171) o72
  have o80 := gr_ob (gr_of_new e173 e171) o80
  have o88 := gr_ob (gr_of_new e173 e171) o88
  have o96 := gr_ob (gr_of_new e173 e171) o96
  have o104 := gr_ob (gr_of_new e173 e171) o104
  have o112 := gr_ob (gr_of_new e173 e171) o112
  have o120 := gr_ob (gr_of_new e173 e171) o120
  have o128 := gr_ob (gr_of_new e173 e171) o128
  have o136 := gr_ob (gr_of_new e173 e171) o136
  have o144 := gr_ob (gr_of_new e173 e171) o144
  have o152 := gr_ob (gr_of_new e173 e171) o152
  have o160 := gr_ob (gr_of_new e173 e171) o160
  have o168 := gr_ob (gr_of_new e173 e171) o168
  have o176 := ob_of_new e173
  intro x178 e177
  have h := h x178 e177
  have K := kj9_R K hU e177 o8 (by decide)
  have o6 := ob_wR o6 e177
  have o8 := ob_wR o8 e177
  have o16 := ob_wR o16 e177
  have o24 := ob_wR o24 e177
  have o32 := ob_wR o32 e177
  have o40 := ob_wR o40 e177
  have o48 := ob_wR o48 e177
  have o56 := ob_wR o56 e177
  have o64 := ob_wR o64 e177
  have o72 := ob_wR o72 e177
  have o80 := ob_wR o80 e177
  have o88 := ob_wR o88 e177
  have o96 := ob_wR o96 e177
  have o104 := ob_wR o104 e177
  have o112 := ob_wR o112 e177
  have o120 := ob_wR o120 e177
  have o128 := ob_wR o128 e177
  have o136 := ob_wR o136 e177
  have o144 := ob_wR o144 e177
  have o152 := ob_wR o152 e177
  have o160 := ob_wR o160 e177
  have o168 := ob_wR o168 e177
  have o176 := ob_wR o176 e177
  intro x180 e179
  have h := h x180 e179
  intro x182 e181
  have h := h x182 e181
  have n183 := kj9_nf K e179
  have K := kj9_W K e179 e181
  have o6 := gr_ob (gr_of_new e181 e179) o6
  have o8 := gr_ob (gr_of_new e181 e179) o8
  have o16 := gr_ob (gr_of_new e181 e179) o16
  have o24 := gr_ob (gr_of_new e181 e179) o24
  have o32 := gr_ob (gr_of_new e181 e179) o32
  have o40 := gr_ob (gr_of_new e181 e179) o40
  have o48 := gr_ob (gr_of_new e181 e179) o48
  have o56 := gr_ob (gr_of_new e181 e179) o56
  have o64 := gr_ob (gr_of_new e181 e179) o64
  have o72 := gr_ob (gr_of_new e181 e179) o72
  have o80 := gr_ob (gr_of_new e181 e179) o80
  have o88 := gr_ob (gr_of_new e181 e179) o88
  have o96 := gr_ob (gr_of_new e181 e179) o96
  have o104 := gr_ob (gr_of_new e181 e179) o104
  have o112 := gr_ob (gr_of_new e181 e179) o112
  have o120 := gr_ob (gr_of_new e181 e179) o120
  have o128 := gr_ob (gr_of_new e181 e179) o128
  have o136 := gr_ob (gr_of_new e181 e179) o136
  have o144 := gr_ob (gr_of_new e181 e179) o144
  have o152 := gr_ob (gr_of_new e181 e179) o152
  have o160 := gr_ob (gr_of_new e181 e179) o160
  have o168 := gr_ob (gr_of_new e181 e179) o168
  have o176 := gr_ob (gr_of_new e181 e179) o176
  have o184 := ob_of_new e181
  intro x186 e185
  have h := h x186 e185
  have K := kj9_S K e185 o8 n183
  have o6 := ob_wR o6 e185
  have o8 := ob_wR o8 e185
  have o16 := ob_wR o16 e185
  have o24 := ob_wR o24 e185
  have o32 := ob_wR o32 e185
  have o40 := ob_wR o40 e185
  have o48 := ob_wR o48 e185
  have o56 := ob_wR o56 e185
  have o64 := ob_wR o64 e185
  have o72 := ob_wR o72 e185
  have o80 := ob_wR o80 e185
  have o88 := ob_wR o88 e185
  have o96 := ob_wR o96 e185
  have o104 := ob_wR o104 e185
  have o112 := ob_wR o112 e185
  have o120 := ob_wR o120 e185
  have o128 := ob_wR o128 e185
  have o136 := ob_wR o136 e185
  have o144 := ob_wR o144 e185
  have o152 := ob_wR o152 e185
  have o160 := ob_wR o160 e185
  have o168 := ob_wR o168 e185
  have o176 := ob_wR o176 e185
  have o184 := ob_wR o184 e185
  intro x188 e187
  have h := h x188 e187
  intro x190 e189
  have h := h x190 e189
  have n191 := kj9_nf K e187
  have K := kj9_W K e187 e189
  have o6 := gr_ob (gr_of_new e189 e187) o6
  have o8 := gr_ob (gr_of_new e189 e187) o8
  have o16 := gr_ob (gr_of_new e189 e187) o16
  have o24 := gr_ob (gr_of_new e189 e187) o24
  have o32 := gr_ob (gr_of_new e189 e187) o32
  have o40 := gr_ob (gr_of_new e189 e187) o40
  have o48 := gr_ob (gr_of_new e189 e187) o48
  have o56 := gr_ob (gr_of_new e189 e187) o56
  have o64 := gr_ob (gr_of_new e189 e187) o64
  have o72 := gr_ob (gr_of_new e189 e187) o72
  have o80 := gr_ob (gr_of_new e189 e187) o80
  have o88 := gr_ob (gr_of_new e189 e187) o88
  have o96 := gr_ob (gr_of_new e189 e187) o96
  have o104 := gr_ob (gr_of_new e189 e187) o104
  have o112 := gr_ob (gr_of_new e189 e187) o112
  have o120 := gr_ob (gr_of_new e189 e187) o120
  have o128 := gr_ob (gr_of_new e189 e187) o128
  have o136 := gr_ob (gr_of_new e189 e187) o136
  have o144 := gr_ob (gr_of_new e189 e187) o144
  have o152 := gr_ob (gr_of_new e189 e187) o152
  have o160 := gr_ob (gr_of_new e189 e187) o160
  have o168 := gr_ob (gr_of_new e189 e187) o168
  have o176 := gr_ob (gr_of_new e189 e187) o176
  have o184 := gr_ob (gr_of_new e189 e187) o184
  have o192 := ob_of_new e189
  intro x194 e193
  have h := h x194 e193
  have K := kj9_S K e193 o8 n191
  have o6 := ob_wR o6 e193
  have o8 := ob_wR o8 e193
  have o16 := ob_wR o16 e193
  have o24 := ob_wR o24 e193
  have o32 := ob_wR o32 e193
  have o40 := ob_wR o40 e193
  have o48 := ob_wR o48 e193
  have o56 := ob_wR o56 e193
  have o64 := ob_wR o64 e193
  have o72 := ob_wR o72 e193
  have o80 := ob_wR o80 e193
  have o88 := ob_wR o88 e193
  have o96 := ob_wR o96 e193
  have o104 := ob_wR o104 e193
  have o112 := ob_wR o112 e193
  have o120 := ob_wR o120 e193
  have o128 := ob_wR o128 e193
  have o136 := ob_wR o136 e193
  have o144 := ob_wR o144 e193
  have o152 := ob_wR o152 e193
  have o160 := ob_wR o160 e193
  have o168 := ob_wR o168 e193
  have o176 := ob_wR o176 e193
  have o184 := ob_wR o184 e193
  have o192 := ob_wR o192 e193
  exact ⟨h, K⟩
theorem kj_X10_init {L : List (Nat × Nat)} (hU : ∀ q ∈ L, q ∈ njT) (hL : ∀ q ∈ kjL_X10_init, q ∈ L) {Q : HS → Prop} {v0 : Nat} {S : HS} (h : P_X10_init v0 Q S) : P_X10_init v0 (fun T => Q T ∧ KJ L S T) S := kj_X10_init_0 hU hL h (kj9_rf L S)
abbrev kjL_X10_minutes : List (Nat × Nat) := []
set_option maxRecDepth 20000 in
set_option maxHeartbeats 1000000 in
theorem kj_X10_minutes_0 {L : List (Nat × Nat)} (hU : ∀ q ∈ L, q ∈ njT) (hL : ∀ q ∈ kjL_X10_minutes, q ∈ L) {Q : Int32 → HS → Prop} {v0 : Nat} {v1 : Int32} {v2 : Int32} {S0 S : HS} (h : P_X10_minutes_0 Q v0 v1 v2 S) (K : KJ L S0 S) : P_X10_minutes_0 (fun r T => Q r T ∧ KJ L S0 T) v0 v1 v2 S := by
  delta P_X10_minutes_0 at h ⊢
  obtain ⟨c1, h⟩ := h
  refine ⟨c1, ?_⟩
  have o2 := c1
  obtain ⟨b3, e4, h⟩ := h
  refine ⟨b3, e4, ?_⟩
  obtain ⟨c5, h⟩ := h
  refine ⟨c5, ?_⟩
  obtain ⟨c6, h⟩ := h
  refine ⟨c6, ?_⟩
  intro x8 e7
  have h := h x8 e7
  obtain ⟨c9, h⟩ := h
  refine ⟨c9, ?_⟩
  intro x11 e10
  have h := h x11 e10
  exact ⟨h, K⟩
theorem kj_X10_minutes {L : List (Nat × Nat)} (hU : ∀ q ∈ L, q ∈ njT) (hL : ∀ q ∈ kjL_X10_minutes, q ∈ L) {Q : Int32 → HS → Prop} {v0 : Nat} {v1 : Int32} {v2 : Int32} {S : HS} (h : P_X10_minutes v0 v1 v2 Q S) : P_X10_minutes v0 v1 v2 (fun r T => Q r T ∧ KJ L S T) S := kj_X10_minutes_0 hU hL h (kj9_rf L S)
abbrev kjL_X10_shield : List (Nat × Nat) := []
set_option maxRecDepth 20000 in
set_option maxHeartbeats 1000000 in
theorem kj_X10_shield_0 {L : List (Nat × Nat)} (hU : ∀ q ∈ L, q ∈ njT) (hL : ∀ q ∈ kjL_X10_shield, q ∈ L) {Q : Int32 → HS → Prop} {v0 : Nat} {v1 : Int32} {S0 S : HS} (h : P_X10_shield_0 Q v0 v1 S) (K : KJ L S0 S) : P_X10_shield_0 (fun r T => Q r T ∧ KJ L S0 T) v0 v1 S := by
  delta P_X10_shield_0 at h ⊢
  obtain ⟨c1, h⟩ := h
  refine ⟨c1, ?_⟩
  have o2 := c1
  obtain ⟨b3, e4, h⟩ := h
  refine ⟨b3, e4, ?_⟩
  obtain ⟨c5, h⟩ := h
  refine ⟨c5, ?_⟩
  obtain ⟨c6, h⟩ := h
  refine ⟨c6, ?_⟩
  intro x8 e7
  have h := h x8 e7
  refine ⟨?_, ?_⟩
  · intro c9
    have h := h.1 c9
    exact ⟨h, K⟩
  · intro c10
    have h := h.2 c10
    obtain ⟨b11, e12, h⟩ := h
    refine ⟨b11, e12, ?_⟩
    obtain ⟨c13, h⟩ := h
    refine ⟨c13, ?_⟩
    obtain ⟨c14, h⟩ := h
    refine ⟨c14, ?_⟩
    intro x16 e15
    have h := h x16 e15
    exact ⟨h, K⟩
theorem kj_X10_shield {L : List (Nat × Nat)} (hU : ∀ q ∈ L, q ∈ njT) (hL : ∀ q ∈ kjL_X10_shield, q ∈ L) {Q : Int32 → HS → Prop} {v0 : Nat} {v1 : Int32} {S : HS} (h : P_X10_shield v0 v1 Q S) : P_X10_shield v0 v1 (fun r T => Q r T ∧ KJ L S T) S := kj_X10_shield_0 hU hL h (kj9_rf L S)
abbrev kjL_X11_good : List (Nat × Nat) := []
set_option maxRecDepth 20000 in
set_option maxHeartbeats 1000000 in
theorem kj_X11_good_0 {L : List (Nat × Nat)} (hU : ∀ q ∈ L, q ∈ njT) (hL : ∀ q ∈ kjL_X11_good, q ∈ L) {Q : Int32 → HS → Prop} {v0 : Nat} {v1 : Int32} {S0 S : HS} (h : P_X11_good_0 Q v0 v1 S) (K : KJ L S0 S) : P_X11_good_0 (fun r T => Q r T ∧ KJ L S0 T) v0 v1 S := by
  delta P_X11_good_0 at h ⊢
  obtain ⟨c1, h⟩ := h
  refine ⟨c1, ?_⟩
  have n2 := kj9_nk K c1 (by decide)
  intro x4 e3
  have h := h x4 e3
  have K := kj9_I K e3 n2
  intro x6 e5
  have h := h x6 e5
  have K := kj9_I K e5 n2
  exact ⟨h, K⟩
theorem kj_X11_good {L : List (Nat × Nat)} (hU : ∀ q ∈ L, q ∈ njT) (hL : ∀ q ∈ kjL_X11_good, q ∈ L) {Q : Int32 → HS → Prop} {v0 : Nat} {v1 : Int32} {S : HS} (h : P_X11_good v0 v1 Q S) : P_X11_good v0 v1 (fun r T => Q r T ∧ KJ L S T) S := kj_X11_good_0 hU hL h (kj9_rf L S)
abbrev kjL_X11_in : List (Nat × Nat) := []
set_option maxRecDepth 20000 in
set_option maxHeartbeats 1000000 in
theorem kj_X11_in_0 {L : List (Nat × Nat)} (hU : ∀ q ∈ L, q ∈ njT) (hL : ∀ q ∈ kjL_X11_in, q ∈ L) {Q : Int32 → HS → Prop} {v0 : Int32} {v1 : Int32} {v2 : Int32} {S0 S : HS} (h : P_X11_in_0 Q v0 v1 v2 S) (K : KJ L S0 S) : P_X11_in_0 (fun r T => Q r T ∧ KJ L S0 T) v0 v1 v2 S := by
  delta P_X11_in_0 at h ⊢
  refine ⟨?_, ?_⟩
  · intro c1
    have h := h.1 c1
    exact ⟨h, K⟩
  · intro c2
    have h := h.2 c2
    refine ⟨?_, ?_⟩
    · intro c3
      have h := h.1 c3
      exact ⟨h, K⟩
    · intro c4
      have h := h.2 c4
      exact ⟨h, K⟩
theorem kj_X11_in {L : List (Nat × Nat)} (hU : ∀ q ∈ L, q ∈ njT) (hL : ∀ q ∈ kjL_X11_in, q ∈ L) {Q : Int32 → HS → Prop} {v0 : Int32} {v1 : Int32} {v2 : Int32} {S : HS} (h : P_X11_in v0 v1 v2 Q S) : P_X11_in v0 v1 v2 (fun r T => Q r T ∧ KJ L S T) S := kj_X11_in_0 hU hL h (kj9_rf L S)
abbrev kjL_X11_isHour : List (Nat × Nat) := []
set_option maxRecDepth 20000 in
set_option maxHeartbeats 1000000 in
theorem kj_X11_isHour_0 {L : List (Nat × Nat)} (hU : ∀ q ∈ L, q ∈ njT) (hL : ∀ q ∈ kjL_X11_isHour, q ∈ L) {Q : Int32 → HS → Prop} {v0 : Nat} {v1 : Int32} {S0 S : HS} (h : P_X11_isHour_0 Q v0 v1 S) (K : KJ L S0 S) : P_X11_isHour_0 (fun r T => Q r T ∧ KJ L S0 T) v0 v1 S := by
  delta P_X11_isHour_0 at h ⊢
  obtain ⟨c1, h⟩ := h
  refine ⟨c1, ?_⟩
  have o2 := c1
  refine ⟨?_, ?_⟩
  · intro c3
    have h := h.1 c3
    exact ⟨h, K⟩
  · intro x4 c5
    have h := h.2 x4 c5
    refine ⟨?_, ?_⟩
    · intro c6
      have h := h.1 c6
      exact ⟨h, K⟩
    · intro c7
      have h := h.2 c7
      obtain ⟨b8, e9, h⟩ := h
      refine ⟨b8, e9, ?_⟩
      obtain ⟨c10, h⟩ := h
      refine ⟨c10, ?_⟩
      intro x12 e11
      have h := h x12 e11
      refine ⟨?_, ?_⟩
      · intro c13
        have h := h.1 c13
        exact ⟨h, K⟩
      · intro c14
        have h := h.2 c14
        exact ⟨h, K⟩
theorem kj_X11_isHour {L : List (Nat × Nat)} (hU : ∀ q ∈ L, q ∈ njT) (hL : ∀ q ∈ kjL_X11_isHour, q ∈ L) {Q : Int32 → HS → Prop} {v0 : Nat} {v1 : Int32} {S : HS} (h : P_X11_isHour v0 v1 Q S) : P_X11_isHour v0 v1 (fun r T => Q r T ∧ KJ L S T) S := kj_X11_isHour_0 hU hL h (kj9_rf L S)
abbrev kjL_X11_isRoad : List (Nat × Nat) := []
set_option maxRecDepth 20000 in
set_option maxHeartbeats 1000000 in
theorem kj_X11_isRoad_0 {L : List (Nat × Nat)} (hU : ∀ q ∈ L, q ∈ njT) (hL : ∀ q ∈ kjL_X11_isRoad, q ∈ L) {Q : Int32 → HS → Prop} {v0 : Nat} {v1 : Int32} {S0 S : HS} (h : P_X11_isRoad_0 Q v0 v1 S) (K : KJ L S0 S) : P_X11_isRoad_0 (fun r T => Q r T ∧ KJ L S0 T) v0 v1 S := by
  delta P_X11_isRoad_0 at h ⊢
  obtain ⟨c1, h⟩ := h
  refine ⟨c1, ?_⟩
  have o2 := c1
  refine ⟨?_, ?_⟩
  · intro c3
    have h := h.1 c3
    exact ⟨h, K⟩
  · intro x4 c5
    have h := h.2 x4 c5
    refine ⟨?_, ?_⟩
    · intro c6
      have h := h.1 c6
      exact ⟨h, K⟩
    · intro c7
      have h := h.2 c7
      obtain ⟨b8, e9, h⟩ := h
      refine ⟨b8, e9, ?_⟩
      obtain ⟨c10, h⟩ := h
      refine ⟨c10, ?_⟩
      intro x12 e11
      have h := h x12 e11
      refine ⟨?_, ?_⟩
      · intro c13
        have h := h.1 c13
        exact ⟨h, K⟩
      · intro c14
        have h := h.2 c14
        exact ⟨h, K⟩
theorem kj_X11_isRoad {L : List (Nat × Nat)} (hU : ∀ q ∈ L, q ∈ njT) (hL : ∀ q ∈ kjL_X11_isRoad, q ∈ L) {Q : Int32 → HS → Prop} {v0 : Nat} {v1 : Int32} {S : HS} (h : P_X11_isRoad v0 v1 Q S) : P_X11_isRoad v0 v1 (fun r T => Q r T ∧ KJ L S T) S := kj_X11_isRoad_0 hU hL h (kj9_rf L S)
abbrev kjL_X11_refused : List (Nat × Nat) := []
set_option maxRecDepth 20000 in
set_option maxHeartbeats 1000000 in
theorem kj_X11_refused_0 {L : List (Nat × Nat)} (hU : ∀ q ∈ L, q ∈ njT) (hL : ∀ q ∈ kjL_X11_refused, q ∈ L) {Q : Int32 → HS → Prop} {v0 : Nat} {v1 : Int32} {S0 S : HS} (h : P_X11_refused_0 Q v0 v1 S) (K : KJ L S0 S) : P_X11_refused_0 (fun r T => Q r T ∧ KJ L S0 T) v0 v1 S := by
  delta P_X11_refused_0 at h ⊢
  obtain ⟨c1, h⟩ := h
  refine ⟨c1, ?_⟩
  have n2 := kj9_nk K c1 (by decide)
  intro x4 e3
  have h := h x4 e3
  have K := kj9_I K e3 n2
  intro x6 e5
  have h := h x6 e5
  have K := kj9_I K e5 n2
  exact ⟨h, K⟩
theorem kj_X11_refused {L : List (Nat × Nat)} (hU : ∀ q ∈ L, q ∈ njT) (hL : ∀ q ∈ kjL_X11_refused, q ∈ L) {Q : Int32 → HS → Prop} {v0 : Nat} {v1 : Int32} {S : HS} (h : P_X11_refused v0 v1 Q S) : P_X11_refused v0 v1 (fun r T => Q r T ∧ KJ L S T) S := kj_X11_refused_0 hU hL h (kj9_rf L S)
abbrev kjL_X11_lost : List (Nat × Nat) := []
set_option maxRecDepth 20000 in
set_option maxHeartbeats 1000000 in
theorem kj_X11_lost_0 {L : List (Nat × Nat)} (hU : ∀ q ∈ L, q ∈ njT) (hL : ∀ q ∈ kjL_X11_lost, q ∈ L) {Q : Int32 → HS → Prop} {v0 : Nat} {v1 : Int32} {S0 S : HS} (h : P_X11_lost_0 Q v0 v1 S) (K : KJ L S0 S) : P_X11_lost_0 (fun r T => Q r T ∧ KJ L S0 T) v0 v1 S := by
  delta P_X11_lost_0 at h ⊢
  obtain ⟨c1, h⟩ := h
  refine ⟨c1, ?_⟩
  refine cm_X11_refused (kj_X11_refused hU (fun q hq => hL q ((by decide : ∀ q ∈ kjL_X11_refused, q ∈ kjL_X11_lost) q hq)) h) h (fun x2 x3 p5 h g4 => ?_)
  have h := h g4
  have K := kj9_tr K p5.2
  exact ⟨h, K⟩
theorem kj_X11_lost {L : List (Nat × Nat)} (hU : ∀ q ∈ L, q ∈ njT) (hL : ∀ q ∈ kjL_X11_lost, q ∈ L) {Q : Int32 → HS → Prop} {v0 : Nat} {v1 : Int32} {S : HS} (h : P_X11_lost v0 v1 Q S) : P_X11_lost v0 v1 (fun r T => Q r T ∧ KJ L S T) S := kj_X11_lost_0 hU hL h (kj9_rf L S)
abbrev kjL_X11_air : List (Nat × Nat) := []
set_option maxRecDepth 20000 in
set_option maxHeartbeats 1000000 in
theorem kj_X11_air_30 {L : List (Nat × Nat)} (hU : ∀ q ∈ L, q ∈ njT) (hL : ∀ q ∈ kjL_X11_air, q ∈ L) {Q : Int32 → HS → Prop} {v0 : Nat} {S0 S : HS} (h : P_X11_air_30 Q v0 S) (K : KJ L S0 S) : P_X11_air_30 (fun r T => Q r T ∧ KJ L S0 T) v0 S := by
  delta P_X11_air_30 at h ⊢
  obtain ⟨c1, h⟩ := h
  refine ⟨c1, ?_⟩
  refine cm_X11_lost (kj_X11_lost hU (fun q hq => hL q ((by decide : ∀ q ∈ kjL_X11_lost, q ∈ kjL_X11_air) q hq)) h) h (fun x2 x3 p5 h g4 => ?_)
  have h := h g4
  have K := kj9_tr K p5.2
  exact ⟨h, K⟩
set_option maxRecDepth 20000 in
set_option maxHeartbeats 1000000 in
theorem kj_X11_air_0 {L : List (Nat × Nat)} (hU : ∀ q ∈ L, q ∈ njT) (hL : ∀ q ∈ kjL_X11_air, q ∈ L) {Q : Int32 → HS → Prop} {v0 : Nat} {v1 : Int32} {v2 : Int32} {v3 : Int32} {S0 S : HS} (h : P_X11_air_0 Q v0 v1 v2 v3 S) (K : KJ L S0 S) : P_X11_air_0 (fun r T => Q r T ∧ KJ L S0 T) v0 v1 v2 v3 S := by
  delta P_X11_air_0 at h ⊢
  obtain ⟨c1, h⟩ := h
  refine ⟨c1, ?_⟩
  have n2 := kj9_nk K c1 (by decide)
  have o3 := c1
  intro x5 e4
  have h := h x5 e4
  have K := kj9_I K e4 n2
  have o3 := ob_wI o3 e4
  refine cm_X11_isRoad (kj_X11_isRoad hU (fun q hq => hL q ((by decide : ∀ q ∈ kjL_X11_isRoad, q ∈ kjL_X11_air) q hq)) h) h (fun x6 x7 p10 h g8 g9 => ?_)
  have h := h g8 g9
  have K := kj9_tr K p10.2
  have o3 := gr_ob p10.2.1 o3
  refine ⟨?_, ?_⟩
  · intro c11
    have h := h.1 c11
    exact kj_X11_air_30 hU hL h K
  · intro c12
    have h := h.2 c12
    refine cm_X11_in (kj_X11_in hU (fun q hq => hL q ((by decide : ∀ q ∈ kjL_X11_in, q ∈ kjL_X11_air) q hq)) h) h (fun x13 x14 p17 h g15 g16 => ?_)
    have h := h g15 g16
    have K := kj9_tr K p17.2
    have o3 := gr_ob p17.2.1 o3
    refine ⟨?_, ?_⟩
    · intro c18
      have h := h.1 c18
      exact kj_X11_air_30 hU hL h K
    · intro c19
      have h := h.2 c19
      refine cm_X11_isHour (kj_X11_isHour hU (fun q hq => hL q ((by decide : ∀ q ∈ kjL_X11_isHour, q ∈ kjL_X11_air) q hq)) h) h (fun x20 x21 p24 h g22 g23 => ?_)
      have h := h g22 g23
      have K := kj9_tr K p24.2
      have o3 := gr_ob p24.2.1 o3
      refine ⟨?_, ?_⟩
      · intro c25
        have h := h.1 c25
        obtain ⟨b26, e27, h⟩ := h
        refine ⟨b26, e27, ?_⟩
        obtain ⟨c28, h⟩ := h
        refine ⟨c28, ?_⟩
        refine cm_X10_air (kj_X10_air hU (fun q hq => hL q ((by decide : ∀ q ∈ kjL_X10_air, q ∈ kjL_X11_air) q hq)) h) h (fun x29 x30 p32 h g31 => ?_)
        have h := h g31
        have K := kj9_tr K p32.2
        have o3 := gr_ob p32.2.1 o3
        refine cm_X11_good (kj_X11_good hU (fun q hq => hL q ((by decide : ∀ q ∈ kjL_X11_good, q ∈ kjL_X11_air) q hq)) h) h (fun x33 x34 p36 h g35 => ?_)
        have h := h g35
        have K := kj9_tr K p36.2
        have o3 := gr_ob p36.2.1 o3
        exact ⟨h, K⟩
      · intro c37
        have h := h.2 c37
        exact kj_X11_air_30 hU hL h K
theorem kj_X11_air {L : List (Nat × Nat)} (hU : ∀ q ∈ L, q ∈ njT) (hL : ∀ q ∈ kjL_X11_air, q ∈ L) {Q : Int32 → HS → Prop} {v0 : Nat} {v1 : Int32} {v2 : Int32} {v3 : Int32} {S : HS} (h : P_X11_air v0 v1 v2 v3 Q S) : P_X11_air v0 v1 v2 v3 (fun r T => Q r T ∧ KJ L S T) S := kj_X11_air_0 hU hL h (kj9_rf L S)
abbrev kjL_X11_denied : List (Nat × Nat) := []
set_option maxRecDepth 20000 in
set_option maxHeartbeats 1000000 in
theorem kj_X11_denied_0 {L : List (Nat × Nat)} (hU : ∀ q ∈ L, q ∈ njT) (hL : ∀ q ∈ kjL_X11_denied, q ∈ L) {Q : Int32 → HS → Prop} {v0 : Nat} {v1 : Int32} {S0 S : HS} (h : P_X11_denied_0 Q v0 v1 S) (K : KJ L S0 S) : P_X11_denied_0 (fun r T => Q r T ∧ KJ L S0 T) v0 v1 S := by
  delta P_X11_denied_0 at h ⊢
  obtain ⟨c1, h⟩ := h
  refine ⟨c1, ?_⟩
  refine cm_X11_refused (kj_X11_refused hU (fun q hq => hL q ((by decide : ∀ q ∈ kjL_X11_refused, q ∈ kjL_X11_denied) q hq)) h) h (fun x2 x3 p5 h g4 => ?_)
  have h := h g4
  have K := kj9_tr K p5.2
  exact ⟨h, K⟩
theorem kj_X11_denied {L : List (Nat × Nat)} (hU : ∀ q ∈ L, q ∈ njT) (hL : ∀ q ∈ kjL_X11_denied, q ∈ L) {Q : Int32 → HS → Prop} {v0 : Nat} {v1 : Int32} {S : HS} (h : P_X11_denied v0 v1 Q S) : P_X11_denied v0 v1 (fun r T => Q r T ∧ KJ L S T) S := kj_X11_denied_0 hU hL h (kj9_rf L S)
abbrev kjL_X11_granted : List (Nat × Nat) := []
set_option maxRecDepth 20000 in
set_option maxHeartbeats 1000000 in
theorem kj_X11_granted_0 {L : List (Nat × Nat)} (hU : ∀ q ∈ L, q ∈ njT) (hL : ∀ q ∈ kjL_X11_granted, q ∈ L) {Q : Int32 → HS → Prop} {v0 : Nat} {S0 S : HS} (h : P_X11_granted_0 Q v0 S) (K : KJ L S0 S) : P_X11_granted_0 (fun r T => Q r T ∧ KJ L S0 T) v0 S := by
  delta P_X11_granted_0 at h ⊢
  obtain ⟨c1, h⟩ := h
  refine ⟨c1, ?_⟩
  refine cm_X11_good (kj_X11_good hU (fun q hq => hL q ((by decide : ∀ q ∈ kjL_X11_good, q ∈ kjL_X11_granted) q hq)) h) h (fun x2 x3 p5 h g4 => ?_)
  have h := h g4
  have K := kj9_tr K p5.2
  exact ⟨h, K⟩
theorem kj_X11_granted {L : List (Nat × Nat)} (hU : ∀ q ∈ L, q ∈ njT) (hL : ∀ q ∈ kjL_X11_granted, q ∈ L) {Q : Int32 → HS → Prop} {v0 : Nat} {S : HS} (h : P_X11_granted v0 Q S) : P_X11_granted v0 (fun r T => Q r T ∧ KJ L S T) S := kj_X11_granted_0 hU hL h (kj9_rf L S)
abbrev kjL_X11_isDay : List (Nat × Nat) := []
set_option maxRecDepth 20000 in
set_option maxHeartbeats 1000000 in
theorem kj_X11_isDay_0 {L : List (Nat × Nat)} (hU : ∀ q ∈ L, q ∈ njT) (hL : ∀ q ∈ kjL_X11_isDay, q ∈ L) {Q : Int32 → HS → Prop} {v0 : Nat} {S0 S : HS} (h : P_X11_isDay_0 Q v0 S) (K : KJ L S0 S) : P_X11_isDay_0 (fun r T => Q r T ∧ KJ L S0 T) v0 S := by
  delta P_X11_isDay_0 at h ⊢
  obtain ⟨c1, h⟩ := h
  refine ⟨c1, ?_⟩
  have o2 := c1
  refine ⟨?_, ?_⟩
  · intro c3
    have h := h.1 c3
    exact ⟨h, K⟩
  · intro x4 c5
    have h := h.2 x4 c5
    intro x7 e6
    have h := h x7 e6
    refine ⟨?_, ?_⟩
    · intro c8
      have h := h.1 c8
      exact ⟨h, K⟩
    · intro c9
      have h := h.2 c9
      exact ⟨h, K⟩
theorem kj_X11_isDay {L : List (Nat × Nat)} (hU : ∀ q ∈ L, q ∈ njT) (hL : ∀ q ∈ kjL_X11_isDay, q ∈ L) {Q : Int32 → HS → Prop} {v0 : Nat} {S : HS} (h : P_X11_isDay v0 Q S) : P_X11_isDay v0 (fun r T => Q r T ∧ KJ L S T) S := kj_X11_isDay_0 hU hL h (kj9_rf L S)
abbrev kjL_X11_back : List (Nat × Nat) := []
set_option maxRecDepth 20000 in
set_option maxHeartbeats 1000000 in
theorem kj_X11_back_24 {L : List (Nat × Nat)} (hU : ∀ q ∈ L, q ∈ njT) (hL : ∀ q ∈ kjL_X11_back, q ∈ L) {Q : Int32 → HS → Prop} {v0 : Nat} {S0 S : HS} (h : P_X11_back_24 Q v0 S) (K : KJ L S0 S) : P_X11_back_24 (fun r T => Q r T ∧ KJ L S0 T) v0 S := by
  delta P_X11_back_24 at h ⊢
  obtain ⟨c1, h⟩ := h
  refine ⟨c1, ?_⟩
  refine cm_X11_denied (kj_X11_denied hU (fun q hq => hL q ((by decide : ∀ q ∈ kjL_X11_denied, q ∈ kjL_X11_back) q hq)) h) h (fun x2 x3 p6 h g4 g5 => ?_)
  have h := h g4 g5
  have K := kj9_tr K p6.2
  obtain ⟨c7, h⟩ := h
  refine ⟨c7, ?_⟩
  exact ⟨h, K⟩
set_option maxRecDepth 20000 in
set_option maxHeartbeats 1000000 in
theorem kjB_X11_back_32 {L : List (Nat × Nat)} (hU : ∀ q ∈ L, q ∈ njT) (hL : ∀ q ∈ kjL_X11_back, q ∈ L) {Q : Int32 → HS → Prop} {X32 X32_2 : Nat → Int32 → Int32 → HS → Prop} {v0 : Nat} {v1 : Int32} {v2 : Int32} {S0 S : HS} (h : B_X11_back_32 Q X32 v0 v1 v2 S) (K : KJ L S0 S) (hX32 : ∀ (u0 : Nat) (u1 : Int32) (u2 : Int32) (u3 : HS), X32 u0 u1 u2 u3 → KJ L S0 u3 → X32_2 u0 u1 u2 u3) : B_X11_back_32 (fun r T => Q r T ∧ KJ L S0 T) X32_2 v0 v1 v2 S := by
  delta B_X11_back_32 at h ⊢
  refine ⟨?_, ?_⟩
  · intro c1
    have h := h.1 c1
    obtain ⟨c2, h⟩ := h
    refine ⟨c2, ?_⟩
    have n3 := kj9_nk K c2 (by decide)
    have o4 := c2
    intro x6 e5
    have h := h x6 e5
    have K := kj9_I K e5 n3
    have o4 := ob_wI o4 e5
    refine cm_X11_granted (kj_X11_granted hU (fun q hq => hL q ((by decide : ∀ q ∈ kjL_X11_granted, q ∈ kjL_X11_back) q hq)) h) h (fun x7 x8 p11 h g9 g10 => ?_)
    have h := h g9 g10
    have K := kj9_tr K p11.2
    have o4 := gr_ob p11.2.1 o4
    obtain ⟨c12, h⟩ := h
    refine ⟨c12, ?_⟩
    exact ⟨h, K⟩
  · intro c13
    have h := h.2 c13
    obtain ⟨c14, h⟩ := h
    refine ⟨c14, ?_⟩
    have n15 := kj9_nk K c14 (by decide)
    have o16 := c14
    obtain ⟨b17, e18, h⟩ := h
    refine ⟨b17, e18, ?_⟩
    obtain ⟨b19, e20, h⟩ := h
    refine ⟨b19, e20, ?_⟩
    obtain ⟨c21, h⟩ := h
    refine ⟨c21, ?_⟩
    intro x23 e22
    have h := h x23 e22
    obtain ⟨c24, h⟩ := h
    refine ⟨c24, ?_⟩
    intro x26 e25
    have h := h x26 e25
    obtain ⟨c27, h⟩ := h
    refine ⟨c27, ?_⟩
    obtain ⟨c28, h⟩ := h
    refine ⟨c28, ?_⟩
    intro x30 e29
    have h := h x30 e29
    have K := kj9_J K e29
    have o16 := ob_wJ o16 e29
    intro x32 e31
    have h := h x32 e31
    exact hX32 _ _ _ _ h K
theorem kj_X11_back_32 {L : List (Nat × Nat)} (hU : ∀ q ∈ L, q ∈ njT) (hL : ∀ q ∈ kjL_X11_back, q ∈ L) {Q : Int32 → HS → Prop} {v0 : Nat} {v1 : Int32} {v2 : Int32} {S0 S : HS} (h : P_X11_back_32 Q v0 v1 v2 S) (K : KJ L S0 S) : P_X11_back_32 (fun r T => Q r T ∧ KJ L S0 T) v0 v1 v2 S := h (fun v0 v1 v2 S => KJ L S0 S → P_X11_back_32 (fun r T => Q r T ∧ KJ L S0 T) v0 v1 v2 S) (fun v0 v1 v2 S hB K => fd_X11_back_32 (kjB_X11_back_32 hU hL hB K (fun _ _ _ _ hx K => hx K))) K
set_option maxRecDepth 20000 in
set_option maxHeartbeats 1000000 in
theorem kj_X11_back_0 {L : List (Nat × Nat)} (hU : ∀ q ∈ L, q ∈ njT) (hL : ∀ q ∈ kjL_X11_back, q ∈ L) {Q : Int32 → HS → Prop} {v0 : Nat} {v1 : Int32} {S0 S : HS} (h : P_X11_back_0 Q v0 v1 S) (K : KJ L S0 S) : P_X11_back_0 (fun r T => Q r T ∧ KJ L S0 T) v0 v1 S := by
  delta P_X11_back_0 at h ⊢
  obtain ⟨c1, h⟩ := h
  refine ⟨c1, ?_⟩
  have n2 := kj9_nk K c1 (by decide)
  intro x4 e3
  have h := h x4 e3
  have K := kj9_I K e3 n2
  refine cm_X11_isDay (kj_X11_isDay hU (fun q hq => hL q ((by decide : ∀ q ∈ kjL_X11_isDay, q ∈ kjL_X11_back) q hq)) h) h (fun x5 x6 p9 h g7 g8 => ?_)
  have h := h g7 g8
  have K := kj9_tr K p9.2
  refine ⟨?_, ?_⟩
  · intro c10
    have h := h.1 c10
    exact kj_X11_back_24 hU hL h K
  · intro c11
    have h := h.2 c11
    refine ⟨?_, ?_⟩
    · intro c12
      have h := h.1 c12
      exact kj_X11_back_24 hU hL h K
    · intro c13
      have h := h.2 c13
      intro x15 e14
      have h := h x15 e14
      refine ⟨?_, ?_⟩
      · intro c16
        have h := h.1 c16
        exact kj_X11_back_32 hU hL h K
      · intro c17
        have h := h.2 c17
        exact kj_X11_back_24 hU hL h K
theorem kj_X11_back {L : List (Nat × Nat)} (hU : ∀ q ∈ L, q ∈ njT) (hL : ∀ q ∈ kjL_X11_back, q ∈ L) {Q : Int32 → HS → Prop} {v0 : Nat} {v1 : Int32} {S : HS} (h : P_X11_back v0 v1 Q S) : P_X11_back v0 v1 (fun r T => Q r T ∧ KJ L S T) S := kj_X11_back_0 hU hL h (kj9_rf L S)
abbrev kjL_X11_flaw : List (Nat × Nat) := []
set_option maxRecDepth 20000 in
set_option maxHeartbeats 1000000 in
theorem kj_X11_flaw_0 {L : List (Nat × Nat)} (hU : ∀ q ∈ L, q ∈ njT) (hL : ∀ q ∈ kjL_X11_flaw, q ∈ L) {Q : HS → Prop} {v0 : Nat} {v1 : Int32} {S0 S : HS} (h : P_X11_flaw_0 Q v0 v1 S) (K : KJ L S0 S) : P_X11_flaw_0 (fun T => Q T ∧ KJ L S0 T) v0 v1 S := by
  delta P_X11_flaw_0 at h ⊢
  obtain ⟨c1, h⟩ := h
  refine ⟨c1, ?_⟩
  have n2 := kj9_nk K c1 (by decide)
  intro x4 e3
  have h := h x4 e3
  refine ⟨?_, ?_⟩
  · intro c5
    have h := h.1 c5
    intro x7 e6
    have h := h x7 e6
    have K := kj9_I K e6 n2
    intro x9 e8
    have h := h x9 e8
    intro x11 e10
    have h := h x11 e10
    have K := kj9_I K e10 n2
    intro x13 e12
    have h := h x13 e12
    have K := kj9_I K e12 n2
    exact ⟨h, K⟩
  · intro c14
    have h := h.2 c14
    exact ⟨h, K⟩
theorem kj_X11_flaw {L : List (Nat × Nat)} (hU : ∀ q ∈ L, q ∈ njT) (hL : ∀ q ∈ kjL_X11_flaw, q ∈ L) {Q : HS → Prop} {v0 : Nat} {v1 : Int32} {S : HS} (h : P_X11_flaw v0 v1 Q S) : P_X11_flaw v0 v1 (fun T => Q T ∧ KJ L S T) S := kj_X11_flaw_0 hU hL h (kj9_rf L S)
abbrev kjL_X11_byteAt : List (Nat × Nat) := []
set_option maxRecDepth 20000 in
set_option maxHeartbeats 1000000 in
theorem kj_X11_byteAt_0 {L : List (Nat × Nat)} (hU : ∀ q ∈ L, q ∈ njT) (hL : ∀ q ∈ kjL_X11_byteAt, q ∈ L) {Q : Int32 → HS → Prop} {v0 : Nat} {v1 : Int32} {S0 S : HS} (h : P_X11_byteAt_0 Q v0 v1 S) (K : KJ L S0 S) : P_X11_byteAt_0 (fun r T => Q r T ∧ KJ L S0 T) v0 v1 S := by
  delta P_X11_byteAt_0 at h ⊢
  obtain ⟨c1, h⟩ := h
  refine ⟨c1, ?_⟩
  have o2 := c1
  intro x4 e3
  have h := h x4 e3
  refine ⟨?_, ?_⟩
  · intro c5
    have h := h.1 c5
    exact ⟨h, K⟩
  · intro c6
    have h := h.2 c6
    obtain ⟨b7, e8, h⟩ := h
    refine ⟨b7, e8, ?_⟩
    obtain ⟨c9, h⟩ := h
    refine ⟨c9, ?_⟩
    obtain ⟨c10, h⟩ := h
    refine ⟨c10, ?_⟩
    intro x12 e11
    have h := h x12 e11
    exact ⟨h, K⟩
theorem kj_X11_byteAt {L : List (Nat × Nat)} (hU : ∀ q ∈ L, q ∈ njT) (hL : ∀ q ∈ kjL_X11_byteAt, q ∈ L) {Q : Int32 → HS → Prop} {v0 : Nat} {v1 : Int32} {S : HS} (h : P_X11_byteAt v0 v1 Q S) : P_X11_byteAt v0 v1 (fun r T => Q r T ∧ KJ L S T) S := kj_X11_byteAt_0 hU hL h (kj9_rf L S)
abbrev kjL_X11_isDigit : List (Nat × Nat) := []
set_option maxRecDepth 20000 in
set_option maxHeartbeats 1000000 in
theorem kj_X11_isDigit_0 {L : List (Nat × Nat)} (hU : ∀ q ∈ L, q ∈ njT) (hL : ∀ q ∈ kjL_X11_isDigit, q ∈ L) {Q : Int32 → HS → Prop} {v0 : Int32} {S0 S : HS} (h : P_X11_isDigit_0 Q v0 S) (K : KJ L S0 S) : P_X11_isDigit_0 (fun r T => Q r T ∧ KJ L S0 T) v0 S := by
  delta P_X11_isDigit_0 at h ⊢
  refine ⟨?_, ?_⟩
  · intro c1
    have h := h.1 c1
    exact ⟨h, K⟩
  · intro c2
    have h := h.2 c2
    refine ⟨?_, ?_⟩
    · intro c3
      have h := h.1 c3
      exact ⟨h, K⟩
    · intro c4
      have h := h.2 c4
      exact ⟨h, K⟩
theorem kj_X11_isDigit {L : List (Nat × Nat)} (hU : ∀ q ∈ L, q ∈ njT) (hL : ∀ q ∈ kjL_X11_isDigit, q ∈ L) {Q : Int32 → HS → Prop} {v0 : Int32} {S : HS} (h : P_X11_isDigit v0 Q S) : P_X11_isDigit v0 (fun r T => Q r T ∧ KJ L S T) S := kj_X11_isDigit_0 hU hL h (kj9_rf L S)
abbrev kjL_X11_isLetter : List (Nat × Nat) := []
set_option maxRecDepth 20000 in
set_option maxHeartbeats 1000000 in
theorem kj_X11_isLetter_0 {L : List (Nat × Nat)} (hU : ∀ q ∈ L, q ∈ njT) (hL : ∀ q ∈ kjL_X11_isLetter, q ∈ L) {Q : Int32 → HS → Prop} {v0 : Int32} {S0 S : HS} (h : P_X11_isLetter_0 Q v0 S) (K : KJ L S0 S) : P_X11_isLetter_0 (fun r T => Q r T ∧ KJ L S0 T) v0 S := by
  delta P_X11_isLetter_0 at h ⊢
  refine ⟨?_, ?_⟩
  · intro c1
    have h := h.1 c1
    exact ⟨h, K⟩
  · intro c2
    have h := h.2 c2
    refine ⟨?_, ?_⟩
    · intro c3
      have h := h.1 c3
      exact ⟨h, K⟩
    · intro c4
      have h := h.2 c4
      exact ⟨h, K⟩
theorem kj_X11_isLetter {L : List (Nat × Nat)} (hU : ∀ q ∈ L, q ∈ njT) (hL : ∀ q ∈ kjL_X11_isLetter, q ∈ L) {Q : Int32 → HS → Prop} {v0 : Int32} {S : HS} (h : P_X11_isLetter v0 Q S) : P_X11_isLetter v0 (fun r T => Q r T ∧ KJ L S T) S := kj_X11_isLetter_0 hU hL h (kj9_rf L S)
abbrev kjL_X11_goesOn : List (Nat × Nat) := []
set_option maxRecDepth 20000 in
set_option maxHeartbeats 1000000 in
theorem kj_X11_goesOn_136 {L : List (Nat × Nat)} (hU : ∀ q ∈ L, q ∈ njT) (hL : ∀ q ∈ kjL_X11_goesOn, q ∈ L) {Q : HS → Prop} {X89 X89_2 : Nat → Int32 → HS → Prop} {v0 : Nat} {v2 : Int32} {S0 S : HS} (h : P_X11_goesOn_136 Q X89 v0 v2 S) (K : KJ L S0 S) (hX89 : ∀ (u0 : Nat) (u1 : Int32) (u2 : HS), X89 u0 u1 u2 → KJ L S0 u2 → X89_2 u0 u1 u2) : P_X11_goesOn_136 (fun T => Q T ∧ KJ L S0 T) X89_2 v0 v2 S := by
  delta P_X11_goesOn_136 at h ⊢
  intro x2 e1
  have h := h x2 e1
  obtain ⟨c3, h⟩ := h
  refine ⟨c3, ?_⟩
  have n4 := kj9_nk K c3 (by decide)
  intro x6 e5
  have h := h x6 e5
  intro x8 e7
  have h := h x8 e7
  intro x10 e9
  have h := h x10 e9
  have K := kj9_I K e9 n4
  exact hX89 _ _ _ h K
set_option maxRecDepth 20000 in
set_option maxHeartbeats 1000000 in
theorem kjB_X11_goesOn_89 {L : List (Nat × Nat)} (hU : ∀ q ∈ L, q ∈ njT) (hL : ∀ q ∈ kjL_X11_goesOn, q ∈ L) {Q : HS → Prop} {X89 X89_2 : Nat → Int32 → HS → Prop} {v0 : Nat} {v2 : Int32} {S0 S : HS} (h : B_X11_goesOn_89 Q X89 v0 v2 S) (K : KJ L S0 S) (hX89 : ∀ (u0 : Nat) (u1 : Int32) (u2 : HS), X89 u0 u1 u2 → KJ L S0 u2 → X89_2 u0 u1 u2) : B_X11_goesOn_89 (fun T => Q T ∧ KJ L S0 T) X89_2 v0 v2 S := by
  delta B_X11_goesOn_89 at h ⊢
  obtain ⟨c1, h⟩ := h
  refine ⟨c1, ?_⟩
  have n2 := kj9_nk K c1 (by decide)
  intro x4 e3
  have h := h x4 e3
  refine cm_X11_byteAt (kj_X11_byteAt hU (fun q hq => hL q ((by decide : ∀ q ∈ kjL_X11_byteAt, q ∈ kjL_X11_goesOn) q hq)) h) h (fun x5 x6 p8 h g7 => ?_)
  have h := h g7
  have K := kj9_tr K p8.2
  refine cm_X11_isLetter (kj_X11_isLetter hU (fun q hq => hL q ((by decide : ∀ q ∈ kjL_X11_isLetter, q ∈ kjL_X11_goesOn) q hq)) h) h (fun x9 x10 p13 h g11 g12 => ?_)
  have h := h g11 g12
  have K := kj9_tr K p13.2
  refine ⟨?_, ?_⟩
  · intro c14
    have h := h.1 c14
    refine ⟨?_, ?_⟩
    · intro c15
      have h := h.1 c15
      exact ⟨h, K⟩
    · intro c16
      have h := h.2 c16
      intro x18 e17
      have h := h x18 e17
      have K := kj9_I K e17 n2
      exact ⟨h, K⟩
  · intro c19
    have h := h.2 c19
    refine ⟨?_, ?_⟩
    · intro c20
      have h := h.1 c20
      exact kj_X11_goesOn_136 hU hL h K hX89
    · intro c21
      have h := h.2 c21
      intro x23 e22
      have h := h x23 e22
      intro x25 e24
      have h := h x25 e24
      refine cm_X11_byteAt (kj_X11_byteAt hU (fun q hq => hL q ((by decide : ∀ q ∈ kjL_X11_byteAt, q ∈ kjL_X11_goesOn) q hq)) h) h (fun x26 x27 p29 h g28 => ?_)
      have h := h g28
      have K := kj9_tr K p29.2
      intro x31 e30
      have h := h x31 e30
      intro x33 e32
      have h := h x33 e32
      have K := kj9_J K e32
      exact kj_X11_goesOn_136 hU hL h K hX89
theorem kj_X11_goesOn_89 {L : List (Nat × Nat)} (hU : ∀ q ∈ L, q ∈ njT) (hL : ∀ q ∈ kjL_X11_goesOn, q ∈ L) {Q : HS → Prop} {v0 : Nat} {v2 : Int32} {S0 S : HS} (h : P_X11_goesOn_89 Q v0 v2 S) (K : KJ L S0 S) : P_X11_goesOn_89 (fun T => Q T ∧ KJ L S0 T) v0 v2 S := h (fun v0 v2 S => KJ L S0 S → P_X11_goesOn_89 (fun T => Q T ∧ KJ L S0 T) v0 v2 S) (fun v0 v2 S hB K => fd_X11_goesOn_89 (kjB_X11_goesOn_89 hU hL hB K (fun _ _ _ hx K => hx K))) K
set_option maxRecDepth 20000 in
set_option maxHeartbeats 1000000 in
theorem kj_X11_goesOn_220 {L : List (Nat × Nat)} (hU : ∀ q ∈ L, q ∈ njT) (hL : ∀ q ∈ kjL_X11_goesOn, q ∈ L) {Q : HS → Prop} {X178 X178_2 : Nat → Int32 → HS → Prop} {v0 : Nat} {v2 : Int32} {S0 S : HS} (h : P_X11_goesOn_220 Q X178 v0 v2 S) (K : KJ L S0 S) (hX178 : ∀ (u0 : Nat) (u1 : Int32) (u2 : HS), X178 u0 u1 u2 → KJ L S0 u2 → X178_2 u0 u1 u2) : P_X11_goesOn_220 (fun T => Q T ∧ KJ L S0 T) X178_2 v0 v2 S := by
  delta P_X11_goesOn_220 at h ⊢
  intro x2 e1
  have h := h x2 e1
  obtain ⟨c3, h⟩ := h
  refine ⟨c3, ?_⟩
  have n4 := kj9_nk K c3 (by decide)
  intro x6 e5
  have h := h x6 e5
  intro x8 e7
  have h := h x8 e7
  intro x10 e9
  have h := h x10 e9
  have K := kj9_I K e9 n4
  exact hX178 _ _ _ h K
set_option maxRecDepth 20000 in
set_option maxHeartbeats 1000000 in
theorem kjB_X11_goesOn_178 {L : List (Nat × Nat)} (hU : ∀ q ∈ L, q ∈ njT) (hL : ∀ q ∈ kjL_X11_goesOn, q ∈ L) {Q : HS → Prop} {X178 X178_2 : Nat → Int32 → HS → Prop} {v0 : Nat} {v2 : Int32} {S0 S : HS} (h : B_X11_goesOn_178 Q X178 v0 v2 S) (K : KJ L S0 S) (hX178 : ∀ (u0 : Nat) (u1 : Int32) (u2 : HS), X178 u0 u1 u2 → KJ L S0 u2 → X178_2 u0 u1 u2) : B_X11_goesOn_178 (fun T => Q T ∧ KJ L S0 T) X178_2 v0 v2 S := by
  delta B_X11_goesOn_178 at h ⊢
  obtain ⟨c1, h⟩ := h
  refine ⟨c1, ?_⟩
  have n2 := kj9_nk K c1 (by decide)
  intro x4 e3
  have h := h x4 e3
  refine cm_X11_byteAt (kj_X11_byteAt hU (fun q hq => hL q ((by decide : ∀ q ∈ kjL_X11_byteAt, q ∈ kjL_X11_goesOn) q hq)) h) h (fun x5 x6 p8 h g7 => ?_)
  have h := h g7
  have K := kj9_tr K p8.2
  refine cm_X11_isDigit (kj_X11_isDigit hU (fun q hq => hL q ((by decide : ∀ q ∈ kjL_X11_isDigit, q ∈ kjL_X11_goesOn) q hq)) h) h (fun x9 x10 p13 h g11 g12 => ?_)
  have h := h g11 g12
  have K := kj9_tr K p13.2
  refine ⟨?_, ?_⟩
  · intro c14
    have h := h.1 c14
    refine ⟨?_, ?_⟩
    · intro c15
      have h := h.1 c15
      exact ⟨h, K⟩
    · intro c16
      have h := h.2 c16
      intro x18 e17
      have h := h x18 e17
      have K := kj9_I K e17 n2
      exact ⟨h, K⟩
  · intro c19
    have h := h.2 c19
    refine ⟨?_, ?_⟩
    · intro c20
      have h := h.1 c20
      exact kj_X11_goesOn_220 hU hL h K hX178
    · intro c21
      have h := h.2 c21
      intro x23 e22
      have h := h x23 e22
      intro x25 e24
      have h := h x25 e24
      refine cm_X11_byteAt (kj_X11_byteAt hU (fun q hq => hL q ((by decide : ∀ q ∈ kjL_X11_byteAt, q ∈ kjL_X11_goesOn) q hq)) h) h (fun x26 x27 p29 h g28 => ?_)
      have h := h g28
      have K := kj9_tr K p29.2
      intro x31 e30
      have h := h x31 e30
      intro x33 e32
      have h := h x33 e32
      have K := kj9_I K e32 n2
      exact kj_X11_goesOn_220 hU hL h K hX178
theorem kj_X11_goesOn_178 {L : List (Nat × Nat)} (hU : ∀ q ∈ L, q ∈ njT) (hL : ∀ q ∈ kjL_X11_goesOn, q ∈ L) {Q : HS → Prop} {v0 : Nat} {v2 : Int32} {S0 S : HS} (h : P_X11_goesOn_178 Q v0 v2 S) (K : KJ L S0 S) : P_X11_goesOn_178 (fun T => Q T ∧ KJ L S0 T) v0 v2 S := h (fun v0 v2 S => KJ L S0 S → P_X11_goesOn_178 (fun T => Q T ∧ KJ L S0 T) v0 v2 S) (fun v0 v2 S hB K => fd_X11_goesOn_178 (kjB_X11_goesOn_178 hU hL hB K (fun _ _ _ hx K => hx K))) K
set_option maxRecDepth 20000 in
set_option maxHeartbeats 1000000 in
theorem kj_X11_goesOn_261 {L : List (Nat × Nat)} (hU : ∀ q ∈ L, q ∈ njT) (hL : ∀ q ∈ kjL_X11_goesOn, q ∈ L) {Q : HS → Prop} {v0 : Nat} {v1 : Int32} {S0 S : HS} (h : P_X11_goesOn_261 Q v0 v1 S) (K : KJ L S0 S) : P_X11_goesOn_261 (fun T => Q T ∧ KJ L S0 T) v0 v1 S := by
  delta P_X11_goesOn_261 at h ⊢
  obtain ⟨c1, h⟩ := h
  refine ⟨c1, ?_⟩
  have n2 := kj9_nk K c1 (by decide)
  intro x4 e3
  have h := h x4 e3
  have K := kj9_I K e3 n2
  intro x6 e5
  have h := h x6 e5
  have K := kj9_I K e5 n2
  intro x8 e7
  have h := h x8 e7
  intro x10 e9
  have h := h x10 e9
  intro x12 e11
  have h := h x12 e11
  have K := kj9_I K e11 n2
  exact ⟨h, K⟩
set_option maxRecDepth 20000 in
set_option maxHeartbeats 1000000 in
theorem kjB_X11_goesOn_9 {L : List (Nat × Nat)} (hU : ∀ q ∈ L, q ∈ njT) (hL : ∀ q ∈ kjL_X11_goesOn, q ∈ L) {Q : HS → Prop} {X9 X9_2 : Nat → HS → Prop} {v0 : Nat} {S0 S : HS} (h : B_X11_goesOn_9 Q X9 v0 S) (K : KJ L S0 S) (hX9 : ∀ (u0 : Nat) (u1 : HS), X9 u0 u1 → KJ L S0 u1 → X9_2 u0 u1) : B_X11_goesOn_9 (fun T => Q T ∧ KJ L S0 T) X9_2 v0 S := by
  delta B_X11_goesOn_9 at h ⊢
  obtain ⟨c1, h⟩ := h
  refine ⟨c1, ?_⟩
  have n2 := kj9_nk K c1 (by decide)
  intro x4 e3
  have h := h x4 e3
  refine cm_X11_byteAt (kj_X11_byteAt hU (fun q hq => hL q ((by decide : ∀ q ∈ kjL_X11_byteAt, q ∈ kjL_X11_goesOn) q hq)) h) h (fun x5 x6 p8 h g7 => ?_)
  have h := h g7
  have K := kj9_tr K p8.2
  refine ⟨?_, ?_⟩
  · intro c9
    have h := h.1 c9
    intro x11 e10
    have h := h x11 e10
    intro x13 e12
    have h := h x13 e12
    have K := kj9_I K e12 n2
    intro x15 e14
    have h := h x15 e14
    have K := kj9_I K e14 n2
    intro x17 e16
    have h := h x17 e16
    have K := kj9_I K e16 n2
    intro x19 e18
    have h := h x19 e18
    refine cm_X11_byteAt (kj_X11_byteAt hU (fun q hq => hL q ((by decide : ∀ q ∈ kjL_X11_byteAt, q ∈ kjL_X11_goesOn) q hq)) h) h (fun x20 x21 p23 h g22 => ?_)
    have h := h g22
    have K := kj9_tr K p23.2
    refine ⟨?_, ?_⟩
    · intro c24
      have h := h.1 c24
      refine cm_X11_isLetter (kj_X11_isLetter hU (fun q hq => hL q ((by decide : ∀ q ∈ kjL_X11_isLetter, q ∈ kjL_X11_goesOn) q hq)) h) h (fun x25 x26 p29 h g27 g28 => ?_)
      have h := h g27 g28
      have K := kj9_tr K p29.2
      refine ⟨?_, ?_⟩
      · intro c30
        have h := h.1 c30
        refine cm_X11_isDigit (kj_X11_isDigit hU (fun q hq => hL q ((by decide : ∀ q ∈ kjL_X11_isDigit, q ∈ kjL_X11_goesOn) q hq)) h) h (fun x31 x32 p35 h g33 g34 => ?_)
        have h := h g33 g34
        have K := kj9_tr K p35.2
        refine ⟨?_, ?_⟩
        · intro c36
          have h := h.1 c36
          refine ⟨?_, ?_⟩
          · intro c37
            have h := h.1 c37
            exact kj_X11_goesOn_261 hU hL h K
          · intro c38
            have h := h.2 c38
            refine ⟨?_, ?_⟩
            · intro c39
              have h := h.1 c39
              exact ⟨h, K⟩
            · intro c40
              have h := h.2 c40
              exact kj_X11_goesOn_261 hU hL h K
        · intro c41
          have h := h.2 c41
          intro x43 e42
          have h := h x43 e42
          have K := kj9_I K e42 n2
          exact kj_X11_goesOn_178 hU hL h K
      · intro c44
        have h := h.2 c44
        intro x46 e45
        have h := h x46 e45
        have K := kj9_J K e45
        exact kj_X11_goesOn_89 hU hL h K
    · intro c47
      have h := h.2 c47
      intro x49 e48
      have h := h x49 e48
      have K := kj9_I K e48 n2
      exact ⟨h, K⟩
  · intro c50
    have h := h.2 c50
    intro x52 e51
    have h := h x52 e51
    intro x54 e53
    have h := h x54 e53
    intro x56 e55
    have h := h x56 e55
    have K := kj9_I K e55 n2
    exact hX9 _ _ h K
theorem kj_X11_goesOn_9 {L : List (Nat × Nat)} (hU : ∀ q ∈ L, q ∈ njT) (hL : ∀ q ∈ kjL_X11_goesOn, q ∈ L) {Q : HS → Prop} {v0 : Nat} {S0 S : HS} (h : P_X11_goesOn_9 Q v0 S) (K : KJ L S0 S) : P_X11_goesOn_9 (fun T => Q T ∧ KJ L S0 T) v0 S := h (fun v0 S => KJ L S0 S → P_X11_goesOn_9 (fun T => Q T ∧ KJ L S0 T) v0 S) (fun v0 S hB K => fd_X11_goesOn_9 (kjB_X11_goesOn_9 hU hL hB K (fun _ _ hx K => hx K))) K
set_option maxRecDepth 20000 in
set_option maxHeartbeats 1000000 in
theorem kj_X11_goesOn_0 {L : List (Nat × Nat)} (hU : ∀ q ∈ L, q ∈ njT) (hL : ∀ q ∈ kjL_X11_goesOn, q ∈ L) {Q : HS → Prop} {v0 : Nat} {S0 S : HS} (h : P_X11_goesOn_0 Q v0 S) (K : KJ L S0 S) : P_X11_goesOn_0 (fun T => Q T ∧ KJ L S0 T) v0 S := by
  delta P_X11_goesOn_0 at h ⊢
  obtain ⟨c1, h⟩ := h
  refine ⟨c1, ?_⟩
  intro x3 e2
  have h := h x3 e2
  refine ⟨?_, ?_⟩
  · intro c4
    have h := h.1 c4
    exact kj_X11_goesOn_9 hU hL h K
  · intro c5
    have h := h.2 c5
    exact ⟨h, K⟩
theorem kj_X11_goesOn {L : List (Nat × Nat)} (hU : ∀ q ∈ L, q ∈ njT) (hL : ∀ q ∈ kjL_X11_goesOn, q ∈ L) {Q : HS → Prop} {v0 : Nat} {S : HS} (h : P_X11_goesOn v0 Q S) : P_X11_goesOn v0 (fun T => Q T ∧ KJ L S T) S := kj_X11_goesOn_0 hU hL h (kj9_rf L S)
abbrev kjL_X11_begins : List (Nat × Nat) := []
set_option maxRecDepth 20000 in
set_option maxHeartbeats 1000000 in
theorem kj_X11_begins_26 {L : List (Nat × Nat)} (hU : ∀ q ∈ L, q ∈ njT) (hL : ∀ q ∈ kjL_X11_begins, q ∈ L) {Q : HS → Prop} {v0 : Nat} {S0 S : HS} (h : P_X11_begins_26 Q v0 S) (K : KJ L S0 S) : P_X11_begins_26 (fun T => Q T ∧ KJ L S0 T) v0 S := by
  delta P_X11_begins_26 at h ⊢
  obtain ⟨c1, h⟩ := h
  refine ⟨c1, ?_⟩
  refine cm_X11_goesOn (kj_X11_goesOn hU (fun q hq => hL q ((by decide : ∀ q ∈ kjL_X11_goesOn, q ∈ kjL_X11_begins) q hq)) h) h (fun x2 p4 h g3 => ?_)
  have h := h g3
  have K := kj9_tr K p4.2
  exact ⟨h, K⟩
set_option maxRecDepth 20000 in
set_option maxHeartbeats 1000000 in
theorem kj_X11_begins_10 {L : List (Nat × Nat)} (hU : ∀ q ∈ L, q ∈ njT) (hL : ∀ q ∈ kjL_X11_begins, q ∈ L) {Q : HS → Prop} {v0 : Nat} {S0 S : HS} (h : P_X11_begins_10 Q v0 S) (K : KJ L S0 S) : P_X11_begins_10 (fun T => Q T ∧ KJ L S0 T) v0 S := by
  delta P_X11_begins_10 at h ⊢
  obtain ⟨c1, h⟩ := h
  refine ⟨c1, ?_⟩
  have o2 := c1
  obtain ⟨b3, e4, h⟩ := h
  refine ⟨b3, e4, ?_⟩
  obtain ⟨c5, h⟩ := h
  refine ⟨c5, ?_⟩
  intro x7 e6
  have h := h x7 e6
  refine ⟨?_, ?_⟩
  · intro c8
    have h := h.1 c8
    exact kj_X11_begins_26 hU hL h K
  · intro c9
    have h := h.2 c9
    refine cm_X11_flaw (kj_X11_flaw hU (fun q hq => hL q ((by decide : ∀ q ∈ kjL_X11_flaw, q ∈ kjL_X11_begins) q hq)) h) h (fun x10 p12 h g11 => ?_)
    have h := h g11
    have K := kj9_tr K p12.2
    have o2 := gr_ob p12.2.1 o2
    exact kj_X11_begins_26 hU hL h K
set_option maxRecDepth 20000 in
set_option maxHeartbeats 1000000 in
theorem kj_X11_begins_0 {L : List (Nat × Nat)} (hU : ∀ q ∈ L, q ∈ njT) (hL : ∀ q ∈ kjL_X11_begins, q ∈ L) {Q : HS → Prop} {v0 : Nat} {v1 : Int32} {v2 : Int32} {S0 S : HS} (h : P_X11_begins_0 Q v0 v1 v2 S) (K : KJ L S0 S) : P_X11_begins_0 (fun T => Q T ∧ KJ L S0 T) v0 v1 v2 S := by
  delta P_X11_begins_0 at h ⊢
  refine ⟨?_, ?_⟩
  · intro c1
    have h := h.1 c1
    exact kj_X11_begins_10 hU hL h K
  · intro c2
    have h := h.2 c2
    obtain ⟨c3, h⟩ := h
    refine ⟨c3, ?_⟩
    refine cm_X11_flaw (kj_X11_flaw hU (fun q hq => hL q ((by decide : ∀ q ∈ kjL_X11_flaw, q ∈ kjL_X11_begins) q hq)) h) h (fun x4 p6 h g5 => ?_)
    have h := h g5
    have K := kj9_tr K p6.2
    exact kj_X11_begins_10 hU hL h K
theorem kj_X11_begins {L : List (Nat × Nat)} (hU : ∀ q ∈ L, q ∈ njT) (hL : ∀ q ∈ kjL_X11_begins, q ∈ L) {Q : HS → Prop} {v0 : Nat} {v1 : Int32} {v2 : Int32} {S : HS} (h : P_X11_begins v0 v1 v2 Q S) : P_X11_begins v0 v1 v2 (fun T => Q T ∧ KJ L S T) S := kj_X11_begins_0 hU hL h (kj9_rf L S)
abbrev kjL_X11_isForward : List (Nat × Nat) := []
set_option maxRecDepth 20000 in
set_option maxHeartbeats 1000000 in
theorem kj_X11_isForward_112 {L : List (Nat × Nat)} (hU : ∀ q ∈ L, q ∈ njT) (hL : ∀ q ∈ kjL_X11_isForward, q ∈ L) {Q : Int32 → HS → Prop} {v0 : Nat} {v4 : Int32} {v7 : Int32} {v8 : Int32} {v9 : Int32} {s0 : Int32} {S0 S : HS} (h : P_X11_isForward_112 Q v0 v4 v7 v8 v9 s0 S) (K : KJ L S0 S) : P_X11_isForward_112 (fun r T => Q r T ∧ KJ L S0 T) v0 v4 v7 v8 v9 s0 S := by
  delta P_X11_isForward_112 at h ⊢
  refine ⟨?_, ?_⟩
  · intro c1
    have h := h.1 c1
    exact ⟨h, K⟩
  · intro c2
    have h := h.2 c2
    refine ⟨?_, ?_⟩
    · intro c3
      have h := h.1 c3
      exact ⟨h, K⟩
    · intro c4
      have h := h.2 c4
      obtain ⟨c5, h⟩ := h
      refine ⟨c5, ?_⟩
      have o6 := c5
      obtain ⟨b7, e8, h⟩ := h
      refine ⟨b7, e8, ?_⟩
      obtain ⟨c9, h⟩ := h
      refine ⟨c9, ?_⟩
      have o10 := c9
      obtain ⟨b11, e12, h⟩ := h
      refine ⟨b11, e12, ?_⟩
      obtain ⟨c13, h⟩ := h
      refine ⟨c13, ?_⟩
      obtain ⟨c14, h⟩ := h
      refine ⟨c14, ?_⟩
      intro x16 e15
      have h := h x16 e15
      obtain ⟨b17, e18, h⟩ := h
      refine ⟨b17, e18, ?_⟩
      obtain ⟨c19, h⟩ := h
      refine ⟨c19, ?_⟩
      have o20 := c19
      obtain ⟨b21, e22, h⟩ := h
      refine ⟨b21, e22, ?_⟩
      obtain ⟨c23, h⟩ := h
      refine ⟨c23, ?_⟩
      obtain ⟨c24, h⟩ := h
      refine ⟨c24, ?_⟩
      intro x26 e25
      have h := h x26 e25
      obtain ⟨b27, e28, h⟩ := h
      refine ⟨b27, e28, ?_⟩
      obtain ⟨c29, h⟩ := h
      refine ⟨c29, ?_⟩
      have o30 := c29
      obtain ⟨b31, e32, h⟩ := h
      refine ⟨b31, e32, ?_⟩
      obtain ⟨c33, h⟩ := h
      refine ⟨c33, ?_⟩
      obtain ⟨c34, h⟩ := h
      refine ⟨c34, ?_⟩
      intro x36 e35
      have h := h x36 e35
      refine ⟨?_, ?_⟩
      · intro c37
        have h := h.1 c37
        exact ⟨h, K⟩
      · intro c38
        have h := h.2 c38
        exact ⟨h, K⟩
set_option maxRecDepth 20000 in
set_option maxHeartbeats 1000000 in
theorem kj_X11_isForward_84 {L : List (Nat × Nat)} (hU : ∀ q ∈ L, q ∈ njT) (hL : ∀ q ∈ kjL_X11_isForward, q ∈ L) {Q : Int32 → HS → Prop} {v0 : Nat} {v2 : Int32} {v4 : Int32} {v7 : Int32} {v8 : Int32} {s0 : Int32} {S0 S : HS} (h : P_X11_isForward_84 Q v0 v2 v4 v7 v8 s0 S) (K : KJ L S0 S) : P_X11_isForward_84 (fun r T => Q r T ∧ KJ L S0 T) v0 v2 v4 v7 v8 s0 S := by
  delta P_X11_isForward_84 at h ⊢
  obtain ⟨c1, h⟩ := h
  refine ⟨c1, ?_⟩
  have o2 := c1
  obtain ⟨b3, e4, h⟩ := h
  refine ⟨b3, e4, ?_⟩
  obtain ⟨c5, h⟩ := h
  refine ⟨c5, ?_⟩
  have o6 := c5
  obtain ⟨b7, e8, h⟩ := h
  refine ⟨b7, e8, ?_⟩
  obtain ⟨c9, h⟩ := h
  refine ⟨c9, ?_⟩
  obtain ⟨c10, h⟩ := h
  refine ⟨c10, ?_⟩
  intro x12 e11
  have h := h x12 e11
  obtain ⟨b13, e14, h⟩ := h
  refine ⟨b13, e14, ?_⟩
  obtain ⟨c15, h⟩ := h
  refine ⟨c15, ?_⟩
  have o16 := c15
  obtain ⟨b17, e18, h⟩ := h
  refine ⟨b17, e18, ?_⟩
  obtain ⟨c19, h⟩ := h
  refine ⟨c19, ?_⟩
  obtain ⟨c20, h⟩ := h
  refine ⟨c20, ?_⟩
  intro x22 e21
  have h := h x22 e21
  refine ⟨?_, ?_⟩
  · intro c23
    have h := h.1 c23
    exact kj_X11_isForward_112 hU hL h K
  · intro c24
    have h := h.2 c24
    exact kj_X11_isForward_112 hU hL h K
set_option maxRecDepth 20000 in
set_option maxHeartbeats 1000000 in
theorem kj_X11_isForward_54 {L : List (Nat × Nat)} (hU : ∀ q ∈ L, q ∈ njT) (hL : ∀ q ∈ kjL_X11_isForward, q ∈ L) {Q : Int32 → HS → Prop} {v0 : Nat} {v1 : Int32} {v2 : Int32} {v4 : Int32} {v6 : Int32} {v7 : Int32} {s0 : Int32} {S0 S : HS} (h : P_X11_isForward_54 Q v0 v1 v2 v4 v6 v7 s0 S) (K : KJ L S0 S) : P_X11_isForward_54 (fun r T => Q r T ∧ KJ L S0 T) v0 v1 v2 v4 v6 v7 s0 S := by
  delta P_X11_isForward_54 at h ⊢
  obtain ⟨c1, h⟩ := h
  refine ⟨c1, ?_⟩
  have o2 := c1
  obtain ⟨b3, e4, h⟩ := h
  refine ⟨b3, e4, ?_⟩
  obtain ⟨c5, h⟩ := h
  refine ⟨c5, ?_⟩
  have o6 := c5
  obtain ⟨b7, e8, h⟩ := h
  refine ⟨b7, e8, ?_⟩
  obtain ⟨c9, h⟩ := h
  refine ⟨c9, ?_⟩
  obtain ⟨c10, h⟩ := h
  refine ⟨c10, ?_⟩
  intro x12 e11
  have h := h x12 e11
  refine ⟨?_, ?_⟩
  · intro c13
    have h := h.1 c13
    obtain ⟨b14, e15, h⟩ := h
    refine ⟨b14, e15, ?_⟩
    obtain ⟨c16, h⟩ := h
    refine ⟨c16, ?_⟩
    have o17 := c16
    obtain ⟨b18, e19, h⟩ := h
    refine ⟨b18, e19, ?_⟩
    obtain ⟨c20, h⟩ := h
    refine ⟨c20, ?_⟩
    obtain ⟨c21, h⟩ := h
    refine ⟨c21, ?_⟩
    intro x23 e22
    have h := h x23 e22
    exact kj_X11_isForward_84 hU hL h K
  · intro c24
    have h := h.2 c24
    exact kj_X11_isForward_84 hU hL h K
set_option maxRecDepth 20000 in
set_option maxHeartbeats 1000000 in
theorem kj_X11_isForward_0 {L : List (Nat × Nat)} (hU : ∀ q ∈ L, q ∈ njT) (hL : ∀ q ∈ kjL_X11_isForward, q ∈ L) {Q : Int32 → HS → Prop} {v0 : Nat} {v1 : Int32} {v2 : Int32} {v3 : Int32} {v4 : Int32} {v5 : Int32} {S0 S : HS} (h : P_X11_isForward_0 Q v0 v1 v2 v3 v4 v5 S) (K : KJ L S0 S) : P_X11_isForward_0 (fun r T => Q r T ∧ KJ L S0 T) v0 v1 v2 v3 v4 v5 S := by
  delta P_X11_isForward_0 at h ⊢
  obtain ⟨c1, h⟩ := h
  refine ⟨c1, ?_⟩
  have o2 := c1
  obtain ⟨b3, e4, h⟩ := h
  refine ⟨b3, e4, ?_⟩
  obtain ⟨c5, h⟩ := h
  refine ⟨c5, ?_⟩
  refine cm_X10_shield (kj_X10_shield hU (fun q hq => hL q ((by decide : ∀ q ∈ kjL_X10_shield, q ∈ kjL_X11_isForward) q hq)) h) h (fun x6 x7 p9 h g8 => ?_)
  have h := h g8
  have K := kj9_tr K p9.2
  have o2 := gr_ob p9.2.1 o2
  obtain ⟨b10, e11, h⟩ := h
  refine ⟨b10, e11, ?_⟩
  obtain ⟨c12, h⟩ := h
  refine ⟨c12, ?_⟩
  refine cm_X10_air (kj_X10_air hU (fun q hq => hL q ((by decide : ∀ q ∈ kjL_X10_air, q ∈ kjL_X11_isForward) q hq)) h) h (fun x13 x14 p16 h g15 => ?_)
  have h := h g15
  have K := kj9_tr K p16.2
  have o2 := gr_ob p16.2.1 o2
  intro x18 e17
  have h := h x18 e17
  obtain ⟨b19, e20, h⟩ := h
  refine ⟨b19, e20, ?_⟩
  obtain ⟨c21, h⟩ := h
  refine ⟨c21, ?_⟩
  have o22 := c21
  obtain ⟨b23, e24, h⟩ := h
  refine ⟨b23, e24, ?_⟩
  obtain ⟨c25, h⟩ := h
  refine ⟨c25, ?_⟩
  obtain ⟨c26, h⟩ := h
  refine ⟨c26, ?_⟩
  intro x28 e27
  have h := h x28 e27
  refine ⟨?_, ?_⟩
  · intro c29
    have h := h.1 c29
    obtain ⟨b30, e31, h⟩ := h
    refine ⟨b30, e31, ?_⟩
    obtain ⟨c32, h⟩ := h
    refine ⟨c32, ?_⟩
    have o33 := c32
    obtain ⟨b34, e35, h⟩ := h
    refine ⟨b34, e35, ?_⟩
    obtain ⟨c36, h⟩ := h
    refine ⟨c36, ?_⟩
    obtain ⟨c37, h⟩ := h
    refine ⟨c37, ?_⟩
    intro x39 e38
    have h := h x39 e38
    exact kj_X11_isForward_54 hU hL h K
  · intro c40
    have h := h.2 c40
    exact kj_X11_isForward_54 hU hL h K
theorem kj_X11_isForward {L : List (Nat × Nat)} (hU : ∀ q ∈ L, q ∈ njT) (hL : ∀ q ∈ kjL_X11_isForward, q ∈ L) {Q : Int32 → HS → Prop} {v0 : Nat} {v1 : Int32} {v2 : Int32} {v3 : Int32} {v4 : Int32} {v5 : Int32} {S : HS} (h : P_X11_isForward v0 v1 v2 v3 v4 v5 Q S) : P_X11_isForward v0 v1 v2 v3 v4 v5 (fun r T => Q r T ∧ KJ L S T) S := kj_X11_isForward_0 hU hL h (kj9_rf L S)
abbrev kjL_X11_less : List (Nat × Nat) := []
set_option maxRecDepth 20000 in
set_option maxHeartbeats 1000000 in
theorem kj_X11_less_0 {L : List (Nat × Nat)} (hU : ∀ q ∈ L, q ∈ njT) (hL : ∀ q ∈ kjL_X11_less, q ∈ L) {Q : Int32 → HS → Prop} {v0 : Int32} {v1 : Int32} {S0 S : HS} (h : P_X11_less_0 Q v0 v1 S) (K : KJ L S0 S) : P_X11_less_0 (fun r T => Q r T ∧ KJ L S0 T) v0 v1 S := by
  delta P_X11_less_0 at h ⊢
  refine ⟨?_, ?_⟩
  · intro c1
    have h := h.1 c1
    exact ⟨h, K⟩
  · intro c2
    have h := h.2 c2
    exact ⟨h, K⟩
theorem kj_X11_less {L : List (Nat × Nat)} (hU : ∀ q ∈ L, q ∈ njT) (hL : ∀ q ∈ kjL_X11_less, q ∈ L) {Q : Int32 → HS → Prop} {v0 : Int32} {v1 : Int32} {S : HS} (h : P_X11_less v0 v1 Q S) : P_X11_less v0 v1 (fun r T => Q r T ∧ KJ L S T) S := kj_X11_less_0 hU hL h (kj9_rf L S)
abbrev kjL_X11_inTime : List (Nat × Nat) := []
set_option maxRecDepth 20000 in
set_option maxHeartbeats 1000000 in
theorem kj_X11_inTime_129 {L : List (Nat × Nat)} (hU : ∀ q ∈ L, q ∈ njT) (hL : ∀ q ∈ kjL_X11_inTime, q ∈ L) {Q : Int32 → HS → Prop} {s0 : Int32} {s1 : Int32} {s2 : Int32} {S0 S : HS} (h : P_X11_inTime_129 Q s0 s1 s2 S) (K : KJ L S0 S) : P_X11_inTime_129 (fun r T => Q r T ∧ KJ L S0 T) s0 s1 s2 S := by
  delta P_X11_inTime_129 at h ⊢
  refine cm_X11_less (kj_X11_less hU (fun q hq => hL q ((by decide : ∀ q ∈ kjL_X11_less, q ∈ kjL_X11_inTime) q hq)) h) h (fun x1 x2 p4 h g3 => ?_)
  have h := h g3
  have K := kj9_tr K p4.2
  exact ⟨h, K⟩
set_option maxRecDepth 20000 in
set_option maxHeartbeats 1000000 in
theorem kj_X11_inTime_164 {L : List (Nat × Nat)} (hU : ∀ q ∈ L, q ∈ njT) (hL : ∀ q ∈ kjL_X11_inTime, q ∈ L) {Q : Int32 → HS → Prop} {v7 : Int32} {s0 : Int32} {s1 : Int32} {s2 : Int32} {S0 S : HS} (h : P_X11_inTime_164 Q v7 s0 s1 s2 S) (K : KJ L S0 S) : P_X11_inTime_164 (fun r T => Q r T ∧ KJ L S0 T) v7 s0 s1 s2 S := by
  delta P_X11_inTime_164 at h ⊢
  refine cm_X11_less (kj_X11_less hU (fun q hq => hL q ((by decide : ∀ q ∈ kjL_X11_less, q ∈ kjL_X11_inTime) q hq)) h) h (fun x1 x2 p4 h g3 => ?_)
  have h := h g3
  have K := kj9_tr K p4.2
  refine cm_X11_less (kj_X11_less hU (fun q hq => hL q ((by decide : ∀ q ∈ kjL_X11_less, q ∈ kjL_X11_inTime) q hq)) h) h (fun x5 x6 p8 h g7 => ?_)
  have h := h g7
  have K := kj9_tr K p8.2
  exact ⟨h, K⟩
set_option maxRecDepth 20000 in
set_option maxHeartbeats 1000000 in
theorem kj_X11_inTime_0 {L : List (Nat × Nat)} (hU : ∀ q ∈ L, q ∈ njT) (hL : ∀ q ∈ kjL_X11_inTime, q ∈ L) {Q : Int32 → HS → Prop} {v0 : Nat} {v1 : Int32} {v2 : Int32} {v3 : Int32} {v4 : Int32} {v5 : Int32} {v6 : Int32} {v7 : Int32} {v8 : Int32} {S0 S : HS} (h : P_X11_inTime_0 Q v0 v1 v2 v3 v4 v5 v6 v7 v8 S) (K : KJ L S0 S) : P_X11_inTime_0 (fun r T => Q r T ∧ KJ L S0 T) v0 v1 v2 v3 v4 v5 v6 v7 v8 S := by
  delta P_X11_inTime_0 at h ⊢
  obtain ⟨c1, h⟩ := h
  refine ⟨c1, ?_⟩
  have o2 := c1
  obtain ⟨b3, e4, h⟩ := h
  refine ⟨b3, e4, ?_⟩
  obtain ⟨c5, h⟩ := h
  refine ⟨c5, ?_⟩
  have o6 := c5
  obtain ⟨b7, e8, h⟩ := h
  refine ⟨b7, e8, ?_⟩
  obtain ⟨c9, h⟩ := h
  refine ⟨c9, ?_⟩
  obtain ⟨c10, h⟩ := h
  refine ⟨c10, ?_⟩
  intro x12 e11
  have h := h x12 e11
  obtain ⟨b13, e14, h⟩ := h
  refine ⟨b13, e14, ?_⟩
  obtain ⟨c15, h⟩ := h
  refine ⟨c15, ?_⟩
  refine cm_X10_air (kj_X10_air hU (fun q hq => hL q ((by decide : ∀ q ∈ kjL_X10_air, q ∈ kjL_X11_inTime) q hq)) h) h (fun x16 x17 p19 h g18 => ?_)
  have h := h g18
  have K := kj9_tr K p19.2
  have o2 := gr_ob p19.2.1 o2
  have o6 := gr_ob p19.2.1 o6
  intro x21 e20
  have h := h x21 e20
  obtain ⟨b22, e23, h⟩ := h
  refine ⟨b22, e23, ?_⟩
  obtain ⟨c24, h⟩ := h
  refine ⟨c24, ?_⟩
  refine cm_X10_across (kj_X10_across hU (fun q hq => hL q ((by decide : ∀ q ∈ kjL_X10_across, q ∈ kjL_X11_inTime) q hq)) h) h (fun x25 x26 p28 h g27 => ?_)
  have h := h g27
  have K := kj9_tr K p28.2
  have o2 := gr_ob p28.2.1 o2
  have o6 := gr_ob p28.2.1 o6
  refine cm_X11_isForward (kj_X11_isForward hU (fun q hq => hL q ((by decide : ∀ q ∈ kjL_X11_isForward, q ∈ kjL_X11_inTime) q hq)) h) h (fun x29 x30 p33 h g31 g32 => ?_)
  have h := h g31 g32
  have K := kj9_tr K p33.2
  have o2 := gr_ob p33.2.1 o2
  have o6 := gr_ob p33.2.1 o6
  obtain ⟨b34, e35, h⟩ := h
  refine ⟨b34, e35, ?_⟩
  obtain ⟨c36, h⟩ := h
  refine ⟨c36, ?_⟩
  refine cm_X10_shield (kj_X10_shield hU (fun q hq => hL q ((by decide : ∀ q ∈ kjL_X10_shield, q ∈ kjL_X11_inTime) q hq)) h) h (fun x37 x38 p40 h g39 => ?_)
  have h := h g39
  have K := kj9_tr K p40.2
  have o2 := gr_ob p40.2.1 o2
  have o6 := gr_ob p40.2.1 o6
  refine ⟨?_, ?_, ?_, ?_, ?_⟩
  · intro c41
    have h := h.1 c41
    refine ⟨?_, ?_⟩
    · intro c42
      have h := h.1 c42
      exact ⟨h, K⟩
    · intro c43
      have h := h.2 c43
      obtain ⟨b44, e45, h⟩ := h
      refine ⟨b44, e45, ?_⟩
      obtain ⟨c46, h⟩ := h
      refine ⟨c46, ?_⟩
      have o47 := c46
      obtain ⟨b48, e49, h⟩ := h
      refine ⟨b48, e49, ?_⟩
      obtain ⟨c50, h⟩ := h
      refine ⟨c50, ?_⟩
      obtain ⟨c51, h⟩ := h
      refine ⟨c51, ?_⟩
      intro x53 e52
      have h := h x53 e52
      exact ⟨h, K⟩
  · intro c54
    have h := h.2.1 c54
    obtain ⟨b55, e56, h⟩ := h
    refine ⟨b55, e56, ?_⟩
    obtain ⟨c57, h⟩ := h
    refine ⟨c57, ?_⟩
    have o58 := c57
    obtain ⟨b59, e60, h⟩ := h
    refine ⟨b59, e60, ?_⟩
    obtain ⟨c61, h⟩ := h
    refine ⟨c61, ?_⟩
    obtain ⟨c62, h⟩ := h
    refine ⟨c62, ?_⟩
    intro x64 e63
    have h := h x64 e63
    obtain ⟨b65, e66, h⟩ := h
    refine ⟨b65, e66, ?_⟩
    obtain ⟨c67, h⟩ := h
    refine ⟨c67, ?_⟩
    have o68 := c67
    obtain ⟨b69, e70, h⟩ := h
    refine ⟨b69, e70, ?_⟩
    obtain ⟨c71, h⟩ := h
    refine ⟨c71, ?_⟩
    obtain ⟨c72, h⟩ := h
    refine ⟨c72, ?_⟩
    intro x74 e73
    have h := h x74 e73
    refine ⟨?_, ?_⟩
    · intro c75
      have h := h.1 c75
      exact kj_X11_inTime_129 hU hL h K
    · intro c76
      have h := h.2 c76
      exact kj_X11_inTime_129 hU hL h K
  · intro c77
    have h := h.2.2.1 c77
    refine ⟨?_, ?_⟩
    · intro c78
      have h := h.1 c78
      exact ⟨h, K⟩
    · intro c79
      have h := h.2 c79
      obtain ⟨b80, e81, h⟩ := h
      refine ⟨b80, e81, ?_⟩
      obtain ⟨c82, h⟩ := h
      refine ⟨c82, ?_⟩
      have o83 := c82
      obtain ⟨b84, e85, h⟩ := h
      refine ⟨b84, e85, ?_⟩
      obtain ⟨c86, h⟩ := h
      refine ⟨c86, ?_⟩
      obtain ⟨c87, h⟩ := h
      refine ⟨c87, ?_⟩
      intro x89 e88
      have h := h x89 e88
      refine ⟨?_, ?_⟩
      · intro c90
        have h := h.1 c90
        exact kj_X11_inTime_164 hU hL h K
      · intro c91
        have h := h.2 c91
        exact kj_X11_inTime_164 hU hL h K
  · intro c92
    have h := h.2.2.2.1 c92
    refine ⟨?_, ?_⟩
    · intro c93
      have h := h.1 c93
      exact ⟨h, K⟩
    · intro c94
      have h := h.2 c94
      obtain ⟨b95, e96, h⟩ := h
      refine ⟨b95, e96, ?_⟩
      obtain ⟨c97, h⟩ := h
      refine ⟨c97, ?_⟩
      have o98 := c97
      obtain ⟨b99, e100, h⟩ := h
      refine ⟨b99, e100, ?_⟩
      obtain ⟨c101, h⟩ := h
      refine ⟨c101, ?_⟩
      obtain ⟨c102, h⟩ := h
      refine ⟨c102, ?_⟩
      intro x104 e103
      have h := h x104 e103
      refine cm_X11_less (kj_X11_less hU (fun q hq => hL q ((by decide : ∀ q ∈ kjL_X11_less, q ∈ kjL_X11_inTime) q hq)) h) h (fun x105 x106 p108 h g107 => ?_)
      have h := h g107
      have K := kj9_tr K p108.2
      have o2 := gr_ob p108.2.1 o2
      have o6 := gr_ob p108.2.1 o6
      have o98 := gr_ob p108.2.1 o98
      exact ⟨h, K⟩
  · intro c109
    have h := h.2.2.2.2 c109
    refine ⟨?_, ?_⟩
    · intro c110
      have h := h.1 c110
      exact ⟨h, K⟩
    · intro c111
      have h := h.2 c111
      obtain ⟨b112, e113, h⟩ := h
      refine ⟨b112, e113, ?_⟩
      obtain ⟨c114, h⟩ := h
      refine ⟨c114, ?_⟩
      have o115 := c114
      obtain ⟨b116, e117, h⟩ := h
      refine ⟨b116, e117, ?_⟩
      obtain ⟨c118, h⟩ := h
      refine ⟨c118, ?_⟩
      obtain ⟨c119, h⟩ := h
      refine ⟨c119, ?_⟩
      intro x121 e120
      have h := h x121 e120
      exact ⟨h, K⟩
theorem kj_X11_inTime {L : List (Nat × Nat)} (hU : ∀ q ∈ L, q ∈ njT) (hL : ∀ q ∈ kjL_X11_inTime, q ∈ L) {Q : Int32 → HS → Prop} {v0 : Nat} {v1 : Int32} {v2 : Int32} {v3 : Int32} {v4 : Int32} {v5 : Int32} {v6 : Int32} {v7 : Int32} {v8 : Int32} {S : HS} (h : P_X11_inTime v0 v1 v2 v3 v4 v5 v6 v7 v8 Q S) : P_X11_inTime v0 v1 v2 v3 v4 v5 v6 v7 v8 (fun r T => Q r T ∧ KJ L S T) S := kj_X11_inTime_0 hU hL h (kj9_rf L S)
abbrev kjL_X11_partsOf : List (Nat × Nat) := []
set_option maxRecDepth 20000 in
set_option maxHeartbeats 1000000 in
theorem kj_X11_partsOf_0 {L : List (Nat × Nat)} (hU : ∀ q ∈ L, q ∈ njT) (hL : ∀ q ∈ kjL_X11_partsOf, q ∈ L) {Q : Int64 → HS → Prop} {v0 : Nat} {v1 : Int32} {v2 : Int32} {v3 : Int32} {v4 : Int32} {v5 : Int32} {v6 : Int32} {S0 S : HS} (h : P_X11_partsOf_0 Q v0 v1 v2 v3 v4 v5 v6 S) (K : KJ L S0 S) : P_X11_partsOf_0 (fun r T => Q r T ∧ KJ L S0 T) v0 v1 v2 v3 v4 v5 v6 S := by
  delta P_X11_partsOf_0 at h ⊢
  obtain ⟨c1, h⟩ := h
  refine ⟨c1, ?_⟩
  have o2 := c1
  refine cm_X11_inTime (kj_X11_inTime hU (fun q hq => hL q ((by decide : ∀ q ∈ kjL_X11_inTime, q ∈ kjL_X11_partsOf) q hq)) h) h (fun x3 x4 p6 h g5 => ?_)
  have h := h g5
  have K := kj9_tr K p6.2
  have o2 := gr_ob p6.2.1 o2
  obtain ⟨b7, e8, h⟩ := h
  refine ⟨b7, e8, ?_⟩
  obtain ⟨c9, h⟩ := h
  refine ⟨c9, ?_⟩
  have o10 := c9
  obtain ⟨b11, e12, h⟩ := h
  refine ⟨b11, e12, ?_⟩
  obtain ⟨c13, h⟩ := h
  refine ⟨c13, ?_⟩
  obtain ⟨c14, h⟩ := h
  refine ⟨c14, ?_⟩
  intro x16 e15
  have h := h x16 e15
  obtain ⟨b17, e18, h⟩ := h
  refine ⟨b17, e18, ?_⟩
  obtain ⟨c19, h⟩ := h
  refine ⟨c19, ?_⟩
  have o20 := c19
  obtain ⟨b21, e22, h⟩ := h
  refine ⟨b21, e22, ?_⟩
  obtain ⟨c23, h⟩ := h
  refine ⟨c23, ?_⟩
  obtain ⟨c24, h⟩ := h
  refine ⟨c24, ?_⟩
  intro x26 e25
  have h := h x26 e25
  obtain ⟨c27, h⟩ := h
  refine ⟨c27, ?_⟩
  intro x29 e28
  have h := h x29 e28
  exact ⟨h, K⟩
theorem kj_X11_partsOf {L : List (Nat × Nat)} (hU : ∀ q ∈ L, q ∈ njT) (hL : ∀ q ∈ kjL_X11_partsOf, q ∈ L) {Q : Int64 → HS → Prop} {v0 : Nat} {v1 : Int32} {v2 : Int32} {v3 : Int32} {v4 : Int32} {v5 : Int32} {v6 : Int32} {S : HS} (h : P_X11_partsOf v0 v1 v2 v3 v4 v5 v6 Q S) : P_X11_partsOf v0 v1 v2 v3 v4 v5 v6 (fun r T => Q r T ∧ KJ L S T) S := kj_X11_partsOf_0 hU hL h (kj9_rf L S)
abbrev kjL_X11_wetOf : List (Nat × Nat) := []
set_option maxRecDepth 20000 in
set_option maxHeartbeats 1000000 in
theorem kjB_X11_wetOf_6 {L : List (Nat × Nat)} (hU : ∀ q ∈ L, q ∈ njT) (hL : ∀ q ∈ kjL_X11_wetOf, q ∈ L) {Q : Int64 → HS → Prop} {X6 X6_2 : Nat → Int32 → Int32 → Int32 → Int32 → Int32 → Int64 → Int32 → HS → Prop} {v0 : Nat} {v1 : Int32} {v2 : Int32} {v3 : Int32} {v4 : Int32} {v5 : Int32} {v6 : Int64} {v8 : Int32} {S0 S : HS} (h : B_X11_wetOf_6 Q X6 v0 v1 v2 v3 v4 v5 v6 v8 S) (K : KJ L S0 S) (hX6 : ∀ (u0 : Nat) (u1 : Int32) (u2 : Int32) (u3 : Int32) (u4 : Int32) (u5 : Int32) (u6 : Int64) (u7 : Int32) (u8 : HS), X6 u0 u1 u2 u3 u4 u5 u6 u7 u8 → KJ L S0 u8 → X6_2 u0 u1 u2 u3 u4 u5 u6 u7 u8) : B_X11_wetOf_6 (fun r T => Q r T ∧ KJ L S0 T) X6_2 v0 v1 v2 v3 v4 v5 v6 v8 S := by
  delta B_X11_wetOf_6 at h ⊢
  refine ⟨?_, ?_⟩
  · intro c1
    have h := h.1 c1
    exact ⟨h, K⟩
  · intro c2
    have h := h.2 c2
    obtain ⟨c3, h⟩ := h
    refine ⟨c3, ?_⟩
    refine cm_X11_partsOf (kj_X11_partsOf hU (fun q hq => hL q ((by decide : ∀ q ∈ kjL_X11_partsOf, q ∈ kjL_X11_wetOf) q hq)) h) h (fun x4 x5 p7 h g6 => ?_)
    have h := h g6
    have K := kj9_tr K p7.2
    intro x9 e8
    have h := h x9 e8
    intro x11 e10
    have h := h x11 e10
    exact hX6 _ _ _ _ _ _ _ _ _ h K
theorem kj_X11_wetOf_6 {L : List (Nat × Nat)} (hU : ∀ q ∈ L, q ∈ njT) (hL : ∀ q ∈ kjL_X11_wetOf, q ∈ L) {Q : Int64 → HS → Prop} {v0 : Nat} {v1 : Int32} {v2 : Int32} {v3 : Int32} {v4 : Int32} {v5 : Int32} {v6 : Int64} {v8 : Int32} {S0 S : HS} (h : P_X11_wetOf_6 Q v0 v1 v2 v3 v4 v5 v6 v8 S) (K : KJ L S0 S) : P_X11_wetOf_6 (fun r T => Q r T ∧ KJ L S0 T) v0 v1 v2 v3 v4 v5 v6 v8 S := h (fun v0 v1 v2 v3 v4 v5 v6 v8 S => KJ L S0 S → P_X11_wetOf_6 (fun r T => Q r T ∧ KJ L S0 T) v0 v1 v2 v3 v4 v5 v6 v8 S) (fun v0 v1 v2 v3 v4 v5 v6 v8 S hB K => fd_X11_wetOf_6 (kjB_X11_wetOf_6 hU hL hB K (fun _ _ _ _ _ _ _ _ _ hx K => hx K))) K
set_option maxRecDepth 20000 in
set_option maxHeartbeats 1000000 in
theorem kj_X11_wetOf_0 {L : List (Nat × Nat)} (hU : ∀ q ∈ L, q ∈ njT) (hL : ∀ q ∈ kjL_X11_wetOf, q ∈ L) {Q : Int64 → HS → Prop} {v0 : Nat} {v1 : Int32} {v2 : Int32} {v3 : Int32} {v4 : Int32} {v5 : Int32} {S0 S : HS} (h : P_X11_wetOf_0 Q v0 v1 v2 v3 v4 v5 S) (K : KJ L S0 S) : P_X11_wetOf_0 (fun r T => Q r T ∧ KJ L S0 T) v0 v1 v2 v3 v4 v5 S := by
  delta P_X11_wetOf_0 at h ⊢
  exact kj_X11_wetOf_6 hU hL h K
theorem kj_X11_wetOf {L : List (Nat × Nat)} (hU : ∀ q ∈ L, q ∈ njT) (hL : ∀ q ∈ kjL_X11_wetOf, q ∈ L) {Q : Int64 → HS → Prop} {v0 : Nat} {v1 : Int32} {v2 : Int32} {v3 : Int32} {v4 : Int32} {v5 : Int32} {S : HS} (h : P_X11_wetOf v0 v1 v2 v3 v4 v5 Q S) : P_X11_wetOf v0 v1 v2 v3 v4 v5 (fun r T => Q r T ∧ KJ L S T) S := kj_X11_wetOf_0 hU hL h (kj9_rf L S)
abbrev kjL_X11_bestOf : List (Nat × Nat) := []
set_option maxRecDepth 20000 in
set_option maxHeartbeats 1000000 in
theorem kj_X11_bestOf_61 {L : List (Nat × Nat)} (hU : ∀ q ∈ L, q ∈ njT) (hL : ∀ q ∈ kjL_X11_bestOf, q ∈ L) {Q : Int32 → HS → Prop} {X17 X17_2 : Nat → Int32 → Int32 → Int32 → Int32 → Int32 → Int32 → HS → Prop} {v0 : Nat} {v1 : Int32} {v2 : Int32} {v3 : Int32} {v4 : Int32} {v5 : Int32} {v6 : Int32} {S0 S : HS} (h : P_X11_bestOf_61 Q X17 v0 v1 v2 v3 v4 v5 v6 S) (K : KJ L S0 S) (hX17 : ∀ (u0 : Nat) (u1 : Int32) (u2 : Int32) (u3 : Int32) (u4 : Int32) (u5 : Int32) (u6 : Int32) (u7 : HS), X17 u0 u1 u2 u3 u4 u5 u6 u7 → KJ L S0 u7 → X17_2 u0 u1 u2 u3 u4 u5 u6 u7) : P_X11_bestOf_61 (fun r T => Q r T ∧ KJ L S0 T) X17_2 v0 v1 v2 v3 v4 v5 v6 S := by
  delta P_X11_bestOf_61 at h ⊢
  intro x2 e1
  have h := h x2 e1
  exact hX17 _ _ _ _ _ _ _ _ h K
set_option maxRecDepth 20000 in
set_option maxHeartbeats 1000000 in
theorem kjB_X11_bestOf_17 {L : List (Nat × Nat)} (hU : ∀ q ∈ L, q ∈ njT) (hL : ∀ q ∈ kjL_X11_bestOf, q ∈ L) {Q : Int32 → HS → Prop} {X17 X17_2 : Nat → Int32 → Int32 → Int32 → Int32 → Int32 → Int32 → HS → Prop} {v0 : Nat} {v1 : Int32} {v2 : Int32} {v3 : Int32} {v4 : Int32} {v5 : Int32} {v6 : Int32} {S0 S : HS} (h : B_X11_bestOf_17 Q X17 v0 v1 v2 v3 v4 v5 v6 S) (K : KJ L S0 S) (hX17 : ∀ (u0 : Nat) (u1 : Int32) (u2 : Int32) (u3 : Int32) (u4 : Int32) (u5 : Int32) (u6 : Int32) (u7 : HS), X17 u0 u1 u2 u3 u4 u5 u6 u7 → KJ L S0 u7 → X17_2 u0 u1 u2 u3 u4 u5 u6 u7) : B_X11_bestOf_17 (fun r T => Q r T ∧ KJ L S0 T) X17_2 v0 v1 v2 v3 v4 v5 v6 S := by
  delta B_X11_bestOf_17 at h ⊢
  obtain ⟨c1, h⟩ := h
  refine ⟨c1, ?_⟩
  have o2 := c1
  obtain ⟨b3, e4, h⟩ := h
  refine ⟨b3, e4, ?_⟩
  obtain ⟨c5, h⟩ := h
  refine ⟨c5, ?_⟩
  have o6 := c5
  obtain ⟨b7, e8, h⟩ := h
  refine ⟨b7, e8, ?_⟩
  obtain ⟨c9, h⟩ := h
  refine ⟨c9, ?_⟩
  obtain ⟨c10, h⟩ := h
  refine ⟨c10, ?_⟩
  intro x12 e11
  have h := h x12 e11
  refine ⟨?_, ?_⟩
  · intro c13
    have h := h.1 c13
    exact ⟨h, K⟩
  · intro c14
    have h := h.2 c14
    refine cm_X11_wetOf (kj_X11_wetOf hU (fun q hq => hL q ((by decide : ∀ q ∈ kjL_X11_wetOf, q ∈ kjL_X11_bestOf) q hq)) h) h (fun x15 x16 p18 h g17 => ?_)
    have h := h g17
    have K := kj9_tr K p18.2
    have o2 := gr_ob p18.2.1 o2
    have o6 := gr_ob p18.2.1 o6
    refine cm_X11_wetOf (kj_X11_wetOf hU (fun q hq => hL q ((by decide : ∀ q ∈ kjL_X11_wetOf, q ∈ kjL_X11_bestOf) q hq)) h) h (fun x19 x20 p22 h g21 => ?_)
    have h := h g21
    have K := kj9_tr K p22.2
    have o2 := gr_ob p22.2.1 o2
    have o6 := gr_ob p22.2.1 o6
    refine ⟨?_, ?_⟩
    · intro c23
      have h := h.1 c23
      exact kj_X11_bestOf_61 hU hL h K hX17
    · intro c24
      have h := h.2 c24
      exact kj_X11_bestOf_61 hU hL h K hX17
theorem kj_X11_bestOf_17 {L : List (Nat × Nat)} (hU : ∀ q ∈ L, q ∈ njT) (hL : ∀ q ∈ kjL_X11_bestOf, q ∈ L) {Q : Int32 → HS → Prop} {v0 : Nat} {v1 : Int32} {v2 : Int32} {v3 : Int32} {v4 : Int32} {v5 : Int32} {v6 : Int32} {S0 S : HS} (h : P_X11_bestOf_17 Q v0 v1 v2 v3 v4 v5 v6 S) (K : KJ L S0 S) : P_X11_bestOf_17 (fun r T => Q r T ∧ KJ L S0 T) v0 v1 v2 v3 v4 v5 v6 S := h (fun v0 v1 v2 v3 v4 v5 v6 S => KJ L S0 S → P_X11_bestOf_17 (fun r T => Q r T ∧ KJ L S0 T) v0 v1 v2 v3 v4 v5 v6 S) (fun v0 v1 v2 v3 v4 v5 v6 S hB K => fd_X11_bestOf_17 (kjB_X11_bestOf_17 hU hL hB K (fun _ _ _ _ _ _ _ _ hx K => hx K))) K
set_option maxRecDepth 20000 in
set_option maxHeartbeats 1000000 in
theorem kj_X11_bestOf_0 {L : List (Nat × Nat)} (hU : ∀ q ∈ L, q ∈ njT) (hL : ∀ q ∈ kjL_X11_bestOf, q ∈ L) {Q : Int32 → HS → Prop} {v0 : Nat} {v1 : Int32} {v2 : Int32} {v3 : Int32} {v4 : Int32} {S0 S : HS} (h : P_X11_bestOf_0 Q v0 v1 v2 v3 v4 S) (K : KJ L S0 S) : P_X11_bestOf_0 (fun r T => Q r T ∧ KJ L S0 T) v0 v1 v2 v3 v4 S := by
  delta P_X11_bestOf_0 at h ⊢
  obtain ⟨c1, h⟩ := h
  refine ⟨c1, ?_⟩
  have o2 := c1
  obtain ⟨b3, e4, h⟩ := h
  refine ⟨b3, e4, ?_⟩
  obtain ⟨c5, h⟩ := h
  refine ⟨c5, ?_⟩
  have o6 := c5
  obtain ⟨b7, e8, h⟩ := h
  refine ⟨b7, e8, ?_⟩
  obtain ⟨c9, h⟩ := h
  refine ⟨c9, ?_⟩
  obtain ⟨c10, h⟩ := h
  refine ⟨c10, ?_⟩
  intro x12 e11
  have h := h x12 e11
  intro x14 e13
  have h := h x14 e13
  exact kj_X11_bestOf_17 hU hL h K
theorem kj_X11_bestOf {L : List (Nat × Nat)} (hU : ∀ q ∈ L, q ∈ njT) (hL : ∀ q ∈ kjL_X11_bestOf, q ∈ L) {Q : Int32 → HS → Prop} {v0 : Nat} {v1 : Int32} {v2 : Int32} {v3 : Int32} {v4 : Int32} {S : HS} (h : P_X11_bestOf v0 v1 v2 v3 v4 Q S) : P_X11_bestOf v0 v1 v2 v3 v4 (fun r T => Q r T ∧ KJ L S T) S := kj_X11_bestOf_0 hU hL h (kj9_rf L S)
abbrev kjL_X11_isWalker : List (Nat × Nat) := []
set_option maxRecDepth 20000 in
set_option maxHeartbeats 1000000 in
theorem kj_X11_isWalker_0 {L : List (Nat × Nat)} (hU : ∀ q ∈ L, q ∈ njT) (hL : ∀ q ∈ kjL_X11_isWalker, q ∈ L) {Q : Int32 → HS → Prop} {v0 : Nat} {v1 : Int32} {S0 S : HS} (h : P_X11_isWalker_0 Q v0 v1 S) (K : KJ L S0 S) : P_X11_isWalker_0 (fun r T => Q r T ∧ KJ L S0 T) v0 v1 S := by
  delta P_X11_isWalker_0 at h ⊢
  obtain ⟨c1, h⟩ := h
  refine ⟨c1, ?_⟩
  have o2 := c1
  refine ⟨?_, ?_⟩
  · intro c3
    have h := h.1 c3
    exact ⟨h, K⟩
  · intro x4 c5
    have h := h.2 x4 c5
    refine ⟨?_, ?_⟩
    · intro c6
      have h := h.1 c6
      exact ⟨h, K⟩
    · intro c7
      have h := h.2 c7
      obtain ⟨b8, e9, h⟩ := h
      refine ⟨b8, e9, ?_⟩
      obtain ⟨c10, h⟩ := h
      refine ⟨c10, ?_⟩
      intro x12 e11
      have h := h x12 e11
      refine ⟨?_, ?_⟩
      · intro c13
        have h := h.1 c13
        exact ⟨h, K⟩
      · intro c14
        have h := h.2 c14
        exact ⟨h, K⟩
theorem kj_X11_isWalker {L : List (Nat × Nat)} (hU : ∀ q ∈ L, q ∈ njT) (hL : ∀ q ∈ kjL_X11_isWalker, q ∈ L) {Q : Int32 → HS → Prop} {v0 : Nat} {v1 : Int32} {S : HS} (h : P_X11_isWalker v0 v1 Q S) : P_X11_isWalker v0 v1 (fun r T => Q r T ∧ KJ L S T) S := kj_X11_isWalker_0 hU hL h (kj9_rf L S)
abbrev kjL_X11_best : List (Nat × Nat) := []
set_option maxRecDepth 20000 in
set_option maxHeartbeats 1000000 in
theorem kj_X11_best_39 {L : List (Nat × Nat)} (hU : ∀ q ∈ L, q ∈ njT) (hL : ∀ q ∈ kjL_X11_best, q ∈ L) {Q : Int32 → HS → Prop} {v0 : Nat} {S0 S : HS} (h : P_X11_best_39 Q v0 S) (K : KJ L S0 S) : P_X11_best_39 (fun r T => Q r T ∧ KJ L S0 T) v0 S := by
  delta P_X11_best_39 at h ⊢
  obtain ⟨c1, h⟩ := h
  refine ⟨c1, ?_⟩
  refine cm_X11_refused (kj_X11_refused hU (fun q hq => hL q ((by decide : ∀ q ∈ kjL_X11_refused, q ∈ kjL_X11_best) q hq)) h) h (fun x2 x3 p5 h g4 => ?_)
  have h := h g4
  have K := kj9_tr K p5.2
  exact ⟨h, K⟩
set_option maxRecDepth 20000 in
set_option maxHeartbeats 1000000 in
theorem kj_X11_best_0 {L : List (Nat × Nat)} (hU : ∀ q ∈ L, q ∈ njT) (hL : ∀ q ∈ kjL_X11_best, q ∈ L) {Q : Int32 → HS → Prop} {v0 : Nat} {v1 : Int32} {v2 : Int32} {v3 : Int32} {v4 : Int32} {S0 S : HS} (h : P_X11_best_0 Q v0 v1 v2 v3 v4 S) (K : KJ L S0 S) : P_X11_best_0 (fun r T => Q r T ∧ KJ L S0 T) v0 v1 v2 v3 v4 S := by
  delta P_X11_best_0 at h ⊢
  obtain ⟨c1, h⟩ := h
  refine ⟨c1, ?_⟩
  have n2 := kj9_nk K c1 (by decide)
  intro x4 e3
  have h := h x4 e3
  have K := kj9_I K e3 n2
  refine cm_X11_isWalker (kj_X11_isWalker hU (fun q hq => hL q ((by decide : ∀ q ∈ kjL_X11_isWalker, q ∈ kjL_X11_best) q hq)) h) h (fun x5 x6 p9 h g7 g8 => ?_)
  have h := h g7 g8
  have K := kj9_tr K p9.2
  refine ⟨?_, ?_⟩
  · intro c10
    have h := h.1 c10
    exact kj_X11_best_39 hU hL h K
  · intro c11
    have h := h.2 c11
    refine cm_X11_isRoad (kj_X11_isRoad hU (fun q hq => hL q ((by decide : ∀ q ∈ kjL_X11_isRoad, q ∈ kjL_X11_best) q hq)) h) h (fun x12 x13 p16 h g14 g15 => ?_)
    have h := h g14 g15
    have K := kj9_tr K p16.2
    refine ⟨?_, ?_⟩
    · intro c17
      have h := h.1 c17
      exact kj_X11_best_39 hU hL h K
    · intro c18
      have h := h.2 c18
      refine cm_X11_in (kj_X11_in hU (fun q hq => hL q ((by decide : ∀ q ∈ kjL_X11_in, q ∈ kjL_X11_best) q hq)) h) h (fun x19 x20 p23 h g21 g22 => ?_)
      have h := h g21 g22
      have K := kj9_tr K p23.2
      refine ⟨?_, ?_⟩
      · intro c24
        have h := h.1 c24
        exact kj_X11_best_39 hU hL h K
      · intro c25
        have h := h.2 c25
        refine cm_X11_isHour (kj_X11_isHour hU (fun q hq => hL q ((by decide : ∀ q ∈ kjL_X11_isHour, q ∈ kjL_X11_best) q hq)) h) h (fun x26 x27 p30 h g28 g29 => ?_)
        have h := h g28 g29
        have K := kj9_tr K p30.2
        refine ⟨?_, ?_⟩
        · intro c31
          have h := h.1 c31
          refine cm_X11_bestOf (kj_X11_bestOf hU (fun q hq => hL q ((by decide : ∀ q ∈ kjL_X11_bestOf, q ∈ kjL_X11_best) q hq)) h) h (fun x32 x33 p35 h g34 => ?_)
          have h := h g34
          have K := kj9_tr K p35.2
          refine cm_X11_good (kj_X11_good hU (fun q hq => hL q ((by decide : ∀ q ∈ kjL_X11_good, q ∈ kjL_X11_best) q hq)) h) h (fun x36 x37 p39 h g38 => ?_)
          have h := h g38
          have K := kj9_tr K p39.2
          exact ⟨h, K⟩
        · intro c40
          have h := h.2 c40
          exact kj_X11_best_39 hU hL h K
theorem kj_X11_best {L : List (Nat × Nat)} (hU : ∀ q ∈ L, q ∈ njT) (hL : ∀ q ∈ kjL_X11_best, q ∈ L) {Q : Int32 → HS → Prop} {v0 : Nat} {v1 : Int32} {v2 : Int32} {v3 : Int32} {v4 : Int32} {S : HS} (h : P_X11_best v0 v1 v2 v3 v4 Q S) : P_X11_best v0 v1 v2 v3 v4 (fun r T => Q r T ∧ KJ L S T) S := kj_X11_best_0 hU hL h (kj9_rf L S)
abbrev kjL_X11_canWait : List (Nat × Nat) := []
set_option maxRecDepth 20000 in
set_option maxHeartbeats 1000000 in
theorem kj_X11_canWait_0 {L : List (Nat × Nat)} (hU : ∀ q ∈ L, q ∈ njT) (hL : ∀ q ∈ kjL_X11_canWait, q ∈ L) {Q : Int32 → HS → Prop} {v0 : Nat} {v1 : Int32} {S0 S : HS} (h : P_X11_canWait_0 Q v0 v1 S) (K : KJ L S0 S) : P_X11_canWait_0 (fun r T => Q r T ∧ KJ L S0 T) v0 v1 S := by
  delta P_X11_canWait_0 at h ⊢
  obtain ⟨c1, h⟩ := h
  refine ⟨c1, ?_⟩
  have o2 := c1
  obtain ⟨b3, e4, h⟩ := h
  refine ⟨b3, e4, ?_⟩
  obtain ⟨c5, h⟩ := h
  refine ⟨c5, ?_⟩
  have o6 := c5
  obtain ⟨b7, e8, h⟩ := h
  refine ⟨b7, e8, ?_⟩
  obtain ⟨c9, h⟩ := h
  refine ⟨c9, ?_⟩
  obtain ⟨c10, h⟩ := h
  refine ⟨c10, ?_⟩
  intro x12 e11
  have h := h x12 e11
  refine ⟨?_, ?_⟩
  · intro c13
    have h := h.1 c13
    exact ⟨h, K⟩
  · intro c14
    have h := h.2 c14
    obtain ⟨b15, e16, h⟩ := h
    refine ⟨b15, e16, ?_⟩
    obtain ⟨c17, h⟩ := h
    refine ⟨c17, ?_⟩
    have o18 := c17
    obtain ⟨b19, e20, h⟩ := h
    refine ⟨b19, e20, ?_⟩
    obtain ⟨c21, h⟩ := h
    refine ⟨c21, ?_⟩
    obtain ⟨c22, h⟩ := h
    refine ⟨c22, ?_⟩
    intro x24 e23
    have h := h x24 e23
    refine ⟨?_, ?_⟩
    · intro c25
      have h := h.1 c25
      exact ⟨h, K⟩
    · intro c26
      have h := h.2 c26
      exact ⟨h, K⟩
theorem kj_X11_canWait {L : List (Nat × Nat)} (hU : ∀ q ∈ L, q ∈ njT) (hL : ∀ q ∈ kjL_X11_canWait, q ∈ L) {Q : Int32 → HS → Prop} {v0 : Nat} {v1 : Int32} {S : HS} (h : P_X11_canWait v0 v1 Q S) : P_X11_canWait v0 v1 (fun r T => Q r T ∧ KJ L S T) S := kj_X11_canWait_0 hU hL h (kj9_rf L S)
abbrev kjL_X11_isPlace : List (Nat × Nat) := []
set_option maxRecDepth 20000 in
set_option maxHeartbeats 1000000 in
theorem kj_X11_isPlace_0 {L : List (Nat × Nat)} (hU : ∀ q ∈ L, q ∈ njT) (hL : ∀ q ∈ kjL_X11_isPlace, q ∈ L) {Q : Int32 → HS → Prop} {v0 : Nat} {v1 : Int32} {S0 S : HS} (h : P_X11_isPlace_0 Q v0 v1 S) (K : KJ L S0 S) : P_X11_isPlace_0 (fun r T => Q r T ∧ KJ L S0 T) v0 v1 S := by
  delta P_X11_isPlace_0 at h ⊢
  obtain ⟨c1, h⟩ := h
  refine ⟨c1, ?_⟩
  have o2 := c1
  refine ⟨?_, ?_⟩
  · intro c3
    have h := h.1 c3
    exact ⟨h, K⟩
  · intro x4 c5
    have h := h.2 x4 c5
    refine ⟨?_, ?_⟩
    · intro c6
      have h := h.1 c6
      exact ⟨h, K⟩
    · intro c7
      have h := h.2 c7
      obtain ⟨b8, e9, h⟩ := h
      refine ⟨b8, e9, ?_⟩
      obtain ⟨c10, h⟩ := h
      refine ⟨c10, ?_⟩
      intro x12 e11
      have h := h x12 e11
      refine ⟨?_, ?_⟩
      · intro c13
        have h := h.1 c13
        exact ⟨h, K⟩
      · intro c14
        have h := h.2 c14
        exact ⟨h, K⟩
theorem kj_X11_isPlace {L : List (Nat × Nat)} (hU : ∀ q ∈ L, q ∈ njT) (hL : ∀ q ∈ kjL_X11_isPlace, q ∈ L) {Q : Int32 → HS → Prop} {v0 : Nat} {v1 : Int32} {S : HS} (h : P_X11_isPlace v0 v1 Q S) : P_X11_isPlace v0 v1 (fun r T => Q r T ∧ KJ L S T) S := kj_X11_isPlace_0 hU hL h (kj9_rf L S)
abbrev kjL_X11_day : List (Nat × Nat) := []
set_option maxRecDepth 20000 in
set_option maxHeartbeats 1000000 in
theorem kj_X11_day_21 {L : List (Nat × Nat)} (hU : ∀ q ∈ L, q ∈ njT) (hL : ∀ q ∈ kjL_X11_day, q ∈ L) {Q : Int32 → HS → Prop} {v0 : Nat} {S0 S : HS} (h : P_X11_day_21 Q v0 S) (K : KJ L S0 S) : P_X11_day_21 (fun r T => Q r T ∧ KJ L S0 T) v0 S := by
  delta P_X11_day_21 at h ⊢
  obtain ⟨c1, h⟩ := h
  refine ⟨c1, ?_⟩
  refine cm_X11_refused (kj_X11_refused hU (fun q hq => hL q ((by decide : ∀ q ∈ kjL_X11_refused, q ∈ kjL_X11_day) q hq)) h) h (fun x2 x3 p5 h g4 => ?_)
  have h := h g4
  have K := kj9_tr K p5.2
  exact ⟨h, K⟩
set_option maxRecDepth 20000 in
set_option maxHeartbeats 1000000 in
theorem kj_X11_day_50 {L : List (Nat × Nat)} (hU : ∀ q ∈ L, q ∈ njT) (hL : ∀ q ∈ kjL_X11_day, q ∈ L) {Q : Int32 → HS → Prop} {v0 : Nat} {S0 S : HS} (h : P_X11_day_50 Q v0 S) (K : KJ L S0 S) : P_X11_day_50 (fun r T => Q r T ∧ KJ L S0 T) v0 S := by
  delta P_X11_day_50 at h ⊢
  obtain ⟨c1, h⟩ := h
  refine ⟨c1, ?_⟩
  refine cm_X11_refused (kj_X11_refused hU (fun q hq => hL q ((by decide : ∀ q ∈ kjL_X11_refused, q ∈ kjL_X11_day) q hq)) h) h (fun x2 x3 p5 h g4 => ?_)
  have h := h g4
  have K := kj9_tr K p5.2
  exact ⟨h, K⟩
set_option maxRecDepth 20000 in
set_option maxHeartbeats 1000000 in
theorem kj_X11_day_134 {L : List (Nat × Nat)} (hU : ∀ q ∈ L, q ∈ njT) (hL : ∀ q ∈ kjL_X11_day, q ∈ L) {Q : Int32 → HS → Prop} {X73 X73_2 : Nat → Int32 → Int32 → Int32 → Int32 → HS → Prop} {v0 : Nat} {v2 : Int32} {v3 : Int32} {v5 : Int32} {v6 : Int32} {s0 : Nat} {s1 : Int32} {s2 : Int32} {S0 S : HS} (h : P_X11_day_134 Q X73 v0 v2 v3 v5 v6 s0 s1 s2 S) (K : KJ L S0 S) (hX73 : ∀ (u0 : Nat) (u1 : Int32) (u2 : Int32) (u3 : Int32) (u4 : Int32) (u5 : HS), X73 u0 u1 u2 u3 u4 u5 → KJ L S0 u5 → X73_2 u0 u1 u2 u3 u4 u5) : P_X11_day_134 (fun r T => Q r T ∧ KJ L S0 T) X73_2 v0 v2 v3 v5 v6 s0 s1 s2 S := by
  delta P_X11_day_134 at h ⊢
  obtain ⟨c1, h⟩ := h
  refine ⟨c1, ?_⟩
  have n2 := kj9_nk K c1 (by decide)
  intro x4 e3
  have h := h x4 e3
  intro x6 e5
  have h := h x6 e5
  have K := kj9_I K e5 n2
  intro x8 e7
  have h := h x8 e7
  exact hX73 _ _ _ _ _ _ h K
set_option maxRecDepth 20000 in
set_option maxHeartbeats 1000000 in
theorem kjB_X11_day_147 {L : List (Nat × Nat)} (hU : ∀ q ∈ L, q ∈ njT) (hL : ∀ q ∈ kjL_X11_day, q ∈ L) {Q : Int32 → HS → Prop} {X147 X147_2 : Nat → Int32 → Int32 → Int32 → HS → Prop} {v0 : Nat} {v2 : Int32} {v3 : Int32} {v6 : Int32} {S0 S : HS} (h : B_X11_day_147 Q X147 v0 v2 v3 v6 S) (K : KJ L S0 S) (hX147 : ∀ (u0 : Nat) (u1 : Int32) (u2 : Int32) (u3 : Int32) (u4 : HS), X147 u0 u1 u2 u3 u4 → KJ L S0 u4 → X147_2 u0 u1 u2 u3 u4) : B_X11_day_147 (fun r T => Q r T ∧ KJ L S0 T) X147_2 v0 v2 v3 v6 S := by
  delta B_X11_day_147 at h ⊢
  refine ⟨?_, ?_⟩
  · intro c1
    have h := h.1 c1
    obtain ⟨c2, h⟩ := h
    refine ⟨c2, ?_⟩
    have n3 := kj9_nk K c2 (by decide)
    have o4 := c2
    obtain ⟨b5, e6, h⟩ := h
    refine ⟨b5, e6, ?_⟩
    obtain ⟨c7, h⟩ := h
    refine ⟨c7, ?_⟩
    intro x9 e8
    have h := h x9 e8
    obtain ⟨c10, h⟩ := h
    refine ⟨c10, ?_⟩
    intro x12 e11
    have h := h x12 e11
    have K := kj9_J K e11
    have o4 := ob_wJ o4 e11
    obtain ⟨b13, e14, h⟩ := h
    refine ⟨b13, e14, ?_⟩
    obtain ⟨c15, h⟩ := h
    refine ⟨c15, ?_⟩
    intro x17 e16
    have h := h x17 e16
    obtain ⟨c18, h⟩ := h
    refine ⟨c18, ?_⟩
    intro x20 e19
    have h := h x20 e19
    have K := kj9_J K e19
    have o4 := ob_wJ o4 e19
    intro x22 e21
    have h := h x22 e21
    have K := kj9_I K e21 n3
    have o4 := ob_wI o4 e21
    intro x24 e23
    have h := h x24 e23
    have K := kj9_I K e23 n3
    have o4 := ob_wI o4 e23
    intro x26 e25
    have h := h x26 e25
    refine cm_X11_good (kj_X11_good hU (fun q hq => hL q ((by decide : ∀ q ∈ kjL_X11_good, q ∈ kjL_X11_day) q hq)) h) h (fun x27 x28 p30 h g29 => ?_)
    have h := h g29
    have K := kj9_tr K p30.2
    have o4 := gr_ob p30.2.1 o4
    exact ⟨h, K⟩
  · intro c31
    have h := h.2 c31
    obtain ⟨c32, h⟩ := h
    refine ⟨c32, ?_⟩
    have n33 := kj9_nk K c32 (by decide)
    have o34 := c32
    obtain ⟨b35, e36, h⟩ := h
    refine ⟨b35, e36, ?_⟩
    obtain ⟨c37, h⟩ := h
    refine ⟨c37, ?_⟩
    obtain ⟨c38, h⟩ := h
    refine ⟨c38, ?_⟩
    intro x40 e39
    have h := h x40 e39
    have K := kj9_J K e39
    have o34 := ob_wJ o34 e39
    intro x42 e41
    have h := h x42 e41
    exact hX147 _ _ _ _ _ h K
theorem kj_X11_day_147 {L : List (Nat × Nat)} (hU : ∀ q ∈ L, q ∈ njT) (hL : ∀ q ∈ kjL_X11_day, q ∈ L) {Q : Int32 → HS → Prop} {v0 : Nat} {v2 : Int32} {v3 : Int32} {v6 : Int32} {S0 S : HS} (h : P_X11_day_147 Q v0 v2 v3 v6 S) (K : KJ L S0 S) : P_X11_day_147 (fun r T => Q r T ∧ KJ L S0 T) v0 v2 v3 v6 S := h (fun v0 v2 v3 v6 S => KJ L S0 S → P_X11_day_147 (fun r T => Q r T ∧ KJ L S0 T) v0 v2 v3 v6 S) (fun v0 v2 v3 v6 S hB K => fd_X11_day_147 (kjB_X11_day_147 hU hL hB K (fun _ _ _ _ _ hx K => hx K))) K
set_option maxRecDepth 20000 in
set_option maxHeartbeats 1000000 in
theorem kjB_X11_day_73 {L : List (Nat × Nat)} (hU : ∀ q ∈ L, q ∈ njT) (hL : ∀ q ∈ kjL_X11_day, q ∈ L) {Q : Int32 → HS → Prop} {X73 X73_2 : Nat → Int32 → Int32 → Int32 → Int32 → HS → Prop} {v0 : Nat} {v2 : Int32} {v3 : Int32} {v5 : Int32} {v6 : Int32} {S0 S : HS} (h : B_X11_day_73 Q X73 v0 v2 v3 v5 v6 S) (K : KJ L S0 S) (hX73 : ∀ (u0 : Nat) (u1 : Int32) (u2 : Int32) (u3 : Int32) (u4 : Int32) (u5 : HS), X73 u0 u1 u2 u3 u4 u5 → KJ L S0 u5 → X73_2 u0 u1 u2 u3 u4 u5) : B_X11_day_73 (fun r T => Q r T ∧ KJ L S0 T) X73_2 v0 v2 v3 v5 v6 S := by
  delta B_X11_day_73 at h ⊢
  obtain ⟨c1, h⟩ := h
  refine ⟨c1, ?_⟩
  have o2 := c1
  obtain ⟨b3, e4, h⟩ := h
  refine ⟨b3, e4, ?_⟩
  obtain ⟨c5, h⟩ := h
  refine ⟨c5, ?_⟩
  intro x7 e6
  have h := h x7 e6
  refine ⟨?_, ?_⟩
  · intro c8
    have h := h.1 c8
    exact kj_X11_day_147 hU hL h K
  · intro c9
    have h := h.2 c9
    intro x11 e10
    have h := h x11 e10
    intro x13 e12
    have h := h x13 e12
    intro x15 e14
    have h := h x15 e14
    intro x17 e16
    have h := h x17 e16
    obtain ⟨b18, e19, h⟩ := h
    refine ⟨b18, e19, ?_⟩
    obtain ⟨c20, h⟩ := h
    refine ⟨c20, ?_⟩
    have o21 := c20
    obtain ⟨b22, e23, h⟩ := h
    refine ⟨b22, e23, ?_⟩
    obtain ⟨c24, h⟩ := h
    refine ⟨c24, ?_⟩
    obtain ⟨c25, h⟩ := h
    refine ⟨c25, ?_⟩
    intro x27 e26
    have h := h x27 e26
    refine ⟨?_, ?_⟩
    · intro c28
      have h := h.1 c28
      exact kj_X11_day_134 hU hL h K hX73
    · intro c29
      have h := h.2 c29
      exact kj_X11_day_134 hU hL h K hX73
theorem kj_X11_day_73 {L : List (Nat × Nat)} (hU : ∀ q ∈ L, q ∈ njT) (hL : ∀ q ∈ kjL_X11_day, q ∈ L) {Q : Int32 → HS → Prop} {v0 : Nat} {v2 : Int32} {v3 : Int32} {v5 : Int32} {v6 : Int32} {S0 S : HS} (h : P_X11_day_73 Q v0 v2 v3 v5 v6 S) (K : KJ L S0 S) : P_X11_day_73 (fun r T => Q r T ∧ KJ L S0 T) v0 v2 v3 v5 v6 S := h (fun v0 v2 v3 v5 v6 S => KJ L S0 S → P_X11_day_73 (fun r T => Q r T ∧ KJ L S0 T) v0 v2 v3 v5 v6 S) (fun v0 v2 v3 v5 v6 S hB K => fd_X11_day_73 (kjB_X11_day_73 hU hL hB K (fun _ _ _ _ _ _ hx K => hx K))) K
set_option maxRecDepth 20000 in
set_option maxHeartbeats 1000000 in
theorem kj_X11_day_0 {L : List (Nat × Nat)} (hU : ∀ q ∈ L, q ∈ njT) (hL : ∀ q ∈ kjL_X11_day, q ∈ L) {Q : Int32 → HS → Prop} {v0 : Nat} {v1 : Int32} {v2 : Int32} {v3 : Int32} {v4 : Int32} {S0 S : HS} (h : P_X11_day_0 Q v0 v1 v2 v3 v4 S) (K : KJ L S0 S) : P_X11_day_0 (fun r T => Q r T ∧ KJ L S0 T) v0 v1 v2 v3 v4 S := by
  delta P_X11_day_0 at h ⊢
  obtain ⟨c1, h⟩ := h
  refine ⟨c1, ?_⟩
  have n2 := kj9_nk K c1 (by decide)
  intro x4 e3
  have h := h x4 e3
  have K := kj9_I K e3 n2
  refine cm_X11_isWalker (kj_X11_isWalker hU (fun q hq => hL q ((by decide : ∀ q ∈ kjL_X11_isWalker, q ∈ kjL_X11_day) q hq)) h) h (fun x5 x6 p9 h g7 g8 => ?_)
  have h := h g7 g8
  have K := kj9_tr K p9.2
  refine ⟨?_, ?_⟩
  · intro c10
    have h := h.1 c10
    exact kj_X11_day_21 hU hL h K
  · intro c11
    have h := h.2 c11
    refine cm_X11_isPlace (kj_X11_isPlace hU (fun q hq => hL q ((by decide : ∀ q ∈ kjL_X11_isPlace, q ∈ kjL_X11_day) q hq)) h) h (fun x12 x13 p16 h g14 g15 => ?_)
    have h := h g14 g15
    have K := kj9_tr K p16.2
    refine ⟨?_, ?_⟩
    · intro c17
      have h := h.1 c17
      refine cm_X11_in (kj_X11_in hU (fun q hq => hL q ((by decide : ∀ q ∈ kjL_X11_in, q ∈ kjL_X11_day) q hq)) h) h (fun x18 x19 p22 h g20 g21 => ?_)
      have h := h g20 g21
      have K := kj9_tr K p22.2
      refine ⟨?_, ?_⟩
      · intro c23
        have h := h.1 c23
        exact kj_X11_day_50 hU hL h K
      · intro c24
        have h := h.2 c24
        refine cm_X11_in (kj_X11_in hU (fun q hq => hL q ((by decide : ∀ q ∈ kjL_X11_in, q ∈ kjL_X11_day) q hq)) h) h (fun x25 x26 p29 h g27 g28 => ?_)
        have h := h g27 g28
        have K := kj9_tr K p29.2
        refine ⟨?_, ?_⟩
        · intro c30
          have h := h.1 c30
          intro x32 e31
          have h := h x32 e31
          have K := kj9_I K e31 n2
          intro x34 e33
          have h := h x34 e33
          have K := kj9_I K e33 n2
          exact kj_X11_day_73 hU hL h K
        · intro c35
          have h := h.2 c35
          exact kj_X11_day_50 hU hL h K
    · intro c36
      have h := h.2 c36
      exact kj_X11_day_21 hU hL h K
theorem kj_X11_day {L : List (Nat × Nat)} (hU : ∀ q ∈ L, q ∈ njT) (hL : ∀ q ∈ kjL_X11_day, q ∈ L) {Q : Int32 → HS → Prop} {v0 : Nat} {v1 : Int32} {v2 : Int32} {v3 : Int32} {v4 : Int32} {S : HS} (h : P_X11_day v0 v1 v2 v3 v4 Q S) : P_X11_day v0 v1 v2 v3 v4 (fun r T => Q r T ∧ KJ L S T) S := kj_X11_day_0 hU hL h (kj9_rf L S)
abbrev kjL_X11_wetAtBest : List (Nat × Nat) := []
set_option maxRecDepth 20000 in
set_option maxHeartbeats 1000000 in
theorem kj_X11_wetAtBest_0 {L : List (Nat × Nat)} (hU : ∀ q ∈ L, q ∈ njT) (hL : ∀ q ∈ kjL_X11_wetAtBest, q ∈ L) {Q : Int64 → HS → Prop} {v0 : Nat} {v1 : Int32} {v2 : Int32} {v3 : Int32} {v4 : Int32} {S0 S : HS} (h : P_X11_wetAtBest_0 Q v0 v1 v2 v3 v4 S) (K : KJ L S0 S) : P_X11_wetAtBest_0 (fun r T => Q r T ∧ KJ L S0 T) v0 v1 v2 v3 v4 S := by
  delta P_X11_wetAtBest_0 at h ⊢
  obtain ⟨c1, h⟩ := h
  refine ⟨c1, ?_⟩
  refine cm_X11_bestOf (kj_X11_bestOf hU (fun q hq => hL q ((by decide : ∀ q ∈ kjL_X11_bestOf, q ∈ kjL_X11_wetAtBest) q hq)) h) h (fun x2 x3 p5 h g4 => ?_)
  have h := h g4
  have K := kj9_tr K p5.2
  refine cm_X11_wetOf (kj_X11_wetOf hU (fun q hq => hL q ((by decide : ∀ q ∈ kjL_X11_wetOf, q ∈ kjL_X11_wetAtBest) q hq)) h) h (fun x6 x7 p9 h g8 => ?_)
  have h := h g8
  have K := kj9_tr K p9.2
  exact ⟨h, K⟩
theorem kj_X11_wetAtBest {L : List (Nat × Nat)} (hU : ∀ q ∈ L, q ∈ njT) (hL : ∀ q ∈ kjL_X11_wetAtBest, q ∈ L) {Q : Int64 → HS → Prop} {v0 : Nat} {v1 : Int32} {v2 : Int32} {v3 : Int32} {v4 : Int32} {S : HS} (h : P_X11_wetAtBest v0 v1 v2 v3 v4 Q S) : P_X11_wetAtBest v0 v1 v2 v3 v4 (fun r T => Q r T ∧ KJ L S T) S := kj_X11_wetAtBest_0 hU hL h (kj9_rf L S)
abbrev kjL_X11_driest : List (Nat × Nat) := []
set_option maxRecDepth 20000 in
set_option maxHeartbeats 1000000 in
theorem kj_X11_driest_30 {L : List (Nat × Nat)} (hU : ∀ q ∈ L, q ∈ njT) (hL : ∀ q ∈ kjL_X11_driest, q ∈ L) {Q : Int32 → HS → Prop} {v0 : Nat} {S0 S : HS} (h : P_X11_driest_30 Q v0 S) (K : KJ L S0 S) : P_X11_driest_30 (fun r T => Q r T ∧ KJ L S0 T) v0 S := by
  delta P_X11_driest_30 at h ⊢
  obtain ⟨c1, h⟩ := h
  refine ⟨c1, ?_⟩
  refine cm_X11_refused (kj_X11_refused hU (fun q hq => hL q ((by decide : ∀ q ∈ kjL_X11_refused, q ∈ kjL_X11_driest) q hq)) h) h (fun x2 x3 p5 h g4 => ?_)
  have h := h g4
  have K := kj9_tr K p5.2
  exact ⟨h, K⟩
set_option maxRecDepth 20000 in
set_option maxHeartbeats 1000000 in
theorem kj_X11_driest_105 {L : List (Nat × Nat)} (hU : ∀ q ∈ L, q ∈ njT) (hL : ∀ q ∈ kjL_X11_driest, q ∈ L) {Q : Int32 → HS → Prop} {X45 X45_2 : Nat → Int32 → Int32 → Int32 → Int32 → Int64 → Int32 → HS → Prop} {v0 : Nat} {v1 : Int32} {v2 : Int32} {v3 : Int32} {v4 : Int32} {v5 : Int64} {v7 : Int32} {S0 S : HS} (h : P_X11_driest_105 Q X45 v0 v1 v2 v3 v4 v5 v7 S) (K : KJ L S0 S) (hX45 : ∀ (u0 : Nat) (u1 : Int32) (u2 : Int32) (u3 : Int32) (u4 : Int32) (u5 : Int64) (u6 : Int32) (u7 : HS), X45 u0 u1 u2 u3 u4 u5 u6 u7 → KJ L S0 u7 → X45_2 u0 u1 u2 u3 u4 u5 u6 u7) : P_X11_driest_105 (fun r T => Q r T ∧ KJ L S0 T) X45_2 v0 v1 v2 v3 v4 v5 v7 S := by
  delta P_X11_driest_105 at h ⊢
  intro x2 e1
  have h := h x2 e1
  exact hX45 _ _ _ _ _ _ _ _ h K
set_option maxRecDepth 20000 in
set_option maxHeartbeats 1000000 in
theorem kj_X11_driest_97 {L : List (Nat × Nat)} (hU : ∀ q ∈ L, q ∈ njT) (hL : ∀ q ∈ kjL_X11_driest, q ∈ L) {Q : Int32 → HS → Prop} {X45 X45_2 : Nat → Int32 → Int32 → Int32 → Int32 → Int64 → Int32 → HS → Prop} {v0 : Nat} {v1 : Int32} {v2 : Int32} {v3 : Int32} {v7 : Int32} {v8 : Int64} {S0 S : HS} (h : P_X11_driest_97 Q X45 v0 v1 v2 v3 v7 v8 S) (K : KJ L S0 S) (hX45 : ∀ (u0 : Nat) (u1 : Int32) (u2 : Int32) (u3 : Int32) (u4 : Int32) (u5 : Int64) (u6 : Int32) (u7 : HS), X45 u0 u1 u2 u3 u4 u5 u6 u7 → KJ L S0 u7 → X45_2 u0 u1 u2 u3 u4 u5 u6 u7) : P_X11_driest_97 (fun r T => Q r T ∧ KJ L S0 T) X45_2 v0 v1 v2 v3 v7 v8 S := by
  delta P_X11_driest_97 at h ⊢
  exact kj_X11_driest_105 hU hL h K hX45
set_option maxRecDepth 20000 in
set_option maxHeartbeats 1000000 in
theorem kjB_X11_driest_45 {L : List (Nat × Nat)} (hU : ∀ q ∈ L, q ∈ njT) (hL : ∀ q ∈ kjL_X11_driest, q ∈ L) {Q : Int32 → HS → Prop} {X45 X45_2 : Nat → Int32 → Int32 → Int32 → Int32 → Int64 → Int32 → HS → Prop} {v0 : Nat} {v1 : Int32} {v2 : Int32} {v3 : Int32} {v4 : Int32} {v5 : Int64} {v7 : Int32} {S0 S : HS} (h : B_X11_driest_45 Q X45 v0 v1 v2 v3 v4 v5 v7 S) (K : KJ L S0 S) (hX45 : ∀ (u0 : Nat) (u1 : Int32) (u2 : Int32) (u3 : Int32) (u4 : Int32) (u5 : Int64) (u6 : Int32) (u7 : HS), X45 u0 u1 u2 u3 u4 u5 u6 u7 → KJ L S0 u7 → X45_2 u0 u1 u2 u3 u4 u5 u6 u7) : B_X11_driest_45 (fun r T => Q r T ∧ KJ L S0 T) X45_2 v0 v1 v2 v3 v4 v5 v7 S := by
  delta B_X11_driest_45 at h ⊢
  obtain ⟨c1, h⟩ := h
  refine ⟨c1, ?_⟩
  have o2 := c1
  obtain ⟨b3, e4, h⟩ := h
  refine ⟨b3, e4, ?_⟩
  obtain ⟨c5, h⟩ := h
  refine ⟨c5, ?_⟩
  intro x7 e6
  have h := h x7 e6
  refine ⟨?_, ?_⟩
  · intro c8
    have h := h.1 c8
    refine ⟨?_, ?_⟩
    · intro c9
      have h := h.1 c9
      refine cm_X11_good (kj_X11_good hU (fun q hq => hL q ((by decide : ∀ q ∈ kjL_X11_good, q ∈ kjL_X11_driest) q hq)) h) h (fun x10 x11 p13 h g12 => ?_)
      have h := h g12
      have K := kj9_tr K p13.2
      have o2 := gr_ob p13.2.1 o2
      exact ⟨h, K⟩
    · intro c14
      have h := h.2 c14
      refine cm_X11_refused (kj_X11_refused hU (fun q hq => hL q ((by decide : ∀ q ∈ kjL_X11_refused, q ∈ kjL_X11_driest) q hq)) h) h (fun x15 x16 p18 h g17 => ?_)
      have h := h g17
      have K := kj9_tr K p18.2
      have o2 := gr_ob p18.2.1 o2
      exact ⟨h, K⟩
  · intro c19
    have h := h.2 c19
    refine cm_X11_wetAtBest (kj_X11_wetAtBest hU (fun q hq => hL q ((by decide : ∀ q ∈ kjL_X11_wetAtBest, q ∈ kjL_X11_driest) q hq)) h) h (fun x20 x21 p23 h g22 => ?_)
    have h := h g22
    have K := kj9_tr K p23.2
    have o2 := gr_ob p23.2.1 o2
    obtain ⟨b24, e25, h⟩ := h
    refine ⟨b24, e25, ?_⟩
    obtain ⟨c26, h⟩ := h
    refine ⟨c26, ?_⟩
    have o27 := c26
    obtain ⟨b28, e29, h⟩ := h
    refine ⟨b28, e29, ?_⟩
    obtain ⟨c30, h⟩ := h
    refine ⟨c30, ?_⟩
    obtain ⟨c31, h⟩ := h
    refine ⟨c31, ?_⟩
    intro x33 e32
    have h := h x33 e32
    intro x35 e34
    have h := h x35 e34
    refine ⟨?_, ?_⟩
    · intro c36
      have h := h.1 c36
      exact kj_X11_driest_97 hU hL h K hX45
    · intro c37
      have h := h.2 c37
      refine ⟨?_, ?_⟩
      · intro c38
        have h := h.1 c38
        exact kj_X11_driest_97 hU hL h K hX45
      · intro c39
        have h := h.2 c39
        exact kj_X11_driest_105 hU hL h K hX45
theorem kj_X11_driest_45 {L : List (Nat × Nat)} (hU : ∀ q ∈ L, q ∈ njT) (hL : ∀ q ∈ kjL_X11_driest, q ∈ L) {Q : Int32 → HS → Prop} {v0 : Nat} {v1 : Int32} {v2 : Int32} {v3 : Int32} {v4 : Int32} {v5 : Int64} {v7 : Int32} {S0 S : HS} (h : P_X11_driest_45 Q v0 v1 v2 v3 v4 v5 v7 S) (K : KJ L S0 S) : P_X11_driest_45 (fun r T => Q r T ∧ KJ L S0 T) v0 v1 v2 v3 v4 v5 v7 S := h (fun v0 v1 v2 v3 v4 v5 v7 S => KJ L S0 S → P_X11_driest_45 (fun r T => Q r T ∧ KJ L S0 T) v0 v1 v2 v3 v4 v5 v7 S) (fun v0 v1 v2 v3 v4 v5 v7 S hB K => fd_X11_driest_45 (kjB_X11_driest_45 hU hL hB K (fun _ _ _ _ _ _ _ _ hx K => hx K))) K
set_option maxRecDepth 20000 in
set_option maxHeartbeats 1000000 in
theorem kj_X11_driest_0 {L : List (Nat × Nat)} (hU : ∀ q ∈ L, q ∈ njT) (hL : ∀ q ∈ kjL_X11_driest, q ∈ L) {Q : Int32 → HS → Prop} {v0 : Nat} {v1 : Int32} {v2 : Int32} {v3 : Int32} {S0 S : HS} (h : P_X11_driest_0 Q v0 v1 v2 v3 S) (K : KJ L S0 S) : P_X11_driest_0 (fun r T => Q r T ∧ KJ L S0 T) v0 v1 v2 v3 S := by
  delta P_X11_driest_0 at h ⊢
  obtain ⟨c1, h⟩ := h
  refine ⟨c1, ?_⟩
  have n2 := kj9_nk K c1 (by decide)
  intro x4 e3
  have h := h x4 e3
  have K := kj9_I K e3 n2
  refine cm_X11_isWalker (kj_X11_isWalker hU (fun q hq => hL q ((by decide : ∀ q ∈ kjL_X11_isWalker, q ∈ kjL_X11_driest) q hq)) h) h (fun x5 x6 p9 h g7 g8 => ?_)
  have h := h g7 g8
  have K := kj9_tr K p9.2
  refine ⟨?_, ?_⟩
  · intro c10
    have h := h.1 c10
    exact kj_X11_driest_30 hU hL h K
  · intro c11
    have h := h.2 c11
    refine cm_X11_isRoad (kj_X11_isRoad hU (fun q hq => hL q ((by decide : ∀ q ∈ kjL_X11_isRoad, q ∈ kjL_X11_driest) q hq)) h) h (fun x12 x13 p16 h g14 g15 => ?_)
    have h := h g14 g15
    have K := kj9_tr K p16.2
    refine ⟨?_, ?_⟩
    · intro c17
      have h := h.1 c17
      exact kj_X11_driest_30 hU hL h K
    · intro c18
      have h := h.2 c18
      refine cm_X11_in (kj_X11_in hU (fun q hq => hL q ((by decide : ∀ q ∈ kjL_X11_in, q ∈ kjL_X11_driest) q hq)) h) h (fun x19 x20 p23 h g21 g22 => ?_)
      have h := h g21 g22
      have K := kj9_tr K p23.2
      refine ⟨?_, ?_⟩
      · intro c24
        have h := h.1 c24
        exact kj_X11_driest_45 hU hL h K
      · intro c25
        have h := h.2 c25
        exact kj_X11_driest_30 hU hL h K
theorem kj_X11_driest {L : List (Nat × Nat)} (hU : ∀ q ∈ L, q ∈ njT) (hL : ∀ q ∈ kjL_X11_driest, q ∈ L) {Q : Int32 → HS → Prop} {v0 : Nat} {v1 : Int32} {v2 : Int32} {v3 : Int32} {S : HS} (h : P_X11_driest v0 v1 v2 v3 Q S) : P_X11_driest v0 v1 v2 v3 (fun r T => Q r T ∧ KJ L S T) S := kj_X11_driest_0 hU hL h (kj9_rf L S)
end
section
abbrev kjL_X11_drips : List (Nat × Nat) := []
set_option maxRecDepth 20000 in
set_option maxHeartbeats 1000000 in
theorem kj_X11_drips_0 {L : List (Nat × Nat)} (hU : ∀ q ∈ L, q ∈ njT) (hL : ∀ q ∈ kjL_X11_drips, q ∈ L) {Q : Int64 → HS → Prop} {v0 : Nat} {v1 : Int32} {v2 : Int32} {S0 S : HS} (h : P_X11_drips_0 Q v0 v1 v2 S) (K : KJ L S0 S) : P_X11_drips_0 (fun r T => Q r T ∧ KJ L S0 T) v0 v1 v2 S := by
  delta P_X11_drips_0 at h ⊢
  obtain ⟨c1, h⟩ := h
  refine ⟨c1, ?_⟩
  have o2 := c1
  obtain ⟨b3, e4, h⟩ := h
  refine ⟨b3, e4, ?_⟩
  obtain ⟨c5, h⟩ := h
  refine ⟨c5, ?_⟩
  have o6 := c5
  obtain ⟨b7, e8, h⟩ := h
  refine ⟨b7, e8, ?_⟩
  obtain ⟨c9, h⟩ := h
  refine ⟨c9, ?_⟩
  obtain ⟨c10, h⟩ := h
  refine ⟨c10, ?_⟩
  intro x12 e11
  have h := h x12 e11
  obtain ⟨b13, e14, h⟩ := h
  refine ⟨b13, e14, ?_⟩
  obtain ⟨c15, h⟩ := h
  refine ⟨c15, ?_⟩
  have o16 := c15
  obtain ⟨b17, e18, h⟩ := h
  refine ⟨b17, e18, ?_⟩
  obtain ⟨c19, h⟩ := h
  refine ⟨c19, ?_⟩
  obtain ⟨c20, h⟩ := h
  refine ⟨c20, ?_⟩
  intro x22 e21
  have h := h x22 e21
  obtain ⟨b23, e24, h⟩ := h
  refine ⟨b23, e24, ?_⟩
  obtain ⟨c25, h⟩ := h
  refine ⟨c25, ?_⟩
  refine cm_X10_shield (kj_X10_shield hU (fun q hq => hL q ((by decide : ∀ q ∈ kjL_X10_shield, q ∈ kjL_X11_drips) q hq)) h) h (fun x26 x27 p29 h g28 => ?_)
  have h := h g28
  have K := kj9_tr K p29.2
  have o2 := gr_ob p29.2.1 o2
  have o6 := gr_ob p29.2.1 o6
  have o16 := gr_ob p29.2.1 o16
  refine cm_X11_less (kj_X11_less hU (fun q hq => hL q ((by decide : ∀ q ∈ kjL_X11_less, q ∈ kjL_X11_drips) q hq)) h) h (fun x30 x31 p33 h g32 => ?_)
  have h := h g32
  have K := kj9_tr K p33.2
  have o2 := gr_ob p33.2.1 o2
  have o6 := gr_ob p33.2.1 o6
  have o16 := gr_ob p33.2.1 o16
  exact ⟨h, K⟩
theorem kj_X11_drips {L : List (Nat × Nat)} (hU : ∀ q ∈ L, q ∈ njT) (hL : ∀ q ∈ kjL_X11_drips, q ∈ L) {Q : Int64 → HS → Prop} {v0 : Nat} {v1 : Int32} {v2 : Int32} {S : HS} (h : P_X11_drips v0 v1 v2 Q S) : P_X11_drips v0 v1 v2 (fun r T => Q r T ∧ KJ L S T) S := kj_X11_drips_0 hU hL h (kj9_rf L S)
abbrev kjL_X11_eatsSign : List (Nat × Nat) := []
set_option maxRecDepth 20000 in
set_option maxHeartbeats 1000000 in
theorem kj_X11_eatsSign_21 {L : List (Nat × Nat)} (hU : ∀ q ∈ L, q ∈ njT) (hL : ∀ q ∈ kjL_X11_eatsSign, q ∈ L) {Q : Int32 → HS → Prop} {v0 : Nat} {s0 : Int32} {S0 S : HS} (h : P_X11_eatsSign_21 Q v0 s0 S) (K : KJ L S0 S) : P_X11_eatsSign_21 (fun r T => Q r T ∧ KJ L S0 T) v0 s0 S := by
  delta P_X11_eatsSign_21 at h ⊢
  refine ⟨?_, ?_⟩
  · intro c1
    have h := h.1 c1
    obtain ⟨c2, h⟩ := h
    refine ⟨c2, ?_⟩
    exact ⟨h, K⟩
  · intro c3
    have h := h.2 c3
    obtain ⟨c4, h⟩ := h
    refine ⟨c4, ?_⟩
    refine cm_X11_goesOn (kj_X11_goesOn hU (fun q hq => hL q ((by decide : ∀ q ∈ kjL_X11_goesOn, q ∈ kjL_X11_eatsSign) q hq)) h) h (fun x5 p7 h g6 => ?_)
    have h := h g6
    have K := kj9_tr K p7.2
    obtain ⟨c8, h⟩ := h
    refine ⟨c8, ?_⟩
    exact ⟨h, K⟩
set_option maxRecDepth 20000 in
set_option maxHeartbeats 1000000 in
theorem kj_X11_eatsSign_20 {L : List (Nat × Nat)} (hU : ∀ q ∈ L, q ∈ njT) (hL : ∀ q ∈ kjL_X11_eatsSign, q ∈ L) {Q : Int32 → HS → Prop} {v0 : Nat} {S0 S : HS} (h : P_X11_eatsSign_20 Q v0 S) (K : KJ L S0 S) : P_X11_eatsSign_20 (fun r T => Q r T ∧ KJ L S0 T) v0 S := by
  delta P_X11_eatsSign_20 at h ⊢
  exact kj_X11_eatsSign_21 hU hL h K
set_option maxRecDepth 20000 in
set_option maxHeartbeats 1000000 in
theorem kj_X11_eatsSign_0 {L : List (Nat × Nat)} (hU : ∀ q ∈ L, q ∈ njT) (hL : ∀ q ∈ kjL_X11_eatsSign, q ∈ L) {Q : Int32 → HS → Prop} {v0 : Nat} {v1 : Int32} {S0 S : HS} (h : P_X11_eatsSign_0 Q v0 v1 S) (K : KJ L S0 S) : P_X11_eatsSign_0 (fun r T => Q r T ∧ KJ L S0 T) v0 v1 S := by
  delta P_X11_eatsSign_0 at h ⊢
  obtain ⟨c1, h⟩ := h
  refine ⟨c1, ?_⟩
  intro x3 e2
  have h := h x3 e2
  refine ⟨?_, ?_⟩
  · intro c4
    have h := h.1 c4
    exact kj_X11_eatsSign_20 hU hL h K
  · intro c5
    have h := h.2 c5
    intro x7 e6
    have h := h x7 e6
    refine ⟨?_, ?_⟩
    · intro c8
      have h := h.1 c8
      exact kj_X11_eatsSign_20 hU hL h K
    · intro c9
      have h := h.2 c9
      exact kj_X11_eatsSign_21 hU hL h K
theorem kj_X11_eatsSign {L : List (Nat × Nat)} (hU : ∀ q ∈ L, q ∈ njT) (hL : ∀ q ∈ kjL_X11_eatsSign, q ∈ L) {Q : Int32 → HS → Prop} {v0 : Nat} {v1 : Int32} {S : HS} (h : P_X11_eatsSign v0 v1 Q S) : P_X11_eatsSign v0 v1 (fun r T => Q r T ∧ KJ L S T) S := kj_X11_eatsSign_0 hU hL h (kj9_rf L S)
abbrev kjL_X11_wordOf : List (Nat × Nat) := []
set_option maxRecDepth 20000 in
set_option maxHeartbeats 1000000 in
theorem kjB_X11_wordOf_4 {L : List (Nat × Nat)} (hU : ∀ q ∈ L, q ∈ njT) (hL : ∀ q ∈ kjL_X11_wordOf, q ∈ L) {Q : Int64 → HS → Prop} {X4 X4_2 : Nat → Int64 → Int32 → HS → Prop} {v0 : Nat} {v1 : Int64} {v3 : Int32} {S0 S : HS} (h : B_X11_wordOf_4 Q X4 v0 v1 v3 S) (K : KJ L S0 S) (hX4 : ∀ (u0 : Nat) (u1 : Int64) (u2 : Int32) (u3 : HS), X4 u0 u1 u2 u3 → KJ L S0 u3 → X4_2 u0 u1 u2 u3) : B_X11_wordOf_4 (fun r T => Q r T ∧ KJ L S0 T) X4_2 v0 v1 v3 S := by
  delta B_X11_wordOf_4 at h ⊢
  obtain ⟨c1, h⟩ := h
  refine ⟨c1, ?_⟩
  intro x3 e2
  have h := h x3 e2
  refine ⟨?_, ?_⟩
  · intro c4
    have h := h.1 c4
    exact ⟨h, K⟩
  · intro c5
    have h := h.2 c5
    obtain ⟨c6, h⟩ := h
    refine ⟨c6, ?_⟩
    obtain ⟨c7, h⟩ := h
    refine ⟨c7, ?_⟩
    intro x9 e8
    have h := h x9 e8
    intro x11 e10
    have h := h x11 e10
    intro x13 e12
    have h := h x13 e12
    exact hX4 _ _ _ _ h K
theorem kj_X11_wordOf_4 {L : List (Nat × Nat)} (hU : ∀ q ∈ L, q ∈ njT) (hL : ∀ q ∈ kjL_X11_wordOf, q ∈ L) {Q : Int64 → HS → Prop} {v0 : Nat} {v1 : Int64} {v3 : Int32} {S0 S : HS} (h : P_X11_wordOf_4 Q v0 v1 v3 S) (K : KJ L S0 S) : P_X11_wordOf_4 (fun r T => Q r T ∧ KJ L S0 T) v0 v1 v3 S := h (fun v0 v1 v3 S => KJ L S0 S → P_X11_wordOf_4 (fun r T => Q r T ∧ KJ L S0 T) v0 v1 v3 S) (fun v0 v1 v3 S hB K => fd_X11_wordOf_4 (kjB_X11_wordOf_4 hU hL hB K (fun _ _ _ _ hx K => hx K))) K
set_option maxRecDepth 20000 in
set_option maxHeartbeats 1000000 in
theorem kj_X11_wordOf_0 {L : List (Nat × Nat)} (hU : ∀ q ∈ L, q ∈ njT) (hL : ∀ q ∈ kjL_X11_wordOf, q ∈ L) {Q : Int64 → HS → Prop} {v0 : Nat} {S0 S : HS} (h : P_X11_wordOf_0 Q v0 S) (K : KJ L S0 S) : P_X11_wordOf_0 (fun r T => Q r T ∧ KJ L S0 T) v0 S := by
  delta P_X11_wordOf_0 at h ⊢
  exact kj_X11_wordOf_4 hU hL h K
theorem kj_X11_wordOf {L : List (Nat × Nat)} (hU : ∀ q ∈ L, q ∈ njT) (hL : ∀ q ∈ kjL_X11_wordOf, q ∈ L) {Q : Int64 → HS → Prop} {v0 : Nat} {S : HS} (h : P_X11_wordOf v0 Q S) : P_X11_wordOf v0 (fun r T => Q r T ∧ KJ L S T) S := kj_X11_wordOf_0 hU hL h (kj9_rf L S)
abbrev kjL_X11_isWord : List (Nat × Nat) := []
set_option maxRecDepth 20000 in
set_option maxHeartbeats 1000000 in
theorem kj_X11_isWord_0 {L : List (Nat × Nat)} (hU : ∀ q ∈ L, q ∈ njT) (hL : ∀ q ∈ kjL_X11_isWord, q ∈ L) {Q : Int32 → HS → Prop} {v0 : Nat} {v1 : Nat} {S0 S : HS} (h : P_X11_isWord_0 Q v0 v1 S) (K : KJ L S0 S) : P_X11_isWord_0 (fun r T => Q r T ∧ KJ L S0 T) v0 v1 S := by
  delta P_X11_isWord_0 at h ⊢
  obtain ⟨c1, h⟩ := h
  refine ⟨c1, ?_⟩
  intro x3 e2
  have h := h x3 e2
  refine ⟨?_, ?_⟩
  · intro c4
    have h := h.1 c4
    exact ⟨h, K⟩
  · intro c5
    have h := h.2 c5
    intro x7 e6
    have h := h x7 e6
    refine cm_X11_wordOf (kj_X11_wordOf hU (fun q hq => hL q ((by decide : ∀ q ∈ kjL_X11_wordOf, q ∈ kjL_X11_isWord) q hq)) h) h (fun x8 x9 p11 h g10 => ?_)
    have h := h g10
    have K := kj9_tr K p11.2
    refine ⟨?_, ?_⟩
    · intro c12
      have h := h.1 c12
      exact ⟨h, K⟩
    · intro c13
      have h := h.2 c13
      exact ⟨h, K⟩
theorem kj_X11_isWord {L : List (Nat × Nat)} (hU : ∀ q ∈ L, q ∈ njT) (hL : ∀ q ∈ kjL_X11_isWord, q ∈ L) {Q : Int32 → HS → Prop} {v0 : Nat} {v1 : Nat} {S : HS} (h : P_X11_isWord v0 v1 Q S) : P_X11_isWord v0 v1 (fun r T => Q r T ∧ KJ L S T) S := kj_X11_isWord_0 hU hL h (kj9_rf L S)
abbrev kjL_X11_eatsWord : List (Nat × Nat) := []
set_option maxRecDepth 20000 in
set_option maxHeartbeats 1000000 in
theorem kj_X11_eatsWord_0 {L : List (Nat × Nat)} (hU : ∀ q ∈ L, q ∈ njT) (hL : ∀ q ∈ kjL_X11_eatsWord, q ∈ L) {Q : Int32 → HS → Prop} {v0 : Nat} {v1 : Nat} {S0 S : HS} (h : P_X11_eatsWord_0 Q v0 v1 S) (K : KJ L S0 S) : P_X11_eatsWord_0 (fun r T => Q r T ∧ KJ L S0 T) v0 v1 S := by
  delta P_X11_eatsWord_0 at h ⊢
  obtain ⟨c1, h⟩ := h
  refine ⟨c1, ?_⟩
  refine cm_X11_isWord (kj_X11_isWord hU (fun q hq => hL q ((by decide : ∀ q ∈ kjL_X11_isWord, q ∈ kjL_X11_eatsWord) q hq)) h) h (fun x2 x3 p6 h g4 g5 => ?_)
  have h := h g4 g5
  have K := kj9_tr K p6.2
  refine ⟨?_, ?_⟩
  · intro c7
    have h := h.1 c7
    obtain ⟨c8, h⟩ := h
    refine ⟨c8, ?_⟩
    exact ⟨h, K⟩
  · intro c9
    have h := h.2 c9
    refine cm_X11_goesOn (kj_X11_goesOn hU (fun q hq => hL q ((by decide : ∀ q ∈ kjL_X11_goesOn, q ∈ kjL_X11_eatsWord) q hq)) h) h (fun x10 p12 h g11 => ?_)
    have h := h g11
    have K := kj9_tr K p12.2
    obtain ⟨c13, h⟩ := h
    refine ⟨c13, ?_⟩
    exact ⟨h, K⟩
theorem kj_X11_eatsWord {L : List (Nat × Nat)} (hU : ∀ q ∈ L, q ∈ njT) (hL : ∀ q ∈ kjL_X11_eatsWord, q ∈ L) {Q : Int32 → HS → Prop} {v0 : Nat} {v1 : Nat} {S : HS} (h : P_X11_eatsWord v0 v1 Q S) : P_X11_eatsWord v0 v1 (fun r T => Q r T ∧ KJ L S T) S := kj_X11_eatsWord_0 hU hL h (kj9_rf L S)
abbrev kjL_X11_even : List (Nat × Nat) := []
set_option maxRecDepth 20000 in
set_option maxHeartbeats 1000000 in
theorem kj_X11_even_39 {L : List (Nat × Nat)} (hU : ∀ q ∈ L, q ∈ njT) (hL : ∀ q ∈ kjL_X11_even, q ∈ L) {Q : Int32 → HS → Prop} {v0 : Nat} {S0 S : HS} (h : P_X11_even_39 Q v0 S) (K : KJ L S0 S) : P_X11_even_39 (fun r T => Q r T ∧ KJ L S0 T) v0 S := by
  delta P_X11_even_39 at h ⊢
  obtain ⟨c1, h⟩ := h
  refine ⟨c1, ?_⟩
  refine cm_X11_refused (kj_X11_refused hU (fun q hq => hL q ((by decide : ∀ q ∈ kjL_X11_refused, q ∈ kjL_X11_even) q hq)) h) h (fun x2 x3 p5 h g4 => ?_)
  have h := h g4
  have K := kj9_tr K p5.2
  exact ⟨h, K⟩
set_option maxRecDepth 20000 in
set_option maxHeartbeats 1000000 in
theorem kj_X11_even_111 {L : List (Nat × Nat)} (hU : ∀ q ∈ L, q ∈ njT) (hL : ∀ q ∈ kjL_X11_even, q ∈ L) {Q : Int32 → HS → Prop} {X59 X59_2 : Nat → Int32 → Int32 → Int32 → Int32 → Int32 → Int32 → HS → Prop} {v0 : Nat} {v1 : Int32} {v2 : Int32} {v3 : Int32} {v4 : Int32} {v6 : Int32} {s0 : Int32} {S0 S : HS} (h : P_X11_even_111 Q X59 v0 v1 v2 v3 v4 v6 s0 S) (K : KJ L S0 S) (hX59 : ∀ (u0 : Nat) (u1 : Int32) (u2 : Int32) (u3 : Int32) (u4 : Int32) (u5 : Int32) (u6 : Int32) (u7 : HS), X59 u0 u1 u2 u3 u4 u5 u6 u7 → KJ L S0 u7 → X59_2 u0 u1 u2 u3 u4 u5 u6 u7) : P_X11_even_111 (fun r T => Q r T ∧ KJ L S0 T) X59_2 v0 v1 v2 v3 v4 v6 s0 S := by
  delta P_X11_even_111 at h ⊢
  intro x2 e1
  have h := h x2 e1
  exact hX59 _ _ _ _ _ _ _ _ h K
set_option maxRecDepth 20000 in
set_option maxHeartbeats 1000000 in
theorem kj_X11_even_110 {L : List (Nat × Nat)} (hU : ∀ q ∈ L, q ∈ njT) (hL : ∀ q ∈ kjL_X11_even, q ∈ L) {Q : Int32 → HS → Prop} {X59 X59_2 : Nat → Int32 → Int32 → Int32 → Int32 → Int32 → Int32 → HS → Prop} {v0 : Nat} {v1 : Int32} {v2 : Int32} {v3 : Int32} {v4 : Int32} {v6 : Int32} {S0 S : HS} (h : P_X11_even_110 Q X59 v0 v1 v2 v3 v4 v6 S) (K : KJ L S0 S) (hX59 : ∀ (u0 : Nat) (u1 : Int32) (u2 : Int32) (u3 : Int32) (u4 : Int32) (u5 : Int32) (u6 : Int32) (u7 : HS), X59 u0 u1 u2 u3 u4 u5 u6 u7 → KJ L S0 u7 → X59_2 u0 u1 u2 u3 u4 u5 u6 u7) : P_X11_even_110 (fun r T => Q r T ∧ KJ L S0 T) X59_2 v0 v1 v2 v3 v4 v6 S := by
  delta P_X11_even_110 at h ⊢
  exact kj_X11_even_111 hU hL h K hX59
set_option maxRecDepth 20000 in
set_option maxHeartbeats 1000000 in
theorem kj_X11_even_130 {L : List (Nat × Nat)} (hU : ∀ q ∈ L, q ∈ njT) (hL : ∀ q ∈ kjL_X11_even, q ∈ L) {Q : Int32 → HS → Prop} {s0 : Nat} {s1 : Int32} {S0 S : HS} (h : P_X11_even_130 Q s0 s1 S) (K : KJ L S0 S) : P_X11_even_130 (fun r T => Q r T ∧ KJ L S0 T) s0 s1 S := by
  delta P_X11_even_130 at h ⊢
  obtain ⟨c1, h⟩ := h
  refine ⟨c1, ?_⟩
  refine cm_X11_good (kj_X11_good hU (fun q hq => hL q ((by decide : ∀ q ∈ kjL_X11_good, q ∈ kjL_X11_even) q hq)) h) h (fun x2 x3 p5 h g4 => ?_)
  have h := h g4
  have K := kj9_tr K p5.2
  exact ⟨h, K⟩
set_option maxRecDepth 20000 in
set_option maxHeartbeats 1000000 in
theorem kjB_X11_even_59 {L : List (Nat × Nat)} (hU : ∀ q ∈ L, q ∈ njT) (hL : ∀ q ∈ kjL_X11_even, q ∈ L) {Q : Int32 → HS → Prop} {X59 X59_2 : Nat → Int32 → Int32 → Int32 → Int32 → Int32 → Int32 → HS → Prop} {v0 : Nat} {v1 : Int32} {v2 : Int32} {v3 : Int32} {v4 : Int32} {v5 : Int32} {v6 : Int32} {S0 S : HS} (h : B_X11_even_59 Q X59 v0 v1 v2 v3 v4 v5 v6 S) (K : KJ L S0 S) (hX59 : ∀ (u0 : Nat) (u1 : Int32) (u2 : Int32) (u3 : Int32) (u4 : Int32) (u5 : Int32) (u6 : Int32) (u7 : HS), X59 u0 u1 u2 u3 u4 u5 u6 u7 → KJ L S0 u7 → X59_2 u0 u1 u2 u3 u4 u5 u6 u7) : B_X11_even_59 (fun r T => Q r T ∧ KJ L S0 T) X59_2 v0 v1 v2 v3 v4 v5 v6 S := by
  delta B_X11_even_59 at h ⊢
  obtain ⟨c1, h⟩ := h
  refine ⟨c1, ?_⟩
  have o2 := c1
  obtain ⟨b3, e4, h⟩ := h
  refine ⟨b3, e4, ?_⟩
  obtain ⟨c5, h⟩ := h
  refine ⟨c5, ?_⟩
  have o6 := c5
  obtain ⟨b7, e8, h⟩ := h
  refine ⟨b7, e8, ?_⟩
  obtain ⟨c9, h⟩ := h
  refine ⟨c9, ?_⟩
  obtain ⟨c10, h⟩ := h
  refine ⟨c10, ?_⟩
  intro x12 e11
  have h := h x12 e11
  refine ⟨?_, ?_⟩
  · intro c13
    have h := h.1 c13
    refine ⟨?_, ?_⟩
    · intro c14
      have h := h.1 c14
      exact kj_X11_even_130 hU hL h K
    · intro c15
      have h := h.2 c15
      exact kj_X11_even_130 hU hL h K
  · intro c16
    have h := h.2 c16
    refine ⟨?_, ?_⟩
    · intro c17
      have h := h.1 c17
      exact kj_X11_even_110 hU hL h K hX59
    · intro c18
      have h := h.2 c18
      refine cm_X11_wetOf (kj_X11_wetOf hU (fun q hq => hL q ((by decide : ∀ q ∈ kjL_X11_wetOf, q ∈ kjL_X11_even) q hq)) h) h (fun x19 x20 p22 h g21 => ?_)
      have h := h g21
      have K := kj9_tr K p22.2
      have o2 := gr_ob p22.2.1 o2
      have o6 := gr_ob p22.2.1 o6
      refine cm_X11_wetOf (kj_X11_wetOf hU (fun q hq => hL q ((by decide : ∀ q ∈ kjL_X11_wetOf, q ∈ kjL_X11_even) q hq)) h) h (fun x23 x24 p26 h g25 => ?_)
      have h := h g25
      have K := kj9_tr K p26.2
      have o2 := gr_ob p26.2.1 o2
      have o6 := gr_ob p26.2.1 o6
      refine ⟨?_, ?_⟩
      · intro c27
        have h := h.1 c27
        exact kj_X11_even_110 hU hL h K hX59
      · intro c28
        have h := h.2 c28
        exact kj_X11_even_111 hU hL h K hX59
theorem kj_X11_even_59 {L : List (Nat × Nat)} (hU : ∀ q ∈ L, q ∈ njT) (hL : ∀ q ∈ kjL_X11_even, q ∈ L) {Q : Int32 → HS → Prop} {v0 : Nat} {v1 : Int32} {v2 : Int32} {v3 : Int32} {v4 : Int32} {v5 : Int32} {v6 : Int32} {S0 S : HS} (h : P_X11_even_59 Q v0 v1 v2 v3 v4 v5 v6 S) (K : KJ L S0 S) : P_X11_even_59 (fun r T => Q r T ∧ KJ L S0 T) v0 v1 v2 v3 v4 v5 v6 S := h (fun v0 v1 v2 v3 v4 v5 v6 S => KJ L S0 S → P_X11_even_59 (fun r T => Q r T ∧ KJ L S0 T) v0 v1 v2 v3 v4 v5 v6 S) (fun v0 v1 v2 v3 v4 v5 v6 S hB K => fd_X11_even_59 (kjB_X11_even_59 hU hL hB K (fun _ _ _ _ _ _ _ _ hx K => hx K))) K
set_option maxRecDepth 20000 in
set_option maxHeartbeats 1000000 in
theorem kj_X11_even_0 {L : List (Nat × Nat)} (hU : ∀ q ∈ L, q ∈ njT) (hL : ∀ q ∈ kjL_X11_even, q ∈ L) {Q : Int32 → HS → Prop} {v0 : Nat} {v1 : Int32} {v2 : Int32} {v3 : Int32} {v4 : Int32} {S0 S : HS} (h : P_X11_even_0 Q v0 v1 v2 v3 v4 S) (K : KJ L S0 S) : P_X11_even_0 (fun r T => Q r T ∧ KJ L S0 T) v0 v1 v2 v3 v4 S := by
  delta P_X11_even_0 at h ⊢
  obtain ⟨c1, h⟩ := h
  refine ⟨c1, ?_⟩
  have n2 := kj9_nk K c1 (by decide)
  have o3 := c1
  intro x5 e4
  have h := h x5 e4
  have K := kj9_I K e4 n2
  have o3 := ob_wI o3 e4
  refine cm_X11_isWalker (kj_X11_isWalker hU (fun q hq => hL q ((by decide : ∀ q ∈ kjL_X11_isWalker, q ∈ kjL_X11_even) q hq)) h) h (fun x6 x7 p10 h g8 g9 => ?_)
  have h := h g8 g9
  have K := kj9_tr K p10.2
  have o3 := gr_ob p10.2.1 o3
  refine ⟨?_, ?_⟩
  · intro c11
    have h := h.1 c11
    exact kj_X11_even_39 hU hL h K
  · intro c12
    have h := h.2 c12
    refine cm_X11_isRoad (kj_X11_isRoad hU (fun q hq => hL q ((by decide : ∀ q ∈ kjL_X11_isRoad, q ∈ kjL_X11_even) q hq)) h) h (fun x13 x14 p17 h g15 g16 => ?_)
    have h := h g15 g16
    have K := kj9_tr K p17.2
    have o3 := gr_ob p17.2.1 o3
    refine ⟨?_, ?_⟩
    · intro c18
      have h := h.1 c18
      exact kj_X11_even_39 hU hL h K
    · intro c19
      have h := h.2 c19
      refine cm_X11_in (kj_X11_in hU (fun q hq => hL q ((by decide : ∀ q ∈ kjL_X11_in, q ∈ kjL_X11_even) q hq)) h) h (fun x20 x21 p24 h g22 g23 => ?_)
      have h := h g22 g23
      have K := kj9_tr K p24.2
      have o3 := gr_ob p24.2.1 o3
      refine ⟨?_, ?_⟩
      · intro c25
        have h := h.1 c25
        exact kj_X11_even_39 hU hL h K
      · intro c26
        have h := h.2 c26
        refine cm_X11_isHour (kj_X11_isHour hU (fun q hq => hL q ((by decide : ∀ q ∈ kjL_X11_isHour, q ∈ kjL_X11_even) q hq)) h) h (fun x27 x28 p31 h g29 g30 => ?_)
        have h := h g29 g30
        have K := kj9_tr K p31.2
        have o3 := gr_ob p31.2.1 o3
        refine ⟨?_, ?_⟩
        · intro c32
          have h := h.1 c32
          obtain ⟨b33, e34, h⟩ := h
          refine ⟨b33, e34, ?_⟩
          obtain ⟨c35, h⟩ := h
          refine ⟨c35, ?_⟩
          have o36 := c35
          obtain ⟨b37, e38, h⟩ := h
          refine ⟨b37, e38, ?_⟩
          obtain ⟨c39, h⟩ := h
          refine ⟨c39, ?_⟩
          obtain ⟨c40, h⟩ := h
          refine ⟨c40, ?_⟩
          intro x42 e41
          have h := h x42 e41
          exact kj_X11_even_59 hU hL h K
        · intro c43
          have h := h.2 c43
          exact kj_X11_even_39 hU hL h K
theorem kj_X11_even {L : List (Nat × Nat)} (hU : ∀ q ∈ L, q ∈ njT) (hL : ∀ q ∈ kjL_X11_even, q ∈ L) {Q : Int32 → HS → Prop} {v0 : Nat} {v1 : Int32} {v2 : Int32} {v3 : Int32} {v4 : Int32} {S : HS} (h : P_X11_even v0 v1 v2 v3 v4 Q S) : P_X11_even v0 v1 v2 v3 v4 (fun r T => Q r T ∧ KJ L S T) S := kj_X11_even_0 hU hL h (kj9_rf L S)
abbrev kjL_X11_isSpeed : List (Nat × Nat) := []
set_option maxRecDepth 20000 in
set_option maxHeartbeats 1000000 in
theorem kj_X11_isSpeed_0 {L : List (Nat × Nat)} (hU : ∀ q ∈ L, q ∈ njT) (hL : ∀ q ∈ kjL_X11_isSpeed, q ∈ L) {Q : Int32 → HS → Prop} {v0 : Nat} {v1 : Int32} {v2 : Int32} {S0 S : HS} (h : P_X11_isSpeed_0 Q v0 v1 v2 S) (K : KJ L S0 S) : P_X11_isSpeed_0 (fun r T => Q r T ∧ KJ L S0 T) v0 v1 v2 S := by
  delta P_X11_isSpeed_0 at h ⊢
  obtain ⟨c1, h⟩ := h
  refine ⟨c1, ?_⟩
  have o2 := c1
  obtain ⟨b3, e4, h⟩ := h
  refine ⟨b3, e4, ?_⟩
  obtain ⟨c5, h⟩ := h
  refine ⟨c5, ?_⟩
  have o6 := c5
  obtain ⟨b7, e8, h⟩ := h
  refine ⟨b7, e8, ?_⟩
  obtain ⟨c9, h⟩ := h
  refine ⟨c9, ?_⟩
  obtain ⟨c10, h⟩ := h
  refine ⟨c10, ?_⟩
  intro x12 e11
  have h := h x12 e11
  obtain ⟨b13, e14, h⟩ := h
  refine ⟨b13, e14, ?_⟩
  obtain ⟨c15, h⟩ := h
  refine ⟨c15, ?_⟩
  have o16 := c15
  obtain ⟨b17, e18, h⟩ := h
  refine ⟨b17, e18, ?_⟩
  obtain ⟨c19, h⟩ := h
  refine ⟨c19, ?_⟩
  obtain ⟨c20, h⟩ := h
  refine ⟨c20, ?_⟩
  intro x22 e21
  have h := h x22 e21
  refine cm_X11_in (kj_X11_in hU (fun q hq => hL q ((by decide : ∀ q ∈ kjL_X11_in, q ∈ kjL_X11_isSpeed) q hq)) h) h (fun x23 x24 p27 h g25 g26 => ?_)
  have h := h g25 g26
  have K := kj9_tr K p27.2
  have o2 := gr_ob p27.2.1 o2
  have o6 := gr_ob p27.2.1 o6
  have o16 := gr_ob p27.2.1 o16
  obtain ⟨c28, h⟩ := h
  refine ⟨c28, ?_⟩
  exact ⟨h, K⟩
theorem kj_X11_isSpeed {L : List (Nat × Nat)} (hU : ∀ q ∈ L, q ∈ njT) (hL : ∀ q ∈ kjL_X11_isSpeed, q ∈ L) {Q : Int32 → HS → Prop} {v0 : Nat} {v1 : Int32} {v2 : Int32} {S : HS} (h : P_X11_isSpeed v0 v1 v2 Q S) : P_X11_isSpeed v0 v1 v2 (fun r T => Q r T ∧ KJ L S T) S := kj_X11_isSpeed_0 hU hL h (kj9_rf L S)
abbrev kjL_X11_refuses : List (Nat × Nat) := []
set_option maxRecDepth 20000 in
set_option maxHeartbeats 1000000 in
theorem kj_X11_refuses_0 {L : List (Nat × Nat)} (hU : ∀ q ∈ L, q ∈ njT) (hL : ∀ q ∈ kjL_X11_refuses, q ∈ L) {Q : Int32 → HS → Prop} {v0 : Nat} {v1 : Int32} {v2 : Int32} {v3 : Int32} {v4 : Int32} {v5 : Int32} {S0 S : HS} (h : P_X11_refuses_0 Q v0 v1 v2 v3 v4 v5 S) (K : KJ L S0 S) : P_X11_refuses_0 (fun r T => Q r T ∧ KJ L S0 T) v0 v1 v2 v3 v4 v5 S := by
  delta P_X11_refuses_0 at h ⊢
  obtain ⟨c1, h⟩ := h
  refine ⟨c1, ?_⟩
  refine cm_X11_isWalker (kj_X11_isWalker hU (fun q hq => hL q ((by decide : ∀ q ∈ kjL_X11_isWalker, q ∈ kjL_X11_refuses) q hq)) h) h (fun x2 x3 p6 h g4 g5 => ?_)
  have h := h g4 g5
  have K := kj9_tr K p6.2
  refine ⟨?_, ?_⟩
  · intro c7
    have h := h.1 c7
    exact ⟨h, K⟩
  · intro c8
    have h := h.2 c8
    refine cm_X11_isRoad (kj_X11_isRoad hU (fun q hq => hL q ((by decide : ∀ q ∈ kjL_X11_isRoad, q ∈ kjL_X11_refuses) q hq)) h) h (fun x9 x10 p13 h g11 g12 => ?_)
    have h := h g11 g12
    have K := kj9_tr K p13.2
    refine ⟨?_, ?_⟩
    · intro c14
      have h := h.1 c14
      exact ⟨h, K⟩
    · intro c15
      have h := h.2 c15
      refine cm_X11_in (kj_X11_in hU (fun q hq => hL q ((by decide : ∀ q ∈ kjL_X11_in, q ∈ kjL_X11_refuses) q hq)) h) h (fun x16 x17 p20 h g18 g19 => ?_)
      have h := h g18 g19
      have K := kj9_tr K p20.2
      refine ⟨?_, ?_⟩
      · intro c21
        have h := h.1 c21
        exact ⟨h, K⟩
      · intro c22
        have h := h.2 c22
        refine cm_X11_isHour (kj_X11_isHour hU (fun q hq => hL q ((by decide : ∀ q ∈ kjL_X11_isHour, q ∈ kjL_X11_refuses) q hq)) h) h (fun x23 x24 p27 h g25 g26 => ?_)
        have h := h g25 g26
        have K := kj9_tr K p27.2
        refine ⟨?_, ?_⟩
        · intro c28
          have h := h.1 c28
          refine cm_X11_isSpeed (kj_X11_isSpeed hU (fun q hq => hL q ((by decide : ∀ q ∈ kjL_X11_isSpeed, q ∈ kjL_X11_refuses) q hq)) h) h (fun x29 x30 p33 h g31 g32 => ?_)
          have h := h g31 g32
          have K := kj9_tr K p33.2
          refine ⟨?_, ?_⟩
          · intro c34
            have h := h.1 c34
            exact ⟨h, K⟩
          · intro c35
            have h := h.2 c35
            exact ⟨h, K⟩
        · intro c36
          have h := h.2 c36
          exact ⟨h, K⟩
theorem kj_X11_refuses {L : List (Nat × Nat)} (hU : ∀ q ∈ L, q ∈ njT) (hL : ∀ q ∈ kjL_X11_refuses, q ∈ L) {Q : Int32 → HS → Prop} {v0 : Nat} {v1 : Int32} {v2 : Int32} {v3 : Int32} {v4 : Int32} {v5 : Int32} {S : HS} (h : P_X11_refuses v0 v1 v2 v3 v4 v5 Q S) : P_X11_refuses v0 v1 v2 v3 v4 v5 (fun r T => Q r T ∧ KJ L S T) S := kj_X11_refuses_0 hU hL h (kj9_rf L S)
abbrev kjL_X11_told : List (Nat × Nat) := []
set_option maxRecDepth 20000 in
set_option maxHeartbeats 1000000 in
theorem kjB_X11_told_12 {L : List (Nat × Nat)} (hU : ∀ q ∈ L, q ∈ njT) (hL : ∀ q ∈ kjL_X11_told, q ∈ L) {Q : Int64 → HS → Prop} {X12 X12_2 : Int64 → Int64 → Int32 → Int64 → Int64 → HS → Prop} {v1 : Int64} {v3 : Int64} {v5 : Int32} {v6 : Int64} {v8 : Int64} {S0 S : HS} (h : B_X11_told_12 Q X12 v1 v3 v5 v6 v8 S) (K : KJ L S0 S) (hX12 : ∀ (u0 : Int64) (u1 : Int64) (u2 : Int32) (u3 : Int64) (u4 : Int64) (u5 : HS), X12 u0 u1 u2 u3 u4 u5 → KJ L S0 u5 → X12_2 u0 u1 u2 u3 u4 u5) : B_X11_told_12 (fun r T => Q r T ∧ KJ L S0 T) X12_2 v1 v3 v5 v6 v8 S := by
  delta B_X11_told_12 at h ⊢
  refine ⟨?_, ?_⟩
  · intro c1
    have h := h.1 c1
    refine ⟨?_, ?_⟩
    · intro c2
      have h := h.1 c2
      obtain ⟨c3, h⟩ := h
      refine ⟨c3, ?_⟩
      intro x5 e4
      have h := h x5 e4
      exact ⟨h, K⟩
    · intro c6
      have h := h.2 c6
      obtain ⟨c7, h⟩ := h
      refine ⟨c7, ?_⟩
      intro x9 e8
      have h := h x9 e8
      exact ⟨h, K⟩
  · intro c10
    have h := h.2 c10
    obtain ⟨c11, h⟩ := h
    refine ⟨c11, ?_⟩
    intro x13 e12
    have h := h x13 e12
    exact hX12 _ _ _ _ _ _ h K
theorem kj_X11_told_12 {L : List (Nat × Nat)} (hU : ∀ q ∈ L, q ∈ njT) (hL : ∀ q ∈ kjL_X11_told, q ∈ L) {Q : Int64 → HS → Prop} {v1 : Int64} {v3 : Int64} {v5 : Int32} {v6 : Int64} {v8 : Int64} {S0 S : HS} (h : P_X11_told_12 Q v1 v3 v5 v6 v8 S) (K : KJ L S0 S) : P_X11_told_12 (fun r T => Q r T ∧ KJ L S0 T) v1 v3 v5 v6 v8 S := h (fun v1 v3 v5 v6 v8 S => KJ L S0 S → P_X11_told_12 (fun r T => Q r T ∧ KJ L S0 T) v1 v3 v5 v6 v8 S) (fun v1 v3 v5 v6 v8 S hB K => fd_X11_told_12 (kjB_X11_told_12 hU hL hB K (fun _ _ _ _ _ _ hx K => hx K))) K
set_option maxRecDepth 20000 in
set_option maxHeartbeats 1000000 in
theorem kj_X11_told_0 {L : List (Nat × Nat)} (hU : ∀ q ∈ L, q ∈ njT) (hL : ∀ q ∈ kjL_X11_told, q ∈ L) {Q : Int64 → HS → Prop} {v0 : Nat} {v1 : Int64} {v3 : Int64} {v5 : Int32} {S0 S : HS} (h : P_X11_told_0 Q v0 v1 v3 v5 S) (K : KJ L S0 S) : P_X11_told_0 (fun r T => Q r T ∧ KJ L S0 T) v0 v1 v3 v5 S := by
  delta P_X11_told_0 at h ⊢
  obtain ⟨c1, h⟩ := h
  refine ⟨c1, ?_⟩
  refine cm_X11_good (kj_X11_good hU (fun q hq => hL q ((by decide : ∀ q ∈ kjL_X11_good, q ∈ kjL_X11_told) q hq)) h) h (fun x2 x3 p5 h g4 => ?_)
  have h := h g4
  have K := kj9_tr K p5.2
  exact kj_X11_told_12 hU hL h K
theorem kj_X11_told {L : List (Nat × Nat)} (hU : ∀ q ∈ L, q ∈ njT) (hL : ∀ q ∈ kjL_X11_told, q ∈ L) {Q : Int64 → HS → Prop} {v0 : Nat} {v1 : Int64} {v3 : Int64} {v5 : Int32} {S : HS} (h : P_X11_told v0 v1 v3 v5 Q S) : P_X11_told v0 v1 v3 v5 (fun r T => Q r T ∧ KJ L S T) S := kj_X11_told_0 hU hL h (kj9_rf L S)
abbrev kjL_X11_face : List (Nat × Nat) := []
set_option maxRecDepth 20000 in
set_option maxHeartbeats 1000000 in
theorem kj_X11_face_30 {L : List (Nat × Nat)} (hU : ∀ q ∈ L, q ∈ njT) (hL : ∀ q ∈ kjL_X11_face, q ∈ L) {Q : Int64 → HS → Prop} {v0 : Nat} {v1 : Int32} {v2 : Int32} {v3 : Int32} {v4 : Int32} {v5 : Int32} {v6 : Int32} {v7 : Int32} {s0 : Int32} {S0 S : HS} (h : P_X11_face_30 Q v0 v1 v2 v3 v4 v5 v6 v7 s0 S) (K : KJ L S0 S) : P_X11_face_30 (fun r T => Q r T ∧ KJ L S0 T) v0 v1 v2 v3 v4 v5 v6 v7 s0 S := by
  delta P_X11_face_30 at h ⊢
  refine ⟨?_, ?_⟩
  · intro c1
    have h := h.1 c1
    obtain ⟨c2, h⟩ := h
    refine ⟨c2, ?_⟩
    refine cm_X11_partsOf (kj_X11_partsOf hU (fun q hq => hL q ((by decide : ∀ q ∈ kjL_X11_partsOf, q ∈ kjL_X11_face) q hq)) h) h (fun x3 x4 p6 h g5 => ?_)
    have h := h g5
    have K := kj9_tr K p6.2
    refine cm_X11_told (kj_X11_told hU (fun q hq => hL q ((by decide : ∀ q ∈ kjL_X11_told, q ∈ kjL_X11_face) q hq)) h) h (fun x7 x8 p10 h g9 => ?_)
    have h := h g9
    have K := kj9_tr K p10.2
    exact ⟨h, K⟩
  · intro c11
    have h := h.2 c11
    obtain ⟨c12, h⟩ := h
    refine ⟨c12, ?_⟩
    refine cm_X11_refused (kj_X11_refused hU (fun q hq => hL q ((by decide : ∀ q ∈ kjL_X11_refused, q ∈ kjL_X11_face) q hq)) h) h (fun x13 x14 p16 h g15 => ?_)
    have h := h g15
    have K := kj9_tr K p16.2
    exact ⟨h, K⟩
set_option maxRecDepth 20000 in
set_option maxHeartbeats 1000000 in
theorem kj_X11_face_0 {L : List (Nat × Nat)} (hU : ∀ q ∈ L, q ∈ njT) (hL : ∀ q ∈ kjL_X11_face, q ∈ L) {Q : Int64 → HS → Prop} {v0 : Nat} {v1 : Int32} {v2 : Int32} {v3 : Int32} {v4 : Int32} {v5 : Int32} {v6 : Int32} {v7 : Int32} {S0 S : HS} (h : P_X11_face_0 Q v0 v1 v2 v3 v4 v5 v6 v7 S) (K : KJ L S0 S) : P_X11_face_0 (fun r T => Q r T ∧ KJ L S0 T) v0 v1 v2 v3 v4 v5 v6 v7 S := by
  delta P_X11_face_0 at h ⊢
  obtain ⟨c1, h⟩ := h
  refine ⟨c1, ?_⟩
  have n2 := kj9_nk K c1 (by decide)
  intro x4 e3
  have h := h x4 e3
  have K := kj9_I K e3 n2
  refine cm_X11_in (kj_X11_in hU (fun q hq => hL q ((by decide : ∀ q ∈ kjL_X11_in, q ∈ kjL_X11_face) q hq)) h) h (fun x5 x6 p9 h g7 g8 => ?_)
  have h := h g7 g8
  have K := kj9_tr K p9.2
  refine ⟨?_, ?_⟩
  · intro c10
    have h := h.1 c10
    exact kj_X11_face_30 hU hL h K
  · intro c11
    have h := h.2 c11
    refine cm_X11_refuses (kj_X11_refuses hU (fun q hq => hL q ((by decide : ∀ q ∈ kjL_X11_refuses, q ∈ kjL_X11_face) q hq)) h) h (fun x12 x13 p15 h g14 => ?_)
    have h := h g14
    have K := kj9_tr K p15.2
    exact kj_X11_face_30 hU hL h K
theorem kj_X11_face {L : List (Nat × Nat)} (hU : ∀ q ∈ L, q ∈ njT) (hL : ∀ q ∈ kjL_X11_face, q ∈ L) {Q : Int64 → HS → Prop} {v0 : Nat} {v1 : Int32} {v2 : Int32} {v3 : Int32} {v4 : Int32} {v5 : Int32} {v6 : Int32} {v7 : Int32} {S : HS} (h : P_X11_face v0 v1 v2 v3 v4 v5 v6 v7 Q S) : P_X11_face v0 v1 v2 v3 v4 v5 v6 v7 (fun r T => Q r T ∧ KJ L S T) S := kj_X11_face_0 hU hL h (kj9_rf L S)
abbrev kjL_X11_fault : List (Nat × Nat) := []
set_option maxRecDepth 20000 in
set_option maxHeartbeats 1000000 in
theorem kj_X11_fault_0 {L : List (Nat × Nat)} (hU : ∀ q ∈ L, q ∈ njT) (hL : ∀ q ∈ kjL_X11_fault, q ∈ L) {Q : Int32 → HS → Prop} {v0 : Nat} {S0 S : HS} (h : P_X11_fault_0 Q v0 S) (K : KJ L S0 S) : P_X11_fault_0 (fun r T => Q r T ∧ KJ L S0 T) v0 S := by
  delta P_X11_fault_0 at h ⊢
  obtain ⟨c1, h⟩ := h
  refine ⟨c1, ?_⟩
  have n2 := kj9_nk K c1 (by decide)
  intro x4 e3
  have h := h x4 e3
  have K := kj9_I K e3 n2
  intro x6 e5
  have h := h x6 e5
  exact ⟨h, K⟩
theorem kj_X11_fault {L : List (Nat × Nat)} (hU : ∀ q ∈ L, q ∈ njT) (hL : ∀ q ∈ kjL_X11_fault, q ∈ L) {Q : Int32 → HS → Prop} {v0 : Nat} {S : HS} (h : P_X11_fault v0 Q S) : P_X11_fault v0 (fun r T => Q r T ∧ KJ L S T) S := kj_X11_fault_0 hU hL h (kj9_rf L S)
abbrev kjL_X11_feed : List (Nat × Nat) := []
set_option maxRecDepth 20000 in
set_option maxHeartbeats 1000000 in
theorem kj_X11_feed_76 {L : List (Nat × Nat)} (hU : ∀ q ∈ L, q ∈ njT) (hL : ∀ q ∈ kjL_X11_feed, q ∈ L) {Q : Int32 → HS → Prop} {X23 X23_2 : Nat → Int32 → Int32 → Int32 → Int32 → Int32 → Int32 → HS → Prop} {v0 : Nat} {v1 : Int32} {v2 : Int32} {v3 : Int32} {v4 : Int32} {v5 : Int32} {v6 : Int32} {s0 : Int32} {S0 S : HS} (h : P_X11_feed_76 Q X23 v0 v1 v2 v3 v4 v5 v6 s0 S) (K : KJ L S0 S) (hX23 : ∀ (u0 : Nat) (u1 : Int32) (u2 : Int32) (u3 : Int32) (u4 : Int32) (u5 : Int32) (u6 : Int32) (u7 : HS), X23 u0 u1 u2 u3 u4 u5 u6 u7 → KJ L S0 u7 → X23_2 u0 u1 u2 u3 u4 u5 u6 u7) : P_X11_feed_76 (fun r T => Q r T ∧ KJ L S0 T) X23_2 v0 v1 v2 v3 v4 v5 v6 s0 S := by
  delta P_X11_feed_76 at h ⊢
  obtain ⟨c1, h⟩ := h
  refine ⟨c1, ?_⟩
  have n2 := kj9_nk K c1 (by decide)
  have o3 := c1
  obtain ⟨b4, e5, h⟩ := h
  refine ⟨b4, e5, ?_⟩
  intro x7 e6
  have h := h x7 e6
  intro x9 e8
  have h := h x9 e8
  obtain ⟨c10, h⟩ := h
  refine ⟨c10, ?_⟩
  have n11 := kj9_nk K c10 (by decide)
  intro x13 e12
  have h := h x13 e12
  obtain ⟨c14, h⟩ := h
  refine ⟨c14, ?_⟩
  intro x16 e15
  have h := h x16 e15
  have K := kj9_I K e15 n11
  have o3 := ob_wI o3 e15
  intro x18 e17
  have h := h x18 e17
  intro x20 e19
  have h := h x20 e19
  intro x22 e21
  have h := h x22 e21
  have K := kj9_I K e21 n2
  have o3 := ob_wI o3 e21
  intro x24 e23
  have h := h x24 e23
  exact hX23 _ _ _ _ _ _ _ _ h K
set_option maxRecDepth 20000 in
set_option maxHeartbeats 1000000 in
theorem kjB_X11_feed_23 {L : List (Nat × Nat)} (hU : ∀ q ∈ L, q ∈ njT) (hL : ∀ q ∈ kjL_X11_feed, q ∈ L) {Q : Int32 → HS → Prop} {X23 X23_2 : Nat → Int32 → Int32 → Int32 → Int32 → Int32 → Int32 → HS → Prop} {v0 : Nat} {v1 : Int32} {v2 : Int32} {v3 : Int32} {v4 : Int32} {v5 : Int32} {v6 : Int32} {S0 S : HS} (h : B_X11_feed_23 Q X23 v0 v1 v2 v3 v4 v5 v6 S) (K : KJ L S0 S) (hX23 : ∀ (u0 : Nat) (u1 : Int32) (u2 : Int32) (u3 : Int32) (u4 : Int32) (u5 : Int32) (u6 : Int32) (u7 : HS), X23 u0 u1 u2 u3 u4 u5 u6 u7 → KJ L S0 u7 → X23_2 u0 u1 u2 u3 u4 u5 u6 u7) : B_X11_feed_23 (fun r T => Q r T ∧ KJ L S0 T) X23_2 v0 v1 v2 v3 v4 v5 v6 S := by
  delta B_X11_feed_23 at h ⊢
  refine ⟨?_, ?_⟩
  · intro c1
    have h := h.1 c1
    obtain ⟨c2, h⟩ := h
    refine ⟨c2, ?_⟩
    intro x4 e3
    have h := h x4 e3
    exact ⟨h, K⟩
  · intro c5
    have h := h.2 c5
    refine ⟨?_, ?_⟩
    · intro c6
      have h := h.1 c6
      refine ⟨?_, ?_⟩
      · intro c7
        have h := h.1 c7
        refine ⟨?_, ?_⟩
        · intro c8
          have h := h.1 c8
          refine ⟨?_, ?_⟩
          · intro c9
            have h := h.1 c9
            exact kj_X11_feed_76 hU hL h K hX23
          · intro c10
            have h := h.2 c10
            exact kj_X11_feed_76 hU hL h K hX23
        · intro c11
          have h := h.2 c11
          exact kj_X11_feed_76 hU hL h K hX23
      · intro c12
        have h := h.2 c12
        exact kj_X11_feed_76 hU hL h K hX23
    · intro c13
      have h := h.2 c13
      exact kj_X11_feed_76 hU hL h K hX23
theorem kj_X11_feed_23 {L : List (Nat × Nat)} (hU : ∀ q ∈ L, q ∈ njT) (hL : ∀ q ∈ kjL_X11_feed, q ∈ L) {Q : Int32 → HS → Prop} {v0 : Nat} {v1 : Int32} {v2 : Int32} {v3 : Int32} {v4 : Int32} {v5 : Int32} {v6 : Int32} {S0 S : HS} (h : P_X11_feed_23 Q v0 v1 v2 v3 v4 v5 v6 S) (K : KJ L S0 S) : P_X11_feed_23 (fun r T => Q r T ∧ KJ L S0 T) v0 v1 v2 v3 v4 v5 v6 S := h (fun v0 v1 v2 v3 v4 v5 v6 S => KJ L S0 S → P_X11_feed_23 (fun r T => Q r T ∧ KJ L S0 T) v0 v1 v2 v3 v4 v5 v6 S) (fun v0 v1 v2 v3 v4 v5 v6 S hB K => fd_X11_feed_23 (kjB_X11_feed_23 hU hL hB K (fun _ _ _ _ _ _ _ _ hx K => hx K))) K
set_option maxRecDepth 20000 in
set_option maxHeartbeats 1000000 in
theorem kj_X11_feed_0 {L : List (Nat × Nat)} (hU : ∀ q ∈ L, q ∈ njT) (hL : ∀ q ∈ kjL_X11_feed, q ∈ L) {Q : Int32 → HS → Prop} {v0 : Nat} {v1 : Int32} {v2 : Int32} {v3 : Int32} {v4 : Int32} {v5 : Int32} {S0 S : HS} (h : P_X11_feed_0 Q v0 v1 v2 v3 v4 v5 S) (K : KJ L S0 S) : P_X11_feed_0 (fun r T => Q r T ∧ KJ L S0 T) v0 v1 v2 v3 v4 v5 S := by
  delta P_X11_feed_0 at h ⊢
  obtain ⟨c1, h⟩ := h
  refine ⟨c1, ?_⟩
  have n2 := kj9_nk K c1 (by decide)
  intro x4 e3
  have h := h x4 e3
  have K := kj9_I K e3 n2
  intro x6 e5
  have h := h x6 e5
  refine ⟨?_, ?_⟩
  · intro c7
    have h := h.1 c7
    exact kj_X11_feed_23 hU hL h K
  · intro c8
    have h := h.2 c8
    exact ⟨h, K⟩
theorem kj_X11_feed {L : List (Nat × Nat)} (hU : ∀ q ∈ L, q ∈ njT) (hL : ∀ q ∈ kjL_X11_feed, q ∈ L) {Q : Int32 → HS → Prop} {v0 : Nat} {v1 : Int32} {v2 : Int32} {v3 : Int32} {v4 : Int32} {v5 : Int32} {S : HS} (h : P_X11_feed v0 v1 v2 v3 v4 v5 Q S) : P_X11_feed v0 v1 v2 v3 v4 v5 (fun r T => Q r T ∧ KJ L S T) S := kj_X11_feed_0 hU hL h (kj9_rf L S)
abbrev kjL_X11_refusesTwo : List (Nat × Nat) := []
set_option maxRecDepth 20000 in
set_option maxHeartbeats 1000000 in
theorem kj_X11_refusesTwo_0 {L : List (Nat × Nat)} (hU : ∀ q ∈ L, q ∈ njT) (hL : ∀ q ∈ kjL_X11_refusesTwo, q ∈ L) {Q : Int32 → HS → Prop} {v0 : Nat} {v1 : Int32} {v2 : Int32} {v3 : Int32} {v4 : Int32} {v5 : Int32} {v6 : Int32} {S0 S : HS} (h : P_X11_refusesTwo_0 Q v0 v1 v2 v3 v4 v5 v6 S) (K : KJ L S0 S) : P_X11_refusesTwo_0 (fun r T => Q r T ∧ KJ L S0 T) v0 v1 v2 v3 v4 v5 v6 S := by
  delta P_X11_refusesTwo_0 at h ⊢
  refine ⟨?_, ?_⟩
  · intro c1
    have h := h.1 c1
    exact ⟨h, K⟩
  · intro c2
    have h := h.2 c2
    obtain ⟨c3, h⟩ := h
    refine ⟨c3, ?_⟩
    refine cm_X11_isWalker (kj_X11_isWalker hU (fun q hq => hL q ((by decide : ∀ q ∈ kjL_X11_isWalker, q ∈ kjL_X11_refusesTwo) q hq)) h) h (fun x4 x5 p8 h g6 g7 => ?_)
    have h := h g6 g7
    have K := kj9_tr K p8.2
    refine ⟨?_, ?_⟩
    · intro c9
      have h := h.1 c9
      refine cm_X11_refuses (kj_X11_refuses hU (fun q hq => hL q ((by decide : ∀ q ∈ kjL_X11_refuses, q ∈ kjL_X11_refusesTwo) q hq)) h) h (fun x10 x11 p13 h g12 => ?_)
      have h := h g12
      have K := kj9_tr K p13.2
      refine ⟨?_, ?_⟩
      · intro c14
        have h := h.1 c14
        refine cm_X11_isSpeed (kj_X11_isSpeed hU (fun q hq => hL q ((by decide : ∀ q ∈ kjL_X11_isSpeed, q ∈ kjL_X11_refusesTwo) q hq)) h) h (fun x15 x16 p19 h g17 g18 => ?_)
        have h := h g17 g18
        have K := kj9_tr K p19.2
        refine ⟨?_, ?_⟩
        · intro c20
          have h := h.1 c20
          exact ⟨h, K⟩
        · intro c21
          have h := h.2 c21
          exact ⟨h, K⟩
      · intro c22
        have h := h.2 c22
        exact ⟨h, K⟩
    · intro c23
      have h := h.2 c23
      exact ⟨h, K⟩
theorem kj_X11_refusesTwo {L : List (Nat × Nat)} (hU : ∀ q ∈ L, q ∈ njT) (hL : ∀ q ∈ kjL_X11_refusesTwo, q ∈ L) {Q : Int32 → HS → Prop} {v0 : Nat} {v1 : Int32} {v2 : Int32} {v3 : Int32} {v4 : Int32} {v5 : Int32} {v6 : Int32} {S : HS} (h : P_X11_refusesTwo v0 v1 v2 v3 v4 v5 v6 Q S) : P_X11_refusesTwo v0 v1 v2 v3 v4 v5 v6 (fun r T => Q r T ∧ KJ L S T) S := kj_X11_refusesTwo_0 hU hL h (kj9_rf L S)
abbrev kjL_X11_together : List (Nat × Nat) := []
set_option maxRecDepth 20000 in
set_option maxHeartbeats 1000000 in
theorem kjB_X11_together_6 {L : List (Nat × Nat)} (hU : ∀ q ∈ L, q ∈ njT) (hL : ∀ q ∈ kjL_X11_together, q ∈ L) {Q : Int64 → HS → Prop} {X6 X6_2 : Nat → Int32 → Int32 → Int32 → Int32 → Int32 → Int32 → Int64 → Int32 → HS → Prop} {v0 : Nat} {v1 : Int32} {v2 : Int32} {v3 : Int32} {v4 : Int32} {v5 : Int32} {v6 : Int32} {v7 : Int64} {v9 : Int32} {S0 S : HS} (h : B_X11_together_6 Q X6 v0 v1 v2 v3 v4 v5 v6 v7 v9 S) (K : KJ L S0 S) (hX6 : ∀ (u0 : Nat) (u1 : Int32) (u2 : Int32) (u3 : Int32) (u4 : Int32) (u5 : Int32) (u6 : Int32) (u7 : Int64) (u8 : Int32) (u9 : HS), X6 u0 u1 u2 u3 u4 u5 u6 u7 u8 u9 → KJ L S0 u9 → X6_2 u0 u1 u2 u3 u4 u5 u6 u7 u8 u9) : B_X11_together_6 (fun r T => Q r T ∧ KJ L S0 T) X6_2 v0 v1 v2 v3 v4 v5 v6 v7 v9 S := by
  delta B_X11_together_6 at h ⊢
  refine ⟨?_, ?_⟩
  · intro c1
    have h := h.1 c1
    obtain ⟨c2, h⟩ := h
    refine ⟨c2, ?_⟩
    have o3 := c2
    obtain ⟨b4, e5, h⟩ := h
    refine ⟨b4, e5, ?_⟩
    obtain ⟨c6, h⟩ := h
    refine ⟨c6, ?_⟩
    have o7 := c6
    obtain ⟨b8, e9, h⟩ := h
    refine ⟨b8, e9, ?_⟩
    obtain ⟨c10, h⟩ := h
    refine ⟨c10, ?_⟩
    obtain ⟨c11, h⟩ := h
    refine ⟨c11, ?_⟩
    intro x13 e12
    have h := h x13 e12
    obtain ⟨b14, e15, h⟩ := h
    refine ⟨b14, e15, ?_⟩
    obtain ⟨c16, h⟩ := h
    refine ⟨c16, ?_⟩
    have o17 := c16
    obtain ⟨b18, e19, h⟩ := h
    refine ⟨b18, e19, ?_⟩
    obtain ⟨c20, h⟩ := h
    refine ⟨c20, ?_⟩
    obtain ⟨c21, h⟩ := h
    refine ⟨c21, ?_⟩
    intro x23 e22
    have h := h x23 e22
    obtain ⟨c24, h⟩ := h
    refine ⟨c24, ?_⟩
    intro x26 e25
    have h := h x26 e25
    exact ⟨h, K⟩
  · intro c27
    have h := h.2 c27
    obtain ⟨c28, h⟩ := h
    refine ⟨c28, ?_⟩
    have o29 := c28
    obtain ⟨b30, e31, h⟩ := h
    refine ⟨b30, e31, ?_⟩
    obtain ⟨c32, h⟩ := h
    refine ⟨c32, ?_⟩
    have o33 := c32
    obtain ⟨b34, e35, h⟩ := h
    refine ⟨b34, e35, ?_⟩
    obtain ⟨c36, h⟩ := h
    refine ⟨c36, ?_⟩
    obtain ⟨c37, h⟩ := h
    refine ⟨c37, ?_⟩
    intro x39 e38
    have h := h x39 e38
    refine cm_X11_inTime (kj_X11_inTime hU (fun q hq => hL q ((by decide : ∀ q ∈ kjL_X11_inTime, q ∈ kjL_X11_together) q hq)) h) h (fun x40 x41 p43 h g42 => ?_)
    have h := h g42
    have K := kj9_tr K p43.2
    have o29 := gr_ob p43.2.1 o29
    have o33 := gr_ob p43.2.1 o33
    intro x45 e44
    have h := h x45 e44
    obtain ⟨b46, e47, h⟩ := h
    refine ⟨b46, e47, ?_⟩
    obtain ⟨c48, h⟩ := h
    refine ⟨c48, ?_⟩
    have o49 := c48
    obtain ⟨b50, e51, h⟩ := h
    refine ⟨b50, e51, ?_⟩
    obtain ⟨c52, h⟩ := h
    refine ⟨c52, ?_⟩
    obtain ⟨c53, h⟩ := h
    refine ⟨c53, ?_⟩
    intro x55 e54
    have h := h x55 e54
    refine cm_X11_inTime (kj_X11_inTime hU (fun q hq => hL q ((by decide : ∀ q ∈ kjL_X11_inTime, q ∈ kjL_X11_together) q hq)) h) h (fun x56 x57 p59 h g58 => ?_)
    have h := h g58
    have K := kj9_tr K p59.2
    have o29 := gr_ob p59.2.1 o29
    have o33 := gr_ob p59.2.1 o33
    have o49 := gr_ob p59.2.1 o49
    intro x61 e60
    have h := h x61 e60
    intro x63 e62
    have h := h x63 e62
    exact hX6 _ _ _ _ _ _ _ _ _ _ h K
theorem kj_X11_together_6 {L : List (Nat × Nat)} (hU : ∀ q ∈ L, q ∈ njT) (hL : ∀ q ∈ kjL_X11_together, q ∈ L) {Q : Int64 → HS → Prop} {v0 : Nat} {v1 : Int32} {v2 : Int32} {v3 : Int32} {v4 : Int32} {v5 : Int32} {v6 : Int32} {v7 : Int64} {v9 : Int32} {S0 S : HS} (h : P_X11_together_6 Q v0 v1 v2 v3 v4 v5 v6 v7 v9 S) (K : KJ L S0 S) : P_X11_together_6 (fun r T => Q r T ∧ KJ L S0 T) v0 v1 v2 v3 v4 v5 v6 v7 v9 S := h (fun v0 v1 v2 v3 v4 v5 v6 v7 v9 S => KJ L S0 S → P_X11_together_6 (fun r T => Q r T ∧ KJ L S0 T) v0 v1 v2 v3 v4 v5 v6 v7 v9 S) (fun v0 v1 v2 v3 v4 v5 v6 v7 v9 S hB K => fd_X11_together_6 (kjB_X11_together_6 hU hL hB K (fun _ _ _ _ _ _ _ _ _ _ hx K => hx K))) K
set_option maxRecDepth 20000 in
set_option maxHeartbeats 1000000 in
theorem kj_X11_together_0 {L : List (Nat × Nat)} (hU : ∀ q ∈ L, q ∈ njT) (hL : ∀ q ∈ kjL_X11_together, q ∈ L) {Q : Int64 → HS → Prop} {v0 : Nat} {v1 : Int32} {v2 : Int32} {v3 : Int32} {v4 : Int32} {v5 : Int32} {v6 : Int32} {S0 S : HS} (h : P_X11_together_0 Q v0 v1 v2 v3 v4 v5 v6 S) (K : KJ L S0 S) : P_X11_together_0 (fun r T => Q r T ∧ KJ L S0 T) v0 v1 v2 v3 v4 v5 v6 S := by
  delta P_X11_together_0 at h ⊢
  exact kj_X11_together_6 hU hL h K
theorem kj_X11_together {L : List (Nat × Nat)} (hU : ∀ q ∈ L, q ∈ njT) (hL : ∀ q ∈ kjL_X11_together, q ∈ L) {Q : Int64 → HS → Prop} {v0 : Nat} {v1 : Int32} {v2 : Int32} {v3 : Int32} {v4 : Int32} {v5 : Int32} {v6 : Int32} {S : HS} (h : P_X11_together v0 v1 v2 v3 v4 v5 v6 Q S) : P_X11_together v0 v1 v2 v3 v4 v5 v6 (fun r T => Q r T ∧ KJ L S T) S := kj_X11_together_0 hU hL h (kj9_rf L S)
abbrev kjL_X11_first : List (Nat × Nat) := []
set_option maxRecDepth 20000 in
set_option maxHeartbeats 1000000 in
theorem kj_X11_first_89 {L : List (Nat × Nat)} (hU : ∀ q ∈ L, q ∈ njT) (hL : ∀ q ∈ kjL_X11_first, q ∈ L) {Q : Int32 → HS → Prop} {s0 : Nat} {s1 : Int32} {S0 S : HS} (h : P_X11_first_89 Q s0 s1 S) (K : KJ L S0 S) : P_X11_first_89 (fun r T => Q r T ∧ KJ L S0 T) s0 s1 S := by
  delta P_X11_first_89 at h ⊢
  obtain ⟨c1, h⟩ := h
  refine ⟨c1, ?_⟩
  refine cm_X11_good (kj_X11_good hU (fun q hq => hL q ((by decide : ∀ q ∈ kjL_X11_good, q ∈ kjL_X11_first) q hq)) h) h (fun x2 x3 p5 h g4 => ?_)
  have h := h g4
  have K := kj9_tr K p5.2
  exact ⟨h, K⟩
set_option maxRecDepth 20000 in
set_option maxHeartbeats 1000000 in
theorem kj_X11_first_0 {L : List (Nat × Nat)} (hU : ∀ q ∈ L, q ∈ njT) (hL : ∀ q ∈ kjL_X11_first, q ∈ L) {Q : Int32 → HS → Prop} {v0 : Nat} {v1 : Int32} {v2 : Int32} {v3 : Int32} {v4 : Int32} {v5 : Int32} {v6 : Int32} {S0 S : HS} (h : P_X11_first_0 Q v0 v1 v2 v3 v4 v5 v6 S) (K : KJ L S0 S) : P_X11_first_0 (fun r T => Q r T ∧ KJ L S0 T) v0 v1 v2 v3 v4 v5 v6 S := by
  delta P_X11_first_0 at h ⊢
  obtain ⟨c1, h⟩ := h
  refine ⟨c1, ?_⟩
  have n2 := kj9_nk K c1 (by decide)
  intro x4 e3
  have h := h x4 e3
  have K := kj9_I K e3 n2
  refine cm_X11_refusesTwo (kj_X11_refusesTwo hU (fun q hq => hL q ((by decide : ∀ q ∈ kjL_X11_refusesTwo, q ∈ kjL_X11_first) q hq)) h) h (fun x5 x6 p8 h g7 => ?_)
  have h := h g7
  have K := kj9_tr K p8.2
  refine ⟨?_, ?_⟩
  · intro c9
    have h := h.1 c9
    refine cm_X11_together (kj_X11_together hU (fun q hq => hL q ((by decide : ∀ q ∈ kjL_X11_together, q ∈ kjL_X11_first) q hq)) h) h (fun x10 x11 p13 h g12 => ?_)
    have h := h g12
    have K := kj9_tr K p13.2
    refine cm_X11_together (kj_X11_together hU (fun q hq => hL q ((by decide : ∀ q ∈ kjL_X11_together, q ∈ kjL_X11_first) q hq)) h) h (fun x14 x15 p17 h g16 => ?_)
    have h := h g16
    have K := kj9_tr K p17.2
    refine ⟨?_, ?_⟩
    · intro c18
      have h := h.1 c18
      refine ⟨?_, ?_⟩
      · intro c19
        have h := h.1 c19
        exact kj_X11_first_89 hU hL h K
      · intro c20
        have h := h.2 c20
        exact kj_X11_first_89 hU hL h K
    · intro c21
      have h := h.2 c21
      exact kj_X11_first_89 hU hL h K
  · intro c22
    have h := h.2 c22
    refine cm_X11_refused (kj_X11_refused hU (fun q hq => hL q ((by decide : ∀ q ∈ kjL_X11_refused, q ∈ kjL_X11_first) q hq)) h) h (fun x23 x24 p26 h g25 => ?_)
    have h := h g25
    have K := kj9_tr K p26.2
    exact ⟨h, K⟩
theorem kj_X11_first {L : List (Nat × Nat)} (hU : ∀ q ∈ L, q ∈ njT) (hL : ∀ q ∈ kjL_X11_first, q ∈ L) {Q : Int32 → HS → Prop} {v0 : Nat} {v1 : Int32} {v2 : Int32} {v3 : Int32} {v4 : Int32} {v5 : Int32} {v6 : Int32} {S : HS} (h : P_X11_first v0 v1 v2 v3 v4 v5 v6 Q S) : P_X11_first v0 v1 v2 v3 v4 v5 v6 (fun r T => Q r T ∧ KJ L S T) S := kj_X11_first_0 hU hL h (kj9_rf L S)
abbrev kjL_X11_fitOf : List (Nat × Nat) := []
set_option maxRecDepth 20000 in
set_option maxHeartbeats 1000000 in
theorem kj_X11_fitOf_137 {L : List (Nat × Nat)} (hU : ∀ q ∈ L, q ∈ njT) (hL : ∀ q ∈ kjL_X11_fitOf, q ∈ L) {Q : Int32 → HS → Prop} {X16 X16_2 : Nat → Int32 → Int32 → Int32 → Int32 → Int32 → HS → Prop} {X31 X31_2 : Nat → Int32 → Int32 → Int32 → Int32 → Int32 → Int32 → HS → Prop} {X40 X40_2 : Nat → Int32 → Int32 → Int32 → Int32 → Int32 → Int32 → Int32 → HS → Prop} {X63 X63_2 : Nat → Int32 → Int32 → Int32 → Int32 → Int32 → Int32 → Int32 → Int32 → HS → Prop} {X83 X83_2 : Nat → Int32 → Int32 → Int32 → Int32 → Int32 → Int32 → Int32 → Int32 → Int32 → Int32 → HS → Prop} {v0 : Nat} {v1 : Int32} {v2 : Int32} {v3 : Int32} {v4 : Int32} {v5 : Int32} {v6 : Int32} {v7 : Int32} {v8 : Int32} {v10 : Int32} {s0 : Int32} {S0 S : HS} (h : P_X11_fitOf_137 Q X16 X31 X40 X63 X83 v0 v1 v2 v3 v4 v5 v6 v7 v8 v10 s0 S) (K : KJ L S0 S) (hX16 : ∀ (u0 : Nat) (u1 : Int32) (u2 : Int32) (u3 : Int32) (u4 : Int32) (u5 : Int32) (u6 : HS), X16 u0 u1 u2 u3 u4 u5 u6 → KJ L S0 u6 → X16_2 u0 u1 u2 u3 u4 u5 u6) (hX31 : ∀ (u0 : Nat) (u1 : Int32) (u2 : Int32) (u3 : Int32) (u4 : Int32) (u5 : Int32) (u6 : Int32) (u7 : HS), X31 u0 u1 u2 u3 u4 u5 u6 u7 → KJ L S0 u7 → X31_2 u0 u1 u2 u3 u4 u5 u6 u7) (hX40 : ∀ (u0 : Nat) (u1 : Int32) (u2 : Int32) (u3 : Int32) (u4 : Int32) (u5 : Int32) (u6 : Int32) (u7 : Int32) (u8 : HS), X40 u0 u1 u2 u3 u4 u5 u6 u7 u8 → KJ L S0 u8 → X40_2 u0 u1 u2 u3 u4 u5 u6 u7 u8) (hX63 : ∀ (u0 : Nat) (u1 : Int32) (u2 : Int32) (u3 : Int32) (u4 : Int32) (u5 : Int32) (u6 : Int32) (u7 : Int32) (u8 : Int32) (u9 : HS), X63 u0 u1 u2 u3 u4 u5 u6 u7 u8 u9 → KJ L S0 u9 → X63_2 u0 u1 u2 u3 u4 u5 u6 u7 u8 u9) (hX83 : ∀ (u0 : Nat) (u1 : Int32) (u2 : Int32) (u3 : Int32) (u4 : Int32) (u5 : Int32) (u6 : Int32) (u7 : Int32) (u8 : Int32) (u9 : Int32) (u10 : Int32) (u11 : HS), X83 u0 u1 u2 u3 u4 u5 u6 u7 u8 u9 u10 u11 → KJ L S0 u11 → X83_2 u0 u1 u2 u3 u4 u5 u6 u7 u8 u9 u10 u11) : P_X11_fitOf_137 (fun r T => Q r T ∧ KJ L S0 T) X16_2 X31_2 X40_2 X63_2 X83_2 v0 v1 v2 v3 v4 v5 v6 v7 v8 v10 s0 S := by
  delta P_X11_fitOf_137 at h ⊢
  intro x2 e1
  have h := h x2 e1
  exact hX83 _ _ _ _ _ _ _ _ _ _ _ _ h K
set_option maxRecDepth 20000 in
set_option maxHeartbeats 1000000 in
theorem kj_X11_fitOf_136 {L : List (Nat × Nat)} (hU : ∀ q ∈ L, q ∈ njT) (hL : ∀ q ∈ kjL_X11_fitOf, q ∈ L) {Q : Int32 → HS → Prop} {X16 X16_2 : Nat → Int32 → Int32 → Int32 → Int32 → Int32 → HS → Prop} {X31 X31_2 : Nat → Int32 → Int32 → Int32 → Int32 → Int32 → Int32 → HS → Prop} {X40 X40_2 : Nat → Int32 → Int32 → Int32 → Int32 → Int32 → Int32 → Int32 → HS → Prop} {X63 X63_2 : Nat → Int32 → Int32 → Int32 → Int32 → Int32 → Int32 → Int32 → Int32 → HS → Prop} {X83 X83_2 : Nat → Int32 → Int32 → Int32 → Int32 → Int32 → Int32 → Int32 → Int32 → Int32 → Int32 → HS → Prop} {v0 : Nat} {v1 : Int32} {v2 : Int32} {v3 : Int32} {v4 : Int32} {v5 : Int32} {v6 : Int32} {v7 : Int32} {v8 : Int32} {v10 : Int32} {S0 S : HS} (h : P_X11_fitOf_136 Q X16 X31 X40 X63 X83 v0 v1 v2 v3 v4 v5 v6 v7 v8 v10 S) (K : KJ L S0 S) (hX16 : ∀ (u0 : Nat) (u1 : Int32) (u2 : Int32) (u3 : Int32) (u4 : Int32) (u5 : Int32) (u6 : HS), X16 u0 u1 u2 u3 u4 u5 u6 → KJ L S0 u6 → X16_2 u0 u1 u2 u3 u4 u5 u6) (hX31 : ∀ (u0 : Nat) (u1 : Int32) (u2 : Int32) (u3 : Int32) (u4 : Int32) (u5 : Int32) (u6 : Int32) (u7 : HS), X31 u0 u1 u2 u3 u4 u5 u6 u7 → KJ L S0 u7 → X31_2 u0 u1 u2 u3 u4 u5 u6 u7) (hX40 : ∀ (u0 : Nat) (u1 : Int32) (u2 : Int32) (u3 : Int32) (u4 : Int32) (u5 : Int32) (u6 : Int32) (u7 : Int32) (u8 : HS), X40 u0 u1 u2 u3 u4 u5 u6 u7 u8 → KJ L S0 u8 → X40_2 u0 u1 u2 u3 u4 u5 u6 u7 u8) (hX63 : ∀ (u0 : Nat) (u1 : Int32) (u2 : Int32) (u3 : Int32) (u4 : Int32) (u5 : Int32) (u6 : Int32) (u7 : Int32) (u8 : Int32) (u9 : HS), X63 u0 u1 u2 u3 u4 u5 u6 u7 u8 u9 → KJ L S0 u9 → X63_2 u0 u1 u2 u3 u4 u5 u6 u7 u8 u9) (hX83 : ∀ (u0 : Nat) (u1 : Int32) (u2 : Int32) (u3 : Int32) (u4 : Int32) (u5 : Int32) (u6 : Int32) (u7 : Int32) (u8 : Int32) (u9 : Int32) (u10 : Int32) (u11 : HS), X83 u0 u1 u2 u3 u4 u5 u6 u7 u8 u9 u10 u11 → KJ L S0 u11 → X83_2 u0 u1 u2 u3 u4 u5 u6 u7 u8 u9 u10 u11) : P_X11_fitOf_136 (fun r T => Q r T ∧ KJ L S0 T) X16_2 X31_2 X40_2 X63_2 X83_2 v0 v1 v2 v3 v4 v5 v6 v7 v8 v10 S := by
  delta P_X11_fitOf_136 at h ⊢
  exact kj_X11_fitOf_137 hU hL h K hX16 hX31 hX40 hX63 hX83
set_option maxRecDepth 20000 in
set_option maxHeartbeats 1000000 in
theorem kj_X11_fitOf_184 {L : List (Nat × Nat)} (hU : ∀ q ∈ L, q ∈ njT) (hL : ∀ q ∈ kjL_X11_fitOf, q ∈ L) {Q : Int32 → HS → Prop} {X16 X16_2 : Nat → Int32 → Int32 → Int32 → Int32 → Int32 → HS → Prop} {X31 X31_2 : Nat → Int32 → Int32 → Int32 → Int32 → Int32 → Int32 → HS → Prop} {X40 X40_2 : Nat → Int32 → Int32 → Int32 → Int32 → Int32 → Int32 → Int32 → HS → Prop} {X63 X63_2 : Nat → Int32 → Int32 → Int32 → Int32 → Int32 → Int32 → Int32 → Int32 → HS → Prop} {v0 : Nat} {v1 : Int32} {v2 : Int32} {v3 : Int32} {v4 : Int32} {v5 : Int32} {v6 : Int32} {v7 : Int32} {v8 : Int32} {S0 S : HS} (h : P_X11_fitOf_184 Q X16 X31 X40 X63 v0 v1 v2 v3 v4 v5 v6 v7 v8 S) (K : KJ L S0 S) (hX16 : ∀ (u0 : Nat) (u1 : Int32) (u2 : Int32) (u3 : Int32) (u4 : Int32) (u5 : Int32) (u6 : HS), X16 u0 u1 u2 u3 u4 u5 u6 → KJ L S0 u6 → X16_2 u0 u1 u2 u3 u4 u5 u6) (hX31 : ∀ (u0 : Nat) (u1 : Int32) (u2 : Int32) (u3 : Int32) (u4 : Int32) (u5 : Int32) (u6 : Int32) (u7 : HS), X31 u0 u1 u2 u3 u4 u5 u6 u7 → KJ L S0 u7 → X31_2 u0 u1 u2 u3 u4 u5 u6 u7) (hX40 : ∀ (u0 : Nat) (u1 : Int32) (u2 : Int32) (u3 : Int32) (u4 : Int32) (u5 : Int32) (u6 : Int32) (u7 : Int32) (u8 : HS), X40 u0 u1 u2 u3 u4 u5 u6 u7 u8 → KJ L S0 u8 → X40_2 u0 u1 u2 u3 u4 u5 u6 u7 u8) (hX63 : ∀ (u0 : Nat) (u1 : Int32) (u2 : Int32) (u3 : Int32) (u4 : Int32) (u5 : Int32) (u6 : Int32) (u7 : Int32) (u8 : Int32) (u9 : HS), X63 u0 u1 u2 u3 u4 u5 u6 u7 u8 u9 → KJ L S0 u9 → X63_2 u0 u1 u2 u3 u4 u5 u6 u7 u8 u9) : P_X11_fitOf_184 (fun r T => Q r T ∧ KJ L S0 T) X16_2 X31_2 X40_2 X63_2 v0 v1 v2 v3 v4 v5 v6 v7 v8 S := by
  delta P_X11_fitOf_184 at h ⊢
  intro x2 e1
  have h := h x2 e1
  exact hX63 _ _ _ _ _ _ _ _ _ _ h K
set_option maxRecDepth 20000 in
set_option maxHeartbeats 1000000 in
theorem kjB_X11_fitOf_83 {L : List (Nat × Nat)} (hU : ∀ q ∈ L, q ∈ njT) (hL : ∀ q ∈ kjL_X11_fitOf, q ∈ L) {Q : Int32 → HS → Prop} {X16 X16_2 : Nat → Int32 → Int32 → Int32 → Int32 → Int32 → HS → Prop} {X31 X31_2 : Nat → Int32 → Int32 → Int32 → Int32 → Int32 → Int32 → HS → Prop} {X40 X40_2 : Nat → Int32 → Int32 → Int32 → Int32 → Int32 → Int32 → Int32 → HS → Prop} {X63 X63_2 : Nat → Int32 → Int32 → Int32 → Int32 → Int32 → Int32 → Int32 → Int32 → HS → Prop} {X83 X83_2 : Nat → Int32 → Int32 → Int32 → Int32 → Int32 → Int32 → Int32 → Int32 → Int32 → Int32 → HS → Prop} {v0 : Nat} {v1 : Int32} {v2 : Int32} {v3 : Int32} {v4 : Int32} {v5 : Int32} {v6 : Int32} {v7 : Int32} {v8 : Int32} {v9 : Int32} {v10 : Int32} {S0 S : HS} (h : B_X11_fitOf_83 Q X16 X31 X40 X63 X83 v0 v1 v2 v3 v4 v5 v6 v7 v8 v9 v10 S) (K : KJ L S0 S) (hX16 : ∀ (u0 : Nat) (u1 : Int32) (u2 : Int32) (u3 : Int32) (u4 : Int32) (u5 : Int32) (u6 : HS), X16 u0 u1 u2 u3 u4 u5 u6 → KJ L S0 u6 → X16_2 u0 u1 u2 u3 u4 u5 u6) (hX31 : ∀ (u0 : Nat) (u1 : Int32) (u2 : Int32) (u3 : Int32) (u4 : Int32) (u5 : Int32) (u6 : Int32) (u7 : HS), X31 u0 u1 u2 u3 u4 u5 u6 u7 → KJ L S0 u7 → X31_2 u0 u1 u2 u3 u4 u5 u6 u7) (hX40 : ∀ (u0 : Nat) (u1 : Int32) (u2 : Int32) (u3 : Int32) (u4 : Int32) (u5 : Int32) (u6 : Int32) (u7 : Int32) (u8 : HS), X40 u0 u1 u2 u3 u4 u5 u6 u7 u8 → KJ L S0 u8 → X40_2 u0 u1 u2 u3 u4 u5 u6 u7 u8) (hX63 : ∀ (u0 : Nat) (u1 : Int32) (u2 : Int32) (u3 : Int32) (u4 : Int32) (u5 : Int32) (u6 : Int32) (u7 : Int32) (u8 : Int32) (u9 : HS), X63 u0 u1 u2 u3 u4 u5 u6 u7 u8 u9 → KJ L S0 u9 → X63_2 u0 u1 u2 u3 u4 u5 u6 u7 u8 u9) (hX83 : ∀ (u0 : Nat) (u1 : Int32) (u2 : Int32) (u3 : Int32) (u4 : Int32) (u5 : Int32) (u6 : Int32) (u7 : Int32) (u8 : Int32) (u9 : Int32) (u10 : Int32) (u11 : HS), X83 u0 u1 u2 u3 u4 u5 u6 u7 u8 u9 u10 u11 → KJ L S0 u11 → X83_2 u0 u1 u2 u3 u4 u5 u6 u7 u8 u9 u10 u11) : B_X11_fitOf_83 (fun r T => Q r T ∧ KJ L S0 T) X16_2 X31_2 X40_2 X63_2 X83_2 v0 v1 v2 v3 v4 v5 v6 v7 v8 v9 v10 S := by
  delta B_X11_fitOf_83 at h ⊢
  refine ⟨?_, ?_⟩
  · intro c1
    have h := h.1 c1
    refine ⟨?_, ?_⟩
    · intro c2
      have h := h.1 c2
      refine ⟨?_, ?_⟩
      · intro c3
        have h := h.1 c3
        intro x5 e4
        have h := h x5 e4
        exact kj_X11_fitOf_184 hU hL h K hX16 hX31 hX40 hX63
      · intro c6
        have h := h.2 c6
        exact ⟨h, K⟩
    · intro c7
      have h := h.2 c7
      exact kj_X11_fitOf_184 hU hL h K hX16 hX31 hX40 hX63
  · intro c8
    have h := h.2 c8
    refine ⟨?_, ?_⟩
    · intro c9
      have h := h.1 c9
      exact kj_X11_fitOf_136 hU hL h K hX16 hX31 hX40 hX63 hX83
    · intro c10
      have h := h.2 c10
      obtain ⟨c11, h⟩ := h
      refine ⟨c11, ?_⟩
      have o12 := c11
      refine cm_X11_partsOf (kj_X11_partsOf hU (fun q hq => hL q ((by decide : ∀ q ∈ kjL_X11_partsOf, q ∈ kjL_X11_fitOf) q hq)) h) h (fun x13 x14 p16 h g15 => ?_)
      have h := h g15
      have K := kj9_tr K p16.2
      have o12 := gr_ob p16.2.1 o12
      obtain ⟨b17, e18, h⟩ := h
      refine ⟨b17, e18, ?_⟩
      obtain ⟨c19, h⟩ := h
      refine ⟨c19, ?_⟩
      have o20 := c19
      obtain ⟨b21, e22, h⟩ := h
      refine ⟨b21, e22, ?_⟩
      obtain ⟨c23, h⟩ := h
      refine ⟨c23, ?_⟩
      intro x25 e24
      have h := h x25 e24
      obtain ⟨c26, h⟩ := h
      refine ⟨c26, ?_⟩
      intro x28 e27
      have h := h x28 e27
      refine ⟨?_, ?_⟩
      · intro c29
        have h := h.1 c29
        exact kj_X11_fitOf_136 hU hL h K hX16 hX31 hX40 hX63 hX83
      · intro c30
        have h := h.2 c30
        exact kj_X11_fitOf_137 hU hL h K hX16 hX31 hX40 hX63 hX83
theorem kj_X11_fitOf_83 {L : List (Nat × Nat)} (hU : ∀ q ∈ L, q ∈ njT) (hL : ∀ q ∈ kjL_X11_fitOf, q ∈ L) {Q : Int32 → HS → Prop} {X16 X16_2 : Nat → Int32 → Int32 → Int32 → Int32 → Int32 → HS → Prop} {X31 X31_2 : Nat → Int32 → Int32 → Int32 → Int32 → Int32 → Int32 → HS → Prop} {X40 X40_2 : Nat → Int32 → Int32 → Int32 → Int32 → Int32 → Int32 → Int32 → HS → Prop} {X63 X63_2 : Nat → Int32 → Int32 → Int32 → Int32 → Int32 → Int32 → Int32 → Int32 → HS → Prop} {v0 : Nat} {v1 : Int32} {v2 : Int32} {v3 : Int32} {v4 : Int32} {v5 : Int32} {v6 : Int32} {v7 : Int32} {v8 : Int32} {v9 : Int32} {v10 : Int32} {S0 S : HS} (h : P_X11_fitOf_83 Q X16 X31 X40 X63 v0 v1 v2 v3 v4 v5 v6 v7 v8 v9 v10 S) (K : KJ L S0 S) (hX16 : ∀ (u0 : Nat) (u1 : Int32) (u2 : Int32) (u3 : Int32) (u4 : Int32) (u5 : Int32) (u6 : HS), X16 u0 u1 u2 u3 u4 u5 u6 → KJ L S0 u6 → X16_2 u0 u1 u2 u3 u4 u5 u6) (hX31 : ∀ (u0 : Nat) (u1 : Int32) (u2 : Int32) (u3 : Int32) (u4 : Int32) (u5 : Int32) (u6 : Int32) (u7 : HS), X31 u0 u1 u2 u3 u4 u5 u6 u7 → KJ L S0 u7 → X31_2 u0 u1 u2 u3 u4 u5 u6 u7) (hX40 : ∀ (u0 : Nat) (u1 : Int32) (u2 : Int32) (u3 : Int32) (u4 : Int32) (u5 : Int32) (u6 : Int32) (u7 : Int32) (u8 : HS), X40 u0 u1 u2 u3 u4 u5 u6 u7 u8 → KJ L S0 u8 → X40_2 u0 u1 u2 u3 u4 u5 u6 u7 u8) (hX63 : ∀ (u0 : Nat) (u1 : Int32) (u2 : Int32) (u3 : Int32) (u4 : Int32) (u5 : Int32) (u6 : Int32) (u7 : Int32) (u8 : Int32) (u9 : HS), X63 u0 u1 u2 u3 u4 u5 u6 u7 u8 u9 → KJ L S0 u9 → X63_2 u0 u1 u2 u3 u4 u5 u6 u7 u8 u9) : P_X11_fitOf_83 (fun r T => Q r T ∧ KJ L S0 T) X16_2 X31_2 X40_2 X63_2 v0 v1 v2 v3 v4 v5 v6 v7 v8 v9 v10 S := h (fun v0 v1 v2 v3 v4 v5 v6 v7 v8 v9 v10 S => KJ L S0 S → P_X11_fitOf_83 (fun r T => Q r T ∧ KJ L S0 T) X16_2 X31_2 X40_2 X63_2 v0 v1 v2 v3 v4 v5 v6 v7 v8 v9 v10 S) (fun v0 v1 v2 v3 v4 v5 v6 v7 v8 v9 v10 S hB K => fd_X11_fitOf_83 (kjB_X11_fitOf_83 hU hL hB K hX16 hX31 hX40 hX63 (fun _ _ _ _ _ _ _ _ _ _ _ _ hx K => hx K))) K
set_option maxRecDepth 20000 in
set_option maxHeartbeats 1000000 in
theorem kjB_X11_fitOf_63 {L : List (Nat × Nat)} (hU : ∀ q ∈ L, q ∈ njT) (hL : ∀ q ∈ kjL_X11_fitOf, q ∈ L) {Q : Int32 → HS → Prop} {X16 X16_2 : Nat → Int32 → Int32 → Int32 → Int32 → Int32 → HS → Prop} {X31 X31_2 : Nat → Int32 → Int32 → Int32 → Int32 → Int32 → Int32 → HS → Prop} {X40 X40_2 : Nat → Int32 → Int32 → Int32 → Int32 → Int32 → Int32 → Int32 → HS → Prop} {X63 X63_2 : Nat → Int32 → Int32 → Int32 → Int32 → Int32 → Int32 → Int32 → Int32 → HS → Prop} {v0 : Nat} {v1 : Int32} {v2 : Int32} {v3 : Int32} {v4 : Int32} {v5 : Int32} {v6 : Int32} {v7 : Int32} {v8 : Int32} {S0 S : HS} (h : B_X11_fitOf_63 Q X16 X31 X40 X63 v0 v1 v2 v3 v4 v5 v6 v7 v8 S) (K : KJ L S0 S) (hX16 : ∀ (u0 : Nat) (u1 : Int32) (u2 : Int32) (u3 : Int32) (u4 : Int32) (u5 : Int32) (u6 : HS), X16 u0 u1 u2 u3 u4 u5 u6 → KJ L S0 u6 → X16_2 u0 u1 u2 u3 u4 u5 u6) (hX31 : ∀ (u0 : Nat) (u1 : Int32) (u2 : Int32) (u3 : Int32) (u4 : Int32) (u5 : Int32) (u6 : Int32) (u7 : HS), X31 u0 u1 u2 u3 u4 u5 u6 u7 → KJ L S0 u7 → X31_2 u0 u1 u2 u3 u4 u5 u6 u7) (hX40 : ∀ (u0 : Nat) (u1 : Int32) (u2 : Int32) (u3 : Int32) (u4 : Int32) (u5 : Int32) (u6 : Int32) (u7 : Int32) (u8 : HS), X40 u0 u1 u2 u3 u4 u5 u6 u7 u8 → KJ L S0 u8 → X40_2 u0 u1 u2 u3 u4 u5 u6 u7 u8) (hX63 : ∀ (u0 : Nat) (u1 : Int32) (u2 : Int32) (u3 : Int32) (u4 : Int32) (u5 : Int32) (u6 : Int32) (u7 : Int32) (u8 : Int32) (u9 : HS), X63 u0 u1 u2 u3 u4 u5 u6 u7 u8 u9 → KJ L S0 u9 → X63_2 u0 u1 u2 u3 u4 u5 u6 u7 u8 u9) : B_X11_fitOf_63 (fun r T => Q r T ∧ KJ L S0 T) X16_2 X31_2 X40_2 X63_2 v0 v1 v2 v3 v4 v5 v6 v7 v8 S := by
  delta B_X11_fitOf_63 at h ⊢
  obtain ⟨c1, h⟩ := h
  refine ⟨c1, ?_⟩
  have o2 := c1
  obtain ⟨b3, e4, h⟩ := h
  refine ⟨b3, e4, ?_⟩
  obtain ⟨c5, h⟩ := h
  refine ⟨c5, ?_⟩
  have o6 := c5
  obtain ⟨b7, e8, h⟩ := h
  refine ⟨b7, e8, ?_⟩
  obtain ⟨c9, h⟩ := h
  refine ⟨c9, ?_⟩
  obtain ⟨c10, h⟩ := h
  refine ⟨c10, ?_⟩
  intro x12 e11
  have h := h x12 e11
  refine ⟨?_, ?_⟩
  · intro c13
    have h := h.1 c13
    intro x15 e14
    have h := h x15 e14
    exact hX40 _ _ _ _ _ _ _ _ _ h K
  · intro c16
    have h := h.2 c16
    exact kj_X11_fitOf_83 hU hL h K hX16 hX31 hX40 hX63
theorem kj_X11_fitOf_63 {L : List (Nat × Nat)} (hU : ∀ q ∈ L, q ∈ njT) (hL : ∀ q ∈ kjL_X11_fitOf, q ∈ L) {Q : Int32 → HS → Prop} {X16 X16_2 : Nat → Int32 → Int32 → Int32 → Int32 → Int32 → HS → Prop} {X31 X31_2 : Nat → Int32 → Int32 → Int32 → Int32 → Int32 → Int32 → HS → Prop} {X40 X40_2 : Nat → Int32 → Int32 → Int32 → Int32 → Int32 → Int32 → Int32 → HS → Prop} {v0 : Nat} {v1 : Int32} {v2 : Int32} {v3 : Int32} {v4 : Int32} {v5 : Int32} {v6 : Int32} {v7 : Int32} {v8 : Int32} {S0 S : HS} (h : P_X11_fitOf_63 Q X16 X31 X40 v0 v1 v2 v3 v4 v5 v6 v7 v8 S) (K : KJ L S0 S) (hX16 : ∀ (u0 : Nat) (u1 : Int32) (u2 : Int32) (u3 : Int32) (u4 : Int32) (u5 : Int32) (u6 : HS), X16 u0 u1 u2 u3 u4 u5 u6 → KJ L S0 u6 → X16_2 u0 u1 u2 u3 u4 u5 u6) (hX31 : ∀ (u0 : Nat) (u1 : Int32) (u2 : Int32) (u3 : Int32) (u4 : Int32) (u5 : Int32) (u6 : Int32) (u7 : HS), X31 u0 u1 u2 u3 u4 u5 u6 u7 → KJ L S0 u7 → X31_2 u0 u1 u2 u3 u4 u5 u6 u7) (hX40 : ∀ (u0 : Nat) (u1 : Int32) (u2 : Int32) (u3 : Int32) (u4 : Int32) (u5 : Int32) (u6 : Int32) (u7 : Int32) (u8 : HS), X40 u0 u1 u2 u3 u4 u5 u6 u7 u8 → KJ L S0 u8 → X40_2 u0 u1 u2 u3 u4 u5 u6 u7 u8) : P_X11_fitOf_63 (fun r T => Q r T ∧ KJ L S0 T) X16_2 X31_2 X40_2 v0 v1 v2 v3 v4 v5 v6 v7 v8 S := h (fun v0 v1 v2 v3 v4 v5 v6 v7 v8 S => KJ L S0 S → P_X11_fitOf_63 (fun r T => Q r T ∧ KJ L S0 T) X16_2 X31_2 X40_2 v0 v1 v2 v3 v4 v5 v6 v7 v8 S) (fun v0 v1 v2 v3 v4 v5 v6 v7 v8 S hB K => fd_X11_fitOf_63 (kjB_X11_fitOf_63 hU hL hB K hX16 hX31 hX40 (fun _ _ _ _ _ _ _ _ _ _ hx K => hx K))) K
set_option maxRecDepth 20000 in
set_option maxHeartbeats 1000000 in
theorem kjB_X11_fitOf_40 {L : List (Nat × Nat)} (hU : ∀ q ∈ L, q ∈ njT) (hL : ∀ q ∈ kjL_X11_fitOf, q ∈ L) {Q : Int32 → HS → Prop} {X16 X16_2 : Nat → Int32 → Int32 → Int32 → Int32 → Int32 → HS → Prop} {X31 X31_2 : Nat → Int32 → Int32 → Int32 → Int32 → Int32 → Int32 → HS → Prop} {X40 X40_2 : Nat → Int32 → Int32 → Int32 → Int32 → Int32 → Int32 → Int32 → HS → Prop} {v0 : Nat} {v1 : Int32} {v2 : Int32} {v3 : Int32} {v4 : Int32} {v5 : Int32} {v6 : Int32} {v7 : Int32} {S0 S : HS} (h : B_X11_fitOf_40 Q X16 X31 X40 v0 v1 v2 v3 v4 v5 v6 v7 S) (K : KJ L S0 S) (hX16 : ∀ (u0 : Nat) (u1 : Int32) (u2 : Int32) (u3 : Int32) (u4 : Int32) (u5 : Int32) (u6 : HS), X16 u0 u1 u2 u3 u4 u5 u6 → KJ L S0 u6 → X16_2 u0 u1 u2 u3 u4 u5 u6) (hX31 : ∀ (u0 : Nat) (u1 : Int32) (u2 : Int32) (u3 : Int32) (u4 : Int32) (u5 : Int32) (u6 : Int32) (u7 : HS), X31 u0 u1 u2 u3 u4 u5 u6 u7 → KJ L S0 u7 → X31_2 u0 u1 u2 u3 u4 u5 u6 u7) (hX40 : ∀ (u0 : Nat) (u1 : Int32) (u2 : Int32) (u3 : Int32) (u4 : Int32) (u5 : Int32) (u6 : Int32) (u7 : Int32) (u8 : HS), X40 u0 u1 u2 u3 u4 u5 u6 u7 u8 → KJ L S0 u8 → X40_2 u0 u1 u2 u3 u4 u5 u6 u7 u8) : B_X11_fitOf_40 (fun r T => Q r T ∧ KJ L S0 T) X16_2 X31_2 X40_2 v0 v1 v2 v3 v4 v5 v6 v7 S := by
  delta B_X11_fitOf_40 at h ⊢
  obtain ⟨c1, h⟩ := h
  refine ⟨c1, ?_⟩
  have o2 := c1
  obtain ⟨b3, e4, h⟩ := h
  refine ⟨b3, e4, ?_⟩
  obtain ⟨c5, h⟩ := h
  refine ⟨c5, ?_⟩
  intro x7 e6
  have h := h x7 e6
  refine ⟨?_, ?_⟩
  · intro c8
    have h := h.1 c8
    intro x10 e9
    have h := h x10 e9
    exact hX31 _ _ _ _ _ _ _ _ h K
  · intro c11
    have h := h.2 c11
    obtain ⟨b12, e13, h⟩ := h
    refine ⟨b12, e13, ?_⟩
    obtain ⟨c14, h⟩ := h
    refine ⟨c14, ?_⟩
    have o15 := c14
    obtain ⟨b16, e17, h⟩ := h
    refine ⟨b16, e17, ?_⟩
    obtain ⟨c18, h⟩ := h
    refine ⟨c18, ?_⟩
    obtain ⟨c19, h⟩ := h
    refine ⟨c19, ?_⟩
    intro x21 e20
    have h := h x21 e20
    exact kj_X11_fitOf_63 hU hL h K hX16 hX31 hX40
theorem kj_X11_fitOf_40 {L : List (Nat × Nat)} (hU : ∀ q ∈ L, q ∈ njT) (hL : ∀ q ∈ kjL_X11_fitOf, q ∈ L) {Q : Int32 → HS → Prop} {X16 X16_2 : Nat → Int32 → Int32 → Int32 → Int32 → Int32 → HS → Prop} {X31 X31_2 : Nat → Int32 → Int32 → Int32 → Int32 → Int32 → Int32 → HS → Prop} {v0 : Nat} {v1 : Int32} {v2 : Int32} {v3 : Int32} {v4 : Int32} {v5 : Int32} {v6 : Int32} {v7 : Int32} {S0 S : HS} (h : P_X11_fitOf_40 Q X16 X31 v0 v1 v2 v3 v4 v5 v6 v7 S) (K : KJ L S0 S) (hX16 : ∀ (u0 : Nat) (u1 : Int32) (u2 : Int32) (u3 : Int32) (u4 : Int32) (u5 : Int32) (u6 : HS), X16 u0 u1 u2 u3 u4 u5 u6 → KJ L S0 u6 → X16_2 u0 u1 u2 u3 u4 u5 u6) (hX31 : ∀ (u0 : Nat) (u1 : Int32) (u2 : Int32) (u3 : Int32) (u4 : Int32) (u5 : Int32) (u6 : Int32) (u7 : HS), X31 u0 u1 u2 u3 u4 u5 u6 u7 → KJ L S0 u7 → X31_2 u0 u1 u2 u3 u4 u5 u6 u7) : P_X11_fitOf_40 (fun r T => Q r T ∧ KJ L S0 T) X16_2 X31_2 v0 v1 v2 v3 v4 v5 v6 v7 S := h (fun v0 v1 v2 v3 v4 v5 v6 v7 S => KJ L S0 S → P_X11_fitOf_40 (fun r T => Q r T ∧ KJ L S0 T) X16_2 X31_2 v0 v1 v2 v3 v4 v5 v6 v7 S) (fun v0 v1 v2 v3 v4 v5 v6 v7 S hB K => fd_X11_fitOf_40 (kjB_X11_fitOf_40 hU hL hB K hX16 hX31 (fun _ _ _ _ _ _ _ _ _ hx K => hx K))) K
set_option maxRecDepth 20000 in
set_option maxHeartbeats 1000000 in
theorem kjB_X11_fitOf_31 {L : List (Nat × Nat)} (hU : ∀ q ∈ L, q ∈ njT) (hL : ∀ q ∈ kjL_X11_fitOf, q ∈ L) {Q : Int32 → HS → Prop} {X16 X16_2 : Nat → Int32 → Int32 → Int32 → Int32 → Int32 → HS → Prop} {X31 X31_2 : Nat → Int32 → Int32 → Int32 → Int32 → Int32 → Int32 → HS → Prop} {v0 : Nat} {v1 : Int32} {v2 : Int32} {v3 : Int32} {v4 : Int32} {v5 : Int32} {v6 : Int32} {S0 S : HS} (h : B_X11_fitOf_31 Q X16 X31 v0 v1 v2 v3 v4 v5 v6 S) (K : KJ L S0 S) (hX16 : ∀ (u0 : Nat) (u1 : Int32) (u2 : Int32) (u3 : Int32) (u4 : Int32) (u5 : Int32) (u6 : HS), X16 u0 u1 u2 u3 u4 u5 u6 → KJ L S0 u6 → X16_2 u0 u1 u2 u3 u4 u5 u6) (hX31 : ∀ (u0 : Nat) (u1 : Int32) (u2 : Int32) (u3 : Int32) (u4 : Int32) (u5 : Int32) (u6 : Int32) (u7 : HS), X31 u0 u1 u2 u3 u4 u5 u6 u7 → KJ L S0 u7 → X31_2 u0 u1 u2 u3 u4 u5 u6 u7) : B_X11_fitOf_31 (fun r T => Q r T ∧ KJ L S0 T) X16_2 X31_2 v0 v1 v2 v3 v4 v5 v6 S := by
  delta B_X11_fitOf_31 at h ⊢
  refine ⟨?_, ?_⟩
  · intro c1
    have h := h.1 c1
    intro x3 e2
    have h := h x3 e2
    exact hX16 _ _ _ _ _ _ _ h K
  · intro c4
    have h := h.2 c4
    exact kj_X11_fitOf_40 hU hL h K hX16 hX31
theorem kj_X11_fitOf_31 {L : List (Nat × Nat)} (hU : ∀ q ∈ L, q ∈ njT) (hL : ∀ q ∈ kjL_X11_fitOf, q ∈ L) {Q : Int32 → HS → Prop} {X16 X16_2 : Nat → Int32 → Int32 → Int32 → Int32 → Int32 → HS → Prop} {v0 : Nat} {v1 : Int32} {v2 : Int32} {v3 : Int32} {v4 : Int32} {v5 : Int32} {v6 : Int32} {S0 S : HS} (h : P_X11_fitOf_31 Q X16 v0 v1 v2 v3 v4 v5 v6 S) (K : KJ L S0 S) (hX16 : ∀ (u0 : Nat) (u1 : Int32) (u2 : Int32) (u3 : Int32) (u4 : Int32) (u5 : Int32) (u6 : HS), X16 u0 u1 u2 u3 u4 u5 u6 → KJ L S0 u6 → X16_2 u0 u1 u2 u3 u4 u5 u6) : P_X11_fitOf_31 (fun r T => Q r T ∧ KJ L S0 T) X16_2 v0 v1 v2 v3 v4 v5 v6 S := h (fun v0 v1 v2 v3 v4 v5 v6 S => KJ L S0 S → P_X11_fitOf_31 (fun r T => Q r T ∧ KJ L S0 T) X16_2 v0 v1 v2 v3 v4 v5 v6 S) (fun v0 v1 v2 v3 v4 v5 v6 S hB K => fd_X11_fitOf_31 (kjB_X11_fitOf_31 hU hL hB K hX16 (fun _ _ _ _ _ _ _ _ hx K => hx K))) K
set_option maxRecDepth 20000 in
set_option maxHeartbeats 1000000 in
theorem kjB_X11_fitOf_16 {L : List (Nat × Nat)} (hU : ∀ q ∈ L, q ∈ njT) (hL : ∀ q ∈ kjL_X11_fitOf, q ∈ L) {Q : Int32 → HS → Prop} {X16 X16_2 : Nat → Int32 → Int32 → Int32 → Int32 → Int32 → HS → Prop} {v0 : Nat} {v1 : Int32} {v2 : Int32} {v3 : Int32} {v4 : Int32} {v5 : Int32} {S0 S : HS} (h : B_X11_fitOf_16 Q X16 v0 v1 v2 v3 v4 v5 S) (K : KJ L S0 S) (hX16 : ∀ (u0 : Nat) (u1 : Int32) (u2 : Int32) (u3 : Int32) (u4 : Int32) (u5 : Int32) (u6 : HS), X16 u0 u1 u2 u3 u4 u5 u6 → KJ L S0 u6 → X16_2 u0 u1 u2 u3 u4 u5 u6) : B_X11_fitOf_16 (fun r T => Q r T ∧ KJ L S0 T) X16_2 v0 v1 v2 v3 v4 v5 S := by
  delta B_X11_fitOf_16 at h ⊢
  obtain ⟨c1, h⟩ := h
  refine ⟨c1, ?_⟩
  have o2 := c1
  obtain ⟨b3, e4, h⟩ := h
  refine ⟨b3, e4, ?_⟩
  obtain ⟨c5, h⟩ := h
  refine ⟨c5, ?_⟩
  intro x7 e6
  have h := h x7 e6
  refine ⟨?_, ?_⟩
  · intro c8
    have h := h.1 c8
    refine ⟨?_, ?_⟩
    · intro c9
      have h := h.1 c9
      exact ⟨h, K⟩
    · intro c10
      have h := h.2 c10
      exact ⟨h, K⟩
  · intro c11
    have h := h.2 c11
    exact kj_X11_fitOf_31 hU hL h K hX16
theorem kj_X11_fitOf_16 {L : List (Nat × Nat)} (hU : ∀ q ∈ L, q ∈ njT) (hL : ∀ q ∈ kjL_X11_fitOf, q ∈ L) {Q : Int32 → HS → Prop} {v0 : Nat} {v1 : Int32} {v2 : Int32} {v3 : Int32} {v4 : Int32} {v5 : Int32} {S0 S : HS} (h : P_X11_fitOf_16 Q v0 v1 v2 v3 v4 v5 S) (K : KJ L S0 S) : P_X11_fitOf_16 (fun r T => Q r T ∧ KJ L S0 T) v0 v1 v2 v3 v4 v5 S := h (fun v0 v1 v2 v3 v4 v5 S => KJ L S0 S → P_X11_fitOf_16 (fun r T => Q r T ∧ KJ L S0 T) v0 v1 v2 v3 v4 v5 S) (fun v0 v1 v2 v3 v4 v5 S hB K => fd_X11_fitOf_16 (kjB_X11_fitOf_16 hU hL hB K (fun _ _ _ _ _ _ _ hx K => hx K))) K
set_option maxRecDepth 20000 in
set_option maxHeartbeats 1000000 in
theorem kj_X11_fitOf_0 {L : List (Nat × Nat)} (hU : ∀ q ∈ L, q ∈ njT) (hL : ∀ q ∈ kjL_X11_fitOf, q ∈ L) {Q : Int32 → HS → Prop} {v0 : Nat} {v1 : Int32} {v2 : Int32} {S0 S : HS} (h : P_X11_fitOf_0 Q v0 v1 v2 S) (K : KJ L S0 S) : P_X11_fitOf_0 (fun r T => Q r T ∧ KJ L S0 T) v0 v1 v2 S := by
  delta P_X11_fitOf_0 at h ⊢
  obtain ⟨c1, h⟩ := h
  refine ⟨c1, ?_⟩
  have o2 := c1
  obtain ⟨b3, e4, h⟩ := h
  refine ⟨b3, e4, ?_⟩
  obtain ⟨c5, h⟩ := h
  refine ⟨c5, ?_⟩
  have o6 := c5
  obtain ⟨b7, e8, h⟩ := h
  refine ⟨b7, e8, ?_⟩
  obtain ⟨c9, h⟩ := h
  refine ⟨c9, ?_⟩
  obtain ⟨c10, h⟩ := h
  refine ⟨c10, ?_⟩
  intro x12 e11
  have h := h x12 e11
  exact kj_X11_fitOf_16 hU hL h K
theorem kj_X11_fitOf {L : List (Nat × Nat)} (hU : ∀ q ∈ L, q ∈ njT) (hL : ∀ q ∈ kjL_X11_fitOf, q ∈ L) {Q : Int32 → HS → Prop} {v0 : Nat} {v1 : Int32} {v2 : Int32} {S : HS} (h : P_X11_fitOf v0 v1 v2 Q S) : P_X11_fitOf v0 v1 v2 (fun r T => Q r T ∧ KJ L S T) S := kj_X11_fitOf_0 hU hL h (kj9_rf L S)
abbrev kjL_X11_isSeen : List (Nat × Nat) := []
set_option maxRecDepth 20000 in
set_option maxHeartbeats 1000000 in
theorem kj_X11_isSeen_0 {L : List (Nat × Nat)} (hU : ∀ q ∈ L, q ∈ njT) (hL : ∀ q ∈ kjL_X11_isSeen, q ∈ L) {Q : Int32 → HS → Prop} {v0 : Nat} {v1 : Int32} {S0 S : HS} (h : P_X11_isSeen_0 Q v0 v1 S) (K : KJ L S0 S) : P_X11_isSeen_0 (fun r T => Q r T ∧ KJ L S0 T) v0 v1 S := by
  delta P_X11_isSeen_0 at h ⊢
  obtain ⟨c1, h⟩ := h
  refine ⟨c1, ?_⟩
  have o2 := c1
  refine ⟨?_, ?_⟩
  · intro c3
    have h := h.1 c3
    exact ⟨h, K⟩
  · intro x4 c5
    have h := h.2 x4 c5
    refine ⟨?_, ?_⟩
    · intro c6
      have h := h.1 c6
      exact ⟨h, K⟩
    · intro c7
      have h := h.2 c7
      obtain ⟨b8, e9, h⟩ := h
      refine ⟨b8, e9, ?_⟩
      obtain ⟨c10, h⟩ := h
      refine ⟨c10, ?_⟩
      intro x12 e11
      have h := h x12 e11
      refine ⟨?_, ?_⟩
      · intro c13
        have h := h.1 c13
        exact ⟨h, K⟩
      · intro c14
        have h := h.2 c14
        exact ⟨h, K⟩
theorem kj_X11_isSeen {L : List (Nat × Nat)} (hU : ∀ q ∈ L, q ∈ njT) (hL : ∀ q ∈ kjL_X11_isSeen, q ∈ L) {Q : Int32 → HS → Prop} {v0 : Nat} {v1 : Int32} {S : HS} (h : P_X11_isSeen v0 v1 Q S) : P_X11_isSeen v0 v1 (fun r T => Q r T ∧ KJ L S T) S := kj_X11_isSeen_0 hU hL h (kj9_rf L S)
abbrev kjL_X11_fit : List (Nat × Nat) := []
set_option maxRecDepth 20000 in
set_option maxHeartbeats 1000000 in
theorem kj_X11_fit_27 {L : List (Nat × Nat)} (hU : ∀ q ∈ L, q ∈ njT) (hL : ∀ q ∈ kjL_X11_fit, q ∈ L) {Q : Int32 → HS → Prop} {v0 : Nat} {s0 : Int32} {S0 S : HS} (h : P_X11_fit_27 Q v0 s0 S) (K : KJ L S0 S) : P_X11_fit_27 (fun r T => Q r T ∧ KJ L S0 T) v0 s0 S := by
  delta P_X11_fit_27 at h ⊢
  refine ⟨?_, ?_⟩
  · intro c1
    have h := h.1 c1
    obtain ⟨c2, h⟩ := h
    refine ⟨c2, ?_⟩
    refine cm_X11_good (kj_X11_good hU (fun q hq => hL q ((by decide : ∀ q ∈ kjL_X11_good, q ∈ kjL_X11_fit) q hq)) h) h (fun x3 x4 p6 h g5 => ?_)
    have h := h g5
    have K := kj9_tr K p6.2
    exact ⟨h, K⟩
  · intro c7
    have h := h.2 c7
    obtain ⟨c8, h⟩ := h
    refine ⟨c8, ?_⟩
    refine cm_X11_refused (kj_X11_refused hU (fun q hq => hL q ((by decide : ∀ q ∈ kjL_X11_refused, q ∈ kjL_X11_fit) q hq)) h) h (fun x9 x10 p12 h g11 => ?_)
    have h := h g11
    have K := kj9_tr K p12.2
    exact ⟨h, K⟩
set_option maxRecDepth 20000 in
set_option maxHeartbeats 1000000 in
theorem kj_X11_fit_26 {L : List (Nat × Nat)} (hU : ∀ q ∈ L, q ∈ njT) (hL : ∀ q ∈ kjL_X11_fit, q ∈ L) {Q : Int32 → HS → Prop} {v0 : Nat} {S0 S : HS} (h : P_X11_fit_26 Q v0 S) (K : KJ L S0 S) : P_X11_fit_26 (fun r T => Q r T ∧ KJ L S0 T) v0 S := by
  delta P_X11_fit_26 at h ⊢
  exact kj_X11_fit_27 hU hL h K
set_option maxRecDepth 20000 in
set_option maxHeartbeats 1000000 in
theorem kj_X11_fit_0 {L : List (Nat × Nat)} (hU : ∀ q ∈ L, q ∈ njT) (hL : ∀ q ∈ kjL_X11_fit, q ∈ L) {Q : Int32 → HS → Prop} {v0 : Nat} {v1 : Int32} {v2 : Int32} {S0 S : HS} (h : P_X11_fit_0 Q v0 v1 v2 S) (K : KJ L S0 S) : P_X11_fit_0 (fun r T => Q r T ∧ KJ L S0 T) v0 v1 v2 S := by
  delta P_X11_fit_0 at h ⊢
  obtain ⟨c1, h⟩ := h
  refine ⟨c1, ?_⟩
  have n2 := kj9_nk K c1 (by decide)
  intro x4 e3
  have h := h x4 e3
  have K := kj9_I K e3 n2
  refine cm_X11_isSeen (kj_X11_isSeen hU (fun q hq => hL q ((by decide : ∀ q ∈ kjL_X11_isSeen, q ∈ kjL_X11_fit) q hq)) h) h (fun x5 x6 p9 h g7 g8 => ?_)
  have h := h g7 g8
  have K := kj9_tr K p9.2
  refine ⟨?_, ?_⟩
  · intro c10
    have h := h.1 c10
    exact kj_X11_fit_26 hU hL h K
  · intro c11
    have h := h.2 c11
    refine ⟨?_, ?_⟩
    · intro c12
      have h := h.1 c12
      exact kj_X11_fit_26 hU hL h K
    · intro c13
      have h := h.2 c13
      refine cm_X11_fitOf (kj_X11_fitOf hU (fun q hq => hL q ((by decide : ∀ q ∈ kjL_X11_fitOf, q ∈ kjL_X11_fit) q hq)) h) h (fun x14 x15 p17 h g16 => ?_)
      have h := h g16
      have K := kj9_tr K p17.2
      exact kj_X11_fit_27 hU hL h K
theorem kj_X11_fit {L : List (Nat × Nat)} (hU : ∀ q ∈ L, q ∈ njT) (hL : ∀ q ∈ kjL_X11_fit, q ∈ L) {Q : Int32 → HS → Prop} {v0 : Nat} {v1 : Int32} {v2 : Int32} {S : HS} (h : P_X11_fit v0 v1 v2 Q S) : P_X11_fit v0 v1 v2 (fun r T => Q r T ∧ KJ L S T) S := kj_X11_fit_0 hU hL h (kj9_rf L S)
abbrev kjL_X11_fits : List (Nat × Nat) := []
set_option maxRecDepth 20000 in
set_option maxHeartbeats 1000000 in
theorem kj_X11_fits_0 {L : List (Nat × Nat)} (hU : ∀ q ∈ L, q ∈ njT) (hL : ∀ q ∈ kjL_X11_fits, q ∈ L) {Q : Int32 → HS → Prop} {v0 : Nat} {v1 : Int32} {S0 S : HS} (h : P_X11_fits_0 Q v0 v1 S) (K : KJ L S0 S) : P_X11_fits_0 (fun r T => Q r T ∧ KJ L S0 T) v0 v1 S := by
  delta P_X11_fits_0 at h ⊢
  obtain ⟨c1, h⟩ := h
  refine ⟨c1, ?_⟩
  have n2 := kj9_nk K c1 (by decide)
  intro x4 e3
  have h := h x4 e3
  have K := kj9_I K e3 n2
  refine cm_X11_isSeen (kj_X11_isSeen hU (fun q hq => hL q ((by decide : ∀ q ∈ kjL_X11_isSeen, q ∈ kjL_X11_fits) q hq)) h) h (fun x5 x6 p9 h g7 g8 => ?_)
  have h := h g7 g8
  have K := kj9_tr K p9.2
  refine ⟨?_, ?_⟩
  · intro c10
    have h := h.1 c10
    refine cm_X11_refused (kj_X11_refused hU (fun q hq => hL q ((by decide : ∀ q ∈ kjL_X11_refused, q ∈ kjL_X11_fits) q hq)) h) h (fun x11 x12 p14 h g13 => ?_)
    have h := h g13
    have K := kj9_tr K p14.2
    exact ⟨h, K⟩
  · intro c15
    have h := h.2 c15
    refine cm_X11_fitOf (kj_X11_fitOf hU (fun q hq => hL q ((by decide : ∀ q ∈ kjL_X11_fitOf, q ∈ kjL_X11_fits) q hq)) h) h (fun x16 x17 p19 h g18 => ?_)
    have h := h g18
    have K := kj9_tr K p19.2
    refine cm_X11_good (kj_X11_good hU (fun q hq => hL q ((by decide : ∀ q ∈ kjL_X11_good, q ∈ kjL_X11_fits) q hq)) h) h (fun x20 x21 p23 h g22 => ?_)
    have h := h g22
    have K := kj9_tr K p23.2
    exact ⟨h, K⟩
theorem kj_X11_fits {L : List (Nat × Nat)} (hU : ∀ q ∈ L, q ∈ njT) (hL : ∀ q ∈ kjL_X11_fits, q ∈ L) {Q : Int32 → HS → Prop} {v0 : Nat} {v1 : Int32} {S : HS} (h : P_X11_fits v0 v1 Q S) : P_X11_fits v0 v1 (fun r T => Q r T ∧ KJ L S T) S := kj_X11_fits_0 hU hL h (kj9_rf L S)
abbrev kjL_X11_hourOf : List (Nat × Nat) := []
set_option maxRecDepth 20000 in
set_option maxHeartbeats 1000000 in
theorem kj_X11_hourOf_0 {L : List (Nat × Nat)} (hU : ∀ q ∈ L, q ∈ njT) (hL : ∀ q ∈ kjL_X11_hourOf, q ∈ L) {Q : Int32 → HS → Prop} {v0 : Nat} {v1 : Int32} {S0 S : HS} (h : P_X11_hourOf_0 Q v0 v1 S) (K : KJ L S0 S) : P_X11_hourOf_0 (fun r T => Q r T ∧ KJ L S0 T) v0 v1 S := by
  delta P_X11_hourOf_0 at h ⊢
  obtain ⟨c1, h⟩ := h
  refine ⟨c1, ?_⟩
  have o2 := c1
  obtain ⟨b3, e4, h⟩ := h
  refine ⟨b3, e4, ?_⟩
  obtain ⟨c5, h⟩ := h
  refine ⟨c5, ?_⟩
  intro x7 e6
  have h := h x7 e6
  obtain ⟨c8, h⟩ := h
  refine ⟨c8, ?_⟩
  intro x10 e9
  have h := h x10 e9
  exact ⟨h, K⟩
theorem kj_X11_hourOf {L : List (Nat × Nat)} (hU : ∀ q ∈ L, q ∈ njT) (hL : ∀ q ∈ kjL_X11_hourOf, q ∈ L) {Q : Int32 → HS → Prop} {v0 : Nat} {v1 : Int32} {S : HS} (h : P_X11_hourOf v0 v1 Q S) : P_X11_hourOf v0 v1 (fun r T => Q r T ∧ KJ L S T) S := kj_X11_hourOf_0 hU hL h (kj9_rf L S)
abbrev kjL_X11_keeps : List (Nat × Nat) := []
set_option maxRecDepth 20000 in
set_option maxHeartbeats 1000000 in
theorem kjB_X11_keeps_50 {L : List (Nat × Nat)} (hU : ∀ q ∈ L, q ∈ njT) (hL : ∀ q ∈ kjL_X11_keeps, q ∈ L) {Q : HS → Prop} {X50 X50_2 : Nat → Int32 → HS → Prop} {v0 : Nat} {v1 : Int32} {S0 S : HS} (h : B_X11_keeps_50 Q X50 v0 v1 S) (K : KJ L S0 S) (hX50 : ∀ (u0 : Nat) (u1 : Int32) (u2 : HS), X50 u0 u1 u2 → KJ L S0 u2 → X50_2 u0 u1 u2) : B_X11_keeps_50 (fun T => Q T ∧ KJ L S0 T) X50_2 v0 v1 S := by
  delta B_X11_keeps_50 at h ⊢
  refine ⟨?_, ?_⟩
  · intro c1
    have h := h.1 c1
    obtain ⟨c2, h⟩ := h
    refine ⟨c2, ?_⟩
    have n3 := kj9_nk K c2 (by decide)
    have o4 := c2
    intro x6 e5
    have h := h x6 e5
    intro x8 e7
    have h := h x8 e7
    intro x10 e9
    have h := h x10 e9
    have K := kj9_I K e9 n3
    have o4 := ob_wI o4 e9
    exact ⟨h, K⟩
  · intro c11
    have h := h.2 c11
    obtain ⟨c12, h⟩ := h
    refine ⟨c12, ?_⟩
    have n13 := kj9_nk K c12 (by decide)
    have o14 := c12
    obtain ⟨b15, e16, h⟩ := h
    refine ⟨b15, e16, ?_⟩
    intro x18 e17
    have h := h x18 e17
    obtain ⟨b19, e20, h⟩ := h
    refine ⟨b19, e20, ?_⟩
    obtain ⟨c21, h⟩ := h
    refine ⟨c21, ?_⟩
    obtain ⟨c22, h⟩ := h
    refine ⟨c22, ?_⟩
    intro x24 e23
    have h := h x24 e23
    obtain ⟨c25, h⟩ := h
    refine ⟨c25, ?_⟩
    obtain ⟨c26, h⟩ := h
    refine ⟨c26, ?_⟩
    intro x28 e27
    have h := h x28 e27
    have K := kj9_J K e27
    have o14 := ob_wJ o14 e27
    intro x30 e29
    have h := h x30 e29
    exact hX50 _ _ _ h K
theorem kj_X11_keeps_50 {L : List (Nat × Nat)} (hU : ∀ q ∈ L, q ∈ njT) (hL : ∀ q ∈ kjL_X11_keeps, q ∈ L) {Q : HS → Prop} {v0 : Nat} {v1 : Int32} {S0 S : HS} (h : P_X11_keeps_50 Q v0 v1 S) (K : KJ L S0 S) : P_X11_keeps_50 (fun T => Q T ∧ KJ L S0 T) v0 v1 S := h (fun v0 v1 S => KJ L S0 S → P_X11_keeps_50 (fun T => Q T ∧ KJ L S0 T) v0 v1 S) (fun v0 v1 S hB K => fd_X11_keeps_50 (kjB_X11_keeps_50 hU hL hB K (fun _ _ _ hx K => hx K))) K
set_option maxRecDepth 20000 in
set_option maxHeartbeats 1000000 in
theorem kj_X11_keeps_48 {L : List (Nat × Nat)} (hU : ∀ q ∈ L, q ∈ njT) (hL : ∀ q ∈ kjL_X11_keeps, q ∈ L) {Q : HS → Prop} {v0 : Nat} {S0 S : HS} (h : P_X11_keeps_48 Q v0 S) (K : KJ L S0 S) : P_X11_keeps_48 (fun T => Q T ∧ KJ L S0 T) v0 S := by
  delta P_X11_keeps_48 at h ⊢
  exact kj_X11_keeps_50 hU hL h K
set_option maxRecDepth 20000 in
set_option maxHeartbeats 1000000 in
theorem kjB_X11_keeps_11 {L : List (Nat × Nat)} (hU : ∀ q ∈ L, q ∈ njT) (hL : ∀ q ∈ kjL_X11_keeps, q ∈ L) {Q : HS → Prop} {X11 X11_2 : Nat → Int32 → HS → Prop} {v0 : Nat} {v1 : Int32} {S0 S : HS} (h : B_X11_keeps_11 Q X11 v0 v1 S) (K : KJ L S0 S) (hX11 : ∀ (u0 : Nat) (u1 : Int32) (u2 : HS), X11 u0 u1 u2 → KJ L S0 u2 → X11_2 u0 u1 u2) : B_X11_keeps_11 (fun T => Q T ∧ KJ L S0 T) X11_2 v0 v1 S := by
  delta B_X11_keeps_11 at h ⊢
  refine ⟨?_, ?_⟩
  · intro c1
    have h := h.1 c1
    obtain ⟨c2, h⟩ := h
    refine ⟨c2, ?_⟩
    have n3 := kj9_nk K c2 (by decide)
    have o4 := c2
    intro x6 e5
    have h := h x6 e5
    intro x8 e7
    have h := h x8 e7
    intro x10 e9
    have h := h x10 e9
    have K := kj9_I K e9 n3
    have o4 := ob_wI o4 e9
    exact kj_X11_keeps_48 hU hL h K
  · intro c11
    have h := h.2 c11
    obtain ⟨c12, h⟩ := h
    refine ⟨c12, ?_⟩
    have n13 := kj9_nk K c12 (by decide)
    have o14 := c12
    obtain ⟨b15, e16, h⟩ := h
    refine ⟨b15, e16, ?_⟩
    obtain ⟨b17, e18, h⟩ := h
    refine ⟨b17, e18, ?_⟩
    obtain ⟨c19, h⟩ := h
    refine ⟨c19, ?_⟩
    intro x21 e20
    have h := h x21 e20
    obtain ⟨c22, h⟩ := h
    refine ⟨c22, ?_⟩
    intro x24 e23
    have h := h x24 e23
    obtain ⟨c25, h⟩ := h
    refine ⟨c25, ?_⟩
    obtain ⟨c26, h⟩ := h
    refine ⟨c26, ?_⟩
    intro x28 e27
    have h := h x28 e27
    have K := kj9_J K e27
    have o14 := ob_wJ o14 e27
    intro x30 e29
    have h := h x30 e29
    exact hX11 _ _ _ h K
theorem kj_X11_keeps_11 {L : List (Nat × Nat)} (hU : ∀ q ∈ L, q ∈ njT) (hL : ∀ q ∈ kjL_X11_keeps, q ∈ L) {Q : HS → Prop} {v0 : Nat} {v1 : Int32} {S0 S : HS} (h : P_X11_keeps_11 Q v0 v1 S) (K : KJ L S0 S) : P_X11_keeps_11 (fun T => Q T ∧ KJ L S0 T) v0 v1 S := h (fun v0 v1 S => KJ L S0 S → P_X11_keeps_11 (fun T => Q T ∧ KJ L S0 T) v0 v1 S) (fun v0 v1 S hB K => fd_X11_keeps_11 (kjB_X11_keeps_11 hU hL hB K (fun _ _ _ hx K => hx K))) K
set_option maxRecDepth 20000 in
set_option maxHeartbeats 1000000 in
theorem kj_X11_keeps_0 {L : List (Nat × Nat)} (hU : ∀ q ∈ L, q ∈ njT) (hL : ∀ q ∈ kjL_X11_keeps, q ∈ L) {Q : HS → Prop} {v0 : Nat} {S0 S : HS} (h : P_X11_keeps_0 Q v0 S) (K : KJ L S0 S) : P_X11_keeps_0 (fun T => Q T ∧ KJ L S0 T) v0 S := by
  delta P_X11_keeps_0 at h ⊢
  obtain ⟨c1, h⟩ := h
  refine ⟨c1, ?_⟩
  intro x3 e2
  have h := h x3 e2
  refine ⟨?_, ?_⟩
  · intro c4
    have h := h.1 c4
    exact kj_X11_keeps_48 hU hL h K
  · intro c5
    have h := h.2 c5
    exact kj_X11_keeps_11 hU hL h K
theorem kj_X11_keeps {L : List (Nat × Nat)} (hU : ∀ q ∈ L, q ∈ njT) (hL : ∀ q ∈ kjL_X11_keeps, q ∈ L) {Q : HS → Prop} {v0 : Nat} {S : HS} (h : P_X11_keeps v0 Q S) : P_X11_keeps v0 (fun T => Q T ∧ KJ L S T) S := kj_X11_keeps_0 hU hL h (kj9_rf L S)
abbrev kjL_X11_rainsIn : List (Nat × Nat) := []
set_option maxRecDepth 20000 in
set_option maxHeartbeats 1000000 in
theorem kj_X11_rainsIn_0 {L : List (Nat × Nat)} (hU : ∀ q ∈ L, q ∈ njT) (hL : ∀ q ∈ kjL_X11_rainsIn, q ∈ L) {Q : Int32 → HS → Prop} {v0 : Nat} {v1 : Int32} {S0 S : HS} (h : P_X11_rainsIn_0 Q v0 v1 S) (K : KJ L S0 S) : P_X11_rainsIn_0 (fun r T => Q r T ∧ KJ L S0 T) v0 v1 S := by
  delta P_X11_rainsIn_0 at h ⊢
  obtain ⟨c1, h⟩ := h
  refine ⟨c1, ?_⟩
  have o2 := c1
  refine cm_X11_hourOf (kj_X11_hourOf hU (fun q hq => hL q ((by decide : ∀ q ∈ kjL_X11_hourOf, q ∈ kjL_X11_rainsIn) q hq)) h) h (fun x3 x4 p6 h g5 => ?_)
  have h := h g5
  have K := kj9_tr K p6.2
  have o2 := gr_ob p6.2.1 o2
  obtain ⟨b7, e8, h⟩ := h
  refine ⟨b7, e8, ?_⟩
  obtain ⟨c9, h⟩ := h
  refine ⟨c9, ?_⟩
  intro x11 e10
  have h := h x11 e10
  refine ⟨?_, ?_⟩
  · intro c12
    have h := h.1 c12
    exact ⟨h, K⟩
  · intro c13
    have h := h.2 c13
    intro x15 e14
    have h := h x15 e14
    refine ⟨?_, ?_⟩
    · intro c16
      have h := h.1 c16
      exact ⟨h, K⟩
    · intro c17
      have h := h.2 c17
      exact ⟨h, K⟩
theorem kj_X11_rainsIn {L : List (Nat × Nat)} (hU : ∀ q ∈ L, q ∈ njT) (hL : ∀ q ∈ kjL_X11_rainsIn, q ∈ L) {Q : Int32 → HS → Prop} {v0 : Nat} {v1 : Int32} {S : HS} (h : P_X11_rainsIn v0 v1 Q S) : P_X11_rainsIn v0 v1 (fun r T => Q r T ∧ KJ L S T) S := kj_X11_rainsIn_0 hU hL h (kj9_rf L S)
abbrev kjL_X11_go : List (Nat × Nat) := []
set_option maxRecDepth 20000 in
set_option maxHeartbeats 1000000 in
theorem kj_X11_go_29 {L : List (Nat × Nat)} (hU : ∀ q ∈ L, q ∈ njT) (hL : ∀ q ∈ kjL_X11_go, q ∈ L) {Q : Int32 → HS → Prop} {v0 : Nat} {S0 S : HS} (h : P_X11_go_29 Q v0 S) (K : KJ L S0 S) : P_X11_go_29 (fun r T => Q r T ∧ KJ L S0 T) v0 S := by
  delta P_X11_go_29 at h ⊢
  obtain ⟨c1, h⟩ := h
  refine ⟨c1, ?_⟩
  refine cm_X11_refused (kj_X11_refused hU (fun q hq => hL q ((by decide : ∀ q ∈ kjL_X11_refused, q ∈ kjL_X11_go) q hq)) h) h (fun x2 x3 p5 h g4 => ?_)
  have h := h g4
  have K := kj9_tr K p5.2
  exact ⟨h, K⟩
set_option maxRecDepth 20000 in
set_option maxHeartbeats 1000000 in
theorem kj_X11_go_171 {L : List (Nat × Nat)} (hU : ∀ q ∈ L, q ∈ njT) (hL : ∀ q ∈ kjL_X11_go, q ∈ L) {Q : Int32 → HS → Prop} {v0 : Nat} {v1 : Int32} {v2 : Int32} {v3 : Int32} {v4 : Int32} {S0 S : HS} (h : P_X11_go_171 Q v0 v1 v2 v3 v4 S) (K : KJ L S0 S) : P_X11_go_171 (fun r T => Q r T ∧ KJ L S0 T) v0 v1 v2 v3 v4 S := by
  delta P_X11_go_171 at h ⊢
  obtain ⟨c1, h⟩ := h
  refine ⟨c1, ?_⟩
  have o2 := c1
  obtain ⟨b3, e4, h⟩ := h
  refine ⟨b3, e4, ?_⟩
  obtain ⟨b5, e6, h⟩ := h
  refine ⟨b5, e6, ?_⟩
  obtain ⟨c7, h⟩ := h
  refine ⟨c7, ?_⟩
  refine cm_X10_ends (kj_X10_ends hU (fun q hq => hL q ((by decide : ∀ q ∈ kjL_X10_ends, q ∈ kjL_X11_go) q hq)) h) h (fun x8 x9 p11 h g10 => ?_)
  have h := h g10
  have K := kj9_tr K p11.2
  have o2 := gr_ob p11.2.1 o2
  obtain ⟨c12, h⟩ := h
  refine ⟨c12, ?_⟩
  intro x14 e13
  have h := h x14 e13
  obtain ⟨c15, h⟩ := h
  refine ⟨c15, ?_⟩
  intro x17 e16
  have h := h x17 e16
  have K := kj9_J K e16
  have o2 := ob_wJ o2 e16
  obtain ⟨b18, e19, h⟩ := h
  refine ⟨b18, e19, ?_⟩
  obtain ⟨b20, e21, h⟩ := h
  refine ⟨b20, e21, ?_⟩
  obtain ⟨c22, h⟩ := h
  refine ⟨c22, ?_⟩
  refine cm_X10_minutes (kj_X10_minutes hU (fun q hq => hL q ((by decide : ∀ q ∈ kjL_X10_minutes, q ∈ kjL_X11_go) q hq)) h) h (fun x23 x24 p26 h g25 => ?_)
  have h := h g25
  have K := kj9_tr K p26.2
  have o2 := gr_ob p26.2.1 o2
  obtain ⟨c27, h⟩ := h
  refine ⟨c27, ?_⟩
  intro x29 e28
  have h := h x29 e28
  obtain ⟨c30, h⟩ := h
  refine ⟨c30, ?_⟩
  intro x32 e31
  have h := h x32 e31
  have K := kj9_J K e31
  have o2 := ob_wJ o2 e31
  obtain ⟨b33, e34, h⟩ := h
  refine ⟨b33, e34, ?_⟩
  obtain ⟨c35, h⟩ := h
  refine ⟨c35, ?_⟩
  obtain ⟨c36, h⟩ := h
  refine ⟨c36, ?_⟩
  intro x38 e37
  have h := h x38 e37
  refine cm_X11_good (kj_X11_good hU (fun q hq => hL q ((by decide : ∀ q ∈ kjL_X11_good, q ∈ kjL_X11_go) q hq)) h) h (fun x39 x40 p42 h g41 => ?_)
  have h := h g41
  have K := kj9_tr K p42.2
  have o2 := gr_ob p42.2.1 o2
  exact ⟨h, K⟩
set_option maxRecDepth 20000 in
set_option maxHeartbeats 1000000 in
theorem kjB_X11_go_119 {L : List (Nat × Nat)} (hU : ∀ q ∈ L, q ∈ njT) (hL : ∀ q ∈ kjL_X11_go, q ∈ L) {Q : Int32 → HS → Prop} {X119 X119_2 : Nat → Int32 → Int32 → Int32 → Int32 → Int32 → HS → Prop} {v0 : Nat} {v1 : Int32} {v2 : Int32} {v3 : Int32} {v4 : Int32} {v5 : Int32} {S0 S : HS} (h : B_X11_go_119 Q X119 v0 v1 v2 v3 v4 v5 S) (K : KJ L S0 S) (hX119 : ∀ (u0 : Nat) (u1 : Int32) (u2 : Int32) (u3 : Int32) (u4 : Int32) (u5 : Int32) (u6 : HS), X119 u0 u1 u2 u3 u4 u5 u6 → KJ L S0 u6 → X119_2 u0 u1 u2 u3 u4 u5 u6) : B_X11_go_119 (fun r T => Q r T ∧ KJ L S0 T) X119_2 v0 v1 v2 v3 v4 v5 S := by
  delta B_X11_go_119 at h ⊢
  refine ⟨?_, ?_⟩
  · intro c1
    have h := h.1 c1
    exact kj_X11_go_171 hU hL h K
  · intro c2
    have h := h.2 c2
    obtain ⟨c3, h⟩ := h
    refine ⟨c3, ?_⟩
    have o4 := c3
    refine cm_X11_rainsIn (kj_X11_rainsIn hU (fun q hq => hL q ((by decide : ∀ q ∈ kjL_X11_rainsIn, q ∈ kjL_X11_go) q hq)) h) h (fun x5 x6 p9 h g7 g8 => ?_)
    have h := h g7 g8
    have K := kj9_tr K p9.2
    have o4 := gr_ob p9.2.1 o4
    refine ⟨?_, ?_⟩
    · intro c10
      have h := h.1 c10
      exact kj_X11_go_171 hU hL h K
    · intro c11
      have h := h.2 c11
      obtain ⟨b12, e13, h⟩ := h
      refine ⟨b12, e13, ?_⟩
      obtain ⟨c14, h⟩ := h
      refine ⟨c14, ?_⟩
      intro x16 e15
      have h := h x16 e15
      obtain ⟨c17, h⟩ := h
      refine ⟨c17, ?_⟩
      intro x19 e18
      have h := h x19 e18
      intro x21 e20
      have h := h x21 e20
      refine cm_X11_hourOf (kj_X11_hourOf hU (fun q hq => hL q ((by decide : ∀ q ∈ kjL_X11_hourOf, q ∈ kjL_X11_go) q hq)) h) h (fun x22 x23 p25 h g24 => ?_)
      have h := h g24
      have K := kj9_tr K p25.2
      have o4 := gr_ob p25.2.1 o4
      refine cm_X11_partsOf (kj_X11_partsOf hU (fun q hq => hL q ((by decide : ∀ q ∈ kjL_X11_partsOf, q ∈ kjL_X11_go) q hq)) h) h (fun x26 x27 p29 h g28 => ?_)
      have h := h g28
      have K := kj9_tr K p29.2
      have o4 := gr_ob p29.2.1 o4
      intro x31 e30
      have h := h x31 e30
      obtain ⟨c32, h⟩ := h
      refine ⟨c32, ?_⟩
      intro x34 e33
      have h := h x34 e33
      have K := kj9_J K e33
      have o4 := ob_wJ o4 e33
      intro x36 e35
      have h := h x36 e35
      exact hX119 _ _ _ _ _ _ _ h K
theorem kj_X11_go_119 {L : List (Nat × Nat)} (hU : ∀ q ∈ L, q ∈ njT) (hL : ∀ q ∈ kjL_X11_go, q ∈ L) {Q : Int32 → HS → Prop} {v0 : Nat} {v1 : Int32} {v2 : Int32} {v3 : Int32} {v4 : Int32} {v5 : Int32} {S0 S : HS} (h : P_X11_go_119 Q v0 v1 v2 v3 v4 v5 S) (K : KJ L S0 S) : P_X11_go_119 (fun r T => Q r T ∧ KJ L S0 T) v0 v1 v2 v3 v4 v5 S := h (fun v0 v1 v2 v3 v4 v5 S => KJ L S0 S → P_X11_go_119 (fun r T => Q r T ∧ KJ L S0 T) v0 v1 v2 v3 v4 v5 S) (fun v0 v1 v2 v3 v4 v5 S hB K => fd_X11_go_119 (kjB_X11_go_119 hU hL hB K (fun _ _ _ _ _ _ _ hx K => hx K))) K
set_option maxRecDepth 20000 in
set_option maxHeartbeats 1000000 in
theorem kj_X11_go_0 {L : List (Nat × Nat)} (hU : ∀ q ∈ L, q ∈ njT) (hL : ∀ q ∈ kjL_X11_go, q ∈ L) {Q : Int32 → HS → Prop} {v0 : Nat} {v1 : Int32} {v2 : Int32} {v3 : Int32} {S0 S : HS} (h : P_X11_go_0 Q v0 v1 v2 v3 S) (K : KJ L S0 S) : P_X11_go_0 (fun r T => Q r T ∧ KJ L S0 T) v0 v1 v2 v3 S := by
  delta P_X11_go_0 at h ⊢
  obtain ⟨c1, h⟩ := h
  refine ⟨c1, ?_⟩
  have n2 := kj9_nk K c1 (by decide)
  have o3 := c1
  intro x5 e4
  have h := h x5 e4
  have K := kj9_I K e4 n2
  have o3 := ob_wI o3 e4
  refine cm_X11_isDay (kj_X11_isDay hU (fun q hq => hL q ((by decide : ∀ q ∈ kjL_X11_isDay, q ∈ kjL_X11_go) q hq)) h) h (fun x6 x7 p10 h g8 g9 => ?_)
  have h := h g8 g9
  have K := kj9_tr K p10.2
  have o3 := gr_ob p10.2.1 o3
  refine ⟨?_, ?_⟩
  · intro c11
    have h := h.1 c11
    exact kj_X11_go_29 hU hL h K
  · intro c12
    have h := h.2 c12
    refine cm_X11_isRoad (kj_X11_isRoad hU (fun q hq => hL q ((by decide : ∀ q ∈ kjL_X11_isRoad, q ∈ kjL_X11_go) q hq)) h) h (fun x13 x14 p17 h g15 g16 => ?_)
    have h := h g15 g16
    have K := kj9_tr K p17.2
    have o3 := gr_ob p17.2.1 o3
    refine ⟨?_, ?_⟩
    · intro c18
      have h := h.1 c18
      exact kj_X11_go_29 hU hL h K
    · intro c19
      have h := h.2 c19
      refine cm_X11_in (kj_X11_in hU (fun q hq => hL q ((by decide : ∀ q ∈ kjL_X11_in, q ∈ kjL_X11_go) q hq)) h) h (fun x20 x21 p24 h g22 g23 => ?_)
      have h := h g22 g23
      have K := kj9_tr K p24.2
      have o3 := gr_ob p24.2.1 o3
      refine ⟨?_, ?_⟩
      · intro c25
        have h := h.1 c25
        intro x27 e26
        have h := h x27 e26
        refine cm_X11_isSpeed (kj_X11_isSpeed hU (fun q hq => hL q ((by decide : ∀ q ∈ kjL_X11_isSpeed, q ∈ kjL_X11_go) q hq)) h) h (fun x28 x29 p32 h g30 g31 => ?_)
        have h := h g30 g31
        have K := kj9_tr K p32.2
        have o3 := gr_ob p32.2.1 o3
        refine ⟨?_, ?_⟩
        · intro c33
          have h := h.1 c33
          obtain ⟨b34, e35, h⟩ := h
          refine ⟨b34, e35, ?_⟩
          obtain ⟨c36, h⟩ := h
          refine ⟨c36, ?_⟩
          refine cm_X10_begins (kj_X10_begins hU (fun q hq => hL q ((by decide : ∀ q ∈ kjL_X10_begins, q ∈ kjL_X11_go) q hq)) h) h (fun x37 x38 p40 h g39 => ?_)
          have h := h g39
          have K := kj9_tr K p40.2
          have o3 := gr_ob p40.2.1 o3
          obtain ⟨b41, e42, h⟩ := h
          refine ⟨b41, e42, ?_⟩
          obtain ⟨c43, h⟩ := h
          refine ⟨c43, ?_⟩
          obtain ⟨c44, h⟩ := h
          refine ⟨c44, ?_⟩
          intro x46 e45
          have h := h x46 e45
          refine ⟨?_, ?_⟩
          · intro c47
            have h := h.1 c47
            obtain ⟨b48, e49, h⟩ := h
            refine ⟨b48, e49, ?_⟩
            obtain ⟨c50, h⟩ := h
            refine ⟨c50, ?_⟩
            obtain ⟨c51, h⟩ := h
            refine ⟨c51, ?_⟩
            intro x53 e52
            have h := h x53 e52
            intro x55 e54
            have h := h x55 e54
            obtain ⟨b56, e57, h⟩ := h
            refine ⟨b56, e57, ?_⟩
            obtain ⟨c58, h⟩ := h
            refine ⟨c58, ?_⟩
            refine cm_X10_minutes (kj_X10_minutes hU (fun q hq => hL q ((by decide : ∀ q ∈ kjL_X10_minutes, q ∈ kjL_X11_go) q hq)) h) h (fun x59 x60 p62 h g61 => ?_)
            have h := h g61
            have K := kj9_tr K p62.2
            have o3 := gr_ob p62.2.1 o3
            refine ⟨?_, ?_⟩
            · intro c63
              have h := h.1 c63
              refine cm_X11_keeps (kj_X11_keeps hU (fun q hq => hL q ((by decide : ∀ q ∈ kjL_X11_keeps, q ∈ kjL_X11_go) q hq)) h) h (fun x64 p66 h g65 => ?_)
              have h := h g65
              have K := kj9_tr K p66.2
              have o3 := gr_ob p66.2.1 o3
              exact kj_X11_go_119 hU hL h K
            · intro c67
              have h := h.2 c67
              refine cm_X11_refused (kj_X11_refused hU (fun q hq => hL q ((by decide : ∀ q ∈ kjL_X11_refused, q ∈ kjL_X11_go) q hq)) h) h (fun x68 x69 p71 h g70 => ?_)
              have h := h g70
              have K := kj9_tr K p71.2
              have o3 := gr_ob p71.2.1 o3
              exact ⟨h, K⟩
          · intro c72
            have h := h.2 c72
            refine cm_X11_refused (kj_X11_refused hU (fun q hq => hL q ((by decide : ∀ q ∈ kjL_X11_refused, q ∈ kjL_X11_go) q hq)) h) h (fun x73 x74 p76 h g75 => ?_)
            have h := h g75
            have K := kj9_tr K p76.2
            have o3 := gr_ob p76.2.1 o3
            exact ⟨h, K⟩
        · intro c77
          have h := h.2 c77
          refine cm_X11_refused (kj_X11_refused hU (fun q hq => hL q ((by decide : ∀ q ∈ kjL_X11_refused, q ∈ kjL_X11_go) q hq)) h) h (fun x78 x79 p81 h g80 => ?_)
          have h := h g80
          have K := kj9_tr K p81.2
          have o3 := gr_ob p81.2.1 o3
          exact ⟨h, K⟩
      · intro c82
        have h := h.2 c82
        exact kj_X11_go_29 hU hL h K
theorem kj_X11_go {L : List (Nat × Nat)} (hU : ∀ q ∈ L, q ∈ njT) (hL : ∀ q ∈ kjL_X11_go, q ∈ L) {Q : Int32 → HS → Prop} {v0 : Nat} {v1 : Int32} {v2 : Int32} {v3 : Int32} {S : HS} (h : P_X11_go v0 v1 v2 v3 Q S) : P_X11_go v0 v1 v2 v3 (fun r T => Q r T ∧ KJ L S T) S := kj_X11_go_0 hU hL h (kj9_rf L S)
abbrev kjL_X11_got : List (Nat × Nat) := []
set_option maxRecDepth 20000 in
set_option maxHeartbeats 1000000 in
theorem kj_X11_got_40 {L : List (Nat × Nat)} (hU : ∀ q ∈ L, q ∈ njT) (hL : ∀ q ∈ kjL_X11_got, q ∈ L) {Q : Int64 → HS → Prop} {v0 : Nat} {S0 S : HS} (h : P_X11_got_40 Q v0 S) (K : KJ L S0 S) : P_X11_got_40 (fun r T => Q r T ∧ KJ L S0 T) v0 S := by
  delta P_X11_got_40 at h ⊢
  obtain ⟨c1, h⟩ := h
  refine ⟨c1, ?_⟩
  refine cm_X11_refused (kj_X11_refused hU (fun q hq => hL q ((by decide : ∀ q ∈ kjL_X11_refused, q ∈ kjL_X11_got) q hq)) h) h (fun x2 x3 p5 h g4 => ?_)
  have h := h g4
  have K := kj9_tr K p5.2
  exact ⟨h, K⟩
set_option maxRecDepth 20000 in
set_option maxHeartbeats 1000000 in
theorem kj_X11_got_0 {L : List (Nat × Nat)} (hU : ∀ q ∈ L, q ∈ njT) (hL : ∀ q ∈ kjL_X11_got, q ∈ L) {Q : Int64 → HS → Prop} {v0 : Nat} {v1 : Int32} {v2 : Int32} {S0 S : HS} (h : P_X11_got_0 Q v0 v1 v2 S) (K : KJ L S0 S) : P_X11_got_0 (fun r T => Q r T ∧ KJ L S0 T) v0 v1 v2 S := by
  delta P_X11_got_0 at h ⊢
  obtain ⟨c1, h⟩ := h
  refine ⟨c1, ?_⟩
  have n2 := kj9_nk K c1 (by decide)
  have o3 := c1
  intro x5 e4
  have h := h x5 e4
  have K := kj9_I K e4 n2
  have o3 := ob_wI o3 e4
  refine cm_X11_isDay (kj_X11_isDay hU (fun q hq => hL q ((by decide : ∀ q ∈ kjL_X11_isDay, q ∈ kjL_X11_got) q hq)) h) h (fun x6 x7 p10 h g8 g9 => ?_)
  have h := h g8 g9
  have K := kj9_tr K p10.2
  have o3 := gr_ob p10.2.1 o3
  refine ⟨?_, ?_⟩
  · intro c11
    have h := h.1 c11
    exact kj_X11_got_40 hU hL h K
  · intro c12
    have h := h.2 c12
    refine cm_X11_in (kj_X11_in hU (fun q hq => hL q ((by decide : ∀ q ∈ kjL_X11_in, q ∈ kjL_X11_got) q hq)) h) h (fun x13 x14 p17 h g15 g16 => ?_)
    have h := h g15 g16
    have K := kj9_tr K p17.2
    have o3 := gr_ob p17.2.1 o3
    refine ⟨?_, ?_⟩
    · intro c18
      have h := h.1 c18
      exact kj_X11_got_40 hU hL h K
    · intro c19
      have h := h.2 c19
      obtain ⟨b20, e21, h⟩ := h
      refine ⟨b20, e21, ?_⟩
      obtain ⟨c22, h⟩ := h
      refine ⟨c22, ?_⟩
      intro x24 e23
      have h := h x24 e23
      obtain ⟨c25, h⟩ := h
      refine ⟨c25, ?_⟩
      intro x27 e26
      have h := h x27 e26
      refine cm_X11_told (kj_X11_told hU (fun q hq => hL q ((by decide : ∀ q ∈ kjL_X11_told, q ∈ kjL_X11_got) q hq)) h) h (fun x28 x29 p31 h g30 => ?_)
      have h := h g30
      have K := kj9_tr K p31.2
      have o3 := gr_ob p31.2.1 o3
      exact ⟨h, K⟩
theorem kj_X11_got {L : List (Nat × Nat)} (hU : ∀ q ∈ L, q ∈ njT) (hL : ∀ q ∈ kjL_X11_got, q ∈ L) {Q : Int64 → HS → Prop} {v0 : Nat} {v1 : Int32} {v2 : Int32} {S : HS} (h : P_X11_got v0 v1 v2 Q S) : P_X11_got v0 v1 v2 (fun r T => Q r T ∧ KJ L S T) S := kj_X11_got_0 hU hL h (kj9_rf L S)
abbrev kjL_X11_gotInAll : List (Nat × Nat) := []
set_option maxRecDepth 20000 in
set_option maxHeartbeats 1000000 in
theorem kjB_X11_gotInAll_4 {L : List (Nat × Nat)} (hU : ∀ q ∈ L, q ∈ njT) (hL : ∀ q ∈ kjL_X11_gotInAll, q ∈ L) {Q : Int64 → HS → Prop} {X4 X4_2 : Nat → Int64 → Int32 → HS → Prop} {v0 : Nat} {v1 : Int64} {v3 : Int32} {S0 S : HS} (h : B_X11_gotInAll_4 Q X4 v0 v1 v3 S) (K : KJ L S0 S) (hX4 : ∀ (u0 : Nat) (u1 : Int64) (u2 : Int32) (u3 : HS), X4 u0 u1 u2 u3 → KJ L S0 u3 → X4_2 u0 u1 u2 u3) : B_X11_gotInAll_4 (fun r T => Q r T ∧ KJ L S0 T) X4_2 v0 v1 v3 S := by
  delta B_X11_gotInAll_4 at h ⊢
  refine ⟨?_, ?_⟩
  · intro c1
    have h := h.1 c1
    exact ⟨h, K⟩
  · intro c2
    have h := h.2 c2
    obtain ⟨c3, h⟩ := h
    refine ⟨c3, ?_⟩
    have o4 := c3
    obtain ⟨b5, e6, h⟩ := h
    refine ⟨b5, e6, ?_⟩
    obtain ⟨c7, h⟩ := h
    refine ⟨c7, ?_⟩
    intro x9 e8
    have h := h x9 e8
    obtain ⟨c10, h⟩ := h
    refine ⟨c10, ?_⟩
    intro x12 e11
    have h := h x12 e11
    intro x14 e13
    have h := h x14 e13
    intro x16 e15
    have h := h x16 e15
    exact hX4 _ _ _ _ h K
theorem kj_X11_gotInAll_4 {L : List (Nat × Nat)} (hU : ∀ q ∈ L, q ∈ njT) (hL : ∀ q ∈ kjL_X11_gotInAll, q ∈ L) {Q : Int64 → HS → Prop} {v0 : Nat} {v1 : Int64} {v3 : Int32} {S0 S : HS} (h : P_X11_gotInAll_4 Q v0 v1 v3 S) (K : KJ L S0 S) : P_X11_gotInAll_4 (fun r T => Q r T ∧ KJ L S0 T) v0 v1 v3 S := h (fun v0 v1 v3 S => KJ L S0 S → P_X11_gotInAll_4 (fun r T => Q r T ∧ KJ L S0 T) v0 v1 v3 S) (fun v0 v1 v3 S hB K => fd_X11_gotInAll_4 (kjB_X11_gotInAll_4 hU hL hB K (fun _ _ _ _ hx K => hx K))) K
set_option maxRecDepth 20000 in
set_option maxHeartbeats 1000000 in
theorem kj_X11_gotInAll_0 {L : List (Nat × Nat)} (hU : ∀ q ∈ L, q ∈ njT) (hL : ∀ q ∈ kjL_X11_gotInAll, q ∈ L) {Q : Int64 → HS → Prop} {v0 : Nat} {S0 S : HS} (h : P_X11_gotInAll_0 Q v0 S) (K : KJ L S0 S) : P_X11_gotInAll_0 (fun r T => Q r T ∧ KJ L S0 T) v0 S := by
  delta P_X11_gotInAll_0 at h ⊢
  exact kj_X11_gotInAll_4 hU hL h K
theorem kj_X11_gotInAll {L : List (Nat × Nat)} (hU : ∀ q ∈ L, q ∈ njT) (hL : ∀ q ∈ kjL_X11_gotInAll, q ∈ L) {Q : Int64 → HS → Prop} {v0 : Nat} {S : HS} (h : P_X11_gotInAll v0 Q S) : P_X11_gotInAll v0 (fun r T => Q r T ∧ KJ L S T) S := kj_X11_gotInAll_0 hU hL h (kj9_rf L S)
abbrev kjL_X11_held : List (Nat × Nat) := []
set_option maxRecDepth 20000 in
set_option maxHeartbeats 1000000 in
theorem kj_X11_held_68 {L : List (Nat × Nat)} (hU : ∀ q ∈ L, q ∈ njT) (hL : ∀ q ∈ kjL_X11_held, q ∈ L) {Q : Int32 → HS → Prop} {s0 : Nat} {s1 : Int32} {S0 S : HS} (h : P_X11_held_68 Q s0 s1 S) (K : KJ L S0 S) : P_X11_held_68 (fun r T => Q r T ∧ KJ L S0 T) s0 s1 S := by
  delta P_X11_held_68 at h ⊢
  obtain ⟨c1, h⟩ := h
  refine ⟨c1, ?_⟩
  refine cm_X11_good (kj_X11_good hU (fun q hq => hL q ((by decide : ∀ q ∈ kjL_X11_good, q ∈ kjL_X11_held) q hq)) h) h (fun x2 x3 p5 h g4 => ?_)
  have h := h g4
  have K := kj9_tr K p5.2
  exact ⟨h, K⟩
set_option maxRecDepth 20000 in
set_option maxHeartbeats 1000000 in
theorem kj_X11_held_0 {L : List (Nat × Nat)} (hU : ∀ q ∈ L, q ∈ njT) (hL : ∀ q ∈ kjL_X11_held, q ∈ L) {Q : Int32 → HS → Prop} {v0 : Nat} {v1 : Int32} {v2 : Int32} {v3 : Int32} {v4 : Int32} {v5 : Int32} {S0 S : HS} (h : P_X11_held_0 Q v0 v1 v2 v3 v4 v5 S) (K : KJ L S0 S) : P_X11_held_0 (fun r T => Q r T ∧ KJ L S0 T) v0 v1 v2 v3 v4 v5 S := by
  delta P_X11_held_0 at h ⊢
  obtain ⟨c1, h⟩ := h
  refine ⟨c1, ?_⟩
  have n2 := kj9_nk K c1 (by decide)
  have o3 := c1
  intro x5 e4
  have h := h x5 e4
  have K := kj9_I K e4 n2
  have o3 := ob_wI o3 e4
  refine cm_X11_refuses (kj_X11_refuses hU (fun q hq => hL q ((by decide : ∀ q ∈ kjL_X11_refuses, q ∈ kjL_X11_held) q hq)) h) h (fun x6 x7 p9 h g8 => ?_)
  have h := h g8
  have K := kj9_tr K p9.2
  have o3 := gr_ob p9.2.1 o3
  refine ⟨?_, ?_⟩
  · intro c10
    have h := h.1 c10
    obtain ⟨b11, e12, h⟩ := h
    refine ⟨b11, e12, ?_⟩
    obtain ⟨c13, h⟩ := h
    refine ⟨c13, ?_⟩
    have o14 := c13
    obtain ⟨b15, e16, h⟩ := h
    refine ⟨b15, e16, ?_⟩
    obtain ⟨c17, h⟩ := h
    refine ⟨c17, ?_⟩
    obtain ⟨c18, h⟩ := h
    refine ⟨c18, ?_⟩
    intro x20 e19
    have h := h x20 e19
    refine ⟨?_, ?_⟩
    · intro c21
      have h := h.1 c21
      refine cm_X11_isForward (kj_X11_isForward hU (fun q hq => hL q ((by decide : ∀ q ∈ kjL_X11_isForward, q ∈ kjL_X11_held) q hq)) h) h (fun x22 x23 p26 h g24 g25 => ?_)
      have h := h g24 g25
      have K := kj9_tr K p26.2
      have o3 := gr_ob p26.2.1 o3
      have o14 := gr_ob p26.2.1 o14
      refine ⟨?_, ?_⟩
      · intro c27
        have h := h.1 c27
        exact kj_X11_held_68 hU hL h K
      · intro c28
        have h := h.2 c28
        exact kj_X11_held_68 hU hL h K
    · intro c29
      have h := h.2 c29
      exact kj_X11_held_68 hU hL h K
  · intro c30
    have h := h.2 c30
    refine cm_X11_refused (kj_X11_refused hU (fun q hq => hL q ((by decide : ∀ q ∈ kjL_X11_refused, q ∈ kjL_X11_held) q hq)) h) h (fun x31 x32 p34 h g33 => ?_)
    have h := h g33
    have K := kj9_tr K p34.2
    have o3 := gr_ob p34.2.1 o3
    exact ⟨h, K⟩
theorem kj_X11_held {L : List (Nat × Nat)} (hU : ∀ q ∈ L, q ∈ njT) (hL : ∀ q ∈ kjL_X11_held, q ∈ L) {Q : Int32 → HS → Prop} {v0 : Nat} {v1 : Int32} {v2 : Int32} {v3 : Int32} {v4 : Int32} {v5 : Int32} {S : HS} (h : P_X11_held v0 v1 v2 v3 v4 v5 Q S) : P_X11_held v0 v1 v2 v3 v4 v5 (fun r T => Q r T ∧ KJ L S T) S := kj_X11_held_0 hU hL h (kj9_rf L S)
abbrev kjL_X11_holds : List (Nat × Nat) := []
set_option maxRecDepth 20000 in
set_option maxHeartbeats 1000000 in
theorem kj_X11_holds_0 {L : List (Nat × Nat)} (hU : ∀ q ∈ L, q ∈ njT) (hL : ∀ q ∈ kjL_X11_holds, q ∈ L) {Q : Int64 → HS → Prop} {v0 : Nat} {S0 S : HS} (h : P_X11_holds_0 Q v0 S) (K : KJ L S0 S) : P_X11_holds_0 (fun r T => Q r T ∧ KJ L S0 T) v0 S := by
  delta P_X11_holds_0 at h ⊢
  obtain ⟨c1, h⟩ := h
  refine ⟨c1, ?_⟩
  have o2 := c1
  obtain ⟨b3, e4, h⟩ := h
  refine ⟨b3, e4, ?_⟩
  obtain ⟨c5, h⟩ := h
  refine ⟨c5, ?_⟩
  have o6 := c5
  obtain ⟨b7, e8, h⟩ := h
  refine ⟨b7, e8, ?_⟩
  intro x10 e9
  have h := h x10 e9
  obtain ⟨c11, h⟩ := h
  refine ⟨c11, ?_⟩
  obtain ⟨c12, h⟩ := h
  refine ⟨c12, ?_⟩
  intro x14 e13
  have h := h x14 e13
  refine ⟨?_, ?_⟩
  · intro c15
    have h := h.1 c15
    exact ⟨h, K⟩
  · intro c16
    have h := h.2 c16
    obtain ⟨b17, e18, h⟩ := h
    refine ⟨b17, e18, ?_⟩
    obtain ⟨c19, h⟩ := h
    refine ⟨c19, ?_⟩
    have o20 := c19
    obtain ⟨b21, e22, h⟩ := h
    refine ⟨b21, e22, ?_⟩
    intro x24 e23
    have h := h x24 e23
    obtain ⟨c25, h⟩ := h
    refine ⟨c25, ?_⟩
    obtain ⟨c26, h⟩ := h
    refine ⟨c26, ?_⟩
    intro x28 e27
    have h := h x28 e27
    exact ⟨h, K⟩
theorem kj_X11_holds {L : List (Nat × Nat)} (hU : ∀ q ∈ L, q ∈ njT) (hL : ∀ q ∈ kjL_X11_holds, q ∈ L) {Q : Int64 → HS → Prop} {v0 : Nat} {S : HS} (h : P_X11_holds v0 Q S) : P_X11_holds v0 (fun r T => Q r T ∧ KJ L S T) S := kj_X11_holds_0 hU hL h (kj9_rf L S)
abbrev kjL_X11_isName : List (Nat × Nat) := []
set_option maxRecDepth 20000 in
set_option maxHeartbeats 1000000 in
theorem kj_X11_isName_0 {L : List (Nat × Nat)} (hU : ∀ q ∈ L, q ∈ njT) (hL : ∀ q ∈ kjL_X11_isName, q ∈ L) {Q : Int32 → HS → Prop} {v0 : Nat} {S0 S : HS} (h : P_X11_isName_0 Q v0 S) (K : KJ L S0 S) : P_X11_isName_0 (fun r T => Q r T ∧ KJ L S0 T) v0 S := by
  delta P_X11_isName_0 at h ⊢
  obtain ⟨c1, h⟩ := h
  refine ⟨c1, ?_⟩
  intro x3 e2
  have h := h x3 e2
  refine ⟨?_, ?_⟩
  · intro c4
    have h := h.1 c4
    exact ⟨h, K⟩
  · intro c5
    have h := h.2 c5
    refine cm_X11_isWord (kj_X11_isWord hU (fun q hq => hL q ((by decide : ∀ q ∈ kjL_X11_isWord, q ∈ kjL_X11_isName) q hq)) h) h (fun x6 x7 p10 h g8 g9 => ?_)
    have h := h g8 g9
    have K := kj9_tr K p10.2
    refine ⟨?_, ?_⟩
    · intro c11
      have h := h.1 c11
      exact ⟨h, K⟩
    · intro c12
      have h := h.2 c12
      refine cm_X11_isWord (kj_X11_isWord hU (fun q hq => hL q ((by decide : ∀ q ∈ kjL_X11_isWord, q ∈ kjL_X11_isName) q hq)) h) h (fun x13 x14 p17 h g15 g16 => ?_)
      have h := h g15 g16
      have K := kj9_tr K p17.2
      refine ⟨?_, ?_⟩
      · intro c18
        have h := h.1 c18
        exact ⟨h, K⟩
      · intro c19
        have h := h.2 c19
        refine cm_X11_isWord (kj_X11_isWord hU (fun q hq => hL q ((by decide : ∀ q ∈ kjL_X11_isWord, q ∈ kjL_X11_isName) q hq)) h) h (fun x20 x21 p24 h g22 g23 => ?_)
        have h := h g22 g23
        have K := kj9_tr K p24.2
        refine ⟨?_, ?_⟩
        · intro c25
          have h := h.1 c25
          exact ⟨h, K⟩
        · intro c26
          have h := h.2 c26
          refine cm_X11_isWord (kj_X11_isWord hU (fun q hq => hL q ((by decide : ∀ q ∈ kjL_X11_isWord, q ∈ kjL_X11_isName) q hq)) h) h (fun x27 x28 p31 h g29 g30 => ?_)
          have h := h g29 g30
          have K := kj9_tr K p31.2
          refine ⟨?_, ?_⟩
          · intro c32
            have h := h.1 c32
            refine cm_X11_isWord (kj_X11_isWord hU (fun q hq => hL q ((by decide : ∀ q ∈ kjL_X11_isWord, q ∈ kjL_X11_isName) q hq)) h) h (fun x33 x34 p37 h g35 g36 => ?_)
            have h := h g35 g36
            have K := kj9_tr K p37.2
            refine ⟨?_, ?_⟩
            · intro c38
              have h := h.1 c38
              exact ⟨h, K⟩
            · intro c39
              have h := h.2 c39
              refine cm_X11_isWord (kj_X11_isWord hU (fun q hq => hL q ((by decide : ∀ q ∈ kjL_X11_isWord, q ∈ kjL_X11_isName) q hq)) h) h (fun x40 x41 p44 h g42 g43 => ?_)
              have h := h g42 g43
              have K := kj9_tr K p44.2
              refine ⟨?_, ?_⟩
              · intro c45
                have h := h.1 c45
                exact ⟨h, K⟩
              · intro c46
                have h := h.2 c46
                refine cm_X11_isWord (kj_X11_isWord hU (fun q hq => hL q ((by decide : ∀ q ∈ kjL_X11_isWord, q ∈ kjL_X11_isName) q hq)) h) h (fun x47 x48 p51 h g49 g50 => ?_)
                have h := h g49 g50
                have K := kj9_tr K p51.2
                refine ⟨?_, ?_⟩
                · intro c52
                  have h := h.1 c52
                  exact ⟨h, K⟩
                · intro c53
                  have h := h.2 c53
                  refine cm_X11_isWord (kj_X11_isWord hU (fun q hq => hL q ((by decide : ∀ q ∈ kjL_X11_isWord, q ∈ kjL_X11_isName) q hq)) h) h (fun x54 x55 p58 h g56 g57 => ?_)
                  have h := h g56 g57
                  have K := kj9_tr K p58.2
                  refine ⟨?_, ?_⟩
                  · intro c59
                    have h := h.1 c59
                    exact ⟨h, K⟩
                  · intro c60
                    have h := h.2 c60
                    refine cm_X11_isWord (kj_X11_isWord hU (fun q hq => hL q ((by decide : ∀ q ∈ kjL_X11_isWord, q ∈ kjL_X11_isName) q hq)) h) h (fun x61 x62 p65 h g63 g64 => ?_)
                    have h := h g63 g64
                    have K := kj9_tr K p65.2
                    refine ⟨?_, ?_⟩
                    · intro c66
                      have h := h.1 c66
                      exact ⟨h, K⟩
                    · intro c67
                      have h := h.2 c67
                      exact ⟨h, K⟩
          · intro c68
            have h := h.2 c68
            exact ⟨h, K⟩
theorem kj_X11_isName {L : List (Nat × Nat)} (hU : ∀ q ∈ L, q ∈ njT) (hL : ∀ q ∈ kjL_X11_isName, q ∈ L) {Q : Int32 → HS → Prop} {v0 : Nat} {S : HS} (h : P_X11_isName v0 Q S) : P_X11_isName v0 (fun r T => Q r T ∧ KJ L S T) S := kj_X11_isName_0 hU hL h (kj9_rf L S)
abbrev kjL_X11_known : List (Nat × Nat) := []
set_option maxRecDepth 20000 in
set_option maxHeartbeats 1000000 in
theorem kj_X11_known_47 {L : List (Nat × Nat)} (hU : ∀ q ∈ L, q ∈ njT) (hL : ∀ q ∈ kjL_X11_known, q ∈ L) {Q : Int32 → HS → Prop} {v0 : Nat} {v2 : Int32} {S0 S : HS} (h : P_X11_known_47 Q v0 v2 S) (K : KJ L S0 S) : P_X11_known_47 (fun r T => Q r T ∧ KJ L S0 T) v0 v2 S := by
  delta P_X11_known_47 at h ⊢
  obtain ⟨c1, h⟩ := h
  refine ⟨c1, ?_⟩
  have o2 := c1
  intro x4 e3
  have h := h x4 e3
  refine ⟨?_, ?_⟩
  · intro c5
    have h := h.1 c5
    obtain ⟨b6, e7, h⟩ := h
    refine ⟨b6, e7, ?_⟩
    obtain ⟨c8, h⟩ := h
    refine ⟨c8, ?_⟩
    have o9 := c8
    obtain ⟨b10, e11, h⟩ := h
    refine ⟨b10, e11, ?_⟩
    obtain ⟨c12, h⟩ := h
    refine ⟨c12, ?_⟩
    obtain ⟨c13, h⟩ := h
    refine ⟨c13, ?_⟩
    intro x15 e14
    have h := h x15 e14
    exact ⟨h, K⟩
  · intro c16
    have h := h.2 c16
    exact ⟨h, K⟩
set_option maxRecDepth 20000 in
set_option maxHeartbeats 1000000 in
theorem kj_X11_known_42 {L : List (Nat × Nat)} (hU : ∀ q ∈ L, q ∈ njT) (hL : ∀ q ∈ kjL_X11_known, q ∈ L) {Q : Int32 → HS → Prop} {v0 : Nat} {v2 : Int32} {S0 S : HS} (h : P_X11_known_42 Q v0 v2 S) (K : KJ L S0 S) : P_X11_known_42 (fun r T => Q r T ∧ KJ L S0 T) v0 v2 S := by
  delta P_X11_known_42 at h ⊢
  obtain ⟨c1, h⟩ := h
  refine ⟨c1, ?_⟩
  refine cm_X11_flaw (kj_X11_flaw hU (fun q hq => hL q ((by decide : ∀ q ∈ kjL_X11_flaw, q ∈ kjL_X11_known) q hq)) h) h (fun x2 p4 h g3 => ?_)
  have h := h g3
  have K := kj9_tr K p4.2
  exact kj_X11_known_47 hU hL h K
set_option maxRecDepth 20000 in
set_option maxHeartbeats 1000000 in
theorem kj_X11_known_12 {L : List (Nat × Nat)} (hU : ∀ q ∈ L, q ∈ njT) (hL : ∀ q ∈ kjL_X11_known, q ∈ L) {Q : Int32 → HS → Prop} {v0 : Nat} {v1 : Int32} {S0 S : HS} (h : P_X11_known_12 Q v0 v1 S) (K : KJ L S0 S) : P_X11_known_12 (fun r T => Q r T ∧ KJ L S0 T) v0 v1 S := by
  delta P_X11_known_12 at h ⊢
  obtain ⟨c1, h⟩ := h
  refine ⟨c1, ?_⟩
  have o2 := c1
  obtain ⟨b3, e4, h⟩ := h
  refine ⟨b3, e4, ?_⟩
  intro x6 e5
  have h := h x6 e5
  obtain ⟨c7, h⟩ := h
  refine ⟨c7, ?_⟩
  refine cm_X10_find (kj_X10_find hU (fun q hq => hL q ((by decide : ∀ q ∈ kjL_X10_find, q ∈ kjL_X11_known) q hq)) h) h (fun x8 x9 p11 h g10 => ?_)
  have h := h g10
  have K := kj9_tr K p11.2
  have o2 := gr_ob p11.2.1 o2
  refine ⟨?_, ?_⟩
  · intro c12
    have h := h.1 c12
    exact kj_X11_known_42 hU hL h K
  · intro c13
    have h := h.2 c13
    obtain ⟨b14, e15, h⟩ := h
    refine ⟨b14, e15, ?_⟩
    obtain ⟨c16, h⟩ := h
    refine ⟨c16, ?_⟩
    have o17 := c16
    obtain ⟨b18, e19, h⟩ := h
    refine ⟨b18, e19, ?_⟩
    obtain ⟨c20, h⟩ := h
    refine ⟨c20, ?_⟩
    obtain ⟨c21, h⟩ := h
    refine ⟨c21, ?_⟩
    intro x23 e22
    have h := h x23 e22
    refine ⟨?_, ?_⟩
    · intro c24
      have h := h.1 c24
      exact kj_X11_known_47 hU hL h K
    · intro c25
      have h := h.2 c25
      exact kj_X11_known_42 hU hL h K
set_option maxRecDepth 20000 in
set_option maxHeartbeats 1000000 in
theorem kj_X11_known_0 {L : List (Nat × Nat)} (hU : ∀ q ∈ L, q ∈ njT) (hL : ∀ q ∈ kjL_X11_known, q ∈ L) {Q : Int32 → HS → Prop} {v0 : Nat} {v1 : Int32} {S0 S : HS} (h : P_X11_known_0 Q v0 v1 S) (K : KJ L S0 S) : P_X11_known_0 (fun r T => Q r T ∧ KJ L S0 T) v0 v1 S := by
  delta P_X11_known_0 at h ⊢
  obtain ⟨c1, h⟩ := h
  refine ⟨c1, ?_⟩
  refine cm_X11_isName (kj_X11_isName hU (fun q hq => hL q ((by decide : ∀ q ∈ kjL_X11_isName, q ∈ kjL_X11_known) q hq)) h) h (fun x2 x3 p6 h g4 g5 => ?_)
  have h := h g4 g5
  have K := kj9_tr K p6.2
  refine ⟨?_, ?_⟩
  · intro c7
    have h := h.1 c7
    exact kj_X11_known_12 hU hL h K
  · intro c8
    have h := h.2 c8
    refine cm_X11_flaw (kj_X11_flaw hU (fun q hq => hL q ((by decide : ∀ q ∈ kjL_X11_flaw, q ∈ kjL_X11_known) q hq)) h) h (fun x9 p11 h g10 => ?_)
    have h := h g10
    have K := kj9_tr K p11.2
    exact kj_X11_known_12 hU hL h K
theorem kj_X11_known {L : List (Nat × Nat)} (hU : ∀ q ∈ L, q ∈ njT) (hL : ∀ q ∈ kjL_X11_known, q ∈ L) {Q : Int32 → HS → Prop} {v0 : Nat} {v1 : Int32} {S : HS} (h : P_X11_known v0 v1 Q S) : P_X11_known v0 v1 (fun r T => Q r T ∧ KJ L S T) S := kj_X11_known_0 hU hL h (kj9_rf L S)
abbrev kjL_X11_spotOf : List (Nat × Nat) := []
set_option maxRecDepth 20000 in
set_option maxHeartbeats 1000000 in
theorem kj_X11_spotOf_0 {L : List (Nat × Nat)} (hU : ∀ q ∈ L, q ∈ njT) (hL : ∀ q ∈ kjL_X11_spotOf, q ∈ L) {Q : Int32 → HS → Prop} {v0 : Int32} {v1 : Int32} {S0 S : HS} (h : P_X11_spotOf_0 Q v0 v1 S) (K : KJ L S0 S) : P_X11_spotOf_0 (fun r T => Q r T ∧ KJ L S0 T) v0 v1 S := by
  delta P_X11_spotOf_0 at h ⊢
  exact ⟨h, K⟩
theorem kj_X11_spotOf {L : List (Nat × Nat)} (hU : ∀ q ∈ L, q ∈ njT) (hL : ∀ q ∈ kjL_X11_spotOf, q ∈ L) {Q : Int32 → HS → Prop} {v0 : Int32} {v1 : Int32} {S : HS} (h : P_X11_spotOf v0 v1 Q S) : P_X11_spotOf v0 v1 (fun r T => Q r T ∧ KJ L S T) S := kj_X11_spotOf_0 hU hL h (kj9_rf L S)
abbrev kjL_X11_meanOf : List (Nat × Nat) := []
set_option maxRecDepth 20000 in
set_option maxHeartbeats 1000000 in
theorem kj_X11_meanOf_0 {L : List (Nat × Nat)} (hU : ∀ q ∈ L, q ∈ njT) (hL : ∀ q ∈ kjL_X11_meanOf, q ∈ L) {Q : Int64 → HS → Prop} {v0 : Nat} {v1 : Int32} {v2 : Int32} {v3 : Int32} {v4 : Int32} {v5 : Int32} {S0 S : HS} (h : P_X11_meanOf_0 Q v0 v1 v2 v3 v4 v5 S) (K : KJ L S0 S) : P_X11_meanOf_0 (fun r T => Q r T ∧ KJ L S0 T) v0 v1 v2 v3 v4 v5 S := by
  delta P_X11_meanOf_0 at h ⊢
  obtain ⟨c1, h⟩ := h
  refine ⟨c1, ?_⟩
  have o2 := c1
  refine cm_X11_hourOf (kj_X11_hourOf hU (fun q hq => hL q ((by decide : ∀ q ∈ kjL_X11_hourOf, q ∈ kjL_X11_meanOf) q hq)) h) h (fun x3 x4 p6 h g5 => ?_)
  have h := h g5
  have K := kj9_tr K p6.2
  have o2 := gr_ob p6.2.1 o2
  obtain ⟨b7, e8, h⟩ := h
  refine ⟨b7, e8, ?_⟩
  obtain ⟨c9, h⟩ := h
  refine ⟨c9, ?_⟩
  intro x11 e10
  have h := h x11 e10
  refine ⟨?_, ?_⟩
  · intro c12
    have h := h.1 c12
    exact ⟨h, K⟩
  · intro c13
    have h := h.2 c13
    refine cm_X11_wetOf (kj_X11_wetOf hU (fun q hq => hL q ((by decide : ∀ q ∈ kjL_X11_wetOf, q ∈ kjL_X11_meanOf) q hq)) h) h (fun x14 x15 p17 h g16 => ?_)
    have h := h g16
    have K := kj9_tr K p17.2
    have o2 := gr_ob p17.2.1 o2
    obtain ⟨b18, e19, h⟩ := h
    refine ⟨b18, e19, ?_⟩
    obtain ⟨c20, h⟩ := h
    refine ⟨c20, ?_⟩
    have o21 := c20
    obtain ⟨b22, e23, h⟩ := h
    refine ⟨b22, e23, ?_⟩
    obtain ⟨c24, h⟩ := h
    refine ⟨c24, ?_⟩
    obtain ⟨c25, h⟩ := h
    refine ⟨c25, ?_⟩
    intro x27 e26
    have h := h x27 e26
    exact ⟨h, K⟩
theorem kj_X11_meanOf {L : List (Nat × Nat)} (hU : ∀ q ∈ L, q ∈ njT) (hL : ∀ q ∈ kjL_X11_meanOf, q ∈ L) {Q : Int64 → HS → Prop} {v0 : Nat} {v1 : Int32} {v2 : Int32} {v3 : Int32} {v4 : Int32} {v5 : Int32} {S : HS} (h : P_X11_meanOf v0 v1 v2 v3 v4 v5 Q S) : P_X11_meanOf v0 v1 v2 v3 v4 v5 (fun r T => Q r T ∧ KJ L S T) S := kj_X11_meanOf_0 hU hL h (kj9_rf L S)
abbrev kjL_X11_takes : List (Nat × Nat) := [(11, 17), (11, 18)]
set_option maxRecDepth 20000 in
set_option maxHeartbeats 1000000 in
theorem kj_X11_takes_77 {L : List (Nat × Nat)} (hU : ∀ q ∈ L, q ∈ njT) (hL : ∀ q ∈ kjL_X11_takes, q ∈ L) {Q : HS → Prop} {v0 : Nat} {v1 : Int32} {v2 : Int32} {v5 : Int32} {v6 : Int64} {S0 S : HS} (h : P_X11_takes_77 Q v0 v1 v2 v5 v6 S) (K : KJ L S0 S) : P_X11_takes_77 (fun T => Q T ∧ KJ L S0 T) v0 v1 v2 v5 v6 S := by
  delta P_X11_takes_77 at h ⊢
  obtain ⟨c1, h⟩ := h
  refine ⟨c1, ?_⟩
  have o2 := c1
  obtain ⟨b3, e4, h⟩ := h
  refine ⟨b3, e4, ?_⟩
  obtain ⟨c5, h⟩ := h
  refine ⟨c5, ?_⟩
  obtain ⟨c6, h⟩ := h
  refine ⟨c6, ?_⟩
  intro x8 e7
  have h := h x8 e7
  have K := kj9_J K e7
  have o2 := ob_wJ o2 e7
  obtain ⟨b9, e10, h⟩ := h
  refine ⟨b9, e10, ?_⟩
  have n11 := kj9_nr K e10 o2 (hL _ (by decide))
  obtain ⟨b12, e13, h⟩ := h
  refine ⟨b12, e13, ?_⟩
  obtain ⟨c14, h⟩ := h
  refine ⟨c14, ?_⟩
  obtain ⟨c15, h⟩ := h
  refine ⟨c15, ?_⟩
  intro x17 e16
  have h := h x17 e16
  obtain ⟨c18, h⟩ := h
  refine ⟨c18, ?_⟩
  obtain ⟨c19, h⟩ := h
  refine ⟨c19, ?_⟩
  intro x21 e20
  have h := h x21 e20
  have K := kj9_I K e20 n11
  have o2 := ob_wI o2 e20
  obtain ⟨b22, e23, h⟩ := h
  refine ⟨b22, e23, ?_⟩
  have n24 := kj9_nr K e23 o2 (hL _ (by decide))
  obtain ⟨c25, h⟩ := h
  refine ⟨c25, ?_⟩
  obtain ⟨c26, h⟩ := h
  refine ⟨c26, ?_⟩
  intro x28 e27
  have h := h x28 e27
  have K := kj9_I K e27 n24
  have o2 := ob_wI o2 e27
  exact ⟨h, K⟩
set_option maxRecDepth 20000 in
set_option maxHeartbeats 1000000 in
theorem kj_X11_takes_0 {L : List (Nat × Nat)} (hU : ∀ q ∈ L, q ∈ njT) (hL : ∀ q ∈ kjL_X11_takes, q ∈ L) {Q : HS → Prop} {v0 : Nat} {v1 : Int32} {v2 : Int32} {v3 : Int64} {v5 : Int32} {S0 S : HS} (h : P_X11_takes_0 Q v0 v1 v2 v3 v5 S) (K : KJ L S0 S) : P_X11_takes_0 (fun T => Q T ∧ KJ L S0 T) v0 v1 v2 v3 v5 S := by
  delta P_X11_takes_0 at h ⊢
  obtain ⟨c1, h⟩ := h
  refine ⟨c1, ?_⟩
  have o2 := c1
  obtain ⟨b3, e4, h⟩ := h
  refine ⟨b3, e4, ?_⟩
  obtain ⟨c5, h⟩ := h
  refine ⟨c5, ?_⟩
  obtain ⟨c6, h⟩ := h
  refine ⟨c6, ?_⟩
  intro x8 e7
  have h := h x8 e7
  refine ⟨?_, ?_⟩
  · intro c9
    have h := h.1 c9
    obtain ⟨b10, e11, h⟩ := h
    refine ⟨b10, e11, ?_⟩
    obtain ⟨c12, h⟩ := h
    refine ⟨c12, ?_⟩
    obtain ⟨c13, h⟩ := h
    refine ⟨c13, ?_⟩
    intro x15 e14
    have h := h x15 e14
    intro x17 e16
    have h := h x17 e16
    obtain ⟨b18, e19, h⟩ := h
    refine ⟨b18, e19, ?_⟩
    obtain ⟨c20, h⟩ := h
    refine ⟨c20, ?_⟩
    obtain ⟨c21, h⟩ := h
    refine ⟨c21, ?_⟩
    intro x23 e22
    have h := h x23 e22
    refine ⟨?_, ?_⟩
    · intro c24
      have h := h.1 c24
      exact kj_X11_takes_77 hU hL h K
    · intro c25
      have h := h.2 c25
      obtain ⟨b26, e27, h⟩ := h
      refine ⟨b26, e27, ?_⟩
      obtain ⟨c28, h⟩ := h
      refine ⟨c28, ?_⟩
      obtain ⟨c29, h⟩ := h
      refine ⟨c29, ?_⟩
      intro x31 e30
      have h := h x31 e30
      refine ⟨?_, ?_⟩
      · intro c32
        have h := h.1 c32
        exact ⟨h, K⟩
      · intro c33
        have h := h.2 c33
        obtain ⟨b34, e35, h⟩ := h
        refine ⟨b34, e35, ?_⟩
        obtain ⟨c36, h⟩ := h
        refine ⟨c36, ?_⟩
        obtain ⟨c37, h⟩ := h
        refine ⟨c37, ?_⟩
        intro x39 e38
        have h := h x39 e38
        refine ⟨?_, ?_⟩
        · intro c40
          have h := h.1 c40
          exact kj_X11_takes_77 hU hL h K
        · intro c41
          have h := h.2 c41
          obtain ⟨b42, e43, h⟩ := h
          refine ⟨b42, e43, ?_⟩
          obtain ⟨c44, h⟩ := h
          refine ⟨c44, ?_⟩
          obtain ⟨c45, h⟩ := h
          refine ⟨c45, ?_⟩
          intro x47 e46
          have h := h x47 e46
          obtain ⟨b48, e49, h⟩ := h
          refine ⟨b48, e49, ?_⟩
          obtain ⟨c50, h⟩ := h
          refine ⟨c50, ?_⟩
          obtain ⟨c51, h⟩ := h
          refine ⟨c51, ?_⟩
          intro x53 e52
          have h := h x53 e52
          refine ⟨?_, ?_⟩
          · intro c54
            have h := h.1 c54
            exact kj_X11_takes_77 hU hL h K
          · intro c55
            have h := h.2 c55
            exact ⟨h, K⟩
  · intro c56
    have h := h.2 c56
    exact ⟨h, K⟩
theorem kj_X11_takes {L : List (Nat × Nat)} (hU : ∀ q ∈ L, q ∈ njT) (hL : ∀ q ∈ kjL_X11_takes, q ∈ L) {Q : HS → Prop} {v0 : Nat} {v1 : Int32} {v2 : Int32} {v3 : Int64} {v5 : Int32} {S : HS} (h : P_X11_takes v0 v1 v2 v3 v5 Q S) : P_X11_takes v0 v1 v2 v3 v5 (fun T => Q T ∧ KJ L S T) S := kj_X11_takes_0 hU hL h (kj9_rf L S)
abbrev kjL_X11_waitsOf : List (Nat × Nat) := []
set_option maxRecDepth 20000 in
set_option maxHeartbeats 1000000 in
theorem kj_X11_waitsOf_0 {L : List (Nat × Nat)} (hU : ∀ q ∈ L, q ∈ njT) (hL : ∀ q ∈ kjL_X11_waitsOf, q ∈ L) {Q : Int64 → HS → Prop} {v0 : Nat} {v1 : Int32} {v2 : Int32} {v3 : Int32} {S0 S : HS} (h : P_X11_waitsOf_0 Q v0 v1 v2 v3 S) (K : KJ L S0 S) : P_X11_waitsOf_0 (fun r T => Q r T ∧ KJ L S0 T) v0 v1 v2 v3 S := by
  delta P_X11_waitsOf_0 at h ⊢
  obtain ⟨c1, h⟩ := h
  refine ⟨c1, ?_⟩
  have o2 := c1
  refine cm_X11_hourOf (kj_X11_hourOf hU (fun q hq => hL q ((by decide : ∀ q ∈ kjL_X11_hourOf, q ∈ kjL_X11_waitsOf) q hq)) h) h (fun x3 x4 p6 h g5 => ?_)
  have h := h g5
  have K := kj9_tr K p6.2
  have o2 := gr_ob p6.2.1 o2
  obtain ⟨b7, e8, h⟩ := h
  refine ⟨b7, e8, ?_⟩
  obtain ⟨c9, h⟩ := h
  refine ⟨c9, ?_⟩
  have o10 := c9
  obtain ⟨b11, e12, h⟩ := h
  refine ⟨b11, e12, ?_⟩
  obtain ⟨c13, h⟩ := h
  refine ⟨c13, ?_⟩
  obtain ⟨c14, h⟩ := h
  refine ⟨c14, ?_⟩
  intro x16 e15
  have h := h x16 e15
  refine ⟨?_, ?_⟩
  · intro c17
    have h := h.1 c17
    exact ⟨h, K⟩
  · intro c18
    have h := h.2 c18
    obtain ⟨b19, e20, h⟩ := h
    refine ⟨b19, e20, ?_⟩
    obtain ⟨c21, h⟩ := h
    refine ⟨c21, ?_⟩
    intro x23 e22
    have h := h x23 e22
    refine ⟨?_, ?_⟩
    · intro c24
      have h := h.1 c24
      refine cm_X11_drips (kj_X11_drips hU (fun q hq => hL q ((by decide : ∀ q ∈ kjL_X11_drips, q ∈ kjL_X11_waitsOf) q hq)) h) h (fun x25 x26 p28 h g27 => ?_)
      have h := h g27
      have K := kj9_tr K p28.2
      have o2 := gr_ob p28.2.1 o2
      have o10 := gr_ob p28.2.1 o10
      obtain ⟨b29, e30, h⟩ := h
      refine ⟨b29, e30, ?_⟩
      obtain ⟨c31, h⟩ := h
      refine ⟨c31, ?_⟩
      have o32 := c31
      obtain ⟨b33, e34, h⟩ := h
      refine ⟨b33, e34, ?_⟩
      obtain ⟨c35, h⟩ := h
      refine ⟨c35, ?_⟩
      obtain ⟨c36, h⟩ := h
      refine ⟨c36, ?_⟩
      intro x38 e37
      have h := h x38 e37
      exact ⟨h, K⟩
    · intro c39
      have h := h.2 c39
      exact ⟨h, K⟩
theorem kj_X11_waitsOf {L : List (Nat × Nat)} (hU : ∀ q ∈ L, q ∈ njT) (hL : ∀ q ∈ kjL_X11_waitsOf, q ∈ L) {Q : Int64 → HS → Prop} {v0 : Nat} {v1 : Int32} {v2 : Int32} {v3 : Int32} {S : HS} (h : P_X11_waitsOf v0 v1 v2 v3 Q S) : P_X11_waitsOf v0 v1 v2 v3 (fun r T => Q r T ∧ KJ L S T) S := kj_X11_waitsOf_0 hU hL h (kj9_rf L S)
abbrev kjL_X11_tries : List (Nat × Nat) := [(11, 17), (11, 18)]
set_option maxRecDepth 20000 in
set_option maxHeartbeats 1000000 in
theorem kj_X11_tries_140 {L : List (Nat × Nat)} (hU : ∀ q ∈ L, q ∈ njT) (hL : ∀ q ∈ kjL_X11_tries, q ∈ L) {Q : HS → Prop} {X3 X3_2 : Nat → Int32 → Int32 → Int32 → Int32 → Int32 → HS → Prop} {X18 X18_2 : Nat → Int32 → Int32 → Int32 → Int32 → Int32 → Int32 → HS → Prop} {X53 X53_2 : Nat → Int32 → Int32 → Int32 → Int32 → Int32 → Int32 → Int32 → HS → Prop} {v0 : Nat} {v1 : Int32} {v2 : Int32} {v3 : Int32} {v4 : Int32} {v5 : Int32} {v6 : Int32} {v7 : Int32} {S0 S : HS} (h : P_X11_tries_140 Q X3 X18 X53 v0 v1 v2 v3 v4 v5 v6 v7 S) (K : KJ L S0 S) (hX3 : ∀ (u0 : Nat) (u1 : Int32) (u2 : Int32) (u3 : Int32) (u4 : Int32) (u5 : Int32) (u6 : HS), X3 u0 u1 u2 u3 u4 u5 u6 → KJ L S0 u6 → X3_2 u0 u1 u2 u3 u4 u5 u6) (hX18 : ∀ (u0 : Nat) (u1 : Int32) (u2 : Int32) (u3 : Int32) (u4 : Int32) (u5 : Int32) (u6 : Int32) (u7 : HS), X18 u0 u1 u2 u3 u4 u5 u6 u7 → KJ L S0 u7 → X18_2 u0 u1 u2 u3 u4 u5 u6 u7) (hX53 : ∀ (u0 : Nat) (u1 : Int32) (u2 : Int32) (u3 : Int32) (u4 : Int32) (u5 : Int32) (u6 : Int32) (u7 : Int32) (u8 : HS), X53 u0 u1 u2 u3 u4 u5 u6 u7 u8 → KJ L S0 u8 → X53_2 u0 u1 u2 u3 u4 u5 u6 u7 u8) : P_X11_tries_140 (fun T => Q T ∧ KJ L S0 T) X3_2 X18_2 X53_2 v0 v1 v2 v3 v4 v5 v6 v7 S := by
  delta P_X11_tries_140 at h ⊢
  intro x2 e1
  have h := h x2 e1
  exact hX53 _ _ _ _ _ _ _ _ _ h K
set_option maxRecDepth 20000 in
set_option maxHeartbeats 1000000 in
theorem kj_X11_tries_146 {L : List (Nat × Nat)} (hU : ∀ q ∈ L, q ∈ njT) (hL : ∀ q ∈ kjL_X11_tries, q ∈ L) {Q : HS → Prop} {X3 X3_2 : Nat → Int32 → Int32 → Int32 → Int32 → Int32 → HS → Prop} {X18 X18_2 : Nat → Int32 → Int32 → Int32 → Int32 → Int32 → Int32 → HS → Prop} {v0 : Nat} {v1 : Int32} {v2 : Int32} {v3 : Int32} {v4 : Int32} {v5 : Int32} {v6 : Int32} {S0 S : HS} (h : P_X11_tries_146 Q X3 X18 v0 v1 v2 v3 v4 v5 v6 S) (K : KJ L S0 S) (hX3 : ∀ (u0 : Nat) (u1 : Int32) (u2 : Int32) (u3 : Int32) (u4 : Int32) (u5 : Int32) (u6 : HS), X3 u0 u1 u2 u3 u4 u5 u6 → KJ L S0 u6 → X3_2 u0 u1 u2 u3 u4 u5 u6) (hX18 : ∀ (u0 : Nat) (u1 : Int32) (u2 : Int32) (u3 : Int32) (u4 : Int32) (u5 : Int32) (u6 : Int32) (u7 : HS), X18 u0 u1 u2 u3 u4 u5 u6 u7 → KJ L S0 u7 → X18_2 u0 u1 u2 u3 u4 u5 u6 u7) : P_X11_tries_146 (fun T => Q T ∧ KJ L S0 T) X3_2 X18_2 v0 v1 v2 v3 v4 v5 v6 S := by
  delta P_X11_tries_146 at h ⊢
  intro x2 e1
  have h := h x2 e1
  exact hX18 _ _ _ _ _ _ _ _ h K
set_option maxRecDepth 20000 in
set_option maxHeartbeats 1000000 in
theorem kjB_X11_tries_53 {L : List (Nat × Nat)} (hU : ∀ q ∈ L, q ∈ njT) (hL : ∀ q ∈ kjL_X11_tries, q ∈ L) {Q : HS → Prop} {X3 X3_2 : Nat → Int32 → Int32 → Int32 → Int32 → Int32 → HS → Prop} {X18 X18_2 : Nat → Int32 → Int32 → Int32 → Int32 → Int32 → Int32 → HS → Prop} {X53 X53_2 : Nat → Int32 → Int32 → Int32 → Int32 → Int32 → Int32 → Int32 → HS → Prop} {v0 : Nat} {v1 : Int32} {v2 : Int32} {v3 : Int32} {v4 : Int32} {v5 : Int32} {v6 : Int32} {v7 : Int32} {S0 S : HS} (h : B_X11_tries_53 Q X3 X18 X53 v0 v1 v2 v3 v4 v5 v6 v7 S) (K : KJ L S0 S) (hX3 : ∀ (u0 : Nat) (u1 : Int32) (u2 : Int32) (u3 : Int32) (u4 : Int32) (u5 : Int32) (u6 : HS), X3 u0 u1 u2 u3 u4 u5 u6 → KJ L S0 u6 → X3_2 u0 u1 u2 u3 u4 u5 u6) (hX18 : ∀ (u0 : Nat) (u1 : Int32) (u2 : Int32) (u3 : Int32) (u4 : Int32) (u5 : Int32) (u6 : Int32) (u7 : HS), X18 u0 u1 u2 u3 u4 u5 u6 u7 → KJ L S0 u7 → X18_2 u0 u1 u2 u3 u4 u5 u6 u7) (hX53 : ∀ (u0 : Nat) (u1 : Int32) (u2 : Int32) (u3 : Int32) (u4 : Int32) (u5 : Int32) (u6 : Int32) (u7 : Int32) (u8 : HS), X53 u0 u1 u2 u3 u4 u5 u6 u7 u8 → KJ L S0 u8 → X53_2 u0 u1 u2 u3 u4 u5 u6 u7 u8) : B_X11_tries_53 (fun T => Q T ∧ KJ L S0 T) X3_2 X18_2 X53_2 v0 v1 v2 v3 v4 v5 v6 v7 S := by
  delta B_X11_tries_53 at h ⊢
  obtain ⟨c1, h⟩ := h
  refine ⟨c1, ?_⟩
  have o2 := c1
  obtain ⟨b3, e4, h⟩ := h
  refine ⟨b3, e4, ?_⟩
  obtain ⟨c5, h⟩ := h
  refine ⟨c5, ?_⟩
  have o6 := c5
  obtain ⟨b7, e8, h⟩ := h
  refine ⟨b7, e8, ?_⟩
  obtain ⟨c9, h⟩ := h
  refine ⟨c9, ?_⟩
  obtain ⟨c10, h⟩ := h
  refine ⟨c10, ?_⟩
  intro x12 e11
  have h := h x12 e11
  refine ⟨?_, ?_⟩
  · intro c13
    have h := h.1 c13
    exact kj_X11_tries_146 hU hL h K hX3 hX18
  · intro c14
    have h := h.2 c14
    obtain ⟨b15, e16, h⟩ := h
    refine ⟨b15, e16, ?_⟩
    obtain ⟨c17, h⟩ := h
    refine ⟨c17, ?_⟩
    refine cm_X10_minutes (kj_X10_minutes hU (fun q hq => hL q ((by decide : ∀ q ∈ kjL_X10_minutes, q ∈ kjL_X11_tries) q hq)) h) h (fun x18 x19 p21 h g20 => ?_)
    have h := h g20
    have K := kj9_tr K p21.2
    have o2 := gr_ob p21.2.1 o2
    have o6 := gr_ob p21.2.1 o6
    intro x23 e22
    have h := h x23 e22
    refine ⟨?_, ?_⟩
    · intro c24
      have h := h.1 c24
      exact kj_X11_tries_140 hU hL h K hX3 hX18 hX53
    · intro c25
      have h := h.2 c25
      refine cm_X11_spotOf (kj_X11_spotOf hU (fun q hq => hL q ((by decide : ∀ q ∈ kjL_X11_spotOf, q ∈ kjL_X11_tries) q hq)) h) h (fun x26 x27 p29 h g28 => ?_)
      have h := h g28
      have K := kj9_tr K p29.2
      have o2 := gr_ob p29.2.1 o2
      have o6 := gr_ob p29.2.1 o6
      obtain ⟨b30, e31, h⟩ := h
      refine ⟨b30, e31, ?_⟩
      obtain ⟨c32, h⟩ := h
      refine ⟨c32, ?_⟩
      refine cm_X10_ends (kj_X10_ends hU (fun q hq => hL q ((by decide : ∀ q ∈ kjL_X10_ends, q ∈ kjL_X11_tries) q hq)) h) h (fun x33 x34 p36 h g35 => ?_)
      have h := h g35
      have K := kj9_tr K p36.2
      have o2 := gr_ob p36.2.1 o2
      have o6 := gr_ob p36.2.1 o6
      refine cm_X11_spotOf (kj_X11_spotOf hU (fun q hq => hL q ((by decide : ∀ q ∈ kjL_X11_spotOf, q ∈ kjL_X11_tries) q hq)) h) h (fun x37 x38 p40 h g39 => ?_)
      have h := h g39
      have K := kj9_tr K p40.2
      have o2 := gr_ob p40.2.1 o2
      have o6 := gr_ob p40.2.1 o6
      refine cm_X11_meanOf (kj_X11_meanOf hU (fun q hq => hL q ((by decide : ∀ q ∈ kjL_X11_meanOf, q ∈ kjL_X11_tries) q hq)) h) h (fun x41 x42 p44 h g43 => ?_)
      have h := h g43
      have K := kj9_tr K p44.2
      have o2 := gr_ob p44.2.1 o2
      have o6 := gr_ob p44.2.1 o6
      refine cm_X11_takes (kj_X11_takes hU (fun q hq => hL q ((by decide : ∀ q ∈ kjL_X11_takes, q ∈ kjL_X11_tries) q hq)) h) h (fun x45 p47 h g46 => ?_)
      have h := h g46
      have K := kj9_tr K p47.2
      have o2 := gr_ob p47.2.1 o2
      have o6 := gr_ob p47.2.1 o6
      exact kj_X11_tries_140 hU hL h K hX3 hX18 hX53
theorem kj_X11_tries_53 {L : List (Nat × Nat)} (hU : ∀ q ∈ L, q ∈ njT) (hL : ∀ q ∈ kjL_X11_tries, q ∈ L) {Q : HS → Prop} {X3 X3_2 : Nat → Int32 → Int32 → Int32 → Int32 → Int32 → HS → Prop} {X18 X18_2 : Nat → Int32 → Int32 → Int32 → Int32 → Int32 → Int32 → HS → Prop} {v0 : Nat} {v1 : Int32} {v2 : Int32} {v3 : Int32} {v4 : Int32} {v5 : Int32} {v6 : Int32} {v7 : Int32} {S0 S : HS} (h : P_X11_tries_53 Q X3 X18 v0 v1 v2 v3 v4 v5 v6 v7 S) (K : KJ L S0 S) (hX3 : ∀ (u0 : Nat) (u1 : Int32) (u2 : Int32) (u3 : Int32) (u4 : Int32) (u5 : Int32) (u6 : HS), X3 u0 u1 u2 u3 u4 u5 u6 → KJ L S0 u6 → X3_2 u0 u1 u2 u3 u4 u5 u6) (hX18 : ∀ (u0 : Nat) (u1 : Int32) (u2 : Int32) (u3 : Int32) (u4 : Int32) (u5 : Int32) (u6 : Int32) (u7 : HS), X18 u0 u1 u2 u3 u4 u5 u6 u7 → KJ L S0 u7 → X18_2 u0 u1 u2 u3 u4 u5 u6 u7) : P_X11_tries_53 (fun T => Q T ∧ KJ L S0 T) X3_2 X18_2 v0 v1 v2 v3 v4 v5 v6 v7 S := h (fun v0 v1 v2 v3 v4 v5 v6 v7 S => KJ L S0 S → P_X11_tries_53 (fun T => Q T ∧ KJ L S0 T) X3_2 X18_2 v0 v1 v2 v3 v4 v5 v6 v7 S) (fun v0 v1 v2 v3 v4 v5 v6 v7 S hB K => fd_X11_tries_53 (kjB_X11_tries_53 hU hL hB K hX3 hX18 (fun _ _ _ _ _ _ _ _ _ hx K => hx K))) K
set_option maxRecDepth 20000 in
set_option maxHeartbeats 1000000 in
theorem kjB_X11_tries_18 {L : List (Nat × Nat)} (hU : ∀ q ∈ L, q ∈ njT) (hL : ∀ q ∈ kjL_X11_tries, q ∈ L) {Q : HS → Prop} {X3 X3_2 : Nat → Int32 → Int32 → Int32 → Int32 → Int32 → HS → Prop} {X18 X18_2 : Nat → Int32 → Int32 → Int32 → Int32 → Int32 → Int32 → HS → Prop} {v0 : Nat} {v1 : Int32} {v2 : Int32} {v3 : Int32} {v4 : Int32} {v5 : Int32} {v6 : Int32} {S0 S : HS} (h : B_X11_tries_18 Q X3 X18 v0 v1 v2 v3 v4 v5 v6 S) (K : KJ L S0 S) (hX3 : ∀ (u0 : Nat) (u1 : Int32) (u2 : Int32) (u3 : Int32) (u4 : Int32) (u5 : Int32) (u6 : HS), X3 u0 u1 u2 u3 u4 u5 u6 → KJ L S0 u6 → X3_2 u0 u1 u2 u3 u4 u5 u6) (hX18 : ∀ (u0 : Nat) (u1 : Int32) (u2 : Int32) (u3 : Int32) (u4 : Int32) (u5 : Int32) (u6 : Int32) (u7 : HS), X18 u0 u1 u2 u3 u4 u5 u6 u7 → KJ L S0 u7 → X18_2 u0 u1 u2 u3 u4 u5 u6 u7) : B_X11_tries_18 (fun T => Q T ∧ KJ L S0 T) X3_2 X18_2 v0 v1 v2 v3 v4 v5 v6 S := by
  delta B_X11_tries_18 at h ⊢
  refine ⟨?_, ?_⟩
  · intro c1
    have h := h.1 c1
    intro x3 e2
    have h := h x3 e2
    exact hX3 _ _ _ _ _ _ _ h K
  · intro c4
    have h := h.2 c4
    obtain ⟨c5, h⟩ := h
    refine ⟨c5, ?_⟩
    have o6 := c5
    obtain ⟨b7, e8, h⟩ := h
    refine ⟨b7, e8, ?_⟩
    obtain ⟨c9, h⟩ := h
    refine ⟨c9, ?_⟩
    refine cm_X10_begins (kj_X10_begins hU (fun q hq => hL q ((by decide : ∀ q ∈ kjL_X10_begins, q ∈ kjL_X11_tries) q hq)) h) h (fun x10 x11 p13 h g12 => ?_)
    have h := h g12
    have K := kj9_tr K p13.2
    have o6 := gr_ob p13.2.1 o6
    refine ⟨?_, ?_⟩
    · intro c14
      have h := h.1 c14
      obtain ⟨b15, e16, h⟩ := h
      refine ⟨b15, e16, ?_⟩
      obtain ⟨c17, h⟩ := h
      refine ⟨c17, ?_⟩
      have o18 := c17
      obtain ⟨b19, e20, h⟩ := h
      refine ⟨b19, e20, ?_⟩
      obtain ⟨c21, h⟩ := h
      refine ⟨c21, ?_⟩
      obtain ⟨c22, h⟩ := h
      refine ⟨c22, ?_⟩
      intro x24 e23
      have h := h x24 e23
      exact kj_X11_tries_53 hU hL h K hX3 hX18
    · intro c25
      have h := h.2 c25
      exact kj_X11_tries_146 hU hL h K hX3 hX18
theorem kj_X11_tries_18 {L : List (Nat × Nat)} (hU : ∀ q ∈ L, q ∈ njT) (hL : ∀ q ∈ kjL_X11_tries, q ∈ L) {Q : HS → Prop} {X3 X3_2 : Nat → Int32 → Int32 → Int32 → Int32 → Int32 → HS → Prop} {v0 : Nat} {v1 : Int32} {v2 : Int32} {v3 : Int32} {v4 : Int32} {v5 : Int32} {v6 : Int32} {S0 S : HS} (h : P_X11_tries_18 Q X3 v0 v1 v2 v3 v4 v5 v6 S) (K : KJ L S0 S) (hX3 : ∀ (u0 : Nat) (u1 : Int32) (u2 : Int32) (u3 : Int32) (u4 : Int32) (u5 : Int32) (u6 : HS), X3 u0 u1 u2 u3 u4 u5 u6 → KJ L S0 u6 → X3_2 u0 u1 u2 u3 u4 u5 u6) : P_X11_tries_18 (fun T => Q T ∧ KJ L S0 T) X3_2 v0 v1 v2 v3 v4 v5 v6 S := h (fun v0 v1 v2 v3 v4 v5 v6 S => KJ L S0 S → P_X11_tries_18 (fun T => Q T ∧ KJ L S0 T) X3_2 v0 v1 v2 v3 v4 v5 v6 S) (fun v0 v1 v2 v3 v4 v5 v6 S hB K => fd_X11_tries_18 (kjB_X11_tries_18 hU hL hB K hX3 (fun _ _ _ _ _ _ _ _ hx K => hx K))) K
set_option maxRecDepth 20000 in
set_option maxHeartbeats 1000000 in
theorem kjB_X11_tries_3 {L : List (Nat × Nat)} (hU : ∀ q ∈ L, q ∈ njT) (hL : ∀ q ∈ kjL_X11_tries, q ∈ L) {Q : HS → Prop} {X3 X3_2 : Nat → Int32 → Int32 → Int32 → Int32 → Int32 → HS → Prop} {v0 : Nat} {v1 : Int32} {v2 : Int32} {v3 : Int32} {v4 : Int32} {v5 : Int32} {S0 S : HS} (h : B_X11_tries_3 Q X3 v0 v1 v2 v3 v4 v5 S) (K : KJ L S0 S) (hX3 : ∀ (u0 : Nat) (u1 : Int32) (u2 : Int32) (u3 : Int32) (u4 : Int32) (u5 : Int32) (u6 : HS), X3 u0 u1 u2 u3 u4 u5 u6 → KJ L S0 u6 → X3_2 u0 u1 u2 u3 u4 u5 u6) : B_X11_tries_3 (fun T => Q T ∧ KJ L S0 T) X3_2 v0 v1 v2 v3 v4 v5 S := by
  delta B_X11_tries_3 at h ⊢
  obtain ⟨c1, h⟩ := h
  refine ⟨c1, ?_⟩
  have o2 := c1
  obtain ⟨b3, e4, h⟩ := h
  refine ⟨b3, e4, ?_⟩
  obtain ⟨c5, h⟩ := h
  refine ⟨c5, ?_⟩
  intro x7 e6
  have h := h x7 e6
  refine ⟨?_, ?_⟩
  · intro c8
    have h := h.1 c8
    refine cm_X11_canWait (kj_X11_canWait hU (fun q hq => hL q ((by decide : ∀ q ∈ kjL_X11_canWait, q ∈ kjL_X11_tries) q hq)) h) h (fun x9 x10 p13 h g11 g12 => ?_)
    have h := h g11 g12
    have K := kj9_tr K p13.2
    have o2 := gr_ob p13.2.1 o2
    refine ⟨?_, ?_⟩
    · intro c14
      have h := h.1 c14
      exact ⟨h, K⟩
    · intro c15
      have h := h.2 c15
      refine ⟨?_, ?_⟩
      · intro c16
        have h := h.1 c16
        exact ⟨h, K⟩
      · intro c17
        have h := h.2 c17
        refine cm_X11_spotOf (kj_X11_spotOf hU (fun q hq => hL q ((by decide : ∀ q ∈ kjL_X11_spotOf, q ∈ kjL_X11_tries) q hq)) h) h (fun x18 x19 p21 h g20 => ?_)
        have h := h g20
        have K := kj9_tr K p21.2
        have o2 := gr_ob p21.2.1 o2
        refine cm_X11_spotOf (kj_X11_spotOf hU (fun q hq => hL q ((by decide : ∀ q ∈ kjL_X11_spotOf, q ∈ kjL_X11_tries) q hq)) h) h (fun x22 x23 p25 h g24 => ?_)
        have h := h g24
        have K := kj9_tr K p25.2
        have o2 := gr_ob p25.2.1 o2
        refine cm_X11_waitsOf (kj_X11_waitsOf hU (fun q hq => hL q ((by decide : ∀ q ∈ kjL_X11_waitsOf, q ∈ kjL_X11_tries) q hq)) h) h (fun x26 x27 p29 h g28 => ?_)
        have h := h g28
        have K := kj9_tr K p29.2
        have o2 := gr_ob p29.2.1 o2
        refine cm_X11_takes (kj_X11_takes hU (fun q hq => hL q ((by decide : ∀ q ∈ kjL_X11_takes, q ∈ kjL_X11_tries) q hq)) h) h (fun x30 p32 h g31 => ?_)
        have h := h g31
        have K := kj9_tr K p32.2
        have o2 := gr_ob p32.2.1 o2
        exact ⟨h, K⟩
  · intro c33
    have h := h.2 c33
    exact kj_X11_tries_18 hU hL h K hX3
theorem kj_X11_tries_3 {L : List (Nat × Nat)} (hU : ∀ q ∈ L, q ∈ njT) (hL : ∀ q ∈ kjL_X11_tries, q ∈ L) {Q : HS → Prop} {v0 : Nat} {v1 : Int32} {v2 : Int32} {v3 : Int32} {v4 : Int32} {v5 : Int32} {S0 S : HS} (h : P_X11_tries_3 Q v0 v1 v2 v3 v4 v5 S) (K : KJ L S0 S) : P_X11_tries_3 (fun T => Q T ∧ KJ L S0 T) v0 v1 v2 v3 v4 v5 S := h (fun v0 v1 v2 v3 v4 v5 S => KJ L S0 S → P_X11_tries_3 (fun T => Q T ∧ KJ L S0 T) v0 v1 v2 v3 v4 v5 S) (fun v0 v1 v2 v3 v4 v5 S hB K => fd_X11_tries_3 (kjB_X11_tries_3 hU hL hB K (fun _ _ _ _ _ _ _ hx K => hx K))) K
set_option maxRecDepth 20000 in
set_option maxHeartbeats 1000000 in
theorem kj_X11_tries_0 {L : List (Nat × Nat)} (hU : ∀ q ∈ L, q ∈ njT) (hL : ∀ q ∈ kjL_X11_tries, q ∈ L) {Q : HS → Prop} {v0 : Nat} {v1 : Int32} {v2 : Int32} {v3 : Int32} {v4 : Int32} {S0 S : HS} (h : P_X11_tries_0 Q v0 v1 v2 v3 v4 S) (K : KJ L S0 S) : P_X11_tries_0 (fun T => Q T ∧ KJ L S0 T) v0 v1 v2 v3 v4 S := by
  delta P_X11_tries_0 at h ⊢
  exact kj_X11_tries_3 hU hL h K
theorem kj_X11_tries {L : List (Nat × Nat)} (hU : ∀ q ∈ L, q ∈ njT) (hL : ∀ q ∈ kjL_X11_tries, q ∈ L) {Q : HS → Prop} {v0 : Nat} {v1 : Int32} {v2 : Int32} {v3 : Int32} {v4 : Int32} {S : HS} (h : P_X11_tries v0 v1 v2 v3 v4 Q S) : P_X11_tries v0 v1 v2 v3 v4 (fun T => Q T ∧ KJ L S T) S := kj_X11_tries_0 hU hL h (kj9_rf L S)
abbrev kjL_X11_laysWays : List (Nat × Nat) := [(11, 17), (11, 18)]
set_option maxRecDepth 20000 in
set_option maxHeartbeats 1000000 in
theorem kj_X11_laysWays_85 {L : List (Nat × Nat)} (hU : ∀ q ∈ L, q ∈ njT) (hL : ∀ q ∈ kjL_X11_laysWays, q ∈ L) {Q : HS → Prop} {X3 X3_2 : Nat → Int32 → Int32 → Int32 → Int32 → HS → Prop} {X11 X11_2 : Nat → Int32 → Int32 → Int32 → Int32 → Int32 → HS → Prop} {v0 : Nat} {v1 : Int32} {v2 : Int32} {v3 : Int32} {v4 : Int32} {v5 : Int32} {S0 S : HS} (h : P_X11_laysWays_85 Q X3 X11 v0 v1 v2 v3 v4 v5 S) (K : KJ L S0 S) (hX3 : ∀ (u0 : Nat) (u1 : Int32) (u2 : Int32) (u3 : Int32) (u4 : Int32) (u5 : HS), X3 u0 u1 u2 u3 u4 u5 → KJ L S0 u5 → X3_2 u0 u1 u2 u3 u4 u5) (hX11 : ∀ (u0 : Nat) (u1 : Int32) (u2 : Int32) (u3 : Int32) (u4 : Int32) (u5 : Int32) (u6 : HS), X11 u0 u1 u2 u3 u4 u5 u6 → KJ L S0 u6 → X11_2 u0 u1 u2 u3 u4 u5 u6) : P_X11_laysWays_85 (fun T => Q T ∧ KJ L S0 T) X3_2 X11_2 v0 v1 v2 v3 v4 v5 S := by
  delta P_X11_laysWays_85 at h ⊢
  intro x2 e1
  have h := h x2 e1
  exact hX11 _ _ _ _ _ _ _ h K
set_option maxRecDepth 20000 in
set_option maxHeartbeats 1000000 in
theorem kj_X11_laysWays_51 {L : List (Nat × Nat)} (hU : ∀ q ∈ L, q ∈ njT) (hL : ∀ q ∈ kjL_X11_laysWays, q ∈ L) {Q : HS → Prop} {X3 X3_2 : Nat → Int32 → Int32 → Int32 → Int32 → HS → Prop} {X11 X11_2 : Nat → Int32 → Int32 → Int32 → Int32 → Int32 → HS → Prop} {v0 : Nat} {v1 : Int32} {v2 : Int32} {v3 : Int32} {v4 : Int32} {v5 : Int32} {v6 : Int32} {s0 : Nat} {s1 : Int32} {s2 : Int64} {S0 S : HS} (h : P_X11_laysWays_51 Q X3 X11 v0 v1 v2 v3 v4 v5 v6 s0 s1 s2 S) (K : KJ L S0 S) (hX3 : ∀ (u0 : Nat) (u1 : Int32) (u2 : Int32) (u3 : Int32) (u4 : Int32) (u5 : HS), X3 u0 u1 u2 u3 u4 u5 → KJ L S0 u5 → X3_2 u0 u1 u2 u3 u4 u5) (hX11 : ∀ (u0 : Nat) (u1 : Int32) (u2 : Int32) (u3 : Int32) (u4 : Int32) (u5 : Int32) (u6 : HS), X11 u0 u1 u2 u3 u4 u5 u6 → KJ L S0 u6 → X11_2 u0 u1 u2 u3 u4 u5 u6) : P_X11_laysWays_51 (fun T => Q T ∧ KJ L S0 T) X3_2 X11_2 v0 v1 v2 v3 v4 v5 v6 s0 s1 s2 S := by
  delta P_X11_laysWays_51 at h ⊢
  obtain ⟨c1, h⟩ := h
  refine ⟨c1, ?_⟩
  obtain ⟨c2, h⟩ := h
  refine ⟨c2, ?_⟩
  intro x4 e3
  have h := h x4 e3
  have K := kj9_J K e3
  obtain ⟨c5, h⟩ := h
  refine ⟨c5, ?_⟩
  have o6 := c5
  obtain ⟨b7, e8, h⟩ := h
  refine ⟨b7, e8, ?_⟩
  have n9 := kj9_nr K e8 o6 (hL _ (by decide))
  obtain ⟨c10, h⟩ := h
  refine ⟨c10, ?_⟩
  obtain ⟨c11, h⟩ := h
  refine ⟨c11, ?_⟩
  intro x13 e12
  have h := h x13 e12
  have K := kj9_I K e12 n9
  have o6 := ob_wI o6 e12
  obtain ⟨b14, e15, h⟩ := h
  refine ⟨b14, e15, ?_⟩
  have n16 := kj9_nr K e15 o6 (hL _ (by decide))
  obtain ⟨c17, h⟩ := h
  refine ⟨c17, ?_⟩
  obtain ⟨c18, h⟩ := h
  refine ⟨c18, ?_⟩
  intro x20 e19
  have h := h x20 e19
  have K := kj9_I K e19 n16
  have o6 := ob_wI o6 e19
  refine ⟨?_, ?_⟩
  · intro c21
    have h := h.1 c21
    exact kj_X11_laysWays_85 hU hL h K hX3 hX11
  · intro c22
    have h := h.2 c22
    refine cm_X11_tries (kj_X11_tries hU (fun q hq => hL q ((by decide : ∀ q ∈ kjL_X11_tries, q ∈ kjL_X11_laysWays) q hq)) h) h (fun x23 p25 h g24 => ?_)
    have h := h g24
    have K := kj9_tr K p25.2
    have o6 := gr_ob p25.2.1 o6
    exact kj_X11_laysWays_85 hU hL h K hX3 hX11
set_option maxRecDepth 20000 in
set_option maxHeartbeats 1000000 in
theorem kjB_X11_laysWays_11 {L : List (Nat × Nat)} (hU : ∀ q ∈ L, q ∈ njT) (hL : ∀ q ∈ kjL_X11_laysWays, q ∈ L) {Q : HS → Prop} {X3 X3_2 : Nat → Int32 → Int32 → Int32 → Int32 → HS → Prop} {X11 X11_2 : Nat → Int32 → Int32 → Int32 → Int32 → Int32 → HS → Prop} {v0 : Nat} {v1 : Int32} {v2 : Int32} {v3 : Int32} {v4 : Int32} {v5 : Int32} {S0 S : HS} (h : B_X11_laysWays_11 Q X3 X11 v0 v1 v2 v3 v4 v5 S) (K : KJ L S0 S) (hX3 : ∀ (u0 : Nat) (u1 : Int32) (u2 : Int32) (u3 : Int32) (u4 : Int32) (u5 : HS), X3 u0 u1 u2 u3 u4 u5 → KJ L S0 u5 → X3_2 u0 u1 u2 u3 u4 u5) (hX11 : ∀ (u0 : Nat) (u1 : Int32) (u2 : Int32) (u3 : Int32) (u4 : Int32) (u5 : Int32) (u6 : HS), X11 u0 u1 u2 u3 u4 u5 u6 → KJ L S0 u6 → X11_2 u0 u1 u2 u3 u4 u5 u6) : B_X11_laysWays_11 (fun T => Q T ∧ KJ L S0 T) X3_2 X11_2 v0 v1 v2 v3 v4 v5 S := by
  delta B_X11_laysWays_11 at h ⊢
  obtain ⟨c1, h⟩ := h
  refine ⟨c1, ?_⟩
  have o2 := c1
  obtain ⟨b3, e4, h⟩ := h
  refine ⟨b3, e4, ?_⟩
  obtain ⟨c5, h⟩ := h
  refine ⟨c5, ?_⟩
  intro x7 e6
  have h := h x7 e6
  refine ⟨?_, ?_⟩
  · intro c8
    have h := h.1 c8
    intro x10 e9
    have h := h x10 e9
    exact hX3 _ _ _ _ _ _ h K
  · intro c11
    have h := h.2 c11
    refine cm_X11_spotOf (kj_X11_spotOf hU (fun q hq => hL q ((by decide : ∀ q ∈ kjL_X11_spotOf, q ∈ kjL_X11_laysWays) q hq)) h) h (fun x12 x13 p15 h g14 => ?_)
    have h := h g14
    have K := kj9_tr K p15.2
    have o2 := gr_ob p15.2.1 o2
    obtain ⟨b16, e17, h⟩ := h
    refine ⟨b16, e17, ?_⟩
    refine ⟨?_, ?_⟩
    · intro c18
      have h := h.1 c18
      exact kj_X11_laysWays_51 hU hL h K hX3 hX11
    · intro c19
      have h := h.2 c19
      exact kj_X11_laysWays_51 hU hL h K hX3 hX11
theorem kj_X11_laysWays_11 {L : List (Nat × Nat)} (hU : ∀ q ∈ L, q ∈ njT) (hL : ∀ q ∈ kjL_X11_laysWays, q ∈ L) {Q : HS → Prop} {X3 X3_2 : Nat → Int32 → Int32 → Int32 → Int32 → HS → Prop} {v0 : Nat} {v1 : Int32} {v2 : Int32} {v3 : Int32} {v4 : Int32} {v5 : Int32} {S0 S : HS} (h : P_X11_laysWays_11 Q X3 v0 v1 v2 v3 v4 v5 S) (K : KJ L S0 S) (hX3 : ∀ (u0 : Nat) (u1 : Int32) (u2 : Int32) (u3 : Int32) (u4 : Int32) (u5 : HS), X3 u0 u1 u2 u3 u4 u5 → KJ L S0 u5 → X3_2 u0 u1 u2 u3 u4 u5) : P_X11_laysWays_11 (fun T => Q T ∧ KJ L S0 T) X3_2 v0 v1 v2 v3 v4 v5 S := h (fun v0 v1 v2 v3 v4 v5 S => KJ L S0 S → P_X11_laysWays_11 (fun T => Q T ∧ KJ L S0 T) X3_2 v0 v1 v2 v3 v4 v5 S) (fun v0 v1 v2 v3 v4 v5 S hB K => fd_X11_laysWays_11 (kjB_X11_laysWays_11 hU hL hB K hX3 (fun _ _ _ _ _ _ _ hx K => hx K))) K
set_option maxRecDepth 20000 in
set_option maxHeartbeats 1000000 in
theorem kjB_X11_laysWays_3 {L : List (Nat × Nat)} (hU : ∀ q ∈ L, q ∈ njT) (hL : ∀ q ∈ kjL_X11_laysWays, q ∈ L) {Q : HS → Prop} {X3 X3_2 : Nat → Int32 → Int32 → Int32 → Int32 → HS → Prop} {v0 : Nat} {v1 : Int32} {v2 : Int32} {v3 : Int32} {v4 : Int32} {S0 S : HS} (h : B_X11_laysWays_3 Q X3 v0 v1 v2 v3 v4 S) (K : KJ L S0 S) (hX3 : ∀ (u0 : Nat) (u1 : Int32) (u2 : Int32) (u3 : Int32) (u4 : Int32) (u5 : HS), X3 u0 u1 u2 u3 u4 u5 → KJ L S0 u5 → X3_2 u0 u1 u2 u3 u4 u5) : B_X11_laysWays_3 (fun T => Q T ∧ KJ L S0 T) X3_2 v0 v1 v2 v3 v4 S := by
  delta B_X11_laysWays_3 at h ⊢
  refine ⟨?_, ?_⟩
  · intro c1
    have h := h.1 c1
    exact ⟨h, K⟩
  · intro c2
    have h := h.2 c2
    exact kj_X11_laysWays_11 hU hL h K hX3
theorem kj_X11_laysWays_3 {L : List (Nat × Nat)} (hU : ∀ q ∈ L, q ∈ njT) (hL : ∀ q ∈ kjL_X11_laysWays, q ∈ L) {Q : HS → Prop} {v0 : Nat} {v1 : Int32} {v2 : Int32} {v3 : Int32} {v4 : Int32} {S0 S : HS} (h : P_X11_laysWays_3 Q v0 v1 v2 v3 v4 S) (K : KJ L S0 S) : P_X11_laysWays_3 (fun T => Q T ∧ KJ L S0 T) v0 v1 v2 v3 v4 S := h (fun v0 v1 v2 v3 v4 S => KJ L S0 S → P_X11_laysWays_3 (fun T => Q T ∧ KJ L S0 T) v0 v1 v2 v3 v4 S) (fun v0 v1 v2 v3 v4 S hB K => fd_X11_laysWays_3 (kjB_X11_laysWays_3 hU hL hB K (fun _ _ _ _ _ _ hx K => hx K))) K
set_option maxRecDepth 20000 in
set_option maxHeartbeats 1000000 in
theorem kj_X11_laysWays_0 {L : List (Nat × Nat)} (hU : ∀ q ∈ L, q ∈ njT) (hL : ∀ q ∈ kjL_X11_laysWays, q ∈ L) {Q : HS → Prop} {v0 : Nat} {v1 : Int32} {v2 : Int32} {v3 : Int32} {S0 S : HS} (h : P_X11_laysWays_0 Q v0 v1 v2 v3 S) (K : KJ L S0 S) : P_X11_laysWays_0 (fun T => Q T ∧ KJ L S0 T) v0 v1 v2 v3 S := by
  delta P_X11_laysWays_0 at h ⊢
  exact kj_X11_laysWays_3 hU hL h K
theorem kj_X11_laysWays {L : List (Nat × Nat)} (hU : ∀ q ∈ L, q ∈ njT) (hL : ∀ q ∈ kjL_X11_laysWays, q ∈ L) {Q : HS → Prop} {v0 : Nat} {v1 : Int32} {v2 : Int32} {v3 : Int32} {S : HS} (h : P_X11_laysWays v0 v1 v2 v3 Q S) : P_X11_laysWays v0 v1 v2 v3 (fun T => Q T ∧ KJ L S T) S := kj_X11_laysWays_0 hU hL h (kj9_rf L S)
abbrev kjL_X11_refusesWay : List (Nat × Nat) := [(11, 17), (11, 18)]
set_option maxRecDepth 20000 in
set_option maxHeartbeats 1000000 in
theorem kj_X11_refusesWay_0 {L : List (Nat × Nat)} (hU : ∀ q ∈ L, q ∈ njT) (hL : ∀ q ∈ kjL_X11_refusesWay, q ∈ L) {Q : Int32 → HS → Prop} {v0 : Nat} {v1 : Int32} {v2 : Int32} {v3 : Int32} {v4 : Int32} {v5 : Int32} {S0 S : HS} (h : P_X11_refusesWay_0 Q v0 v1 v2 v3 v4 v5 S) (K : KJ L S0 S) : P_X11_refusesWay_0 (fun r T => Q r T ∧ KJ L S0 T) v0 v1 v2 v3 v4 v5 S := by
  delta P_X11_refusesWay_0 at h ⊢
  obtain ⟨c1, h⟩ := h
  refine ⟨c1, ?_⟩
  have o2 := c1
  refine cm_X11_isWalker (kj_X11_isWalker hU (fun q hq => hL q ((by decide : ∀ q ∈ kjL_X11_isWalker, q ∈ kjL_X11_refusesWay) q hq)) h) h (fun x3 x4 p7 h g5 g6 => ?_)
  have h := h g5 g6
  have K := kj9_tr K p7.2
  have o2 := gr_ob p7.2.1 o2
  refine ⟨?_, ?_⟩
  · intro c8
    have h := h.1 c8
    exact ⟨h, K⟩
  · intro c9
    have h := h.2 c9
    refine cm_X11_isPlace (kj_X11_isPlace hU (fun q hq => hL q ((by decide : ∀ q ∈ kjL_X11_isPlace, q ∈ kjL_X11_refusesWay) q hq)) h) h (fun x10 x11 p14 h g12 g13 => ?_)
    have h := h g12 g13
    have K := kj9_tr K p14.2
    have o2 := gr_ob p14.2.1 o2
    refine ⟨?_, ?_⟩
    · intro c15
      have h := h.1 c15
      exact ⟨h, K⟩
    · intro c16
      have h := h.2 c16
      refine cm_X11_isPlace (kj_X11_isPlace hU (fun q hq => hL q ((by decide : ∀ q ∈ kjL_X11_isPlace, q ∈ kjL_X11_refusesWay) q hq)) h) h (fun x17 x18 p21 h g19 g20 => ?_)
      have h := h g19 g20
      have K := kj9_tr K p21.2
      have o2 := gr_ob p21.2.1 o2
      refine ⟨?_, ?_⟩
      · intro c22
        have h := h.1 c22
        refine cm_X11_in (kj_X11_in hU (fun q hq => hL q ((by decide : ∀ q ∈ kjL_X11_in, q ∈ kjL_X11_refusesWay) q hq)) h) h (fun x23 x24 p27 h g25 g26 => ?_)
        have h := h g25 g26
        have K := kj9_tr K p27.2
        have o2 := gr_ob p27.2.1 o2
        refine ⟨?_, ?_⟩
        · intro c28
          have h := h.1 c28
          exact ⟨h, K⟩
        · intro c29
          have h := h.2 c29
          refine cm_X11_in (kj_X11_in hU (fun q hq => hL q ((by decide : ∀ q ∈ kjL_X11_in, q ∈ kjL_X11_refusesWay) q hq)) h) h (fun x30 x31 p34 h g32 g33 => ?_)
          have h := h g32 g33
          have K := kj9_tr K p34.2
          have o2 := gr_ob p34.2.1 o2
          refine ⟨?_, ?_⟩
          · intro c35
            have h := h.1 c35
            refine cm_X11_laysWays (kj_X11_laysWays hU (fun q hq => hL q ((by decide : ∀ q ∈ kjL_X11_laysWays, q ∈ kjL_X11_refusesWay) q hq)) h) h (fun x36 p38 h g37 => ?_)
            have h := h g37
            have K := kj9_tr K p38.2
            have o2 := gr_ob p38.2.1 o2
            obtain ⟨b39, e40, h⟩ := h
            refine ⟨b39, e40, ?_⟩
            refine cm_X11_spotOf (kj_X11_spotOf hU (fun q hq => hL q ((by decide : ∀ q ∈ kjL_X11_spotOf, q ∈ kjL_X11_refusesWay) q hq)) h) h (fun x41 x42 p44 h g43 => ?_)
            have h := h g43
            have K := kj9_tr K p44.2
            have o2 := gr_ob p44.2.1 o2
            obtain ⟨c45, h⟩ := h
            refine ⟨c45, ?_⟩
            obtain ⟨c46, h⟩ := h
            refine ⟨c46, ?_⟩
            intro x48 e47
            have h := h x48 e47
            refine ⟨?_, ?_⟩
            · intro c49
              have h := h.1 c49
              exact ⟨h, K⟩
            · intro c50
              have h := h.2 c50
              exact ⟨h, K⟩
          · intro c51
            have h := h.2 c51
            exact ⟨h, K⟩
      · intro c52
        have h := h.2 c52
        exact ⟨h, K⟩
theorem kj_X11_refusesWay {L : List (Nat × Nat)} (hU : ∀ q ∈ L, q ∈ njT) (hL : ∀ q ∈ kjL_X11_refusesWay, q ∈ L) {Q : Int32 → HS → Prop} {v0 : Nat} {v1 : Int32} {v2 : Int32} {v3 : Int32} {v4 : Int32} {v5 : Int32} {S : HS} (h : P_X11_refusesWay v0 v1 v2 v3 v4 v5 Q S) : P_X11_refusesWay v0 v1 v2 v3 v4 v5 (fun r T => Q r T ∧ KJ L S T) S := kj_X11_refusesWay_0 hU hL h (kj9_rf L S)
abbrev kjL_X11_least : List (Nat × Nat) := [(11, 17), (11, 18)]
set_option maxRecDepth 20000 in
set_option maxHeartbeats 1000000 in
theorem kj_X11_least_0 {L : List (Nat × Nat)} (hU : ∀ q ∈ L, q ∈ njT) (hL : ∀ q ∈ kjL_X11_least, q ∈ L) {Q : Int64 → HS → Prop} {v0 : Nat} {v1 : Int32} {v2 : Int32} {v3 : Int32} {v4 : Int32} {v5 : Int32} {v6 : Int32} {S0 S : HS} (h : P_X11_least_0 Q v0 v1 v2 v3 v4 v5 v6 S) (K : KJ L S0 S) : P_X11_least_0 (fun r T => Q r T ∧ KJ L S0 T) v0 v1 v2 v3 v4 v5 v6 S := by
  delta P_X11_least_0 at h ⊢
  obtain ⟨c1, h⟩ := h
  refine ⟨c1, ?_⟩
  have n2 := kj9_nk K c1 (by decide)
  have o3 := c1
  intro x5 e4
  have h := h x5 e4
  have K := kj9_I K e4 n2
  have o3 := ob_wI o3 e4
  refine cm_X11_refusesWay (kj_X11_refusesWay hU (fun q hq => hL q ((by decide : ∀ q ∈ kjL_X11_refusesWay, q ∈ kjL_X11_least) q hq)) h) h (fun x6 x7 p9 h g8 => ?_)
  have h := h g8
  have K := kj9_tr K p9.2
  have o3 := gr_ob p9.2.1 o3
  refine ⟨?_, ?_⟩
  · intro c10
    have h := h.1 c10
    obtain ⟨b11, e12, h⟩ := h
    refine ⟨b11, e12, ?_⟩
    refine cm_X11_spotOf (kj_X11_spotOf hU (fun q hq => hL q ((by decide : ∀ q ∈ kjL_X11_spotOf, q ∈ kjL_X11_least) q hq)) h) h (fun x13 x14 p16 h g15 => ?_)
    have h := h g15
    have K := kj9_tr K p16.2
    have o3 := gr_ob p16.2.1 o3
    obtain ⟨c17, h⟩ := h
    refine ⟨c17, ?_⟩
    obtain ⟨c18, h⟩ := h
    refine ⟨c18, ?_⟩
    intro x20 e19
    have h := h x20 e19
    refine cm_X11_told (kj_X11_told hU (fun q hq => hL q ((by decide : ∀ q ∈ kjL_X11_told, q ∈ kjL_X11_least) q hq)) h) h (fun x21 x22 p24 h g23 => ?_)
    have h := h g23
    have K := kj9_tr K p24.2
    have o3 := gr_ob p24.2.1 o3
    exact ⟨h, K⟩
  · intro c25
    have h := h.2 c25
    refine cm_X11_refused (kj_X11_refused hU (fun q hq => hL q ((by decide : ∀ q ∈ kjL_X11_refused, q ∈ kjL_X11_least) q hq)) h) h (fun x26 x27 p29 h g28 => ?_)
    have h := h g28
    have K := kj9_tr K p29.2
    have o3 := gr_ob p29.2.1 o3
    exact ⟨h, K⟩
theorem kj_X11_least {L : List (Nat × Nat)} (hU : ∀ q ∈ L, q ∈ njT) (hL : ∀ q ∈ kjL_X11_least, q ∈ L) {Q : Int64 → HS → Prop} {v0 : Nat} {v1 : Int32} {v2 : Int32} {v3 : Int32} {v4 : Int32} {v5 : Int32} {v6 : Int32} {S : HS} (h : P_X11_least v0 v1 v2 v3 v4 v5 v6 Q S) : P_X11_least v0 v1 v2 v3 v4 v5 v6 (fun r T => Q r T ∧ KJ L S T) S := kj_X11_least_0 hU hL h (kj9_rf L S)
end
