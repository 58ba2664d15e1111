section
/-! the reference's day -/
def mwO (w : Int32) : Int32 := if w = -1 then -2 else w
def MVd (S : HS) (b o : Nat) (v : MO) : Prop := fJ S b o = v.1.toInt64 ∧ fJ S b (o + 1) = v.2.1.toInt64 ∧ ∀ f, f < 5 → fJ S b (o + 2 + f) = v.2.2 f
def MDs (m d p k : Nat) (S : HS) : Prop := fR S m 21 = some d ∧ fR S m 22 = some p ∧ fR S m 23 = some k ∧ ob S d 14 ∧ ob S p 14 ∧ ob S k 14 ∧ p ≠ d ∧ k ≠ d ∧ k ≠ p
def MDv (m d p k : Nat) (D : DY) (S : HS) : Prop := fI S m 19 = mwO (dW D) ∧ fI S m 20 = dR D ∧ fI S m 24 = nI (dU D) ∧ fI S m 25 = nI (dK D) ∧ dU D ≤ 16 ∧ dK D ≤ 3 ∧ MVd S d 0 (dN D) ∧ (∀ i, i < dU D → MVd S p (7 * i) (dP D i)) ∧ ∀ i, i < dK D → MVd S k (7 * i) (dM D i)
def MDd (m : Nat) (D : DY) (S : HS) : Prop := ob S m 11 ∧ ∃ d p k, MDs m d p k S ∧ MDv m d p k D S
def DSm (m : Nat) (S T : HS) : Prop := hL T = hL S ∧ hK T = hK S ∧ hN T = hN S ∧ fR T = fR S ∧ ∀ x, x ≠ m → fI T x = fI S x
section C51
variable {m d p k rd a b i j : Nat} {A : AS} {G : GC} {D : DY} {S T U : HS} {v x y t : Int32} {Q : Int32 → HS → Prop} {QJ : Int64 → HS → Prop} {Q0 : HS → Prop}
theorem dm_rf (m : Nat) (S : HS) : DSm m S S := ⟨rfl, rfl, rfl, rfl, fun _ _ => rfl⟩
theorem dm_tr (h : DSm m S T) (g : DSm m T U) : DSm m S U := ⟨g.1.trans h.1, g.2.1.trans h.2.1, g.2.2.1.trans h.2.2.1, g.2.2.2.1.trans h.2.2.2.1, fun x hx => (g.2.2.2.2 x hx).trans (h.2.2.2.2 x hx)⟩
theorem dm_o (h : DSm m S T) {q k : Nat} (o : ob S q k) : ob T q k := by
  unfold ob
  rw [h.1, h.2.1]
  exact o
theorem dm_I {j : Nat} (e : T = sI S m j v) : DSm m S T := by
  rw [e]
  exact ⟨rfl, rfl, rfl, rfl, fun x hx => u2_row _ _ hx⟩
theorem dm_J {j : Nat} {v : Int64} (e : T = sJ S a j v) : DSm m S T := by
  rw [e]
  exact ⟨rfl, rfl, rfl, rfl, fun _ _ => rfl⟩
theorem dm_wJ (g : Nat → Nat → Int64) : DSm m S (wJ S g) := ⟨rfl, rfl, rfl, rfl, fun _ _ => rfl⟩
theorem dm_F {W WJ : List Nat} (F : Fr W WJ m S T) : DSm m S T := ⟨F.1, F.2.1, F.2.2.1, F.2.2.2.1, fun x hx => (F.2.2.2.2.1 x hx).1⟩
theorem mvd_mv {o : Nat} {w : MO} (h : MVd S b o w) (e : fJ T b = fJ S b) : MVd T b o w := by
  unfold MVd
  rw [e]
  exact h
theorem ms_mv (h : MDs m d p k S) (g : DSm m S T) : MDs m d p k T := by
  unfold MDs ob at h ⊢
  rw [g.1, g.2.1, g.2.2.2.1]
  exact h
/-- ints of the model's own are written, none of the day's -/
theorem md_I (h : MDd m D S) (e : T = sI S m j v) (h1 : j ≠ 19) (h2 : j ≠ 20) (h3 : j ≠ 24) (h4 : j ≠ 25) : MDd m D T := by
  obtain ⟨om, d, p, k, ms, mv⟩ := h
  have r : fI T m = va_up (fI S m) j v := row_I e
  have rj : fJ T = fJ S := by rw [e]; rfl
  obtain ⟨q1, q2, q3, q4, q5, q6, q7, q8, q9⟩ := mv
  refine ⟨by rw [e]; exact om, d, p, k, ms_mv ms (dm_I e), ?_, ?_, ?_, ?_, q5, q6, mvd_mv q7 (by rw [rj]), fun i hi => mvd_mv (q8 i hi) (by rw [rj]), fun i hi => mvd_mv (q9 i hi) (by rw [rj])⟩
  · rw [r, va_up_ne _ _ h1.symm]; exact q1
  · rw [r, va_up_ne _ _ h2.symm]; exact q2
  · rw [r, va_up_ne _ _ h3.symm]; exact q3
  · rw [r, va_up_ne _ _ h4.symm]; exact q4
theorem md_F {W WJ : List Nat} (h : MDd m D S) (F : Fr W WJ m S T) (h1 : 19 ∉ W) (h2 : 20 ∉ W) (h3 : 24 ∉ W) (h4 : 25 ∉ W) : MDd m D T := by
  obtain ⟨om, d, p, k, ms, q1, q2, q3, q4, q5, q6, q7, q8, q9⟩ := h
  have nm : ∀ {x : Nat}, ob S x 14 → x ≠ m := fun o => ob_ne o om (by decide)
  have f := F.2.2.2.2.2.1
  have fj : ∀ {x : Nat}, ob S x 14 → fJ T x = fJ S x := fun o => (F.2.2.2.2.1 _ (nm o)).2
  exact ⟨dm_o (dm_F F) om, d, p, k, ms_mv ms (dm_F F), by rw [f 19 h1]; exact q1, by rw [f 20 h2]; exact q2, by rw [f 24 h3]; exact q3, by rw [f 25 h4]; exact q4, q5, q6, mvd_mv q7 (fj ms.2.2.2.1), fun i hi => mvd_mv (q8 i hi) (fj ms.2.2.2.2.1), fun i hi => mvd_mv (q9 i hi) (fj ms.2.2.2.2.2.1)⟩
theorem md_12 (h : MDd m D S) (F : Fr [1, 2] [] m S T) : MDd m D T := md_F h F (by decide) (by decide) (by decide) (by decide)
/-- the world told, over these steps -/
theorem wrm_ds (om : ob S m 11) (g : DSm m S T) (h : WRm m rd A G S) : WRm m rd A G T := by
  obtain ⟨h1, h2, h3, h4, h5, h6⟩ := h
  obtain ⟨g1, g2, g3, g4, g5⟩ := g
  have rm : rd ≠ m := ob_ne h2 om (by decide)
  refine ⟨by rw [g4]; exact h1, by unfold ob; rw [g1, g2]; exact h2, ?_, fun i b i1 i2 e z hz => ?_, ?_, fun i b i1 i2 e => ?_⟩
  · unfold Cnt
    rw [g5 rd rm]
    exact h3
  · rw [g4] at e
    have q := h6 i b i1 i2 e
    have bm : b ≠ m := q.1.elim (fun o => ob_ne o om (by decide)) (fun o => ob_ne o om (by decide))
    rw [g5 b bm]
    exact h4 i b i1 i2 e z hz
  · unfold DMr
    rw [g4]
    exact h5
  · rw [g4] at e
    unfold NW8 ob
    rw [g1, g2, g4]
    exact h6 i b i1 i2 e
def HM (m : Nat) (A : AS) (G : GC) (S : HS) : Prop := (fR S m 3 = none ∧ A = A00) ∨ ∃ rd, WRm m rd A G S
theorem hm_ds (om : ob S m 11) (g : DSm m S T) (h : HM m A G S) : HM m A G T := h.elim (fun z => Or.inl ⟨by rw [g.2.2.2.1]; exact z.1, z.2⟩) (fun ⟨rd, z⟩ => Or.inr ⟨rd, wrm_ds om g z⟩)
def HE (S : HS) : Prop := ∀ rd i, ob S rd 10 → 7 ≤ i → i ≤ 27 → ∃ b, fR S rd i = some b
theorem he_iv (hI : IV S) : HE S := fun rd i o h1 h2 => m_start hI (S1 := sI S rd 0 0) rfl rd i o h1 h2
theorem he_ds (g : DSm m S T) (h : HE S) : HE T := fun rd i o h1 h2 => by
  unfold ob at o
  rw [g.1, g.2.1] at o
  rw [g.2.2.2.1]
  exact h rd i o h1 h2
theorem sm_X11_isDay (hm : HM m A G S) (md : MDd m D S) (db : DBd A D) (h : P_X11_isDay m Q S) : P_X11_isDay m (fun x T => Q x T ∧ S = T ∧ ans (onD D) x) S := by
  obtain ⟨om, d, p, k, ms, mv⟩ := md
  have q1 := mv.1
  delta P_X11_isDay P_X11_isDay_0
  obtain ⟨o1, h⟩ := h
  refine ⟨o1, fun n => ⟨h.1 n, rfl, Or.inr ⟨fun on => ?_, rfl⟩⟩, fun a1 e1 x3 q3 => ?_⟩
  · rcases hm with ⟨-, hA⟩ | ⟨rd, hr⟩
    · have := (db_on db on).1
      rw [hA] at this
      exact zero_n (k := aW A00) rfl this
    · exact absurd (hr.1.symm.trans n) (by intro z; cases z)
  · have h := h.2 a1 e1 x3 q3
    have q3 := q3.trans q1
    unfold mwO at q3
    refine ⟨fun cc => ⟨h.1 cc, rfl, Or.inr ⟨fun on => ?_, rfl⟩⟩, fun cc => ⟨h.2 cc, rfl, Or.inl ⟨fun z => ?_, rfl⟩⟩⟩
    · rw [if_neg on] at q3
      have z := (db_on db on).1.1
      rw [← q3, cc] at z
      exact z (by decide)
    · rw [if_pos z] at q3
      exact cc q3
theorem sm_X11_hourOf (om : ob S m 11) (hr : WRm m rd A G S) (h : P_X11_hourOf m v Q S) : P_X11_hourOf m v (fun x T => Q x T ∧ S = T ∧ x = hrO A v ∧ ¬ aH A = 0) S := by
  delta P_X11_hourOf P_X11_hourOf_0
  obtain ⟨o1, a1, e1, o2, h⟩ := h
  cases hr.1.symm.trans e1
  refine ⟨o1, _, e1, o2, fun x2 q2 => ?_⟩
  obtain ⟨n2, h⟩ := h x2 q2
  have q2 := q2.trans hr.2.2.1.1
  have na : ¬ aH A = 0 := fun z => n2 (by rw [q2, z]; rfl)
  refine ⟨n2, fun x4 q4 => ⟨h x4 q4, rfl, ?_, na⟩⟩
  unfold hrO
  rw [if_neg na, q4, q2]
theorem hr_nn (ab : ABd A) (h : 0 ≤ t.toInt) : ¬ hrO A t < 0 := fun z => by
  have e0 : (0 : Int32).toInt = 0 := by decide
  have q := lt_i z
  unfold hrO at q
  by_cases c : aH A = 0
  · rw [if_pos c] at q
    omega
  · rw [if_neg c, Int32.toInt_div, nI_i (by have := ab.1; omega), e0] at q
    have l := t.toInt_lt
    have p1 : 0 ≤ t.toInt.tdiv (aH A : Int) := Int.tdiv_nonneg h (by omega)
    have p2 : t.toInt.tdiv (aH A : Int) ≤ t.toInt := by
      rw [Int.tdiv_eq_ediv_of_nonneg h]
      exact Int.ediv_le_self _ h
    rw [Int.bmod_eq_of_le (by omega) (by omega)] at q
    omega
theorem sm_X11_rainsIn (ab : ABd A) (hr : WRm m rd A G S) (md : MDd m D S) (ht : 0 ≤ t.toInt) (h : P_X11_rainsIn m t Q S) : P_X11_rainsIn m t (fun x T => Q x T ∧ S = T ∧ ans (rnO A D t) x) S := by
  have om := md.1
  obtain ⟨_, d, p, k, ms, mv⟩ := md
  delta P_X11_rainsIn P_X11_rainsIn_0
  obtain ⟨o1, h⟩ := h
  refine ⟨o1, ?_⟩
  refine cm_X11_hourOf (sm_X11_hourOf om hr h) h (fun x3 S1 hp h g => ?_)
  have h := h g
  obtain ⟨-, hS, h3, -⟩ := hp
  subst hS
  obtain ⟨a4, e4, o4, h⟩ := h
  cases hr.1.symm.trans e4
  refine ⟨_, e4, o4, fun x5 q5 => ?_⟩
  have h := h x5 q5
  have q5 := q5.trans hr.2.2.1.2.1
  rw [q5, h3] at h ⊢
  refine ⟨fun cc => ⟨h.1 cc, rfl, Or.inr ⟨fun z => absurd z.1.2 (Int32.not_lt.mpr cc), rfl⟩⟩, fun cc x7 q7 => ?_⟩
  have h := h.2 cc x7 q7
  have q7 := q7.trans mv.2.1
  rw [q7] at h ⊢
  exact ⟨fun c2 => ⟨h.1 c2, rfl, Or.inr ⟨fun z => c2 z.2, rfl⟩⟩, fun c2 => ⟨h.2 c2, rfl, Or.inl ⟨⟨⟨hr_nn ab ht, Int32.not_le.mp cc⟩, c2⟩, rfl⟩⟩⟩
theorem sm_X10_begins (hr : WRm m rd A G S) (ir : v.toNatClampNeg < aR A) (h : P_X10_begins rd v x Q S) : P_X10_begins rd v x (fun z T => Q z T ∧ S = T ∧ z = goB G v x) S := by
  delta P_X10_begins P_X10_begins_0
  unfold goB
  refine ⟨fun cc => ?_, fun cc => ?_⟩
  · obtain ⟨o1, a2, e2, o2, i2, h⟩ := h.1 cc
    exact ⟨o1, _, e2, o2, i2, fun x4 q4 => ⟨h x4 q4, rfl, by rw [if_neg cc]; exact q4.trans (hr.2.2.2.1 14 a2 (by decide) (by decide) e2 _ ir)⟩⟩
  · obtain ⟨o1, a2, e2, o2, i2, h⟩ := h.2 cc
    exact ⟨o1, _, e2, o2, i2, fun x4 q4 => ⟨h x4 q4, rfl, by rw [if_pos cc]; exact q4.trans (hr.2.2.2.1 13 a2 (by decide) (by decide) e2 _ ir)⟩⟩
theorem sm_X10_ends (hr : WRm m rd A G S) (ir : v.toNatClampNeg < aR A) (h : P_X10_ends rd v x Q S) : P_X10_ends rd v x (fun z T => Q z T ∧ S = T ∧ z = goT G v x) S := by
  delta P_X10_ends P_X10_ends_0
  unfold goT
  refine ⟨fun cc => ?_, fun cc => ?_⟩
  · obtain ⟨o1, a2, e2, o2, i2, h⟩ := h.1 cc
    exact ⟨o1, _, e2, o2, i2, fun x4 q4 => ⟨h x4 q4, rfl, by rw [if_neg cc]; exact q4.trans (hr.2.2.2.1 13 a2 (by decide) (by decide) e2 _ ir)⟩⟩
  · obtain ⟨o1, a2, e2, o2, i2, h⟩ := h.2 cc
    exact ⟨o1, _, e2, o2, i2, fun x4 q4 => ⟨h x4 q4, rfl, by rw [if_pos cc]; exact q4.trans (hr.2.2.2.1 14 a2 (by decide) (by decide) e2 _ ir)⟩⟩
theorem pl_eq {k : Nat} {w : Int32} (hk : k ≤ 2) (hw : inI 0 9 w) : (¬ dripOf k w = -1) ↔ (¬ innOf k = 0 ∨ ¬ treeOf k w = -2) := by
  have e1 : ¬ w = -1 := fun z => by have := hw.1; rw [z] at this; exact absurd this (by decide)
  have e2 : ¬ w = -2 := fun z => by have := hw.1; rw [z] at this; exact absurd this (by decide)
  have e3 : ¬ (0 : Int32) = -1 := by decide
  unfold dripOf innOf treeOf
  rcases (by omega : k = 0 ∨ k = 1 ∨ k = 2) with rfl | rfl | rfl
  · simp
  · simp
  · simp [e1, e2]
theorem sm_X11_canWait (ab : ABd A) (gb : GBd A G) (hr : WRm m rd A G S) (hv : ¬ v < 0 ∧ v < nI (aP A)) (h : P_X11_canWait m v Q S) : P_X11_canWait m v (fun x T => Q x T ∧ S = T ∧ ans (cwO A G v) x) S := by
  have iv := ix_lt (by have := ab.2.2.1; omega) hv
  have b := gb.2.1 _ iv
  have pq := pl_eq b.1 b.2
  delta P_X11_canWait P_X11_canWait_0
  obtain ⟨o1, a1, e1, o2, a2, e2, o3, i3, h⟩ := h
  cases hr.1.symm.trans e1
  refine ⟨o1, _, e1, o2, _, e2, o3, i3, fun x4 q4 => ?_⟩
  have h := h x4 q4
  have q4 : x4 = innOf (gPk G v.toNatClampNeg) := q4.trans (hr.2.2.2.1 18 a2 (by decide) (by decide) e2 _ iv)
  refine ⟨fun cc => ⟨h.1 cc, rfl, Or.inl ⟨⟨hv, pq.mpr (Or.inl (by rw [← q4]; exact cc))⟩, rfl⟩⟩, fun cc => ?_⟩
  obtain ⟨a6, e6, o6, a7, e7, o7, i7, h⟩ := h.2 cc
  cases hr.1.symm.trans e6
  refine ⟨_, e6, o6, _, e7, o7, i7, fun x9 q9 => ?_⟩
  have h := h x9 q9
  have q9 : x9 = treeOf (gPk G v.toNatClampNeg) (gPv G v.toNatClampNeg) := q9.trans (hr.2.2.2.1 12 a7 (by decide) (by decide) e7 _ iv)
  refine ⟨fun c2 => ⟨h.1 c2, rfl, Or.inr ⟨fun z => ?_, rfl⟩⟩, fun c2 => ⟨h.2 c2, rfl, Or.inl ⟨⟨hv, pq.mpr (Or.inr (by rw [← q9]; exact c2))⟩, rfl⟩⟩⟩
  rcases pq.mp z.2 with q | q
  · exact q (by rw [← q4]; exact cc)
  · exact q (by rw [← q9]; exact c2)
end C51
/-! the reference's day: keeping, undoing, marks -/
def cpJ (S : HS) (g : Nat → Nat → Int64) (dst o src q n : Nat) : Prop := (∀ x, x ≠ dst → g x = fJ S x) ∧ (∀ z, (z < o ∨ o + n ≤ z) → g dst z = fJ S dst z) ∧ ∀ j, j < n → g dst (o + j) = fJ S src (q + j)
section C52
variable {m d p k rd a b i j dst src o q n : Nat} {A : AS} {G : GC} {D : DY} {S T U : HS} {v x y t : Int32} {Q : Int32 → HS → Prop} {QJ : Int64 → HS → Prop} {Q0 : HS → Prop} {g : Nat → Nat → Int64}
theorem cp_0 : cpJ S (fJ S) dst o src q 0 := ⟨fun _ _ => rfl, fun _ _ => rfl, fun j hj => absurd hj (Nat.not_lt_zero j)⟩
theorem cp_s {w : Int64} (h : cpJ S g dst o src q n) (ne : src ≠ dst) (hw : w = g src (q + n)) : cpJ S (u2 g dst (o + n) w) dst o src q (n + 1) := by
  refine ⟨fun x hx => (u2_row _ _ hx).trans (h.1 x hx), fun z hz => ?_, fun j hj => ?_⟩
  · rw [u2_ne _ _ (by omega)]
    exact h.2.1 z (by omega)
  · by_cases e : j = n
    · rw [e, u2_self, hw, h.1 src ne]
    · rw [u2_ne _ _ (by omega)]
      exact h.2.2 j (by omega)
theorem mv_cp {w : MO} (h : cpJ S g dst o src q 7) (hv : MVd S src q w) : MVd (wJ S g) dst o w := by
  refine ⟨(h.2.2 0 (by decide)).trans hv.1, (h.2.2 1 (by decide)).trans hv.2.1, fun f hf => ?_⟩
  have e := h.2.2 (2 + f) (by omega)
  rw [show o + (2 + f) = o + 2 + f by omega, show q + (2 + f) = q + 2 + f by omega] at e
  exact e.trans (hv.2.2 f hf)
theorem mv_ot {w : MO} {o' : Nat} (h : cpJ S g dst o src q 7) (hv : MVd S dst o' w) (ho : o' + 7 ≤ o ∨ o + 7 ≤ o') : MVd (wJ S g) dst o' w := by
  refine ⟨(h.2.1 o' (by omega)).trans hv.1, (h.2.1 (o' + 1) (by omega)).trans hv.2.1, fun f hf => (h.2.1 (o' + 2 + f) (by omega)).trans (hv.2.2 f hf)⟩
theorem mv_nx {w : MO} (h : ∀ x, x ≠ dst → g x = fJ S x) (hv : MVd S b o w) (hb : b ≠ dst) : MVd (wJ S g) b o w := mvd_mv hv (h b hb)
theorem sv7 {u z : Nat} : (7 : Int32) * nI u + nI z = nI (7 * u + z) := by
  show nI 7 * nI u + nI z = _
  rw [nJ_mul, nI_add]
theorem kp48 (md : MDd m D S) (hu : dU D < 16) (h : P_X11_keeps_48 Q0 m S) : P_X11_keeps_48 (fun T => Q0 T ∧ MDd m (kpE D) T ∧ DSm m S T) m S := by
  obtain ⟨om, d, p, k, ms, mv⟩ := md
  delta P_X11_keeps_48
  intro X hX
  refine h (fun a0 v1 T => (a0 = m ∧ ∃ n g, n ≤ 7 ∧ v1 = nI n ∧ T = wJ S g ∧ cpJ S g p (7 * dU D) d 0 n) → X a0 v1 T) ?_ ⟨rfl, 0, fJ S, by decide, rfl, rfl, cp_0⟩
  rintro a0 v1 T h ⟨rfl, n, g, hn, rfl, rfl, cp⟩
  apply hX
  have e7 : (7 : Int32).toInt = 7 := by decide
  have nk : (nI n).toInt = (n : Int) := nI_i (by omega)
  have ck : (nI n).toNatClampNeg = n := nI_cl (by omega)
  obtain ⟨q1, q2, q3, q4, q5, q6, q7, q8, q9⟩ := mv
  refine ⟨fun cc => ?_, fun cc => ?_⟩
  · have n7 : n = 7 := by have := le_i cc; omega
    rw [n7] at cp
    obtain ⟨o1, h⟩ := h.1 cc
    refine ⟨o1, fun x2 w2 x3 w3 S4 w4 => ⟨h x2 w2 x3 w3 S4 w4, ?_, dm_tr (dm_wJ g) (dm_I w4)⟩⟩
    have r : fI S4 a0 = va_up (fI S a0) 24 x3 := row_I (S := wJ S g) w4
    have rj : fJ S4 = g := by rw [w4]; rfl
    have mvt : ∀ {b o w}, MVd (wJ S g) b o w → MVd S4 b o w := fun h => mvd_mv h (by rw [rj]; rfl)
    refine ⟨by rw [w4]; exact om, d, p, k, ms_mv ms (dm_tr (dm_wJ g) (dm_I w4)), by rw [r]; exact q1, by rw [r]; exact q2, ?_, by rw [r]; exact q4, by show dU D + 1 ≤ 16; omega, q6, mvt (mv_nx cp.1 q7 ms.2.2.2.2.2.2.1.symm), fun i hi => ?_, fun i hi => mvt (mv_nx cp.1 (q9 i hi) ms.2.2.2.2.2.2.2.2)⟩
    · rw [r, va_up_self, w3, w2]
      show fI S a0 24 + 1 = nI (dU D + 1)
      rw [q3]
      exact nI_add (dU D) 1
    · have hi : i < dU D + 1 := hi
      refine mvt ?_
      show MVd (wJ S g) p (7 * i) (if i = dU D then dN D else dP D i)
      by_cases z : i = dU D
      · rw [if_pos z, z]
        exact mv_cp cp q7
      · rw [if_neg z]
        exact mv_ot cp (q8 i (by omega)) (by omega)
  · have lt := nle_i cc
    obtain ⟨o1, a5, e5, h⟩ := h.2 cc
    cases ms.2.1.symm.trans e5
    refine ⟨o1, _, e5, fun x6 w6 => ?_⟩
    obtain ⟨a7, e7', o7, i7, h⟩ := h x6 w6
    cases ms.1.symm.trans e7'
    have w6 : x6 = nI (dU D) := w6.trans q3
    refine ⟨_, e7', o7, i7, fun x9 w9 => ?_⟩
    obtain ⟨o9, i9, h⟩ := h x9 w9
    refine ⟨o9, i9, fun S11 w11 x12 w12 => h S11 w11 x12 w12 ⟨rfl, n + 1, u2 g p (7 * dU D + n) x9, by omega, by rw [w12]; exact nI_add n 1, ?_, cp_s cp ms.2.2.2.2.2.2.1.symm ?_⟩⟩
    · rw [w11, w6, sv7, nI_cl (by omega)]
      rfl
    · rw [w9, ck, Nat.zero_add]
      rfl
theorem kpm11 (md : MDd m D S) (hu : dU D = 16) (h : P_X11_keeps_11 Q0 m 0 S) : P_X11_keeps_11 (fun T => Q0 T ∧ MDd m (kpE (rotD D)) T ∧ DSm m S T) m 0 S := by
  obtain ⟨om, d, p, k, ms, mv⟩ := md
  intro X hX
  refine h (fun a0 v1 T => (a0 = m ∧ ∃ n g, n ≤ 105 ∧ v1 = nI n ∧ T = wJ S g ∧ (∀ x, x ≠ p → g x = fJ S x) ∧ (∀ z, n ≤ z → g p z = fJ S p z) ∧ ∀ z, z < n → g p z = fJ S p (z + 7)) → X a0 v1 T) ?_ ⟨rfl, 0, fJ S, by decide, rfl, rfl, fun _ _ => rfl, fun _ _ => rfl, fun z hz => absurd hz (Nat.not_lt_zero z)⟩
  rintro a0 v1 T h ⟨rfl, n, g, hn, rfl, rfl, g1, g2, g3⟩
  apply hX
  have e105 : (105 : Int32).toInt = 105 := by decide
  have nk : (nI n).toInt = (n : Int) := nI_i (by omega)
  have ck : (nI n).toNatClampNeg = n := nI_cl (by omega)
  obtain ⟨q1, q2, q3, q4, q5, q6, q7, q8, q9⟩ := mv
  refine ⟨fun cc => ?_, fun cc => ?_⟩
  · have n7 : n = 105 := by have := le_i cc; omega
    rw [n7] at g3
    obtain ⟨o1, h⟩ := h.1 cc
    refine ⟨o1, fun x2 w2 x3 w3 S4 w4 => ?_⟩
    have h := h x2 w2 x3 w3 S4 w4
    have r : fI S4 a0 = va_up (fI S a0) 24 x3 := row_I (S := wJ S g) w4
    have rj : fJ S4 = g := by rw [w4]; rfl
    have d4 : DSm a0 S S4 := dm_tr (dm_wJ g) (dm_I w4)
    have mvt : ∀ {b o w}, MVd (wJ S g) b o w → MVd S4 b o w := fun h => mvd_mv h (by rw [rj]; rfl)
    have md4 : MDd a0 (rotD D) S4 := by
      refine ⟨dm_o d4 om, d, p, k, ms_mv ms d4, by rw [r]; exact q1, by rw [r]; exact q2, ?_, by rw [r]; exact q4, by show 15 ≤ 16; omega, q6, mvt (mv_nx g1 q7 ms.2.2.2.2.2.2.1.symm), fun i hi => ?_, fun i hi => mvt (mv_nx g1 (q9 i hi) ms.2.2.2.2.2.2.2.2)⟩
      · rw [r, va_up_self, w3, w2]
        show fI S a0 24 - 1 = nI 15
        rw [q3, hu]
        decide
      · have hi : i < 15 := hi
        refine mvt ?_
        have w := q8 (i + 1) (by omega)
        rw [show 7 * (i + 1) = 7 * i + 7 by omega] at w
        refine ⟨(g3 (7 * i) (by omega)).trans w.1, (g3 (7 * i + 1) (by omega)).trans ?_, fun f hf => (g3 (7 * i + 2 + f) (by omega)).trans ?_⟩
        · rw [show 7 * i + 1 + 7 = 7 * i + 7 + 1 by omega]
          exact w.2.1
        · rw [show 7 * i + 2 + f + 7 = 7 * i + 7 + 2 + f by omega]
          exact w.2.2 f hf
    refine cm_X11_keeps_48 (kp48 md4 (by show 15 < 16; omega) h) h (fun T hp _ => ⟨hp.1, hp.2.1, dm_tr d4 hp.2.2⟩)
  · have lt := nle_i cc
    obtain ⟨o1, a5, e5, a6, e6, o6, h⟩ := h.2 cc
    cases ms.2.1.symm.trans e5
    cases ms.2.1.symm.trans e6
    refine ⟨o1, _, e5, _, e6, o6, fun x8 w8 => ?_⟩
    obtain ⟨i8, h⟩ := h x8 w8
    have w8 : x8 = nI (n + 7) := by rw [w8]; exact nI_add n 7
    refine ⟨i8, fun x9 w9 => ?_⟩
    obtain ⟨o9, i9, h⟩ := h x9 w9
    have w9 : x9 = g p (n + 7) := by rw [w9, w8, nI_cl (by omega)]; rfl
    refine ⟨o9, i9, fun S11 w11 x12 w12 => h S11 w11 x12 w12 ⟨rfl, n + 1, u2 g p n x9, by omega, by rw [w12]; exact nI_add n 1, by rw [w11, ck]; rfl, fun x hx => (u2_row _ _ hx).trans (g1 x hx), fun z hz => ?_, fun z hz => ?_⟩⟩
    · rw [u2_ne _ _ (by omega)]
      exact g2 z (by omega)
    · by_cases e : z = n
      · rw [e, u2_self, w9, g2 (n + 7) (by omega)]
      · rw [u2_ne _ _ (by omega)]
        exact g3 z (by omega)
theorem sm_X11_keeps (md : MDd m D S) (h : P_X11_keeps m Q0 S) : P_X11_keeps m (fun T => Q0 T ∧ MDd m (kpF D) T ∧ DSm m S T) S := by
  have md0 := md
  obtain ⟨om, d, p, k, ms, mv⟩ := md0
  have u := mv.2.2.2.2.1
  delta P_X11_keeps P_X11_keeps_0
  obtain ⟨o1, h⟩ := h
  refine ⟨o1, fun x1 q1 => ?_⟩
  have h := h x1 q1
  have q1 := q1.trans mv.2.2.1
  have n1 : x1.toInt = (dU D : Int) := by rw [q1, nI_i (by omega)]
  have e16 : (16 : Int32).toInt = 16 := by decide
  unfold kpF
  refine ⟨fun cc => ?_, fun cc => ?_⟩
  · have hu : ¬ dU D = 16 := fun z => cc (by rw [q1, z]; rfl)
    rw [if_neg hu]
    exact kp48 md (by omega) (h.1 cc)
  · have hu : dU D = 16 := by rw [cc] at n1; omega
    rw [if_pos hu]
    exact kpm11 md hu (h.2 cc)
theorem sm_granted {md' : Prop} (h : P_X11_granted m Q S) : P_X11_granted m (fun x T => Q x T ∧ x = 1 ∧ Fr [1, 2] [] m S T) S := by
  delta P_X11_granted P_X11_granted_0
  obtain ⟨o1, h⟩ := h
  refine ⟨o1, ?_⟩
  refine cm_X11_good (sp_X11_good h) h (fun x U hp h g => ⟨h g, rfl, hp.2.2.1⟩)
theorem sm_denied (h : P_X11_denied m v Q S) : P_X11_denied m v (fun x T => Q x T ∧ x = 0 ∧ Fr [1, 2] [] m S T) S := by
  delta P_X11_denied P_X11_denied_0
  obtain ⟨o1, h⟩ := h
  refine ⟨o1, ?_⟩
  refine cm_X11_refused (sp_X11_refused h) h (fun x U hp h g => ⟨h g, rfl, hp.2.2.1⟩)
/-- the day's row is written out of another -/
theorem md_nw {g : Nat → Nat → Int64} {w : MO} {u' k' : Nat} (om : ob S m 11) (ms : MDs m d p k S) (mv : MDv m d p k D S) (g1 : ∀ x, x ≠ d → g x = fJ S x) (hw : MVd (wJ S g) d 0 w) : MDd m (nwD D w) (wJ S g) := by
  obtain ⟨q1, q2, q3, q4, q5, q6, q7, q8, q9⟩ := mv
  exact ⟨om, d, p, k, ms_mv ms (dm_wJ g), q1, q2, q3, q4, q5, q6, hw, fun i hi => mv_nx g1 (q8 i hi) ms.2.2.2.2.2.2.1, fun i hi => mv_nx g1 (q9 i hi) ms.2.2.2.2.2.2.2.1⟩
theorem tl_X11_undo (hm : HM m A G S) (md : MDd m D S) (db : DBd A D) (h : P_X11_undo m Q S) : P_X11_undo m (fun x T => Q x T ∧ ans (0 < dU D) x ∧ MDd m (nxundo D) T) S := by
  have om := md.1
  delta P_X11_undo P_X11_undo_0
  obtain ⟨o1, h⟩ := h
  refine ⟨o1, fun S1 s1 => ?_⟩
  have h := h S1 s1
  have md1 := md_I md s1 (by decide) (by decide) (by decide) (by decide)
  have d1 : DSm m S S1 := dm_I s1
  have hm1 := hm_ds om d1 hm
  have no : ¬ 0 < dU D → P_X11_undo_19 Q m S1 → P_X11_undo_19 (fun x T => Q x T ∧ ans (0 < dU D) x ∧ MDd m (nxundo D) T) m S1 := by
    intro hn h
    delta P_X11_undo_19
    obtain ⟨o1, h⟩ := h
    refine ⟨o1, ?_⟩
    refine cm_X11_denied (sm_denied h) h (fun x U hp h g b => ?_)
    have h := h g b
    unfold nxundo
    rw [if_neg hn]
    exact ⟨h.1, h.2, Or.inr ⟨hn, hp.2.1⟩, md_12 md1 hp.2.2⟩
  refine cm_X11_isDay (sm_X11_isDay hm1 md1 db h) h (fun x4 S2 hp h g b => ?_)
  have h := h g b
  obtain ⟨-, hS, hx⟩ := hp
  subst hS
  refine ⟨fun cc => no (fun z => ?_) (h.1 cc), fun cc => ?_⟩
  · rcases db with q | q
    · omega
    · exact an0 hx cc q.1
  have h := h.2 cc
  obtain ⟨om1, d, p, k, ms, mv⟩ := md1
  intro x6 q6
  have h := h x6 q6
  have q6 := q6.trans mv.2.2.1
  have u := mv.2.2.2.2.1
  have n6 : x6.toInt = (dU D : Int) := by rw [q6, nI_i (by omega)]
  refine Iff.mp and_comm ⟨fun c2 => no (fun z => ?_) (h.2 c2), fun c2 => ?_⟩
  · rw [c2] at n6
    have e0 : (0 : Int32).toInt = 0 := by decide
    omega
  have hu : 0 < dU D := Nat.pos_of_ne_zero (fun z => c2 (by rw [q6, z]; rfl))
  have h := h.1 c2
  intro x8 q8 x9 q9 S10 q10
  have h := h x8 q8 x9 q9 S10 q10
  have e9 : x9 = nI (dU D - 1) := by
    rw [q9, q8, mv.2.2.1]
    have w : nI (dU D) = nI (dU D - 1) + (1 : Int32) := by
      have := nI_add (dU D - 1) 1
      rw [show dU D - 1 + 1 = dU D by omega] at this
      exact this.symm
    rw [w, Int32.add_sub_cancel]
  have r10 : fI S10 m = va_up (fI S1 m) 24 x9 := row_I q10
  have rj : fJ S10 = fJ S1 := by rw [q10]; rfl
  have d10 : DSm m S1 S10 := dm_I q10
  have ms10 := ms_mv ms d10
  intro X hX
  refine h (fun a0 v1 T => (a0 = m ∧ ∃ n g, n ≤ 7 ∧ v1 = nI n ∧ T = wJ S10 g ∧ cpJ S10 g d 0 p (7 * (dU D - 1)) n) → X a0 v1 T) ?_ ⟨rfl, 0, fJ S10, by decide, rfl, rfl, cp_0⟩
  rintro a0 v1 T h ⟨rfl, n, g, hn, rfl, rfl, cp⟩
  apply hX
  have e7 : (7 : Int32).toInt = 7 := by decide
  have nk : (nI n).toInt = (n : Int) := nI_i (by omega)
  have ck : (nI n).toNatClampNeg = n := nI_cl (by omega)
  refine ⟨fun cc => ?_, fun cc => ?_⟩
  · have n7 : n = 7 := by have := le_i cc; omega
    rw [n7] at cp
    obtain ⟨o1, h⟩ := h.1 cc
    refine ⟨o1, ?_⟩
    refine cm_X11_granted (sm_granted (md' := True) h) h (fun x U hp h g b => ?_)
    have h := h g b
    refine ⟨h.1, h.2, Or.inl ⟨hu, hp.2.1⟩, ?_⟩
    unfold nxundo
    rw [if_pos hu]
    refine md_12 ?_ hp.2.2
    obtain ⟨w1, w2, w3, w4, w5, w6, w7, w8, w9⟩ := mv
    have mvt : ∀ {b o w}, MVd S1 b o w → MVd S10 b o w := fun h => mvd_mv h (by rw [rj])
    refine ⟨dm_o d10 om1, d, p, k, ms_mv ms10 (dm_wJ _), ?_, ?_, ?_, ?_, by show dU D - 1 ≤ 16; omega, w6, mv_cp cp (mvt (w8 (dU D - 1) (by omega))), fun i hi => mv_nx cp.1 (mvt (w8 i (by have hi : i < dU D - 1 := hi; omega))) ms.2.2.2.2.2.2.1, fun i hi => mv_nx cp.1 (mvt (w9 i hi)) ms.2.2.2.2.2.2.2.1⟩
    · show fI S10 a0 19 = _; rw [r10]; exact w1
    · show fI S10 a0 20 = _; rw [r10]; exact w2
    · show fI S10 a0 24 = _; rw [r10, va_up_self, e9]; rfl
    · show fI S10 a0 25 = _; rw [r10]; exact w4
  · have lt := nle_i cc
    obtain ⟨o1, a5, e5, a6, e6, h⟩ := h.2 cc
    cases ms10.1.symm.trans e5
    cases ms10.2.1.symm.trans e6
    refine ⟨o1, _, e5, _, e6, fun x7 w7 => ?_⟩
    obtain ⟨o7, h⟩ := h x7 w7
    have w7 : x7 = nI (dU D - 1) := by
      rw [w7]
      show fI S10 a0 24 = _
      rw [r10, va_up_self, e9]
    refine ⟨o7, fun y9 w9 => ?_⟩
    obtain ⟨i9, h⟩ := h y9 w9
    refine ⟨i9, fun x10 w10 => ?_⟩
    obtain ⟨o10, i10, h⟩ := h x10 w10
    refine ⟨o10, i10, fun S12 w12 x13 w13 => h S12 w12 x13 w13 ⟨rfl, n + 1, u2 g d (0 + n) x10, by omega, by rw [w13]; exact nI_add n 1, by rw [w12, ck, Nat.zero_add]; rfl, cp_s cp ms.2.2.2.2.2.2.1 ?_⟩⟩
    rw [w10, w9, w7, sv7, nI_cl (by omega)]
    rfl
theorem tl_X11_back (hm : HM m A G S) (md : MDd m D S) (db : DBd A D) (h : P_X11_back m v Q S) : P_X11_back m v (fun x T => Q x T ∧ ans (¬ v < 0 ∧ v < nI (dK D)) x ∧ MDd m (bkF D v) T) S := by
  have om := md.1
  delta P_X11_back P_X11_back_0
  obtain ⟨o1, h⟩ := h
  refine ⟨o1, fun S1 s1 => ?_⟩
  have h := h S1 s1
  have md1 := md_I md s1 (by decide) (by decide) (by decide) (by decide)
  have d1 : DSm m S S1 := dm_I s1
  have hm1 := hm_ds om d1 hm
  have no : ¬ (¬ v < 0 ∧ v < nI (dK D)) → P_X11_back_24 Q m S1 → P_X11_back_24 (fun x T => Q x T ∧ ans (¬ v < 0 ∧ v < nI (dK D)) x ∧ MDd m (bkF D v) T) m S1 := by
    intro hn h
    delta P_X11_back_24
    obtain ⟨o1, h⟩ := h
    refine ⟨o1, ?_⟩
    refine cm_X11_denied (sm_denied h) h (fun x U hp h g b => ?_)
    have h := h g b
    unfold bkF
    rw [dc_n hn]
    exact ⟨h.1, h.2, Or.inr ⟨hn, hp.2.1⟩, md_12 md1 hp.2.2⟩
  refine cm_X11_isDay (sm_X11_isDay hm1 md1 db h) h (fun x4 S2 hp h g b => ?_)
  have h := h g b
  obtain ⟨-, hS, hx⟩ := hp
  subst hS
  refine ⟨fun cc => no (fun z => ?_) (h.1 cc), fun cc => ?_⟩
  · rcases db with q | q
    · rw [q.2.2] at z
      exact zero_n rfl z
    · exact an0 hx cc q.1
  have h := h.2 cc
  refine ⟨fun c1 => no (fun z => z.1 c1) (h.1 c1), fun c1 => ?_⟩
  have h := h.2 c1
  obtain ⟨om1, d, p, k, ms, mv⟩ := md1
  intro x7 q7
  have h := h x7 q7
  have q7 := q7.trans mv.2.2.2.1
  have k3 := mv.2.2.2.2.2.1
  rw [q7] at h ⊢
  refine Iff.mp and_comm ⟨fun c2 => no (fun z => c2 z.2) (h.2 c2), fun c2 => ?_⟩
  have ok : ¬ v < 0 ∧ v < nI (dK D) := ⟨c1, c2⟩
  have hv := ix_lt (by omega) ok
  have ev : v = nI v.toNatClampNeg := by
    have e0 : (0 : Int32).toInt = 0 := by decide
    have := nlt_i c1
    apply Int32.toInt_inj.mp
    rw [nI_i (by omega), Int32.toNatClampNeg]
    omega
  have h := h.1 c2
  intro X hX
  refine h (fun a0 a1 v1 T => (a0 = m ∧ a1 = v ∧ ∃ n g, n ≤ 7 ∧ v1 = nI n ∧ T = wJ S1 g ∧ cpJ S1 g d 0 k (7 * v.toNatClampNeg) n) → X a0 a1 v1 T) ?_ ⟨rfl, rfl, 0, fJ S1, by decide, rfl, rfl, cp_0⟩
  rintro a0 a1 v1 T h ⟨rfl, rfl, n, g, hn, rfl, rfl, cp⟩
  apply hX
  have e7 : (7 : Int32).toInt = 7 := by decide
  have nk : (nI n).toInt = (n : Int) := nI_i (by omega)
  have ck : (nI n).toNatClampNeg = n := nI_cl (by omega)
  refine ⟨fun cc => ?_, fun cc => ?_⟩
  · have n7 : n = 7 := by have := le_i cc; omega
    rw [n7] at cp
    obtain ⟨o1, h⟩ := h.1 cc
    refine ⟨o1, fun S2 w2 => ?_⟩
    have h := h S2 w2
    have r : fI S2 a0 = va_up (fI S1 a0) 24 0 := row_I (S := wJ S1 g) w2
    have rj : fJ S2 = g := by rw [w2]; rfl
    have d2 : DSm a0 S1 S2 := dm_tr (dm_wJ g) (dm_I w2)
    have mvt : ∀ {b o w}, MVd (wJ S1 g) b o w → MVd S2 b o w := fun h => mvd_mv h (by rw [rj]; rfl)
    refine cm_X11_granted (sm_granted (md' := True) h) h (fun x U hp h g b => ?_)
    have h := h g b
    refine ⟨h.1, h.2, Or.inl ⟨ok, hp.2.1⟩, ?_⟩
    unfold bkF
    rw [dc_y ok]
    refine md_12 ?_ hp.2.2
    obtain ⟨w1, w2, w3, w4, w5, w6, w7, w8, w9⟩ := mv
    exact ⟨dm_o d2 om1, d, p, k, ms_mv ms d2, by rw [r]; exact w1, by rw [r]; exact w2, by rw [r]; rfl, by rw [r]; exact w4, by show 0 ≤ 16; omega, w6, mvt (mv_cp cp (w9 _ hv)), fun i hi => absurd hi (Nat.not_lt_zero i), fun i hi => mvt (mv_nx cp.1 (w9 i hi) ms.2.2.2.2.2.2.2.1)⟩
  · have lt := nle_i cc
    obtain ⟨o1, a5, e5, a6, e6, o6, h⟩ := h.2 cc
    cases ms.1.symm.trans e5
    cases ms.2.2.1.symm.trans e6
    refine ⟨o1, _, e5, _, e6, o6, fun y9 w9 => ?_⟩
    obtain ⟨i9, h⟩ := h y9 w9
    refine ⟨i9, fun x10 w10 => ?_⟩
    obtain ⟨o10, i10, h⟩ := h x10 w10
    refine ⟨o10, i10, fun S12 w12 x13 w13 => h S12 w12 x13 w13 ⟨rfl, rfl, n + 1, u2 g d (0 + n) x10, by omega, by rw [w13]; exact nI_add n 1, by rw [w12, ck, Nat.zero_add]; rfl, cp_s cp ms.2.2.2.2.2.2.2.1 ?_⟩⟩
    have w9 : y9 = nI (7 * a1.toNatClampNeg + n) := by
      rw [w9]
      rw [← sv7, ← ev]
    rw [w10, w9, nI_cl (by omega)]
    rfl
theorem tl_X11_mark (hm : HM m A G S) (md : MDd m D S) (db : DBd A D) (h : P_X11_mark m Q S) : P_X11_mark m (fun x T => Q x T ∧ x = tellmark D ∧ MDd m (nxmark D) T) S := by
  have om := md.1
  delta P_X11_mark P_X11_mark_0
  obtain ⟨o1, h⟩ := h
  refine ⟨o1, fun S1 s1 => ?_⟩
  have h := h S1 s1
  have md1 := md_I md s1 (by decide) (by decide) (by decide) (by decide)
  have d1 : DSm m S S1 := dm_I s1
  have hm1 := hm_ds om d1 hm
  refine cm_X11_isDay (sm_X11_isDay hm1 md1 db h) h (fun x4 S2 hp h g b => ?_)
  have h := h g b
  obtain ⟨-, hS, hx⟩ := hp
  subst hS
  unfold tellmark nxmark
  refine Iff.mp and_comm ⟨fun cc => ?_, fun cc => ?_⟩
  · have h := h.2 cc
    have hn := an0 hx cc
    refine cm_X11_refused (sp_X11_refused h) h (fun x U hp h g => ⟨h g, ?_⟩)
    rw [dc_n hn, dc_n hn]
    exact ⟨hp.2.1, md_12 md1 hp.2.2.1⟩
  have on := an1 hx cc
  rw [dc_y on, dc_y on]
  have h := h.1 cc
  obtain ⟨om1, d, p, k, ms, mv⟩ := md1
  intro x6 q6
  have h := h x6 q6
  have q6 := q6.trans mv.2.2.2.1
  have k3 := mv.2.2.2.2.2.1
  have n6 : x6.toInt = (dK D : Int) := by rw [q6, nI_i (by omega)]
  have e3 : (3 : Int32).toInt = 3 := by decide
  refine Iff.mp and_comm ⟨fun c2 => ?_, fun c2 => ?_⟩
  · have h := h.2 c2
    rw [c2] at n6
    have hk : ¬ dK D < 3 := by omega
    refine cm_X11_refused (sp_X11_refused h) h (fun x U hp h g => ⟨h g, ?_⟩)
    rw [if_neg hk, if_neg hk]
    exact ⟨hp.2.1, md_12 ⟨om1, d, p, k, ms, mv⟩ hp.2.2.1⟩
  have hk : dK D < 3 := by
    have : ¬ dK D = 3 := fun z => c2 (by rw [q6, z]; rfl)
    omega
  rw [if_pos hk, if_pos hk]
  have h := h.1 c2
  intro X hX
  refine h (fun a0 v1 T => (a0 = m ∧ ∃ n g, n ≤ 7 ∧ v1 = nI n ∧ T = wJ S1 g ∧ cpJ S1 g k (7 * dK D) d 0 n) → X a0 v1 T) ?_ ⟨rfl, 0, fJ S1, by decide, rfl, rfl, cp_0⟩
  rintro a0 v1 T h ⟨rfl, n, g, hn, rfl, rfl, cp⟩
  apply hX
  have e7 : (7 : Int32).toInt = 7 := by decide
  have nk : (nI n).toInt = (n : Int) := nI_i (by omega)
  have ck : (nI n).toNatClampNeg = n := nI_cl (by omega)
  refine ⟨fun cc => ?_, fun cc => ?_⟩
  · have n7 : n = 7 := by have := le_i cc; omega
    rw [n7] at cp
    obtain ⟨o1, h⟩ := h.1 cc
    refine ⟨o1, fun x2 w2 x3 w3 S4 w4 x5 w5 => ?_⟩
    have h := h x2 w2 x3 w3 S4 w4 x5 w5
    have w2 : x2 = nI (dK D) := w2.trans mv.2.2.2.1
    have w3 : x3 = nI (dK D + 1) := by rw [w3, w2]; exact nI_add (dK D) 1
    have r : fI S4 a0 = va_up (fI S1 a0) 25 x3 := row_I (S := wJ S1 g) w4
    have rj : fJ S4 = g := by rw [w4]; rfl
    have d4 : DSm a0 S1 S4 := dm_tr (dm_wJ g) (dm_I w4)
    have mvt : ∀ {b o w}, MVd (wJ S1 g) b o w → MVd S4 b o w := fun h => mvd_mv h (by rw [rj]; rfl)
    have w5 : x5 - 1 = nI (dK D) := by
      rw [w5, r, va_up_self, w3]
      have w : nI (dK D + 1) = nI (dK D) + (1 : Int32) := (nI_add (dK D) 1).symm
      rw [w, Int32.add_sub_cancel]
    refine cm_X11_good (sp_X11_good h) h (fun x U hp h g => ⟨h g, hp.2.1.trans w5, md_12 ?_ hp.2.2.1⟩)
    obtain ⟨q1, q2, q3, q4, q5, q6, q7, q8, q9⟩ := mv
    refine ⟨dm_o d4 om1, d, p, k, ms_mv ms d4, by rw [r]; exact q1, by rw [r]; exact q2, by rw [r]; exact q3, by rw [r, va_up_self, w3]; rfl, q5, by show dK D + 1 ≤ 3; omega, mvt (mv_nx cp.1 q7 ms.2.2.2.2.2.2.2.1.symm), fun i hi => mvt (mv_nx cp.1 (q8 i hi) ms.2.2.2.2.2.2.2.2.symm), fun i hi => ?_⟩
    have hi : i < dK D + 1 := hi
    refine mvt ?_
    show MVd (wJ S1 _) k (7 * i) (if i = dK D then dN D else dM D i)
    by_cases z : i = dK D
    · rw [if_pos z, z]
      exact mv_cp cp q7
    · rw [if_neg z]
      exact mv_ot cp (q9 i (by omega)) (by omega)
  · have lt := nle_i cc
    obtain ⟨o1, a9, e9, h⟩ := h.2 cc
    cases ms.2.2.1.symm.trans e9
    refine ⟨o1, _, e9, fun x10 w10 => ?_⟩
    obtain ⟨a11, e11, o11, i11, h⟩ := h x10 w10
    cases ms.1.symm.trans e11
    have w10 : x10 = nI (dK D) := w10.trans mv.2.2.2.1
    refine ⟨_, e11, o11, i11, fun x13 w13 => ?_⟩
    obtain ⟨o13, i13, h⟩ := h x13 w13
    refine ⟨o13, i13, fun S15 w15 x16 w16 => h S15 w15 x16 w16 ⟨rfl, n + 1, u2 g k (7 * dK D + n) x13, by omega, by rw [w16]; exact nI_add n 1, by rw [w15, w10, sv7, nI_cl (by omega)]; rfl, cp_s cp ms.2.2.2.2.2.2.2.1.symm ?_⟩⟩
    rw [w13, ck, Nat.zero_add]
    rfl
end C52
end
section
/-! what the reference's got, wetness, soaked, day tell -/
section C53
variable {m d p k rd a b i j : Nat} {A : AS} {G : GC} {D : DY} {S T U : HS} {v v1 v2 v3 v4 x y t l : Int32} {Q : Int32 → HS → Prop} {QJ : Int64 → HS → Prop} {Q0 : HS → Prop}
theorem hm_rd (hm : HM m A G S) (db : DBd A D) (on : onD D) : ∃ rd, WRm m rd A G S := hm.elim (fun z => by
  have := (db_on db on).1
  rw [z.2] at this
  exact absurd this (zero_n (k := aW A00) rfl)) id
theorem sm_X11_isPlace (hm : HM m A G S) (h : P_X11_isPlace m v Q S) : P_X11_isPlace m v (fun x T => Q x T ∧ S = T ∧ ans ((∃ rd, WRm m rd A G S) ∧ ¬ v < 0 ∧ v < nI (aP A)) x) S := by
  delta P_X11_isPlace P_X11_isPlace_0
  obtain ⟨o1, h⟩ := h
  refine ⟨o1, fun n => ⟨h.1 n, rfl, Or.inr ⟨fun z => ?_, rfl⟩⟩, fun a1 e1 => ?_⟩
  · obtain ⟨⟨rd, hr⟩, -⟩ := z
    exact absurd (hr.1.symm.trans n) (by intro z; cases z)
  have h := h.2 a1 e1
  have hr : WRm m a1 A G S := hm.elim (fun z => absurd (z.1.symm.trans e1) (by intro z; cases z)) (fun ⟨rd, hr⟩ => by
    cases hr.1.symm.trans e1
    exact hr)
  refine ⟨fun c1 => ⟨h.1 c1, rfl, Or.inr ⟨fun z => z.2.1 c1, rfl⟩⟩, fun c1 => ?_⟩
  obtain ⟨a4, e4, o4, h⟩ := h.2 c1
  cases e1.symm.trans e4
  refine ⟨_, e4, o4, fun x5 q5 => ?_⟩
  have h := h x5 q5
  have q5 := q5.trans hr.2.2.1.2.2.1
  rw [q5] at h ⊢
  exact ⟨fun c2 => ⟨h.1 c2, rfl, Or.inr ⟨fun z => absurd z.2.2 (Int32.not_lt.mpr c2), rfl⟩⟩, fun c2 => ⟨h.2 c2, rfl, Or.inl ⟨⟨⟨_, hr⟩, c1, Int32.not_le.mp c2⟩, rfl⟩⟩⟩
theorem rm_n32 {a b : Int32} {n k : Nat} (ha : a.toInt = (n : Int)) (hb : b.toInt = (k : Int)) (h : 0 < k) : (a - a / b * b).toInt = ((n % k : Nat) : Int) := by
  have h1 : (a.toInt.tmod b.toInt).natAbs < b.toInt.natAbs := by
    rw [Int.natAbs_tmod]
    exact Nat.mod_lt _ (by omega)
  have l1 := b.le_toInt
  have l2 := b.toInt_lt
  have e : (a - a / b * b).toInt = a.toInt.tmod b.toInt := by
    rw [Int32.toInt_sub, Int32.toInt_mul, Int32.toInt_div, Int.bmod_mul_bmod, Int.sub_bmod_bmod, Int.mul_comm, ← Int.tmod_def]
    exact Int.bmod_eq_of_le (by omega) (by omega)
  rw [e, ha, hb]
  exact (Int.ofNat_tmod n k).symm
theorem dr_step {s : Int32} {n : Nat} (hs : s.toInt = (n : Int)) (hn : n ≤ 65536) : (rm7 ((75 : Int32) * s + (74 : Int32))).toInt = (((75 * n + 74) % 65537 : Nat) : Int) ∧ ((((75 : Int64) * s.toInt64) + (74 : Int64)) - (((75 : Int64) * s.toInt64) + (74 : Int64)) / (65537 : Int64) * (65537 : Int64)).toInt32 = rm7 ((75 : Int32) * s + (74 : Int32)) := by
  have e75 : (75 : Int32).toInt = 75 := by decide
  have e74 : (74 : Int32).toInt = 74 := by decide
  have f75 : (75 : Int64).toInt = 75 := by decide
  have f74 : (74 : Int64).toInt = 74 := by decide
  have ea : ((75 : Int32) * s + (74 : Int32)).toInt = ((75 * n + 74 : Nat) : Int) := by
    rw [Int32.toInt_add, Int32.toInt_mul, hs, e75, e74, Int.bmod_add_bmod, Int.bmod_eq_of_le (by omega) (by omega)]
    omega
  have eb : ((75 : Int64) * s.toInt64 + (74 : Int64)).toInt = ((75 * n + 74 : Nat) : Int) := by
    rw [Int64.toInt_add, Int64.toInt_mul, Int32.toInt_toInt64, hs, f75, f74, Int.bmod_add_bmod, Int.bmod_eq_of_le (by omega) (by omega)]
    omega
  have r1 : (rm7 ((75 : Int32) * s + (74 : Int32))).toInt = (((75 * n + 74) % 65537 : Nat) : Int) := rm_n32 ea (by decide) (by decide)
  have r2 := rem_n (a := (75 : Int64) * s.toInt64 + (74 : Int64)) (b := 65537) (k := 65537) eb (by decide) (by decide)
  have lt : (75 * n + 74) % 65537 < 65537 := Nat.mod_lt _ (by decide)
  refine ⟨r1, Int32.toInt_inj.mp ?_⟩
  rw [Int64.toInt_toInt32, r2, r1, Int.bmod_eq_of_le (by omega) (by omega)]
theorem drS_b {s : Int32} (h0 : 0 ≤ s.toInt) (h1 : s.toInt ≤ 65536) : ∀ k, ∃ n : Nat, (drS k s).toInt = (n : Int) ∧ n ≤ 65536
  | 0 => ⟨s.toInt.toNat, by show s.toInt = _; omega, by omega⟩
  | k + 1 => by
    obtain ⟨n, e, hn⟩ := drS_b h0 h1 k
    have lt : (75 * n + 74) % 65537 < 65537 := Nat.mod_lt _ (by decide)
    exact ⟨_, (dr_step e hn).1, by omega⟩
theorem md_who {w : Int32} (md : MDd m D S) (e : T = sI S m 19 w) (hw : ¬ w = -1) : MDd m (w, D.2) T := by
  obtain ⟨om, d, p, k, ms, q1, q2, q3, q4, q5, q6, q7, q8, q9⟩ := md
  have r : fI T m = va_up (fI S m) 19 w := row_I e
  have rj : fJ T = fJ S := by rw [e]; rfl
  refine ⟨dm_o (dm_I (m := m) e) om, d, p, k, ms_mv ms (dm_I e), ?_, by rw [r]; exact q2, by rw [r]; exact q3, by rw [r]; exact q4, q5, q6, mvd_mv q7 (by rw [rj]), fun i hi => mvd_mv (q8 i hi) (by rw [rj]), fun i hi => mvd_mv (q9 i hi) (by rw [rj])⟩
  rw [r, va_up_self]
  show w = mwO w
  unfold mwO
  rw [if_neg hw]
theorem md_rn {w : Int32} (md : MDd m D S) (e : T = sI S m 20 w) : MDd m (rnD D w) T := by
  obtain ⟨om, d, p, k, ms, q1, q2, q3, q4, q5, q6, q7, q8, q9⟩ := md
  have r : fI T m = va_up (fI S m) 20 w := row_I e
  have rj : fJ T = fJ S := by rw [e]; rfl
  exact ⟨dm_o (dm_I (m := m) e) om, d, p, k, ms_mv ms (dm_I e), by rw [r]; exact q1, by rw [r]; rfl, by rw [r]; exact q3, by rw [r]; exact q4, q5, q6, mvd_mv q7 (by rw [rj]), fun i hi => mvd_mv (q8 i hi) (by rw [rj]), fun i hi => mvd_mv (q9 i hi) (by rw [rj])⟩
theorem lp147 {p0 t0 : Int32} (md : MDd m D S) (h : P_X11_day_147 Q m p0 t0 0 S) : P_X11_day_147 (fun x T => Q x T ∧ x = dR D ∧ MDd m (bgD D (dW D) p0 t0) T) m p0 t0 0 S := by
  obtain ⟨om, d, p, k, ms, mv⟩ := md
  intro X hX
  refine h (fun a0 a2 a3 v6 T => (a0 = m ∧ a2 = p0 ∧ a3 = t0 ∧ ∃ n g, n ≤ 7 ∧ v6 = nI n ∧ T = wJ S g ∧ (∀ x, x ≠ d → g x = fJ S x) ∧ ∀ j, j < n → g d j = 0) → X a0 a2 a3 v6 T) ?_ ⟨rfl, rfl, rfl, 0, fJ S, by decide, rfl, rfl, fun _ _ => rfl, fun j hj => absurd hj (Nat.not_lt_zero j)⟩
  rintro a0 a2 a3 v6 T h ⟨rfl, rfl, rfl, n, g, hn, rfl, rfl, g1, g2⟩
  apply hX
  have e7 : (7 : Int32).toInt = 7 := by decide
  have nk : (nI n).toInt = (n : Int) := nI_i (by omega)
  have ck : (nI n).toNatClampNeg = n := nI_cl (by omega)
  refine ⟨fun cc => ?_, fun cc => ?_⟩
  · have n7 : n = 7 := by have := le_i cc; omega
    rw [n7] at g2
    obtain ⟨o1, a2', e2, o2, h⟩ := h.1 cc
    cases ms.1.symm.trans e2
    refine ⟨o1, _, e2, o2, fun x4 q4 => ?_⟩
    obtain ⟨i4, h⟩ := h x4 q4
    refine ⟨i4, fun S5 q5 => ?_⟩
    obtain ⟨a6, e6, o6, h⟩ := h S5 q5
    have r5 : fR S5 = fR S := by rw [q5]; rfl
    cases ms.1.symm.trans (by rw [← r5]; exact e6 : fR S a0 21 = some a6)
    refine ⟨_, e6, o6, fun x8 q8 => ?_⟩
    obtain ⟨i8, h⟩ := h x8 q8
    refine ⟨i8, fun S9 q9 S10 q10 S11 q11 x12 q12 => ?_⟩
    have h := h S9 q9 S10 q10 S11 q11 x12 q12
    have c0 : (0 : Int32).toNatClampNeg = 0 := by decide
    have c1 : (1 : Int32).toNatClampNeg = 1 := by decide
    rw [c0] at q5
    rw [c1] at q9
    have e9 : S9 = wJ S (u2 (u2 g d 0 x4) d 1 x8) := by rw [q9, q5]; rfl
    have d9 : DSm a0 S S9 := by rw [e9]; exact dm_wJ _
    have d11 : DSm a0 S S11 := dm_tr d9 (dm_tr (dm_I q10) (dm_I q11))
    have r10 : fI S10 a0 = va_up (fI S9 a0) 24 0 := row_I q10
    have r11 : fI S11 a0 = va_up (fI S10 a0) 25 0 := row_I q11
    have i9 : fI S9 = fI S := by rw [e9]; rfl
    rw [r10, i9] at r11
    have rj : fJ S11 = u2 (u2 g d 0 x4) d 1 x8 := by rw [q11, q10, e9]; rfl
    obtain ⟨w1, w2, w3, w4, w5, w6, w7, w8, w9⟩ := mv
    refine cm_X11_good (sp_X11_good h) h (fun x U hp h g => ⟨h g, ?_, md_12 ?_ hp.2.2.1⟩)
    · rw [hp.2.1, q12, r11]
      exact w2
    · refine ⟨dm_o d11 om, d, p, k, ms_mv ms d11, by rw [r11]; exact w1, by rw [r11]; exact w2, by rw [r11]; rfl, by rw [r11]; rfl, by show 0 ≤ 16; omega, by show 0 ≤ 3; omega, ⟨?_, ?_, fun f hf => ?_⟩, fun i hi => absurd hi (Nat.not_lt_zero i), fun i hi => absurd hi (Nat.not_lt_zero i)⟩
      · rw [rj, u2_ne _ _ (by omega), u2_self, q4]
        rfl
      · rw [rj, u2_self, q8]
        rfl
      · rw [rj, u2_ne _ _ (by omega), u2_ne _ _ (by omega)]
        exact g2 _ (by omega)
  · have lt := nle_i cc
    obtain ⟨o1, a16, e16, o16, i16, h⟩ := h.2 cc
    cases ms.1.symm.trans e16
    refine ⟨o1, _, e16, o16, i16, fun S18 w18 x19 w19 => h S18 w18 x19 w19 ⟨rfl, rfl, rfl, n + 1, u2 g d n 0, by omega, by rw [w19]; exact nI_add n 1, by rw [w18, ck]; rfl, fun x hx => (u2_row _ _ hx).trans (g1 x hx), fun j hj => ?_⟩⟩
    by_cases z : j = n
    · rw [z, u2_self]
    · rw [u2_ne _ _ (by omega)]
      exact g2 j (by omega)
theorem tl_X11_day (hm : HM m A G S) (ab : ABd A) (md : MDd m D S) (db : DBd A D) (h : P_X11_day m v1 v2 v3 v4 Q S) : P_X11_day m v1 v2 v3 v4 (fun x T => Q x T ∧ x = tellday A G v1 v2 v3 v4 ∧ MDd m (nxday A G D v1 v2 v3 v4) T) S := by
  have om := md.1
  have hh := ab.2.1
  delta P_X11_day P_X11_day_0
  obtain ⟨o1, h⟩ := h
  refine ⟨o1, fun S1 s1 => ?_⟩
  have h := h S1 s1
  have md1 := md_I md s1 (by decide) (by decide) (by decide) (by decide)
  have d1 : DSm m S S1 := dm_I s1
  have hm1 := hm_ds om d1 hm
  have no1 : ¬ dayOK A v1 v2 v3 v4 → P_X11_day_21 Q m S1 → P_X11_day_21 (fun x T => Q x T ∧ x = tellday A G v1 v2 v3 v4 ∧ MDd m (nxday A G D v1 v2 v3 v4) T) m S1 := by
    intro hn h
    delta P_X11_day_21
    obtain ⟨o1, h⟩ := h
    refine ⟨o1, ?_⟩
    refine cm_X11_refused (sp_X11_refused h) h (fun x U hp h g => ⟨h g, ?_⟩)
    unfold tellday nxday
    rw [dc_n hn, dc_n hn]
    exact ⟨hp.2.1, md_12 md1 hp.2.2.1⟩
  have no2 : ¬ dayOK A v1 v2 v3 v4 → P_X11_day_50 Q m S1 → P_X11_day_50 (fun x T => Q x T ∧ x = tellday A G v1 v2 v3 v4 ∧ MDd m (nxday A G D v1 v2 v3 v4) T) m S1 := by
    intro hn h
    delta P_X11_day_50
    obtain ⟨o1, h⟩ := h
    refine ⟨o1, ?_⟩
    refine cm_X11_refused (sp_X11_refused h) h (fun x U hp h g => ⟨h g, ?_⟩)
    unfold tellday nxday
    rw [dc_n hn, dc_n hn]
    exact ⟨hp.2.1, md_12 md1 hp.2.2.1⟩
  refine cm_X11_isWalker (sp_X11_isWalker hm1 h) h (fun x4 S2 hp h g b => ?_)
  have h := h g b
  obtain ⟨-, hS, hx⟩ := hp
  subst hS
  refine ⟨fun cc => no1 (fun z => ?_) (h.1 cc), fun cc => ?_⟩
  · rcases hm1 with ⟨n, hA⟩ | hr
    · rw [hA] at z
      exact zero_n (k := aW A00) rfl z.1.1
    · exact an0 hx cc ⟨hr, z.1.1⟩
  have k1 := (an1 hx cc).2
  obtain ⟨rd, hr⟩ := (an1 hx cc).1
  have h := h.2 cc
  refine cm_X11_isPlace (sm_X11_isPlace hm1 h) h (fun x8 S6 hp h g b => ?_)
  have h := h g b
  obtain ⟨-, hS, hx8⟩ := hp
  subst hS
  refine Iff.mp and_comm ⟨fun cc => no1 (fun z => an0 hx8 cc ⟨⟨rd, hr⟩, z.1.2⟩) (h.2 cc), fun cc => ?_⟩
  have k2 := (an1 hx8 cc).2
  have h := h.1 cc
  refine cm_X11_in (sp_X11_in h) h (fun x12 S10 hp h g b => ?_)
  have h := h g b
  obtain ⟨-, hS, hx12⟩ := hp
  subst hS
  refine ⟨fun cc => no2 (fun z => an0 hx12 cc z.2.1) (h.1 cc), fun cc => ?_⟩
  have k3 := an1 hx12 cc
  have h := h.2 cc
  refine cm_X11_in (sp_X11_in h) h (fun x16 S14 hp h g b => ?_)
  have h := h g b
  obtain ⟨-, hS, hx16⟩ := hp
  subst hS
  refine Iff.mp and_comm ⟨fun cc => no2 (fun z => an0 hx16 cc z.2.2) (h.2 cc), fun cc => ?_⟩
  have k4 := an1 hx16 cc
  have ok : dayOK A v1 v2 v3 v4 := ⟨⟨k1, k2⟩, k3, k4⟩
  have h := h.1 cc
  intro S18 q18 S19 q19
  have h := h S18 q18 S19 q19
  have nw : ¬ v1 = -1 := fun z => k1.1 (by rw [z]; decide)
  have md18 := md_who md1 q18 nw
  have md19 := md_rn md18 q19
  have d19 : DSm m S1 S19 := dm_tr (dm_I q18) (dm_I q19)
  have e0 : (0 : Int32).toInt = 0 := by decide
  have e5 : (65536 : Int32).toInt = 65536 := by decide
  have s0 := nlt_i (fun z => k4 (Or.inl z))
  have s1' := nlt_i (fun z => k4 (Or.inr z))
  have sb := drS_b (s := v4) (by omega) (by omega)
  unfold tellday nxday
  rw [dc_y ok, dc_y ok]
  intro X hX
  refine h (fun a0 a2 a3 v5 v6 T => (a0 = m ∧ a2 = v2 ∧ a3 = v3 ∧ ∃ n, n ≤ aHs A ∧ v6 = nI n ∧ v5 = drS n v4 ∧ MDd m (rnD (v1, D.2) (drB G n v4)) T ∧ DSm m S1 T) → X a0 a2 a3 v5 v6 T) ?_ ⟨rfl, rfl, rfl, 0, Nat.zero_le _, rfl, rfl, md19, d19⟩
  rintro a0 a2 a3 v5 v6 T h ⟨rfl, rfl, rfl, n, hn, rfl, rfl, mdT, dT⟩
  apply hX
  have hrT := wrm_ds md1.1 dT hr
  obtain ⟨o1, a1, e1, o2, h⟩ := h
  cases hrT.1.symm.trans e1
  refine ⟨o1, _, e1, o2, fun x2 q2 => ?_⟩
  have h := h x2 q2
  have q2 := q2.trans hrT.2.2.1.2.1
  have n2 : x2.toInt = (aHs A : Int) := by rw [q2, nI_i (by omega)]
  have nk : (nI n).toInt = (n : Int) := nI_i (by omega)
  have ck : (nI n).toNatClampNeg = n := nI_cl (by omega)
  refine ⟨fun cc => ?_, fun cc => ?_⟩
  · have kk : n = aHs A := by have := le_i cc; omega
    rw [kk] at mdT
    have h := h.1 cc
    exact cm_X11_day_147 (lp147 mdT h) h (fun x T hp hq => ⟨hq, hp.2.1, hp.2.2⟩)
  have lt := nle_i cc
  have h := h.2 cc
  obtain ⟨sn, es, hs⟩ := sb n
  have ds := dr_step es hs
  intro x4 q4 x5 q5 x6 q6 x7 q7
  obtain ⟨a8, e8, o8, a9, e9, o9, i9, h⟩ := h x4 q4 x5 q5 x6 q6 x7 q7
  cases hrT.1.symm.trans e8
  refine ⟨_, e8, o8, _, e9, o9, i9, fun x11 q11 => ?_⟩
  have h := h x11 q11
  rw [ck] at q11
  have q11 : x11 = gRn G n 4 := q11.trans (hrT.2.2.2.1 11 a9 (by decide) (by decide) e9 n (by show n < aHs A; omega))
  have q5 : x5 = drS (n + 1) v4 := by rw [q5, q4]; exact ds.2
  have q7 : x7 = rm1 (drS (n + 1) v4) := by rw [q7, q5]; rfl
  have q6 : x6 = drB G n v4 := by
    obtain ⟨_, _, _, _, _, mv⟩ := mdT
    exact q6.trans mv.2.1
  rw [q11, q7, q6, q5] at h
  rw [q11, q7, q6, q5]
  have en : ∀ {z : Int32}, drB G n v4 ||| z = drB G (n + 1) v4 → P_X11_day_134 Q (fun a0_1 a2_1 a3_1 v5 v6 T => (a0_1 = a0 ∧ a2_1 = a2 ∧ a3_1 = a3 ∧ ∃ n, n ≤ aHs A ∧ v6 = nI n ∧ v5 = drS n v4 ∧ MDd a0 (rnD (v1, D.2) (drB G n v4)) T ∧ DSm a0 S1 T) → X a0_1 a2_1 a3_1 v5 v6 T) a0 a2 a3 (drS (n + 1) v4) (nI n) a0 (drB G n v4) z T → P_X11_day_134 (fun x T => Q x T ∧ x = drB G (aHs A) v4 ∧ MDd a0 (rnD (bgD D v1 a2 a3) (drB G (aHs A) v4)) T) X a0 a2 a3 (drS (n + 1) v4) (nI n) a0 (drB G n v4) z T := by
    intro z hz h
    delta P_X11_day_134
    obtain ⟨o1, h⟩ := h
    refine ⟨o1, fun x1 q1 S2 q2 x3 q3 => h x1 q1 S2 q2 x3 q3 ⟨rfl, rfl, rfl, n + 1, by omega, by rw [q3]; exact nI_add n 1, rfl, ?_, dm_tr dT (dm_I q2)⟩⟩
    have := md_rn mdT q2
    rw [q1, hz] at this
    exact this
  refine ⟨fun c2 => en ?_ (h.1 c2), fun c2 => en ?_ (h.2 c2)⟩
  · rw [Int32.or_zero]
    show _ = if gRn G n 4 ≤ rm1 (drS (n + 1) v4) then drB G n v4 else _
    rw [if_pos c2]
  · show _ = if gRn G n 4 ≤ rm1 (drS (n + 1) v4) then _ else drB G n v4 ||| ((1 : Int32) <<< (nI n &&& 31))
    rw [if_neg c2]
end C53
/-! what the reference's go and stay tell, and leave -/
section C54
variable {m d p k rd a b i j : Nat} {A : AS} {G : GC} {D : DY} {S T U : HS} {v v1 v2 v3 v4 x y t l : Int32} {Q : Int32 → HS → Prop} {QJ : Int64 → HS → Prop} {Q0 : HS → Prop}
theorem md_wh (md : MDd m D S) (on : onD D) : fI S m 19 = dW D := by
  obtain ⟨_, d, p, k, ms, mv⟩ := md
  have q := mv.1
  unfold mwO at q
  rw [if_neg on] at q
  exact q
theorem md_g {p t : Int32} {f f' : Nat → Int64} (h : ∀ k, k < 5 → f k = f' k) (md : MDd m (nwD D (p, t, f)) S) : MDd m (nwD D (p, t, f')) S := by
  obtain ⟨om, d, pp, k, ms, q1, q2, q3, q4, q5, q6, q7, q8, q9⟩ := md
  exact ⟨om, d, pp, k, ms, q1, q2, q3, q4, q5, q6, ⟨q7.1, q7.2.1, fun k hk => (q7.2.2 k hk).trans (h k hk)⟩, q8, q9⟩
/-- the day's row itself is written -/
theorem md_row {g : Nat → Nat → Int64} {w : MO} (md : MDd m D S) (ed : fR S m 21 = some d) (g1 : ∀ x, x ≠ d → g x = fJ S x) (hw : MVd (wJ S g) d 0 w) : MDd m (nwD D w) (wJ S g) := by
  obtain ⟨om, d', p, k, ms, mv⟩ := md
  cases ms.1.symm.trans ed
  exact md_nw (u' := 0) (k' := 0) om ms mv g1 hw
theorem md_now (md : MDd m D S) (ed : fR S m 21 = some d) : ob S d 14 ∧ MVd S d 0 (dN D) := by
  obtain ⟨om, d', p, k, ms, mv⟩ := md
  cases ms.1.symm.trans ed
  exact ⟨ms.2.2.2.1, mv.2.2.2.2.2.2.1⟩
theorem md_d (md : MDd m D S) : ∃ d, fR S m 21 = some d := by
  obtain ⟨om, d, p, k, ms, mv⟩ := md
  exact ⟨d, ms.1⟩
theorem go171 (he : HE S) (hr : WRm m rd A G S) (ir : v1.toNatClampNeg < aR A) (md : MDd m D S) (h : P_X11_go_171 Q m v1 v2 v3 v4 S) : P_X11_go_171 (fun x T => Q x T ∧ x = v4 + goM G v1 v3 ∧ MDd m (nwD D (goT G v1 v2, v4 + goM G v1 v3, (dN D).2.2)) T) m v1 v2 v3 v4 S := by
  have om := md.1
  obtain ⟨d, ed⟩ := md_d md
  obtain ⟨od, nv⟩ := md_now md ed
  delta P_X11_go_171
  obtain ⟨o1, a1, e1, a2, e2, o2, h⟩ := h
  cases ed.symm.trans e1
  cases hr.1.symm.trans e2
  refine ⟨o1, _, e1, _, e2, o2, ?_⟩
  refine cm_X10_ends (sm_X10_ends hr ir h) h (fun x5 S3 hp h g => ?_)
  have h := h g
  obtain ⟨-, hS, h5⟩ := hp
  subst hS
  obtain ⟨o3, h⟩ := h
  refine ⟨o3, fun x7 q7 => ?_⟩
  obtain ⟨i7, h⟩ := h x7 q7
  refine ⟨i7, fun S8 q8 => ?_⟩
  obtain ⟨a9, e9, a10, e10, o10, h⟩ := h S8 q8
  have c0 : (0 : Int32).toNatClampNeg = 0 := by decide
  have c1 : (1 : Int32).toNatClampNeg = 1 := by decide
  rw [c0] at q8
  have d8 : DSm m S S8 := dm_J q8
  have hr8 := wrm_ds om d8 hr
  have ed8 : fR S8 m 21 = some d := by rw [d8.2.2.2.1]; exact ed
  cases ed8.symm.trans e9
  cases hr8.1.symm.trans e10
  refine ⟨_, e9, _, e10, o10, ?_⟩
  obtain ⟨b16, e16⟩ := he_ds d8 he rd 16 hr8.2.1 (by decide) (by decide)
  refine cm_X10_minutes (sp_X10_minutes e16 h) h (fun x13 S11 hp h g => ?_)
  have h := h g
  obtain ⟨-, hS, h13⟩ := hp
  subst hS
  have h13 : x13 = goM G v1 v3 := by
    rw [h13, hr8.2.2.2.1 16 b16 (by decide) (by decide) e16 v1.toNatClampNeg ir]
    rfl
  obtain ⟨o11, h⟩ := h
  refine ⟨o11, fun x15 q15 => ?_⟩
  obtain ⟨i15, h⟩ := h x15 q15
  refine ⟨i15, fun S16 q16 => ?_⟩
  obtain ⟨a17, e17, o17, i17, h⟩ := h S16 q16
  rw [c1] at q16
  have e16' : S16 = wJ S (u2 (u2 (fJ S) d 0 x7) d 1 x15) := by rw [q16, q8]; rfl
  have ed16 : fR S16 m 21 = some d := by rw [e16']; exact ed
  cases ed16.symm.trans e17
  refine ⟨_, e17, o17, i17, fun x19 q19 => ?_⟩
  have h := h x19 q19
  have q19 : x19.toInt32 = v4 + goM G v1 v3 := by
    rw [q19, c1, e16']
    show (u2 (u2 (fJ S) d 0 x7) d 1 x15 d 1).toInt32 = _
    rw [u2_self, q15, Int32.toInt32_toInt64, h13]
  refine cm_X11_good (sp_X11_good h) h (fun x U hp h g => ⟨h g, hp.2.1.trans q19, md_12 ?_ hp.2.2.1⟩)
  rw [e16']
  refine md_row md ed (fun x hx => (u2_row _ _ hx).trans (u2_row _ _ hx)) ⟨?_, ?_, fun f hf => ?_⟩
  · show u2 (u2 (fJ S) d 0 x7) d 1 x15 d 0 = _
    rw [u2_ne _ _ (by omega), u2_self, q7, h5]
  · show u2 (u2 (fJ S) d 0 x7) d 1 x15 d 1 = _
    rw [u2_self, q15, h13]
  · show u2 (u2 (fJ S) d 0 x7) d 1 x15 d (0 + 2 + f) = _
    rw [u2_ne _ _ (by omega), u2_ne _ _ (by omega)]
    exact nv.2.2 f hf
theorem lp119 (he : HE S) (hr : WRm m rd A G S) (ab : ABd A) (db : DBd A D) (on : onD D) (ir : v1.toNatClampNeg < aR A) (md : MDd m (kpF D) S) (hv4 : v4 = (dN D).2.1) (h : P_X11_go_119 Q m v1 v2 v3 v4 0 S) : P_X11_go_119 (fun x T => Q x T ∧ x = v4 + goM G v1 v3 ∧ MDd m (nwD (kpF D) (goT G v1 v2, v4 + goM G v1 v3, goG A G D v1 v2 v3)) T) m v1 v2 v3 v4 0 S := by
  have om := md.1
  obtain ⟨kN, kW, kR, -, -⟩ := kpF_N D
  have dbo := db_on db on
  have iw := ix_lt (by have := ab.2.2.2.2.1; omega) dbo.1
  obtain ⟨d, ed⟩ := md_d md
  obtain ⟨od, nv⟩ := md_now md ed
  rw [kN] at nv
  have on' : onD (kpF D) := by unfold onD; rw [kW]; exact on
  have wh := md_wh md on'
  rw [kW] at wh
  have t0 : 0 ≤ v4.toInt := by rw [hv4]; exact dbo.2.2.1.2.2.1
  have rn' : rnO A (kpF D) v4 = rnO A D (dN D).2.1 := by unfold rnO; rw [kR, hv4]
  intro X hX
  refine h (fun a0 a1 a2 a3 a4 v5 T => (a0 = m ∧ a1 = v1 ∧ a2 = v2 ∧ a3 = v3 ∧ a4 = v4 ∧ ∃ n g, n ≤ 5 ∧ v5 = nI n ∧ T = wJ S g ∧ (0 < n → rnO A D (dN D).2.1) ∧ (∀ x, x ≠ d → g x = fJ S x) ∧ (∀ z, z < 2 ∨ 2 + n ≤ z → g d z = fJ S d z) ∧ ∀ j, j < n → g d (2 + j) = (dN D).2.2 j + ptM (gRn G (hrO A (dN D).2.1).toNatClampNeg) (gRd G v1.toNatClampNeg) (gWk G (dW D).toNatClampNeg) v2 v3 j) → X a0 a1 a2 a3 a4 v5 T) ?_ ⟨rfl, rfl, rfl, rfl, rfl, 0, fJ S, by decide, rfl, rfl, fun z => absurd z (by decide), fun _ _ => rfl, fun _ _ => rfl, fun j hj => absurd hj (Nat.not_lt_zero j)⟩
  rintro a0 a1 a2 a3 a4 v5 T h ⟨rfl, rfl, rfl, rfl, rfl, n, g, hn, rfl, rfl, hrn, g1, g2, g3⟩
  apply hX
  have e5 : (5 : Int32).toInt = 5 := by decide
  have nk : (nI n).toInt = (n : Int) := nI_i (by omega)
  have ck : (nI n).toNatClampNeg = n := nI_cl (by omega)
  have dT : DSm a0 S (wJ S g) := dm_wJ g
  have hrT := wrm_ds om dT hr
  have fin : (∀ f, f < 5 → g d (2 + f) = goG A G D a1 a2 a3 f) → P_X11_go_171 Q a0 a1 a2 a3 a4 (wJ S g) → P_X11_go_171 (fun x T => Q x T ∧ x = a4 + goM G a1 a3 ∧ MDd a0 (nwD (kpF D) (goT G a1 a2, a4 + goM G a1 a3, goG A G D a1 a2 a3)) T) a0 a1 a2 a3 a4 (wJ S g) := by
    intro hf h
    have mdT : MDd a0 (nwD (kpF D) ((dN D).1, (dN D).2.1, goG A G D a1 a2 a3)) (wJ S g) := by
      refine md_row md ed g1 ⟨(g2 0 (by omega)).trans nv.1, (g2 1 (by omega)).trans nv.2.1, fun f h5 => ?_⟩
      show g d (0 + 2 + f) = _
      rw [show 0 + 2 + f = 2 + f by omega]
      exact hf f h5
    exact cm_X11_go_171 (go171 (he_ds dT he) hrT ir mdT h) h (fun x T hp hq => ⟨hq, hp.2.1, hp.2.2⟩)
  refine ⟨fun cc => fin (fun f hf => ?_) (h.1 cc), fun cc => ?_⟩
  · have n5 : n = 5 := by have := le_i cc; omega
    rw [g3 f (by omega)]
    unfold goG
    rw [dc_y (hrn (by omega))]
  have lt := nle_i cc
  obtain ⟨o1, h⟩ := h.2 cc
  refine ⟨o1, ?_⟩
  have mdT0 : MDd a0 (nwD (kpF D) ((dN D).1, (dN D).2.1, fun f => g d (2 + f))) (wJ S g) := by
    refine md_row md ed g1 ⟨(g2 0 (by omega)).trans nv.1, (g2 1 (by omega)).trans nv.2.1, fun f h5 => ?_⟩
    show g d (0 + 2 + f) = _
    rw [show 0 + 2 + f = 2 + f by omega]
  refine cm_X11_rainsIn (sm_X11_rainsIn ab hrT mdT0 t0 h) h (fun x4 S2 hp h g' b => ?_)
  have h := h g' b
  obtain ⟨-, hS, hx⟩ := hp
  subst hS
  have hx : ans (rnO A D (dN D).2.1) x4 := by rw [← rn']; exact hx
  refine ⟨fun c2 => fin (fun f hf => ?_) (h.1 c2), fun c2 => ?_⟩
  · have nr := an0 hx c2
    have n0 : n = 0 := by
      rcases Nat.eq_zero_or_pos n with z | z
      · exact z
      · exact absurd (hrn z) nr
    rw [g2 (2 + f) (by omega)]
    unfold goG
    rw [dc_n nr]
    have q := nv.2.2 f hf
    rw [show 0 + 2 + f = 2 + f by omega] at q
    exact q
  have rn := an1 hx c2
  obtain ⟨a6, e6, o6, h⟩ := h.2 c2
  cases ed.symm.trans e6
  refine ⟨_, e6, o6, fun x8 q8 => ?_⟩
  obtain ⟨i8, h⟩ := h x8 q8
  have q8 : x8 = nI (2 + n) := by rw [q8]; exact nI_add 2 n
  refine ⟨i8, fun x9 q9 x10 q10 => ?_⟩
  have h := h x9 q9 x10 q10
  have q10 : x10 = dW D := q10.trans wh
  have q9 : x9 = (dN D).2.2 n := by
    rw [q9, q8, nI_cl (by omega)]
    refine (g2 (2 + n) (by omega)).trans ?_
    have q := nv.2.2 n (by omega)
    rw [show 0 + 2 + n = 2 + n by omega] at q
    exact q
  refine cm_X11_hourOf (sm_X11_hourOf (dm_o dT om) hrT h) h (fun x13 S11 hp h g' => ?_)
  have h := h g'
  obtain ⟨-, hS, h13, -⟩ := hp
  subst hS
  rw [hv4] at h13
  have ih := ix_lt (by have := ab.2.1; omega) rn.1
  have heT : ∀ i, 7 ≤ i → i ≤ 27 → ∃ b, fR (wJ S g) rd i = some b := fun i => he_ds dT he rd i hrT.2.1
  refine cm_X11_partsOf (sp_X11_partsOf heT hrT.1 ⟨by omega, by omega⟩ h) h (fun x16 S14 hp h g' => ?_)
  have h := h g'
  obtain ⟨-, hS, h16⟩ := hp
  subst hS
  have mr := m_rows (v1 := dW D) (v2 := a1) (v4 := hrO A (dN D).2.1) heT hrT iw ir ih
  have h16 : x16 = ptM (gRn G (hrO A (dN D).2.1).toNatClampNeg) (gRd G a1.toNatClampNeg) (gWk G (dW D).toNatClampNeg) a2 a3 n := by
    rw [h16, h13, q10, ck, ptM_c mr.1 mr.2.1 mr.2.2]
  intro x18 q18
  obtain ⟨i18, h⟩ := h x18 q18
  refine ⟨i18, fun S19 q19 x20 q20 => h S19 q19 x20 q20 ⟨rfl, rfl, rfl, rfl, rfl, n + 1, u2 g d (2 + n) x18, by omega, by rw [q20]; exact nI_add n 1, ?_, fun _ => rn, fun x hx => (u2_row _ _ hx).trans (g1 x hx), fun z hz => ?_, fun j hj => ?_⟩⟩
  · rw [q19, show (2 : Int32) + nI n = nI (2 + n) from nI_add 2 n, nI_cl (by omega)]
    rfl
  · rw [u2_ne _ _ (by omega)]
    exact g2 z (by omega)
  · by_cases z : j = n
    · rw [z, u2_self, q18, q9, h16]
    · rw [u2_ne _ _ (by omega)]
      exact g3 j (by omega)
theorem i64_inj {a b : Int32} (h : a.toInt64 = b.toInt64) : a = b := by
  have := congrArg Int64.toInt32 h
  rw [Int32.toInt32_toInt64, Int32.toInt32_toInt64] at this
  exact this
theorem tl_X11_go (hI : IV S) (hm : HM m A G S) (ab : ABd A) (gb : GBd A G) (md : MDd m D S) (db : DBd A D) (h : P_X11_go m v1 v2 v3 Q S) : P_X11_go m v1 v2 v3 (fun x T => Q x T ∧ x = tellgo A G D v1 v2 v3 ∧ MDd m (nxgo A G D v1 v2 v3) T) S := by
  have om := md.1
  delta P_X11_go P_X11_go_0
  obtain ⟨o1, h⟩ := h
  refine ⟨o1, fun S1 s1 => ?_⟩
  have h := h S1 s1
  have md1 := md_I md s1 (by decide) (by decide) (by decide) (by decide)
  have d1 : DSm m S S1 := dm_I s1
  have hm1 := hm_ds om d1 hm
  have he := he_ds d1 (he_iv hI)
  have no0 : ∀ {k : Int32} {Q1 : Int32 → HS → Prop}, ¬ goC A G D v1 v2 v3 → P_X11_refused m k (fun x3 S2 => Gr S1 S2 → Q1 x3 S2) S1 → P_X11_refused m k (fun x3 S2 => Gr S1 S2 → (Q1 x3 S2 ∧ x3 = tellgo A G D v1 v2 v3 ∧ MDd m (nxgo A G D v1 v2 v3) S2)) S1 := by
    intro k Q1 hn h
    refine cm_X11_refused (sp_X11_refused h) h (fun x U hp h g => ⟨h g, ?_⟩)
    unfold tellgo nxgo
    rw [dc_n hn, dc_n hn]
    exact ⟨hp.2.1, md_12 md1 hp.2.2.1⟩
  have no : ¬ goC A G D v1 v2 v3 → P_X11_go_29 Q m S1 → P_X11_go_29 (fun x T => Q x T ∧ x = tellgo A G D v1 v2 v3 ∧ MDd m (nxgo A G D v1 v2 v3) T) m S1 := by
    intro hn h
    delta P_X11_go_29
    obtain ⟨o1, h⟩ := h
    exact ⟨o1, no0 hn h⟩
  refine cm_X11_isDay (sm_X11_isDay hm1 md1 db h) h (fun x4 S2 hp h g b => ?_)
  have h := h g b
  obtain ⟨-, hS, hx⟩ := hp
  subst hS
  refine ⟨fun cc => no (fun z => an0 hx cc z.1.1) (h.1 cc), fun cc => ?_⟩
  have on := an1 hx cc
  have dbo := db_on db on
  have iw := ix_lt (by have := ab.2.2.2.2.1; omega) dbo.1
  obtain ⟨rd, hr⟩ := hm_rd hm1 db on
  have wh := md_wh md1 on
  have h := h.2 cc
  refine cm_X11_isRoad (sp_X11_isRoad hm1 h) h (fun x8 S6 hp h g b => ?_)
  have h := h g b
  obtain ⟨-, hS, hx8⟩ := hp
  subst hS
  refine ⟨fun cc => no (fun z => an0 hx8 cc ⟨⟨rd, hr⟩, z.1.2.1⟩) (h.1 cc), fun cc => ?_⟩
  have kr := (an1 hx8 cc).2
  have ir := ix_lt (by have := ab.2.2.2.1; omega) kr
  have h := h.2 cc
  refine cm_X11_in (sp_X11_in h) h (fun x12 S10 hp h g b => ?_)
  have h := h g b
  obtain ⟨-, hS, hx12⟩ := hp
  subst hS
  refine Iff.mp and_comm ⟨fun cc => no (fun z => an0 hx12 cc (way_in.mpr z.1.2.2)) (h.2 cc), fun cc => ?_⟩
  have kw := way_in.mp (an1 hx12 cc)
  have h := h.1 cc
  intro x14 q14
  have h := h x14 q14
  have q14 := q14.trans wh
  obtain ⟨b24, e24⟩ := he rd 24 hr.2.1 (by decide) (by decide)
  obtain ⟨b25, e25⟩ := he rd 25 hr.2.1 (by decide) (by decide)
  have c24 : fI S1 b24 (dW D).toNatClampNeg = gWk G (dW D).toNatClampNeg 5 := hr.2.2.2.1 24 b24 (by decide) (by decide) e24 _ iw
  have c25 : fI S1 b25 (dW D).toNatClampNeg = gWk G (dW D).toNatClampNeg 6 := hr.2.2.2.1 25 b25 (by decide) (by decide) e25 _ iw
  refine cm_X11_isSpeed (sp_X11_isSpeed hr.1 e24 e25 h) h (fun x17 S15 hp h g b => ?_)
  have h := h g b
  obtain ⟨-, hS, hx17⟩ := hp
  subst hS
  rw [q14, c24, c25] at hx17
  replace hx17 : ans (spOK G (dW D) v3) x17 := hx17
  refine Iff.mp and_comm ⟨fun cc => no0 (fun z => an0 hx17 cc z.2.1) (h.2 cc), fun cc => ?_⟩
  have ks := an1 hx17 cc
  have h := h.1 cc
  obtain ⟨a19, e19, o19, h⟩ := h
  cases hr.1.symm.trans e19
  refine ⟨_, e19, o19, ?_⟩
  refine cm_X10_begins (sm_X10_begins hr ir h) h (fun x22 S20 hp h g => ?_)
  have h := h g
  obtain ⟨-, hS, h22⟩ := hp
  subst hS
  obtain ⟨d, ed⟩ := md_d md1
  obtain ⟨od, nv⟩ := md_now md1 ed
  obtain ⟨a23, e23, o23, i23, h⟩ := h
  cases ed.symm.trans e23
  have c0 : (0 : Int32).toNatClampNeg = 0 := by decide
  have c1 : (1 : Int32).toNatClampNeg = 1 := by decide
  refine ⟨_, e23, o23, i23, fun x25 q25 => ?_⟩
  have h := h x25 q25
  rw [c0] at q25
  have q25 := q25.trans nv.1
  rw [q25, h22] at h ⊢
  refine Iff.mp and_comm ⟨fun c2 => no0 (fun z => c2 (lgc_eq.mpr (by rw [z.2.2.1]))) (h.2 c2), fun c2 => ?_⟩
  have kb : goB G v1 v2 = (dN D).1 := i64_inj (lgc_eq.mp c2)
  have h := h.1 c2
  obtain ⟨a27, e27, o27, i27, h⟩ := h
  cases ed.symm.trans e27
  refine ⟨_, e27, o27, i27, fun x29 q29 x30 q30 => ?_⟩
  obtain ⟨a31, e31, o31, h⟩ := h x29 q29 x30 q30
  cases hr.1.symm.trans e31
  rw [c1] at q29
  have q30 : x30 = (dN D).2.1 := by
    rw [q30, q29.trans nv.2.1, Int32.toInt32_toInt64]
  refine ⟨_, e31, o31, ?_⟩
  obtain ⟨b16, e16⟩ := he rd 16 hr.2.1 (by decide) (by decide)
  refine cm_X10_minutes (sp_X10_minutes e16 h) h (fun x34 S32 hp h g => ?_)
  have h := h g
  obtain ⟨-, hS, h34⟩ := hp
  subst hS
  have h34 : x34 = goM G v1 v3 := by
    rw [h34, hr.2.2.2.1 16 b16 (by decide) (by decide) e16 v1.toNatClampNeg ir]
    rfl
  refine Iff.mp and_comm ⟨fun c3 => no0 (fun z => c3 (by rw [q30, h34]; exact z.2.2.2)) (h.2 c3), fun c3 => ?_⟩
  have ok : goC A G D v1 v2 v3 := ⟨⟨on, kr, kw⟩, ks, kb, by rw [← q30, ← h34]; exact c3⟩
  have h := h.1 c3
  refine cm_X11_keeps (sm_X11_keeps md1 h) h (fun S36 hp h g => ?_)
  have h := h g
  obtain ⟨-, md6, d6⟩ := hp
  refine cm_X11_go_119 (lp119 (he_ds d6 he) (wrm_ds md1.1 d6 hr) ab db on ir md6 q30 h) h (fun x T hp hq => ⟨hq, ?_, ?_⟩)
  · unfold tellgo
    rw [dc_y ok, hp.2.1, q30]
  · unfold nxgo
    rw [dc_y ok, ← q30]
    exact hp.2.2
end C54
/-! what the reference's stay answers, and leaves -/
section C55
variable {m d p k rd a b i j : Nat} {A : AS} {G : GC} {D : DY} {S T U : HS} {v v1 v2 v3 v4 x y t l : Int32} {Q : Int32 → HS → Prop} {QJ : Int64 → HS → Prop} {Q0 : HS → Prop}
theorem i64_s {x : Int32} (h0 : 0 ≤ x.toInt) (h1 : x.toInt ≤ 2000) : x.toInt64 + 1 = (x + 1).toInt64 := by
  have e1 : (1 : Int32).toInt = 1 := by decide
  have f1 : (1 : Int64).toInt = 1 := by decide
  apply Int64.toInt_inj.mp
  rw [Int64.toInt_add, Int32.toInt_toInt64, Int32.toInt_toInt64, Int32.toInt_add, e1, f1, Int.bmod_eq_of_le (by omega) (by omega), Int.bmod_eq_of_le (by omega) (by omega)]
theorem mx_ls {a b : Int32} {p q : Int} (h : bI a p 153) (g : bI b q 999) : mx0 (a - b) = ls2 a b := by
  apply Int32.toInt_inj.mp
  rw [(bI_ls h g (by decide) (by decide)).1, (bI_mx (bI_sub h g (by decide) (by decide)) (by have := h.2; have := g.2; omega : p - q ≤ 153) (by decide)).1]
theorem sm_X11_drips (he : HE S) (hr : WRm m rd A G S) (iw : v1.toNatClampNeg < aW A) (ip : v2.toNatClampNeg < aP A) (h : P_X11_drips m v1 v2 QJ S) : P_X11_drips m v1 v2 (fun x T => QJ x T ∧ S = T ∧ x = (treeOf (gPk G v2.toNatClampNeg) (gPv G v2.toNatClampNeg)).toInt64 * (ls2 (gWk G v1.toNatClampNeg 2) (shO (gWk G v1.toNatClampNeg))).toInt64 * 2520) S := by
  delta P_X11_drips P_X11_drips_0
  obtain ⟨o1, a1, e1, o2, a2, e2, o3, i3, h⟩ := h
  cases hr.1.symm.trans e1
  refine ⟨o1, _, e1, o2, _, e2, o3, i3, fun x4 q4 => ?_⟩
  obtain ⟨a5, e5, o5, a6, e6, o6, i6, h⟩ := h x4 q4
  have q4 : x4 = treeOf (gPk G v2.toNatClampNeg) (gPv G v2.toNatClampNeg) := q4.trans (hr.2.2.2.1 12 a2 (by decide) (by decide) e2 _ ip)
  cases hr.1.symm.trans e5
  refine ⟨_, e5, o5, _, e6, o6, i6, fun x8 q8 => ?_⟩
  obtain ⟨a9, e9, o9, h⟩ := h x8 q8
  have q8 : x8 = gWk G v1.toNatClampNeg 2 := q8.trans (hr.2.2.2.1 21 a6 (by decide) (by decide) e6 _ iw)
  cases hr.1.symm.trans e9
  refine ⟨_, e9, o9, ?_⟩
  refine cm_X10_shield (sp_X10_shield h) h (fun x12 S10 hp h g => ?_)
  have h := h g
  obtain ⟨-, hS, h12⟩ := hp
  subst hS
  have sh : shO (mWk S rd v1.toNatClampNeg) = shO (gWk G v1.toNatClampNeg) := by
    obtain ⟨b19, e19⟩ := he rd 19 hr.2.1 (by decide) (by decide)
    obtain ⟨b20, e20⟩ := he rd 20 hr.2.1 (by decide) (by decide)
    have c19 : mWk S rd v1.toNatClampNeg 0 = gWk G v1.toNatClampNeg 0 := by
      rw [← mwk (j := 0) e19]
      exact hr.2.2.2.1 19 b19 (by decide) (by decide) e19 _ iw
    have c20 : mWk S rd v1.toNatClampNeg 1 = gWk G v1.toNatClampNeg 1 := by
      rw [← mwk (j := 1) e20]
      exact hr.2.2.2.1 20 b20 (by decide) (by decide) e20 _ iw
    unfold shO
    rw [c19, c20]
  refine cm_X11_less (sp_X11_less h) h (fun x15 S13 hp h g => ?_)
  have h := h g
  obtain ⟨-, hS, h15⟩ := hp
  subst hS
  exact ⟨h, rfl, by rw [h15, q4, q8, h12, sh]⟩
theorem st_tree (gb : GBd A G) (iw : (dW D).toNatClampNeg < aW A) (ip : (dN D).1.toNatClampNeg < aP A) (cw : cwO A G (dN D).1) (hk : ¬ gPk G (dN D).1.toNatClampNeg = 1) : (treeOf (gPk G (dN D).1.toNatClampNeg) (gPv G (dN D).1.toNatClampNeg)).toInt64 * (ls2 (gWk G (dW D).toNatClampNeg 2) (shO (gWk G (dW D).toNatClampNeg))).toInt64 * 2520 = stX A G D := by
  have b := gb.2.1 _ ip
  have bw := gb.2.2.2 _ iw
  have k2 : gPk G (dN D).1.toNatClampNeg = 2 := by
    have q := cw.2
    unfold dripOf at q
    rw [if_neg hk] at q
    by_cases z : gPk G (dN D).1.toNatClampNeg = 2
    · exact z
    · rw [if_neg z] at q
      exact absurd rfl q
  unfold stX drpO
  rw [dc_y cw, mx_ls (bI_of bw.2.2.1 (by decide)) (sh_b bw)]
  unfold treeOf dripOf
  rw [if_pos k2, if_neg hk, if_pos k2]
  have bv := bI_of b.2 (by decide)
  have bl := bI_ls (bI_of bw.2.2.1 (by decide)) (sh_b bw) (by decide) (by decide)
  congr 1
  apply Int64.toInt_inj.mp
  rw [(bJ_mul (bJ_of bv) (bJ_of bl) (by decide)).1, Int32.toInt_toInt64, (bI_mul bv bl (by decide)).1]
theorem st_inn (hk : gPk G (dN D).1.toNatClampNeg = 1) : stX A G D = 0 := by
  unfold stX drpO
  by_cases cw : cwO A G (dN D).1
  · rw [dc_y cw]
    unfold dripOf
    rw [if_pos hk, Int32.zero_mul]
    decide
  · rw [dc_n cw]
    decide
theorem st133 {X84 X' : Nat → Int32 → Int32 → Int32 → HS → Prop} {Q' : Int32 → HS → Prop} {n : Int32} {pp v3 : Int32} (md : MDd m D S) (h0 : 0 ≤ (dN D).2.1.toInt) (h1 : (dN D).2.1.toInt ≤ 2000) (hX : ∀ T x7, x7 = v3 + 1 → MDd m (nwD D ((dN D).1, (dN D).2.1 + 1, (dN D).2.2)) T → DSm m S T → X84 m n pp x7 T → X' m n pp x7 T) (h : P_X11_stay_133 Q X84 m n pp v3 S) : P_X11_stay_133 Q' X' m n pp v3 S := by
  obtain ⟨d, ed⟩ := md_d md
  obtain ⟨od, nv⟩ := md_now md ed
  have c1 : (1 : Int32).toNatClampNeg = 1 := by decide
  delta P_X11_stay_133
  obtain ⟨o1, a1, e1, o2, i2, h⟩ := h
  cases ed.symm.trans e1
  refine ⟨o1, _, e1, o2, i2, fun x3 q3 x5 q5 => ?_⟩
  obtain ⟨i5, h⟩ := h x3 q3 x5 q5
  refine ⟨i5, fun S6 q6 x7 q7 => ?_⟩
  have h := h S6 q6 x7 q7
  rw [c1] at q3 q6
  have q5 : x5 = ((dN D).2.1 + 1).toInt64 := by
    rw [q5, q3.trans nv.2.1]
    exact i64_s h0 h1
  have e6 : S6 = wJ S (u2 (fJ S) d 1 x5) := by rw [q6]; rfl
  refine hX S6 x7 q7 ?_ (dm_J q6) h
  rw [e6]
  refine md_row md ed (fun x hx => u2_row _ _ hx) ⟨?_, ?_, fun f hf => ?_⟩
  · show u2 (fJ S) d 1 x5 d 0 = _
    rw [u2_ne _ _ (by omega)]
    exact nv.1
  · show u2 (fJ S) d 1 x5 d 1 = _
    rw [u2_self, q5]
  · show u2 (fJ S) d 1 x5 d (0 + 2 + f) = _
    rw [u2_ne _ _ (by omega)]
    exact nv.2.2 f hf
theorem lp84 {n : Int32} (he : HE S) (hr : WRm m rd A G S) (ab : ABd A) (gb : GBd A G) (db : DBd A D) (md : MDd m (kpF D) S) (ok : stC A G D n) (h : P_X11_stay_84 Q m n (dN D).1 0 S) : P_X11_stay_84 (fun x T => Q x T ∧ x = 1 ∧ MDd m (nwD (kpF D) ((dN D).1, (dN D).2.1 + n, stG A G D n.toNatClampNeg)) T) m n (dN D).1 0 S := by
  have om := md.1
  obtain ⟨kN, kW, kR, -, -⟩ := kpF_N D
  have on := ok.1
  have dbo := db_on db on
  have iw := ix_lt (by have := ab.2.2.2.2.1; omega) dbo.1
  have ip := ix_lt (by have := ab.2.2.1; omega) ok.2.2.1.1
  have mb := dbo.2.2.1
  have e1 : (1 : Int32).toInt = 1 := by decide
  have e60 : (60 : Int32).toInt = 60 := by decide
  have e9 : (999 : Int32).toInt = 999 := by decide
  have n1 := nlt_i (fun z => ok.2.1 (Or.inl z))
  have n2 := nlt_i (fun z => ok.2.1 (Or.inr z))
  have nn : (n.toNatClampNeg : Int) = n.toInt := by
    rw [Int32.toNatClampNeg]
    omega
  have cn : n = nI n.toNatClampNeg := by
    apply Int32.toInt_inj.mp
    rw [nI_i (by omega), nn]
  have m3 := mb.2.2.1
  have m4 := mb.2.2.2.1
  have tt : ∀ k, k ≤ n.toNatClampNeg → ((dN D).2.1 + nI k).toInt = (dN D).2.1.toInt + (k : Int) ∧ (dN D).2.1.toInt + (k : Int) ≤ 999 := fun k hk => by
    have q := le_i ok.2.2.2
    rw [Int32.toInt_add, Int.bmod_eq_of_le (by omega) (by omega)] at q
    rw [Int32.toInt_add, nI_i (by omega), Int.bmod_eq_of_le (by omega) (by omega)]
    omega
  intro X hX
  refine h (fun a0 a1 a2 v3 T => (a0 = m ∧ a1 = n ∧ a2 = (dN D).1 ∧ ∃ k, k ≤ n.toNatClampNeg ∧ v3 = nI k ∧ MDd m (nwD (kpF D) ((dN D).1, (dN D).2.1 + nI k, stG A G D k)) T ∧ DSm m S T) → X a0 a1 a2 v3 T) ?_ ⟨rfl, rfl, rfl, 0, Nat.zero_le _, rfl, ?_, dm_rf m S⟩
  · rintro a0 a1 a2 v3 T h ⟨rfl, rfl, rfl, k, hk, rfl, mdT, dT⟩
    apply hX
    have nk : (nI k).toInt = (k : Int) := nI_i (by omega)
    have tk := tt k hk
    have hrT := wrm_ds om dT hr
    have heT := he_ds dT he
    refine ⟨fun cc => ?_, fun cc => ?_⟩
    · have := le_i cc
      have kk : k = a1.toNatClampNeg := by omega
      obtain ⟨o1, h⟩ := h.1 cc
      refine ⟨o1, ?_⟩
      refine cm_X11_granted (sm_granted (md' := True) h) h (fun x U hp h g b => ?_)
      have h := h g b
      refine ⟨h.1, h.2, hp.2.1, md_12 ?_ hp.2.2⟩
      rw [kk, ← cn] at mdT
      exact mdT
    have lt := nle_i cc
    obtain ⟨o1, a5, e5, o5, a6, e6, o6, i6, h⟩ := h.2 cc
    cases hrT.1.symm.trans e5
    refine ⟨o1, _, e5, o5, _, e6, o6, i6, fun x8 q8 => ?_⟩
    have h := h x8 q8
    have q8 : x8 = innOf (gPk G (dN D).1.toNatClampNeg) := q8.trans (hrT.2.2.2.1 18 a6 (by decide) (by decide) e6 _ ip)
    have fin : ∀ (g : Nat → Int64), (∀ f, f < 5 → g f = stG A G D (k + 1) f) → ∀ U, MDd a0 (nwD (kpF D) ((dN D).1, (dN D).2.1 + nI k, g)) U → DSm a0 S U → P_X11_stay_133 Q (fun a0_1 a1_1 a2 v3 T => (a0_1 = a0 ∧ a1_1 = a1 ∧ a2 = (dN D).1 ∧ ∃ k, k ≤ a1.toNatClampNeg ∧ v3 = nI k ∧ MDd a0 (nwD (kpF D) ((dN D).1, (dN D).2.1 + nI k, stG A G D k)) T ∧ DSm a0 S T) → X a0_1 a1_1 a2 v3 T) a0 a1 (dN D).1 (nI k) U → P_X11_stay_133 (fun x T => Q x T ∧ x = 1 ∧ MDd a0 (nwD (kpF D) ((dN D).1, (dN D).2.1 + a1, stG A G D a1.toNatClampNeg)) T) X a0 a1 (dN D).1 (nI k) U := by
      intro g hg U mdU dU h
      refine st133 mdU (by show 0 ≤ ((dN D).2.1 + nI k).toInt; have := mb.2.2.1; omega) (by show ((dN D).2.1 + nI k).toInt ≤ 2000; omega) (fun T x7 q7 mdT dT' h => h ⟨rfl, rfl, rfl, k + 1, by omega, by rw [q7]; exact nI_add k 1, ?_, dm_tr dU dT'⟩) h
      have e : (dN D).2.1 + nI k + 1 = (dN D).2.1 + nI (k + 1) := by
        rw [Int32.add_assoc]
        exact congrArg _ (nI_add k 1)
      have mdT : MDd a0 (nwD (kpF D) ((dN D).1, (dN D).2.1 + nI k + 1, g)) T := mdT
      rw [e] at mdT
      exact md_g hg mdT
    refine ⟨fun c2 => fin _ (fun f hf => ?_) _ mdT dT (h.1 c2), fun c2 => ?_⟩
    · have k1 : gPk G (dN D).1.toNatClampNeg = 1 := by
        rw [q8] at c2
        unfold innOf at c2
        by_cases z : gPk G (dN D).1.toNatClampNeg = 1
        · exact z
        · rw [if_neg z] at c2
          exact absurd rfl c2
      unfold stG
      show _ = if f = 0 then dc (rnO A D ((dN D).2.1 + nI k)) (stJ A D (stX A G D) (dN D).2.1 k ((dN D).2.2 0) + stX A G D) (stJ A D (stX A G D) (dN D).2.1 k ((dN D).2.2 0)) else _
      rw [st_inn (A := A) k1, Int64.add_zero]
      by_cases z : f = 0
      · rw [if_pos z, if_pos z]
        by_cases rn : rnO A D ((dN D).2.1 + nI k)
        · rw [dc_y rn]
        · rw [dc_n rn]
      · rw [if_neg z, if_neg z]
    have k1 : ¬ gPk G (dN D).1.toNatClampNeg = 1 := fun z => by
      rw [q8] at c2
      unfold innOf at c2
      rw [if_pos z] at c2
      exact absurd c2 (by decide)
    obtain ⟨d, ed⟩ := md_d mdT
    obtain ⟨od, nv⟩ := md_now mdT ed
    have cc1 : (1 : Int32).toNatClampNeg = 1 := by decide
    have cc2 : (2 : Int32).toNatClampNeg = 2 := by decide
    obtain ⟨a10, e10, o10, i10, h⟩ := h.2 c2
    cases ed.symm.trans e10
    refine ⟨_, e10, o10, i10, fun x12 q12 => ?_⟩
    have h := h x12 q12
    rw [cc1] at q12
    have q12 : x12.toInt32 = (dN D).2.1 + nI k := by
      rw [q12.trans nv.2.1, Int32.toInt32_toInt64]
      rfl
    rw [q12] at h ⊢
    refine cm_X11_rainsIn (sm_X11_rainsIn ab hrT mdT (by have := mb.2.2.1; omega) h) h (fun x15 S13 hp h g b => ?_)
    have h := h g b
    obtain ⟨-, hS, hx15⟩ := hp
    subst hS
    have dR' : dR (nwD (kpF D) ((dN D).1, (dN D).2.1 + nI k, stG A G D k)) = dR D := kR
    have hx15 : ans (rnO A D ((dN D).2.1 + nI k)) x15 := by
      unfold rnO at hx15 ⊢
      rw [dR'] at hx15
      exact hx15
    refine ⟨fun c3 => fin _ (fun f hf => ?_) _ mdT dT (h.1 c3), fun c3 => ?_⟩
    · unfold stG
      show _ = if f = 0 then dc (rnO A D ((dN D).2.1 + nI k)) _ _ else _
      rw [dc_n (an0 hx15 c3)]
    have rn := an1 hx15 c3
    obtain ⟨a17, e17, o17, i17, h⟩ := h.2 c3
    cases ed.symm.trans e17
    refine ⟨_, e17, o17, i17, fun x19 q19 x20 q20 => ?_⟩
    have h := h x19 q19 x20 q20
    rw [cc2] at q19
    have q19 : x19 = stG A G D k 0 := q19.trans (nv.2.2 0 (by decide))
    have on' : onD (nwD (kpF D) ((dN D).1, (dN D).2.1 + nI k, stG A G D k)) := by
      show ¬ dW (kpF D) = -1
      rw [kW]
      exact on
    have q20 : x20 = dW D := (q20.trans (md_wh mdT on')).trans kW
    rw [q20] at h ⊢
    refine cm_X11_drips (sm_X11_drips heT hrT iw ip h) h (fun x23 S21 hp h g => ?_)
    have h := h g
    obtain ⟨-, hS, h23⟩ := hp
    subst hS
    rw [st_tree gb iw ip ok.2.2.1 k1] at h23
    intro x25 q25
    obtain ⟨i25, h⟩ := h x25 q25
    refine ⟨i25, fun S26 q26 => ?_⟩
    have h := h S26 q26
    rw [cc2] at q26
    have e26 : S26 = wJ T (u2 (fJ T) d 2 x25) := by rw [q26]; rfl
    have md26 : MDd a0 (nwD (kpF D) ((dN D).1, (dN D).2.1 + nI k, fun f => if f = 0 then x25 else stG A G D k f)) S26 := by
      rw [e26]
      show MDd a0 (nwD (nwD (kpF D) ((dN D).1, (dN D).2.1 + nI k, stG A G D k)) ((dN D).1, (dN D).2.1 + nI k, fun f => if f = 0 then x25 else stG A G D k f)) _
      refine md_row mdT ed (fun x hx => u2_row _ _ hx) ⟨?_, ?_, fun f hf => ?_⟩
      · show u2 (fJ T) d 2 x25 d 0 = _
        rw [u2_ne _ _ (by omega)]
        exact nv.1
      · show u2 (fJ T) d 2 x25 d 1 = _
        rw [u2_ne _ _ (by omega)]
        exact nv.2.1
      · show u2 (fJ T) d 2 x25 d (0 + 2 + f) = if f = 0 then x25 else stG A G D k f
        by_cases z : f = 0
        · rw [z, if_pos rfl, u2_self]
        · rw [if_neg z, u2_ne _ _ (by omega)]
          exact nv.2.2 f hf
    refine fin (fun f => if f = 0 then x25 else stG A G D k f) (fun f hf => ?_) S26 md26 (dm_tr dT (dm_J q26)) h
    unfold stG
    show _ = if f = 0 then dc (rnO A D ((dN D).2.1 + nI k)) _ _ else _
    rw [dc_y rn]
    by_cases z : f = 0
    · rw [if_pos z, if_pos z, q25, q19, h23]
      rfl
    · rw [if_neg z, if_neg z, if_neg z]
  · have e : (dN D).2.1 + nI 0 = (dN D).2.1 := by
      rw [nI_0, Int32.add_zero]
    rw [e]
    have g0 : stG A G D 0 = (dN D).2.2 := by
      funext f
      unfold stG
      by_cases z : f = 0
      · rw [if_pos z, z]; rfl
      · rw [if_neg z]
    rw [g0]
    have q : nwD (kpF D) ((dN D).1, (dN D).2.1, (dN D).2.2) = kpF D := by
      show nwD (kpF D) (dN D) = kpF D
      rw [← kN]
      rfl
    rw [q]
    exact md
theorem lg_999 {t n : Int32} (h0 : 0 ≤ t.toInt) (h1 : t.toInt ≤ 999) (h2 : 0 ≤ n.toInt) (h3 : n.toInt ≤ 60) : (lg_cmp (t.toInt64 + n.toInt64) 999 ≤ 0) ↔ t + n ≤ 999 := by
  have e9 : (999 : Int32).toInt = 999 := by decide
  have f9 : (999 : Int64).toInt = 999 := by decide
  have a : (t.toInt64 + n.toInt64).toInt = t.toInt + n.toInt := by
    rw [Int64.toInt_add, Int32.toInt_toInt64, Int32.toInt_toInt64, Int.bmod_eq_of_le (by omega) (by omega)]
  have b : (t + n).toInt = t.toInt + n.toInt := by
    rw [Int32.toInt_add, Int.bmod_eq_of_le (by omega) (by omega)]
  constructor
  · intro h
    have z : ¬ (999 : Int64).toInt < (t.toInt64 + n.toInt64).toInt := fun q => lgc.mpr q h
    apply Int32.le_iff_toInt_le.mpr
    omega
  · intro h
    have q := le_i h
    apply Classical.byContradiction
    intro z
    have := lgc.mp z
    omega
theorem tl_X11_stay (hI : IV S) (hm : HM m A G S) (ab : ABd A) (gb : GBd A G) (md : MDd m D S) (db : DBd A D) (h : P_X11_stay m v Q S) : P_X11_stay m v (fun x T => Q x T ∧ ans (stC A G D v) x ∧ MDd m (nxstay A G D v) T) S := by
  have om := md.1
  delta P_X11_stay P_X11_stay_0
  obtain ⟨o1, h⟩ := h
  refine ⟨o1, fun S1 s1 => ?_⟩
  have h := h S1 s1
  have md1 := md_I md s1 (by decide) (by decide) (by decide) (by decide)
  have d1 : DSm m S S1 := dm_I s1
  have hm1 := hm_ds om d1 hm
  have he := he_ds d1 (he_iv hI)
  have no : ∀ {k : Int32}, ¬ stC A G D v → P_X11_denied m k (fun x3 S2 => Gr S1 S2 → bl x3 → (bl x3 ∧ Q x3 S2)) S1 → P_X11_denied m k (fun x3 S2 => Gr S1 S2 → bl x3 → (bl x3 ∧ (Q x3 S2 ∧ ans (stC A G D v) x3 ∧ MDd m (nxstay A G D v) S2))) S1 := by
    intro k hn h
    refine cm_X11_denied (sm_denied h) h (fun x U hp h g b => ?_)
    have h := h g b
    unfold nxstay
    rw [dc_n hn]
    exact ⟨h.1, h.2, Or.inr ⟨hn, hp.2.1⟩, md_12 md1 hp.2.2⟩
  refine cm_X11_isDay (sm_X11_isDay hm1 md1 db h) h (fun x4 S2 hp h g b => ?_)
  have h := h g b
  obtain ⟨-, hS, hx⟩ := hp
  subst hS
  refine Iff.mp and_comm ⟨fun cc => no (fun z => an0 hx cc z.1) (h.2 cc), fun cc => ?_⟩
  have on := an1 hx cc
  have dbo := db_on db on
  have mb := dbo.2.2.1
  obtain ⟨rd, hr⟩ := hm_rd hm1 db on
  have h := h.1 cc
  refine cm_X11_in (sp_X11_in h) h (fun x8 S6 hp h g b => ?_)
  have h := h g b
  obtain ⟨-, hS, hx8⟩ := hp
  subst hS
  refine Iff.mp and_comm ⟨fun cc => no (fun z => an0 hx8 cc z.2.1) (h.2 cc), fun cc => ?_⟩
  have kn := an1 hx8 cc
  have e1 : (1 : Int32).toInt = 1 := by decide
  have e60 : (60 : Int32).toInt = 60 := by decide
  have n1 := nlt_i (fun z => kn (Or.inl z))
  have n2 := nlt_i (fun z => kn (Or.inr z))
  obtain ⟨d, ed⟩ := md_d md1
  obtain ⟨od, nv⟩ := md_now md1 ed
  have c0 : (0 : Int32).toNatClampNeg = 0 := by decide
  have c1 : (1 : Int32).toNatClampNeg = 1 := by decide
  obtain ⟨a10, e10, o10, i10, h⟩ := h.1 cc
  cases ed.symm.trans e10
  refine ⟨_, e10, o10, i10, fun x12 q12 x13 q13 => ?_⟩
  have h := h x12 q12 x13 q13
  rw [c0] at q12
  have q13 : x13 = (dN D).1 := by rw [q13, q12.trans nv.1, Int32.toInt32_toInt64]
  have e0 : (0 : Int32).toInt = 0 := by decide
  have hp : ¬ (dN D).1 < 0 ∧ (dN D).1 < nI (aP A) := by
    refine ⟨fun z => ?_, Int32.lt_iff_toInt_lt.mpr ?_⟩
    · have := lt_i z
      have := mb.1
      omega
    · rw [nI_i (by have := ab.2.2.1; omega)]
      exact mb.2.1
  rw [q13] at h ⊢
  refine cm_X11_canWait (sm_X11_canWait ab gb hr hp h) h (fun x16 S14 hp h g b => ?_)
  have h := h g b
  obtain ⟨-, hS, hx16⟩ := hp
  subst hS
  refine Iff.mp and_comm ⟨fun cc => no (fun z => an0 hx16 cc z.2.2.1) (h.2 cc), fun cc => ?_⟩
  have cw := an1 hx16 cc
  obtain ⟨a18, e18, o18, i18, h⟩ := h.1 cc
  cases ed.symm.trans e18
  refine ⟨_, e18, o18, i18, fun x20 q20 => ?_⟩
  have h := h x20 q20
  rw [c1] at q20
  have q20 := q20.trans nv.2.1
  have l9 := lg_999 (t := (dN D).2.1) (n := v) mb.2.2.1 mb.2.2.2.1 (by omega) (by omega)
  rw [q20] at h ⊢
  refine Iff.mp and_comm ⟨fun c3 => no (fun z => c3 (l9.mpr z.2.2.2)) (h.2 c3), fun c3 => ?_⟩
  have ok : stC A G D v := ⟨on, kn, cw, l9.mp c3⟩
  have h := h.1 c3
  refine cm_X11_keeps (sm_X11_keeps md1 h) h (fun S22 hp h g => ?_)
  have h := h g
  obtain ⟨-, md2, d2⟩ := hp
  refine cm_X11_stay_84 (lp84 (he_ds d2 he) (wrm_ds md1.1 d2 hr) ab gb db md2 ok h) h (fun x T hp hq => ⟨hq, Or.inl ⟨ok, hp.2.1⟩, ?_⟩)
  unfold nxstay
  rw [dc_y ok]
  exact hp.2.2
end C55
end
section
/-! the day over calls that leave it, and over world -/
section C56
variable {c m dy d p k rd a b i j r w1 w2 t : Nat} {A : AS} {G : GC} {D D' : DY} {S T U : HS} {v v1 v2 v3 v4 x y l : Int32} {Q : Int32 → HS → Prop} {f : Nat → Int32} {wi wr : List (Nat × Nat)} {bb : Bool}
/-- the class's day behind a call, if its rows and joints stay -/
theorem cd_mk (hI : IV S) (cd : CDd dy D S) (K : K9 true LB S T) (F : FRI wi wr S T) (hr : ∀ q ∈ ([(0, 4), (0, 5), (0, 6), (2, 2)] : List (Nat × Nat)), q ∉ wr) (hi : ∀ q ∈ ([(2, 0), (2, 1)] : List (Nat × Nat)), q ∉ wi) (hN' : dN D' = dN D) (hP' : ∀ i, i < dU D' → i < dU D ∧ dP D' i = dP D i) (hM' : ∀ i, i < dK D' → i < dK D ∧ dM D' i = dM D i) (v0 : fI T dy 0 = dW D') (v1 : fI T dy 1 = dR D') (v2 : fI T dy 2 = nI (dU D')) (v3 : fI T dy 3 = nI (dK D')) (u' : dU D' ≤ 16) (k' : dK D' ≤ 3) : CDd dy D' T := by
  obtain ⟨od, pa, ma, mo, go, cs, cv⟩ := cd
  have g := K.1
  have u := cv.2.2.2.2.1
  have k3 := cv.2.2.2.2.2.1
  obtain ⟨s1, s2, s3, s4, s5, s6, s7, s8, s9, s10⟩ := cs
  have om : ob S ma 16 := by
    obtain ⟨b, e, o, -⟩ := hI.1 (0, 6, 16, 3) (by decide) dy od
    cases e.symm.trans s3
    exact o
  have pr : ∀ i, i < 20 → fJ T (go i) = fJ S (go i) ∧ NW9 LB T (go i) := fun i hi => K.2.2 _ ⟨(s8 i hi).2.2.1, (s8 i hi).2.2.2⟩
  have vm : ∀ i, i < 20 → ∀ w, VM S (mo i) (go i) w → VM T (mo i) (go i) w := fun i h w hv => vm_mv hv (F.1 2 0 (by decide) (hi (2, 0) (by decide)) _ (s8 i h).1) (F.1 2 1 (by decide) (hi (2, 1) (by decide)) _ (s8 i h).1) (pr i h).1
  have fr : ∀ j, (0, j) ∉ wr → fR T dy j = fR S dy j := fun j hj => F.2 0 j (by decide) hj dy od
  refine ⟨gr_ob g od, pa, ma, mo, go, ⟨(fr 4 (hr (0, 4) (by decide))).trans s1, (fr 5 (hr (0, 5) (by decide))).trans s2, (fr 6 (hr (0, 6) (by decide))).trans s3, gr_ob g s4, s5, fun i h => by rw [K.2.1 rfl pa s4]; exact s6 i h, fun i h => by rw [K.2.1 rfl ma om]; exact s7 i h, fun i h => ⟨gr_ob g (s8 i h).1, (F.2 2 2 (by decide) (hr (2, 2) (by decide)) _ (s8 i h).1).trans (s8 i h).2.1, gr_ob g (s8 i h).2.2.1, (pr i h).2⟩, s9, s10⟩, v0, v1, v2, v3, u', k', ?_, fun i h => ?_, fun i h => ?_⟩
  · rw [hN']
    exact vm 0 (by decide) _ cv.2.2.2.2.2.2.1
  · obtain ⟨q1, q2⟩ := hP' i h
    rw [q2]
    exact vm _ (by omega) _ (cv.2.2.2.2.2.2.2.1 i q1)
  · obtain ⟨q1, q2⟩ := hM' i h
    rw [q2]
    exact vm _ (by omega) _ (cv.2.2.2.2.2.2.2.2 i q1)
theorem cd_keep (hI : IV S) (cd : CDd dy D S) (K : K9 true LB S T) (F : FRI wi wr S T) (hr : ∀ q ∈ ([(0, 4), (0, 5), (0, 6), (2, 2)] : List (Nat × Nat)), q ∉ wr) (hi : ∀ q ∈ ([(2, 0), (2, 1), (0, 0), (0, 1), (0, 2), (0, 3)] : List (Nat × Nat)), q ∉ wi) : CDd dy D T := by
  have cd0 := cd
  obtain ⟨od, pa, ma, mo, go, cs, cv⟩ := cd
  have f0 : ∀ j, (0, j) ∉ wi → fI T dy j = fI S dy j := fun j hj => F.1 0 j (by decide) hj dy od
  exact cd_mk hI cd0 K F hr (fun q hq => hi q (by
    simp only [List.mem_cons, List.not_mem_nil, or_false] at hq
    rcases hq with rfl | rfl <;> decide)) rfl (fun i h => ⟨h, rfl⟩) (fun i h => ⟨h, rfl⟩) ((f0 0 (hi (0, 0) (by decide))).trans cv.1) ((f0 1 (hi (0, 1) (by decide))).trans cv.2.1) ((f0 2 (hi (0, 2) (by decide))).trans cv.2.2.1) ((f0 3 (hi (0, 3) (by decide))).trans cv.2.2.2.1) cv.2.2.2.2.1 cv.2.2.2.2.2.1
/-- the reference's day's rows are its own -/
theorem md_own (hI : IV S) (om : ob S m 11) (hj : j = 21 ∨ j = 22 ∨ j = 23) (e : fR S m j = some b) : NW9 LA S b := fun q hq x ox z => by
  have hp : (11, j) ∈ prT := by rcases hj with rfl | rfl | rfl <;> decide
  have hk : q.1 < 12 ∧ q ≠ (11, 21) ∧ q ≠ (11, 22) ∧ q ≠ (11, 23) := by
    simp only [List.mem_cons, List.not_mem_nil, or_false] at hq
    rcases hq with rfl | rfl | rfl | rfl | rfl | rfl | rfl | rfl <;> decide
  obtain ⟨q1, q2⟩ := hI.2.2.2.2.1 x q.1 q.2 m 11 j b ox hk.1 om hp z e
  have q3 : q.1 = 11 := ob_inj ox (q1 ▸ om)
  rcases hj with rfl | rfl | rfl
  · exact hk.2.1 (Prod.ext q3 q2)
  · exact hk.2.2.1 (Prod.ext q3 q2)
  · exact hk.2.2.2 (Prod.ext q3 q2)
theorem md_mk (hI : IV S) (md : MDd m D S) (K : K9 bb LA S T) (F : FRI wi wr S T) (hr : ∀ q ∈ ([(11, 21), (11, 22), (11, 23)] : List (Nat × Nat)), q ∉ wr) (hN' : dN D' = dN D) (hP' : ∀ i, i < dU D' → i < dU D ∧ dP D' i = dP D i) (hM' : ∀ i, i < dK D' → i < dK D ∧ dM D' i = dM D i) (v0 : fI T m 19 = mwO (dW D')) (v1 : fI T m 20 = dR D') (v2 : fI T m 24 = nI (dU D')) (v3 : fI T m 25 = nI (dK D')) (u' : dU D' ≤ 16) (k' : dK D' ≤ 3) : MDd m D' T := by
  obtain ⟨om, d, p, k, ⟨e1, e2, e3, o1, o2, o3, n1, n2, n3⟩, q1, q2, q3, q4, q5, q6, q7, q8, q9⟩ := md
  have g := K.1
  have fr : ∀ j, (11, j) ∉ wr → fR T m j = fR S m j := fun j hj => F.2 11 j (by decide) hj m om
  have k1 := (K.2.2 d ⟨o1, md_own hI om (Or.inl rfl) e1⟩).1
  have k2 := (K.2.2 p ⟨o2, md_own hI om (Or.inr (Or.inl rfl)) e2⟩).1
  have k3 := (K.2.2 k ⟨o3, md_own hI om (Or.inr (Or.inr rfl)) e3⟩).1
  refine ⟨gr_ob g om, d, p, k, ⟨(fr 21 (hr (11, 21) (by decide))).trans e1, (fr 22 (hr (11, 22) (by decide))).trans e2, (fr 23 (hr (11, 23) (by decide))).trans e3, gr_ob g o1, gr_ob g o2, gr_ob g o3, n1, n2, n3⟩, v0, v1, v2, v3, u', k', ?_, fun i h => ?_, fun i h => ?_⟩
  · rw [hN']
    exact mvd_mv q7 k1
  · obtain ⟨w1, w2⟩ := hP' i h
    rw [w2]
    exact mvd_mv (q8 i w1) k2
  · obtain ⟨w1, w2⟩ := hM' i h
    rw [w2]
    exact mvd_mv (q9 i w1) k3
theorem md_keep (hI : IV S) (md : MDd m D S) (K : K9 bb LA S T) (F : FRI wi wr S T) (hr : ∀ q ∈ ([(11, 21), (11, 22), (11, 23)] : List (Nat × Nat)), q ∉ wr) (hi : ∀ q ∈ ([(11, 19), (11, 20), (11, 24), (11, 25)] : List (Nat × Nat)), q ∉ wi) : MDd m D T := by
  have md0 := md
  obtain ⟨om, d, p, k, ms, mv⟩ := md
  have f0 : ∀ j, (11, j) ∉ wi → fI T m j = fI S m j := fun j hj => F.1 11 j (by decide) hj m om
  exact md_mk hI md0 K F hr rfl (fun i h => ⟨h, rfl⟩) (fun i h => ⟨h, rfl⟩) ((f0 19 (hi (11, 19) (by decide))).trans mv.1) ((f0 20 (hi (11, 20) (by decide))).trans mv.2.1) ((f0 24 (hi (11, 24) (by decide))).trans mv.2.2.1) ((f0 25 (hi (11, 25) (by decide))).trans mv.2.2.2.1) mv.2.2.2.2.1 mv.2.2.2.2.2.1
/-- world(n) in the class: the day is ended, or as it was -/
def DwC (c dy : Nat) (S : HS) (x : Int32) (T : HS) : Prop := (x = -1 ∧ ∀ j, (0, j) ∈ pD → fI T dy j = fI S dy j) ∨ ((∃ a, fR T c 6 = some a ∧ fI T a 0 = -1 ∧ fI T a 2 = 0 ∧ fI T a 3 = 0) ∧ ∃ w, fR T c 2 = some w ∧ x = fI T w 4)
def DwM (m : Nat) (S : HS) (x : Int32) (T : HS) : Prop := (x = -1 ∧ fI T m 19 = fI S m 19 ∧ fI T m 24 = fI S m 24 ∧ fI T m 25 = fI S m 25) ∨ ((fI T m 19 = -2 ∧ fI T m 24 = 0 ∧ fI T m 25 = 0) ∧ ∃ w, ob T w 10 ∧ x = fI T w 4)
theorem dw_X9_world (oc : ob S c 9) (od : ob S dy 0) (h : P_X9_world c v1 Q S) : P_X9_world c v1 (fun x T => Q x T ∧ DwC c dy S x T) S := by
  have nc : dy ≠ c := ob_ne od oc (by decide)
  have no : P_X9_world_12 Q c S → P_X9_world_12 (fun x T => Q x T ∧ DwC c dy S x T) c S := by
    intro h
    delta P_X9_world_12
    obtain ⟨o1, h⟩ := h
    refine ⟨o1, ?_⟩
    refine cm_X9_refuse (sp_X9_refuse h) h (fun x U hp h g => ⟨h g, Or.inl ⟨hp.2.1, fun j _ => congrFun (row_o hp.2.2 nc) j⟩⟩)
  delta P_X9_world P_X9_world_0
  refine ⟨fun c1 => no (h.1 c1), fun c1 => ?_⟩
  obtain ⟨o1, h⟩ := h.2 c1
  refine ⟨o1, fun x2 q2 => ?_⟩
  have h := h x2 q2
  refine Iff.mp and_comm ⟨fun c2 => no (h.2 c2), fun c2 => ?_⟩
  obtain ⟨a4, e4, a5, e5, o5, h⟩ := h.1 c2
  refine ⟨_, e4, _, e5, o5, ?_⟩
  refine cm_X4_read (kd_X4_read h) h (fun x8 S6 hp h g b => ?_)
  have h := h g b
  have K := hp.2
  have oc6 := gr_ob g oc
  have f6 : ∀ j, (0, j) ∈ pD → fI S6 dy j = fI S dy j := fun j hj => K.2 (0, j) hj dy od
  intro S9 q9
  obtain ⟨a10, e10, o10, h⟩ := h S9 q9
  refine ⟨_, e10, o10, fun x11 q11 S12 q12 => ?_⟩
  obtain ⟨a13, e13, o13, h⟩ := h x11 q11 S12 q12
  refine ⟨_, e13, o13, fun x14 q14 S15 q15 => ?_⟩
  have h := h x14 q14 S15 q15
  have f15 : fI S15 dy = fI S6 dy := (row_o q15 nc).trans ((row_o q12 nc).trans (row_o q9 nc))
  have oc15 : ob S15 c 9 := ob_wI (ob_wI (ob_wI oc6 q9) q12) q15
  refine Iff.mp and_comm ⟨fun c3 => ?_, fun c3 => ?_⟩
  · have h := h.2 c3
    refine cm_X9_refuse (sp_X9_refuse h) h (fun x U hp h g => ⟨h g, Or.inl ⟨hp.2.1, fun j hj => ?_⟩⟩)
    rw [row_o hp.2.2 nc, f15]
    exact f6 j hj
  obtain ⟨a17, e17, a18, e18, o18, h⟩ := h.1 c3
  refine ⟨_, e17, _, e18, o18, ?_⟩
  refine cm_X4_exchange h h (fun a21 S19 h _ g => ?_)
  have h := h g
  have oc19 := gr_ob g oc15
  intro S22 q22
  obtain ⟨a23, e23, o23, h⟩ := h S22 q22
  have oc22 : ob S22 c 9 := ob_wR oc19 q22
  refine ⟨_, e23, o23, ?_⟩
  refine cm_X7_forget h h (fun S24 h _ g => ?_)
  have h := h g
  have oc24 := gr_ob g oc22
  obtain ⟨a27, e27, o27, h⟩ := h
  refine ⟨_, e27, o27, ?_⟩
  have n27 : a27 ≠ c := ob_ne o27 oc24 (by decide)
  refine cm_X0_end (sp_X0_end h) h (fun S28 hp h g => ?_)
  have h := h g
  obtain ⟨-, F, z0, z2, z3⟩ := hp
  have oc28 := gr_ob g oc24
  obtain ⟨a31, e31, o31, h⟩ := h
  refine ⟨_, e31, o31, fun x32 q32 => ?_⟩
  have h := h x32 q32
  refine cm_X9_grant (sp_X9_grant h) h (fun x U hp h g => ⟨h g, Or.inr ⟨⟨a27, ?_, ?_, ?_, ?_⟩, a31, ?_, ?_⟩⟩)
  · rw [hp.2.2]
    show fR S28 c 6 = _
    rw [F.2.2.2.1]
    exact e27
  · rw [row_o hp.2.2 n27]; exact z0
  · rw [row_o hp.2.2 n27]; exact z2
  · rw [row_o hp.2.2 n27]; exact z3
  · rw [hp.2.2]; exact e31
  · rw [row_o hp.2.2 (ob_ne o31 oc28 (by decide)), hp.2.1, q32]
theorem dw_X11_world (om : ob S m 11) (h : P_X11_world m v1 Q S) : P_X11_world m v1 (fun x T => Q x T ∧ DwM m S x T) S := by
  delta P_X11_world P_X11_world_0
  obtain ⟨o1, h⟩ := h
  refine ⟨o1, fun S1 s1 => ?_⟩
  have h := h S1 s1
  have r1 : fI S1 m = va_up (fI S m) 0 0 := row_I s1
  have om1 : ob S1 m 11 := ob_wI om s1
  have no : P_X11_world_17 Q m S1 → P_X11_world_17 (fun x T => Q x T ∧ DwM m S x T) m S1 := by
    intro h
    delta P_X11_world_17
    obtain ⟨o1, h⟩ := h
    refine ⟨o1, ?_⟩
    refine cm_X11_refused (sp_X11_refused h) h (fun x U hp h g => ⟨h g, Or.inl ⟨hp.2.1, ?_, ?_, ?_⟩⟩)
    · rw [hp.2.2.1.2.2.2.2.2.1 19 (by decide), r1]; rfl
    · rw [hp.2.2.1.2.2.2.2.2.1 24 (by decide), r1]; rfl
    · rw [hp.2.2.1.2.2.2.2.2.1 25 (by decide), r1]; rfl
  refine ⟨fun c1 => no (h.1 c1), fun c1 x3 q3 => ?_⟩
  have h := h.2 c1 x3 q3
  refine Iff.mp and_comm ⟨fun c2 => no (h.2 c2), fun c2 => ?_⟩
  have h := h.1 c2
  intro S5 q5 S6 q6 S7 q7 S8 q8 a9 n9 S10 q10
  have h := h S5 q5 S6 q6 S7 q7 S8 q8 a9 n9 S10 q10
  have r5 : fI S5 m = va_up (fI S1 m) 7 v1 := row_I q5
  have r6 : fI S6 m = va_up (fI S5 m) 6 0 := row_I q6
  have r7 : fI S7 m = va_up (fI S6 m) 8 0 := row_I q7
  have r8 : fI S8 m = va_up (fI S7 m) 13 0 := row_I q8
  have om8 : ob S8 m 11 := ob_wI (ob_wI (ob_wI (ob_wI om1 q5) q6) q7) q8
  have om10 : ob S10 m 11 := gr_ob (gr_of_new q10 n9) om8
  have r10 : fI S10 m = fI S8 m := by
    rw [q10]
    exact va_up_ne _ _ (fun z => n9 (z ▸ om8.1))
  have f10 : fI S10 m 19 = fI S m 19 ∧ fI S10 m 24 = fI S m 24 ∧ fI S10 m 25 = fI S m 25 := by
    rw [r10, r8, r7, r6, r5, r1]
    exact ⟨rfl, rfl, rfl⟩
  refine cm_X10_init (kd_X10_init h) h (fun S11 hp h g => ?_)
  have h := h g
  have K := hp.2
  have om11 := gr_ob g om10
  have f11 : fI S11 m 19 = fI S m 19 ∧ fI S11 m 24 = fI S m 24 ∧ fI S11 m 25 = fI S m 25 := ⟨(K.2 (11, 19) (by decide) m om10).trans f10.1, (K.2 (11, 24) (by decide) m om10).trans f10.2.1, (K.2 (11, 25) (by decide) m om10).trans f10.2.2⟩
  intro S14 q14 S15 q15
  have h := h S14 q14 S15 q15
  have i14 : fI S14 = fI S11 := by rw [q14]; rfl
  have om14 : ob S14 m 11 := ob_wR om11 q14
  have r15 : fI S15 m = va_up (fI S14 m) 9 0 := row_I q15
  have om15 : ob S15 m 11 := ob_wI om14 q15
  have f15 : fI S15 m 19 = fI S m 19 ∧ fI S15 m 24 = fI S m 24 ∧ fI S15 m 25 = fI S m 25 := by
    rw [r15, i14]
    exact f11
  refine cm_X11_goesOn (kd_X11_goesOn h) h (fun S16 hp h g => ?_)
  have h := h g
  have K := hp.2
  have om16 := gr_ob g om15
  have f16 : fI S16 m 19 = fI S m 19 ∧ fI S16 m 24 = fI S m 24 ∧ fI S16 m 25 = fI S m 25 := ⟨(K.2 (11, 19) (by decide) m om15).trans f15.1, (K.2 (11, 24) (by decide) m om15).trans f15.2.1, (K.2 (11, 25) (by decide) m om15).trans f15.2.2⟩
  refine cm_X11_readAll (kd_X11_readAll h) h (fun S19 hp h g => ?_)
  have h := h g
  have K := hp.2
  have om19 := gr_ob g om16
  have f19 : fI S19 m 19 = fI S m 19 ∧ fI S19 m 24 = fI S m 24 ∧ fI S19 m 25 = fI S m 25 := ⟨(K.2 (11, 19) (by decide) m om16).trans f16.1, (K.2 (11, 24) (by decide) m om16).trans f16.2.1, (K.2 (11, 25) (by decide) m om16).trans f16.2.2⟩
  intro x22 q22
  have h := h x22 q22
  refine Iff.mp and_comm ⟨fun c3 S34 q34 x35 q35 S36 q36 => ⟨h.2 c3 S34 q34 x35 q35 S36 q36, Or.inl ⟨rfl, ?_⟩⟩, fun c3 => ?_⟩
  · have r34 : fI S34 m = va_up (fI S19 m) 1 4 := row_I q34
    have r36 : fI S36 m = va_up (fI S34 m) 2 x35 := row_I q36
    rw [r36, r34]
    exact f19
  obtain ⟨a24, e24, h⟩ := h.1 c3
  refine ⟨_, e24, fun S25 q25 S26 q26 S27 q27 S28 q28 => ?_⟩
  obtain ⟨a29, e29, o29, h⟩ := h S25 q25 S26 q26 S27 q27 S28 q28
  have r26 : fI S26 m = va_up (fI S25 m) 19 (-2) := row_I q26
  have r27 : fI S27 m = va_up (fI S26 m) 24 0 := row_I q27
  have r28 : fI S28 m = va_up (fI S27 m) 25 0 := row_I q28
  refine ⟨_, e29, o29, fun x30 q30 => ?_⟩
  have h := h x30 q30
  have om28 : ob S28 m 11 := ob_wI (ob_wI (ob_wI (ob_wR om19 q25) q26) q27) q28
  refine cm_X11_good (sp_X11_good h) h (fun x U hp h g => ⟨h g, Or.inr ⟨?_, a29, gr_ob g o29, ?_⟩⟩)
  · rw [hp.2.2.1.2.2.2.2.2.1 19 (by decide), hp.2.2.1.2.2.2.2.2.1 24 (by decide), hp.2.2.1.2.2.2.2.2.1 25 (by decide), r28, r27, r26]
    exact ⟨rfl, rfl, rfl⟩
  · rw [(hp.2.2.1.2.2.2.2.1 a29 (ob_ne o29 om28 (by decide))).1, hp.2.1, q30]
theorem dwm_x (hT : IV T) (w : DwM m S x T) : (¬ x = -1 → fI T m 19 = -2 ∧ fI T m 24 = 0 ∧ fI T m 25 = 0) ∧ (x = -1 → fI T m 19 = fI S m 19 ∧ fI T m 24 = fI S m 24 ∧ fI T m 25 = fI S m 25) := by
  rcases w with ⟨hx, hw⟩ | ⟨hw, w, ow, hx⟩
  · exact ⟨fun z => absurd hx z, fun _ => hw⟩
  · refine ⟨fun _ => hw, fun z => ?_⟩
    have q := le_i (hT.2.2.2.1 (10, 4, 0, 4) (by decide) w ow).1
    rw [← hx, z] at q
    exact absurd q (by decide)
theorem xr_w (ht : t ≤ 900) (h : WCd S f t v1 c x T) (e : WCe c r w1 w2 U (RWo f t v1) T) : (RWo f t v1 = none ∧ x = -1) ∨ ((∃ p, RWo f t v1 = some p) ∧ ¬ x = -1) := by
  rcases h with ⟨hb, hx, -⟩ | ⟨n, hn, hv, hw⟩
  · exact Or.inl ⟨rw_bad hb, hx⟩
  · rw [rw_ok ht hn hv] at e ⊢
    unfold RWs at e ⊢
    cases hR : sAll f n 1000 0 A00 with
    | inr q =>
      rw [hR] at hw
      exact Or.inl ⟨rfl, hw.1⟩
    | inl A =>
      rw [hR] at hw e
      have ab := e.2.2.2
      refine Or.inr ⟨⟨_, rfl⟩, ?_⟩
      rw [hw.1]
      exact nI_nm1 (by have := ab.2.2.2.2.1; show aW A < 100000; have : aW A ≤ 4 := this; omega)
/-- the day behind world(n), in the class -/
theorem cd_world (hI : IV S) (hT : IV T) (oc : ob S c 9) (e6 : fR S c 6 = some dy) (cd : CDd dy D S) (K : K9 true LB S T) (F : FRI wi wr S T) (hr : ∀ q ∈ ([(0, 4), (0, 5), (0, 6), (2, 2)] : List (Nat × Nat)), q ∉ wr) (h6 : (9, 6) ∉ wr) (hi : ∀ q ∈ ([(2, 0), (2, 1)] : List (Nat × Nat)), q ∉ wi) (h1 : (0, 1) ∉ wi) (w : DwC c dy S x T) : fR T c 6 = some dy ∧ ((x = -1 ∧ CDd dy D T) ∨ (¬ x = -1 ∧ CDd dy (offD D) T)) := by
  have e6T : fR T c 6 = some dy := (F.2 9 6 (by decide) h6 c oc).trans e6
  refine ⟨e6T, ?_⟩
  have cd0 := cd
  obtain ⟨od, pa, ma, mo, go, cs, cv⟩ := cd
  rcases w with ⟨hx, hw⟩ | ⟨⟨a, ea, z0, z2, z3⟩, w, ew, hx⟩
  · exact Or.inl ⟨hx, cd_mk hI cd0 K F hr hi rfl (fun i h => ⟨h, rfl⟩) (fun i h => ⟨h, rfl⟩) ((hw 0 (by decide)).trans cv.1) ((hw 1 (by decide)).trans cv.2.1) ((hw 2 (by decide)).trans cv.2.2.1) ((hw 3 (by decide)).trans cv.2.2.2.1) cv.2.2.2.2.1 cv.2.2.2.2.2.1⟩
  · cases e6T.symm.trans ea
    refine Or.inr ⟨fun z => ?_, cd_mk hI cd0 K F hr hi rfl (fun i h => absurd h (Nat.not_lt_zero i)) (fun i h => absurd h (Nat.not_lt_zero i)) z0 ((F.1 0 1 (by decide) h1 dy od).trans cv.2.1) z2 z3 (by show 0 ≤ 16; omega) (by show 0 ≤ 3; omega)⟩
    obtain ⟨w', e', o', -⟩ := hT.1 (9, 2, 8, 0) (by decide) c (gr_ob K.1 oc)
    cases e'.symm.trans ew
    have q := (hT.2.2.2.1 (8, 4, 0, 4) (by decide) w o').1
    have q := le_i q
    rw [← hx, z] at q
    exact absurd q (by decide)
theorem md_world (hI : IV S) (md : MDd m D S) (K : K9 bb LA S T) (F : FRI wi wr S T) (hr : ∀ q ∈ ([(11, 21), (11, 22), (11, 23)] : List (Nat × Nat)), q ∉ wr) (hi : (11, 20) ∉ wi) (hx : ¬ x = -1 → fI T m 19 = -2 ∧ fI T m 24 = 0 ∧ fI T m 25 = 0) (hy : x = -1 → fI T m 19 = fI S m 19 ∧ fI T m 24 = fI S m 24 ∧ fI T m 25 = fI S m 25) : (x = -1 → MDd m D T) ∧ (¬ x = -1 → MDd m (offD D) T) := by
  have md0 := md
  obtain ⟨om, d, p, k, ms, mv⟩ := md
  have f20 := F.1 11 20 (by decide) hi m om
  refine ⟨fun z => ?_, fun z => ?_⟩
  · obtain ⟨z1, z2, z3⟩ := hy z
    exact md_mk hI md0 K F hr rfl (fun i h => ⟨h, rfl⟩) (fun i h => ⟨h, rfl⟩) (z1.trans mv.1) (f20.trans mv.2.1) (z2.trans mv.2.2.1) (z3.trans mv.2.2.2.1) mv.2.2.2.2.1 mv.2.2.2.2.2.1
  · obtain ⟨z1, z2, z3⟩ := hx z
    exact md_mk hI md0 K F hr rfl (fun i h => absurd h (Nat.not_lt_zero i)) (fun i h => absurd h (Nat.not_lt_zero i)) z1 (f20.trans mv.2.1) z2 z3 (by show 0 ≤ 16; omega) (by show 0 ≤ 3; omega)
end C56
/-! the day's bounds stay -/
section C57
variable {A A' : AS} {G : GC} {D : DY} {v v1 v2 v3 v4 x y t : Int32} {i k : Nat}
theorem bt_or : ∀ b : Fin 64, ∀ k : Fin 6, b.1 < 2 ^ k.1 → nI b.1 ||| ((1 : Int32) <<< (nI k.1 &&& 31)) = nI (b.1 + 2 ^ k.1) := by decide +kernel
theorem drB_b (s : Int32) : ∀ k, k ≤ 6 → ∃ b, drB G k s = nI b ∧ b < 2 ^ k
  | 0, _ => ⟨0, rfl, by decide⟩
  | k + 1, hk => by
    obtain ⟨b, e, lt⟩ := drB_b s k (by omega)
    have p2 : (2 : Nat) ^ (k + 1) = 2 ^ k + 2 ^ k := by rw [Nat.pow_succ]; omega
    show ∃ b, (if gRn G k 4 ≤ rm1 (drS (k + 1) s) then drB G k s else drB G k s ||| ((1 : Int32) <<< (nI k &&& 31))) = nI b ∧ b < 2 ^ (k + 1)
    by_cases c : gRn G k 4 ≤ rm1 (drS (k + 1) s)
    · rw [if_pos c]
      exact ⟨b, e, by omega⟩
    · rw [if_neg c, e]
      have h6 : (2 : Nat) ^ k ≤ 2 ^ 5 := Nat.pow_le_pow_right (by decide) (by omega)
      exact ⟨b + 2 ^ k, bt_or ⟨b, by have q5 : (2 : Nat) ^ 5 = 32 := (by decide); omega⟩ ⟨k, by omega⟩ lt, by omega⟩
theorem mb_kp (h0 : MB A (dN D)) (hP : ∀ i, i < dU D → MB A (dP D i)) : ∀ i, i < dU (kpF D) → MB A (dP (kpF D) i) := by
  intro i hi
  unfold kpF at hi ⊢
  by_cases c : dU D = 16
  · rw [if_pos c] at hi ⊢
    have hi : i < 15 + 1 := hi
    show MB A (if i = 15 then dN D else dP D (i + 1))
    by_cases z : i = 15
    · rw [if_pos z]; exact h0
    · rw [if_neg z]; exact hP _ (by omega)
  · rw [if_neg c] at hi ⊢
    have hi : i < dU D + 1 := hi
    show MB A (if i = dU D then dN D else dP D i)
    by_cases z : i = dU D
    · rw [if_pos z]; exact h0
    · rw [if_neg z]; exact hP _ (by omega)
theorem db_kp {w : MO} (db : DBd A D) (on : onD D) (hw : MB A w) : DBd A (nwD (kpF D) w) := by
  obtain ⟨b1, b2, b3, b4, b5⟩ := db_on db on
  obtain ⟨kN, kW, kR, kK, kM⟩ := kpF_N D
  refine Or.inr ⟨?_, ?_, ?_, hw, mb_kp b3 b4, ?_⟩
  · show ¬ dW (kpF D) = -1
    rw [kW]; exact on
  · show ¬ dW (kpF D) < 0 ∧ dW (kpF D) < nI (aW A)
    rw [kW]; exact b1
  · show ∃ b, dR (kpF D) = nI b ∧ _
    rw [kR]; exact b2
  · intro i hi
    have hi : i < dK (kpF D) := hi
    show MB A (dM (kpF D) i)
    rw [kK] at hi
    rw [kM]
    exact b5 i hi
theorem db_day (ab : ABd A) (db : DBd A D) : DBd A (nxday A G D v1 v2 v3 v4) := by
  unfold nxday
  by_cases ok : dayOK A v1 v2 v3 v4
  · rw [dc_y ok]
    have e0 : (0 : Int32).toInt = 0 := by decide
    have e4 : (400 : Int32).toInt = 400 := by decide
    have p := ok.1.2
    have p0 := nlt_i p.1
    have p1 := lt_i p.2
    rw [nI_i (by have := ab.2.2.1; omega)] at p1
    have t0 := nlt_i (fun z => ok.2.1 (Or.inl z))
    have t1 := nlt_i (fun z => ok.2.1 (Or.inr z))
    refine Or.inr ⟨fun z => ?_, ok.1.1, drB_b v4 (aHs A) ab.2.1, ⟨?_, p1, ?_, ?_, fun f hf => ?_⟩, fun i hi => absurd hi (Nat.not_lt_zero i), fun i hi => absurd hi (Nat.not_lt_zero i)⟩
    · have z : v1 = -1 := z
      exact ok.1.1.1 (by rw [z]; decide)
    · show 0 ≤ v2.toInt; omega
    · show 0 ≤ v3.toInt; omega
    · show v3.toInt ≤ 999; omega
    · show 0 ≤ (0 : Int64).toInt ∧ (0 : Int64).toInt ≤ v3.toInt * 3747643200
      have z0 : (0 : Int64).toInt = 0 := by decide
      omega
  · rw [dc_n ok]
    exact db
theorem db_undo (db : DBd A D) : DBd A (nxundo D) := by
  unfold nxundo
  by_cases u : 0 < dU D
  · rw [if_pos u]
    rcases db with q | ⟨on, b1, b2, b3, b4, b5⟩
    · omega
    · exact Or.inr ⟨on, b1, b2, b4 (dU D - 1) (by omega), fun i hi => b4 i (by have hi : i < dU D - 1 := hi; omega), b5⟩
  · rw [if_neg u]
    exact db
theorem db_mark (db : DBd A D) : DBd A (nxmark D) := by
  unfold nxmark
  by_cases on : onD D
  · rw [dc_y on]
    by_cases c : dK D < 3
    · rw [if_pos c]
      obtain ⟨b1, b2, b3, b4, b5⟩ := db_on db on
      refine Or.inr ⟨on, b1, b2, b3, b4, fun i hi => ?_⟩
      have hi : i < dK D + 1 := hi
      show MB A (if i = dK D then dN D else dM D i)
      by_cases z : i = dK D
      · rw [if_pos z]; exact b3
      · rw [if_neg z]; exact b5 i (by omega)
    · rw [if_neg c]
      exact db
  · rw [dc_n on]
    exact db
theorem db_back (ab : ABd A) (k3 : dK D ≤ 3) (db : DBd A D) : DBd A (bkF D v) := by
  unfold bkF
  by_cases ok : ¬ v < 0 ∧ v < nI (dK D)
  · rw [dc_y ok]
    rcases db with q | ⟨on, b1, b2, b3, b4, b5⟩
    · rw [q.2.2] at ok
      exact absurd ok (zero_n rfl)
    · exact Or.inr ⟨on, b1, b2, b5 _ (ix_lt (by omega) ok), fun i hi => absurd hi (Nat.not_lt_zero i), b5⟩
  · rw [dc_n ok]
    exact db
theorem goM_b {l v : Int32} (h1 : 1 ≤ l.toInt) (h2 : l.toInt ≤ 60) (h3 : 1 ≤ v.toInt) (h4 : v.toInt ≤ 9) : 1 ≤ ((l + v - 1) / v).toInt ∧ ((l + v - 1) / v).toInt ≤ 68 := by
  have e1 : (1 : Int32).toInt = 1 := by decide
  have s : (l + v - 1).toInt = l.toInt + v.toInt - 1 := by
    rw [Int32.toInt_sub, Int32.toInt_add, e1, Int.bmod_eq_of_le (m := 2 ^ 32) (n := l.toInt + v.toInt) (by omega) (by omega), Int.bmod_eq_of_le (by omega) (by omega)]
  have q0 : 0 ≤ l.toInt + v.toInt - 1 := by omega
  have d1 : 1 ≤ (l.toInt + v.toInt - 1) / v.toInt := by
    rw [Int.le_ediv_iff_mul_le (by omega)]
    omega
  have d2 : (l.toInt + v.toInt - 1) / v.toInt ≤ l.toInt + v.toInt - 1 := Int.ediv_le_self _ q0
  rw [Int32.toInt_div, s, Int.tdiv_eq_ediv_of_nonneg q0, Int.bmod_eq_of_le (by omega) (by omega)]
  omega
theorem db_go (ab : ABd A) (gb : GBd A G) (ge : GBe A G) (db : DBd A D) : DBd A (nxgo A G D v1 v2 v3) := by
  unfold nxgo
  by_cases ok : goC A G D v1 v2 v3
  · rw [dc_y ok]
    have on := ok.1.1
    have dbo := db_on db on
    have mb := dbo.2.2.1
    obtain ⟨m0, m1, m2, m3, m4⟩ := mb
    have ir := ix_lt (by have := ab.2.2.2.1; omega) ok.1.2.1
    have iw := ix_lt (by have := ab.2.2.2.2.1; omega) dbo.1
    have bd := gb.2.2.1 _ ir
    have bw := gb.2.2.2 _ iw
    have er := ge.2.1 _ ir
    obtain ⟨s1, s9, -⟩ := ok_v bw ok.2.1
    have gm := goM_b (l := gRd G v1.toNatClampNeg 3) (v := v3) bd.2.2.2.1.1 bd.2.2.2.1.2 s1 s9
    have gm : 1 ≤ (goM G v1 v3).toInt ∧ (goM G v1 v3).toInt ≤ 68 := gm
    have e9 : (999 : Int32).toInt = 999 := by decide
    have s : ((dN D).2.1 + goM G v1 v3).toInt = (dN D).2.1.toInt + (goM G v1 v3).toInt := by
      rw [Int32.toInt_add, Int.bmod_eq_of_le (by omega) (by omega)]
    have c9 := le_i ok.2.2.2
    rw [s, e9] at c9
    refine db_kp db on ⟨?_, ?_, ?_, ?_, fun f hf => ?_⟩
    · show 0 ≤ (goT G v1 v2).toInt
      unfold goT
      by_cases z : v2 = 0
      · rw [if_pos z]; exact bd.2.1.1
      · rw [if_neg z]; exact bd.1.1
    · show (goT G v1 v2).toInt < _
      unfold goT
      by_cases z : v2 = 0
      · rw [if_pos z]; exact er.2
      · rw [if_neg z]; exact er.1
    · show 0 ≤ ((dN D).2.1 + goM G v1 v3).toInt
      omega
    · show ((dN D).2.1 + goM G v1 v3).toInt ≤ 999
      omega
    · show 0 ≤ (goG A G D v1 v2 v3 f).toInt ∧ (goG A G D v1 v2 v3 f).toInt ≤ ((dN D).2.1 + goM G v1 v3).toInt * 3747643200
      obtain ⟨g0, g1⟩ := m4 f hf
      rw [s]
      unfold goG
      by_cases rn : rnO A D (dN D).2.1
      · rw [dc_y rn]
        have ih := ix_lt (by have := ab.2.1; omega) rn.1
        have pb := pt_b (u := v2) (gb.1 _ ih) bd bw s1 s9 f hf
        have q := bJ_add (x := (dN D).2.2 f) (B := 999 * 3747643200) ⟨rfl, g0, by omega⟩ pb (by decide)
        rw [q.1]
        have := pb.2
        omega
      · rw [dc_n rn]
        omega
  · rw [dc_n ok]
    exact db
theorem stX_b (ab : ABd A) (gb : GBd A G) (iw : (dW D).toNatClampNeg < aW A) (cw : cwO A G (dN D).1) : 0 ≤ (stX A G D).toInt ∧ (stX A G D).toInt ≤ 3747643200 := by
  have ip := ix_lt (by have := ab.2.2.1; omega) cw.1
  have b := gb.2.1 _ ip
  have bw := gb.2.2.2 _ iw
  have bv : bI (dripOf (gPk G (dN D).1.toNatClampNeg) (gPv G (dN D).1.toNatClampNeg)) (dripOf (gPk G (dN D).1.toNatClampNeg) (gPv G (dN D).1.toNatClampNeg)).toInt 9 := by
    have q := cw.2
    unfold dripOf at q ⊢
    by_cases z : gPk G (dN D).1.toNatClampNeg = 1
    · rw [if_pos z]; exact ⟨rfl, by decide, by decide⟩
    · rw [if_neg z] at q ⊢
      by_cases z2 : gPk G (dN D).1.toNatClampNeg = 2
      · rw [if_pos z2]; exact bI_of b.2 (by decide)
      · rw [if_neg z2] at q; exact absurd rfl q
  have bm := bI_mx (B := 153) (bI_sub (bI_of bw.2.2.1 (by decide)) (sh_b bw) (by decide) (by decide)) (by have := bw.2.2.1.2; have := (sh_b bw).2.1; omega) (by decide)
  unfold stX drpO
  rw [dc_y cw]
  have q := bJ_mul (bJ_of (bI_mul bv bm (by decide))) (⟨by decide, by decide, by decide⟩ : bJ 2520 2520 2520) (by decide)
  rw [q.1]
  have := q.2
  omega
theorem stJ_b {xx : Int64} (hx : 0 ≤ xx.toInt ∧ xx.toInt ≤ 3747643200) {g : Int64} {B : Int} (hg : 0 ≤ g.toInt ∧ g.toInt ≤ B) (hB : B ≤ 999 * 3747643200) : ∀ k : Nat, k ≤ 60 → 0 ≤ (stJ A D xx t k g).toInt ∧ (stJ A D xx t k g).toInt ≤ B + (k : Int) * 3747643200
  | 0, _ => by
    show 0 ≤ g.toInt ∧ g.toInt ≤ B + ((0 : Nat) : Int) * 3747643200
    omega
  | k + 1, hk => by
    obtain ⟨q1, q2⟩ := stJ_b hx hg hB k (by omega)
    show 0 ≤ (dc (rnO A D (t + nI k)) (stJ A D xx t k g + xx) (stJ A D xx t k g)).toInt ∧ _
    by_cases rn : rnO A D (t + nI k)
    · have e : stJ A D xx t (k + 1) g = stJ A D xx t k g + xx := dc_y rn
      rw [e, dc_y rn, Int64.toInt_add, Int.bmod_eq_of_le (by omega) (by omega)]
      omega
    · have e : stJ A D xx t (k + 1) g = stJ A D xx t k g := dc_n rn
      rw [e, dc_n rn]
      omega
theorem db_stay (ab : ABd A) (gb : GBd A G) (db : DBd A D) : DBd A (nxstay A G D v) := by
  unfold nxstay
  by_cases ok : stC A G D v
  · rw [dc_y ok]
    have on := ok.1
    have dbo := db_on db on
    obtain ⟨m0, m1, m2, m3, m4⟩ := dbo.2.2.1
    have iw := ix_lt (by have := ab.2.2.2.2.1; omega) dbo.1
    have e1 : (1 : Int32).toInt = 1 := by decide
    have e60 : (60 : Int32).toInt = 60 := by decide
    have e9 : (999 : Int32).toInt = 999 := by decide
    have n1 := nlt_i (fun z => ok.2.1 (Or.inl z))
    have n2 := nlt_i (fun z => ok.2.1 (Or.inr z))
    have nn : (v.toNatClampNeg : Int) = v.toInt := by
      rw [Int32.toNatClampNeg]
      omega
    have s : ((dN D).2.1 + v).toInt = (dN D).2.1.toInt + v.toInt := by
      rw [Int32.toInt_add, Int.bmod_eq_of_le (by omega) (by omega)]
    have c9 := le_i ok.2.2.2
    rw [s, e9] at c9
    refine db_kp db on ⟨m0, m1, ?_, ?_, fun f hf => ?_⟩
    · show 0 ≤ ((dN D).2.1 + v).toInt
      omega
    · show ((dN D).2.1 + v).toInt ≤ 999
      omega
    · show 0 ≤ (stG A G D v.toNatClampNeg f).toInt ∧ (stG A G D v.toNatClampNeg f).toInt ≤ ((dN D).2.1 + v).toInt * 3747643200
      obtain ⟨g0, g1⟩ := m4 f hf
      rw [s]
      unfold stG
      by_cases z : f = 0
      · rw [if_pos z]
        rw [z] at g0 g1
        have q := stJ_b (A := A) (D := D) (t := (dN D).2.1) (stX_b ab gb iw ok.2.2.1) (g := (dN D).2.2 0) (B := (dN D).2.1.toInt * 3747643200) ⟨g0, g1⟩ (by omega) v.toNatClampNeg (by omega)
        omega
      · rw [if_neg z]
        omega
  · rw [dc_n ok]
    exact db
end C57
/-! the start of the day -/
section C58a
variable {S S0 T : HS} {c m v0 : Nat} {QU : HS → Prop}
theorem sr_X11_init (h : P_X11_init v0 QU S) (E : S = nW S0 v0 11 0) : P_X11_init v0 (fun T => QU T ∧ ∃ F g, BX S T v0 F g ∧ (5, 12, 900) ∈ F ∧ g 6 = 0 ∧ g 13 = 0 ∧ g 2 = -1 ∧ g 1 = 0 ∧ (∀ e ∈ F, e.1 ≠ 3) ∧ (21, 14, 7) ∈ F ∧ (22, 14, 112) ∈ F ∧ (23, 14, 21) ∈ F ∧ g 19 = -2 ∧ g 20 = 0 ∧ g 24 = 0 ∧ g 25 = 0) S := by
  have hv : v0 ∈ hL S := by rw [E]; exact List.mem_append_right _ (List.mem_singleton.mpr rfl)
  have hz : fI S v0 = fun _ => 0 := by rw [E]; exact zero_new.2
  have b0 := bx_rf (S0 := S) (v := v0) (fun j b e => by rw [E, zero_new.1 j] at e; exact absurd e (by simp))
  rw [hz] at b0
  delta P_X11_init P_X11_init_0
  obtain ⟨oq1, h⟩ := h
  refine ⟨oq1, ?_⟩
  intro Sq2 eSq2
  have h := h Sq2 eSq2
  have b1 := bx_I b0 hv eSq2
  intro aq3 eaq3
  have h := h aq3 eaq3
  intro Sq4 eSq4
  have h := h Sq4 eSq4
  intro Sq5 eSq5
  have h := h Sq5 eSq5
  have b2 := bx_arr b1 hv eaq3 eSq4 eSq5 (by decide) (by decide)
  intro aq6 eaq6
  have h := h aq6 eaq6
  intro Sq7 eSq7
  have h := h Sq7 eSq7
  intro Sq8 eSq8
  have h := h Sq8 eSq8
  have b3 := bx_arr b2 hv eaq6 eSq7 eSq8 (by decide) (by decide)
  intro aq9 eaq9
  have h := h aq9 eaq9
  intro Sq10 eSq10
  have h := h Sq10 eSq10
  intro Sq11 eSq11
  have h := h Sq11 eSq11
  have b4 := bx_arr b3 hv eaq9 eSq10 eSq11 (by decide) (by decide)
  intro aq12 eaq12
  have h := h aq12 eaq12
  intro Sq13 eSq13
  have h := h Sq13 eSq13
  intro Sq14 eSq14
  have h := h Sq14 eSq14
  have b5 := bx_arr b4 hv eaq12 eSq13 eSq14 (by decide) (by decide)
  intro Sq15 eSq15
  have h := h Sq15 eSq15
  have b6 := bx_I b5 hv eSq15
  intro aq16 eaq16
  have h := h aq16 eaq16
  intro Sq17 eSq17
  have h := h Sq17 eSq17
  intro Sq18 eSq18
  have h := h Sq18 eSq18
  have b7 := bx_arr b6 hv eaq16 eSq17 eSq18 (by decide) (by decide)
  intro aq19 eaq19
  have h := h aq19 eaq19
  intro Sq20 eSq20
  have h := h Sq20 eSq20
  intro Sq21 eSq21
  have h := h Sq21 eSq21
  have b8 := bx_arr b7 hv eaq19 eSq20 eSq21 (by decide) (by decide)
  intro aq22 eaq22
  have h := h aq22 eaq22
  intro Sq23 eSq23
  have h := h Sq23 eSq23
  intro Sq24 eSq24
  have h := h Sq24 eSq24
  have b9 := bx_arr b8 hv eaq22 eSq23 eSq24 (by decide) (by decide)
  exact ⟨h, _, _, b9, by simp, by decide, by decide, by decide, by decide, by decide, by simp, by simp, by simp, by decide, by decide, by decide, by decide⟩
end C58a

def M00 : MO := (0, 0, fun _ => 0)
def D00 : DY := (-1, 0, 0, 0, M00, (fun _ => M00), fun _ => M00)
section C58
variable {c m dy v0 a a3 x : Nat} {S T U : HS} {Q0 : HS → Prop} {F : List (Nat × Nat × Nat)} {g : Nat → Int32} {kk nn : Nat} {w : Int32}
theorem sz_X2_init (hx : x ∈ hL S) (h : P_X2_init a Q0 S) : P_X2_init a (fun T => Q0 T ∧ fI T x = fI S x ∧ x ∈ hL T) S := by
  delta P_X2_init P_X2_init_0
  intro a1 n1 S2 q2
  obtain ⟨o2, h⟩ := h a1 n1 S2 q2
  refine ⟨o2, fun S3 q3 => ⟨h S3 q3, ?_, ?_⟩⟩
  · rw [q3]
    show fI S2 x = _
    rw [q2]
    exact va_up_ne _ _ (fun z => n1 (z ▸ hx))
  · rw [q3]
    show x ∈ hL S2
    exact ((gr_of_new q2 n1) x hx).1
theorem sz69 (hx : v0 ∈ hL S) (h0 : fI S v0 0 = -1) (h : P_X0_init_69 Q0 v0 w kk nn S) : P_X0_init_69 (fun T => Q0 T ∧ fI T v0 0 = -1) v0 w kk nn S := by
  intro X hX
  refine h (fun a0 v1 kk nn T => (a0 = v0 ∧ v0 ∈ hL T ∧ fI T v0 0 = -1) → X a0 v1 kk nn T) ?_ ⟨rfl, hx, h0⟩
  rintro a0 v1 kk nn T h ⟨rfl, hx, h0⟩
  apply hX
  obtain ⟨o1, a1, e1, o2, h⟩ := h
  refine ⟨o1, _, e1, o2, fun c1 => ⟨(h.1 c1).1, (h.1 c1).2.1, (h.1 c1).2.2, h0⟩, fun c1 => ?_⟩
  obtain ⟨a3, e3, p1, p2, h⟩ := h.2 c1
  refine ⟨_, e3, p1, p2, fun a4 n4 S5 q5 => ?_⟩
  obtain ⟨p3, p4, h⟩ := h a4 n4 S5 q5
  have hx5 : a0 ∈ hL S5 := ((gr_of_new q5 n4) a0 hx).1
  have r5 : fI S5 a0 = fI T a0 := by
    rw [q5]
    exact va_up_ne _ _ (fun z => n4 (z ▸ hx))
  refine ⟨p3, p4, ?_⟩
  refine cm_X2_init (sz_X2_init hx5 h) h (fun S6 hp h g => ?_)
  obtain ⟨o6, i6, h⟩ := h g
  refine ⟨o6, i6, fun S10 q10 x11 q11 => h S10 q10 x11 q11 ⟨rfl, ?_, ?_⟩⟩
  · rw [q10]; exact hp.2.2
  · rw [q10]
    show fI S6 a0 0 = _
    rw [hp.2.1, r5]
    exact h0
theorem sz39 (hx : v0 ∈ hL S) (h0 : fI S v0 0 = -1) (h : P_X0_init_39 Q0 v0 w kk nn S) : P_X0_init_39 (fun T => Q0 T ∧ fI T v0 0 = -1) v0 w kk nn S := by
  intro X hX
  refine h (fun a0 v1 kk nn T => (a0 = v0 ∧ v0 ∈ hL T ∧ fI T v0 0 = -1) → X a0 v1 kk nn T) ?_ ⟨rfl, hx, h0⟩
  rintro a0 v1 kk nn T h ⟨rfl, hx, h0⟩
  apply hX
  obtain ⟨o1, a1, e1, o2, h⟩ := h
  refine ⟨o1, _, e1, o2, fun c1 => sz69 hx h0 (h.1 c1), fun c1 => ?_⟩
  obtain ⟨a3, e3, p1, p2, h⟩ := h.2 c1
  refine ⟨_, e3, p1, p2, fun a4 n4 S5 q5 => ?_⟩
  obtain ⟨p3, p4, h⟩ := h a4 n4 S5 q5
  have hx5 : a0 ∈ hL S5 := ((gr_of_new q5 n4) a0 hx).1
  have r5 : fI S5 a0 = fI T a0 := by
    rw [q5]
    exact va_up_ne _ _ (fun z => n4 (z ▸ hx))
  refine ⟨p3, p4, ?_⟩
  refine cm_X2_init (sz_X2_init hx5 h) h (fun S6 hp h g => ?_)
  obtain ⟨o6, i6, h⟩ := h g
  refine ⟨o6, i6, fun S10 q10 x11 q11 => h S10 q10 x11 q11 ⟨rfl, ?_, ?_⟩⟩
  · rw [q10]; exact hp.2.2
  · rw [q10]
    show fI S6 a0 0 = _
    rw [hp.2.1, r5]
    exact h0
theorem sz_X0_init (h : P_X0_init v0 Q0 S) : P_X0_init v0 (fun T => Q0 T ∧ fI T v0 0 = -1) S := by
  delta P_X0_init P_X0_init_0
  obtain ⟨o1, h⟩ := h
  refine ⟨o1, fun S1 q1 => ?_⟩
  obtain ⟨p1, p2, h⟩ := h S1 q1
  refine ⟨p1, p2, fun a2 n2 S3 q3 => ?_⟩
  obtain ⟨p3, p4, h⟩ := h a2 n2 S3 q3
  refine ⟨p3, p4, ?_⟩
  have h1 : v0 ∈ hL S1 := by rw [q1]; exact o1.1
  have f1 : fI S1 v0 0 = -1 := by rw [row_I q1]; rfl
  have h3 : v0 ∈ hL S3 := ((gr_of_new q3 n2) v0 h1).1
  have f3 : fI S3 v0 0 = -1 := by
    have w : fI S3 v0 = fI S1 v0 := by
      rw [q3]
      exact va_up_ne _ _ (fun z => n2 (z ▸ h1))
    rw [w]
    exact f1
  refine cm_X2_init (sz_X2_init h3 h) h (fun S4 hp h g => ?_)
  have h := h g
  intro S7 q7
  obtain ⟨p5, p6, h⟩ := h S7 q7
  have h7 : v0 ∈ hL S7 := by rw [q7]; exact hp.2.2
  have f7 : fI S7 v0 0 = -1 := by
    rw [q7]
    show fI S4 v0 0 = _
    rw [hp.2.1]
    exact f3
  refine ⟨p5, p6, fun a8 n8 S9 q9 S10 q10 => ?_⟩
  obtain ⟨p7, p8, h⟩ := h a8 n8 S9 q9 S10 q10
  have h9 : v0 ∈ hL S9 := ((gr_of_new q9 n8) v0 h7).1
  have f9 : fI S9 v0 0 = -1 := by
    have w : fI S9 v0 = fI S7 v0 := by
      rw [q9]
      exact va_up_ne _ _ (fun z => n8 (z ▸ h7))
    rw [w]
    exact f7
  have h10 : v0 ∈ hL S10 := by rw [q10]; exact h9
  have f10 : fI S10 v0 0 = -1 := by rw [q10]; exact f9
  refine ⟨p7, p8, fun a11 n11 S12 q12 S13 q13 => ?_⟩
  have h := h a11 n11 S12 q12 S13 q13
  have h12 : v0 ∈ hL S12 := ((gr_of_new q12 n11) v0 h10).1
  have f12 : fI S12 v0 0 = -1 := by
    have w : fI S12 v0 = fI S10 v0 := by
      rw [q12]
      exact va_up_ne _ _ (fun z => n11 (z ▸ h10))
    rw [w]
    exact f10
  exact sz39 (by rw [q13]; exact h12) (by rw [q13]; exact f12) h
theorem sz_X9_init (h : P_X9_init c Q0 S) : P_X9_init c (fun T => Q0 T ∧ ∀ dy, fR T c 6 = some dy → fI T dy 0 = -1) S := by
  delta P_X9_init P_X9_init_0
  intro a1 n1 S2 q2
  obtain ⟨o2, h⟩ := h a1 n1 S2 q2
  refine ⟨o2, fun S3 q3 a4 n4 S5 q5 => ?_⟩
  have h := h S3 q3 a4 n4 S5 q5
  refine cm_X8_init h h (fun S6 h _ g => ?_)
  have h := h g
  intro S9 q9 a10 n10 S11 q11
  have h := h S9 q9 a10 n10 S11 q11
  refine cm_X4_init h h (fun S12 h _ g => ?_)
  have h := h g
  intro S15 q15 a16 n16 S17 q17
  have h := h S15 q15 a16 n16 S17 q17
  refine cm_X1_init h h (fun S18 h _ g => ?_)
  have h := h g
  intro S21 q21 a22 n22 S23 q23
  have h := h S21 q21 a22 n22 S23 q23
  refine cm_X7_init h h (fun S24 h _ g => ?_)
  have h := h g
  intro S27 q27 a28 n28 S29 q29
  have h := h S27 q27 a28 n28 S29 q29
  refine cm_X0_init (sz_X0_init h) h (fun S30 hp h g => ?_)
  have h := h g
  intro S33 q33
  refine ⟨h S33 q33, fun dy e => ?_⟩
  have e' : u2 (fR S30) c 6 (some a28) c 6 = some dy := by rw [q33] at e; exact e
  rw [u2_self] at e'
  cases e'
  rw [q33]
  exact hp.2
theorem st_rows {b : Nat} (hf : m ∉ hL S) (bx : BX (nW S m 11 0) T m F g) (ha : a3 ∉ hL T) (e5 : U = nW T a3 14 1) (hb : b ∈ hL S) : fI U b = fI S b ∧ fJ U b = fJ S b ∧ fR U b = fR S b ∧ b ∈ hL U ∧ hK U b = hK S b := by
  have gn : Gr S (nW S m 11 0) := gr_of_new rfl hf
  have gT : Gr S T := gr_tr gn bx.1
  have gU : Gr T U := gr_of_new e5 ha
  have g : Gr S U := gr_tr gT gU
  have xm : b ≠ m := fun z => hf (z ▸ hb)
  have xa : b ≠ a3 := fun z => ha (z ▸ (gT b hb).1)
  have q := bx.2.1 b (gn b hb).1 xm
  refine ⟨?_, ?_, ?_, (g b hb).1, (g b hb).2.1⟩
  · rw [e5]; exact (va_up_ne _ _ xa).trans (q.1.trans (va_up_ne _ _ xm))
  · rw [e5]; exact (va_up_ne _ _ xa).trans (q.2.1.trans (va_up_ne _ _ xm))
  · rw [e5]; exact (va_up_ne _ _ xa).trans (q.2.2.trans (va_up_ne _ _ xm))
theorem cd_start (hI : IV S) (oc : ob S c 9) (u : UZ S) (z : ZV S) (hw : ∀ dy, fR S c 6 = some dy → fI S dy 0 = -1) (hf : m ∉ hL S) (bx : BX (nW S m 11 0) T m F g) (ha : a3 ∉ hL T) (e5 : U = nW T a3 14 1) : ∃ dy, fR U c 6 = some dy ∧ CDd dy D00 U := by
  have row := fun {b : Nat} (hb : b ∈ hL S) => st_rows hf bx ha e5 hb
  have obU : ∀ {b q : Nat}, ob S b q → ob U b q := fun o => ⟨(row o.1).2.2.2.1, (row o.1).2.2.2.2.trans o.2⟩
  obtain ⟨dy, e6, od, -⟩ := hI.1 (9, 6, 0, 0) (by decide) c oc
  obtain ⟨nw, e4, on, -⟩ := hI.1 (0, 4, 2, 0) (by decide) dy od
  obtain ⟨pa, e5', op, np⟩ := hI.1 (0, 5, 16, 16) (by decide) dy od
  obtain ⟨ma, e6', om, nm⟩ := hI.1 (0, 6, 16, 3) (by decide) dy od
  have np : hN S pa = 16 := np.resolve_left (by decide)
  have nm : hN S ma = 3 := nm.resolve_left (by decide)
  have pm : pa ≠ ma := fun z => by rw [z] at np; omega
  have dp : dy ≠ pa := ob_ne od op (by decide)
  have dm : dy ≠ ma := ob_ne od om (by decide)
  have hjx : ∀ i, i < 20 → ∃ o x j, fR S x j = some o ∧ ob S o 2 ∧ ((i = 0 ∧ x = dy ∧ j = 4) ∨ (1 ≤ i ∧ i < 17 ∧ x = pa ∧ j + 1 = i) ∨ (17 ≤ i ∧ x = ma ∧ j + 17 = i)) := fun i hi => by
    by_cases h0 : i = 0
    · exact ⟨nw, dy, 4, e4, on, Or.inl ⟨h0, rfl, rfl⟩⟩
    · by_cases h1 : i < 17
      · obtain ⟨o, q1, q2⟩ := hI.2.1 16 (by decide) (by decide) pa op (i - 1) (by omega)
        exact ⟨o, pa, i - 1, q1, q2, Or.inr (Or.inl ⟨by omega, h1, rfl, by omega⟩)⟩
      · obtain ⟨o, q1, q2⟩ := hI.2.1 16 (by decide) (by decide) ma om (i - 17) (by omega)
        exact ⟨o, ma, i - 17, q1, q2, Or.inr (Or.inr ⟨by omega, rfl, by omega⟩)⟩
  let mo : Nat → Nat := fun i => if h : i < 20 then (hjx i h).choose else 0
  have hmo : ∀ i, i < 20 → ∃ x j, fR S x j = some (mo i) ∧ ob S (mo i) 2 ∧ ((i = 0 ∧ x = dy ∧ j = 4) ∨ (1 ≤ i ∧ i < 17 ∧ x = pa ∧ j + 1 = i) ∨ (17 ≤ i ∧ x = ma ∧ j + 17 = i)) := fun i hi => by
    have e : mo i = (hjx i hi).choose := dif_pos hi
    rw [e]
    exact (hjx i hi).choose_spec
  have hgx : ∀ i, i < 20 → ∃ b, fR S (mo i) 2 = some b ∧ ob S b 14 := fun i hi => by
    obtain ⟨x, j, -, o, -⟩ := hmo i hi
    obtain ⟨b, e, ob_, -⟩ := hI.1 (2, 2, 14, 5) (by decide) (mo i) o
    exact ⟨b, e, ob_⟩
  let go : Nat → Nat := fun i => if h : i < 20 then (hgx i h).choose else 0
  have hgo : ∀ i, i < 20 → fR S (mo i) 2 = some (go i) ∧ ob S (go i) 14 := fun i hi => by
    have e : go i = (hgx i hi).choose := dif_pos hi
    rw [e]
    exact (hgx i hi).choose_spec
  have m0 : fR S dy 4 = some (mo 0) := by
    obtain ⟨x, j, e, -, q⟩ := hmo 0 (by decide)
    rcases q with ⟨-, rfl, rfl⟩ | ⟨q, -⟩ | ⟨q, -⟩
    · exact e
    · omega
    · omega
  have m1 : ∀ i, i < 16 → fR S pa i = some (mo (1 + i)) := fun i hi => by
    obtain ⟨x, j, e, -, q⟩ := hmo (1 + i) (by omega)
    rcases q with ⟨q, -⟩ | ⟨-, -, rfl, q⟩ | ⟨q, -⟩
    · omega
    · have ij : j = i := by omega
      rw [ij] at e
      exact e
    · omega
  have m2 : ∀ i, i < 3 → fR S ma i = some (mo (17 + i)) := fun i hi => by
    obtain ⟨x, j, e, -, q⟩ := hmo (17 + i) (by omega)
    rcases q with ⟨q, -⟩ | ⟨-, q, -⟩ | ⟨-, rfl, q⟩
    · omega
    · omega
    · have ij : j = i := by omega
      rw [ij] at e
      exact e
  have mi : ∀ i j, i < 20 → j < 20 → mo i = mo j → i = j := fun i j hi hj e => by
    obtain ⟨x, q, ex, -, cx⟩ := hmo i hi
    obtain ⟨y, s, ey, -, cy⟩ := hmo j hj
    rw [e] at ex
    obtain ⟨q1, q2⟩ := u.1.2 x q y s (mo j) ex ey
    subst q1
    subst q2
    rcases cx with ⟨c1, c2, c3⟩ | ⟨c1, c2, c3, c4⟩ | ⟨c1, c2, c3⟩ <;> rcases cy with ⟨d1, d2, d3⟩ | ⟨d1, d2, d3, d4⟩ | ⟨d1, d2, d3⟩
    · omega
    · exact absurd (c2.symm.trans d3) dp
    · exact absurd (c2.symm.trans d2) dm
    · exact absurd (d2.symm.trans c3) dp
    · omega
    · exact absurd (c3.symm.trans d2) pm
    · exact absurd (d2.symm.trans c2) dm
    · exact absurd (d3.symm.trans c2) pm
    · omega
  have om2 : ∀ i, i < 20 → ob S (mo i) 2 := fun i hi => by
    obtain ⟨-, -, -, o, -⟩ := hmo i hi
    exact o
  have gi : ∀ i j, i < 20 → j < 20 → go i = go j → i = j := fun i j hi hj e => mi i j hi hj (u.1.2 (mo i) 2 (mo j) 2 (go j) (by rw [← e]; exact (hgo i hi).1) (hgo j hj).1).1
  have kind : ∀ x k, ob U x k → k < 12 → x ∈ hL S ∨ x = m := fun x k ox hk => by
    obtain ⟨o1, o2⟩ := ox
    rw [e5] at o1 o2
    have o1 : x ∈ hL T ++ [a3] := o1
    by_cases xa : x = a3
    · exfalso
      have o2 : va_up (hK T) a3 14 x = k := o2
      rw [xa, va_up_self] at o2
      omega
    · have o2 : va_up (hK T) a3 14 x = k := o2
      rw [va_up_ne _ _ xa] at o2
      rcases List.mem_append.mp o1 with z | z
      · rcases bx.2.2.1 x z with q | q
        · have q : x ∈ hL S ++ [m] := q
          rcases List.mem_append.mp q with q | q
          · exact Or.inl q
          · exact Or.inr (List.mem_singleton.mp q)
        · omega
      · exact absurd (List.mem_singleton.mp z) xa
  have nw9 : ∀ i, i < 20 → NW9 LB U (go i) := fun i hi q hq x ox zz => by
    have hk : q.1 < 12 ∧ q.1 ≠ 2 := by
      simp only [List.mem_cons, List.not_mem_nil, or_false] at hq
      rcases hq with rfl | rfl | rfl | rfl | rfl | rfl | rfl | rfl | rfl | rfl <;> decide
    rcases kind x q.1 ox hk.1 with hx | hx
    · rw [(row hx).2.2.1] at zz
      have q1 := (u.1.2 x q.2 (mo i) 2 (go i) zz (hgo i hi).1).1
      have ox' : hK S x = q.1 := (row hx).2.2.2.2.symm.trans ox.2
      rw [q1, (om2 i hi).2] at ox'
      exact hk.2 ox'.symm
    · have ma3 : m ≠ a3 := fun w => ha (w ▸ (bx.1 m (by show m ∈ hL S ++ [m]; simp)).1)
      have rm : fR U m = fR T m := by rw [e5]; exact va_up_ne _ _ ma3
      rw [hx, rm] at zz
      rcases bx.2.2.2.2.1 q.2 (go i) zz with y | y
      · exact y.1 ((gr_of_new (T := nW S m 11 0) rfl hf) (go i) (hgo i hi).2.1).1
      · have y : va_up (fR S) m (fun _ => none) m q.2 = some (go i) := y
        rw [va_up_self] at y
        cases y
  refine ⟨dy, by rw [(row oc.1).2.2.1]; exact e6, obU od, pa, ma, mo, go, ⟨by rw [(row od.1).2.2.1]; exact m0, by rw [(row od.1).2.2.1]; exact e5', by rw [(row od.1).2.2.1]; exact e6', obU op, pm, fun i hi => by rw [(row op.1).2.2.1]; exact m1 i hi, fun i hi => by rw [(row om.1).2.2.1]; exact m2 i hi, fun i hi => ⟨obU (om2 i hi), by rw [(row (om2 i hi).1).2.2.1]; exact (hgo i hi).1, obU (hgo i hi).2, nw9 i hi⟩, mi, gi⟩, ?_, ?_, ?_, ?_, by show 0 ≤ 16; omega, by show 0 ≤ 3; omega, ⟨?_, ?_, fun f hf => ?_⟩, fun i hi => absurd hi (Nat.not_lt_zero i), fun i hi => absurd hi (Nat.not_lt_zero i)⟩
  · rw [(row od.1).1]; exact hw dy e6
  · rw [(row od.1).1]; exact z.2.2 dy od 1 (by decide)
  · rw [(row od.1).1]; exact z.2.2 dy od 2 (by decide)
  · rw [(row od.1).1]; exact z.2.2 dy od 3 (by decide)
  · rw [(row (om2 0 (by decide)).1).1]; exact z.2.1 _ (om2 0 (by decide)) 0
  · rw [(row (om2 0 (by decide)).1).1]; exact z.2.1 _ (om2 0 (by decide)) 1
  · rw [(row (hgo 0 (by decide)).2.1).2.1]; exact z.1 _ f
theorem md_start (hf : m ∉ hL S) (bx : BX (nW S m 11 0) T m F g) (f1 : (21, 14, 7) ∈ F) (f2 : (22, 14, 112) ∈ F) (f3 : (23, 14, 21) ∈ F) (g1 : g 19 = -2) (g2 : g 20 = 0) (g3 : g 24 = 0) (g4 : g 25 = 0) (ha : a3 ∉ hL T) (e5 : U = nW T a3 14 1) : MDd m D00 U := by
  have mi : m ∈ hL (nW S m 11 0) := by
    show m ∈ hL S ++ [m]
    simp
  have mT := bx.1 m mi
  have gU : Gr T U := gr_of_new e5 ha
  have omT : ob T m 11 := ⟨mT.1, mT.2.1.trans (va_up_self _ _ _)⟩
  have row : ∀ b, b ∈ hL T → fI U b = fI T b ∧ fJ U b = fJ T b ∧ fR U b = fR T b := fun b hb => by
    have xa : b ≠ a3 := fun z => ha (z ▸ hb)
    rw [e5]
    exact ⟨va_up_ne _ _ xa, va_up_ne _ _ xa, va_up_ne _ _ xa⟩
  obtain ⟨d, d1, d2, d3, -, d5⟩ := bx.2.2.2.1 _ f1
  obtain ⟨p, p1, p2, p3, -, p5⟩ := bx.2.2.2.1 _ f2
  obtain ⟨k, k1, k2, k3, -, k5⟩ := bx.2.2.2.1 _ f3
  have inj := bx.2.2.2.2.2.1
  have gm : fI T m = g := bx.2.2.2.2.2.2.1
  have rm := row m omT.1
  refine ⟨gr_ob gU omT, d, p, k, ⟨by rw [rm.2.2]; exact d1, by rw [rm.2.2]; exact p1, by rw [rm.2.2]; exact k1, gr_ob gU d3, gr_ob gU p3, gr_ob gU k3, fun z => ?_, fun z => ?_, fun z => ?_⟩, ?_, ?_, ?_, ?_, by show 0 ≤ 16; omega, by show 0 ≤ 3; omega, ⟨?_, ?_, fun f hf => ?_⟩, fun i hi => absurd hi (Nat.not_lt_zero i), fun i hi => absurd hi (Nat.not_lt_zero i)⟩
  · exact absurd (inj 22 21 d d2 (z ▸ p1) d1) (by decide)
  · exact absurd (inj 23 21 d d2 (z ▸ k1) d1) (by decide)
  · exact absurd (inj 23 22 p p2 (z ▸ k1) p1) (by decide)
  · rw [rm.1, gm, g1]; rfl
  · rw [rm.1, gm, g2]; rfl
  · rw [rm.1, gm, g3]; rfl
  · rw [rm.1, gm, g4]; rfl
  · rw [(row d d3.1).2.1, d5]; rfl
  · rw [(row d d3.1).2.1, d5]; rfl
  · rw [(row d d3.1).2.1, d5]; rfl
theorem zv_1 {a : Nat} (E : S = nW S00 a 9 0) : ZV S := by
  have z : ZV S00 := ⟨fun _ _ => rfl, fun _ _ _ => rfl, fun _ _ _ _ => rfl⟩
  exact kzz_W z (by show a ∉ ([] : List Nat); simp) E
theorem db_00 : DBd A00 D00 := Or.inl ⟨rfl, rfl, rfl⟩
end C58
/-! both sides, with the day -/
def LDx (v2 : Nat) (S T : HS) : Prop := hL T = hL S ∧ hK T = hK S ∧ hN T = hN S ∧ fI T = fI S ∧ fR T = fR S ∧ ∀ b, b ≠ v2 → fJ T b = fJ S b
def WRq (c m : Nat) (S : HS) : Prop := ∃ A G D dy, WRa c m A G S ∧ GBd A G ∧ GBe A G ∧ Tld m A S ∧ fR S c 6 = some dy ∧ CDd dy D S ∧ MDd m D S ∧ DBd A D
section C59
variable {c m dy v2 r w1 w2 : Nat} {A : AS} {G : GC} {D : DY} {S T U : HS} {x y : Int32} {P : Prop} {wi wr : List (Nat × Nat)} {R : Option (AS × GC)}
theorem ans_eq (h : ans P x) (g : ans P y) : x = y := h.elim (fun a => g.elim (fun b => a.2.trans b.2.symm) (fun b => absurd a.1 b.1)) (fun a => g.elim (fun b => absurd b.1 a.1) (fun b => a.2.trans b.2.symm))
theorem cd_k3 (cd : CDd dy D S) : dK D ≤ 3 := by
  obtain ⟨_, _, _, _, _, _, cv⟩ := cd
  exact cv.2.2.2.2.2.1
theorem cd_led (hI : IV S) (l2 : hN S v2 = 1) (cd : CDd dy D S) (L : LDx v2 S T) : CDd dy D T := by
  obtain ⟨od, pa, ma, mo, go, cs, cv⟩ := cd
  obtain ⟨h1, h2, h3, h4, h5, h6⟩ := L
  have u := cv.2.2.2.2.1
  have k := cv.2.2.2.2.2.1
  have ng : ∀ i, i < 20 → fJ T (go i) = fJ S (go i) := fun i hi => h6 _ (fun z => by
    obtain ⟨b, e, -, n⟩ := hI.1 (2, 2, 14, 5) (by decide) (mo i) (mo_at cs hi).1
    cases e.symm.trans (mo_at cs hi).2.1
    have n := n.resolve_left (by decide)
    rw [z, l2] at n
    exact absurd n (by decide))
  have vm : ∀ i, i < 20 → ∀ w, VM S (mo i) (go i) w → VM T (mo i) (go i) w := fun i hi w h => vm_mv h (by rw [h4]) (by rw [h4]) (ng i hi)
  exact ⟨by unfold ob; rw [h1, h2]; exact od, pa, ma, mo, go, cs_mv cs h1 h2 h5, by rw [h4]; exact cv.1, by rw [h4]; exact cv.2.1, by rw [h4]; exact cv.2.2.1, by rw [h4]; exact cv.2.2.2.1, u, k, vm 0 (by decide) _ cv.2.2.2.2.2.2.1, fun i hi => vm _ (by omega) _ (cv.2.2.2.2.2.2.2.1 i hi), fun i hi => vm _ (by omega) _ (cv.2.2.2.2.2.2.2.2 i hi)⟩
theorem md_led (hI : IV S) (l2 : hN S v2 = 1) (md : MDd m D S) (L : LDx v2 S T) : MDd m D T := by
  obtain ⟨om, d, p, k, ms, q1, q2, q3, q4, q5, q6, q7, q8, q9⟩ := md
  obtain ⟨h1, h2, h3, h4, h5, h6⟩ := L
  have ne : ∀ j N b, (11, j, 14, N) ∈ shT → N ≠ 0 → N ≠ 1 → fR S m j = some b → fJ T b = fJ S b := fun j N b hs n0 n1 e => h6 _ (fun z => by
    obtain ⟨b', e', -, n⟩ := hI.1 _ hs m om
    cases e'.symm.trans e
    have n : hN S b = N := n.resolve_left n0
    rw [z, l2] at n
    exact n1 n.symm)
  have k1 := ne 21 7 d (by decide) (by decide) (by decide) ms.1
  have k2 := ne 22 112 p (by decide) (by decide) (by decide) ms.2.1
  have k3 := ne 23 21 k (by decide) (by decide) (by decide) ms.2.2.1
  exact ⟨by unfold ob; rw [h1, h2]; exact om, d, p, k, ms_mv ms ⟨h1, h2, h3, h5, fun _ _ => by rw [h4]⟩, by rw [h4]; exact q1, by rw [h4]; exact q2, by rw [h4]; exact q3, by rw [h4]; exact q4, q5, q6, mvd_mv q7 k1, fun i hi => mvd_mv (q8 i hi) k2, fun i hi => mvd_mv (q9 i hi) k3⟩
theorem wr_wq (hI : IV S) (hT : IV T) (hU : IV U) (om : ob S m 11) (J : CJ c r w1 w2 S) (h1 : Cnt w1 A S) (h2 : CtB w1 A G S S) (h3 : ABd A) (h4 : (fR S m 3 = none ∧ A = A00) ∨ ∃ rd, WRm m rd A G S) (g : Gr S T) (K' : K8 S T) (F : FRI wi wr S T) (hR : (11, 3) ∉ wr) (h10 : ∀ i, i < 31 → (10, i) ∉ wr) (h10i : ∀ j, j < 6 → (10, j) ∉ wi) (hW8 : ∀ j ∈ ([6, 7, 8, 9, 10, 11] : List Nat), (8, j) ∉ wr) (g' : Gr T U) (e : WCe c r w1 w2 S R T) (e' : WMe m T R U) (gb : GBd A G) (ge : GBe A G) (td : Tld m A S) (hG : ∀ p, R = some p → GBd p.1 p.2) (hE : ∀ p, R = some p → GBe p.1 p.2 ∧ 0 < aH p.1) (xr : (R = none ∧ x = -1) ∨ ((∃ p, R = some p) ∧ ¬ x = -1)) (e6 : fR U c 6 = some dy) (cdU : (x = -1 ∧ CDd dy D U) ∨ (¬ x = -1 ∧ CDd dy (offD D) U)) (mdU : (x = -1 → MDd m D U) ∧ (¬ x = -1 → MDd m (offD D) U)) (db : DBd A D) : WRq c m U := by
  obtain ⟨A', G', h, q⟩ := wr_worldz hI hT hU om J h1 h2 h3 h4 g K' F hR h10 h10i hW8 g' e e'
  rcases q with ⟨q0, q1, q2⟩ | q
  · have hx : x = -1 := xr.elim (fun z => z.2) (fun ⟨⟨p, z⟩, _⟩ => by rw [q0] at z; cases z)
    have cd : CDd dy D U := cdU.elim (fun z => z.2) (fun z => absurd hx z.1)
    have e3 : fR U m 3 = fR S m 3 := by
      rw [q0] at e'
      exact e'.2.2.2.trans (F.2 11 3 (by decide) hR m om)
    refine ⟨A', G', D, dy, h, by rw [q1, q2]; exact gb, by rw [q1, q2]; exact ge, ?_, e6, cd, mdU.1 hx, by rw [q1]; exact db⟩
    unfold Tld
    rw [e3, q1]
    exact td
  · have hx : ¬ x = -1 := xr.elim (fun z => by rw [q] at z; cases z.1) (fun z => z.2)
    have cd : CDd dy (offD D) U := cdU.elim (fun z => absurd z.1 hx) (fun z => z.2)
    exact ⟨A', G', offD D, dy, h, hG _ q, (hE _ q).1, Or.inr (hE _ q).2, e6, cd, mdU.2 hx, Or.inl ⟨rfl, rfl, rfl⟩⟩
end C59
end
section
theorem mz_X11_air {v0 : Nat} {v1 : Int32} {v2 : Int32} {v3 : Int32} {Q : Int32 → HS → Prop} {S : HS} (hI : IV S) (o_v0 : ob S v0 11)  (hq : ∀ (r : Int32) (T : HS), IV T → Gr S T → FRI [(11, 0), (11, 1), (11, 2)] [] S T → K2 S T → (NFq 11 2 c11 v0 T) → ((K7 S T ∧ K8 S T) ∧ (K9 false LA S T ∧ K9 true LB S T)) → Q r T) : P_X11_air v0 v1 v2 v3 Q S := cm_X11_air (cm_X11_air (Q3 := fun r T => (IV T ∧ Gr S T ∧ (FRI [(11, 0), (11, 1), (11, 2)] [] S T) ∧ K2 S T ∧ ((NFq 11 2 c11 v0 T))) ∧ (K7 S T ∧ K8 S T) ∧ (K9 false LA S T ∧ K9 true LB S T)) (cm_X11_air (Q3 := fun r T => (IV T ∧ Gr S T ∧ (FRI [(11, 0), (11, 1), (11, 2)] [] S T) ∧ K2 S T ∧ ((NFq 11 2 c11 v0 T))) ∧ K7 S T ∧ K8 S T) (kw_X11_air (mn_X11_air (Q := fun r T => IV T ∧ Gr S T ∧ (FRI [(11, 0), (11, 1), (11, 2)] [] S T) ∧ K2 S T ∧ ((NFq 11 2 c11 v0 T))) hI o_v0 (fun r T h0 h1 h2 h3 h4 => ⟨h0, h1, h2, h3, h4⟩))) (kx_X11_air (mn_X11_air (Q := fun r T => IV T ∧ Gr S T ∧ (FRI [(11, 0), (11, 1), (11, 2)] [] S T) ∧ K2 S T ∧ ((NFq 11 2 c11 v0 T))) hI o_v0 (fun r T h0 h1 h2 h3 h4 => ⟨h0, h1, h2, h3, h4⟩))) (fun r T a b => ⟨a.1, a.2, b.2⟩)) (cm_X11_air (Q3 := fun r T => (IV T ∧ Gr S T ∧ (FRI [(11, 0), (11, 1), (11, 2)] [] S T) ∧ K2 S T ∧ ((NFq 11 2 c11 v0 T))) ∧ (K9 false LA S T ∧ K9 true LB S T)) (ky_X11_air (b := false) (L := LA) (by decide) (by decide) (fun _ => rfl) (mn_X11_air (Q := fun r T => IV T ∧ Gr S T ∧ (FRI [(11, 0), (11, 1), (11, 2)] [] S T) ∧ K2 S T ∧ ((NFq 11 2 c11 v0 T))) hI o_v0 (fun r T h0 h1 h2 h3 h4 => ⟨h0, h1, h2, h3, h4⟩))) (ky_X11_air (b := true) (L := LB) (by decide) (by decide) (fun z => z.elim) (mn_X11_air (Q := fun r T => IV T ∧ Gr S T ∧ (FRI [(11, 0), (11, 1), (11, 2)] [] S T) ∧ K2 S T ∧ ((NFq 11 2 c11 v0 T))) hI o_v0 (fun r T h0 h1 h2 h3 h4 => ⟨h0, h1, h2, h3, h4⟩))) (fun r T a b => ⟨a.1, a.2, b.2⟩)) (fun r T a b => ⟨a.1, a.2, b.2⟩)) (mn_X11_air (Q := fun r T => IV T ∧ Gr S T ∧ (FRI [(11, 0), (11, 1), (11, 2)] [] S T) ∧ K2 S T ∧ ((NFq 11 2 c11 v0 T))) hI o_v0 (fun r T h0 h1 h2 h3 h4 => ⟨h0, h1, h2, h3, h4⟩)) (fun r T h _ => hq r T h.1.1 h.1.2.1 h.1.2.2.1 h.1.2.2.2.1 h.1.2.2.2.2 h.2)
theorem mt_X11_back {v0 : Nat} {v1 : Int32} {Q : Int32 → HS → Prop} {S : HS} (hI : IV S) (o_v0 : ob S v0 11) {A : AS} {G : GC} (hm : (fR S v0 3 = none ∧ A = A00) ∨ ∃ rd, WRm v0 rd A G S) (ab : ABd A) (gb : GBd A G) {D : DY} (md : MDd v0 D S) (db : DBd A D) (hq : ∀ (r : Int32) (T : HS), IV T → Gr S T → FRI [(11, 0), (11, 1), (11, 2), (11, 24)] [] S T → bl r → K2 S T → (NFq 11 2 c11 v0 T) → (((K7 S T ∧ K8 S T) ∧ K9 true LB S T) ∧ ans (¬ v1 < 0 ∧ v1 < nI (dK D)) r ∧ MDd v0 (bkF D v1) T) → Q r T) : P_X11_back v0 v1 Q S := cm_X11_back (cm_X11_back (Q3 := fun r T => (IV T ∧ Gr S T ∧ (FRI [(11, 0), (11, 1), (11, 2), (11, 24)] [] S T) ∧ bl r ∧ K2 S T ∧ ((NFq 11 2 c11 v0 T))) ∧ ((K7 S T ∧ K8 S T) ∧ K9 true LB S T) ∧ ans (¬ v1 < 0 ∧ v1 < nI (dK D)) r ∧ MDd v0 (bkF D v1) T) (cm_X11_back (Q3 := fun r T => (IV T ∧ Gr S T ∧ (FRI [(11, 0), (11, 1), (11, 2), (11, 24)] [] S T) ∧ bl r ∧ K2 S T ∧ ((NFq 11 2 c11 v0 T))) ∧ (K7 S T ∧ K8 S T) ∧ K9 true LB S T) (cm_X11_back (Q3 := fun r T => (IV T ∧ Gr S T ∧ (FRI [(11, 0), (11, 1), (11, 2), (11, 24)] [] S T) ∧ bl r ∧ K2 S T ∧ ((NFq 11 2 c11 v0 T))) ∧ K7 S T ∧ K8 S T) (kw_X11_back (mn_X11_back (Q := fun r T => IV T ∧ Gr S T ∧ (FRI [(11, 0), (11, 1), (11, 2), (11, 24)] [] S T) ∧ bl r ∧ K2 S T ∧ ((NFq 11 2 c11 v0 T))) hI o_v0 (fun r T h0 h1 h2 h3 h4 h5 => ⟨h0, h1, h2, h3, h4, h5⟩))) (kx_X11_back (mn_X11_back (Q := fun r T => IV T ∧ Gr S T ∧ (FRI [(11, 0), (11, 1), (11, 2), (11, 24)] [] S T) ∧ bl r ∧ K2 S T ∧ ((NFq 11 2 c11 v0 T))) hI o_v0 (fun r T h0 h1 h2 h3 h4 h5 => ⟨h0, h1, h2, h3, h4, h5⟩))) (fun r T a b => ⟨a.1, a.2, b.2⟩)) (ky_X11_back (b := true) (L := LB) (by decide) (by decide) (fun z => z.elim) (mn_X11_back (Q := fun r T => IV T ∧ Gr S T ∧ (FRI [(11, 0), (11, 1), (11, 2), (11, 24)] [] S T) ∧ bl r ∧ K2 S T ∧ ((NFq 11 2 c11 v0 T))) hI o_v0 (fun r T h0 h1 h2 h3 h4 h5 => ⟨h0, h1, h2, h3, h4, h5⟩))) (fun r T a b => ⟨a.1, a.2, b.2⟩)) (tl_X11_back hm md db (mn_X11_back (Q := fun r T => IV T ∧ Gr S T ∧ (FRI [(11, 0), (11, 1), (11, 2), (11, 24)] [] S T) ∧ bl r ∧ K2 S T ∧ ((NFq 11 2 c11 v0 T))) hI o_v0 (fun r T h0 h1 h2 h3 h4 h5 => ⟨h0, h1, h2, h3, h4, h5⟩))) (fun r T a b => ⟨a.1, a.2, b.2⟩)) (mn_X11_back (Q := fun r T => IV T ∧ Gr S T ∧ (FRI [(11, 0), (11, 1), (11, 2), (11, 24)] [] S T) ∧ bl r ∧ K2 S T ∧ ((NFq 11 2 c11 v0 T))) hI o_v0 (fun r T h0 h1 h2 h3 h4 h5 => ⟨h0, h1, h2, h3, h4, h5⟩)) (fun r T h _ => hq r T h.1.1 h.1.2.1 h.1.2.2.1 h.1.2.2.2.1 h.1.2.2.2.2.1 h.1.2.2.2.2.2 h.2)
theorem mz_X11_best {v0 : Nat} {v1 : Int32} {v2 : Int32} {v3 : Int32} {v4 : Int32} {Q : Int32 → HS → Prop} {S : HS} (hI : IV S) (o_v0 : ob S v0 11)  (hq : ∀ (r : Int32) (T : HS), IV T → Gr S T → FRI [(11, 0), (11, 1), (11, 2)] [] S T → K2 S T → (NFq 11 2 c11 v0 T) → ((K7 S T ∧ K8 S T) ∧ (K9 false LA S T ∧ K9 true LB S T)) → Q r T) : P_X11_best v0 v1 v2 v3 v4 Q S := cm_X11_best (cm_X11_best (Q3 := fun r T => (IV T ∧ Gr S T ∧ (FRI [(11, 0), (11, 1), (11, 2)] [] S T) ∧ K2 S T ∧ ((NFq 11 2 c11 v0 T))) ∧ (K7 S T ∧ K8 S T) ∧ (K9 false LA S T ∧ K9 true LB S T)) (cm_X11_best (Q3 := fun r T => (IV T ∧ Gr S T ∧ (FRI [(11, 0), (11, 1), (11, 2)] [] S T) ∧ K2 S T ∧ ((NFq 11 2 c11 v0 T))) ∧ K7 S T ∧ K8 S T) (kw_X11_best (mn_X11_best (Q := fun r T => IV T ∧ Gr S T ∧ (FRI [(11, 0), (11, 1), (11, 2)] [] S T) ∧ K2 S T ∧ ((NFq 11 2 c11 v0 T))) hI o_v0 (fun r T h0 h1 h2 h3 h4 => ⟨h0, h1, h2, h3, h4⟩))) (kx_X11_best (mn_X11_best (Q := fun r T => IV T ∧ Gr S T ∧ (FRI [(11, 0), (11, 1), (11, 2)] [] S T) ∧ K2 S T ∧ ((NFq 11 2 c11 v0 T))) hI o_v0 (fun r T h0 h1 h2 h3 h4 => ⟨h0, h1, h2, h3, h4⟩))) (fun r T a b => ⟨a.1, a.2, b.2⟩)) (cm_X11_best (Q3 := fun r T => (IV T ∧ Gr S T ∧ (FRI [(11, 0), (11, 1), (11, 2)] [] S T) ∧ K2 S T ∧ ((NFq 11 2 c11 v0 T))) ∧ (K9 false LA S T ∧ K9 true LB S T)) (ky_X11_best (b := false) (L := LA) (by decide) (by decide) (fun _ => rfl) (mn_X11_best (Q := fun r T => IV T ∧ Gr S T ∧ (FRI [(11, 0), (11, 1), (11, 2)] [] S T) ∧ K2 S T ∧ ((NFq 11 2 c11 v0 T))) hI o_v0 (fun r T h0 h1 h2 h3 h4 => ⟨h0, h1, h2, h3, h4⟩))) (ky_X11_best (b := true) (L := LB) (by decide) (by decide) (fun z => z.elim) (mn_X11_best (Q := fun r T => IV T ∧ Gr S T ∧ (FRI [(11, 0), (11, 1), (11, 2)] [] S T) ∧ K2 S T ∧ ((NFq 11 2 c11 v0 T))) hI o_v0 (fun r T h0 h1 h2 h3 h4 => ⟨h0, h1, h2, h3, h4⟩))) (fun r T a b => ⟨a.1, a.2, b.2⟩)) (fun r T a b => ⟨a.1, a.2, b.2⟩)) (mn_X11_best (Q := fun r T => IV T ∧ Gr S T ∧ (FRI [(11, 0), (11, 1), (11, 2)] [] S T) ∧ K2 S T ∧ ((NFq 11 2 c11 v0 T))) hI o_v0 (fun r T h0 h1 h2 h3 h4 => ⟨h0, h1, h2, h3, h4⟩)) (fun r T h _ => hq r T h.1.1 h.1.2.1 h.1.2.2.1 h.1.2.2.2.1 h.1.2.2.2.2 h.2)
theorem mt_X11_day {v0 : Nat} {v1 : Int32} {v2 : Int32} {v3 : Int32} {v4 : Int32} {Q : Int32 → HS → Prop} {S : HS} (hI : IV S) (o_v0 : ob S v0 11) {A : AS} {G : GC} (hm : (fR S v0 3 = none ∧ A = A00) ∨ ∃ rd, WRm v0 rd A G S) (ab : ABd A) (gb : GBd A G) {D : DY} (md : MDd v0 D S) (db : DBd A D) (hq : ∀ (r : Int32) (T : HS), IV T → Gr S T → FRI [(11, 0), (11, 1), (11, 2), (11, 19), (11, 20), (11, 24), (11, 25)] [] S T → K2 S T → (NFq 11 2 c11 v0 T) → (((K7 S T ∧ K8 S T) ∧ K9 true LB S T) ∧ r = tellday A G v1 v2 v3 v4 ∧ MDd v0 (nxday A G D v1 v2 v3 v4) T) → Q r T) : P_X11_day v0 v1 v2 v3 v4 Q S := cm_X11_day (cm_X11_day (Q3 := fun r T => (IV T ∧ Gr S T ∧ (FRI [(11, 0), (11, 1), (11, 2), (11, 19), (11, 20), (11, 24), (11, 25)] [] S T) ∧ K2 S T ∧ ((NFq 11 2 c11 v0 T))) ∧ ((K7 S T ∧ K8 S T) ∧ K9 true LB S T) ∧ r = tellday A G v1 v2 v3 v4 ∧ MDd v0 (nxday A G D v1 v2 v3 v4) T) (cm_X11_day (Q3 := fun r T => (IV T ∧ Gr S T ∧ (FRI [(11, 0), (11, 1), (11, 2), (11, 19), (11, 20), (11, 24), (11, 25)] [] S T) ∧ K2 S T ∧ ((NFq 11 2 c11 v0 T))) ∧ (K7 S T ∧ K8 S T) ∧ K9 true LB S T) (cm_X11_day (Q3 := fun r T => (IV T ∧ Gr S T ∧ (FRI [(11, 0), (11, 1), (11, 2), (11, 19), (11, 20), (11, 24), (11, 25)] [] S T) ∧ K2 S T ∧ ((NFq 11 2 c11 v0 T))) ∧ K7 S T ∧ K8 S T) (kw_X11_day (mn_X11_day (Q := fun r T => IV T ∧ Gr S T ∧ (FRI [(11, 0), (11, 1), (11, 2), (11, 19), (11, 20), (11, 24), (11, 25)] [] S T) ∧ K2 S T ∧ ((NFq 11 2 c11 v0 T))) hI o_v0 (fun r T h0 h1 h2 h3 h4 => ⟨h0, h1, h2, h3, h4⟩))) (kx_X11_day (mn_X11_day (Q := fun r T => IV T ∧ Gr S T ∧ (FRI [(11, 0), (11, 1), (11, 2), (11, 19), (11, 20), (11, 24), (11, 25)] [] S T) ∧ K2 S T ∧ ((NFq 11 2 c11 v0 T))) hI o_v0 (fun r T h0 h1 h2 h3 h4 => ⟨h0, h1, h2, h3, h4⟩))) (fun r T a b => ⟨a.1, a.2, b.2⟩)) (ky_X11_day (b := true) (L := LB) (by decide) (by decide) (fun z => z.elim) (mn_X11_day (Q := fun r T => IV T ∧ Gr S T ∧ (FRI [(11, 0), (11, 1), (11, 2), (11, 19), (11, 20), (11, 24), (11, 25)] [] S T) ∧ K2 S T ∧ ((NFq 11 2 c11 v0 T))) hI o_v0 (fun r T h0 h1 h2 h3 h4 => ⟨h0, h1, h2, h3, h4⟩))) (fun r T a b => ⟨a.1, a.2, b.2⟩)) (tl_X11_day hm ab md db (mn_X11_day (Q := fun r T => IV T ∧ Gr S T ∧ (FRI [(11, 0), (11, 1), (11, 2), (11, 19), (11, 20), (11, 24), (11, 25)] [] S T) ∧ K2 S T ∧ ((NFq 11 2 c11 v0 T))) hI o_v0 (fun r T h0 h1 h2 h3 h4 => ⟨h0, h1, h2, h3, h4⟩))) (fun r T a b => ⟨a.1, a.2, b.2⟩)) (mn_X11_day (Q := fun r T => IV T ∧ Gr S T ∧ (FRI [(11, 0), (11, 1), (11, 2), (11, 19), (11, 20), (11, 24), (11, 25)] [] S T) ∧ K2 S T ∧ ((NFq 11 2 c11 v0 T))) hI o_v0 (fun r T h0 h1 h2 h3 h4 => ⟨h0, h1, h2, h3, h4⟩)) (fun r T h _ => hq r T h.1.1 h.1.2.1 h.1.2.2.1 h.1.2.2.2.1 h.1.2.2.2.2 h.2)
theorem mz_X11_driest {v0 : Nat} {v1 : Int32} {v2 : Int32} {v3 : Int32} {Q : Int32 → HS → Prop} {S : HS} (hI : IV S) (o_v0 : ob S v0 11)  (hq : ∀ (r : Int32) (T : HS), IV T → Gr S T → FRI [(11, 0), (11, 1), (11, 2)] [] S T → K2 S T → (NFq 11 2 c11 v0 T) → ((K7 S T ∧ K8 S T) ∧ (K9 false LA S T ∧ K9 true LB S T)) → Q r T) : P_X11_driest v0 v1 v2 v3 Q S := cm_X11_driest (cm_X11_driest (Q3 := fun r T => (IV T ∧ Gr S T ∧ (FRI [(11, 0), (11, 1), (11, 2)] [] S T) ∧ K2 S T ∧ ((NFq 11 2 c11 v0 T))) ∧ (K7 S T ∧ K8 S T) ∧ (K9 false LA S T ∧ K9 true LB S T)) (cm_X11_driest (Q3 := fun r T => (IV T ∧ Gr S T ∧ (FRI [(11, 0), (11, 1), (11, 2)] [] S T) ∧ K2 S T ∧ ((NFq 11 2 c11 v0 T))) ∧ K7 S T ∧ K8 S T) (kw_X11_driest (mn_X11_driest (Q := fun r T => IV T ∧ Gr S T ∧ (FRI [(11, 0), (11, 1), (11, 2)] [] S T) ∧ K2 S T ∧ ((NFq 11 2 c11 v0 T))) hI o_v0 (fun r T h0 h1 h2 h3 h4 => ⟨h0, h1, h2, h3, h4⟩))) (kx_X11_driest (mn_X11_driest (Q := fun r T => IV T ∧ Gr S T ∧ (FRI [(11, 0), (11, 1), (11, 2)] [] S T) ∧ K2 S T ∧ ((NFq 11 2 c11 v0 T))) hI o_v0 (fun r T h0 h1 h2 h3 h4 => ⟨h0, h1, h2, h3, h4⟩))) (fun r T a b => ⟨a.1, a.2, b.2⟩)) (cm_X11_driest (Q3 := fun r T => (IV T ∧ Gr S T ∧ (FRI [(11, 0), (11, 1), (11, 2)] [] S T) ∧ K2 S T ∧ ((NFq 11 2 c11 v0 T))) ∧ (K9 false LA S T ∧ K9 true LB S T)) (ky_X11_driest (b := false) (L := LA) (by decide) (by decide) (fun _ => rfl) (mn_X11_driest (Q := fun r T => IV T ∧ Gr S T ∧ (FRI [(11, 0), (11, 1), (11, 2)] [] S T) ∧ K2 S T ∧ ((NFq 11 2 c11 v0 T))) hI o_v0 (fun r T h0 h1 h2 h3 h4 => ⟨h0, h1, h2, h3, h4⟩))) (ky_X11_driest (b := true) (L := LB) (by decide) (by decide) (fun z => z.elim) (mn_X11_driest (Q := fun r T => IV T ∧ Gr S T ∧ (FRI [(11, 0), (11, 1), (11, 2)] [] S T) ∧ K2 S T ∧ ((NFq 11 2 c11 v0 T))) hI o_v0 (fun r T h0 h1 h2 h3 h4 => ⟨h0, h1, h2, h3, h4⟩))) (fun r T a b => ⟨a.1, a.2, b.2⟩)) (fun r T a b => ⟨a.1, a.2, b.2⟩)) (mn_X11_driest (Q := fun r T => IV T ∧ Gr S T ∧ (FRI [(11, 0), (11, 1), (11, 2)] [] S T) ∧ K2 S T ∧ ((NFq 11 2 c11 v0 T))) hI o_v0 (fun r T h0 h1 h2 h3 h4 => ⟨h0, h1, h2, h3, h4⟩)) (fun r T h _ => hq r T h.1.1 h.1.2.1 h.1.2.2.1 h.1.2.2.2.1 h.1.2.2.2.2 h.2)
theorem mz_X11_even {v0 : Nat} {v1 : Int32} {v2 : Int32} {v3 : Int32} {v4 : Int32} {Q : Int32 → HS → Prop} {S : HS} (hI : IV S) (o_v0 : ob S v0 11)  (hq : ∀ (r : Int32) (T : HS), IV T → Gr S T → FRI [(11, 0), (11, 1), (11, 2)] [] S T → K2 S T → (NFq 11 2 c11 v0 T) → ((K7 S T ∧ K8 S T) ∧ (K9 false LA S T ∧ K9 true LB S T)) → Q r T) : P_X11_even v0 v1 v2 v3 v4 Q S := cm_X11_even (cm_X11_even (Q3 := fun r T => (IV T ∧ Gr S T ∧ (FRI [(11, 0), (11, 1), (11, 2)] [] S T) ∧ K2 S T ∧ ((NFq 11 2 c11 v0 T))) ∧ (K7 S T ∧ K8 S T) ∧ (K9 false LA S T ∧ K9 true LB S T)) (cm_X11_even (Q3 := fun r T => (IV T ∧ Gr S T ∧ (FRI [(11, 0), (11, 1), (11, 2)] [] S T) ∧ K2 S T ∧ ((NFq 11 2 c11 v0 T))) ∧ K7 S T ∧ K8 S T) (kw_X11_even (mn_X11_even (Q := fun r T => IV T ∧ Gr S T ∧ (FRI [(11, 0), (11, 1), (11, 2)] [] S T) ∧ K2 S T ∧ ((NFq 11 2 c11 v0 T))) hI o_v0 (fun r T h0 h1 h2 h3 h4 => ⟨h0, h1, h2, h3, h4⟩))) (kx_X11_even (mn_X11_even (Q := fun r T => IV T ∧ Gr S T ∧ (FRI [(11, 0), (11, 1), (11, 2)] [] S T) ∧ K2 S T ∧ ((NFq 11 2 c11 v0 T))) hI o_v0 (fun r T h0 h1 h2 h3 h4 => ⟨h0, h1, h2, h3, h4⟩))) (fun r T a b => ⟨a.1, a.2, b.2⟩)) (cm_X11_even (Q3 := fun r T => (IV T ∧ Gr S T ∧ (FRI [(11, 0), (11, 1), (11, 2)] [] S T) ∧ K2 S T ∧ ((NFq 11 2 c11 v0 T))) ∧ (K9 false LA S T ∧ K9 true LB S T)) (ky_X11_even (b := false) (L := LA) (by decide) (by decide) (fun _ => rfl) (mn_X11_even (Q := fun r T => IV T ∧ Gr S T ∧ (FRI [(11, 0), (11, 1), (11, 2)] [] S T) ∧ K2 S T ∧ ((NFq 11 2 c11 v0 T))) hI o_v0 (fun r T h0 h1 h2 h3 h4 => ⟨h0, h1, h2, h3, h4⟩))) (ky_X11_even (b := true) (L := LB) (by decide) (by decide) (fun z => z.elim) (mn_X11_even (Q := fun r T => IV T ∧ Gr S T ∧ (FRI [(11, 0), (11, 1), (11, 2)] [] S T) ∧ K2 S T ∧ ((NFq 11 2 c11 v0 T))) hI o_v0 (fun r T h0 h1 h2 h3 h4 => ⟨h0, h1, h2, h3, h4⟩))) (fun r T a b => ⟨a.1, a.2, b.2⟩)) (fun r T a b => ⟨a.1, a.2, b.2⟩)) (mn_X11_even (Q := fun r T => IV T ∧ Gr S T ∧ (FRI [(11, 0), (11, 1), (11, 2)] [] S T) ∧ K2 S T ∧ ((NFq 11 2 c11 v0 T))) hI o_v0 (fun r T h0 h1 h2 h3 h4 => ⟨h0, h1, h2, h3, h4⟩)) (fun r T h _ => hq r T h.1.1 h.1.2.1 h.1.2.2.1 h.1.2.2.2.1 h.1.2.2.2.2 h.2)
theorem mz_X11_face {v0 : Nat} {v1 : Int32} {v2 : Int32} {v3 : Int32} {v4 : Int32} {v5 : Int32} {v6 : Int32} {v7 : Int32} {Q : Int64 → HS → Prop} {S : HS} (hI : IV S) (o_v0 : ob S v0 11)  (hq : ∀ (r : Int64) (T : HS), IV T → Gr S T → FRI [(11, 0), (11, 1), (11, 2)] [] S T → K2 S T → (NFq 11 2 c11 v0 T) → ((K7 S T ∧ K8 S T) ∧ (K9 false LA S T ∧ K9 true LB S T)) → Q r T) : P_X11_face v0 v1 v2 v3 v4 v5 v6 v7 Q S := cm_X11_face (cm_X11_face (Q3 := fun r T => (IV T ∧ Gr S T ∧ (FRI [(11, 0), (11, 1), (11, 2)] [] S T) ∧ K2 S T ∧ ((NFq 11 2 c11 v0 T))) ∧ (K7 S T ∧ K8 S T) ∧ (K9 false LA S T ∧ K9 true LB S T)) (cm_X11_face (Q3 := fun r T => (IV T ∧ Gr S T ∧ (FRI [(11, 0), (11, 1), (11, 2)] [] S T) ∧ K2 S T ∧ ((NFq 11 2 c11 v0 T))) ∧ K7 S T ∧ K8 S T) (kw_X11_face (mn_X11_face (Q := fun r T => IV T ∧ Gr S T ∧ (FRI [(11, 0), (11, 1), (11, 2)] [] S T) ∧ K2 S T ∧ ((NFq 11 2 c11 v0 T))) hI o_v0 (fun r T h0 h1 h2 h3 h4 => ⟨h0, h1, h2, h3, h4⟩))) (kx_X11_face (mn_X11_face (Q := fun r T => IV T ∧ Gr S T ∧ (FRI [(11, 0), (11, 1), (11, 2)] [] S T) ∧ K2 S T ∧ ((NFq 11 2 c11 v0 T))) hI o_v0 (fun r T h0 h1 h2 h3 h4 => ⟨h0, h1, h2, h3, h4⟩))) (fun r T a b => ⟨a.1, a.2, b.2⟩)) (cm_X11_face (Q3 := fun r T => (IV T ∧ Gr S T ∧ (FRI [(11, 0), (11, 1), (11, 2)] [] S T) ∧ K2 S T ∧ ((NFq 11 2 c11 v0 T))) ∧ (K9 false LA S T ∧ K9 true LB S T)) (ky_X11_face (b := false) (L := LA) (by decide) (by decide) (fun _ => rfl) (mn_X11_face (Q := fun r T => IV T ∧ Gr S T ∧ (FRI [(11, 0), (11, 1), (11, 2)] [] S T) ∧ K2 S T ∧ ((NFq 11 2 c11 v0 T))) hI o_v0 (fun r T h0 h1 h2 h3 h4 => ⟨h0, h1, h2, h3, h4⟩))) (ky_X11_face (b := true) (L := LB) (by decide) (by decide) (fun z => z.elim) (mn_X11_face (Q := fun r T => IV T ∧ Gr S T ∧ (FRI [(11, 0), (11, 1), (11, 2)] [] S T) ∧ K2 S T ∧ ((NFq 11 2 c11 v0 T))) hI o_v0 (fun r T h0 h1 h2 h3 h4 => ⟨h0, h1, h2, h3, h4⟩))) (fun r T a b => ⟨a.1, a.2, b.2⟩)) (fun r T a b => ⟨a.1, a.2, b.2⟩)) (mn_X11_face (Q := fun r T => IV T ∧ Gr S T ∧ (FRI [(11, 0), (11, 1), (11, 2)] [] S T) ∧ K2 S T ∧ ((NFq 11 2 c11 v0 T))) hI o_v0 (fun r T h0 h1 h2 h3 h4 => ⟨h0, h1, h2, h3, h4⟩)) (fun r T h _ => hq r T h.1.1 h.1.2.1 h.1.2.2.1 h.1.2.2.2.1 h.1.2.2.2.2 h.2)
theorem mz_X11_fault {v0 : Nat} {Q : Int32 → HS → Prop} {S : HS} (hI : IV S) (o_v0 : ob S v0 11)  (hq : ∀ (r : Int32) (T : HS), IV T → Gr S T → FRI [(11, 0)] [] S T → K2 S T → (r = fI S v0 13) → ((K7 S T ∧ K8 S T) ∧ (K9 false LA S T ∧ K9 true LB S T)) → Q r T) : P_X11_fault v0 Q S := cm_X11_fault (cm_X11_fault (Q3 := fun r T => (IV T ∧ Gr S T ∧ (FRI [(11, 0)] [] S T) ∧ K2 S T ∧ ((r = fI S v0 13))) ∧ (K7 S T ∧ K8 S T) ∧ (K9 false LA S T ∧ K9 true LB S T)) (cm_X11_fault (Q3 := fun r T => (IV T ∧ Gr S T ∧ (FRI [(11, 0)] [] S T) ∧ K2 S T ∧ ((r = fI S v0 13))) ∧ K7 S T ∧ K8 S T) (kw_X11_fault (mv_X11_fault (Q := fun r T => IV T ∧ Gr S T ∧ (FRI [(11, 0)] [] S T) ∧ K2 S T ∧ ((r = fI S v0 13))) hI o_v0 (fun r T h0 h1 h2 h3 h4 => ⟨h0, h1, h2, h3, h4⟩))) (kx_X11_fault (mv_X11_fault (Q := fun r T => IV T ∧ Gr S T ∧ (FRI [(11, 0)] [] S T) ∧ K2 S T ∧ ((r = fI S v0 13))) hI o_v0 (fun r T h0 h1 h2 h3 h4 => ⟨h0, h1, h2, h3, h4⟩))) (fun r T a b => ⟨a.1, a.2, b.2⟩)) (cm_X11_fault (Q3 := fun r T => (IV T ∧ Gr S T ∧ (FRI [(11, 0)] [] S T) ∧ K2 S T ∧ ((r = fI S v0 13))) ∧ (K9 false LA S T ∧ K9 true LB S T)) (ky_X11_fault (b := false) (L := LA) (by decide) (by decide) (fun _ => rfl) (mv_X11_fault (Q := fun r T => IV T ∧ Gr S T ∧ (FRI [(11, 0)] [] S T) ∧ K2 S T ∧ ((r = fI S v0 13))) hI o_v0 (fun r T h0 h1 h2 h3 h4 => ⟨h0, h1, h2, h3, h4⟩))) (ky_X11_fault (b := true) (L := LB) (by decide) (by decide) (fun z => z.elim) (mv_X11_fault (Q := fun r T => IV T ∧ Gr S T ∧ (FRI [(11, 0)] [] S T) ∧ K2 S T ∧ ((r = fI S v0 13))) hI o_v0 (fun r T h0 h1 h2 h3 h4 => ⟨h0, h1, h2, h3, h4⟩))) (fun r T a b => ⟨a.1, a.2, b.2⟩)) (fun r T a b => ⟨a.1, a.2, b.2⟩)) (mv_X11_fault (Q := fun r T => IV T ∧ Gr S T ∧ (FRI [(11, 0)] [] S T) ∧ K2 S T ∧ ((r = fI S v0 13))) hI o_v0 (fun r T h0 h1 h2 h3 h4 => ⟨h0, h1, h2, h3, h4⟩)) (fun r T h _ => hq r T h.1.1 h.1.2.1 h.1.2.2.1 h.1.2.2.2.1 h.1.2.2.2.2 h.2)
theorem mz_X11_feed {v0 : Nat} {v1 : Int32} {v2 : Int32} {v3 : Int32} {v4 : Int32} {v5 : Int32} {Q : Int32 → HS → Prop} {S : HS} (hI : IV S) (o_v0 : ob S v0 11) {f : Nat → Int32} {t a : Nat} (P : TP 5 6 f t a v0 S) (ht : t ≤ 900)  (hq : ∀ (r : Int32) (T : HS), IV T → Gr S T → FRI [(11, 0), (11, 6)] [] S T → ((900 < fI S v0 6 + 20 → r = -1 ∧ fI T v0 6 = fI S v0 6) ∧ (fI S v0 6 + 20 ≤ 900 → r = fI T v0 6 ∧ fI T v0 6 = fI S v0 6 + 20)) → (FT [0, 6] a v0 S T ∧ ((t + 20 ≤ 900 ∧ r = nI (t + 20) ∧ TP 5 6 (f20 f t v1 v2 v3 v4 v5) (t + 20) a v0 T) ∨ (900 < t + 20 ∧ r = -1 ∧ TP 5 6 (f20 f t v1 v2 v3 v4 v5) t a v0 T))) → ((K7 S T ∧ K8 S T) ∧ (K9 false LA S T ∧ K9 true LB S T)) → Q r T) : P_X11_feed v0 v1 v2 v3 v4 v5 Q S := cm_X11_feed (cm_X11_feed (Q3 := fun r T => (IV T ∧ Gr S T ∧ (FRI [(11, 0), (11, 6)] [] S T) ∧ (((900 < fI S v0 6 + 20 → r = -1 ∧ fI T v0 6 = fI S v0 6) ∧ (fI S v0 6 + 20 ≤ 900 → r = fI T v0 6 ∧ fI T v0 6 = fI S v0 6 + 20))) ∧ ((FT [0, 6] a v0 S T ∧ ((t + 20 ≤ 900 ∧ r = nI (t + 20) ∧ TP 5 6 (f20 f t v1 v2 v3 v4 v5) (t + 20) a v0 T) ∨ (900 < t + 20 ∧ r = -1 ∧ TP 5 6 (f20 f t v1 v2 v3 v4 v5) t a v0 T))))) ∧ (K7 S T ∧ K8 S T) ∧ (K9 false LA S T ∧ K9 true LB S T)) (cm_X11_feed (Q3 := fun r T => (IV T ∧ Gr S T ∧ (FRI [(11, 0), (11, 6)] [] S T) ∧ (((900 < fI S v0 6 + 20 → r = -1 ∧ fI T v0 6 = fI S v0 6) ∧ (fI S v0 6 + 20 ≤ 900 → r = fI T v0 6 ∧ fI T v0 6 = fI S v0 6 + 20))) ∧ ((FT [0, 6] a v0 S T ∧ ((t + 20 ≤ 900 ∧ r = nI (t + 20) ∧ TP 5 6 (f20 f t v1 v2 v3 v4 v5) (t + 20) a v0 T) ∨ (900 < t + 20 ∧ r = -1 ∧ TP 5 6 (f20 f t v1 v2 v3 v4 v5) t a v0 T))))) ∧ K7 S T ∧ K8 S T) (kw_X11_feed (ml_X11_feed (Q := fun r T => IV T ∧ Gr S T ∧ (FRI [(11, 0), (11, 6)] [] S T) ∧ (((900 < fI S v0 6 + 20 → r = -1 ∧ fI T v0 6 = fI S v0 6) ∧ (fI S v0 6 + 20 ≤ 900 → r = fI T v0 6 ∧ fI T v0 6 = fI S v0 6 + 20))) ∧ ((FT [0, 6] a v0 S T ∧ ((t + 20 ≤ 900 ∧ r = nI (t + 20) ∧ TP 5 6 (f20 f t v1 v2 v3 v4 v5) (t + 20) a v0 T) ∨ (900 < t + 20 ∧ r = -1 ∧ TP 5 6 (f20 f t v1 v2 v3 v4 v5) t a v0 T))))) hI o_v0 P ht (fun r T h0 h1 h2 h3 h4 => ⟨h0, h1, h2, h3, h4⟩))) (kx_X11_feed (ml_X11_feed (Q := fun r T => IV T ∧ Gr S T ∧ (FRI [(11, 0), (11, 6)] [] S T) ∧ (((900 < fI S v0 6 + 20 → r = -1 ∧ fI T v0 6 = fI S v0 6) ∧ (fI S v0 6 + 20 ≤ 900 → r = fI T v0 6 ∧ fI T v0 6 = fI S v0 6 + 20))) ∧ ((FT [0, 6] a v0 S T ∧ ((t + 20 ≤ 900 ∧ r = nI (t + 20) ∧ TP 5 6 (f20 f t v1 v2 v3 v4 v5) (t + 20) a v0 T) ∨ (900 < t + 20 ∧ r = -1 ∧ TP 5 6 (f20 f t v1 v2 v3 v4 v5) t a v0 T))))) hI o_v0 P ht (fun r T h0 h1 h2 h3 h4 => ⟨h0, h1, h2, h3, h4⟩))) (fun r T a b => ⟨a.1, a.2, b.2⟩)) (cm_X11_feed (Q3 := fun r T => (IV T ∧ Gr S T ∧ (FRI [(11, 0), (11, 6)] [] S T) ∧ (((900 < fI S v0 6 + 20 → r = -1 ∧ fI T v0 6 = fI S v0 6) ∧ (fI S v0 6 + 20 ≤ 900 → r = fI T v0 6 ∧ fI T v0 6 = fI S v0 6 + 20))) ∧ ((FT [0, 6] a v0 S T ∧ ((t + 20 ≤ 900 ∧ r = nI (t + 20) ∧ TP 5 6 (f20 f t v1 v2 v3 v4 v5) (t + 20) a v0 T) ∨ (900 < t + 20 ∧ r = -1 ∧ TP 5 6 (f20 f t v1 v2 v3 v4 v5) t a v0 T))))) ∧ (K9 false LA S T ∧ K9 true LB S T)) (ky_X11_feed (b := false) (L := LA) (by decide) (by decide) (fun _ => rfl) (ml_X11_feed (Q := fun r T => IV T ∧ Gr S T ∧ (FRI [(11, 0), (11, 6)] [] S T) ∧ (((900 < fI S v0 6 + 20 → r = -1 ∧ fI T v0 6 = fI S v0 6) ∧ (fI S v0 6 + 20 ≤ 900 → r = fI T v0 6 ∧ fI T v0 6 = fI S v0 6 + 20))) ∧ ((FT [0, 6] a v0 S T ∧ ((t + 20 ≤ 900 ∧ r = nI (t + 20) ∧ TP 5 6 (f20 f t v1 v2 v3 v4 v5) (t + 20) a v0 T) ∨ (900 < t + 20 ∧ r = -1 ∧ TP 5 6 (f20 f t v1 v2 v3 v4 v5) t a v0 T))))) hI o_v0 P ht (fun r T h0 h1 h2 h3 h4 => ⟨h0, h1, h2, h3, h4⟩))) (ky_X11_feed (b := true) (L := LB) (by decide) (by decide) (fun z => z.elim) (ml_X11_feed (Q := fun r T => IV T ∧ Gr S T ∧ (FRI [(11, 0), (11, 6)] [] S T) ∧ (((900 < fI S v0 6 + 20 → r = -1 ∧ fI T v0 6 = fI S v0 6) ∧ (fI S v0 6 + 20 ≤ 900 → r = fI T v0 6 ∧ fI T v0 6 = fI S v0 6 + 20))) ∧ ((FT [0, 6] a v0 S T ∧ ((t + 20 ≤ 900 ∧ r = nI (t + 20) ∧ TP 5 6 (f20 f t v1 v2 v3 v4 v5) (t + 20) a v0 T) ∨ (900 < t + 20 ∧ r = -1 ∧ TP 5 6 (f20 f t v1 v2 v3 v4 v5) t a v0 T))))) hI o_v0 P ht (fun r T h0 h1 h2 h3 h4 => ⟨h0, h1, h2, h3, h4⟩))) (fun r T a b => ⟨a.1, a.2, b.2⟩)) (fun r T a b => ⟨a.1, a.2, b.2⟩)) (ml_X11_feed (Q := fun r T => IV T ∧ Gr S T ∧ (FRI [(11, 0), (11, 6)] [] S T) ∧ (((900 < fI S v0 6 + 20 → r = -1 ∧ fI T v0 6 = fI S v0 6) ∧ (fI S v0 6 + 20 ≤ 900 → r = fI T v0 6 ∧ fI T v0 6 = fI S v0 6 + 20))) ∧ ((FT [0, 6] a v0 S T ∧ ((t + 20 ≤ 900 ∧ r = nI (t + 20) ∧ TP 5 6 (f20 f t v1 v2 v3 v4 v5) (t + 20) a v0 T) ∨ (900 < t + 20 ∧ r = -1 ∧ TP 5 6 (f20 f t v1 v2 v3 v4 v5) t a v0 T))))) hI o_v0 P ht (fun r T h0 h1 h2 h3 h4 => ⟨h0, h1, h2, h3, h4⟩)) (fun r T h _ => hq r T h.1.1 h.1.2.1 h.1.2.2.1 h.1.2.2.2.1 h.1.2.2.2.2 h.2)
theorem mz_X11_first {v0 : Nat} {v1 : Int32} {v2 : Int32} {v3 : Int32} {v4 : Int32} {v5 : Int32} {v6 : Int32} {Q : Int32 → HS → Prop} {S : HS} (hI : IV S) (o_v0 : ob S v0 11)  (hq : ∀ (r : Int32) (T : HS), IV T → Gr S T → FRI [(11, 0), (11, 1), (11, 2)] [] S T → K2 S T → (NFq 11 2 c11 v0 T) → ((K7 S T ∧ K8 S T) ∧ (K9 false LA S T ∧ K9 true LB S T)) → Q r T) : P_X11_first v0 v1 v2 v3 v4 v5 v6 Q S := cm_X11_first (cm_X11_first (Q3 := fun r T => (IV T ∧ Gr S T ∧ (FRI [(11, 0), (11, 1), (11, 2)] [] S T) ∧ K2 S T ∧ ((NFq 11 2 c11 v0 T))) ∧ (K7 S T ∧ K8 S T) ∧ (K9 false LA S T ∧ K9 true LB S T)) (cm_X11_first (Q3 := fun r T => (IV T ∧ Gr S T ∧ (FRI [(11, 0), (11, 1), (11, 2)] [] S T) ∧ K2 S T ∧ ((NFq 11 2 c11 v0 T))) ∧ K7 S T ∧ K8 S T) (kw_X11_first (mn_X11_first (Q := fun r T => IV T ∧ Gr S T ∧ (FRI [(11, 0), (11, 1), (11, 2)] [] S T) ∧ K2 S T ∧ ((NFq 11 2 c11 v0 T))) hI o_v0 (fun r T h0 h1 h2 h3 h4 => ⟨h0, h1, h2, h3, h4⟩))) (kx_X11_first (mn_X11_first (Q := fun r T => IV T ∧ Gr S T ∧ (FRI [(11, 0), (11, 1), (11, 2)] [] S T) ∧ K2 S T ∧ ((NFq 11 2 c11 v0 T))) hI o_v0 (fun r T h0 h1 h2 h3 h4 => ⟨h0, h1, h2, h3, h4⟩))) (fun r T a b => ⟨a.1, a.2, b.2⟩)) (cm_X11_first (Q3 := fun r T => (IV T ∧ Gr S T ∧ (FRI [(11, 0), (11, 1), (11, 2)] [] S T) ∧ K2 S T ∧ ((NFq 11 2 c11 v0 T))) ∧ (K9 false LA S T ∧ K9 true LB S T)) (ky_X11_first (b := false) (L := LA) (by decide) (by decide) (fun _ => rfl) (mn_X11_first (Q := fun r T => IV T ∧ Gr S T ∧ (FRI [(11, 0), (11, 1), (11, 2)] [] S T) ∧ K2 S T ∧ ((NFq 11 2 c11 v0 T))) hI o_v0 (fun r T h0 h1 h2 h3 h4 => ⟨h0, h1, h2, h3, h4⟩))) (ky_X11_first (b := true) (L := LB) (by decide) (by decide) (fun z => z.elim) (mn_X11_first (Q := fun r T => IV T ∧ Gr S T ∧ (FRI [(11, 0), (11, 1), (11, 2)] [] S T) ∧ K2 S T ∧ ((NFq 11 2 c11 v0 T))) hI o_v0 (fun r T h0 h1 h2 h3 h4 => ⟨h0, h1, h2, h3, h4⟩))) (fun r T a b => ⟨a.1, a.2, b.2⟩)) (fun r T a b => ⟨a.1, a.2, b.2⟩)) (mn_X11_first (Q := fun r T => IV T ∧ Gr S T ∧ (FRI [(11, 0), (11, 1), (11, 2)] [] S T) ∧ K2 S T ∧ ((NFq 11 2 c11 v0 T))) hI o_v0 (fun r T h0 h1 h2 h3 h4 => ⟨h0, h1, h2, h3, h4⟩)) (fun r T h _ => hq r T h.1.1 h.1.2.1 h.1.2.2.1 h.1.2.2.2.1 h.1.2.2.2.2 h.2)
theorem mz_X11_fit {v0 : Nat} {v1 : Int32} {v2 : Int32} {Q : Int32 → HS → Prop} {S : HS} (hI : IV S) (o_v0 : ob S v0 11)  (hq : ∀ (r : Int32) (T : HS), IV T → Gr S T → FRI [(11, 0), (11, 1), (11, 2)] [] S T → K2 S T → (NFq 11 2 c11 v0 T) → ((K7 S T ∧ K8 S T) ∧ (K9 false LA S T ∧ K9 true LB S T)) → Q r T) : P_X11_fit v0 v1 v2 Q S := cm_X11_fit (cm_X11_fit (Q3 := fun r T => (IV T ∧ Gr S T ∧ (FRI [(11, 0), (11, 1), (11, 2)] [] S T) ∧ K2 S T ∧ ((NFq 11 2 c11 v0 T))) ∧ (K7 S T ∧ K8 S T) ∧ (K9 false LA S T ∧ K9 true LB S T)) (cm_X11_fit (Q3 := fun r T => (IV T ∧ Gr S T ∧ (FRI [(11, 0), (11, 1), (11, 2)] [] S T) ∧ K2 S T ∧ ((NFq 11 2 c11 v0 T))) ∧ K7 S T ∧ K8 S T) (kw_X11_fit (mn_X11_fit (Q := fun r T => IV T ∧ Gr S T ∧ (FRI [(11, 0), (11, 1), (11, 2)] [] S T) ∧ K2 S T ∧ ((NFq 11 2 c11 v0 T))) hI o_v0 (fun r T h0 h1 h2 h3 h4 => ⟨h0, h1, h2, h3, h4⟩))) (kx_X11_fit (mn_X11_fit (Q := fun r T => IV T ∧ Gr S T ∧ (FRI [(11, 0), (11, 1), (11, 2)] [] S T) ∧ K2 S T ∧ ((NFq 11 2 c11 v0 T))) hI o_v0 (fun r T h0 h1 h2 h3 h4 => ⟨h0, h1, h2, h3, h4⟩))) (fun r T a b => ⟨a.1, a.2, b.2⟩)) (cm_X11_fit (Q3 := fun r T => (IV T ∧ Gr S T ∧ (FRI [(11, 0), (11, 1), (11, 2)] [] S T) ∧ K2 S T ∧ ((NFq 11 2 c11 v0 T))) ∧ (K9 false LA S T ∧ K9 true LB S T)) (ky_X11_fit (b := false) (L := LA) (by decide) (by decide) (fun _ => rfl) (mn_X11_fit (Q := fun r T => IV T ∧ Gr S T ∧ (FRI [(11, 0), (11, 1), (11, 2)] [] S T) ∧ K2 S T ∧ ((NFq 11 2 c11 v0 T))) hI o_v0 (fun r T h0 h1 h2 h3 h4 => ⟨h0, h1, h2, h3, h4⟩))) (ky_X11_fit (b := true) (L := LB) (by decide) (by decide) (fun z => z.elim) (mn_X11_fit (Q := fun r T => IV T ∧ Gr S T ∧ (FRI [(11, 0), (11, 1), (11, 2)] [] S T) ∧ K2 S T ∧ ((NFq 11 2 c11 v0 T))) hI o_v0 (fun r T h0 h1 h2 h3 h4 => ⟨h0, h1, h2, h3, h4⟩))) (fun r T a b => ⟨a.1, a.2, b.2⟩)) (fun r T a b => ⟨a.1, a.2, b.2⟩)) (mn_X11_fit (Q := fun r T => IV T ∧ Gr S T ∧ (FRI [(11, 0), (11, 1), (11, 2)] [] S T) ∧ K2 S T ∧ ((NFq 11 2 c11 v0 T))) hI o_v0 (fun r T h0 h1 h2 h3 h4 => ⟨h0, h1, h2, h3, h4⟩)) (fun r T h _ => hq r T h.1.1 h.1.2.1 h.1.2.2.1 h.1.2.2.2.1 h.1.2.2.2.2 h.2)
theorem mz_X11_fits {v0 : Nat} {v1 : Int32} {Q : Int32 → HS → Prop} {S : HS} (hI : IV S) (o_v0 : ob S v0 11)  (hq : ∀ (r : Int32) (T : HS), IV T → Gr S T → FRI [(11, 0), (11, 1), (11, 2)] [] S T → K2 S T → (NFq 11 2 c11 v0 T) → ((K7 S T ∧ K8 S T) ∧ (K9 false LA S T ∧ K9 true LB S T)) → Q r T) : P_X11_fits v0 v1 Q S := cm_X11_fits (cm_X11_fits (Q3 := fun r T => (IV T ∧ Gr S T ∧ (FRI [(11, 0), (11, 1), (11, 2)] [] S T) ∧ K2 S T ∧ ((NFq 11 2 c11 v0 T))) ∧ (K7 S T ∧ K8 S T) ∧ (K9 false LA S T ∧ K9 true LB S T)) (cm_X11_fits (Q3 := fun r T => (IV T ∧ Gr S T ∧ (FRI [(11, 0), (11, 1), (11, 2)] [] S T) ∧ K2 S T ∧ ((NFq 11 2 c11 v0 T))) ∧ K7 S T ∧ K8 S T) (kw_X11_fits (mn_X11_fits (Q := fun r T => IV T ∧ Gr S T ∧ (FRI [(11, 0), (11, 1), (11, 2)] [] S T) ∧ K2 S T ∧ ((NFq 11 2 c11 v0 T))) hI o_v0 (fun r T h0 h1 h2 h3 h4 => ⟨h0, h1, h2, h3, h4⟩))) (kx_X11_fits (mn_X11_fits (Q := fun r T => IV T ∧ Gr S T ∧ (FRI [(11, 0), (11, 1), (11, 2)] [] S T) ∧ K2 S T ∧ ((NFq 11 2 c11 v0 T))) hI o_v0 (fun r T h0 h1 h2 h3 h4 => ⟨h0, h1, h2, h3, h4⟩))) (fun r T a b => ⟨a.1, a.2, b.2⟩)) (cm_X11_fits (Q3 := fun r T => (IV T ∧ Gr S T ∧ (FRI [(11, 0), (11, 1), (11, 2)] [] S T) ∧ K2 S T ∧ ((NFq 11 2 c11 v0 T))) ∧ (K9 false LA S T ∧ K9 true LB S T)) (ky_X11_fits (b := false) (L := LA) (by decide) (by decide) (fun _ => rfl) (mn_X11_fits (Q := fun r T => IV T ∧ Gr S T ∧ (FRI [(11, 0), (11, 1), (11, 2)] [] S T) ∧ K2 S T ∧ ((NFq 11 2 c11 v0 T))) hI o_v0 (fun r T h0 h1 h2 h3 h4 => ⟨h0, h1, h2, h3, h4⟩))) (ky_X11_fits (b := true) (L := LB) (by decide) (by decide) (fun z => z.elim) (mn_X11_fits (Q := fun r T => IV T ∧ Gr S T ∧ (FRI [(11, 0), (11, 1), (11, 2)] [] S T) ∧ K2 S T ∧ ((NFq 11 2 c11 v0 T))) hI o_v0 (fun r T h0 h1 h2 h3 h4 => ⟨h0, h1, h2, h3, h4⟩))) (fun r T a b => ⟨a.1, a.2, b.2⟩)) (fun r T a b => ⟨a.1, a.2, b.2⟩)) (mn_X11_fits (Q := fun r T => IV T ∧ Gr S T ∧ (FRI [(11, 0), (11, 1), (11, 2)] [] S T) ∧ K2 S T ∧ ((NFq 11 2 c11 v0 T))) hI o_v0 (fun r T h0 h1 h2 h3 h4 => ⟨h0, h1, h2, h3, h4⟩)) (fun r T h _ => hq r T h.1.1 h.1.2.1 h.1.2.2.1 h.1.2.2.2.1 h.1.2.2.2.2 h.2)
theorem mt_X11_go {v0 : Nat} {v1 : Int32} {v2 : Int32} {v3 : Int32} {Q : Int32 → HS → Prop} {S : HS} (hI : IV S) (o_v0 : ob S v0 11) {A : AS} {G : GC} (hm : (fR S v0 3 = none ∧ A = A00) ∨ ∃ rd, WRm v0 rd A G S) (ab : ABd A) (gb : GBd A G) {D : DY} (md : MDd v0 D S) (db : DBd A D) (hq : ∀ (r : Int32) (T : HS), IV T → Gr S T → FRI [(11, 0), (11, 1), (11, 2), (11, 24)] [] S T → K2 S T → (NFq 11 2 c11 v0 T) → (((K7 S T ∧ K8 S T) ∧ K9 true LB S T) ∧ r = tellgo A G D v1 v2 v3 ∧ MDd v0 (nxgo A G D v1 v2 v3) T) → Q r T) : P_X11_go v0 v1 v2 v3 Q S := cm_X11_go (cm_X11_go (Q3 := fun r T => (IV T ∧ Gr S T ∧ (FRI [(11, 0), (11, 1), (11, 2), (11, 24)] [] S T) ∧ K2 S T ∧ ((NFq 11 2 c11 v0 T))) ∧ ((K7 S T ∧ K8 S T) ∧ K9 true LB S T) ∧ r = tellgo A G D v1 v2 v3 ∧ MDd v0 (nxgo A G D v1 v2 v3) T) (cm_X11_go (Q3 := fun r T => (IV T ∧ Gr S T ∧ (FRI [(11, 0), (11, 1), (11, 2), (11, 24)] [] S T) ∧ K2 S T ∧ ((NFq 11 2 c11 v0 T))) ∧ (K7 S T ∧ K8 S T) ∧ K9 true LB S T) (cm_X11_go (Q3 := fun r T => (IV T ∧ Gr S T ∧ (FRI [(11, 0), (11, 1), (11, 2), (11, 24)] [] S T) ∧ K2 S T ∧ ((NFq 11 2 c11 v0 T))) ∧ K7 S T ∧ K8 S T) (kw_X11_go (mn_X11_go (Q := fun r T => IV T ∧ Gr S T ∧ (FRI [(11, 0), (11, 1), (11, 2), (11, 24)] [] S T) ∧ K2 S T ∧ ((NFq 11 2 c11 v0 T))) hI o_v0 (fun r T h0 h1 h2 h3 h4 => ⟨h0, h1, h2, h3, h4⟩))) (kx_X11_go (mn_X11_go (Q := fun r T => IV T ∧ Gr S T ∧ (FRI [(11, 0), (11, 1), (11, 2), (11, 24)] [] S T) ∧ K2 S T ∧ ((NFq 11 2 c11 v0 T))) hI o_v0 (fun r T h0 h1 h2 h3 h4 => ⟨h0, h1, h2, h3, h4⟩))) (fun r T a b => ⟨a.1, a.2, b.2⟩)) (ky_X11_go (b := true) (L := LB) (by decide) (by decide) (fun z => z.elim) (mn_X11_go (Q := fun r T => IV T ∧ Gr S T ∧ (FRI [(11, 0), (11, 1), (11, 2), (11, 24)] [] S T) ∧ K2 S T ∧ ((NFq 11 2 c11 v0 T))) hI o_v0 (fun r T h0 h1 h2 h3 h4 => ⟨h0, h1, h2, h3, h4⟩))) (fun r T a b => ⟨a.1, a.2, b.2⟩)) (tl_X11_go hI hm ab gb md db (mn_X11_go (Q := fun r T => IV T ∧ Gr S T ∧ (FRI [(11, 0), (11, 1), (11, 2), (11, 24)] [] S T) ∧ K2 S T ∧ ((NFq 11 2 c11 v0 T))) hI o_v0 (fun r T h0 h1 h2 h3 h4 => ⟨h0, h1, h2, h3, h4⟩))) (fun r T a b => ⟨a.1, a.2, b.2⟩)) (mn_X11_go (Q := fun r T => IV T ∧ Gr S T ∧ (FRI [(11, 0), (11, 1), (11, 2), (11, 24)] [] S T) ∧ K2 S T ∧ ((NFq 11 2 c11 v0 T))) hI o_v0 (fun r T h0 h1 h2 h3 h4 => ⟨h0, h1, h2, h3, h4⟩)) (fun r T h _ => hq r T h.1.1 h.1.2.1 h.1.2.2.1 h.1.2.2.2.1 h.1.2.2.2.2 h.2)
theorem mz_X11_got {v0 : Nat} {v1 : Int32} {v2 : Int32} {Q : Int64 → HS → Prop} {S : HS} (hI : IV S) (o_v0 : ob S v0 11)  (hq : ∀ (r : Int64) (T : HS), IV T → Gr S T → FRI [(11, 0), (11, 1), (11, 2)] [] S T → K2 S T → (NFq 11 2 c11 v0 T) → ((K7 S T ∧ K8 S T) ∧ (K9 false LA S T ∧ K9 true LB S T)) → Q r T) : P_X11_got v0 v1 v2 Q S := cm_X11_got (cm_X11_got (Q3 := fun r T => (IV T ∧ Gr S T ∧ (FRI [(11, 0), (11, 1), (11, 2)] [] S T) ∧ K2 S T ∧ ((NFq 11 2 c11 v0 T))) ∧ (K7 S T ∧ K8 S T) ∧ (K9 false LA S T ∧ K9 true LB S T)) (cm_X11_got (Q3 := fun r T => (IV T ∧ Gr S T ∧ (FRI [(11, 0), (11, 1), (11, 2)] [] S T) ∧ K2 S T ∧ ((NFq 11 2 c11 v0 T))) ∧ K7 S T ∧ K8 S T) (kw_X11_got (mn_X11_got (Q := fun r T => IV T ∧ Gr S T ∧ (FRI [(11, 0), (11, 1), (11, 2)] [] S T) ∧ K2 S T ∧ ((NFq 11 2 c11 v0 T))) hI o_v0 (fun r T h0 h1 h2 h3 h4 => ⟨h0, h1, h2, h3, h4⟩))) (kx_X11_got (mn_X11_got (Q := fun r T => IV T ∧ Gr S T ∧ (FRI [(11, 0), (11, 1), (11, 2)] [] S T) ∧ K2 S T ∧ ((NFq 11 2 c11 v0 T))) hI o_v0 (fun r T h0 h1 h2 h3 h4 => ⟨h0, h1, h2, h3, h4⟩))) (fun r T a b => ⟨a.1, a.2, b.2⟩)) (cm_X11_got (Q3 := fun r T => (IV T ∧ Gr S T ∧ (FRI [(11, 0), (11, 1), (11, 2)] [] S T) ∧ K2 S T ∧ ((NFq 11 2 c11 v0 T))) ∧ (K9 false LA S T ∧ K9 true LB S T)) (ky_X11_got (b := false) (L := LA) (by decide) (by decide) (fun _ => rfl) (mn_X11_got (Q := fun r T => IV T ∧ Gr S T ∧ (FRI [(11, 0), (11, 1), (11, 2)] [] S T) ∧ K2 S T ∧ ((NFq 11 2 c11 v0 T))) hI o_v0 (fun r T h0 h1 h2 h3 h4 => ⟨h0, h1, h2, h3, h4⟩))) (ky_X11_got (b := true) (L := LB) (by decide) (by decide) (fun z => z.elim) (mn_X11_got (Q := fun r T => IV T ∧ Gr S T ∧ (FRI [(11, 0), (11, 1), (11, 2)] [] S T) ∧ K2 S T ∧ ((NFq 11 2 c11 v0 T))) hI o_v0 (fun r T h0 h1 h2 h3 h4 => ⟨h0, h1, h2, h3, h4⟩))) (fun r T a b => ⟨a.1, a.2, b.2⟩)) (fun r T a b => ⟨a.1, a.2, b.2⟩)) (mn_X11_got (Q := fun r T => IV T ∧ Gr S T ∧ (FRI [(11, 0), (11, 1), (11, 2)] [] S T) ∧ K2 S T ∧ ((NFq 11 2 c11 v0 T))) hI o_v0 (fun r T h0 h1 h2 h3 h4 => ⟨h0, h1, h2, h3, h4⟩)) (fun r T h _ => hq r T h.1.1 h.1.2.1 h.1.2.2.1 h.1.2.2.2.1 h.1.2.2.2.2 h.2)
theorem mz_X11_held {v0 : Nat} {v1 : Int32} {v2 : Int32} {v3 : Int32} {v4 : Int32} {v5 : Int32} {Q : Int32 → HS → Prop} {S : HS} (hI : IV S) (o_v0 : ob S v0 11)  (hq : ∀ (r : Int32) (T : HS), IV T → Gr S T → FRI [(11, 0), (11, 1), (11, 2)] [] S T → K2 S T → (NFq 11 2 c11 v0 T) → ((K7 S T ∧ K8 S T) ∧ (K9 false LA S T ∧ K9 true LB S T)) → Q r T) : P_X11_held v0 v1 v2 v3 v4 v5 Q S := cm_X11_held (cm_X11_held (Q3 := fun r T => (IV T ∧ Gr S T ∧ (FRI [(11, 0), (11, 1), (11, 2)] [] S T) ∧ K2 S T ∧ ((NFq 11 2 c11 v0 T))) ∧ (K7 S T ∧ K8 S T) ∧ (K9 false LA S T ∧ K9 true LB S T)) (cm_X11_held (Q3 := fun r T => (IV T ∧ Gr S T ∧ (FRI [(11, 0), (11, 1), (11, 2)] [] S T) ∧ K2 S T ∧ ((NFq 11 2 c11 v0 T))) ∧ K7 S T ∧ K8 S T) (kw_X11_held (mn_X11_held (Q := fun r T => IV T ∧ Gr S T ∧ (FRI [(11, 0), (11, 1), (11, 2)] [] S T) ∧ K2 S T ∧ ((NFq 11 2 c11 v0 T))) hI o_v0 (fun r T h0 h1 h2 h3 h4 => ⟨h0, h1, h2, h3, h4⟩))) (kx_X11_held (mn_X11_held (Q := fun r T => IV T ∧ Gr S T ∧ (FRI [(11, 0), (11, 1), (11, 2)] [] S T) ∧ K2 S T ∧ ((NFq 11 2 c11 v0 T))) hI o_v0 (fun r T h0 h1 h2 h3 h4 => ⟨h0, h1, h2, h3, h4⟩))) (fun r T a b => ⟨a.1, a.2, b.2⟩)) (cm_X11_held (Q3 := fun r T => (IV T ∧ Gr S T ∧ (FRI [(11, 0), (11, 1), (11, 2)] [] S T) ∧ K2 S T ∧ ((NFq 11 2 c11 v0 T))) ∧ (K9 false LA S T ∧ K9 true LB S T)) (ky_X11_held (b := false) (L := LA) (by decide) (by decide) (fun _ => rfl) (mn_X11_held (Q := fun r T => IV T ∧ Gr S T ∧ (FRI [(11, 0), (11, 1), (11, 2)] [] S T) ∧ K2 S T ∧ ((NFq 11 2 c11 v0 T))) hI o_v0 (fun r T h0 h1 h2 h3 h4 => ⟨h0, h1, h2, h3, h4⟩))) (ky_X11_held (b := true) (L := LB) (by decide) (by decide) (fun z => z.elim) (mn_X11_held (Q := fun r T => IV T ∧ Gr S T ∧ (FRI [(11, 0), (11, 1), (11, 2)] [] S T) ∧ K2 S T ∧ ((NFq 11 2 c11 v0 T))) hI o_v0 (fun r T h0 h1 h2 h3 h4 => ⟨h0, h1, h2, h3, h4⟩))) (fun r T a b => ⟨a.1, a.2, b.2⟩)) (fun r T a b => ⟨a.1, a.2, b.2⟩)) (mn_X11_held (Q := fun r T => IV T ∧ Gr S T ∧ (FRI [(11, 0), (11, 1), (11, 2)] [] S T) ∧ K2 S T ∧ ((NFq 11 2 c11 v0 T))) hI o_v0 (fun r T h0 h1 h2 h3 h4 => ⟨h0, h1, h2, h3, h4⟩)) (fun r T h _ => hq r T h.1.1 h.1.2.1 h.1.2.2.1 h.1.2.2.2.1 h.1.2.2.2.2 h.2)
theorem mz_X11_least {v0 : Nat} {v1 : Int32} {v2 : Int32} {v3 : Int32} {v4 : Int32} {v5 : Int32} {v6 : Int32} {Q : Int64 → HS → Prop} {S : HS} (hI : IV S) (o_v0 : ob S v0 11)  (hq : ∀ (r : Int64) (T : HS), IV T → Gr S T → FRI [(11, 0), (11, 1), (11, 2)] [] S T → K2 S T → (NFq 11 2 c11 v0 T) → ((K7 S T ∧ K8 S T) ∧ (K9 false LA S T ∧ K9 true LB S T)) → Q r T) : P_X11_least v0 v1 v2 v3 v4 v5 v6 Q S := cm_X11_least (cm_X11_least (Q3 := fun r T => (IV T ∧ Gr S T ∧ (FRI [(11, 0), (11, 1), (11, 2)] [] S T) ∧ K2 S T ∧ ((NFq 11 2 c11 v0 T))) ∧ (K7 S T ∧ K8 S T) ∧ (K9 false LA S T ∧ K9 true LB S T)) (cm_X11_least (Q3 := fun r T => (IV T ∧ Gr S T ∧ (FRI [(11, 0), (11, 1), (11, 2)] [] S T) ∧ K2 S T ∧ ((NFq 11 2 c11 v0 T))) ∧ K7 S T ∧ K8 S T) (kw_X11_least (mn_X11_least (Q := fun r T => IV T ∧ Gr S T ∧ (FRI [(11, 0), (11, 1), (11, 2)] [] S T) ∧ K2 S T ∧ ((NFq 11 2 c11 v0 T))) hI o_v0 (fun r T h0 h1 h2 h3 h4 => ⟨h0, h1, h2, h3, h4⟩))) (kx_X11_least (mn_X11_least (Q := fun r T => IV T ∧ Gr S T ∧ (FRI [(11, 0), (11, 1), (11, 2)] [] S T) ∧ K2 S T ∧ ((NFq 11 2 c11 v0 T))) hI o_v0 (fun r T h0 h1 h2 h3 h4 => ⟨h0, h1, h2, h3, h4⟩))) (fun r T a b => ⟨a.1, a.2, b.2⟩)) (cm_X11_least (Q3 := fun r T => (IV T ∧ Gr S T ∧ (FRI [(11, 0), (11, 1), (11, 2)] [] S T) ∧ K2 S T ∧ ((NFq 11 2 c11 v0 T))) ∧ (K9 false LA S T ∧ K9 true LB S T)) (ky_X11_least (b := false) (L := LA) (by decide) (by decide) (fun _ => rfl) (mn_X11_least (Q := fun r T => IV T ∧ Gr S T ∧ (FRI [(11, 0), (11, 1), (11, 2)] [] S T) ∧ K2 S T ∧ ((NFq 11 2 c11 v0 T))) hI o_v0 (fun r T h0 h1 h2 h3 h4 => ⟨h0, h1, h2, h3, h4⟩))) (ky_X11_least (b := true) (L := LB) (by decide) (by decide) (fun z => z.elim) (mn_X11_least (Q := fun r T => IV T ∧ Gr S T ∧ (FRI [(11, 0), (11, 1), (11, 2)] [] S T) ∧ K2 S T ∧ ((NFq 11 2 c11 v0 T))) hI o_v0 (fun r T h0 h1 h2 h3 h4 => ⟨h0, h1, h2, h3, h4⟩))) (fun r T a b => ⟨a.1, a.2, b.2⟩)) (fun r T a b => ⟨a.1, a.2, b.2⟩)) (mn_X11_least (Q := fun r T => IV T ∧ Gr S T ∧ (FRI [(11, 0), (11, 1), (11, 2)] [] S T) ∧ K2 S T ∧ ((NFq 11 2 c11 v0 T))) hI o_v0 (fun r T h0 h1 h2 h3 h4 => ⟨h0, h1, h2, h3, h4⟩)) (fun r T h _ => hq r T h.1.1 h.1.2.1 h.1.2.2.1 h.1.2.2.2.1 h.1.2.2.2.2 h.2)
theorem mz_X11_led {v0 : Nat} {v1 : Int32} {Q : Int32 → HS → Prop} {S : HS} (hI : IV S) (o_v0 : ob S v0 11)  (hq : ∀ (r : Int32) (T : HS), IV T → Gr S T → FRI [(11, 0)] [] S T → K2 S T → ((K7 S T ∧ K8 S T) ∧ (K9 false LA S T ∧ K9 true LB S T)) → Q r T) : P_X11_led v0 v1 Q S := cm_X11_led (cm_X11_led (Q3 := fun r T => (IV T ∧ Gr S T ∧ (FRI [(11, 0)] [] S T) ∧ K2 S T) ∧ (K7 S T ∧ K8 S T) ∧ (K9 false LA S T ∧ K9 true LB S T)) (cm_X11_led (Q3 := fun r T => (IV T ∧ Gr S T ∧ (FRI [(11, 0)] [] S T) ∧ K2 S T) ∧ K7 S T ∧ K8 S T) (kw_X11_led (mk_X11_led (Q := fun r T => IV T ∧ Gr S T ∧ (FRI [(11, 0)] [] S T) ∧ K2 S T) hI o_v0 (fun r T h0 h1 h2 h3 => ⟨h0, h1, h2, h3⟩))) (kx_X11_led (mk_X11_led (Q := fun r T => IV T ∧ Gr S T ∧ (FRI [(11, 0)] [] S T) ∧ K2 S T) hI o_v0 (fun r T h0 h1 h2 h3 => ⟨h0, h1, h2, h3⟩))) (fun r T a b => ⟨a.1, a.2, b.2⟩)) (cm_X11_led (Q3 := fun r T => (IV T ∧ Gr S T ∧ (FRI [(11, 0)] [] S T) ∧ K2 S T) ∧ (K9 false LA S T ∧ K9 true LB S T)) (ky_X11_led (b := false) (L := LA) (by decide) (by decide) (fun _ => rfl) (mk_X11_led (Q := fun r T => IV T ∧ Gr S T ∧ (FRI [(11, 0)] [] S T) ∧ K2 S T) hI o_v0 (fun r T h0 h1 h2 h3 => ⟨h0, h1, h2, h3⟩))) (ky_X11_led (b := true) (L := LB) (by decide) (by decide) (fun z => z.elim) (mk_X11_led (Q := fun r T => IV T ∧ Gr S T ∧ (FRI [(11, 0)] [] S T) ∧ K2 S T) hI o_v0 (fun r T h0 h1 h2 h3 => ⟨h0, h1, h2, h3⟩))) (fun r T a b => ⟨a.1, a.2, b.2⟩)) (fun r T a b => ⟨a.1, a.2, b.2⟩)) (mk_X11_led (Q := fun r T => IV T ∧ Gr S T ∧ (FRI [(11, 0)] [] S T) ∧ K2 S T) hI o_v0 (fun r T h0 h1 h2 h3 => ⟨h0, h1, h2, h3⟩)) (fun r T h _ => hq r T h.1.1 h.1.2.1 h.1.2.2.1 h.1.2.2.2 h.2)
theorem mz_X11_lee {v0 : Nat} {v1 : Int32} {v2 : Int32} {v3 : Int32} {v4 : Int32} {v5 : Int32} {v6 : Int32} {v7 : Int32} {Q : Int64 → HS → Prop} {S : HS} (hI : IV S) (o_v0 : ob S v0 11)  (hq : ∀ (r : Int64) (T : HS), IV T → Gr S T → FRI [(11, 0), (11, 1), (11, 2)] [] S T → K2 S T → (NFq 11 2 c11 v0 T) → ((K7 S T ∧ K8 S T) ∧ (K9 false LA S T ∧ K9 true LB S T)) → Q r T) : P_X11_lee v0 v1 v2 v3 v4 v5 v6 v7 Q S := cm_X11_lee (cm_X11_lee (Q3 := fun r T => (IV T ∧ Gr S T ∧ (FRI [(11, 0), (11, 1), (11, 2)] [] S T) ∧ K2 S T ∧ ((NFq 11 2 c11 v0 T))) ∧ (K7 S T ∧ K8 S T) ∧ (K9 false LA S T ∧ K9 true LB S T)) (cm_X11_lee (Q3 := fun r T => (IV T ∧ Gr S T ∧ (FRI [(11, 0), (11, 1), (11, 2)] [] S T) ∧ K2 S T ∧ ((NFq 11 2 c11 v0 T))) ∧ K7 S T ∧ K8 S T) (kw_X11_lee (mn_X11_lee (Q := fun r T => IV T ∧ Gr S T ∧ (FRI [(11, 0), (11, 1), (11, 2)] [] S T) ∧ K2 S T ∧ ((NFq 11 2 c11 v0 T))) hI o_v0 (fun r T h0 h1 h2 h3 h4 => ⟨h0, h1, h2, h3, h4⟩))) (kx_X11_lee (mn_X11_lee (Q := fun r T => IV T ∧ Gr S T ∧ (FRI [(11, 0), (11, 1), (11, 2)] [] S T) ∧ K2 S T ∧ ((NFq 11 2 c11 v0 T))) hI o_v0 (fun r T h0 h1 h2 h3 h4 => ⟨h0, h1, h2, h3, h4⟩))) (fun r T a b => ⟨a.1, a.2, b.2⟩)) (cm_X11_lee (Q3 := fun r T => (IV T ∧ Gr S T ∧ (FRI [(11, 0), (11, 1), (11, 2)] [] S T) ∧ K2 S T ∧ ((NFq 11 2 c11 v0 T))) ∧ (K9 false LA S T ∧ K9 true LB S T)) (ky_X11_lee (b := false) (L := LA) (by decide) (by decide) (fun _ => rfl) (mn_X11_lee (Q := fun r T => IV T ∧ Gr S T ∧ (FRI [(11, 0), (11, 1), (11, 2)] [] S T) ∧ K2 S T ∧ ((NFq 11 2 c11 v0 T))) hI o_v0 (fun r T h0 h1 h2 h3 h4 => ⟨h0, h1, h2, h3, h4⟩))) (ky_X11_lee (b := true) (L := LB) (by decide) (by decide) (fun z => z.elim) (mn_X11_lee (Q := fun r T => IV T ∧ Gr S T ∧ (FRI [(11, 0), (11, 1), (11, 2)] [] S T) ∧ K2 S T ∧ ((NFq 11 2 c11 v0 T))) hI o_v0 (fun r T h0 h1 h2 h3 h4 => ⟨h0, h1, h2, h3, h4⟩))) (fun r T a b => ⟨a.1, a.2, b.2⟩)) (fun r T a b => ⟨a.1, a.2, b.2⟩)) (mn_X11_lee (Q := fun r T => IV T ∧ Gr S T ∧ (FRI [(11, 0), (11, 1), (11, 2)] [] S T) ∧ K2 S T ∧ ((NFq 11 2 c11 v0 T))) hI o_v0 (fun r T h0 h1 h2 h3 h4 => ⟨h0, h1, h2, h3, h4⟩)) (fun r T h _ => hq r T h.1.1 h.1.2.1 h.1.2.2.1 h.1.2.2.2.1 h.1.2.2.2.2 h.2)
theorem mz_X11_lies {v0 : Nat} {Q : Int32 → HS → Prop} {S : HS} (hI : IV S) (o_v0 : ob S v0 11)  (hq : ∀ (r : Int32) (T : HS), IV T → Gr S T → FRI [(11, 0), (11, 1), (11, 2)] [] S T → K2 S T → (NFq 11 2 c11 v0 T) → ((K7 S T ∧ K8 S T) ∧ (K9 false LA S T ∧ K9 true LB S T)) → Q r T) : P_X11_lies v0 Q S := cm_X11_lies (cm_X11_lies (Q3 := fun r T => (IV T ∧ Gr S T ∧ (FRI [(11, 0), (11, 1), (11, 2)] [] S T) ∧ K2 S T ∧ ((NFq 11 2 c11 v0 T))) ∧ (K7 S T ∧ K8 S T) ∧ (K9 false LA S T ∧ K9 true LB S T)) (cm_X11_lies (Q3 := fun r T => (IV T ∧ Gr S T ∧ (FRI [(11, 0), (11, 1), (11, 2)] [] S T) ∧ K2 S T ∧ ((NFq 11 2 c11 v0 T))) ∧ K7 S T ∧ K8 S T) (kw_X11_lies (mn_X11_lies (Q := fun r T => IV T ∧ Gr S T ∧ (FRI [(11, 0), (11, 1), (11, 2)] [] S T) ∧ K2 S T ∧ ((NFq 11 2 c11 v0 T))) hI o_v0 (fun r T h0 h1 h2 h3 h4 => ⟨h0, h1, h2, h3, h4⟩))) (kx_X11_lies (mn_X11_lies (Q := fun r T => IV T ∧ Gr S T ∧ (FRI [(11, 0), (11, 1), (11, 2)] [] S T) ∧ K2 S T ∧ ((NFq 11 2 c11 v0 T))) hI o_v0 (fun r T h0 h1 h2 h3 h4 => ⟨h0, h1, h2, h3, h4⟩))) (fun r T a b => ⟨a.1, a.2, b.2⟩)) (cm_X11_lies (Q3 := fun r T => (IV T ∧ Gr S T ∧ (FRI [(11, 0), (11, 1), (11, 2)] [] S T) ∧ K2 S T ∧ ((NFq 11 2 c11 v0 T))) ∧ (K9 false LA S T ∧ K9 true LB S T)) (ky_X11_lies (b := false) (L := LA) (by decide) (by decide) (fun _ => rfl) (mn_X11_lies (Q := fun r T => IV T ∧ Gr S T ∧ (FRI [(11, 0), (11, 1), (11, 2)] [] S T) ∧ K2 S T ∧ ((NFq 11 2 c11 v0 T))) hI o_v0 (fun r T h0 h1 h2 h3 h4 => ⟨h0, h1, h2, h3, h4⟩))) (ky_X11_lies (b := true) (L := LB) (by decide) (by decide) (fun z => z.elim) (mn_X11_lies (Q := fun r T => IV T ∧ Gr S T ∧ (FRI [(11, 0), (11, 1), (11, 2)] [] S T) ∧ K2 S T ∧ ((NFq 11 2 c11 v0 T))) hI o_v0 (fun r T h0 h1 h2 h3 h4 => ⟨h0, h1, h2, h3, h4⟩))) (fun r T a b => ⟨a.1, a.2, b.2⟩)) (fun r T a b => ⟨a.1, a.2, b.2⟩)) (mn_X11_lies (Q := fun r T => IV T ∧ Gr S T ∧ (FRI [(11, 0), (11, 1), (11, 2)] [] S T) ∧ K2 S T ∧ ((NFq 11 2 c11 v0 T))) hI o_v0 (fun r T h0 h1 h2 h3 h4 => ⟨h0, h1, h2, h3, h4⟩)) (fun r T h _ => hq r T h.1.1 h.1.2.1 h.1.2.2.1 h.1.2.2.2.1 h.1.2.2.2.2 h.2)
theorem mt_X11_mark {v0 : Nat} {Q : Int32 → HS → Prop} {S : HS} (hI : IV S) (o_v0 : ob S v0 11) {A : AS} {G : GC} (hm : (fR S v0 3 = none ∧ A = A00) ∨ ∃ rd, WRm v0 rd A G S) (ab : ABd A) (gb : GBd A G) {D : DY} (md : MDd v0 D S) (db : DBd A D) (hq : ∀ (r : Int32) (T : HS), IV T → Gr S T → FRI [(11, 0), (11, 1), (11, 2), (11, 25)] [] S T → K2 S T → (NFq 11 2 c11 v0 T) → (((K7 S T ∧ K8 S T) ∧ K9 true LB S T) ∧ r = tellmark D ∧ MDd v0 (nxmark D) T) → Q r T) : P_X11_mark v0 Q S := cm_X11_mark (cm_X11_mark (Q3 := fun r T => (IV T ∧ Gr S T ∧ (FRI [(11, 0), (11, 1), (11, 2), (11, 25)] [] S T) ∧ K2 S T ∧ ((NFq 11 2 c11 v0 T))) ∧ ((K7 S T ∧ K8 S T) ∧ K9 true LB S T) ∧ r = tellmark D ∧ MDd v0 (nxmark D) T) (cm_X11_mark (Q3 := fun r T => (IV T ∧ Gr S T ∧ (FRI [(11, 0), (11, 1), (11, 2), (11, 25)] [] S T) ∧ K2 S T ∧ ((NFq 11 2 c11 v0 T))) ∧ (K7 S T ∧ K8 S T) ∧ K9 true LB S T) (cm_X11_mark (Q3 := fun r T => (IV T ∧ Gr S T ∧ (FRI [(11, 0), (11, 1), (11, 2), (11, 25)] [] S T) ∧ K2 S T ∧ ((NFq 11 2 c11 v0 T))) ∧ K7 S T ∧ K8 S T) (kw_X11_mark (mn_X11_mark (Q := fun r T => IV T ∧ Gr S T ∧ (FRI [(11, 0), (11, 1), (11, 2), (11, 25)] [] S T) ∧ K2 S T ∧ ((NFq 11 2 c11 v0 T))) hI o_v0 (fun r T h0 h1 h2 h3 h4 => ⟨h0, h1, h2, h3, h4⟩))) (kx_X11_mark (mn_X11_mark (Q := fun r T => IV T ∧ Gr S T ∧ (FRI [(11, 0), (11, 1), (11, 2), (11, 25)] [] S T) ∧ K2 S T ∧ ((NFq 11 2 c11 v0 T))) hI o_v0 (fun r T h0 h1 h2 h3 h4 => ⟨h0, h1, h2, h3, h4⟩))) (fun r T a b => ⟨a.1, a.2, b.2⟩)) (ky_X11_mark (b := true) (L := LB) (by decide) (by decide) (fun z => z.elim) (mn_X11_mark (Q := fun r T => IV T ∧ Gr S T ∧ (FRI [(11, 0), (11, 1), (11, 2), (11, 25)] [] S T) ∧ K2 S T ∧ ((NFq 11 2 c11 v0 T))) hI o_v0 (fun r T h0 h1 h2 h3 h4 => ⟨h0, h1, h2, h3, h4⟩))) (fun r T a b => ⟨a.1, a.2, b.2⟩)) (tl_X11_mark hm md db (mn_X11_mark (Q := fun r T => IV T ∧ Gr S T ∧ (FRI [(11, 0), (11, 1), (11, 2), (11, 25)] [] S T) ∧ K2 S T ∧ ((NFq 11 2 c11 v0 T))) hI o_v0 (fun r T h0 h1 h2 h3 h4 => ⟨h0, h1, h2, h3, h4⟩))) (fun r T a b => ⟨a.1, a.2, b.2⟩)) (mn_X11_mark (Q := fun r T => IV T ∧ Gr S T ∧ (FRI [(11, 0), (11, 1), (11, 2), (11, 25)] [] S T) ∧ K2 S T ∧ ((NFq 11 2 c11 v0 T))) hI o_v0 (fun r T h0 h1 h2 h3 h4 => ⟨h0, h1, h2, h3, h4⟩)) (fun r T h _ => hq r T h.1.1 h.1.2.1 h.1.2.2.1 h.1.2.2.2.1 h.1.2.2.2.2 h.2)
theorem mz_X11_mean {v0 : Nat} {v1 : Int32} {v2 : Int32} {v3 : Int32} {v4 : Int32} {v5 : Int32} {v6 : Int32} {Q : Int64 → HS → Prop} {S : HS} (hI : IV S) (o_v0 : ob S v0 11)  (hq : ∀ (r : Int64) (T : HS), IV T → Gr S T → FRI [(11, 0), (11, 1), (11, 2)] [] S T → K2 S T → (NFq 11 2 c11 v0 T) → ((K7 S T ∧ K8 S T) ∧ (K9 false LA S T ∧ K9 true LB S T)) → Q r T) : P_X11_mean v0 v1 v2 v3 v4 v5 v6 Q S := cm_X11_mean (cm_X11_mean (Q3 := fun r T => (IV T ∧ Gr S T ∧ (FRI [(11, 0), (11, 1), (11, 2)] [] S T) ∧ K2 S T ∧ ((NFq 11 2 c11 v0 T))) ∧ (K7 S T ∧ K8 S T) ∧ (K9 false LA S T ∧ K9 true LB S T)) (cm_X11_mean (Q3 := fun r T => (IV T ∧ Gr S T ∧ (FRI [(11, 0), (11, 1), (11, 2)] [] S T) ∧ K2 S T ∧ ((NFq 11 2 c11 v0 T))) ∧ K7 S T ∧ K8 S T) (kw_X11_mean (mn_X11_mean (Q := fun r T => IV T ∧ Gr S T ∧ (FRI [(11, 0), (11, 1), (11, 2)] [] S T) ∧ K2 S T ∧ ((NFq 11 2 c11 v0 T))) hI o_v0 (fun r T h0 h1 h2 h3 h4 => ⟨h0, h1, h2, h3, h4⟩))) (kx_X11_mean (mn_X11_mean (Q := fun r T => IV T ∧ Gr S T ∧ (FRI [(11, 0), (11, 1), (11, 2)] [] S T) ∧ K2 S T ∧ ((NFq 11 2 c11 v0 T))) hI o_v0 (fun r T h0 h1 h2 h3 h4 => ⟨h0, h1, h2, h3, h4⟩))) (fun r T a b => ⟨a.1, a.2, b.2⟩)) (cm_X11_mean (Q3 := fun r T => (IV T ∧ Gr S T ∧ (FRI [(11, 0), (11, 1), (11, 2)] [] S T) ∧ K2 S T ∧ ((NFq 11 2 c11 v0 T))) ∧ (K9 false LA S T ∧ K9 true LB S T)) (ky_X11_mean (b := false) (L := LA) (by decide) (by decide) (fun _ => rfl) (mn_X11_mean (Q := fun r T => IV T ∧ Gr S T ∧ (FRI [(11, 0), (11, 1), (11, 2)] [] S T) ∧ K2 S T ∧ ((NFq 11 2 c11 v0 T))) hI o_v0 (fun r T h0 h1 h2 h3 h4 => ⟨h0, h1, h2, h3, h4⟩))) (ky_X11_mean (b := true) (L := LB) (by decide) (by decide) (fun z => z.elim) (mn_X11_mean (Q := fun r T => IV T ∧ Gr S T ∧ (FRI [(11, 0), (11, 1), (11, 2)] [] S T) ∧ K2 S T ∧ ((NFq 11 2 c11 v0 T))) hI o_v0 (fun r T h0 h1 h2 h3 h4 => ⟨h0, h1, h2, h3, h4⟩))) (fun r T a b => ⟨a.1, a.2, b.2⟩)) (fun r T a b => ⟨a.1, a.2, b.2⟩)) (mn_X11_mean (Q := fun r T => IV T ∧ Gr S T ∧ (FRI [(11, 0), (11, 1), (11, 2)] [] S T) ∧ K2 S T ∧ ((NFq 11 2 c11 v0 T))) hI o_v0 (fun r T h0 h1 h2 h3 h4 => ⟨h0, h1, h2, h3, h4⟩)) (fun r T h _ => hq r T h.1.1 h.1.2.1 h.1.2.2.1 h.1.2.2.2.1 h.1.2.2.2.2 h.2)
theorem mz_X11_minutes {v0 : Nat} {v1 : Int32} {v2 : Int32} {v3 : Int32} {Q : Int32 → HS → Prop} {S : HS} (hI : IV S) (o_v0 : ob S v0 11)  (hq : ∀ (r : Int32) (T : HS), IV T → Gr S T → FRI [(11, 0), (11, 1), (11, 2)] [] S T → K2 S T → (NFq 11 2 c11 v0 T) → ((K7 S T ∧ K8 S T) ∧ (K9 false LA S T ∧ K9 true LB S T)) → Q r T) : P_X11_minutes v0 v1 v2 v3 Q S := cm_X11_minutes (cm_X11_minutes (Q3 := fun r T => (IV T ∧ Gr S T ∧ (FRI [(11, 0), (11, 1), (11, 2)] [] S T) ∧ K2 S T ∧ ((NFq 11 2 c11 v0 T))) ∧ (K7 S T ∧ K8 S T) ∧ (K9 false LA S T ∧ K9 true LB S T)) (cm_X11_minutes (Q3 := fun r T => (IV T ∧ Gr S T ∧ (FRI [(11, 0), (11, 1), (11, 2)] [] S T) ∧ K2 S T ∧ ((NFq 11 2 c11 v0 T))) ∧ K7 S T ∧ K8 S T) (kw_X11_minutes (mn_X11_minutes (Q := fun r T => IV T ∧ Gr S T ∧ (FRI [(11, 0), (11, 1), (11, 2)] [] S T) ∧ K2 S T ∧ ((NFq 11 2 c11 v0 T))) hI o_v0 (fun r T h0 h1 h2 h3 h4 => ⟨h0, h1, h2, h3, h4⟩))) (kx_X11_minutes (mn_X11_minutes (Q := fun r T => IV T ∧ Gr S T ∧ (FRI [(11, 0), (11, 1), (11, 2)] [] S T) ∧ K2 S T ∧ ((NFq 11 2 c11 v0 T))) hI o_v0 (fun r T h0 h1 h2 h3 h4 => ⟨h0, h1, h2, h3, h4⟩))) (fun r T a b => ⟨a.1, a.2, b.2⟩)) (cm_X11_minutes (Q3 := fun r T => (IV T ∧ Gr S T ∧ (FRI [(11, 0), (11, 1), (11, 2)] [] S T) ∧ K2 S T ∧ ((NFq 11 2 c11 v0 T))) ∧ (K9 false LA S T ∧ K9 true LB S T)) (ky_X11_minutes (b := false) (L := LA) (by decide) (by decide) (fun _ => rfl) (mn_X11_minutes (Q := fun r T => IV T ∧ Gr S T ∧ (FRI [(11, 0), (11, 1), (11, 2)] [] S T) ∧ K2 S T ∧ ((NFq 11 2 c11 v0 T))) hI o_v0 (fun r T h0 h1 h2 h3 h4 => ⟨h0, h1, h2, h3, h4⟩))) (ky_X11_minutes (b := true) (L := LB) (by decide) (by decide) (fun z => z.elim) (mn_X11_minutes (Q := fun r T => IV T ∧ Gr S T ∧ (FRI [(11, 0), (11, 1), (11, 2)] [] S T) ∧ K2 S T ∧ ((NFq 11 2 c11 v0 T))) hI o_v0 (fun r T h0 h1 h2 h3 h4 => ⟨h0, h1, h2, h3, h4⟩))) (fun r T a b => ⟨a.1, a.2, b.2⟩)) (fun r T a b => ⟨a.1, a.2, b.2⟩)) (mn_X11_minutes (Q := fun r T => IV T ∧ Gr S T ∧ (FRI [(11, 0), (11, 1), (11, 2)] [] S T) ∧ K2 S T ∧ ((NFq 11 2 c11 v0 T))) hI o_v0 (fun r T h0 h1 h2 h3 h4 => ⟨h0, h1, h2, h3, h4⟩)) (fun r T h _ => hq r T h.1.1 h.1.2.1 h.1.2.2.1 h.1.2.2.2.1 h.1.2.2.2.2 h.2)
theorem mz_X11_off {v0 : Nat} {v1 : Int32} {v2 : Int32} {v3 : Int32} {v4 : Int32} {Q : Int32 → HS → Prop} {S : HS} (hI : IV S) (o_v0 : ob S v0 11)  (hq : ∀ (r : Int32) (T : HS), IV T → Gr S T → FRI [(11, 0), (11, 1), (11, 2)] [] S T → K2 S T → (NFq 11 2 c11 v0 T) → ((K7 S T ∧ K8 S T) ∧ (K9 false LA S T ∧ K9 true LB S T)) → Q r T) : P_X11_off v0 v1 v2 v3 v4 Q S := cm_X11_off (cm_X11_off (Q3 := fun r T => (IV T ∧ Gr S T ∧ (FRI [(11, 0), (11, 1), (11, 2)] [] S T) ∧ K2 S T ∧ ((NFq 11 2 c11 v0 T))) ∧ (K7 S T ∧ K8 S T) ∧ (K9 false LA S T ∧ K9 true LB S T)) (cm_X11_off (Q3 := fun r T => (IV T ∧ Gr S T ∧ (FRI [(11, 0), (11, 1), (11, 2)] [] S T) ∧ K2 S T ∧ ((NFq 11 2 c11 v0 T))) ∧ K7 S T ∧ K8 S T) (kw_X11_off (mn_X11_off (Q := fun r T => IV T ∧ Gr S T ∧ (FRI [(11, 0), (11, 1), (11, 2)] [] S T) ∧ K2 S T ∧ ((NFq 11 2 c11 v0 T))) hI o_v0 (fun r T h0 h1 h2 h3 h4 => ⟨h0, h1, h2, h3, h4⟩))) (kx_X11_off (mn_X11_off (Q := fun r T => IV T ∧ Gr S T ∧ (FRI [(11, 0), (11, 1), (11, 2)] [] S T) ∧ K2 S T ∧ ((NFq 11 2 c11 v0 T))) hI o_v0 (fun r T h0 h1 h2 h3 h4 => ⟨h0, h1, h2, h3, h4⟩))) (fun r T a b => ⟨a.1, a.2, b.2⟩)) (cm_X11_off (Q3 := fun r T => (IV T ∧ Gr S T ∧ (FRI [(11, 0), (11, 1), (11, 2)] [] S T) ∧ K2 S T ∧ ((NFq 11 2 c11 v0 T))) ∧ (K9 false LA S T ∧ K9 true LB S T)) (ky_X11_off (b := false) (L := LA) (by decide) (by decide) (fun _ => rfl) (mn_X11_off (Q := fun r T => IV T ∧ Gr S T ∧ (FRI [(11, 0), (11, 1), (11, 2)] [] S T) ∧ K2 S T ∧ ((NFq 11 2 c11 v0 T))) hI o_v0 (fun r T h0 h1 h2 h3 h4 => ⟨h0, h1, h2, h3, h4⟩))) (ky_X11_off (b := true) (L := LB) (by decide) (by decide) (fun z => z.elim) (mn_X11_off (Q := fun r T => IV T ∧ Gr S T ∧ (FRI [(11, 0), (11, 1), (11, 2)] [] S T) ∧ K2 S T ∧ ((NFq 11 2 c11 v0 T))) hI o_v0 (fun r T h0 h1 h2 h3 h4 => ⟨h0, h1, h2, h3, h4⟩))) (fun r T a b => ⟨a.1, a.2, b.2⟩)) (fun r T a b => ⟨a.1, a.2, b.2⟩)) (mn_X11_off (Q := fun r T => IV T ∧ Gr S T ∧ (FRI [(11, 0), (11, 1), (11, 2)] [] S T) ∧ K2 S T ∧ ((NFq 11 2 c11 v0 T))) hI o_v0 (fun r T h0 h1 h2 h3 h4 => ⟨h0, h1, h2, h3, h4⟩)) (fun r T h _ => hq r T h.1.1 h.1.2.1 h.1.2.2.1 h.1.2.2.2.1 h.1.2.2.2.2 h.2)
theorem mz_X11_road {v0 : Nat} {v1 : Int32} {v2 : Int32} {Q : Int32 → HS → Prop} {S : HS} (hI : IV S) (o_v0 : ob S v0 11)  (hq : ∀ (r : Int32) (T : HS), IV T → Gr S T → FRI [(11, 0), (11, 1), (11, 2)] [] S T → K2 S T → (NFq 11 2 c11 v0 T) → ((K7 S T ∧ K8 S T) ∧ (K9 false LA S T ∧ K9 true LB S T)) → Q r T) : P_X11_road v0 v1 v2 Q S := cm_X11_road (cm_X11_road (Q3 := fun r T => (IV T ∧ Gr S T ∧ (FRI [(11, 0), (11, 1), (11, 2)] [] S T) ∧ K2 S T ∧ ((NFq 11 2 c11 v0 T))) ∧ (K7 S T ∧ K8 S T) ∧ (K9 false LA S T ∧ K9 true LB S T)) (cm_X11_road (Q3 := fun r T => (IV T ∧ Gr S T ∧ (FRI [(11, 0), (11, 1), (11, 2)] [] S T) ∧ K2 S T ∧ ((NFq 11 2 c11 v0 T))) ∧ K7 S T ∧ K8 S T) (kw_X11_road (mn_X11_road (Q := fun r T => IV T ∧ Gr S T ∧ (FRI [(11, 0), (11, 1), (11, 2)] [] S T) ∧ K2 S T ∧ ((NFq 11 2 c11 v0 T))) hI o_v0 (fun r T h0 h1 h2 h3 h4 => ⟨h0, h1, h2, h3, h4⟩))) (kx_X11_road (mn_X11_road (Q := fun r T => IV T ∧ Gr S T ∧ (FRI [(11, 0), (11, 1), (11, 2)] [] S T) ∧ K2 S T ∧ ((NFq 11 2 c11 v0 T))) hI o_v0 (fun r T h0 h1 h2 h3 h4 => ⟨h0, h1, h2, h3, h4⟩))) (fun r T a b => ⟨a.1, a.2, b.2⟩)) (cm_X11_road (Q3 := fun r T => (IV T ∧ Gr S T ∧ (FRI [(11, 0), (11, 1), (11, 2)] [] S T) ∧ K2 S T ∧ ((NFq 11 2 c11 v0 T))) ∧ (K9 false LA S T ∧ K9 true LB S T)) (ky_X11_road (b := false) (L := LA) (by decide) (by decide) (fun _ => rfl) (mn_X11_road (Q := fun r T => IV T ∧ Gr S T ∧ (FRI [(11, 0), (11, 1), (11, 2)] [] S T) ∧ K2 S T ∧ ((NFq 11 2 c11 v0 T))) hI o_v0 (fun r T h0 h1 h2 h3 h4 => ⟨h0, h1, h2, h3, h4⟩))) (ky_X11_road (b := true) (L := LB) (by decide) (by decide) (fun z => z.elim) (mn_X11_road (Q := fun r T => IV T ∧ Gr S T ∧ (FRI [(11, 0), (11, 1), (11, 2)] [] S T) ∧ K2 S T ∧ ((NFq 11 2 c11 v0 T))) hI o_v0 (fun r T h0 h1 h2 h3 h4 => ⟨h0, h1, h2, h3, h4⟩))) (fun r T a b => ⟨a.1, a.2, b.2⟩)) (fun r T a b => ⟨a.1, a.2, b.2⟩)) (mn_X11_road (Q := fun r T => IV T ∧ Gr S T ∧ (FRI [(11, 0), (11, 1), (11, 2)] [] S T) ∧ K2 S T ∧ ((NFq 11 2 c11 v0 T))) hI o_v0 (fun r T h0 h1 h2 h3 h4 => ⟨h0, h1, h2, h3, h4⟩)) (fun r T h _ => hq r T h.1.1 h.1.2.1 h.1.2.2.1 h.1.2.2.2.1 h.1.2.2.2.2 h.2)
theorem mz_X11_round {v0 : Nat} {v1 : Int32} {v2 : Int32} {v3 : Int32} {v4 : Int32} {Q : Int64 → HS → Prop} {S : HS} (hI : IV S) (o_v0 : ob S v0 11)  (hq : ∀ (r : Int64) (T : HS), IV T → Gr S T → FRI [(11, 0), (11, 1), (11, 2)] [] S T → K2 S T → (NFq 11 2 c11 v0 T) → ((K7 S T ∧ K8 S T) ∧ (K9 false LA S T ∧ K9 true LB S T)) → Q r T) : P_X11_round v0 v1 v2 v3 v4 Q S := cm_X11_round (cm_X11_round (Q3 := fun r T => (IV T ∧ Gr S T ∧ (FRI [(11, 0), (11, 1), (11, 2)] [] S T) ∧ K2 S T ∧ ((NFq 11 2 c11 v0 T))) ∧ (K7 S T ∧ K8 S T) ∧ (K9 false LA S T ∧ K9 true LB S T)) (cm_X11_round (Q3 := fun r T => (IV T ∧ Gr S T ∧ (FRI [(11, 0), (11, 1), (11, 2)] [] S T) ∧ K2 S T ∧ ((NFq 11 2 c11 v0 T))) ∧ K7 S T ∧ K8 S T) (kw_X11_round (mn_X11_round (Q := fun r T => IV T ∧ Gr S T ∧ (FRI [(11, 0), (11, 1), (11, 2)] [] S T) ∧ K2 S T ∧ ((NFq 11 2 c11 v0 T))) hI o_v0 (fun r T h0 h1 h2 h3 h4 => ⟨h0, h1, h2, h3, h4⟩))) (kx_X11_round (mn_X11_round (Q := fun r T => IV T ∧ Gr S T ∧ (FRI [(11, 0), (11, 1), (11, 2)] [] S T) ∧ K2 S T ∧ ((NFq 11 2 c11 v0 T))) hI o_v0 (fun r T h0 h1 h2 h3 h4 => ⟨h0, h1, h2, h3, h4⟩))) (fun r T a b => ⟨a.1, a.2, b.2⟩)) (cm_X11_round (Q3 := fun r T => (IV T ∧ Gr S T ∧ (FRI [(11, 0), (11, 1), (11, 2)] [] S T) ∧ K2 S T ∧ ((NFq 11 2 c11 v0 T))) ∧ (K9 false LA S T ∧ K9 true LB S T)) (ky_X11_round (b := false) (L := LA) (by decide) (by decide) (fun _ => rfl) (mn_X11_round (Q := fun r T => IV T ∧ Gr S T ∧ (FRI [(11, 0), (11, 1), (11, 2)] [] S T) ∧ K2 S T ∧ ((NFq 11 2 c11 v0 T))) hI o_v0 (fun r T h0 h1 h2 h3 h4 => ⟨h0, h1, h2, h3, h4⟩))) (ky_X11_round (b := true) (L := LB) (by decide) (by decide) (fun z => z.elim) (mn_X11_round (Q := fun r T => IV T ∧ Gr S T ∧ (FRI [(11, 0), (11, 1), (11, 2)] [] S T) ∧ K2 S T ∧ ((NFq 11 2 c11 v0 T))) hI o_v0 (fun r T h0 h1 h2 h3 h4 => ⟨h0, h1, h2, h3, h4⟩))) (fun r T a b => ⟨a.1, a.2, b.2⟩)) (fun r T a b => ⟨a.1, a.2, b.2⟩)) (mn_X11_round (Q := fun r T => IV T ∧ Gr S T ∧ (FRI [(11, 0), (11, 1), (11, 2)] [] S T) ∧ K2 S T ∧ ((NFq 11 2 c11 v0 T))) hI o_v0 (fun r T h0 h1 h2 h3 h4 => ⟨h0, h1, h2, h3, h4⟩)) (fun r T h _ => hq r T h.1.1 h.1.2.1 h.1.2.2.1 h.1.2.2.2.1 h.1.2.2.2.2 h.2)
theorem mz_X11_saves {v0 : Nat} {v1 : Int32} {v2 : Int32} {v3 : Int32} {v4 : Int32} {v5 : Int32} {Q : Int64 → HS → Prop} {S : HS} (hI : IV S) (o_v0 : ob S v0 11)  (hq : ∀ (r : Int64) (T : HS), IV T → Gr S T → FRI [(11, 0), (11, 1), (11, 2)] [] S T → K2 S T → (NFq 11 2 c11 v0 T) → ((K7 S T ∧ K8 S T) ∧ (K9 false LA S T ∧ K9 true LB S T)) → Q r T) : P_X11_saves v0 v1 v2 v3 v4 v5 Q S := cm_X11_saves (cm_X11_saves (Q3 := fun r T => (IV T ∧ Gr S T ∧ (FRI [(11, 0), (11, 1), (11, 2)] [] S T) ∧ K2 S T ∧ ((NFq 11 2 c11 v0 T))) ∧ (K7 S T ∧ K8 S T) ∧ (K9 false LA S T ∧ K9 true LB S T)) (cm_X11_saves (Q3 := fun r T => (IV T ∧ Gr S T ∧ (FRI [(11, 0), (11, 1), (11, 2)] [] S T) ∧ K2 S T ∧ ((NFq 11 2 c11 v0 T))) ∧ K7 S T ∧ K8 S T) (kw_X11_saves (mn_X11_saves (Q := fun r T => IV T ∧ Gr S T ∧ (FRI [(11, 0), (11, 1), (11, 2)] [] S T) ∧ K2 S T ∧ ((NFq 11 2 c11 v0 T))) hI o_v0 (fun r T h0 h1 h2 h3 h4 => ⟨h0, h1, h2, h3, h4⟩))) (kx_X11_saves (mn_X11_saves (Q := fun r T => IV T ∧ Gr S T ∧ (FRI [(11, 0), (11, 1), (11, 2)] [] S T) ∧ K2 S T ∧ ((NFq 11 2 c11 v0 T))) hI o_v0 (fun r T h0 h1 h2 h3 h4 => ⟨h0, h1, h2, h3, h4⟩))) (fun r T a b => ⟨a.1, a.2, b.2⟩)) (cm_X11_saves (Q3 := fun r T => (IV T ∧ Gr S T ∧ (FRI [(11, 0), (11, 1), (11, 2)] [] S T) ∧ K2 S T ∧ ((NFq 11 2 c11 v0 T))) ∧ (K9 false LA S T ∧ K9 true LB S T)) (ky_X11_saves (b := false) (L := LA) (by decide) (by decide) (fun _ => rfl) (mn_X11_saves (Q := fun r T => IV T ∧ Gr S T ∧ (FRI [(11, 0), (11, 1), (11, 2)] [] S T) ∧ K2 S T ∧ ((NFq 11 2 c11 v0 T))) hI o_v0 (fun r T h0 h1 h2 h3 h4 => ⟨h0, h1, h2, h3, h4⟩))) (ky_X11_saves (b := true) (L := LB) (by decide) (by decide) (fun z => z.elim) (mn_X11_saves (Q := fun r T => IV T ∧ Gr S T ∧ (FRI [(11, 0), (11, 1), (11, 2)] [] S T) ∧ K2 S T ∧ ((NFq 11 2 c11 v0 T))) hI o_v0 (fun r T h0 h1 h2 h3 h4 => ⟨h0, h1, h2, h3, h4⟩))) (fun r T a b => ⟨a.1, a.2, b.2⟩)) (fun r T a b => ⟨a.1, a.2, b.2⟩)) (mn_X11_saves (Q := fun r T => IV T ∧ Gr S T ∧ (FRI [(11, 0), (11, 1), (11, 2)] [] S T) ∧ K2 S T ∧ ((NFq 11 2 c11 v0 T))) hI o_v0 (fun r T h0 h1 h2 h3 h4 => ⟨h0, h1, h2, h3, h4⟩)) (fun r T h _ => hq r T h.1.1 h.1.2.1 h.1.2.2.1 h.1.2.2.2.1 h.1.2.2.2.2 h.2)
theorem mz_X11_size {v0 : Nat} {v1 : Int32} {Q : Int32 → HS → Prop} {S : HS} (hI : IV S) (o_v0 : ob S v0 11)  (hq : ∀ (r : Int32) (T : HS), IV T → Gr S T → FRI [(11, 0)] [] S T → K2 S T → ((K7 S T ∧ K8 S T) ∧ (K9 false LA S T ∧ K9 true LB S T)) → Q r T) : P_X11_size v0 v1 Q S := cm_X11_size (cm_X11_size (Q3 := fun r T => (IV T ∧ Gr S T ∧ (FRI [(11, 0)] [] S T) ∧ K2 S T) ∧ (K7 S T ∧ K8 S T) ∧ (K9 false LA S T ∧ K9 true LB S T)) (cm_X11_size (Q3 := fun r T => (IV T ∧ Gr S T ∧ (FRI [(11, 0)] [] S T) ∧ K2 S T) ∧ K7 S T ∧ K8 S T) (kw_X11_size (mk_X11_size (Q := fun r T => IV T ∧ Gr S T ∧ (FRI [(11, 0)] [] S T) ∧ K2 S T) hI o_v0 (fun r T h0 h1 h2 h3 => ⟨h0, h1, h2, h3⟩))) (kx_X11_size (mk_X11_size (Q := fun r T => IV T ∧ Gr S T ∧ (FRI [(11, 0)] [] S T) ∧ K2 S T) hI o_v0 (fun r T h0 h1 h2 h3 => ⟨h0, h1, h2, h3⟩))) (fun r T a b => ⟨a.1, a.2, b.2⟩)) (cm_X11_size (Q3 := fun r T => (IV T ∧ Gr S T ∧ (FRI [(11, 0)] [] S T) ∧ K2 S T) ∧ (K9 false LA S T ∧ K9 true LB S T)) (ky_X11_size (b := false) (L := LA) (by decide) (by decide) (fun _ => rfl) (mk_X11_size (Q := fun r T => IV T ∧ Gr S T ∧ (FRI [(11, 0)] [] S T) ∧ K2 S T) hI o_v0 (fun r T h0 h1 h2 h3 => ⟨h0, h1, h2, h3⟩))) (ky_X11_size (b := true) (L := LB) (by decide) (by decide) (fun z => z.elim) (mk_X11_size (Q := fun r T => IV T ∧ Gr S T ∧ (FRI [(11, 0)] [] S T) ∧ K2 S T) hI o_v0 (fun r T h0 h1 h2 h3 => ⟨h0, h1, h2, h3⟩))) (fun r T a b => ⟨a.1, a.2, b.2⟩)) (fun r T a b => ⟨a.1, a.2, b.2⟩)) (mk_X11_size (Q := fun r T => IV T ∧ Gr S T ∧ (FRI [(11, 0)] [] S T) ∧ K2 S T) hI o_v0 (fun r T h0 h1 h2 h3 => ⟨h0, h1, h2, h3⟩)) (fun r T h _ => hq r T h.1.1 h.1.2.1 h.1.2.2.1 h.1.2.2.2 h.2)
theorem mz_X11_soaked {v0 : Nat} {Q : Int32 → HS → Prop} {S : HS} (hI : IV S) (o_v0 : ob S v0 11)  (hq : ∀ (r : Int32) (T : HS), IV T → Gr S T → FRI [(11, 0), (11, 1), (11, 2)] [] S T → K2 S T → (NFq 11 2 c11 v0 T) → ((K7 S T ∧ K8 S T) ∧ (K9 false LA S T ∧ K9 true LB S T)) → Q r T) : P_X11_soaked v0 Q S := cm_X11_soaked (cm_X11_soaked (Q3 := fun r T => (IV T ∧ Gr S T ∧ (FRI [(11, 0), (11, 1), (11, 2)] [] S T) ∧ K2 S T ∧ ((NFq 11 2 c11 v0 T))) ∧ (K7 S T ∧ K8 S T) ∧ (K9 false LA S T ∧ K9 true LB S T)) (cm_X11_soaked (Q3 := fun r T => (IV T ∧ Gr S T ∧ (FRI [(11, 0), (11, 1), (11, 2)] [] S T) ∧ K2 S T ∧ ((NFq 11 2 c11 v0 T))) ∧ K7 S T ∧ K8 S T) (kw_X11_soaked (mn_X11_soaked (Q := fun r T => IV T ∧ Gr S T ∧ (FRI [(11, 0), (11, 1), (11, 2)] [] S T) ∧ K2 S T ∧ ((NFq 11 2 c11 v0 T))) hI o_v0 (fun r T h0 h1 h2 h3 h4 => ⟨h0, h1, h2, h3, h4⟩))) (kx_X11_soaked (mn_X11_soaked (Q := fun r T => IV T ∧ Gr S T ∧ (FRI [(11, 0), (11, 1), (11, 2)] [] S T) ∧ K2 S T ∧ ((NFq 11 2 c11 v0 T))) hI o_v0 (fun r T h0 h1 h2 h3 h4 => ⟨h0, h1, h2, h3, h4⟩))) (fun r T a b => ⟨a.1, a.2, b.2⟩)) (cm_X11_soaked (Q3 := fun r T => (IV T ∧ Gr S T ∧ (FRI [(11, 0), (11, 1), (11, 2)] [] S T) ∧ K2 S T ∧ ((NFq 11 2 c11 v0 T))) ∧ (K9 false LA S T ∧ K9 true LB S T)) (ky_X11_soaked (b := false) (L := LA) (by decide) (by decide) (fun _ => rfl) (mn_X11_soaked (Q := fun r T => IV T ∧ Gr S T ∧ (FRI [(11, 0), (11, 1), (11, 2)] [] S T) ∧ K2 S T ∧ ((NFq 11 2 c11 v0 T))) hI o_v0 (fun r T h0 h1 h2 h3 h4 => ⟨h0, h1, h2, h3, h4⟩))) (ky_X11_soaked (b := true) (L := LB) (by decide) (by decide) (fun z => z.elim) (mn_X11_soaked (Q := fun r T => IV T ∧ Gr S T ∧ (FRI [(11, 0), (11, 1), (11, 2)] [] S T) ∧ K2 S T ∧ ((NFq 11 2 c11 v0 T))) hI o_v0 (fun r T h0 h1 h2 h3 h4 => ⟨h0, h1, h2, h3, h4⟩))) (fun r T a b => ⟨a.1, a.2, b.2⟩)) (fun r T a b => ⟨a.1, a.2, b.2⟩)) (mn_X11_soaked (Q := fun r T => IV T ∧ Gr S T ∧ (FRI [(11, 0), (11, 1), (11, 2)] [] S T) ∧ K2 S T ∧ ((NFq 11 2 c11 v0 T))) hI o_v0 (fun r T h0 h1 h2 h3 h4 => ⟨h0, h1, h2, h3, h4⟩)) (fun r T h _ => hq r T h.1.1 h.1.2.1 h.1.2.2.1 h.1.2.2.2.1 h.1.2.2.2.2 h.2)
theorem mt_X11_stay {v0 : Nat} {v1 : Int32} {Q : Int32 → HS → Prop} {S : HS} (hI : IV S) (o_v0 : ob S v0 11) {A : AS} {G : GC} (hm : (fR S v0 3 = none ∧ A = A00) ∨ ∃ rd, WRm v0 rd A G S) (ab : ABd A) (gb : GBd A G) {D : DY} (md : MDd v0 D S) (db : DBd A D) (hq : ∀ (r : Int32) (T : HS), IV T → Gr S T → FRI [(11, 0), (11, 1), (11, 2), (11, 24)] [] S T → bl r → K2 S T → (NFq 11 2 c11 v0 T) → (((K7 S T ∧ K8 S T) ∧ K9 true LB S T) ∧ ans (stC A G D v1) r ∧ MDd v0 (nxstay A G D v1) T) → Q r T) : P_X11_stay v0 v1 Q S := cm_X11_stay (cm_X11_stay (Q3 := fun r T => (IV T ∧ Gr S T ∧ (FRI [(11, 0), (11, 1), (11, 2), (11, 24)] [] S T) ∧ bl r ∧ K2 S T ∧ ((NFq 11 2 c11 v0 T))) ∧ ((K7 S T ∧ K8 S T) ∧ K9 true LB S T) ∧ ans (stC A G D v1) r ∧ MDd v0 (nxstay A G D v1) T) (cm_X11_stay (Q3 := fun r T => (IV T ∧ Gr S T ∧ (FRI [(11, 0), (11, 1), (11, 2), (11, 24)] [] S T) ∧ bl r ∧ K2 S T ∧ ((NFq 11 2 c11 v0 T))) ∧ (K7 S T ∧ K8 S T) ∧ K9 true LB S T) (cm_X11_stay (Q3 := fun r T => (IV T ∧ Gr S T ∧ (FRI [(11, 0), (11, 1), (11, 2), (11, 24)] [] S T) ∧ bl r ∧ K2 S T ∧ ((NFq 11 2 c11 v0 T))) ∧ K7 S T ∧ K8 S T) (kw_X11_stay (mn_X11_stay (Q := fun r T => IV T ∧ Gr S T ∧ (FRI [(11, 0), (11, 1), (11, 2), (11, 24)] [] S T) ∧ bl r ∧ K2 S T ∧ ((NFq 11 2 c11 v0 T))) hI o_v0 (fun r T h0 h1 h2 h3 h4 h5 => ⟨h0, h1, h2, h3, h4, h5⟩))) (kx_X11_stay (mn_X11_stay (Q := fun r T => IV T ∧ Gr S T ∧ (FRI [(11, 0), (11, 1), (11, 2), (11, 24)] [] S T) ∧ bl r ∧ K2 S T ∧ ((NFq 11 2 c11 v0 T))) hI o_v0 (fun r T h0 h1 h2 h3 h4 h5 => ⟨h0, h1, h2, h3, h4, h5⟩))) (fun r T a b => ⟨a.1, a.2, b.2⟩)) (ky_X11_stay (b := true) (L := LB) (by decide) (by decide) (fun z => z.elim) (mn_X11_stay (Q := fun r T => IV T ∧ Gr S T ∧ (FRI [(11, 0), (11, 1), (11, 2), (11, 24)] [] S T) ∧ bl r ∧ K2 S T ∧ ((NFq 11 2 c11 v0 T))) hI o_v0 (fun r T h0 h1 h2 h3 h4 h5 => ⟨h0, h1, h2, h3, h4, h5⟩))) (fun r T a b => ⟨a.1, a.2, b.2⟩)) (tl_X11_stay hI hm ab gb md db (mn_X11_stay (Q := fun r T => IV T ∧ Gr S T ∧ (FRI [(11, 0), (11, 1), (11, 2), (11, 24)] [] S T) ∧ bl r ∧ K2 S T ∧ ((NFq 11 2 c11 v0 T))) hI o_v0 (fun r T h0 h1 h2 h3 h4 h5 => ⟨h0, h1, h2, h3, h4, h5⟩))) (fun r T a b => ⟨a.1, a.2, b.2⟩)) (mn_X11_stay (Q := fun r T => IV T ∧ Gr S T ∧ (FRI [(11, 0), (11, 1), (11, 2), (11, 24)] [] S T) ∧ bl r ∧ K2 S T ∧ ((NFq 11 2 c11 v0 T))) hI o_v0 (fun r T h0 h1 h2 h3 h4 h5 => ⟨h0, h1, h2, h3, h4, h5⟩)) (fun r T h _ => hq r T h.1.1 h.1.2.1 h.1.2.2.1 h.1.2.2.2.1 h.1.2.2.2.2.1 h.1.2.2.2.2.2 h.2)
theorem mz_X11_step {v0 : Nat} {v1 : Int32} {v2 : Int32} {v3 : Int32} {v4 : Int32} {v5 : Int32} {v6 : Int32} {Q : Int32 → HS → Prop} {S : HS} (hI : IV S) (o_v0 : ob S v0 11)  (hq : ∀ (r : Int32) (T : HS), IV T → Gr S T → FRI [(11, 0), (11, 1), (11, 2)] [] S T → K2 S T → (NFq 11 2 c11 v0 T) → ((K7 S T ∧ K8 S T) ∧ (K9 false LA S T ∧ K9 true LB S T)) → Q r T) : P_X11_step v0 v1 v2 v3 v4 v5 v6 Q S := cm_X11_step (cm_X11_step (Q3 := fun r T => (IV T ∧ Gr S T ∧ (FRI [(11, 0), (11, 1), (11, 2)] [] S T) ∧ K2 S T ∧ ((NFq 11 2 c11 v0 T))) ∧ (K7 S T ∧ K8 S T) ∧ (K9 false LA S T ∧ K9 true LB S T)) (cm_X11_step (Q3 := fun r T => (IV T ∧ Gr S T ∧ (FRI [(11, 0), (11, 1), (11, 2)] [] S T) ∧ K2 S T ∧ ((NFq 11 2 c11 v0 T))) ∧ K7 S T ∧ K8 S T) (kw_X11_step (mn_X11_step (Q := fun r T => IV T ∧ Gr S T ∧ (FRI [(11, 0), (11, 1), (11, 2)] [] S T) ∧ K2 S T ∧ ((NFq 11 2 c11 v0 T))) hI o_v0 (fun r T h0 h1 h2 h3 h4 => ⟨h0, h1, h2, h3, h4⟩))) (kx_X11_step (mn_X11_step (Q := fun r T => IV T ∧ Gr S T ∧ (FRI [(11, 0), (11, 1), (11, 2)] [] S T) ∧ K2 S T ∧ ((NFq 11 2 c11 v0 T))) hI o_v0 (fun r T h0 h1 h2 h3 h4 => ⟨h0, h1, h2, h3, h4⟩))) (fun r T a b => ⟨a.1, a.2, b.2⟩)) (cm_X11_step (Q3 := fun r T => (IV T ∧ Gr S T ∧ (FRI [(11, 0), (11, 1), (11, 2)] [] S T) ∧ K2 S T ∧ ((NFq 11 2 c11 v0 T))) ∧ (K9 false LA S T ∧ K9 true LB S T)) (ky_X11_step (b := false) (L := LA) (by decide) (by decide) (fun _ => rfl) (mn_X11_step (Q := fun r T => IV T ∧ Gr S T ∧ (FRI [(11, 0), (11, 1), (11, 2)] [] S T) ∧ K2 S T ∧ ((NFq 11 2 c11 v0 T))) hI o_v0 (fun r T h0 h1 h2 h3 h4 => ⟨h0, h1, h2, h3, h4⟩))) (ky_X11_step (b := true) (L := LB) (by decide) (by decide) (fun z => z.elim) (mn_X11_step (Q := fun r T => IV T ∧ Gr S T ∧ (FRI [(11, 0), (11, 1), (11, 2)] [] S T) ∧ K2 S T ∧ ((NFq 11 2 c11 v0 T))) hI o_v0 (fun r T h0 h1 h2 h3 h4 => ⟨h0, h1, h2, h3, h4⟩))) (fun r T a b => ⟨a.1, a.2, b.2⟩)) (fun r T a b => ⟨a.1, a.2, b.2⟩)) (mn_X11_step (Q := fun r T => IV T ∧ Gr S T ∧ (FRI [(11, 0), (11, 1), (11, 2)] [] S T) ∧ K2 S T ∧ ((NFq 11 2 c11 v0 T))) hI o_v0 (fun r T h0 h1 h2 h3 h4 => ⟨h0, h1, h2, h3, h4⟩)) (fun r T h _ => hq r T h.1.1 h.1.2.1 h.1.2.2.1 h.1.2.2.2.1 h.1.2.2.2.2 h.2)
theorem mz_X11_steps {v0 : Nat} {v1 : Int32} {v2 : Int32} {v3 : Int32} {v4 : Int32} {v5 : Int32} {Q : Int32 → HS → Prop} {S : HS} (hI : IV S) (o_v0 : ob S v0 11)  (hq : ∀ (r : Int32) (T : HS), IV T → Gr S T → FRI [(11, 0), (11, 1), (11, 2)] [] S T → K2 S T → (NFq 11 2 c11 v0 T) → ((K7 S T ∧ K8 S T) ∧ (K9 false LA S T ∧ K9 true LB S T)) → Q r T) : P_X11_steps v0 v1 v2 v3 v4 v5 Q S := cm_X11_steps (cm_X11_steps (Q3 := fun r T => (IV T ∧ Gr S T ∧ (FRI [(11, 0), (11, 1), (11, 2)] [] S T) ∧ K2 S T ∧ ((NFq 11 2 c11 v0 T))) ∧ (K7 S T ∧ K8 S T) ∧ (K9 false LA S T ∧ K9 true LB S T)) (cm_X11_steps (Q3 := fun r T => (IV T ∧ Gr S T ∧ (FRI [(11, 0), (11, 1), (11, 2)] [] S T) ∧ K2 S T ∧ ((NFq 11 2 c11 v0 T))) ∧ K7 S T ∧ K8 S T) (kw_X11_steps (mn_X11_steps (Q := fun r T => IV T ∧ Gr S T ∧ (FRI [(11, 0), (11, 1), (11, 2)] [] S T) ∧ K2 S T ∧ ((NFq 11 2 c11 v0 T))) hI o_v0 (fun r T h0 h1 h2 h3 h4 => ⟨h0, h1, h2, h3, h4⟩))) (kx_X11_steps (mn_X11_steps (Q := fun r T => IV T ∧ Gr S T ∧ (FRI [(11, 0), (11, 1), (11, 2)] [] S T) ∧ K2 S T ∧ ((NFq 11 2 c11 v0 T))) hI o_v0 (fun r T h0 h1 h2 h3 h4 => ⟨h0, h1, h2, h3, h4⟩))) (fun r T a b => ⟨a.1, a.2, b.2⟩)) (cm_X11_steps (Q3 := fun r T => (IV T ∧ Gr S T ∧ (FRI [(11, 0), (11, 1), (11, 2)] [] S T) ∧ K2 S T ∧ ((NFq 11 2 c11 v0 T))) ∧ (K9 false LA S T ∧ K9 true LB S T)) (ky_X11_steps (b := false) (L := LA) (by decide) (by decide) (fun _ => rfl) (mn_X11_steps (Q := fun r T => IV T ∧ Gr S T ∧ (FRI [(11, 0), (11, 1), (11, 2)] [] S T) ∧ K2 S T ∧ ((NFq 11 2 c11 v0 T))) hI o_v0 (fun r T h0 h1 h2 h3 h4 => ⟨h0, h1, h2, h3, h4⟩))) (ky_X11_steps (b := true) (L := LB) (by decide) (by decide) (fun z => z.elim) (mn_X11_steps (Q := fun r T => IV T ∧ Gr S T ∧ (FRI [(11, 0), (11, 1), (11, 2)] [] S T) ∧ K2 S T ∧ ((NFq 11 2 c11 v0 T))) hI o_v0 (fun r T h0 h1 h2 h3 h4 => ⟨h0, h1, h2, h3, h4⟩))) (fun r T a b => ⟨a.1, a.2, b.2⟩)) (fun r T a b => ⟨a.1, a.2, b.2⟩)) (mn_X11_steps (Q := fun r T => IV T ∧ Gr S T ∧ (FRI [(11, 0), (11, 1), (11, 2)] [] S T) ∧ K2 S T ∧ ((NFq 11 2 c11 v0 T))) hI o_v0 (fun r T h0 h1 h2 h3 h4 => ⟨h0, h1, h2, h3, h4⟩)) (fun r T h _ => hq r T h.1.1 h.1.2.1 h.1.2.2.1 h.1.2.2.2.1 h.1.2.2.2.2 h.2)
theorem mz_X11_there {v0 : Nat} {v1 : Int32} {v2 : Int32} {v3 : Int32} {v4 : Int32} {v5 : Int32} {Q : Int32 → HS → Prop} {S : HS} (hI : IV S) (o_v0 : ob S v0 11)  (hq : ∀ (r : Int32) (T : HS), IV T → Gr S T → FRI [(11, 0), (11, 1), (11, 2)] [] S T → K2 S T → (NFq 11 2 c11 v0 T) → ((K7 S T ∧ K8 S T) ∧ (K9 false LA S T ∧ K9 true LB S T)) → Q r T) : P_X11_there v0 v1 v2 v3 v4 v5 Q S := cm_X11_there (cm_X11_there (Q3 := fun r T => (IV T ∧ Gr S T ∧ (FRI [(11, 0), (11, 1), (11, 2)] [] S T) ∧ K2 S T ∧ ((NFq 11 2 c11 v0 T))) ∧ (K7 S T ∧ K8 S T) ∧ (K9 false LA S T ∧ K9 true LB S T)) (cm_X11_there (Q3 := fun r T => (IV T ∧ Gr S T ∧ (FRI [(11, 0), (11, 1), (11, 2)] [] S T) ∧ K2 S T ∧ ((NFq 11 2 c11 v0 T))) ∧ K7 S T ∧ K8 S T) (kw_X11_there (mn_X11_there (Q := fun r T => IV T ∧ Gr S T ∧ (FRI [(11, 0), (11, 1), (11, 2)] [] S T) ∧ K2 S T ∧ ((NFq 11 2 c11 v0 T))) hI o_v0 (fun r T h0 h1 h2 h3 h4 => ⟨h0, h1, h2, h3, h4⟩))) (kx_X11_there (mn_X11_there (Q := fun r T => IV T ∧ Gr S T ∧ (FRI [(11, 0), (11, 1), (11, 2)] [] S T) ∧ K2 S T ∧ ((NFq 11 2 c11 v0 T))) hI o_v0 (fun r T h0 h1 h2 h3 h4 => ⟨h0, h1, h2, h3, h4⟩))) (fun r T a b => ⟨a.1, a.2, b.2⟩)) (cm_X11_there (Q3 := fun r T => (IV T ∧ Gr S T ∧ (FRI [(11, 0), (11, 1), (11, 2)] [] S T) ∧ K2 S T ∧ ((NFq 11 2 c11 v0 T))) ∧ (K9 false LA S T ∧ K9 true LB S T)) (ky_X11_there (b := false) (L := LA) (by decide) (by decide) (fun _ => rfl) (mn_X11_there (Q := fun r T => IV T ∧ Gr S T ∧ (FRI [(11, 0), (11, 1), (11, 2)] [] S T) ∧ K2 S T ∧ ((NFq 11 2 c11 v0 T))) hI o_v0 (fun r T h0 h1 h2 h3 h4 => ⟨h0, h1, h2, h3, h4⟩))) (ky_X11_there (b := true) (L := LB) (by decide) (by decide) (fun z => z.elim) (mn_X11_there (Q := fun r T => IV T ∧ Gr S T ∧ (FRI [(11, 0), (11, 1), (11, 2)] [] S T) ∧ K2 S T ∧ ((NFq 11 2 c11 v0 T))) hI o_v0 (fun r T h0 h1 h2 h3 h4 => ⟨h0, h1, h2, h3, h4⟩))) (fun r T a b => ⟨a.1, a.2, b.2⟩)) (fun r T a b => ⟨a.1, a.2, b.2⟩)) (mn_X11_there (Q := fun r T => IV T ∧ Gr S T ∧ (FRI [(11, 0), (11, 1), (11, 2)] [] S T) ∧ K2 S T ∧ ((NFq 11 2 c11 v0 T))) hI o_v0 (fun r T h0 h1 h2 h3 h4 => ⟨h0, h1, h2, h3, h4⟩)) (fun r T h _ => hq r T h.1.1 h.1.2.1 h.1.2.2.1 h.1.2.2.2.1 h.1.2.2.2.2 h.2)
theorem mz_X11_trouble {v0 : Nat} {Q : Int32 → HS → Prop} {S : HS} (hI : IV S) (o_v0 : ob S v0 11)  (hq : ∀ (r : Int32) (T : HS), IV T → Gr S T → FRI [(11, 0)] [] S T → K2 S T → ((K7 S T ∧ K8 S T) ∧ (K9 false LA S T ∧ K9 true LB S T)) → Q r T) : P_X11_trouble v0 Q S := cm_X11_trouble (cm_X11_trouble (Q3 := fun r T => (IV T ∧ Gr S T ∧ (FRI [(11, 0)] [] S T) ∧ K2 S T) ∧ (K7 S T ∧ K8 S T) ∧ (K9 false LA S T ∧ K9 true LB S T)) (cm_X11_trouble (Q3 := fun r T => (IV T ∧ Gr S T ∧ (FRI [(11, 0)] [] S T) ∧ K2 S T) ∧ K7 S T ∧ K8 S T) (kw_X11_trouble (mk_X11_trouble (Q := fun r T => IV T ∧ Gr S T ∧ (FRI [(11, 0)] [] S T) ∧ K2 S T) hI o_v0 (fun r T h0 h1 h2 h3 => ⟨h0, h1, h2, h3⟩))) (kx_X11_trouble (mk_X11_trouble (Q := fun r T => IV T ∧ Gr S T ∧ (FRI [(11, 0)] [] S T) ∧ K2 S T) hI o_v0 (fun r T h0 h1 h2 h3 => ⟨h0, h1, h2, h3⟩))) (fun r T a b => ⟨a.1, a.2, b.2⟩)) (cm_X11_trouble (Q3 := fun r T => (IV T ∧ Gr S T ∧ (FRI [(11, 0)] [] S T) ∧ K2 S T) ∧ (K9 false LA S T ∧ K9 true LB S T)) (ky_X11_trouble (b := false) (L := LA) (by decide) (by decide) (fun _ => rfl) (mk_X11_trouble (Q := fun r T => IV T ∧ Gr S T ∧ (FRI [(11, 0)] [] S T) ∧ K2 S T) hI o_v0 (fun r T h0 h1 h2 h3 => ⟨h0, h1, h2, h3⟩))) (ky_X11_trouble (b := true) (L := LB) (by decide) (by decide) (fun z => z.elim) (mk_X11_trouble (Q := fun r T => IV T ∧ Gr S T ∧ (FRI [(11, 0)] [] S T) ∧ K2 S T) hI o_v0 (fun r T h0 h1 h2 h3 => ⟨h0, h1, h2, h3⟩))) (fun r T a b => ⟨a.1, a.2, b.2⟩)) (fun r T a b => ⟨a.1, a.2, b.2⟩)) (mk_X11_trouble (Q := fun r T => IV T ∧ Gr S T ∧ (FRI [(11, 0)] [] S T) ∧ K2 S T) hI o_v0 (fun r T h0 h1 h2 h3 => ⟨h0, h1, h2, h3⟩)) (fun r T h _ => hq r T h.1.1 h.1.2.1 h.1.2.2.1 h.1.2.2.2 h.2)
theorem mt_X11_undo {v0 : Nat} {Q : Int32 → HS → Prop} {S : HS} (hI : IV S) (o_v0 : ob S v0 11) {A : AS} {G : GC} (hm : (fR S v0 3 = none ∧ A = A00) ∨ ∃ rd, WRm v0 rd A G S) (ab : ABd A) (gb : GBd A G) {D : DY} (md : MDd v0 D S) (db : DBd A D) (hq : ∀ (r : Int32) (T : HS), IV T → Gr S T → FRI [(11, 0), (11, 1), (11, 2), (11, 24)] [] S T → bl r → K2 S T → (NFq 11 2 c11 v0 T) → (((K7 S T ∧ K8 S T) ∧ K9 true LB S T) ∧ ans (0 < dU D) r ∧ MDd v0 (nxundo D) T) → Q r T) : P_X11_undo v0 Q S := cm_X11_undo (cm_X11_undo (Q3 := fun r T => (IV T ∧ Gr S T ∧ (FRI [(11, 0), (11, 1), (11, 2), (11, 24)] [] S T) ∧ bl r ∧ K2 S T ∧ ((NFq 11 2 c11 v0 T))) ∧ ((K7 S T ∧ K8 S T) ∧ K9 true LB S T) ∧ ans (0 < dU D) r ∧ MDd v0 (nxundo D) T) (cm_X11_undo (Q3 := fun r T => (IV T ∧ Gr S T ∧ (FRI [(11, 0), (11, 1), (11, 2), (11, 24)] [] S T) ∧ bl r ∧ K2 S T ∧ ((NFq 11 2 c11 v0 T))) ∧ (K7 S T ∧ K8 S T) ∧ K9 true LB S T) (cm_X11_undo (Q3 := fun r T => (IV T ∧ Gr S T ∧ (FRI [(11, 0), (11, 1), (11, 2), (11, 24)] [] S T) ∧ bl r ∧ K2 S T ∧ ((NFq 11 2 c11 v0 T))) ∧ K7 S T ∧ K8 S T) (kw_X11_undo (mn_X11_undo (Q := fun r T => IV T ∧ Gr S T ∧ (FRI [(11, 0), (11, 1), (11, 2), (11, 24)] [] S T) ∧ bl r ∧ K2 S T ∧ ((NFq 11 2 c11 v0 T))) hI o_v0 (fun r T h0 h1 h2 h3 h4 h5 => ⟨h0, h1, h2, h3, h4, h5⟩))) (kx_X11_undo (mn_X11_undo (Q := fun r T => IV T ∧ Gr S T ∧ (FRI [(11, 0), (11, 1), (11, 2), (11, 24)] [] S T) ∧ bl r ∧ K2 S T ∧ ((NFq 11 2 c11 v0 T))) hI o_v0 (fun r T h0 h1 h2 h3 h4 h5 => ⟨h0, h1, h2, h3, h4, h5⟩))) (fun r T a b => ⟨a.1, a.2, b.2⟩)) (ky_X11_undo (b := true) (L := LB) (by decide) (by decide) (fun z => z.elim) (mn_X11_undo (Q := fun r T => IV T ∧ Gr S T ∧ (FRI [(11, 0), (11, 1), (11, 2), (11, 24)] [] S T) ∧ bl r ∧ K2 S T ∧ ((NFq 11 2 c11 v0 T))) hI o_v0 (fun r T h0 h1 h2 h3 h4 h5 => ⟨h0, h1, h2, h3, h4, h5⟩))) (fun r T a b => ⟨a.1, a.2, b.2⟩)) (tl_X11_undo hm md db (mn_X11_undo (Q := fun r T => IV T ∧ Gr S T ∧ (FRI [(11, 0), (11, 1), (11, 2), (11, 24)] [] S T) ∧ bl r ∧ K2 S T ∧ ((NFq 11 2 c11 v0 T))) hI o_v0 (fun r T h0 h1 h2 h3 h4 h5 => ⟨h0, h1, h2, h3, h4, h5⟩))) (fun r T a b => ⟨a.1, a.2, b.2⟩)) (mn_X11_undo (Q := fun r T => IV T ∧ Gr S T ∧ (FRI [(11, 0), (11, 1), (11, 2), (11, 24)] [] S T) ∧ bl r ∧ K2 S T ∧ ((NFq 11 2 c11 v0 T))) hI o_v0 (fun r T h0 h1 h2 h3 h4 h5 => ⟨h0, h1, h2, h3, h4, h5⟩)) (fun r T h _ => hq r T h.1.1 h.1.2.1 h.1.2.2.1 h.1.2.2.2.1 h.1.2.2.2.2.1 h.1.2.2.2.2.2 h.2)
theorem mz_X11_walker {v0 : Nat} {v1 : Int32} {v2 : Int32} {Q : Int32 → HS → Prop} {S : HS} (hI : IV S) (o_v0 : ob S v0 11)  (hq : ∀ (r : Int32) (T : HS), IV T → Gr S T → FRI [(11, 0), (11, 1), (11, 2)] [] S T → K2 S T → (NFq 11 2 c11 v0 T) → ((K7 S T ∧ K8 S T) ∧ (K9 false LA S T ∧ K9 true LB S T)) → Q r T) : P_X11_walker v0 v1 v2 Q S := cm_X11_walker (cm_X11_walker (Q3 := fun r T => (IV T ∧ Gr S T ∧ (FRI [(11, 0), (11, 1), (11, 2)] [] S T) ∧ K2 S T ∧ ((NFq 11 2 c11 v0 T))) ∧ (K7 S T ∧ K8 S T) ∧ (K9 false LA S T ∧ K9 true LB S T)) (cm_X11_walker (Q3 := fun r T => (IV T ∧ Gr S T ∧ (FRI [(11, 0), (11, 1), (11, 2)] [] S T) ∧ K2 S T ∧ ((NFq 11 2 c11 v0 T))) ∧ K7 S T ∧ K8 S T) (kw_X11_walker (mn_X11_walker (Q := fun r T => IV T ∧ Gr S T ∧ (FRI [(11, 0), (11, 1), (11, 2)] [] S T) ∧ K2 S T ∧ ((NFq 11 2 c11 v0 T))) hI o_v0 (fun r T h0 h1 h2 h3 h4 => ⟨h0, h1, h2, h3, h4⟩))) (kx_X11_walker (mn_X11_walker (Q := fun r T => IV T ∧ Gr S T ∧ (FRI [(11, 0), (11, 1), (11, 2)] [] S T) ∧ K2 S T ∧ ((NFq 11 2 c11 v0 T))) hI o_v0 (fun r T h0 h1 h2 h3 h4 => ⟨h0, h1, h2, h3, h4⟩))) (fun r T a b => ⟨a.1, a.2, b.2⟩)) (cm_X11_walker (Q3 := fun r T => (IV T ∧ Gr S T ∧ (FRI [(11, 0), (11, 1), (11, 2)] [] S T) ∧ K2 S T ∧ ((NFq 11 2 c11 v0 T))) ∧ (K9 false LA S T ∧ K9 true LB S T)) (ky_X11_walker (b := false) (L := LA) (by decide) (by decide) (fun _ => rfl) (mn_X11_walker (Q := fun r T => IV T ∧ Gr S T ∧ (FRI [(11, 0), (11, 1), (11, 2)] [] S T) ∧ K2 S T ∧ ((NFq 11 2 c11 v0 T))) hI o_v0 (fun r T h0 h1 h2 h3 h4 => ⟨h0, h1, h2, h3, h4⟩))) (ky_X11_walker (b := true) (L := LB) (by decide) (by decide) (fun z => z.elim) (mn_X11_walker (Q := fun r T => IV T ∧ Gr S T ∧ (FRI [(11, 0), (11, 1), (11, 2)] [] S T) ∧ K2 S T ∧ ((NFq 11 2 c11 v0 T))) hI o_v0 (fun r T h0 h1 h2 h3 h4 => ⟨h0, h1, h2, h3, h4⟩))) (fun r T a b => ⟨a.1, a.2, b.2⟩)) (fun r T a b => ⟨a.1, a.2, b.2⟩)) (mn_X11_walker (Q := fun r T => IV T ∧ Gr S T ∧ (FRI [(11, 0), (11, 1), (11, 2)] [] S T) ∧ K2 S T ∧ ((NFq 11 2 c11 v0 T))) hI o_v0 (fun r T h0 h1 h2 h3 h4 => ⟨h0, h1, h2, h3, h4⟩)) (fun r T h _ => hq r T h.1.1 h.1.2.1 h.1.2.2.1 h.1.2.2.2.1 h.1.2.2.2.2 h.2)
theorem mz_X11_wet {v0 : Nat} {v1 : Int32} {v2 : Int32} {v3 : Int32} {v4 : Int32} {v5 : Int32} {v6 : Int32} {Q : Int64 → HS → Prop} {S : HS} (hI : IV S) (o_v0 : ob S v0 11)  (hq : ∀ (r : Int64) (T : HS), IV T → Gr S T → FRI [(11, 0), (11, 1), (11, 2)] [] S T → K2 S T → (NFq 11 2 c11 v0 T) → ((K7 S T ∧ K8 S T) ∧ (K9 false LA S T ∧ K9 true LB S T)) → Q r T) : P_X11_wet v0 v1 v2 v3 v4 v5 v6 Q S := cm_X11_wet (cm_X11_wet (Q3 := fun r T => (IV T ∧ Gr S T ∧ (FRI [(11, 0), (11, 1), (11, 2)] [] S T) ∧ K2 S T ∧ ((NFq 11 2 c11 v0 T))) ∧ (K7 S T ∧ K8 S T) ∧ (K9 false LA S T ∧ K9 true LB S T)) (cm_X11_wet (Q3 := fun r T => (IV T ∧ Gr S T ∧ (FRI [(11, 0), (11, 1), (11, 2)] [] S T) ∧ K2 S T ∧ ((NFq 11 2 c11 v0 T))) ∧ K7 S T ∧ K8 S T) (kw_X11_wet (mn_X11_wet (Q := fun r T => IV T ∧ Gr S T ∧ (FRI [(11, 0), (11, 1), (11, 2)] [] S T) ∧ K2 S T ∧ ((NFq 11 2 c11 v0 T))) hI o_v0 (fun r T h0 h1 h2 h3 h4 => ⟨h0, h1, h2, h3, h4⟩))) (kx_X11_wet (mn_X11_wet (Q := fun r T => IV T ∧ Gr S T ∧ (FRI [(11, 0), (11, 1), (11, 2)] [] S T) ∧ K2 S T ∧ ((NFq 11 2 c11 v0 T))) hI o_v0 (fun r T h0 h1 h2 h3 h4 => ⟨h0, h1, h2, h3, h4⟩))) (fun r T a b => ⟨a.1, a.2, b.2⟩)) (cm_X11_wet (Q3 := fun r T => (IV T ∧ Gr S T ∧ (FRI [(11, 0), (11, 1), (11, 2)] [] S T) ∧ K2 S T ∧ ((NFq 11 2 c11 v0 T))) ∧ (K9 false LA S T ∧ K9 true LB S T)) (ky_X11_wet (b := false) (L := LA) (by decide) (by decide) (fun _ => rfl) (mn_X11_wet (Q := fun r T => IV T ∧ Gr S T ∧ (FRI [(11, 0), (11, 1), (11, 2)] [] S T) ∧ K2 S T ∧ ((NFq 11 2 c11 v0 T))) hI o_v0 (fun r T h0 h1 h2 h3 h4 => ⟨h0, h1, h2, h3, h4⟩))) (ky_X11_wet (b := true) (L := LB) (by decide) (by decide) (fun z => z.elim) (mn_X11_wet (Q := fun r T => IV T ∧ Gr S T ∧ (FRI [(11, 0), (11, 1), (11, 2)] [] S T) ∧ K2 S T ∧ ((NFq 11 2 c11 v0 T))) hI o_v0 (fun r T h0 h1 h2 h3 h4 => ⟨h0, h1, h2, h3, h4⟩))) (fun r T a b => ⟨a.1, a.2, b.2⟩)) (fun r T a b => ⟨a.1, a.2, b.2⟩)) (mn_X11_wet (Q := fun r T => IV T ∧ Gr S T ∧ (FRI [(11, 0), (11, 1), (11, 2)] [] S T) ∧ K2 S T ∧ ((NFq 11 2 c11 v0 T))) hI o_v0 (fun r T h0 h1 h2 h3 h4 => ⟨h0, h1, h2, h3, h4⟩)) (fun r T h _ => hq r T h.1.1 h.1.2.1 h.1.2.2.1 h.1.2.2.2.1 h.1.2.2.2.2 h.2)
theorem mz_X11_wetness {v0 : Nat} {v1 : Int32} {Q : Int64 → HS → Prop} {S : HS} (hI : IV S) (o_v0 : ob S v0 11)  (hq : ∀ (r : Int64) (T : HS), IV T → Gr S T → FRI [(11, 0), (11, 1), (11, 2)] [] S T → K2 S T → (NFq 11 2 c11 v0 T) → ((K7 S T ∧ K8 S T) ∧ (K9 false LA S T ∧ K9 true LB S T)) → Q r T) : P_X11_wetness v0 v1 Q S := cm_X11_wetness (cm_X11_wetness (Q3 := fun r T => (IV T ∧ Gr S T ∧ (FRI [(11, 0), (11, 1), (11, 2)] [] S T) ∧ K2 S T ∧ ((NFq 11 2 c11 v0 T))) ∧ (K7 S T ∧ K8 S T) ∧ (K9 false LA S T ∧ K9 true LB S T)) (cm_X11_wetness (Q3 := fun r T => (IV T ∧ Gr S T ∧ (FRI [(11, 0), (11, 1), (11, 2)] [] S T) ∧ K2 S T ∧ ((NFq 11 2 c11 v0 T))) ∧ K7 S T ∧ K8 S T) (kw_X11_wetness (mn_X11_wetness (Q := fun r T => IV T ∧ Gr S T ∧ (FRI [(11, 0), (11, 1), (11, 2)] [] S T) ∧ K2 S T ∧ ((NFq 11 2 c11 v0 T))) hI o_v0 (fun r T h0 h1 h2 h3 h4 => ⟨h0, h1, h2, h3, h4⟩))) (kx_X11_wetness (mn_X11_wetness (Q := fun r T => IV T ∧ Gr S T ∧ (FRI [(11, 0), (11, 1), (11, 2)] [] S T) ∧ K2 S T ∧ ((NFq 11 2 c11 v0 T))) hI o_v0 (fun r T h0 h1 h2 h3 h4 => ⟨h0, h1, h2, h3, h4⟩))) (fun r T a b => ⟨a.1, a.2, b.2⟩)) (cm_X11_wetness (Q3 := fun r T => (IV T ∧ Gr S T ∧ (FRI [(11, 0), (11, 1), (11, 2)] [] S T) ∧ K2 S T ∧ ((NFq 11 2 c11 v0 T))) ∧ (K9 false LA S T ∧ K9 true LB S T)) (ky_X11_wetness (b := false) (L := LA) (by decide) (by decide) (fun _ => rfl) (mn_X11_wetness (Q := fun r T => IV T ∧ Gr S T ∧ (FRI [(11, 0), (11, 1), (11, 2)] [] S T) ∧ K2 S T ∧ ((NFq 11 2 c11 v0 T))) hI o_v0 (fun r T h0 h1 h2 h3 h4 => ⟨h0, h1, h2, h3, h4⟩))) (ky_X11_wetness (b := true) (L := LB) (by decide) (by decide) (fun z => z.elim) (mn_X11_wetness (Q := fun r T => IV T ∧ Gr S T ∧ (FRI [(11, 0), (11, 1), (11, 2)] [] S T) ∧ K2 S T ∧ ((NFq 11 2 c11 v0 T))) hI o_v0 (fun r T h0 h1 h2 h3 h4 => ⟨h0, h1, h2, h3, h4⟩))) (fun r T a b => ⟨a.1, a.2, b.2⟩)) (fun r T a b => ⟨a.1, a.2, b.2⟩)) (mn_X11_wetness (Q := fun r T => IV T ∧ Gr S T ∧ (FRI [(11, 0), (11, 1), (11, 2)] [] S T) ∧ K2 S T ∧ ((NFq 11 2 c11 v0 T))) hI o_v0 (fun r T h0 h1 h2 h3 h4 => ⟨h0, h1, h2, h3, h4⟩)) (fun r T h _ => hq r T h.1.1 h.1.2.1 h.1.2.2.1 h.1.2.2.2.1 h.1.2.2.2.2 h.2)
theorem mz_X11_where {v0 : Nat} {Q : Int32 → HS → Prop} {S : HS} (hI : IV S) (o_v0 : ob S v0 11)  (hq : ∀ (r : Int32) (T : HS), IV T → Gr S T → FRI [(11, 0)] [] S T → K2 S T → (r = fI S v0 2) → ((K7 S T ∧ K8 S T) ∧ (K9 false LA S T ∧ K9 true LB S T)) → Q r T) : P_X11_where v0 Q S := cm_X11_where (cm_X11_where (Q3 := fun r T => (IV T ∧ Gr S T ∧ (FRI [(11, 0)] [] S T) ∧ K2 S T ∧ ((r = fI S v0 2))) ∧ (K7 S T ∧ K8 S T) ∧ (K9 false LA S T ∧ K9 true LB S T)) (cm_X11_where (Q3 := fun r T => (IV T ∧ Gr S T ∧ (FRI [(11, 0)] [] S T) ∧ K2 S T ∧ ((r = fI S v0 2))) ∧ K7 S T ∧ K8 S T) (kw_X11_where (mv_X11_where (Q := fun r T => IV T ∧ Gr S T ∧ (FRI [(11, 0)] [] S T) ∧ K2 S T ∧ ((r = fI S v0 2))) hI o_v0 (fun r T h0 h1 h2 h3 h4 => ⟨h0, h1, h2, h3, h4⟩))) (kx_X11_where (mv_X11_where (Q := fun r T => IV T ∧ Gr S T ∧ (FRI [(11, 0)] [] S T) ∧ K2 S T ∧ ((r = fI S v0 2))) hI o_v0 (fun r T h0 h1 h2 h3 h4 => ⟨h0, h1, h2, h3, h4⟩))) (fun r T a b => ⟨a.1, a.2, b.2⟩)) (cm_X11_where (Q3 := fun r T => (IV T ∧ Gr S T ∧ (FRI [(11, 0)] [] S T) ∧ K2 S T ∧ ((r = fI S v0 2))) ∧ (K9 false LA S T ∧ K9 true LB S T)) (ky_X11_where (b := false) (L := LA) (by decide) (by decide) (fun _ => rfl) (mv_X11_where (Q := fun r T => IV T ∧ Gr S T ∧ (FRI [(11, 0)] [] S T) ∧ K2 S T ∧ ((r = fI S v0 2))) hI o_v0 (fun r T h0 h1 h2 h3 h4 => ⟨h0, h1, h2, h3, h4⟩))) (ky_X11_where (b := true) (L := LB) (by decide) (by decide) (fun z => z.elim) (mv_X11_where (Q := fun r T => IV T ∧ Gr S T ∧ (FRI [(11, 0)] [] S T) ∧ K2 S T ∧ ((r = fI S v0 2))) hI o_v0 (fun r T h0 h1 h2 h3 h4 => ⟨h0, h1, h2, h3, h4⟩))) (fun r T a b => ⟨a.1, a.2, b.2⟩)) (fun r T a b => ⟨a.1, a.2, b.2⟩)) (mv_X11_where (Q := fun r T => IV T ∧ Gr S T ∧ (FRI [(11, 0)] [] S T) ∧ K2 S T ∧ ((r = fI S v0 2))) hI o_v0 (fun r T h0 h1 h2 h3 h4 => ⟨h0, h1, h2, h3, h4⟩)) (fun r T h _ => hq r T h.1.1 h.1.2.1 h.1.2.2.1 h.1.2.2.2.1 h.1.2.2.2.2 h.2)
theorem mz_X11_worst {v0 : Nat} {v1 : Int32} {v2 : Int32} {v3 : Int32} {v4 : Int32} {Q : Int32 → HS → Prop} {S : HS} (hI : IV S) (o_v0 : ob S v0 11)  (hq : ∀ (r : Int32) (T : HS), IV T → Gr S T → FRI [(11, 0), (11, 1), (11, 2)] [] S T → K2 S T → (NFq 11 2 c11 v0 T) → ((K7 S T ∧ K8 S T) ∧ (K9 false LA S T ∧ K9 true LB S T)) → Q r T) : P_X11_worst v0 v1 v2 v3 v4 Q S := cm_X11_worst (cm_X11_worst (Q3 := fun r T => (IV T ∧ Gr S T ∧ (FRI [(11, 0), (11, 1), (11, 2)] [] S T) ∧ K2 S T ∧ ((NFq 11 2 c11 v0 T))) ∧ (K7 S T ∧ K8 S T) ∧ (K9 false LA S T ∧ K9 true LB S T)) (cm_X11_worst (Q3 := fun r T => (IV T ∧ Gr S T ∧ (FRI [(11, 0), (11, 1), (11, 2)] [] S T) ∧ K2 S T ∧ ((NFq 11 2 c11 v0 T))) ∧ K7 S T ∧ K8 S T) (kw_X11_worst (mn_X11_worst (Q := fun r T => IV T ∧ Gr S T ∧ (FRI [(11, 0), (11, 1), (11, 2)] [] S T) ∧ K2 S T ∧ ((NFq 11 2 c11 v0 T))) hI o_v0 (fun r T h0 h1 h2 h3 h4 => ⟨h0, h1, h2, h3, h4⟩))) (kx_X11_worst (mn_X11_worst (Q := fun r T => IV T ∧ Gr S T ∧ (FRI [(11, 0), (11, 1), (11, 2)] [] S T) ∧ K2 S T ∧ ((NFq 11 2 c11 v0 T))) hI o_v0 (fun r T h0 h1 h2 h3 h4 => ⟨h0, h1, h2, h3, h4⟩))) (fun r T a b => ⟨a.1, a.2, b.2⟩)) (cm_X11_worst (Q3 := fun r T => (IV T ∧ Gr S T ∧ (FRI [(11, 0), (11, 1), (11, 2)] [] S T) ∧ K2 S T ∧ ((NFq 11 2 c11 v0 T))) ∧ (K9 false LA S T ∧ K9 true LB S T)) (ky_X11_worst (b := false) (L := LA) (by decide) (by decide) (fun _ => rfl) (mn_X11_worst (Q := fun r T => IV T ∧ Gr S T ∧ (FRI [(11, 0), (11, 1), (11, 2)] [] S T) ∧ K2 S T ∧ ((NFq 11 2 c11 v0 T))) hI o_v0 (fun r T h0 h1 h2 h3 h4 => ⟨h0, h1, h2, h3, h4⟩))) (ky_X11_worst (b := true) (L := LB) (by decide) (by decide) (fun z => z.elim) (mn_X11_worst (Q := fun r T => IV T ∧ Gr S T ∧ (FRI [(11, 0), (11, 1), (11, 2)] [] S T) ∧ K2 S T ∧ ((NFq 11 2 c11 v0 T))) hI o_v0 (fun r T h0 h1 h2 h3 h4 => ⟨h0, h1, h2, h3, h4⟩))) (fun r T a b => ⟨a.1, a.2, b.2⟩)) (fun r T a b => ⟨a.1, a.2, b.2⟩)) (mn_X11_worst (Q := fun r T => IV T ∧ Gr S T ∧ (FRI [(11, 0), (11, 1), (11, 2)] [] S T) ∧ K2 S T ∧ ((NFq 11 2 c11 v0 T))) hI o_v0 (fun r T h0 h1 h2 h3 h4 => ⟨h0, h1, h2, h3, h4⟩)) (fun r T h _ => hq r T h.1.1 h.1.2.1 h.1.2.2.1 h.1.2.2.2.1 h.1.2.2.2.2 h.2)
theorem mz_X9_air {v0 : Nat} {v1 : Int32} {v2 : Int32} {v3 : Int32} {Q : Int32 → HS → Prop} {S : HS} (hI : IV S) (o_v0 : ob S v0 9)  (hq : ∀ (r : Int32) (T : HS), IV T → Gr S T → FRI [(9, 9)] [] S T → K2 S T → (NFq 9 9 c9 v0 T) → ((K7 S T ∧ K8 S T) ∧ (K9 false LA S T ∧ K9 true LB S T)) → Q r T) : P_X9_air v0 v1 v2 v3 Q S := cm_X9_air (cm_X9_air (Q3 := fun r T => (IV T ∧ Gr S T ∧ (FRI [(9, 9)] [] S T) ∧ K2 S T ∧ ((NFq 9 9 c9 v0 T))) ∧ (K7 S T ∧ K8 S T) ∧ (K9 false LA S T ∧ K9 true LB S T)) (cm_X9_air (Q3 := fun r T => (IV T ∧ Gr S T ∧ (FRI [(9, 9)] [] S T) ∧ K2 S T ∧ ((NFq 9 9 c9 v0 T))) ∧ K7 S T ∧ K8 S T) (kw_X9_air (mn_X9_air (Q := fun r T => IV T ∧ Gr S T ∧ (FRI [(9, 9)] [] S T) ∧ K2 S T ∧ ((NFq 9 9 c9 v0 T))) hI o_v0 (fun r T h0 h1 h2 h3 h4 => ⟨h0, h1, h2, h3, h4⟩))) (kx_X9_air (mn_X9_air (Q := fun r T => IV T ∧ Gr S T ∧ (FRI [(9, 9)] [] S T) ∧ K2 S T ∧ ((NFq 9 9 c9 v0 T))) hI o_v0 (fun r T h0 h1 h2 h3 h4 => ⟨h0, h1, h2, h3, h4⟩))) (fun r T a b => ⟨a.1, a.2, b.2⟩)) (cm_X9_air (Q3 := fun r T => (IV T ∧ Gr S T ∧ (FRI [(9, 9)] [] S T) ∧ K2 S T ∧ ((NFq 9 9 c9 v0 T))) ∧ (K9 false LA S T ∧ K9 true LB S T)) (ky_X9_air (b := false) (L := LA) (by decide) (by decide) (fun _ => rfl) (mn_X9_air (Q := fun r T => IV T ∧ Gr S T ∧ (FRI [(9, 9)] [] S T) ∧ K2 S T ∧ ((NFq 9 9 c9 v0 T))) hI o_v0 (fun r T h0 h1 h2 h3 h4 => ⟨h0, h1, h2, h3, h4⟩))) (ky_X9_air (b := true) (L := LB) (by decide) (by decide) (fun z => z.elim) (mn_X9_air (Q := fun r T => IV T ∧ Gr S T ∧ (FRI [(9, 9)] [] S T) ∧ K2 S T ∧ ((NFq 9 9 c9 v0 T))) hI o_v0 (fun r T h0 h1 h2 h3 h4 => ⟨h0, h1, h2, h3, h4⟩))) (fun r T a b => ⟨a.1, a.2, b.2⟩)) (fun r T a b => ⟨a.1, a.2, b.2⟩)) (mn_X9_air (Q := fun r T => IV T ∧ Gr S T ∧ (FRI [(9, 9)] [] S T) ∧ K2 S T ∧ ((NFq 9 9 c9 v0 T))) hI o_v0 (fun r T h0 h1 h2 h3 h4 => ⟨h0, h1, h2, h3, h4⟩)) (fun r T h _ => hq r T h.1.1 h.1.2.1 h.1.2.2.1 h.1.2.2.2.1 h.1.2.2.2.2 h.2)
theorem mt_X9_back {v0 : Nat} {v1 : Int32} {Q : Int32 → HS → Prop} {S : HS} (hI : IV S) (o_v0 : ob S v0 9) {rr w1 w2 l9 p9 q9 : Nat} {A : AS} {G : GC} (J : CJ v0 rr w1 w2 S) (hc : Cnt w1 A S) (ct : CtB w1 A G S S) (ab : ABd A) (gb : GBd A G) (lg : LG v0 l9 p9 q9 S) {dy : Nat} {D : DY} (e6 : fR S v0 6 = some dy) (cd : CDd dy D S) (db : DBd A D) (hq : ∀ (r : Int32) (T : HS), IV T → Gr S T → FRI [(0, 2), (2, 0), (2, 1), (9, 9)] [] S T → bl r → K2 S T → (NFq 9 9 c9 v0 T) → (((K7 S T ∧ K8 S T) ∧ K9 false LA S T) ∧ ans (¬ v1 < 0 ∧ v1 < nI (dK D)) r ∧ CDd dy (bkF D v1) T) → Q r T) : P_X9_back v0 v1 Q S := cm_X9_back (cm_X9_back (Q3 := fun r T => (IV T ∧ Gr S T ∧ (FRI [(0, 2), (2, 0), (2, 1), (9, 9)] [] S T) ∧ bl r ∧ K2 S T ∧ ((NFq 9 9 c9 v0 T))) ∧ ((K7 S T ∧ K8 S T) ∧ K9 false LA S T) ∧ ans (¬ v1 < 0 ∧ v1 < nI (dK D)) r ∧ CDd dy (bkF D v1) T) (cm_X9_back (Q3 := fun r T => (IV T ∧ Gr S T ∧ (FRI [(0, 2), (2, 0), (2, 1), (9, 9)] [] S T) ∧ bl r ∧ K2 S T ∧ ((NFq 9 9 c9 v0 T))) ∧ (K7 S T ∧ K8 S T) ∧ K9 false LA S T) (cm_X9_back (Q3 := fun r T => (IV T ∧ Gr S T ∧ (FRI [(0, 2), (2, 0), (2, 1), (9, 9)] [] S T) ∧ bl r ∧ K2 S T ∧ ((NFq 9 9 c9 v0 T))) ∧ K7 S T ∧ K8 S T) (kw_X9_back (mn_X9_back (Q := fun r T => IV T ∧ Gr S T ∧ (FRI [(0, 2), (2, 0), (2, 1), (9, 9)] [] S T) ∧ bl r ∧ K2 S T ∧ ((NFq 9 9 c9 v0 T))) hI o_v0 (fun r T h0 h1 h2 h3 h4 h5 => ⟨h0, h1, h2, h3, h4, h5⟩))) (kx_X9_back (mn_X9_back (Q := fun r T => IV T ∧ Gr S T ∧ (FRI [(0, 2), (2, 0), (2, 1), (9, 9)] [] S T) ∧ bl r ∧ K2 S T ∧ ((NFq 9 9 c9 v0 T))) hI o_v0 (fun r T h0 h1 h2 h3 h4 h5 => ⟨h0, h1, h2, h3, h4, h5⟩))) (fun r T a b => ⟨a.1, a.2, b.2⟩)) (ky_X9_back (b := false) (L := LA) (by decide) (by decide) (fun _ => rfl) (mn_X9_back (Q := fun r T => IV T ∧ Gr S T ∧ (FRI [(0, 2), (2, 0), (2, 1), (9, 9)] [] S T) ∧ bl r ∧ K2 S T ∧ ((NFq 9 9 c9 v0 T))) hI o_v0 (fun r T h0 h1 h2 h3 h4 h5 => ⟨h0, h1, h2, h3, h4, h5⟩))) (fun r T a b => ⟨a.1, a.2, b.2⟩)) (tl_X9_back J.2.2.2.1 e6 cd (mn_X9_back (Q := fun r T => IV T ∧ Gr S T ∧ (FRI [(0, 2), (2, 0), (2, 1), (9, 9)] [] S T) ∧ bl r ∧ K2 S T ∧ ((NFq 9 9 c9 v0 T))) hI o_v0 (fun r T h0 h1 h2 h3 h4 h5 => ⟨h0, h1, h2, h3, h4, h5⟩))) (fun r T a b => ⟨a.1, a.2, b.2⟩)) (mn_X9_back (Q := fun r T => IV T ∧ Gr S T ∧ (FRI [(0, 2), (2, 0), (2, 1), (9, 9)] [] S T) ∧ bl r ∧ K2 S T ∧ ((NFq 9 9 c9 v0 T))) hI o_v0 (fun r T h0 h1 h2 h3 h4 h5 => ⟨h0, h1, h2, h3, h4, h5⟩)) (fun r T h _ => hq r T h.1.1 h.1.2.1 h.1.2.2.1 h.1.2.2.2.1 h.1.2.2.2.2.1 h.1.2.2.2.2.2 h.2)
theorem mz_X9_best {v0 : Nat} {v1 : Int32} {v2 : Int32} {v3 : Int32} {v4 : Int32} {Q : Int32 → HS → Prop} {S : HS} (hI : IV S) (o_v0 : ob S v0 9)  (hq : ∀ (r : Int32) (T : HS), IV T → Gr S T → FRI [(9, 9)] [] S T → K2 S T → (NFq 9 9 c9 v0 T) → ((K7 S T ∧ K8 S T) ∧ (K9 false LA S T ∧ K9 true LB S T)) → Q r T) : P_X9_best v0 v1 v2 v3 v4 Q S := cm_X9_best (cm_X9_best (Q3 := fun r T => (IV T ∧ Gr S T ∧ (FRI [(9, 9)] [] S T) ∧ K2 S T ∧ ((NFq 9 9 c9 v0 T))) ∧ (K7 S T ∧ K8 S T) ∧ (K9 false LA S T ∧ K9 true LB S T)) (cm_X9_best (Q3 := fun r T => (IV T ∧ Gr S T ∧ (FRI [(9, 9)] [] S T) ∧ K2 S T ∧ ((NFq 9 9 c9 v0 T))) ∧ K7 S T ∧ K8 S T) (kw_X9_best (mn_X9_best (Q := fun r T => IV T ∧ Gr S T ∧ (FRI [(9, 9)] [] S T) ∧ K2 S T ∧ ((NFq 9 9 c9 v0 T))) hI o_v0 (fun r T h0 h1 h2 h3 h4 => ⟨h0, h1, h2, h3, h4⟩))) (kx_X9_best (mn_X9_best (Q := fun r T => IV T ∧ Gr S T ∧ (FRI [(9, 9)] [] S T) ∧ K2 S T ∧ ((NFq 9 9 c9 v0 T))) hI o_v0 (fun r T h0 h1 h2 h3 h4 => ⟨h0, h1, h2, h3, h4⟩))) (fun r T a b => ⟨a.1, a.2, b.2⟩)) (cm_X9_best (Q3 := fun r T => (IV T ∧ Gr S T ∧ (FRI [(9, 9)] [] S T) ∧ K2 S T ∧ ((NFq 9 9 c9 v0 T))) ∧ (K9 false LA S T ∧ K9 true LB S T)) (ky_X9_best (b := false) (L := LA) (by decide) (by decide) (fun _ => rfl) (mn_X9_best (Q := fun r T => IV T ∧ Gr S T ∧ (FRI [(9, 9)] [] S T) ∧ K2 S T ∧ ((NFq 9 9 c9 v0 T))) hI o_v0 (fun r T h0 h1 h2 h3 h4 => ⟨h0, h1, h2, h3, h4⟩))) (ky_X9_best (b := true) (L := LB) (by decide) (by decide) (fun z => z.elim) (mn_X9_best (Q := fun r T => IV T ∧ Gr S T ∧ (FRI [(9, 9)] [] S T) ∧ K2 S T ∧ ((NFq 9 9 c9 v0 T))) hI o_v0 (fun r T h0 h1 h2 h3 h4 => ⟨h0, h1, h2, h3, h4⟩))) (fun r T a b => ⟨a.1, a.2, b.2⟩)) (fun r T a b => ⟨a.1, a.2, b.2⟩)) (mn_X9_best (Q := fun r T => IV T ∧ Gr S T ∧ (FRI [(9, 9)] [] S T) ∧ K2 S T ∧ ((NFq 9 9 c9 v0 T))) hI o_v0 (fun r T h0 h1 h2 h3 h4 => ⟨h0, h1, h2, h3, h4⟩)) (fun r T h _ => hq r T h.1.1 h.1.2.1 h.1.2.2.1 h.1.2.2.2.1 h.1.2.2.2.2 h.2)
theorem mt_X9_day {v0 : Nat} {v1 : Int32} {v2 : Int32} {v3 : Int32} {v4 : Int32} {Q : Int32 → HS → Prop} {S : HS} (hI : IV S) (o_v0 : ob S v0 9) {rr w1 w2 l9 p9 q9 : Nat} {A : AS} {G : GC} (J : CJ v0 rr w1 w2 S) (hc : Cnt w1 A S) (ct : CtB w1 A G S S) (ab : ABd A) (gb : GBd A G) (lg : LG v0 l9 p9 q9 S) {dy : Nat} {D : DY} (e6 : fR S v0 6 = some dy) (cd : CDd dy D S) (db : DBd A D) (hq : ∀ (r : Int32) (T : HS), IV T → Gr S T → FRI [(0, 0), (0, 1), (0, 2), (0, 3), (2, 0), (2, 1), (9, 9)] [] S T → K2 S T → (NFq 9 9 c9 v0 T) → (((K7 S T ∧ K8 S T) ∧ K9 false LA S T) ∧ r = tellday A G v1 v2 v3 v4 ∧ CDd dy (nxday A G D v1 v2 v3 v4) T) → Q r T) : P_X9_day v0 v1 v2 v3 v4 Q S := cm_X9_day (cm_X9_day (Q3 := fun r T => (IV T ∧ Gr S T ∧ (FRI [(0, 0), (0, 1), (0, 2), (0, 3), (2, 0), (2, 1), (9, 9)] [] S T) ∧ K2 S T ∧ ((NFq 9 9 c9 v0 T))) ∧ ((K7 S T ∧ K8 S T) ∧ K9 false LA S T) ∧ r = tellday A G v1 v2 v3 v4 ∧ CDd dy (nxday A G D v1 v2 v3 v4) T) (cm_X9_day (Q3 := fun r T => (IV T ∧ Gr S T ∧ (FRI [(0, 0), (0, 1), (0, 2), (0, 3), (2, 0), (2, 1), (9, 9)] [] S T) ∧ K2 S T ∧ ((NFq 9 9 c9 v0 T))) ∧ (K7 S T ∧ K8 S T) ∧ K9 false LA S T) (cm_X9_day (Q3 := fun r T => (IV T ∧ Gr S T ∧ (FRI [(0, 0), (0, 1), (0, 2), (0, 3), (2, 0), (2, 1), (9, 9)] [] S T) ∧ K2 S T ∧ ((NFq 9 9 c9 v0 T))) ∧ K7 S T ∧ K8 S T) (kw_X9_day (mn_X9_day (Q := fun r T => IV T ∧ Gr S T ∧ (FRI [(0, 0), (0, 1), (0, 2), (0, 3), (2, 0), (2, 1), (9, 9)] [] S T) ∧ K2 S T ∧ ((NFq 9 9 c9 v0 T))) hI o_v0 (fun r T h0 h1 h2 h3 h4 => ⟨h0, h1, h2, h3, h4⟩))) (kx_X9_day (mn_X9_day (Q := fun r T => IV T ∧ Gr S T ∧ (FRI [(0, 0), (0, 1), (0, 2), (0, 3), (2, 0), (2, 1), (9, 9)] [] S T) ∧ K2 S T ∧ ((NFq 9 9 c9 v0 T))) hI o_v0 (fun r T h0 h1 h2 h3 h4 => ⟨h0, h1, h2, h3, h4⟩))) (fun r T a b => ⟨a.1, a.2, b.2⟩)) (ky_X9_day (b := false) (L := LA) (by decide) (by decide) (fun _ => rfl) (mn_X9_day (Q := fun r T => IV T ∧ Gr S T ∧ (FRI [(0, 0), (0, 1), (0, 2), (0, 3), (2, 0), (2, 1), (9, 9)] [] S T) ∧ K2 S T ∧ ((NFq 9 9 c9 v0 T))) hI o_v0 (fun r T h0 h1 h2 h3 h4 => ⟨h0, h1, h2, h3, h4⟩))) (fun r T a b => ⟨a.1, a.2, b.2⟩)) (tl_X9_day hI J hc ct ab e6 cd (mn_X9_day (Q := fun r T => IV T ∧ Gr S T ∧ (FRI [(0, 0), (0, 1), (0, 2), (0, 3), (2, 0), (2, 1), (9, 9)] [] S T) ∧ K2 S T ∧ ((NFq 9 9 c9 v0 T))) hI o_v0 (fun r T h0 h1 h2 h3 h4 => ⟨h0, h1, h2, h3, h4⟩))) (fun r T a b => ⟨a.1, a.2, b.2⟩)) (mn_X9_day (Q := fun r T => IV T ∧ Gr S T ∧ (FRI [(0, 0), (0, 1), (0, 2), (0, 3), (2, 0), (2, 1), (9, 9)] [] S T) ∧ K2 S T ∧ ((NFq 9 9 c9 v0 T))) hI o_v0 (fun r T h0 h1 h2 h3 h4 => ⟨h0, h1, h2, h3, h4⟩)) (fun r T h _ => hq r T h.1.1 h.1.2.1 h.1.2.2.1 h.1.2.2.2.1 h.1.2.2.2.2 h.2)
theorem mz_X9_driest {v0 : Nat} {v1 : Int32} {v2 : Int32} {v3 : Int32} {Q : Int32 → HS → Prop} {S : HS} (hI : IV S) (o_v0 : ob S v0 9)  (hq : ∀ (r : Int32) (T : HS), IV T → Gr S T → FRI [(9, 9)] [] S T → K2 S T → (NFq 9 9 c9 v0 T) → ((K7 S T ∧ K8 S T) ∧ (K9 false LA S T ∧ K9 true LB S T)) → Q r T) : P_X9_driest v0 v1 v2 v3 Q S := cm_X9_driest (cm_X9_driest (Q3 := fun r T => (IV T ∧ Gr S T ∧ (FRI [(9, 9)] [] S T) ∧ K2 S T ∧ ((NFq 9 9 c9 v0 T))) ∧ (K7 S T ∧ K8 S T) ∧ (K9 false LA S T ∧ K9 true LB S T)) (cm_X9_driest (Q3 := fun r T => (IV T ∧ Gr S T ∧ (FRI [(9, 9)] [] S T) ∧ K2 S T ∧ ((NFq 9 9 c9 v0 T))) ∧ K7 S T ∧ K8 S T) (kw_X9_driest (mn_X9_driest (Q := fun r T => IV T ∧ Gr S T ∧ (FRI [(9, 9)] [] S T) ∧ K2 S T ∧ ((NFq 9 9 c9 v0 T))) hI o_v0 (fun r T h0 h1 h2 h3 h4 => ⟨h0, h1, h2, h3, h4⟩))) (kx_X9_driest (mn_X9_driest (Q := fun r T => IV T ∧ Gr S T ∧ (FRI [(9, 9)] [] S T) ∧ K2 S T ∧ ((NFq 9 9 c9 v0 T))) hI o_v0 (fun r T h0 h1 h2 h3 h4 => ⟨h0, h1, h2, h3, h4⟩))) (fun r T a b => ⟨a.1, a.2, b.2⟩)) (cm_X9_driest (Q3 := fun r T => (IV T ∧ Gr S T ∧ (FRI [(9, 9)] [] S T) ∧ K2 S T ∧ ((NFq 9 9 c9 v0 T))) ∧ (K9 false LA S T ∧ K9 true LB S T)) (ky_X9_driest (b := false) (L := LA) (by decide) (by decide) (fun _ => rfl) (mn_X9_driest (Q := fun r T => IV T ∧ Gr S T ∧ (FRI [(9, 9)] [] S T) ∧ K2 S T ∧ ((NFq 9 9 c9 v0 T))) hI o_v0 (fun r T h0 h1 h2 h3 h4 => ⟨h0, h1, h2, h3, h4⟩))) (ky_X9_driest (b := true) (L := LB) (by decide) (by decide) (fun z => z.elim) (mn_X9_driest (Q := fun r T => IV T ∧ Gr S T ∧ (FRI [(9, 9)] [] S T) ∧ K2 S T ∧ ((NFq 9 9 c9 v0 T))) hI o_v0 (fun r T h0 h1 h2 h3 h4 => ⟨h0, h1, h2, h3, h4⟩))) (fun r T a b => ⟨a.1, a.2, b.2⟩)) (fun r T a b => ⟨a.1, a.2, b.2⟩)) (mn_X9_driest (Q := fun r T => IV T ∧ Gr S T ∧ (FRI [(9, 9)] [] S T) ∧ K2 S T ∧ ((NFq 9 9 c9 v0 T))) hI o_v0 (fun r T h0 h1 h2 h3 h4 => ⟨h0, h1, h2, h3, h4⟩)) (fun r T h _ => hq r T h.1.1 h.1.2.1 h.1.2.2.1 h.1.2.2.2.1 h.1.2.2.2.2 h.2)
theorem mz_X9_even {v0 : Nat} {v1 : Int32} {v2 : Int32} {v3 : Int32} {v4 : Int32} {Q : Int32 → HS → Prop} {S : HS} (hI : IV S) (o_v0 : ob S v0 9)  (hq : ∀ (r : Int32) (T : HS), IV T → Gr S T → FRI [(9, 9)] [] S T → K2 S T → (NFq 9 9 c9 v0 T) → ((K7 S T ∧ K8 S T) ∧ (K9 false LA S T ∧ K9 true LB S T)) → Q r T) : P_X9_even v0 v1 v2 v3 v4 Q S := cm_X9_even (cm_X9_even (Q3 := fun r T => (IV T ∧ Gr S T ∧ (FRI [(9, 9)] [] S T) ∧ K2 S T ∧ ((NFq 9 9 c9 v0 T))) ∧ (K7 S T ∧ K8 S T) ∧ (K9 false LA S T ∧ K9 true LB S T)) (cm_X9_even (Q3 := fun r T => (IV T ∧ Gr S T ∧ (FRI [(9, 9)] [] S T) ∧ K2 S T ∧ ((NFq 9 9 c9 v0 T))) ∧ K7 S T ∧ K8 S T) (kw_X9_even (mn_X9_even (Q := fun r T => IV T ∧ Gr S T ∧ (FRI [(9, 9)] [] S T) ∧ K2 S T ∧ ((NFq 9 9 c9 v0 T))) hI o_v0 (fun r T h0 h1 h2 h3 h4 => ⟨h0, h1, h2, h3, h4⟩))) (kx_X9_even (mn_X9_even (Q := fun r T => IV T ∧ Gr S T ∧ (FRI [(9, 9)] [] S T) ∧ K2 S T ∧ ((NFq 9 9 c9 v0 T))) hI o_v0 (fun r T h0 h1 h2 h3 h4 => ⟨h0, h1, h2, h3, h4⟩))) (fun r T a b => ⟨a.1, a.2, b.2⟩)) (cm_X9_even (Q3 := fun r T => (IV T ∧ Gr S T ∧ (FRI [(9, 9)] [] S T) ∧ K2 S T ∧ ((NFq 9 9 c9 v0 T))) ∧ (K9 false LA S T ∧ K9 true LB S T)) (ky_X9_even (b := false) (L := LA) (by decide) (by decide) (fun _ => rfl) (mn_X9_even (Q := fun r T => IV T ∧ Gr S T ∧ (FRI [(9, 9)] [] S T) ∧ K2 S T ∧ ((NFq 9 9 c9 v0 T))) hI o_v0 (fun r T h0 h1 h2 h3 h4 => ⟨h0, h1, h2, h3, h4⟩))) (ky_X9_even (b := true) (L := LB) (by decide) (by decide) (fun z => z.elim) (mn_X9_even (Q := fun r T => IV T ∧ Gr S T ∧ (FRI [(9, 9)] [] S T) ∧ K2 S T ∧ ((NFq 9 9 c9 v0 T))) hI o_v0 (fun r T h0 h1 h2 h3 h4 => ⟨h0, h1, h2, h3, h4⟩))) (fun r T a b => ⟨a.1, a.2, b.2⟩)) (fun r T a b => ⟨a.1, a.2, b.2⟩)) (mn_X9_even (Q := fun r T => IV T ∧ Gr S T ∧ (FRI [(9, 9)] [] S T) ∧ K2 S T ∧ ((NFq 9 9 c9 v0 T))) hI o_v0 (fun r T h0 h1 h2 h3 h4 => ⟨h0, h1, h2, h3, h4⟩)) (fun r T h _ => hq r T h.1.1 h.1.2.1 h.1.2.2.1 h.1.2.2.2.1 h.1.2.2.2.2 h.2)
theorem mz_X9_face {v0 : Nat} {v1 : Int32} {v2 : Int32} {v3 : Int32} {v4 : Int32} {v5 : Int32} {v6 : Int32} {v7 : Int32} {Q : Int64 → HS → Prop} {S : HS} (hI : IV S) (o_v0 : ob S v0 9)  (hq : ∀ (r : Int64) (T : HS), IV T → Gr S T → FRI [(9, 9)] [] S T → K2 S T → (NFq 9 9 c9 v0 T) → ((K7 S T ∧ K8 S T) ∧ (K9 false LA S T ∧ K9 true LB S T)) → Q r T) : P_X9_face v0 v1 v2 v3 v4 v5 v6 v7 Q S := cm_X9_face (cm_X9_face (Q3 := fun r T => (IV T ∧ Gr S T ∧ (FRI [(9, 9)] [] S T) ∧ K2 S T ∧ ((NFq 9 9 c9 v0 T))) ∧ (K7 S T ∧ K8 S T) ∧ (K9 false LA S T ∧ K9 true LB S T)) (cm_X9_face (Q3 := fun r T => (IV T ∧ Gr S T ∧ (FRI [(9, 9)] [] S T) ∧ K2 S T ∧ ((NFq 9 9 c9 v0 T))) ∧ K7 S T ∧ K8 S T) (kw_X9_face (mn_X9_face (Q := fun r T => IV T ∧ Gr S T ∧ (FRI [(9, 9)] [] S T) ∧ K2 S T ∧ ((NFq 9 9 c9 v0 T))) hI o_v0 (fun r T h0 h1 h2 h3 h4 => ⟨h0, h1, h2, h3, h4⟩))) (kx_X9_face (mn_X9_face (Q := fun r T => IV T ∧ Gr S T ∧ (FRI [(9, 9)] [] S T) ∧ K2 S T ∧ ((NFq 9 9 c9 v0 T))) hI o_v0 (fun r T h0 h1 h2 h3 h4 => ⟨h0, h1, h2, h3, h4⟩))) (fun r T a b => ⟨a.1, a.2, b.2⟩)) (cm_X9_face (Q3 := fun r T => (IV T ∧ Gr S T ∧ (FRI [(9, 9)] [] S T) ∧ K2 S T ∧ ((NFq 9 9 c9 v0 T))) ∧ (K9 false LA S T ∧ K9 true LB S T)) (ky_X9_face (b := false) (L := LA) (by decide) (by decide) (fun _ => rfl) (mn_X9_face (Q := fun r T => IV T ∧ Gr S T ∧ (FRI [(9, 9)] [] S T) ∧ K2 S T ∧ ((NFq 9 9 c9 v0 T))) hI o_v0 (fun r T h0 h1 h2 h3 h4 => ⟨h0, h1, h2, h3, h4⟩))) (ky_X9_face (b := true) (L := LB) (by decide) (by decide) (fun z => z.elim) (mn_X9_face (Q := fun r T => IV T ∧ Gr S T ∧ (FRI [(9, 9)] [] S T) ∧ K2 S T ∧ ((NFq 9 9 c9 v0 T))) hI o_v0 (fun r T h0 h1 h2 h3 h4 => ⟨h0, h1, h2, h3, h4⟩))) (fun r T a b => ⟨a.1, a.2, b.2⟩)) (fun r T a b => ⟨a.1, a.2, b.2⟩)) (mn_X9_face (Q := fun r T => IV T ∧ Gr S T ∧ (FRI [(9, 9)] [] S T) ∧ K2 S T ∧ ((NFq 9 9 c9 v0 T))) hI o_v0 (fun r T h0 h1 h2 h3 h4 => ⟨h0, h1, h2, h3, h4⟩)) (fun r T h _ => hq r T h.1.1 h.1.2.1 h.1.2.2.1 h.1.2.2.2.1 h.1.2.2.2.2 h.2)
theorem mz_X9_feed {v0 : Nat} {v1 : Int32} {v2 : Int32} {v3 : Int32} {v4 : Int32} {v5 : Int32} {Q : Int32 → HS → Prop} {S : HS} (hI : IV S) (o_v0 : ob S v0 9) {f : Nat → Int32} {t a : Nat} (P : TP 0 1 f t a v0 S) (ht : t ≤ 900)  (hq : ∀ (r : Int32) (T : HS), IV T → Gr S T → FRI [(9, 1)] [] S T → ((900 < fI S v0 1 + 20 → r = -1 ∧ fI T v0 1 = fI S v0 1) ∧ (fI S v0 1 + 20 ≤ 900 → r = fI T v0 1 ∧ fI T v0 1 = fI S v0 1 + 20)) → (FT [1] a v0 S T ∧ ((t + 20 ≤ 900 ∧ r = nI (t + 20) ∧ TP 0 1 (f20 f t v1 v2 v3 v4 v5) (t + 20) a v0 T) ∨ (900 < t + 20 ∧ r = -1 ∧ S = T))) → ((K7 S T ∧ K8 S T) ∧ (K9 false LA S T ∧ K9 true LB S T)) → Q r T) : P_X9_feed v0 v1 v2 v3 v4 v5 Q S := cm_X9_feed (cm_X9_feed (Q3 := fun r T => (IV T ∧ Gr S T ∧ (FRI [(9, 1)] [] S T) ∧ (((900 < fI S v0 1 + 20 → r = -1 ∧ fI T v0 1 = fI S v0 1) ∧ (fI S v0 1 + 20 ≤ 900 → r = fI T v0 1 ∧ fI T v0 1 = fI S v0 1 + 20))) ∧ ((FT [1] a v0 S T ∧ ((t + 20 ≤ 900 ∧ r = nI (t + 20) ∧ TP 0 1 (f20 f t v1 v2 v3 v4 v5) (t + 20) a v0 T) ∨ (900 < t + 20 ∧ r = -1 ∧ S = T))))) ∧ (K7 S T ∧ K8 S T) ∧ (K9 false LA S T ∧ K9 true LB S T)) (cm_X9_feed (Q3 := fun r T => (IV T ∧ Gr S T ∧ (FRI [(9, 1)] [] S T) ∧ (((900 < fI S v0 1 + 20 → r = -1 ∧ fI T v0 1 = fI S v0 1) ∧ (fI S v0 1 + 20 ≤ 900 → r = fI T v0 1 ∧ fI T v0 1 = fI S v0 1 + 20))) ∧ ((FT [1] a v0 S T ∧ ((t + 20 ≤ 900 ∧ r = nI (t + 20) ∧ TP 0 1 (f20 f t v1 v2 v3 v4 v5) (t + 20) a v0 T) ∨ (900 < t + 20 ∧ r = -1 ∧ S = T))))) ∧ K7 S T ∧ K8 S T) (kw_X9_feed (ml_X9_feed (Q := fun r T => IV T ∧ Gr S T ∧ (FRI [(9, 1)] [] S T) ∧ (((900 < fI S v0 1 + 20 → r = -1 ∧ fI T v0 1 = fI S v0 1) ∧ (fI S v0 1 + 20 ≤ 900 → r = fI T v0 1 ∧ fI T v0 1 = fI S v0 1 + 20))) ∧ ((FT [1] a v0 S T ∧ ((t + 20 ≤ 900 ∧ r = nI (t + 20) ∧ TP 0 1 (f20 f t v1 v2 v3 v4 v5) (t + 20) a v0 T) ∨ (900 < t + 20 ∧ r = -1 ∧ S = T))))) hI o_v0 P ht (fun r T h0 h1 h2 h3 h4 => ⟨h0, h1, h2, h3, h4⟩))) (kx_X9_feed (ml_X9_feed (Q := fun r T => IV T ∧ Gr S T ∧ (FRI [(9, 1)] [] S T) ∧ (((900 < fI S v0 1 + 20 → r = -1 ∧ fI T v0 1 = fI S v0 1) ∧ (fI S v0 1 + 20 ≤ 900 → r = fI T v0 1 ∧ fI T v0 1 = fI S v0 1 + 20))) ∧ ((FT [1] a v0 S T ∧ ((t + 20 ≤ 900 ∧ r = nI (t + 20) ∧ TP 0 1 (f20 f t v1 v2 v3 v4 v5) (t + 20) a v0 T) ∨ (900 < t + 20 ∧ r = -1 ∧ S = T))))) hI o_v0 P ht (fun r T h0 h1 h2 h3 h4 => ⟨h0, h1, h2, h3, h4⟩))) (fun r T a b => ⟨a.1, a.2, b.2⟩)) (cm_X9_feed (Q3 := fun r T => (IV T ∧ Gr S T ∧ (FRI [(9, 1)] [] S T) ∧ (((900 < fI S v0 1 + 20 → r = -1 ∧ fI T v0 1 = fI S v0 1) ∧ (fI S v0 1 + 20 ≤ 900 → r = fI T v0 1 ∧ fI T v0 1 = fI S v0 1 + 20))) ∧ ((FT [1] a v0 S T ∧ ((t + 20 ≤ 900 ∧ r = nI (t + 20) ∧ TP 0 1 (f20 f t v1 v2 v3 v4 v5) (t + 20) a v0 T) ∨ (900 < t + 20 ∧ r = -1 ∧ S = T))))) ∧ (K9 false LA S T ∧ K9 true LB S T)) (ky_X9_feed (b := false) (L := LA) (by decide) (by decide) (fun _ => rfl) (ml_X9_feed (Q := fun r T => IV T ∧ Gr S T ∧ (FRI [(9, 1)] [] S T) ∧ (((900 < fI S v0 1 + 20 → r = -1 ∧ fI T v0 1 = fI S v0 1) ∧ (fI S v0 1 + 20 ≤ 900 → r = fI T v0 1 ∧ fI T v0 1 = fI S v0 1 + 20))) ∧ ((FT [1] a v0 S T ∧ ((t + 20 ≤ 900 ∧ r = nI (t + 20) ∧ TP 0 1 (f20 f t v1 v2 v3 v4 v5) (t + 20) a v0 T) ∨ (900 < t + 20 ∧ r = -1 ∧ S = T))))) hI o_v0 P ht (fun r T h0 h1 h2 h3 h4 => ⟨h0, h1, h2, h3, h4⟩))) (ky_X9_feed (b := true) (L := LB) (by decide) (by decide) (fun z => z.elim) (ml_X9_feed (Q := fun r T => IV T ∧ Gr S T ∧ (FRI [(9, 1)] [] S T) ∧ (((900 < fI S v0 1 + 20 → r = -1 ∧ fI T v0 1 = fI S v0 1) ∧ (fI S v0 1 + 20 ≤ 900 → r = fI T v0 1 ∧ fI T v0 1 = fI S v0 1 + 20))) ∧ ((FT [1] a v0 S T ∧ ((t + 20 ≤ 900 ∧ r = nI (t + 20) ∧ TP 0 1 (f20 f t v1 v2 v3 v4 v5) (t + 20) a v0 T) ∨ (900 < t + 20 ∧ r = -1 ∧ S = T))))) hI o_v0 P ht (fun r T h0 h1 h2 h3 h4 => ⟨h0, h1, h2, h3, h4⟩))) (fun r T a b => ⟨a.1, a.2, b.2⟩)) (fun r T a b => ⟨a.1, a.2, b.2⟩)) (ml_X9_feed (Q := fun r T => IV T ∧ Gr S T ∧ (FRI [(9, 1)] [] S T) ∧ (((900 < fI S v0 1 + 20 → r = -1 ∧ fI T v0 1 = fI S v0 1) ∧ (fI S v0 1 + 20 ≤ 900 → r = fI T v0 1 ∧ fI T v0 1 = fI S v0 1 + 20))) ∧ ((FT [1] a v0 S T ∧ ((t + 20 ≤ 900 ∧ r = nI (t + 20) ∧ TP 0 1 (f20 f t v1 v2 v3 v4 v5) (t + 20) a v0 T) ∨ (900 < t + 20 ∧ r = -1 ∧ S = T))))) hI o_v0 P ht (fun r T h0 h1 h2 h3 h4 => ⟨h0, h1, h2, h3, h4⟩)) (fun r T h _ => hq r T h.1.1 h.1.2.1 h.1.2.2.1 h.1.2.2.2.1 h.1.2.2.2.2 h.2)
theorem mz_X9_first {v0 : Nat} {v1 : Int32} {v2 : Int32} {v3 : Int32} {v4 : Int32} {v5 : Int32} {v6 : Int32} {Q : Int32 → HS → Prop} {S : HS} (hI : IV S) (o_v0 : ob S v0 9)  (hq : ∀ (r : Int32) (T : HS), IV T → Gr S T → FRI [(9, 9)] [] S T → K2 S T → (NFq 9 9 c9 v0 T) → ((K7 S T ∧ K8 S T) ∧ (K9 false LA S T ∧ K9 true LB S T)) → Q r T) : P_X9_first v0 v1 v2 v3 v4 v5 v6 Q S := cm_X9_first (cm_X9_first (Q3 := fun r T => (IV T ∧ Gr S T ∧ (FRI [(9, 9)] [] S T) ∧ K2 S T ∧ ((NFq 9 9 c9 v0 T))) ∧ (K7 S T ∧ K8 S T) ∧ (K9 false LA S T ∧ K9 true LB S T)) (cm_X9_first (Q3 := fun r T => (IV T ∧ Gr S T ∧ (FRI [(9, 9)] [] S T) ∧ K2 S T ∧ ((NFq 9 9 c9 v0 T))) ∧ K7 S T ∧ K8 S T) (kw_X9_first (mn_X9_first (Q := fun r T => IV T ∧ Gr S T ∧ (FRI [(9, 9)] [] S T) ∧ K2 S T ∧ ((NFq 9 9 c9 v0 T))) hI o_v0 (fun r T h0 h1 h2 h3 h4 => ⟨h0, h1, h2, h3, h4⟩))) (kx_X9_first (mn_X9_first (Q := fun r T => IV T ∧ Gr S T ∧ (FRI [(9, 9)] [] S T) ∧ K2 S T ∧ ((NFq 9 9 c9 v0 T))) hI o_v0 (fun r T h0 h1 h2 h3 h4 => ⟨h0, h1, h2, h3, h4⟩))) (fun r T a b => ⟨a.1, a.2, b.2⟩)) (cm_X9_first (Q3 := fun r T => (IV T ∧ Gr S T ∧ (FRI [(9, 9)] [] S T) ∧ K2 S T ∧ ((NFq 9 9 c9 v0 T))) ∧ (K9 false LA S T ∧ K9 true LB S T)) (ky_X9_first (b := false) (L := LA) (by decide) (by decide) (fun _ => rfl) (mn_X9_first (Q := fun r T => IV T ∧ Gr S T ∧ (FRI [(9, 9)] [] S T) ∧ K2 S T ∧ ((NFq 9 9 c9 v0 T))) hI o_v0 (fun r T h0 h1 h2 h3 h4 => ⟨h0, h1, h2, h3, h4⟩))) (ky_X9_first (b := true) (L := LB) (by decide) (by decide) (fun z => z.elim) (mn_X9_first (Q := fun r T => IV T ∧ Gr S T ∧ (FRI [(9, 9)] [] S T) ∧ K2 S T ∧ ((NFq 9 9 c9 v0 T))) hI o_v0 (fun r T h0 h1 h2 h3 h4 => ⟨h0, h1, h2, h3, h4⟩))) (fun r T a b => ⟨a.1, a.2, b.2⟩)) (fun r T a b => ⟨a.1, a.2, b.2⟩)) (mn_X9_first (Q := fun r T => IV T ∧ Gr S T ∧ (FRI [(9, 9)] [] S T) ∧ K2 S T ∧ ((NFq 9 9 c9 v0 T))) hI o_v0 (fun r T h0 h1 h2 h3 h4 => ⟨h0, h1, h2, h3, h4⟩)) (fun r T h _ => hq r T h.1.1 h.1.2.1 h.1.2.2.1 h.1.2.2.2.1 h.1.2.2.2.2 h.2)
theorem mz_X9_fit {v0 : Nat} {v1 : Int32} {v2 : Int32} {Q : Int32 → HS → Prop} {S : HS} (hI : IV S) (o_v0 : ob S v0 9)  (hq : ∀ (r : Int32) (T : HS), IV T → Gr S T → FRI [(9, 9)] [] S T → K2 S T → (NFq 9 9 c9 v0 T) → ((K7 S T ∧ K8 S T) ∧ (K9 false LA S T ∧ K9 true LB S T)) → Q r T) : P_X9_fit v0 v1 v2 Q S := cm_X9_fit (cm_X9_fit (Q3 := fun r T => (IV T ∧ Gr S T ∧ (FRI [(9, 9)] [] S T) ∧ K2 S T ∧ ((NFq 9 9 c9 v0 T))) ∧ (K7 S T ∧ K8 S T) ∧ (K9 false LA S T ∧ K9 true LB S T)) (cm_X9_fit (Q3 := fun r T => (IV T ∧ Gr S T ∧ (FRI [(9, 9)] [] S T) ∧ K2 S T ∧ ((NFq 9 9 c9 v0 T))) ∧ K7 S T ∧ K8 S T) (kw_X9_fit (mn_X9_fit (Q := fun r T => IV T ∧ Gr S T ∧ (FRI [(9, 9)] [] S T) ∧ K2 S T ∧ ((NFq 9 9 c9 v0 T))) hI o_v0 (fun r T h0 h1 h2 h3 h4 => ⟨h0, h1, h2, h3, h4⟩))) (kx_X9_fit (mn_X9_fit (Q := fun r T => IV T ∧ Gr S T ∧ (FRI [(9, 9)] [] S T) ∧ K2 S T ∧ ((NFq 9 9 c9 v0 T))) hI o_v0 (fun r T h0 h1 h2 h3 h4 => ⟨h0, h1, h2, h3, h4⟩))) (fun r T a b => ⟨a.1, a.2, b.2⟩)) (cm_X9_fit (Q3 := fun r T => (IV T ∧ Gr S T ∧ (FRI [(9, 9)] [] S T) ∧ K2 S T ∧ ((NFq 9 9 c9 v0 T))) ∧ (K9 false LA S T ∧ K9 true LB S T)) (ky_X9_fit (b := false) (L := LA) (by decide) (by decide) (fun _ => rfl) (mn_X9_fit (Q := fun r T => IV T ∧ Gr S T ∧ (FRI [(9, 9)] [] S T) ∧ K2 S T ∧ ((NFq 9 9 c9 v0 T))) hI o_v0 (fun r T h0 h1 h2 h3 h4 => ⟨h0, h1, h2, h3, h4⟩))) (ky_X9_fit (b := true) (L := LB) (by decide) (by decide) (fun z => z.elim) (mn_X9_fit (Q := fun r T => IV T ∧ Gr S T ∧ (FRI [(9, 9)] [] S T) ∧ K2 S T ∧ ((NFq 9 9 c9 v0 T))) hI o_v0 (fun r T h0 h1 h2 h3 h4 => ⟨h0, h1, h2, h3, h4⟩))) (fun r T a b => ⟨a.1, a.2, b.2⟩)) (fun r T a b => ⟨a.1, a.2, b.2⟩)) (mn_X9_fit (Q := fun r T => IV T ∧ Gr S T ∧ (FRI [(9, 9)] [] S T) ∧ K2 S T ∧ ((NFq 9 9 c9 v0 T))) hI o_v0 (fun r T h0 h1 h2 h3 h4 => ⟨h0, h1, h2, h3, h4⟩)) (fun r T h _ => hq r T h.1.1 h.1.2.1 h.1.2.2.1 h.1.2.2.2.1 h.1.2.2.2.2 h.2)
theorem mz_X9_fits {v0 : Nat} {v1 : Int32} {Q : Int32 → HS → Prop} {S : HS} (hI : IV S) (o_v0 : ob S v0 9)  (hq : ∀ (r : Int32) (T : HS), IV T → Gr S T → FRI [(9, 9)] [] S T → K2 S T → (NFq 9 9 c9 v0 T) → ((K7 S T ∧ K8 S T) ∧ (K9 false LA S T ∧ K9 true LB S T)) → Q r T) : P_X9_fits v0 v1 Q S := cm_X9_fits (cm_X9_fits (Q3 := fun r T => (IV T ∧ Gr S T ∧ (FRI [(9, 9)] [] S T) ∧ K2 S T ∧ ((NFq 9 9 c9 v0 T))) ∧ (K7 S T ∧ K8 S T) ∧ (K9 false LA S T ∧ K9 true LB S T)) (cm_X9_fits (Q3 := fun r T => (IV T ∧ Gr S T ∧ (FRI [(9, 9)] [] S T) ∧ K2 S T ∧ ((NFq 9 9 c9 v0 T))) ∧ K7 S T ∧ K8 S T) (kw_X9_fits (mn_X9_fits (Q := fun r T => IV T ∧ Gr S T ∧ (FRI [(9, 9)] [] S T) ∧ K2 S T ∧ ((NFq 9 9 c9 v0 T))) hI o_v0 (fun r T h0 h1 h2 h3 h4 => ⟨h0, h1, h2, h3, h4⟩))) (kx_X9_fits (mn_X9_fits (Q := fun r T => IV T ∧ Gr S T ∧ (FRI [(9, 9)] [] S T) ∧ K2 S T ∧ ((NFq 9 9 c9 v0 T))) hI o_v0 (fun r T h0 h1 h2 h3 h4 => ⟨h0, h1, h2, h3, h4⟩))) (fun r T a b => ⟨a.1, a.2, b.2⟩)) (cm_X9_fits (Q3 := fun r T => (IV T ∧ Gr S T ∧ (FRI [(9, 9)] [] S T) ∧ K2 S T ∧ ((NFq 9 9 c9 v0 T))) ∧ (K9 false LA S T ∧ K9 true LB S T)) (ky_X9_fits (b := false) (L := LA) (by decide) (by decide) (fun _ => rfl) (mn_X9_fits (Q := fun r T => IV T ∧ Gr S T ∧ (FRI [(9, 9)] [] S T) ∧ K2 S T ∧ ((NFq 9 9 c9 v0 T))) hI o_v0 (fun r T h0 h1 h2 h3 h4 => ⟨h0, h1, h2, h3, h4⟩))) (ky_X9_fits (b := true) (L := LB) (by decide) (by decide) (fun z => z.elim) (mn_X9_fits (Q := fun r T => IV T ∧ Gr S T ∧ (FRI [(9, 9)] [] S T) ∧ K2 S T ∧ ((NFq 9 9 c9 v0 T))) hI o_v0 (fun r T h0 h1 h2 h3 h4 => ⟨h0, h1, h2, h3, h4⟩))) (fun r T a b => ⟨a.1, a.2, b.2⟩)) (fun r T a b => ⟨a.1, a.2, b.2⟩)) (mn_X9_fits (Q := fun r T => IV T ∧ Gr S T ∧ (FRI [(9, 9)] [] S T) ∧ K2 S T ∧ ((NFq 9 9 c9 v0 T))) hI o_v0 (fun r T h0 h1 h2 h3 h4 => ⟨h0, h1, h2, h3, h4⟩)) (fun r T h _ => hq r T h.1.1 h.1.2.1 h.1.2.2.1 h.1.2.2.2.1 h.1.2.2.2.2 h.2)
theorem mt_X9_go {v0 : Nat} {v1 : Int32} {v2 : Int32} {v3 : Int32} {Q : Int32 → HS → Prop} {S : HS} (hI : IV S) (o_v0 : ob S v0 9) {rr w1 w2 l9 p9 q9 : Nat} {A : AS} {G : GC} (J : CJ v0 rr w1 w2 S) (hc : Cnt w1 A S) (ct : CtB w1 A G S S) (ab : ABd A) (gb : GBd A G) (lg : LG v0 l9 p9 q9 S) {dy : Nat} {D : DY} (e6 : fR S v0 6 = some dy) (cd : CDd dy D S) (db : DBd A D) (hq : ∀ (r : Int32) (T : HS), IV T → Gr S T → FRI [(0, 2), (2, 0), (2, 1), (9, 9)] [] S T → K2 S T → (NFq 9 9 c9 v0 T) → (((K7 S T ∧ K8 S T) ∧ K9 false LA S T) ∧ r = tellgo A G D v1 v2 v3 ∧ CDd dy (nxgo A G D v1 v2 v3) T) → Q r T) : P_X9_go v0 v1 v2 v3 Q S := cm_X9_go (cm_X9_go (Q3 := fun r T => (IV T ∧ Gr S T ∧ (FRI [(0, 2), (2, 0), (2, 1), (9, 9)] [] S T) ∧ K2 S T ∧ ((NFq 9 9 c9 v0 T))) ∧ ((K7 S T ∧ K8 S T) ∧ K9 false LA S T) ∧ r = tellgo A G D v1 v2 v3 ∧ CDd dy (nxgo A G D v1 v2 v3) T) (cm_X9_go (Q3 := fun r T => (IV T ∧ Gr S T ∧ (FRI [(0, 2), (2, 0), (2, 1), (9, 9)] [] S T) ∧ K2 S T ∧ ((NFq 9 9 c9 v0 T))) ∧ (K7 S T ∧ K8 S T) ∧ K9 false LA S T) (cm_X9_go (Q3 := fun r T => (IV T ∧ Gr S T ∧ (FRI [(0, 2), (2, 0), (2, 1), (9, 9)] [] S T) ∧ K2 S T ∧ ((NFq 9 9 c9 v0 T))) ∧ K7 S T ∧ K8 S T) (kw_X9_go (mn_X9_go (Q := fun r T => IV T ∧ Gr S T ∧ (FRI [(0, 2), (2, 0), (2, 1), (9, 9)] [] S T) ∧ K2 S T ∧ ((NFq 9 9 c9 v0 T))) hI o_v0 (fun r T h0 h1 h2 h3 h4 => ⟨h0, h1, h2, h3, h4⟩))) (kx_X9_go (mn_X9_go (Q := fun r T => IV T ∧ Gr S T ∧ (FRI [(0, 2), (2, 0), (2, 1), (9, 9)] [] S T) ∧ K2 S T ∧ ((NFq 9 9 c9 v0 T))) hI o_v0 (fun r T h0 h1 h2 h3 h4 => ⟨h0, h1, h2, h3, h4⟩))) (fun r T a b => ⟨a.1, a.2, b.2⟩)) (ky_X9_go (b := false) (L := LA) (by decide) (by decide) (fun _ => rfl) (mn_X9_go (Q := fun r T => IV T ∧ Gr S T ∧ (FRI [(0, 2), (2, 0), (2, 1), (9, 9)] [] S T) ∧ K2 S T ∧ ((NFq 9 9 c9 v0 T))) hI o_v0 (fun r T h0 h1 h2 h3 h4 => ⟨h0, h1, h2, h3, h4⟩))) (fun r T a b => ⟨a.1, a.2, b.2⟩)) (tl_X9_go hI J hc ct ab gb lg e6 cd db (mn_X9_go (Q := fun r T => IV T ∧ Gr S T ∧ (FRI [(0, 2), (2, 0), (2, 1), (9, 9)] [] S T) ∧ K2 S T ∧ ((NFq 9 9 c9 v0 T))) hI o_v0 (fun r T h0 h1 h2 h3 h4 => ⟨h0, h1, h2, h3, h4⟩))) (fun r T a b => ⟨a.1, a.2, b.2⟩)) (mn_X9_go (Q := fun r T => IV T ∧ Gr S T ∧ (FRI [(0, 2), (2, 0), (2, 1), (9, 9)] [] S T) ∧ K2 S T ∧ ((NFq 9 9 c9 v0 T))) hI o_v0 (fun r T h0 h1 h2 h3 h4 => ⟨h0, h1, h2, h3, h4⟩)) (fun r T h _ => hq r T h.1.1 h.1.2.1 h.1.2.2.1 h.1.2.2.2.1 h.1.2.2.2.2 h.2)
theorem mz_X9_got {v0 : Nat} {v1 : Int32} {v2 : Int32} {Q : Int64 → HS → Prop} {S : HS} (hI : IV S) (o_v0 : ob S v0 9)  (hq : ∀ (r : Int64) (T : HS), IV T → Gr S T → FRI [(9, 9)] [] S T → K2 S T → (NFq 9 9 c9 v0 T) → ((K7 S T ∧ K8 S T) ∧ (K9 false LA S T ∧ K9 true LB S T)) → Q r T) : P_X9_got v0 v1 v2 Q S := cm_X9_got (cm_X9_got (Q3 := fun r T => (IV T ∧ Gr S T ∧ (FRI [(9, 9)] [] S T) ∧ K2 S T ∧ ((NFq 9 9 c9 v0 T))) ∧ (K7 S T ∧ K8 S T) ∧ (K9 false LA S T ∧ K9 true LB S T)) (cm_X9_got (Q3 := fun r T => (IV T ∧ Gr S T ∧ (FRI [(9, 9)] [] S T) ∧ K2 S T ∧ ((NFq 9 9 c9 v0 T))) ∧ K7 S T ∧ K8 S T) (kw_X9_got (mn_X9_got (Q := fun r T => IV T ∧ Gr S T ∧ (FRI [(9, 9)] [] S T) ∧ K2 S T ∧ ((NFq 9 9 c9 v0 T))) hI o_v0 (fun r T h0 h1 h2 h3 h4 => ⟨h0, h1, h2, h3, h4⟩))) (kx_X9_got (mn_X9_got (Q := fun r T => IV T ∧ Gr S T ∧ (FRI [(9, 9)] [] S T) ∧ K2 S T ∧ ((NFq 9 9 c9 v0 T))) hI o_v0 (fun r T h0 h1 h2 h3 h4 => ⟨h0, h1, h2, h3, h4⟩))) (fun r T a b => ⟨a.1, a.2, b.2⟩)) (cm_X9_got (Q3 := fun r T => (IV T ∧ Gr S T ∧ (FRI [(9, 9)] [] S T) ∧ K2 S T ∧ ((NFq 9 9 c9 v0 T))) ∧ (K9 false LA S T ∧ K9 true LB S T)) (ky_X9_got (b := false) (L := LA) (by decide) (by decide) (fun _ => rfl) (mn_X9_got (Q := fun r T => IV T ∧ Gr S T ∧ (FRI [(9, 9)] [] S T) ∧ K2 S T ∧ ((NFq 9 9 c9 v0 T))) hI o_v0 (fun r T h0 h1 h2 h3 h4 => ⟨h0, h1, h2, h3, h4⟩))) (ky_X9_got (b := true) (L := LB) (by decide) (by decide) (fun z => z.elim) (mn_X9_got (Q := fun r T => IV T ∧ Gr S T ∧ (FRI [(9, 9)] [] S T) ∧ K2 S T ∧ ((NFq 9 9 c9 v0 T))) hI o_v0 (fun r T h0 h1 h2 h3 h4 => ⟨h0, h1, h2, h3, h4⟩))) (fun r T a b => ⟨a.1, a.2, b.2⟩)) (fun r T a b => ⟨a.1, a.2, b.2⟩)) (mn_X9_got (Q := fun r T => IV T ∧ Gr S T ∧ (FRI [(9, 9)] [] S T) ∧ K2 S T ∧ ((NFq 9 9 c9 v0 T))) hI o_v0 (fun r T h0 h1 h2 h3 h4 => ⟨h0, h1, h2, h3, h4⟩)) (fun r T h _ => hq r T h.1.1 h.1.2.1 h.1.2.2.1 h.1.2.2.2.1 h.1.2.2.2.2 h.2)
theorem mz_X9_held {v0 : Nat} {v1 : Int32} {v2 : Int32} {v3 : Int32} {v4 : Int32} {v5 : Int32} {Q : Int32 → HS → Prop} {S : HS} (hI : IV S) (o_v0 : ob S v0 9)  (hq : ∀ (r : Int32) (T : HS), IV T → Gr S T → FRI [(9, 9)] [] S T → K2 S T → (NFq 9 9 c9 v0 T) → ((K7 S T ∧ K8 S T) ∧ (K9 false LA S T ∧ K9 true LB S T)) → Q r T) : P_X9_held v0 v1 v2 v3 v4 v5 Q S := cm_X9_held (cm_X9_held (Q3 := fun r T => (IV T ∧ Gr S T ∧ (FRI [(9, 9)] [] S T) ∧ K2 S T ∧ ((NFq 9 9 c9 v0 T))) ∧ (K7 S T ∧ K8 S T) ∧ (K9 false LA S T ∧ K9 true LB S T)) (cm_X9_held (Q3 := fun r T => (IV T ∧ Gr S T ∧ (FRI [(9, 9)] [] S T) ∧ K2 S T ∧ ((NFq 9 9 c9 v0 T))) ∧ K7 S T ∧ K8 S T) (kw_X9_held (mn_X9_held (Q := fun r T => IV T ∧ Gr S T ∧ (FRI [(9, 9)] [] S T) ∧ K2 S T ∧ ((NFq 9 9 c9 v0 T))) hI o_v0 (fun r T h0 h1 h2 h3 h4 => ⟨h0, h1, h2, h3, h4⟩))) (kx_X9_held (mn_X9_held (Q := fun r T => IV T ∧ Gr S T ∧ (FRI [(9, 9)] [] S T) ∧ K2 S T ∧ ((NFq 9 9 c9 v0 T))) hI o_v0 (fun r T h0 h1 h2 h3 h4 => ⟨h0, h1, h2, h3, h4⟩))) (fun r T a b => ⟨a.1, a.2, b.2⟩)) (cm_X9_held (Q3 := fun r T => (IV T ∧ Gr S T ∧ (FRI [(9, 9)] [] S T) ∧ K2 S T ∧ ((NFq 9 9 c9 v0 T))) ∧ (K9 false LA S T ∧ K9 true LB S T)) (ky_X9_held (b := false) (L := LA) (by decide) (by decide) (fun _ => rfl) (mn_X9_held (Q := fun r T => IV T ∧ Gr S T ∧ (FRI [(9, 9)] [] S T) ∧ K2 S T ∧ ((NFq 9 9 c9 v0 T))) hI o_v0 (fun r T h0 h1 h2 h3 h4 => ⟨h0, h1, h2, h3, h4⟩))) (ky_X9_held (b := true) (L := LB) (by decide) (by decide) (fun z => z.elim) (mn_X9_held (Q := fun r T => IV T ∧ Gr S T ∧ (FRI [(9, 9)] [] S T) ∧ K2 S T ∧ ((NFq 9 9 c9 v0 T))) hI o_v0 (fun r T h0 h1 h2 h3 h4 => ⟨h0, h1, h2, h3, h4⟩))) (fun r T a b => ⟨a.1, a.2, b.2⟩)) (fun r T a b => ⟨a.1, a.2, b.2⟩)) (mn_X9_held (Q := fun r T => IV T ∧ Gr S T ∧ (FRI [(9, 9)] [] S T) ∧ K2 S T ∧ ((NFq 9 9 c9 v0 T))) hI o_v0 (fun r T h0 h1 h2 h3 h4 => ⟨h0, h1, h2, h3, h4⟩)) (fun r T h _ => hq r T h.1.1 h.1.2.1 h.1.2.2.1 h.1.2.2.2.1 h.1.2.2.2.2 h.2)
theorem mz_X9_least {v0 : Nat} {v1 : Int32} {v2 : Int32} {v3 : Int32} {v4 : Int32} {v5 : Int32} {v6 : Int32} {Q : Int64 → HS → Prop} {S : HS} (hI : IV S) (o_v0 : ob S v0 9)  (hq : ∀ (r : Int64) (T : HS), IV T → Gr S T → FRI [(7, 3), (7, 9), (7, 10), (7, 11), (7, 12), (7, 13), (9, 9)] [(7, 0), (7, 1), (7, 2), (7, 4), (7, 5), (7, 6), (7, 7), (7, 8)] S T → K2 S T → (NFq 9 9 c9 v0 T) → ((K7 S T ∧ K8 S T) ∧ (K9 false LA S T ∧ K9 true LB S T)) → Q r T) : P_X9_least v0 v1 v2 v3 v4 v5 v6 Q S := cm_X9_least (cm_X9_least (Q3 := fun r T => (IV T ∧ Gr S T ∧ (FRI [(7, 3), (7, 9), (7, 10), (7, 11), (7, 12), (7, 13), (9, 9)] [(7, 0), (7, 1), (7, 2), (7, 4), (7, 5), (7, 6), (7, 7), (7, 8)] S T) ∧ K2 S T ∧ ((NFq 9 9 c9 v0 T))) ∧ (K7 S T ∧ K8 S T) ∧ (K9 false LA S T ∧ K9 true LB S T)) (cm_X9_least (Q3 := fun r T => (IV T ∧ Gr S T ∧ (FRI [(7, 3), (7, 9), (7, 10), (7, 11), (7, 12), (7, 13), (9, 9)] [(7, 0), (7, 1), (7, 2), (7, 4), (7, 5), (7, 6), (7, 7), (7, 8)] S T) ∧ K2 S T ∧ ((NFq 9 9 c9 v0 T))) ∧ K7 S T ∧ K8 S T) (kw_X9_least (mn_X9_least (Q := fun r T => IV T ∧ Gr S T ∧ (FRI [(7, 3), (7, 9), (7, 10), (7, 11), (7, 12), (7, 13), (9, 9)] [(7, 0), (7, 1), (7, 2), (7, 4), (7, 5), (7, 6), (7, 7), (7, 8)] S T) ∧ K2 S T ∧ ((NFq 9 9 c9 v0 T))) hI o_v0 (fun r T h0 h1 h2 h3 h4 => ⟨h0, h1, h2, h3, h4⟩))) (kx_X9_least (mn_X9_least (Q := fun r T => IV T ∧ Gr S T ∧ (FRI [(7, 3), (7, 9), (7, 10), (7, 11), (7, 12), (7, 13), (9, 9)] [(7, 0), (7, 1), (7, 2), (7, 4), (7, 5), (7, 6), (7, 7), (7, 8)] S T) ∧ K2 S T ∧ ((NFq 9 9 c9 v0 T))) hI o_v0 (fun r T h0 h1 h2 h3 h4 => ⟨h0, h1, h2, h3, h4⟩))) (fun r T a b => ⟨a.1, a.2, b.2⟩)) (cm_X9_least (Q3 := fun r T => (IV T ∧ Gr S T ∧ (FRI [(7, 3), (7, 9), (7, 10), (7, 11), (7, 12), (7, 13), (9, 9)] [(7, 0), (7, 1), (7, 2), (7, 4), (7, 5), (7, 6), (7, 7), (7, 8)] S T) ∧ K2 S T ∧ ((NFq 9 9 c9 v0 T))) ∧ (K9 false LA S T ∧ K9 true LB S T)) (ky_X9_least (b := false) (L := LA) (by decide) (by decide) (fun _ => rfl) (mn_X9_least (Q := fun r T => IV T ∧ Gr S T ∧ (FRI [(7, 3), (7, 9), (7, 10), (7, 11), (7, 12), (7, 13), (9, 9)] [(7, 0), (7, 1), (7, 2), (7, 4), (7, 5), (7, 6), (7, 7), (7, 8)] S T) ∧ K2 S T ∧ ((NFq 9 9 c9 v0 T))) hI o_v0 (fun r T h0 h1 h2 h3 h4 => ⟨h0, h1, h2, h3, h4⟩))) (ky_X9_least (b := true) (L := LB) (by decide) (by decide) (fun z => z.elim) (mn_X9_least (Q := fun r T => IV T ∧ Gr S T ∧ (FRI [(7, 3), (7, 9), (7, 10), (7, 11), (7, 12), (7, 13), (9, 9)] [(7, 0), (7, 1), (7, 2), (7, 4), (7, 5), (7, 6), (7, 7), (7, 8)] S T) ∧ K2 S T ∧ ((NFq 9 9 c9 v0 T))) hI o_v0 (fun r T h0 h1 h2 h3 h4 => ⟨h0, h1, h2, h3, h4⟩))) (fun r T a b => ⟨a.1, a.2, b.2⟩)) (fun r T a b => ⟨a.1, a.2, b.2⟩)) (mn_X9_least (Q := fun r T => IV T ∧ Gr S T ∧ (FRI [(7, 3), (7, 9), (7, 10), (7, 11), (7, 12), (7, 13), (9, 9)] [(7, 0), (7, 1), (7, 2), (7, 4), (7, 5), (7, 6), (7, 7), (7, 8)] S T) ∧ K2 S T ∧ ((NFq 9 9 c9 v0 T))) hI o_v0 (fun r T h0 h1 h2 h3 h4 => ⟨h0, h1, h2, h3, h4⟩)) (fun r T h _ => hq r T h.1.1 h.1.2.1 h.1.2.2.1 h.1.2.2.2.1 h.1.2.2.2.2 h.2)
theorem mz_X9_lee {v0 : Nat} {v1 : Int32} {v2 : Int32} {v3 : Int32} {v4 : Int32} {v5 : Int32} {v6 : Int32} {v7 : Int32} {Q : Int64 → HS → Prop} {S : HS} (hI : IV S) (o_v0 : ob S v0 9)  (hq : ∀ (r : Int64) (T : HS), IV T → Gr S T → FRI [(9, 9)] [] S T → K2 S T → (NFq 9 9 c9 v0 T) → ((K7 S T ∧ K8 S T) ∧ (K9 false LA S T ∧ K9 true LB S T)) → Q r T) : P_X9_lee v0 v1 v2 v3 v4 v5 v6 v7 Q S := cm_X9_lee (cm_X9_lee (Q3 := fun r T => (IV T ∧ Gr S T ∧ (FRI [(9, 9)] [] S T) ∧ K2 S T ∧ ((NFq 9 9 c9 v0 T))) ∧ (K7 S T ∧ K8 S T) ∧ (K9 false LA S T ∧ K9 true LB S T)) (cm_X9_lee (Q3 := fun r T => (IV T ∧ Gr S T ∧ (FRI [(9, 9)] [] S T) ∧ K2 S T ∧ ((NFq 9 9 c9 v0 T))) ∧ K7 S T ∧ K8 S T) (kw_X9_lee (mn_X9_lee (Q := fun r T => IV T ∧ Gr S T ∧ (FRI [(9, 9)] [] S T) ∧ K2 S T ∧ ((NFq 9 9 c9 v0 T))) hI o_v0 (fun r T h0 h1 h2 h3 h4 => ⟨h0, h1, h2, h3, h4⟩))) (kx_X9_lee (mn_X9_lee (Q := fun r T => IV T ∧ Gr S T ∧ (FRI [(9, 9)] [] S T) ∧ K2 S T ∧ ((NFq 9 9 c9 v0 T))) hI o_v0 (fun r T h0 h1 h2 h3 h4 => ⟨h0, h1, h2, h3, h4⟩))) (fun r T a b => ⟨a.1, a.2, b.2⟩)) (cm_X9_lee (Q3 := fun r T => (IV T ∧ Gr S T ∧ (FRI [(9, 9)] [] S T) ∧ K2 S T ∧ ((NFq 9 9 c9 v0 T))) ∧ (K9 false LA S T ∧ K9 true LB S T)) (ky_X9_lee (b := false) (L := LA) (by decide) (by decide) (fun _ => rfl) (mn_X9_lee (Q := fun r T => IV T ∧ Gr S T ∧ (FRI [(9, 9)] [] S T) ∧ K2 S T ∧ ((NFq 9 9 c9 v0 T))) hI o_v0 (fun r T h0 h1 h2 h3 h4 => ⟨h0, h1, h2, h3, h4⟩))) (ky_X9_lee (b := true) (L := LB) (by decide) (by decide) (fun z => z.elim) (mn_X9_lee (Q := fun r T => IV T ∧ Gr S T ∧ (FRI [(9, 9)] [] S T) ∧ K2 S T ∧ ((NFq 9 9 c9 v0 T))) hI o_v0 (fun r T h0 h1 h2 h3 h4 => ⟨h0, h1, h2, h3, h4⟩))) (fun r T a b => ⟨a.1, a.2, b.2⟩)) (fun r T a b => ⟨a.1, a.2, b.2⟩)) (mn_X9_lee (Q := fun r T => IV T ∧ Gr S T ∧ (FRI [(9, 9)] [] S T) ∧ K2 S T ∧ ((NFq 9 9 c9 v0 T))) hI o_v0 (fun r T h0 h1 h2 h3 h4 => ⟨h0, h1, h2, h3, h4⟩)) (fun r T h _ => hq r T h.1.1 h.1.2.1 h.1.2.2.1 h.1.2.2.2.1 h.1.2.2.2.2 h.2)
theorem mz_X9_lies {v0 : Nat} {Q : Int32 → HS → Prop} {S : HS} (hI : IV S) (o_v0 : ob S v0 9)  (hq : ∀ (r : Int32) (T : HS), IV T → Gr S T → FRI [(9, 9)] [] S T → K2 S T → (NFq 9 9 c9 v0 T) → ((K7 S T ∧ K8 S T) ∧ (K9 false LA S T ∧ K9 true LB S T)) → Q r T) : P_X9_lies v0 Q S := cm_X9_lies (cm_X9_lies (Q3 := fun r T => (IV T ∧ Gr S T ∧ (FRI [(9, 9)] [] S T) ∧ K2 S T ∧ ((NFq 9 9 c9 v0 T))) ∧ (K7 S T ∧ K8 S T) ∧ (K9 false LA S T ∧ K9 true LB S T)) (cm_X9_lies (Q3 := fun r T => (IV T ∧ Gr S T ∧ (FRI [(9, 9)] [] S T) ∧ K2 S T ∧ ((NFq 9 9 c9 v0 T))) ∧ K7 S T ∧ K8 S T) (kw_X9_lies (mn_X9_lies (Q := fun r T => IV T ∧ Gr S T ∧ (FRI [(9, 9)] [] S T) ∧ K2 S T ∧ ((NFq 9 9 c9 v0 T))) hI o_v0 (fun r T h0 h1 h2 h3 h4 => ⟨h0, h1, h2, h3, h4⟩))) (kx_X9_lies (mn_X9_lies (Q := fun r T => IV T ∧ Gr S T ∧ (FRI [(9, 9)] [] S T) ∧ K2 S T ∧ ((NFq 9 9 c9 v0 T))) hI o_v0 (fun r T h0 h1 h2 h3 h4 => ⟨h0, h1, h2, h3, h4⟩))) (fun r T a b => ⟨a.1, a.2, b.2⟩)) (cm_X9_lies (Q3 := fun r T => (IV T ∧ Gr S T ∧ (FRI [(9, 9)] [] S T) ∧ K2 S T ∧ ((NFq 9 9 c9 v0 T))) ∧ (K9 false LA S T ∧ K9 true LB S T)) (ky_X9_lies (b := false) (L := LA) (by decide) (by decide) (fun _ => rfl) (mn_X9_lies (Q := fun r T => IV T ∧ Gr S T ∧ (FRI [(9, 9)] [] S T) ∧ K2 S T ∧ ((NFq 9 9 c9 v0 T))) hI o_v0 (fun r T h0 h1 h2 h3 h4 => ⟨h0, h1, h2, h3, h4⟩))) (ky_X9_lies (b := true) (L := LB) (by decide) (by decide) (fun z => z.elim) (mn_X9_lies (Q := fun r T => IV T ∧ Gr S T ∧ (FRI [(9, 9)] [] S T) ∧ K2 S T ∧ ((NFq 9 9 c9 v0 T))) hI o_v0 (fun r T h0 h1 h2 h3 h4 => ⟨h0, h1, h2, h3, h4⟩))) (fun r T a b => ⟨a.1, a.2, b.2⟩)) (fun r T a b => ⟨a.1, a.2, b.2⟩)) (mn_X9_lies (Q := fun r T => IV T ∧ Gr S T ∧ (FRI [(9, 9)] [] S T) ∧ K2 S T ∧ ((NFq 9 9 c9 v0 T))) hI o_v0 (fun r T h0 h1 h2 h3 h4 => ⟨h0, h1, h2, h3, h4⟩)) (fun r T h _ => hq r T h.1.1 h.1.2.1 h.1.2.2.1 h.1.2.2.2.1 h.1.2.2.2.2 h.2)
theorem mt_X9_mark {v0 : Nat} {Q : Int32 → HS → Prop} {S : HS} (hI : IV S) (o_v0 : ob S v0 9) {rr w1 w2 l9 p9 q9 : Nat} {A : AS} {G : GC} (J : CJ v0 rr w1 w2 S) (hc : Cnt w1 A S) (ct : CtB w1 A G S S) (ab : ABd A) (gb : GBd A G) (lg : LG v0 l9 p9 q9 S) {dy : Nat} {D : DY} (e6 : fR S v0 6 = some dy) (cd : CDd dy D S) (db : DBd A D) (hq : ∀ (r : Int32) (T : HS), IV T → Gr S T → FRI [(0, 3), (2, 0), (2, 1), (9, 9)] [] S T → K2 S T → (NFq 9 9 c9 v0 T) → (((K7 S T ∧ K8 S T) ∧ K9 false LA S T) ∧ r = tellmark D ∧ CDd dy (nxmark D) T) → Q r T) : P_X9_mark v0 Q S := cm_X9_mark (cm_X9_mark (Q3 := fun r T => (IV T ∧ Gr S T ∧ (FRI [(0, 3), (2, 0), (2, 1), (9, 9)] [] S T) ∧ K2 S T ∧ ((NFq 9 9 c9 v0 T))) ∧ ((K7 S T ∧ K8 S T) ∧ K9 false LA S T) ∧ r = tellmark D ∧ CDd dy (nxmark D) T) (cm_X9_mark (Q3 := fun r T => (IV T ∧ Gr S T ∧ (FRI [(0, 3), (2, 0), (2, 1), (9, 9)] [] S T) ∧ K2 S T ∧ ((NFq 9 9 c9 v0 T))) ∧ (K7 S T ∧ K8 S T) ∧ K9 false LA S T) (cm_X9_mark (Q3 := fun r T => (IV T ∧ Gr S T ∧ (FRI [(0, 3), (2, 0), (2, 1), (9, 9)] [] S T) ∧ K2 S T ∧ ((NFq 9 9 c9 v0 T))) ∧ K7 S T ∧ K8 S T) (kw_X9_mark (mn_X9_mark (Q := fun r T => IV T ∧ Gr S T ∧ (FRI [(0, 3), (2, 0), (2, 1), (9, 9)] [] S T) ∧ K2 S T ∧ ((NFq 9 9 c9 v0 T))) hI o_v0 (fun r T h0 h1 h2 h3 h4 => ⟨h0, h1, h2, h3, h4⟩))) (kx_X9_mark (mn_X9_mark (Q := fun r T => IV T ∧ Gr S T ∧ (FRI [(0, 3), (2, 0), (2, 1), (9, 9)] [] S T) ∧ K2 S T ∧ ((NFq 9 9 c9 v0 T))) hI o_v0 (fun r T h0 h1 h2 h3 h4 => ⟨h0, h1, h2, h3, h4⟩))) (fun r T a b => ⟨a.1, a.2, b.2⟩)) (ky_X9_mark (b := false) (L := LA) (by decide) (by decide) (fun _ => rfl) (mn_X9_mark (Q := fun r T => IV T ∧ Gr S T ∧ (FRI [(0, 3), (2, 0), (2, 1), (9, 9)] [] S T) ∧ K2 S T ∧ ((NFq 9 9 c9 v0 T))) hI o_v0 (fun r T h0 h1 h2 h3 h4 => ⟨h0, h1, h2, h3, h4⟩))) (fun r T a b => ⟨a.1, a.2, b.2⟩)) (tl_X9_mark J.2.2.2.1 e6 cd (mn_X9_mark (Q := fun r T => IV T ∧ Gr S T ∧ (FRI [(0, 3), (2, 0), (2, 1), (9, 9)] [] S T) ∧ K2 S T ∧ ((NFq 9 9 c9 v0 T))) hI o_v0 (fun r T h0 h1 h2 h3 h4 => ⟨h0, h1, h2, h3, h4⟩))) (fun r T a b => ⟨a.1, a.2, b.2⟩)) (mn_X9_mark (Q := fun r T => IV T ∧ Gr S T ∧ (FRI [(0, 3), (2, 0), (2, 1), (9, 9)] [] S T) ∧ K2 S T ∧ ((NFq 9 9 c9 v0 T))) hI o_v0 (fun r T h0 h1 h2 h3 h4 => ⟨h0, h1, h2, h3, h4⟩)) (fun r T h _ => hq r T h.1.1 h.1.2.1 h.1.2.2.1 h.1.2.2.2.1 h.1.2.2.2.2 h.2)
theorem mz_X9_mean {v0 : Nat} {v1 : Int32} {v2 : Int32} {v3 : Int32} {v4 : Int32} {v5 : Int32} {v6 : Int32} {Q : Int64 → HS → Prop} {S : HS} (hI : IV S) (o_v0 : ob S v0 9)  (hq : ∀ (r : Int64) (T : HS), IV T → Gr S T → FRI [(9, 9)] [] S T → K2 S T → (NFq 9 9 c9 v0 T) → ((K7 S T ∧ K8 S T) ∧ (K9 false LA S T ∧ K9 true LB S T)) → Q r T) : P_X9_mean v0 v1 v2 v3 v4 v5 v6 Q S := cm_X9_mean (cm_X9_mean (Q3 := fun r T => (IV T ∧ Gr S T ∧ (FRI [(9, 9)] [] S T) ∧ K2 S T ∧ ((NFq 9 9 c9 v0 T))) ∧ (K7 S T ∧ K8 S T) ∧ (K9 false LA S T ∧ K9 true LB S T)) (cm_X9_mean (Q3 := fun r T => (IV T ∧ Gr S T ∧ (FRI [(9, 9)] [] S T) ∧ K2 S T ∧ ((NFq 9 9 c9 v0 T))) ∧ K7 S T ∧ K8 S T) (kw_X9_mean (mn_X9_mean (Q := fun r T => IV T ∧ Gr S T ∧ (FRI [(9, 9)] [] S T) ∧ K2 S T ∧ ((NFq 9 9 c9 v0 T))) hI o_v0 (fun r T h0 h1 h2 h3 h4 => ⟨h0, h1, h2, h3, h4⟩))) (kx_X9_mean (mn_X9_mean (Q := fun r T => IV T ∧ Gr S T ∧ (FRI [(9, 9)] [] S T) ∧ K2 S T ∧ ((NFq 9 9 c9 v0 T))) hI o_v0 (fun r T h0 h1 h2 h3 h4 => ⟨h0, h1, h2, h3, h4⟩))) (fun r T a b => ⟨a.1, a.2, b.2⟩)) (cm_X9_mean (Q3 := fun r T => (IV T ∧ Gr S T ∧ (FRI [(9, 9)] [] S T) ∧ K2 S T ∧ ((NFq 9 9 c9 v0 T))) ∧ (K9 false LA S T ∧ K9 true LB S T)) (ky_X9_mean (b := false) (L := LA) (by decide) (by decide) (fun _ => rfl) (mn_X9_mean (Q := fun r T => IV T ∧ Gr S T ∧ (FRI [(9, 9)] [] S T) ∧ K2 S T ∧ ((NFq 9 9 c9 v0 T))) hI o_v0 (fun r T h0 h1 h2 h3 h4 => ⟨h0, h1, h2, h3, h4⟩))) (ky_X9_mean (b := true) (L := LB) (by decide) (by decide) (fun z => z.elim) (mn_X9_mean (Q := fun r T => IV T ∧ Gr S T ∧ (FRI [(9, 9)] [] S T) ∧ K2 S T ∧ ((NFq 9 9 c9 v0 T))) hI o_v0 (fun r T h0 h1 h2 h3 h4 => ⟨h0, h1, h2, h3, h4⟩))) (fun r T a b => ⟨a.1, a.2, b.2⟩)) (fun r T a b => ⟨a.1, a.2, b.2⟩)) (mn_X9_mean (Q := fun r T => IV T ∧ Gr S T ∧ (FRI [(9, 9)] [] S T) ∧ K2 S T ∧ ((NFq 9 9 c9 v0 T))) hI o_v0 (fun r T h0 h1 h2 h3 h4 => ⟨h0, h1, h2, h3, h4⟩)) (fun r T h _ => hq r T h.1.1 h.1.2.1 h.1.2.2.1 h.1.2.2.2.1 h.1.2.2.2.2 h.2)
theorem mz_X9_minutes {v0 : Nat} {v1 : Int32} {v2 : Int32} {v3 : Int32} {Q : Int32 → HS → Prop} {S : HS} (hI : IV S) (o_v0 : ob S v0 9)  (hq : ∀ (r : Int32) (T : HS), IV T → Gr S T → FRI [(9, 9)] [] S T → K2 S T → (NFq 9 9 c9 v0 T) → ((K7 S T ∧ K8 S T) ∧ (K9 false LA S T ∧ K9 true LB S T)) → Q r T) : P_X9_minutes v0 v1 v2 v3 Q S := cm_X9_minutes (cm_X9_minutes (Q3 := fun r T => (IV T ∧ Gr S T ∧ (FRI [(9, 9)] [] S T) ∧ K2 S T ∧ ((NFq 9 9 c9 v0 T))) ∧ (K7 S T ∧ K8 S T) ∧ (K9 false LA S T ∧ K9 true LB S T)) (cm_X9_minutes (Q3 := fun r T => (IV T ∧ Gr S T ∧ (FRI [(9, 9)] [] S T) ∧ K2 S T ∧ ((NFq 9 9 c9 v0 T))) ∧ K7 S T ∧ K8 S T) (kw_X9_minutes (mn_X9_minutes (Q := fun r T => IV T ∧ Gr S T ∧ (FRI [(9, 9)] [] S T) ∧ K2 S T ∧ ((NFq 9 9 c9 v0 T))) hI o_v0 (fun r T h0 h1 h2 h3 h4 => ⟨h0, h1, h2, h3, h4⟩))) (kx_X9_minutes (mn_X9_minutes (Q := fun r T => IV T ∧ Gr S T ∧ (FRI [(9, 9)] [] S T) ∧ K2 S T ∧ ((NFq 9 9 c9 v0 T))) hI o_v0 (fun r T h0 h1 h2 h3 h4 => ⟨h0, h1, h2, h3, h4⟩))) (fun r T a b => ⟨a.1, a.2, b.2⟩)) (cm_X9_minutes (Q3 := fun r T => (IV T ∧ Gr S T ∧ (FRI [(9, 9)] [] S T) ∧ K2 S T ∧ ((NFq 9 9 c9 v0 T))) ∧ (K9 false LA S T ∧ K9 true LB S T)) (ky_X9_minutes (b := false) (L := LA) (by decide) (by decide) (fun _ => rfl) (mn_X9_minutes (Q := fun r T => IV T ∧ Gr S T ∧ (FRI [(9, 9)] [] S T) ∧ K2 S T ∧ ((NFq 9 9 c9 v0 T))) hI o_v0 (fun r T h0 h1 h2 h3 h4 => ⟨h0, h1, h2, h3, h4⟩))) (ky_X9_minutes (b := true) (L := LB) (by decide) (by decide) (fun z => z.elim) (mn_X9_minutes (Q := fun r T => IV T ∧ Gr S T ∧ (FRI [(9, 9)] [] S T) ∧ K2 S T ∧ ((NFq 9 9 c9 v0 T))) hI o_v0 (fun r T h0 h1 h2 h3 h4 => ⟨h0, h1, h2, h3, h4⟩))) (fun r T a b => ⟨a.1, a.2, b.2⟩)) (fun r T a b => ⟨a.1, a.2, b.2⟩)) (mn_X9_minutes (Q := fun r T => IV T ∧ Gr S T ∧ (FRI [(9, 9)] [] S T) ∧ K2 S T ∧ ((NFq 9 9 c9 v0 T))) hI o_v0 (fun r T h0 h1 h2 h3 h4 => ⟨h0, h1, h2, h3, h4⟩)) (fun r T h _ => hq r T h.1.1 h.1.2.1 h.1.2.2.1 h.1.2.2.2.1 h.1.2.2.2.2 h.2)
theorem mz_X9_off {v0 : Nat} {v1 : Int32} {v2 : Int32} {v3 : Int32} {v4 : Int32} {Q : Int32 → HS → Prop} {S : HS} (hI : IV S) (o_v0 : ob S v0 9)  (hq : ∀ (r : Int32) (T : HS), IV T → Gr S T → FRI [(7, 3), (7, 9), (7, 10), (7, 11), (7, 12), (7, 13), (9, 9)] [(7, 0), (7, 1), (7, 2), (7, 4), (7, 5), (7, 6), (7, 7), (7, 8)] S T → K2 S T → (NFq 9 9 c9 v0 T) → ((K7 S T ∧ K8 S T) ∧ (K9 false LA S T ∧ K9 true LB S T)) → Q r T) : P_X9_off v0 v1 v2 v3 v4 Q S := cm_X9_off (cm_X9_off (Q3 := fun r T => (IV T ∧ Gr S T ∧ (FRI [(7, 3), (7, 9), (7, 10), (7, 11), (7, 12), (7, 13), (9, 9)] [(7, 0), (7, 1), (7, 2), (7, 4), (7, 5), (7, 6), (7, 7), (7, 8)] S T) ∧ K2 S T ∧ ((NFq 9 9 c9 v0 T))) ∧ (K7 S T ∧ K8 S T) ∧ (K9 false LA S T ∧ K9 true LB S T)) (cm_X9_off (Q3 := fun r T => (IV T ∧ Gr S T ∧ (FRI [(7, 3), (7, 9), (7, 10), (7, 11), (7, 12), (7, 13), (9, 9)] [(7, 0), (7, 1), (7, 2), (7, 4), (7, 5), (7, 6), (7, 7), (7, 8)] S T) ∧ K2 S T ∧ ((NFq 9 9 c9 v0 T))) ∧ K7 S T ∧ K8 S T) (kw_X9_off (mn_X9_off (Q := fun r T => IV T ∧ Gr S T ∧ (FRI [(7, 3), (7, 9), (7, 10), (7, 11), (7, 12), (7, 13), (9, 9)] [(7, 0), (7, 1), (7, 2), (7, 4), (7, 5), (7, 6), (7, 7), (7, 8)] S T) ∧ K2 S T ∧ ((NFq 9 9 c9 v0 T))) hI o_v0 (fun r T h0 h1 h2 h3 h4 => ⟨h0, h1, h2, h3, h4⟩))) (kx_X9_off (mn_X9_off (Q := fun r T => IV T ∧ Gr S T ∧ (FRI [(7, 3), (7, 9), (7, 10), (7, 11), (7, 12), (7, 13), (9, 9)] [(7, 0), (7, 1), (7, 2), (7, 4), (7, 5), (7, 6), (7, 7), (7, 8)] S T) ∧ K2 S T ∧ ((NFq 9 9 c9 v0 T))) hI o_v0 (fun r T h0 h1 h2 h3 h4 => ⟨h0, h1, h2, h3, h4⟩))) (fun r T a b => ⟨a.1, a.2, b.2⟩)) (cm_X9_off (Q3 := fun r T => (IV T ∧ Gr S T ∧ (FRI [(7, 3), (7, 9), (7, 10), (7, 11), (7, 12), (7, 13), (9, 9)] [(7, 0), (7, 1), (7, 2), (7, 4), (7, 5), (7, 6), (7, 7), (7, 8)] S T) ∧ K2 S T ∧ ((NFq 9 9 c9 v0 T))) ∧ (K9 false LA S T ∧ K9 true LB S T)) (ky_X9_off (b := false) (L := LA) (by decide) (by decide) (fun _ => rfl) (mn_X9_off (Q := fun r T => IV T ∧ Gr S T ∧ (FRI [(7, 3), (7, 9), (7, 10), (7, 11), (7, 12), (7, 13), (9, 9)] [(7, 0), (7, 1), (7, 2), (7, 4), (7, 5), (7, 6), (7, 7), (7, 8)] S T) ∧ K2 S T ∧ ((NFq 9 9 c9 v0 T))) hI o_v0 (fun r T h0 h1 h2 h3 h4 => ⟨h0, h1, h2, h3, h4⟩))) (ky_X9_off (b := true) (L := LB) (by decide) (by decide) (fun z => z.elim) (mn_X9_off (Q := fun r T => IV T ∧ Gr S T ∧ (FRI [(7, 3), (7, 9), (7, 10), (7, 11), (7, 12), (7, 13), (9, 9)] [(7, 0), (7, 1), (7, 2), (7, 4), (7, 5), (7, 6), (7, 7), (7, 8)] S T) ∧ K2 S T ∧ ((NFq 9 9 c9 v0 T))) hI o_v0 (fun r T h0 h1 h2 h3 h4 => ⟨h0, h1, h2, h3, h4⟩))) (fun r T a b => ⟨a.1, a.2, b.2⟩)) (fun r T a b => ⟨a.1, a.2, b.2⟩)) (mn_X9_off (Q := fun r T => IV T ∧ Gr S T ∧ (FRI [(7, 3), (7, 9), (7, 10), (7, 11), (7, 12), (7, 13), (9, 9)] [(7, 0), (7, 1), (7, 2), (7, 4), (7, 5), (7, 6), (7, 7), (7, 8)] S T) ∧ K2 S T ∧ ((NFq 9 9 c9 v0 T))) hI o_v0 (fun r T h0 h1 h2 h3 h4 => ⟨h0, h1, h2, h3, h4⟩)) (fun r T h _ => hq r T h.1.1 h.1.2.1 h.1.2.2.1 h.1.2.2.2.1 h.1.2.2.2.2 h.2)
theorem mz_X9_road {v0 : Nat} {v1 : Int32} {v2 : Int32} {Q : Int32 → HS → Prop} {S : HS} (hI : IV S) (o_v0 : ob S v0 9)  (hq : ∀ (r : Int32) (T : HS), IV T → Gr S T → FRI [(9, 9)] [] S T → K2 S T → (NFq 9 9 c9 v0 T) → ((K7 S T ∧ K8 S T) ∧ (K9 false LA S T ∧ K9 true LB S T)) → Q r T) : P_X9_road v0 v1 v2 Q S := cm_X9_road (cm_X9_road (Q3 := fun r T => (IV T ∧ Gr S T ∧ (FRI [(9, 9)] [] S T) ∧ K2 S T ∧ ((NFq 9 9 c9 v0 T))) ∧ (K7 S T ∧ K8 S T) ∧ (K9 false LA S T ∧ K9 true LB S T)) (cm_X9_road (Q3 := fun r T => (IV T ∧ Gr S T ∧ (FRI [(9, 9)] [] S T) ∧ K2 S T ∧ ((NFq 9 9 c9 v0 T))) ∧ K7 S T ∧ K8 S T) (kw_X9_road (mn_X9_road (Q := fun r T => IV T ∧ Gr S T ∧ (FRI [(9, 9)] [] S T) ∧ K2 S T ∧ ((NFq 9 9 c9 v0 T))) hI o_v0 (fun r T h0 h1 h2 h3 h4 => ⟨h0, h1, h2, h3, h4⟩))) (kx_X9_road (mn_X9_road (Q := fun r T => IV T ∧ Gr S T ∧ (FRI [(9, 9)] [] S T) ∧ K2 S T ∧ ((NFq 9 9 c9 v0 T))) hI o_v0 (fun r T h0 h1 h2 h3 h4 => ⟨h0, h1, h2, h3, h4⟩))) (fun r T a b => ⟨a.1, a.2, b.2⟩)) (cm_X9_road (Q3 := fun r T => (IV T ∧ Gr S T ∧ (FRI [(9, 9)] [] S T) ∧ K2 S T ∧ ((NFq 9 9 c9 v0 T))) ∧ (K9 false LA S T ∧ K9 true LB S T)) (ky_X9_road (b := false) (L := LA) (by decide) (by decide) (fun _ => rfl) (mn_X9_road (Q := fun r T => IV T ∧ Gr S T ∧ (FRI [(9, 9)] [] S T) ∧ K2 S T ∧ ((NFq 9 9 c9 v0 T))) hI o_v0 (fun r T h0 h1 h2 h3 h4 => ⟨h0, h1, h2, h3, h4⟩))) (ky_X9_road (b := true) (L := LB) (by decide) (by decide) (fun z => z.elim) (mn_X9_road (Q := fun r T => IV T ∧ Gr S T ∧ (FRI [(9, 9)] [] S T) ∧ K2 S T ∧ ((NFq 9 9 c9 v0 T))) hI o_v0 (fun r T h0 h1 h2 h3 h4 => ⟨h0, h1, h2, h3, h4⟩))) (fun r T a b => ⟨a.1, a.2, b.2⟩)) (fun r T a b => ⟨a.1, a.2, b.2⟩)) (mn_X9_road (Q := fun r T => IV T ∧ Gr S T ∧ (FRI [(9, 9)] [] S T) ∧ K2 S T ∧ ((NFq 9 9 c9 v0 T))) hI o_v0 (fun r T h0 h1 h2 h3 h4 => ⟨h0, h1, h2, h3, h4⟩)) (fun r T h _ => hq r T h.1.1 h.1.2.1 h.1.2.2.1 h.1.2.2.2.1 h.1.2.2.2.2 h.2)
theorem mz_X9_round {v0 : Nat} {v1 : Int32} {v2 : Int32} {v3 : Int32} {v4 : Int32} {Q : Int64 → HS → Prop} {S : HS} (hI : IV S) (o_v0 : ob S v0 9)  (hq : ∀ (r : Int64) (T : HS), IV T → Gr S T → FRI [(9, 9)] [] S T → K2 S T → (NFq 9 9 c9 v0 T) → ((K7 S T ∧ K8 S T) ∧ (K9 false LA S T ∧ K9 true LB S T)) → Q r T) : P_X9_round v0 v1 v2 v3 v4 Q S := cm_X9_round (cm_X9_round (Q3 := fun r T => (IV T ∧ Gr S T ∧ (FRI [(9, 9)] [] S T) ∧ K2 S T ∧ ((NFq 9 9 c9 v0 T))) ∧ (K7 S T ∧ K8 S T) ∧ (K9 false LA S T ∧ K9 true LB S T)) (cm_X9_round (Q3 := fun r T => (IV T ∧ Gr S T ∧ (FRI [(9, 9)] [] S T) ∧ K2 S T ∧ ((NFq 9 9 c9 v0 T))) ∧ K7 S T ∧ K8 S T) (kw_X9_round (mn_X9_round (Q := fun r T => IV T ∧ Gr S T ∧ (FRI [(9, 9)] [] S T) ∧ K2 S T ∧ ((NFq 9 9 c9 v0 T))) hI o_v0 (fun r T h0 h1 h2 h3 h4 => ⟨h0, h1, h2, h3, h4⟩))) (kx_X9_round (mn_X9_round (Q := fun r T => IV T ∧ Gr S T ∧ (FRI [(9, 9)] [] S T) ∧ K2 S T ∧ ((NFq 9 9 c9 v0 T))) hI o_v0 (fun r T h0 h1 h2 h3 h4 => ⟨h0, h1, h2, h3, h4⟩))) (fun r T a b => ⟨a.1, a.2, b.2⟩)) (cm_X9_round (Q3 := fun r T => (IV T ∧ Gr S T ∧ (FRI [(9, 9)] [] S T) ∧ K2 S T ∧ ((NFq 9 9 c9 v0 T))) ∧ (K9 false LA S T ∧ K9 true LB S T)) (ky_X9_round (b := false) (L := LA) (by decide) (by decide) (fun _ => rfl) (mn_X9_round (Q := fun r T => IV T ∧ Gr S T ∧ (FRI [(9, 9)] [] S T) ∧ K2 S T ∧ ((NFq 9 9 c9 v0 T))) hI o_v0 (fun r T h0 h1 h2 h3 h4 => ⟨h0, h1, h2, h3, h4⟩))) (ky_X9_round (b := true) (L := LB) (by decide) (by decide) (fun z => z.elim) (mn_X9_round (Q := fun r T => IV T ∧ Gr S T ∧ (FRI [(9, 9)] [] S T) ∧ K2 S T ∧ ((NFq 9 9 c9 v0 T))) hI o_v0 (fun r T h0 h1 h2 h3 h4 => ⟨h0, h1, h2, h3, h4⟩))) (fun r T a b => ⟨a.1, a.2, b.2⟩)) (fun r T a b => ⟨a.1, a.2, b.2⟩)) (mn_X9_round (Q := fun r T => IV T ∧ Gr S T ∧ (FRI [(9, 9)] [] S T) ∧ K2 S T ∧ ((NFq 9 9 c9 v0 T))) hI o_v0 (fun r T h0 h1 h2 h3 h4 => ⟨h0, h1, h2, h3, h4⟩)) (fun r T h _ => hq r T h.1.1 h.1.2.1 h.1.2.2.1 h.1.2.2.2.1 h.1.2.2.2.2 h.2)
theorem mz_X9_saves {v0 : Nat} {v1 : Int32} {v2 : Int32} {v3 : Int32} {v4 : Int32} {v5 : Int32} {Q : Int64 → HS → Prop} {S : HS} (hI : IV S) (o_v0 : ob S v0 9)  (hq : ∀ (r : Int64) (T : HS), IV T → Gr S T → FRI [(9, 9)] [] S T → K2 S T → (NFq 9 9 c9 v0 T) → ((K7 S T ∧ K8 S T) ∧ (K9 false LA S T ∧ K9 true LB S T)) → Q r T) : P_X9_saves v0 v1 v2 v3 v4 v5 Q S := cm_X9_saves (cm_X9_saves (Q3 := fun r T => (IV T ∧ Gr S T ∧ (FRI [(9, 9)] [] S T) ∧ K2 S T ∧ ((NFq 9 9 c9 v0 T))) ∧ (K7 S T ∧ K8 S T) ∧ (K9 false LA S T ∧ K9 true LB S T)) (cm_X9_saves (Q3 := fun r T => (IV T ∧ Gr S T ∧ (FRI [(9, 9)] [] S T) ∧ K2 S T ∧ ((NFq 9 9 c9 v0 T))) ∧ K7 S T ∧ K8 S T) (kw_X9_saves (mn_X9_saves (Q := fun r T => IV T ∧ Gr S T ∧ (FRI [(9, 9)] [] S T) ∧ K2 S T ∧ ((NFq 9 9 c9 v0 T))) hI o_v0 (fun r T h0 h1 h2 h3 h4 => ⟨h0, h1, h2, h3, h4⟩))) (kx_X9_saves (mn_X9_saves (Q := fun r T => IV T ∧ Gr S T ∧ (FRI [(9, 9)] [] S T) ∧ K2 S T ∧ ((NFq 9 9 c9 v0 T))) hI o_v0 (fun r T h0 h1 h2 h3 h4 => ⟨h0, h1, h2, h3, h4⟩))) (fun r T a b => ⟨a.1, a.2, b.2⟩)) (cm_X9_saves (Q3 := fun r T => (IV T ∧ Gr S T ∧ (FRI [(9, 9)] [] S T) ∧ K2 S T ∧ ((NFq 9 9 c9 v0 T))) ∧ (K9 false LA S T ∧ K9 true LB S T)) (ky_X9_saves (b := false) (L := LA) (by decide) (by decide) (fun _ => rfl) (mn_X9_saves (Q := fun r T => IV T ∧ Gr S T ∧ (FRI [(9, 9)] [] S T) ∧ K2 S T ∧ ((NFq 9 9 c9 v0 T))) hI o_v0 (fun r T h0 h1 h2 h3 h4 => ⟨h0, h1, h2, h3, h4⟩))) (ky_X9_saves (b := true) (L := LB) (by decide) (by decide) (fun z => z.elim) (mn_X9_saves (Q := fun r T => IV T ∧ Gr S T ∧ (FRI [(9, 9)] [] S T) ∧ K2 S T ∧ ((NFq 9 9 c9 v0 T))) hI o_v0 (fun r T h0 h1 h2 h3 h4 => ⟨h0, h1, h2, h3, h4⟩))) (fun r T a b => ⟨a.1, a.2, b.2⟩)) (fun r T a b => ⟨a.1, a.2, b.2⟩)) (mn_X9_saves (Q := fun r T => IV T ∧ Gr S T ∧ (FRI [(9, 9)] [] S T) ∧ K2 S T ∧ ((NFq 9 9 c9 v0 T))) hI o_v0 (fun r T h0 h1 h2 h3 h4 => ⟨h0, h1, h2, h3, h4⟩)) (fun r T h _ => hq r T h.1.1 h.1.2.1 h.1.2.2.1 h.1.2.2.2.1 h.1.2.2.2.2 h.2)
theorem mz_X9_soaked {v0 : Nat} {Q : Int32 → HS → Prop} {S : HS} (hI : IV S) (o_v0 : ob S v0 9)  (hq : ∀ (r : Int32) (T : HS), IV T → Gr S T → FRI [(9, 9)] [] S T → K2 S T → (NFq 9 9 c9 v0 T) → ((K7 S T ∧ K8 S T) ∧ (K9 false LA S T ∧ K9 true LB S T)) → Q r T) : P_X9_soaked v0 Q S := cm_X9_soaked (cm_X9_soaked (Q3 := fun r T => (IV T ∧ Gr S T ∧ (FRI [(9, 9)] [] S T) ∧ K2 S T ∧ ((NFq 9 9 c9 v0 T))) ∧ (K7 S T ∧ K8 S T) ∧ (K9 false LA S T ∧ K9 true LB S T)) (cm_X9_soaked (Q3 := fun r T => (IV T ∧ Gr S T ∧ (FRI [(9, 9)] [] S T) ∧ K2 S T ∧ ((NFq 9 9 c9 v0 T))) ∧ K7 S T ∧ K8 S T) (kw_X9_soaked (mn_X9_soaked (Q := fun r T => IV T ∧ Gr S T ∧ (FRI [(9, 9)] [] S T) ∧ K2 S T ∧ ((NFq 9 9 c9 v0 T))) hI o_v0 (fun r T h0 h1 h2 h3 h4 => ⟨h0, h1, h2, h3, h4⟩))) (kx_X9_soaked (mn_X9_soaked (Q := fun r T => IV T ∧ Gr S T ∧ (FRI [(9, 9)] [] S T) ∧ K2 S T ∧ ((NFq 9 9 c9 v0 T))) hI o_v0 (fun r T h0 h1 h2 h3 h4 => ⟨h0, h1, h2, h3, h4⟩))) (fun r T a b => ⟨a.1, a.2, b.2⟩)) (cm_X9_soaked (Q3 := fun r T => (IV T ∧ Gr S T ∧ (FRI [(9, 9)] [] S T) ∧ K2 S T ∧ ((NFq 9 9 c9 v0 T))) ∧ (K9 false LA S T ∧ K9 true LB S T)) (ky_X9_soaked (b := false) (L := LA) (by decide) (by decide) (fun _ => rfl) (mn_X9_soaked (Q := fun r T => IV T ∧ Gr S T ∧ (FRI [(9, 9)] [] S T) ∧ K2 S T ∧ ((NFq 9 9 c9 v0 T))) hI o_v0 (fun r T h0 h1 h2 h3 h4 => ⟨h0, h1, h2, h3, h4⟩))) (ky_X9_soaked (b := true) (L := LB) (by decide) (by decide) (fun z => z.elim) (mn_X9_soaked (Q := fun r T => IV T ∧ Gr S T ∧ (FRI [(9, 9)] [] S T) ∧ K2 S T ∧ ((NFq 9 9 c9 v0 T))) hI o_v0 (fun r T h0 h1 h2 h3 h4 => ⟨h0, h1, h2, h3, h4⟩))) (fun r T a b => ⟨a.1, a.2, b.2⟩)) (fun r T a b => ⟨a.1, a.2, b.2⟩)) (mn_X9_soaked (Q := fun r T => IV T ∧ Gr S T ∧ (FRI [(9, 9)] [] S T) ∧ K2 S T ∧ ((NFq 9 9 c9 v0 T))) hI o_v0 (fun r T h0 h1 h2 h3 h4 => ⟨h0, h1, h2, h3, h4⟩)) (fun r T h _ => hq r T h.1.1 h.1.2.1 h.1.2.2.1 h.1.2.2.2.1 h.1.2.2.2.2 h.2)
theorem mt_X9_stay {v0 : Nat} {v1 : Int32} {Q : Int32 → HS → Prop} {S : HS} (hI : IV S) (o_v0 : ob S v0 9) {rr w1 w2 l9 p9 q9 : Nat} {A : AS} {G : GC} (J : CJ v0 rr w1 w2 S) (hc : Cnt w1 A S) (ct : CtB w1 A G S S) (ab : ABd A) (gb : GBd A G) (lg : LG v0 l9 p9 q9 S) {dy : Nat} {D : DY} (e6 : fR S v0 6 = some dy) (cd : CDd dy D S) (db : DBd A D) (hq : ∀ (r : Int32) (T : HS), IV T → Gr S T → FRI [(0, 2), (2, 0), (2, 1), (9, 9)] [] S T → bl r → K2 S T → (NFq 9 9 c9 v0 T) → (((K7 S T ∧ K8 S T) ∧ K9 false LA S T) ∧ ans (stC A G D v1) r ∧ CDd dy (nxstay A G D v1) T) → Q r T) : P_X9_stay v0 v1 Q S := cm_X9_stay (cm_X9_stay (Q3 := fun r T => (IV T ∧ Gr S T ∧ (FRI [(0, 2), (2, 0), (2, 1), (9, 9)] [] S T) ∧ bl r ∧ K2 S T ∧ ((NFq 9 9 c9 v0 T))) ∧ ((K7 S T ∧ K8 S T) ∧ K9 false LA S T) ∧ ans (stC A G D v1) r ∧ CDd dy (nxstay A G D v1) T) (cm_X9_stay (Q3 := fun r T => (IV T ∧ Gr S T ∧ (FRI [(0, 2), (2, 0), (2, 1), (9, 9)] [] S T) ∧ bl r ∧ K2 S T ∧ ((NFq 9 9 c9 v0 T))) ∧ (K7 S T ∧ K8 S T) ∧ K9 false LA S T) (cm_X9_stay (Q3 := fun r T => (IV T ∧ Gr S T ∧ (FRI [(0, 2), (2, 0), (2, 1), (9, 9)] [] S T) ∧ bl r ∧ K2 S T ∧ ((NFq 9 9 c9 v0 T))) ∧ K7 S T ∧ K8 S T) (kw_X9_stay (mn_X9_stay (Q := fun r T => IV T ∧ Gr S T ∧ (FRI [(0, 2), (2, 0), (2, 1), (9, 9)] [] S T) ∧ bl r ∧ K2 S T ∧ ((NFq 9 9 c9 v0 T))) hI o_v0 (fun r T h0 h1 h2 h3 h4 h5 => ⟨h0, h1, h2, h3, h4, h5⟩))) (kx_X9_stay (mn_X9_stay (Q := fun r T => IV T ∧ Gr S T ∧ (FRI [(0, 2), (2, 0), (2, 1), (9, 9)] [] S T) ∧ bl r ∧ K2 S T ∧ ((NFq 9 9 c9 v0 T))) hI o_v0 (fun r T h0 h1 h2 h3 h4 h5 => ⟨h0, h1, h2, h3, h4, h5⟩))) (fun r T a b => ⟨a.1, a.2, b.2⟩)) (ky_X9_stay (b := false) (L := LA) (by decide) (by decide) (fun _ => rfl) (mn_X9_stay (Q := fun r T => IV T ∧ Gr S T ∧ (FRI [(0, 2), (2, 0), (2, 1), (9, 9)] [] S T) ∧ bl r ∧ K2 S T ∧ ((NFq 9 9 c9 v0 T))) hI o_v0 (fun r T h0 h1 h2 h3 h4 h5 => ⟨h0, h1, h2, h3, h4, h5⟩))) (fun r T a b => ⟨a.1, a.2, b.2⟩)) (tl_X9_stay hI J hc ct ab e6 cd db (mn_X9_stay (Q := fun r T => IV T ∧ Gr S T ∧ (FRI [(0, 2), (2, 0), (2, 1), (9, 9)] [] S T) ∧ bl r ∧ K2 S T ∧ ((NFq 9 9 c9 v0 T))) hI o_v0 (fun r T h0 h1 h2 h3 h4 h5 => ⟨h0, h1, h2, h3, h4, h5⟩))) (fun r T a b => ⟨a.1, a.2, b.2⟩)) (mn_X9_stay (Q := fun r T => IV T ∧ Gr S T ∧ (FRI [(0, 2), (2, 0), (2, 1), (9, 9)] [] S T) ∧ bl r ∧ K2 S T ∧ ((NFq 9 9 c9 v0 T))) hI o_v0 (fun r T h0 h1 h2 h3 h4 h5 => ⟨h0, h1, h2, h3, h4, h5⟩)) (fun r T h _ => hq r T h.1.1 h.1.2.1 h.1.2.2.1 h.1.2.2.2.1 h.1.2.2.2.2.1 h.1.2.2.2.2.2 h.2)
theorem mz_X9_step {v0 : Nat} {v1 : Int32} {v2 : Int32} {v3 : Int32} {v4 : Int32} {v5 : Int32} {v6 : Int32} {Q : Int32 → HS → Prop} {S : HS} (hI : IV S) (o_v0 : ob S v0 9)  (hq : ∀ (r : Int32) (T : HS), IV T → Gr S T → FRI [(7, 3), (7, 9), (7, 10), (7, 11), (7, 12), (7, 13), (9, 9)] [(7, 0), (7, 1), (7, 2), (7, 4), (7, 5), (7, 6), (7, 7), (7, 8)] S T → K2 S T → (NFq 9 9 c9 v0 T) → ((K7 S T ∧ K8 S T) ∧ (K9 false LA S T ∧ K9 true LB S T)) → Q r T) : P_X9_step v0 v1 v2 v3 v4 v5 v6 Q S := cm_X9_step (cm_X9_step (Q3 := fun r T => (IV T ∧ Gr S T ∧ (FRI [(7, 3), (7, 9), (7, 10), (7, 11), (7, 12), (7, 13), (9, 9)] [(7, 0), (7, 1), (7, 2), (7, 4), (7, 5), (7, 6), (7, 7), (7, 8)] S T) ∧ K2 S T ∧ ((NFq 9 9 c9 v0 T))) ∧ (K7 S T ∧ K8 S T) ∧ (K9 false LA S T ∧ K9 true LB S T)) (cm_X9_step (Q3 := fun r T => (IV T ∧ Gr S T ∧ (FRI [(7, 3), (7, 9), (7, 10), (7, 11), (7, 12), (7, 13), (9, 9)] [(7, 0), (7, 1), (7, 2), (7, 4), (7, 5), (7, 6), (7, 7), (7, 8)] S T) ∧ K2 S T ∧ ((NFq 9 9 c9 v0 T))) ∧ K7 S T ∧ K8 S T) (kw_X9_step (mn_X9_step (Q := fun r T => IV T ∧ Gr S T ∧ (FRI [(7, 3), (7, 9), (7, 10), (7, 11), (7, 12), (7, 13), (9, 9)] [(7, 0), (7, 1), (7, 2), (7, 4), (7, 5), (7, 6), (7, 7), (7, 8)] S T) ∧ K2 S T ∧ ((NFq 9 9 c9 v0 T))) hI o_v0 (fun r T h0 h1 h2 h3 h4 => ⟨h0, h1, h2, h3, h4⟩))) (kx_X9_step (mn_X9_step (Q := fun r T => IV T ∧ Gr S T ∧ (FRI [(7, 3), (7, 9), (7, 10), (7, 11), (7, 12), (7, 13), (9, 9)] [(7, 0), (7, 1), (7, 2), (7, 4), (7, 5), (7, 6), (7, 7), (7, 8)] S T) ∧ K2 S T ∧ ((NFq 9 9 c9 v0 T))) hI o_v0 (fun r T h0 h1 h2 h3 h4 => ⟨h0, h1, h2, h3, h4⟩))) (fun r T a b => ⟨a.1, a.2, b.2⟩)) (cm_X9_step (Q3 := fun r T => (IV T ∧ Gr S T ∧ (FRI [(7, 3), (7, 9), (7, 10), (7, 11), (7, 12), (7, 13), (9, 9)] [(7, 0), (7, 1), (7, 2), (7, 4), (7, 5), (7, 6), (7, 7), (7, 8)] S T) ∧ K2 S T ∧ ((NFq 9 9 c9 v0 T))) ∧ (K9 false LA S T ∧ K9 true LB S T)) (ky_X9_step (b := false) (L := LA) (by decide) (by decide) (fun _ => rfl) (mn_X9_step (Q := fun r T => IV T ∧ Gr S T ∧ (FRI [(7, 3), (7, 9), (7, 10), (7, 11), (7, 12), (7, 13), (9, 9)] [(7, 0), (7, 1), (7, 2), (7, 4), (7, 5), (7, 6), (7, 7), (7, 8)] S T) ∧ K2 S T ∧ ((NFq 9 9 c9 v0 T))) hI o_v0 (fun r T h0 h1 h2 h3 h4 => ⟨h0, h1, h2, h3, h4⟩))) (ky_X9_step (b := true) (L := LB) (by decide) (by decide) (fun z => z.elim) (mn_X9_step (Q := fun r T => IV T ∧ Gr S T ∧ (FRI [(7, 3), (7, 9), (7, 10), (7, 11), (7, 12), (7, 13), (9, 9)] [(7, 0), (7, 1), (7, 2), (7, 4), (7, 5), (7, 6), (7, 7), (7, 8)] S T) ∧ K2 S T ∧ ((NFq 9 9 c9 v0 T))) hI o_v0 (fun r T h0 h1 h2 h3 h4 => ⟨h0, h1, h2, h3, h4⟩))) (fun r T a b => ⟨a.1, a.2, b.2⟩)) (fun r T a b => ⟨a.1, a.2, b.2⟩)) (mn_X9_step (Q := fun r T => IV T ∧ Gr S T ∧ (FRI [(7, 3), (7, 9), (7, 10), (7, 11), (7, 12), (7, 13), (9, 9)] [(7, 0), (7, 1), (7, 2), (7, 4), (7, 5), (7, 6), (7, 7), (7, 8)] S T) ∧ K2 S T ∧ ((NFq 9 9 c9 v0 T))) hI o_v0 (fun r T h0 h1 h2 h3 h4 => ⟨h0, h1, h2, h3, h4⟩)) (fun r T h _ => hq r T h.1.1 h.1.2.1 h.1.2.2.1 h.1.2.2.2.1 h.1.2.2.2.2 h.2)
theorem mz_X9_steps {v0 : Nat} {v1 : Int32} {v2 : Int32} {v3 : Int32} {v4 : Int32} {v5 : Int32} {Q : Int32 → HS → Prop} {S : HS} (hI : IV S) (o_v0 : ob S v0 9)  (hq : ∀ (r : Int32) (T : HS), IV T → Gr S T → FRI [(7, 3), (7, 9), (7, 10), (7, 11), (7, 12), (7, 13), (9, 9)] [(7, 0), (7, 1), (7, 2), (7, 4), (7, 5), (7, 6), (7, 7), (7, 8)] S T → K2 S T → (NFq 9 9 c9 v0 T) → ((K7 S T ∧ K8 S T) ∧ (K9 false LA S T ∧ K9 true LB S T)) → Q r T) : P_X9_steps v0 v1 v2 v3 v4 v5 Q S := cm_X9_steps (cm_X9_steps (Q3 := fun r T => (IV T ∧ Gr S T ∧ (FRI [(7, 3), (7, 9), (7, 10), (7, 11), (7, 12), (7, 13), (9, 9)] [(7, 0), (7, 1), (7, 2), (7, 4), (7, 5), (7, 6), (7, 7), (7, 8)] S T) ∧ K2 S T ∧ ((NFq 9 9 c9 v0 T))) ∧ (K7 S T ∧ K8 S T) ∧ (K9 false LA S T ∧ K9 true LB S T)) (cm_X9_steps (Q3 := fun r T => (IV T ∧ Gr S T ∧ (FRI [(7, 3), (7, 9), (7, 10), (7, 11), (7, 12), (7, 13), (9, 9)] [(7, 0), (7, 1), (7, 2), (7, 4), (7, 5), (7, 6), (7, 7), (7, 8)] S T) ∧ K2 S T ∧ ((NFq 9 9 c9 v0 T))) ∧ K7 S T ∧ K8 S T) (kw_X9_steps (mn_X9_steps (Q := fun r T => IV T ∧ Gr S T ∧ (FRI [(7, 3), (7, 9), (7, 10), (7, 11), (7, 12), (7, 13), (9, 9)] [(7, 0), (7, 1), (7, 2), (7, 4), (7, 5), (7, 6), (7, 7), (7, 8)] S T) ∧ K2 S T ∧ ((NFq 9 9 c9 v0 T))) hI o_v0 (fun r T h0 h1 h2 h3 h4 => ⟨h0, h1, h2, h3, h4⟩))) (kx_X9_steps (mn_X9_steps (Q := fun r T => IV T ∧ Gr S T ∧ (FRI [(7, 3), (7, 9), (7, 10), (7, 11), (7, 12), (7, 13), (9, 9)] [(7, 0), (7, 1), (7, 2), (7, 4), (7, 5), (7, 6), (7, 7), (7, 8)] S T) ∧ K2 S T ∧ ((NFq 9 9 c9 v0 T))) hI o_v0 (fun r T h0 h1 h2 h3 h4 => ⟨h0, h1, h2, h3, h4⟩))) (fun r T a b => ⟨a.1, a.2, b.2⟩)) (cm_X9_steps (Q3 := fun r T => (IV T ∧ Gr S T ∧ (FRI [(7, 3), (7, 9), (7, 10), (7, 11), (7, 12), (7, 13), (9, 9)] [(7, 0), (7, 1), (7, 2), (7, 4), (7, 5), (7, 6), (7, 7), (7, 8)] S T) ∧ K2 S T ∧ ((NFq 9 9 c9 v0 T))) ∧ (K9 false LA S T ∧ K9 true LB S T)) (ky_X9_steps (b := false) (L := LA) (by decide) (by decide) (fun _ => rfl) (mn_X9_steps (Q := fun r T => IV T ∧ Gr S T ∧ (FRI [(7, 3), (7, 9), (7, 10), (7, 11), (7, 12), (7, 13), (9, 9)] [(7, 0), (7, 1), (7, 2), (7, 4), (7, 5), (7, 6), (7, 7), (7, 8)] S T) ∧ K2 S T ∧ ((NFq 9 9 c9 v0 T))) hI o_v0 (fun r T h0 h1 h2 h3 h4 => ⟨h0, h1, h2, h3, h4⟩))) (ky_X9_steps (b := true) (L := LB) (by decide) (by decide) (fun z => z.elim) (mn_X9_steps (Q := fun r T => IV T ∧ Gr S T ∧ (FRI [(7, 3), (7, 9), (7, 10), (7, 11), (7, 12), (7, 13), (9, 9)] [(7, 0), (7, 1), (7, 2), (7, 4), (7, 5), (7, 6), (7, 7), (7, 8)] S T) ∧ K2 S T ∧ ((NFq 9 9 c9 v0 T))) hI o_v0 (fun r T h0 h1 h2 h3 h4 => ⟨h0, h1, h2, h3, h4⟩))) (fun r T a b => ⟨a.1, a.2, b.2⟩)) (fun r T a b => ⟨a.1, a.2, b.2⟩)) (mn_X9_steps (Q := fun r T => IV T ∧ Gr S T ∧ (FRI [(7, 3), (7, 9), (7, 10), (7, 11), (7, 12), (7, 13), (9, 9)] [(7, 0), (7, 1), (7, 2), (7, 4), (7, 5), (7, 6), (7, 7), (7, 8)] S T) ∧ K2 S T ∧ ((NFq 9 9 c9 v0 T))) hI o_v0 (fun r T h0 h1 h2 h3 h4 => ⟨h0, h1, h2, h3, h4⟩)) (fun r T h _ => hq r T h.1.1 h.1.2.1 h.1.2.2.1 h.1.2.2.2.1 h.1.2.2.2.2 h.2)
theorem mz_X9_there {v0 : Nat} {v1 : Int32} {v2 : Int32} {v3 : Int32} {v4 : Int32} {v5 : Int32} {Q : Int32 → HS → Prop} {S : HS} (hI : IV S) (o_v0 : ob S v0 9)  (hq : ∀ (r : Int32) (T : HS), IV T → Gr S T → FRI [(7, 3), (7, 9), (7, 10), (7, 11), (7, 12), (7, 13), (9, 9)] [(7, 0), (7, 1), (7, 2), (7, 4), (7, 5), (7, 6), (7, 7), (7, 8)] S T → K2 S T → (NFq 9 9 c9 v0 T) → ((K7 S T ∧ K8 S T) ∧ (K9 false LA S T ∧ K9 true LB S T)) → Q r T) : P_X9_there v0 v1 v2 v3 v4 v5 Q S := cm_X9_there (cm_X9_there (Q3 := fun r T => (IV T ∧ Gr S T ∧ (FRI [(7, 3), (7, 9), (7, 10), (7, 11), (7, 12), (7, 13), (9, 9)] [(7, 0), (7, 1), (7, 2), (7, 4), (7, 5), (7, 6), (7, 7), (7, 8)] S T) ∧ K2 S T ∧ ((NFq 9 9 c9 v0 T))) ∧ (K7 S T ∧ K8 S T) ∧ (K9 false LA S T ∧ K9 true LB S T)) (cm_X9_there (Q3 := fun r T => (IV T ∧ Gr S T ∧ (FRI [(7, 3), (7, 9), (7, 10), (7, 11), (7, 12), (7, 13), (9, 9)] [(7, 0), (7, 1), (7, 2), (7, 4), (7, 5), (7, 6), (7, 7), (7, 8)] S T) ∧ K2 S T ∧ ((NFq 9 9 c9 v0 T))) ∧ K7 S T ∧ K8 S T) (kw_X9_there (mn_X9_there (Q := fun r T => IV T ∧ Gr S T ∧ (FRI [(7, 3), (7, 9), (7, 10), (7, 11), (7, 12), (7, 13), (9, 9)] [(7, 0), (7, 1), (7, 2), (7, 4), (7, 5), (7, 6), (7, 7), (7, 8)] S T) ∧ K2 S T ∧ ((NFq 9 9 c9 v0 T))) hI o_v0 (fun r T h0 h1 h2 h3 h4 => ⟨h0, h1, h2, h3, h4⟩))) (kx_X9_there (mn_X9_there (Q := fun r T => IV T ∧ Gr S T ∧ (FRI [(7, 3), (7, 9), (7, 10), (7, 11), (7, 12), (7, 13), (9, 9)] [(7, 0), (7, 1), (7, 2), (7, 4), (7, 5), (7, 6), (7, 7), (7, 8)] S T) ∧ K2 S T ∧ ((NFq 9 9 c9 v0 T))) hI o_v0 (fun r T h0 h1 h2 h3 h4 => ⟨h0, h1, h2, h3, h4⟩))) (fun r T a b => ⟨a.1, a.2, b.2⟩)) (cm_X9_there (Q3 := fun r T => (IV T ∧ Gr S T ∧ (FRI [(7, 3), (7, 9), (7, 10), (7, 11), (7, 12), (7, 13), (9, 9)] [(7, 0), (7, 1), (7, 2), (7, 4), (7, 5), (7, 6), (7, 7), (7, 8)] S T) ∧ K2 S T ∧ ((NFq 9 9 c9 v0 T))) ∧ (K9 false LA S T ∧ K9 true LB S T)) (ky_X9_there (b := false) (L := LA) (by decide) (by decide) (fun _ => rfl) (mn_X9_there (Q := fun r T => IV T ∧ Gr S T ∧ (FRI [(7, 3), (7, 9), (7, 10), (7, 11), (7, 12), (7, 13), (9, 9)] [(7, 0), (7, 1), (7, 2), (7, 4), (7, 5), (7, 6), (7, 7), (7, 8)] S T) ∧ K2 S T ∧ ((NFq 9 9 c9 v0 T))) hI o_v0 (fun r T h0 h1 h2 h3 h4 => ⟨h0, h1, h2, h3, h4⟩))) (ky_X9_there (b := true) (L := LB) (by decide) (by decide) (fun z => z.elim) (mn_X9_there (Q := fun r T => IV T ∧ Gr S T ∧ (FRI [(7, 3), (7, 9), (7, 10), (7, 11), (7, 12), (7, 13), (9, 9)] [(7, 0), (7, 1), (7, 2), (7, 4), (7, 5), (7, 6), (7, 7), (7, 8)] S T) ∧ K2 S T ∧ ((NFq 9 9 c9 v0 T))) hI o_v0 (fun r T h0 h1 h2 h3 h4 => ⟨h0, h1, h2, h3, h4⟩))) (fun r T a b => ⟨a.1, a.2, b.2⟩)) (fun r T a b => ⟨a.1, a.2, b.2⟩)) (mn_X9_there (Q := fun r T => IV T ∧ Gr S T ∧ (FRI [(7, 3), (7, 9), (7, 10), (7, 11), (7, 12), (7, 13), (9, 9)] [(7, 0), (7, 1), (7, 2), (7, 4), (7, 5), (7, 6), (7, 7), (7, 8)] S T) ∧ K2 S T ∧ ((NFq 9 9 c9 v0 T))) hI o_v0 (fun r T h0 h1 h2 h3 h4 => ⟨h0, h1, h2, h3, h4⟩)) (fun r T h _ => hq r T h.1.1 h.1.2.1 h.1.2.2.1 h.1.2.2.2.1 h.1.2.2.2.2 h.2)
theorem mt_X9_undo {v0 : Nat} {Q : Int32 → HS → Prop} {S : HS} (hI : IV S) (o_v0 : ob S v0 9) {rr w1 w2 l9 p9 q9 : Nat} {A : AS} {G : GC} (J : CJ v0 rr w1 w2 S) (hc : Cnt w1 A S) (ct : CtB w1 A G S S) (ab : ABd A) (gb : GBd A G) (lg : LG v0 l9 p9 q9 S) {dy : Nat} {D : DY} (e6 : fR S v0 6 = some dy) (cd : CDd dy D S) (db : DBd A D) (hq : ∀ (r : Int32) (T : HS), IV T → Gr S T → FRI [(0, 2), (2, 0), (2, 1), (9, 9)] [] S T → bl r → K2 S T → (NFq 9 9 c9 v0 T) → (((K7 S T ∧ K8 S T) ∧ K9 false LA S T) ∧ ans (0 < dU D) r ∧ CDd dy (nxundo D) T) → Q r T) : P_X9_undo v0 Q S := cm_X9_undo (cm_X9_undo (Q3 := fun r T => (IV T ∧ Gr S T ∧ (FRI [(0, 2), (2, 0), (2, 1), (9, 9)] [] S T) ∧ bl r ∧ K2 S T ∧ ((NFq 9 9 c9 v0 T))) ∧ ((K7 S T ∧ K8 S T) ∧ K9 false LA S T) ∧ ans (0 < dU D) r ∧ CDd dy (nxundo D) T) (cm_X9_undo (Q3 := fun r T => (IV T ∧ Gr S T ∧ (FRI [(0, 2), (2, 0), (2, 1), (9, 9)] [] S T) ∧ bl r ∧ K2 S T ∧ ((NFq 9 9 c9 v0 T))) ∧ (K7 S T ∧ K8 S T) ∧ K9 false LA S T) (cm_X9_undo (Q3 := fun r T => (IV T ∧ Gr S T ∧ (FRI [(0, 2), (2, 0), (2, 1), (9, 9)] [] S T) ∧ bl r ∧ K2 S T ∧ ((NFq 9 9 c9 v0 T))) ∧ K7 S T ∧ K8 S T) (kw_X9_undo (mn_X9_undo (Q := fun r T => IV T ∧ Gr S T ∧ (FRI [(0, 2), (2, 0), (2, 1), (9, 9)] [] S T) ∧ bl r ∧ K2 S T ∧ ((NFq 9 9 c9 v0 T))) hI o_v0 (fun r T h0 h1 h2 h3 h4 h5 => ⟨h0, h1, h2, h3, h4, h5⟩))) (kx_X9_undo (mn_X9_undo (Q := fun r T => IV T ∧ Gr S T ∧ (FRI [(0, 2), (2, 0), (2, 1), (9, 9)] [] S T) ∧ bl r ∧ K2 S T ∧ ((NFq 9 9 c9 v0 T))) hI o_v0 (fun r T h0 h1 h2 h3 h4 h5 => ⟨h0, h1, h2, h3, h4, h5⟩))) (fun r T a b => ⟨a.1, a.2, b.2⟩)) (ky_X9_undo (b := false) (L := LA) (by decide) (by decide) (fun _ => rfl) (mn_X9_undo (Q := fun r T => IV T ∧ Gr S T ∧ (FRI [(0, 2), (2, 0), (2, 1), (9, 9)] [] S T) ∧ bl r ∧ K2 S T ∧ ((NFq 9 9 c9 v0 T))) hI o_v0 (fun r T h0 h1 h2 h3 h4 h5 => ⟨h0, h1, h2, h3, h4, h5⟩))) (fun r T a b => ⟨a.1, a.2, b.2⟩)) (tl_X9_undo J.2.2.2.1 e6 cd (mn_X9_undo (Q := fun r T => IV T ∧ Gr S T ∧ (FRI [(0, 2), (2, 0), (2, 1), (9, 9)] [] S T) ∧ bl r ∧ K2 S T ∧ ((NFq 9 9 c9 v0 T))) hI o_v0 (fun r T h0 h1 h2 h3 h4 h5 => ⟨h0, h1, h2, h3, h4, h5⟩))) (fun r T a b => ⟨a.1, a.2, b.2⟩)) (mn_X9_undo (Q := fun r T => IV T ∧ Gr S T ∧ (FRI [(0, 2), (2, 0), (2, 1), (9, 9)] [] S T) ∧ bl r ∧ K2 S T ∧ ((NFq 9 9 c9 v0 T))) hI o_v0 (fun r T h0 h1 h2 h3 h4 h5 => ⟨h0, h1, h2, h3, h4, h5⟩)) (fun r T h _ => hq r T h.1.1 h.1.2.1 h.1.2.2.1 h.1.2.2.2.1 h.1.2.2.2.2.1 h.1.2.2.2.2.2 h.2)
theorem mz_X9_walker {v0 : Nat} {v1 : Int32} {v2 : Int32} {Q : Int32 → HS → Prop} {S : HS} (hI : IV S) (o_v0 : ob S v0 9)  (hq : ∀ (r : Int32) (T : HS), IV T → Gr S T → FRI [(9, 9)] [] S T → K2 S T → (NFq 9 9 c9 v0 T) → ((K7 S T ∧ K8 S T) ∧ (K9 false LA S T ∧ K9 true LB S T)) → Q r T) : P_X9_walker v0 v1 v2 Q S := cm_X9_walker (cm_X9_walker (Q3 := fun r T => (IV T ∧ Gr S T ∧ (FRI [(9, 9)] [] S T) ∧ K2 S T ∧ ((NFq 9 9 c9 v0 T))) ∧ (K7 S T ∧ K8 S T) ∧ (K9 false LA S T ∧ K9 true LB S T)) (cm_X9_walker (Q3 := fun r T => (IV T ∧ Gr S T ∧ (FRI [(9, 9)] [] S T) ∧ K2 S T ∧ ((NFq 9 9 c9 v0 T))) ∧ K7 S T ∧ K8 S T) (kw_X9_walker (mn_X9_walker (Q := fun r T => IV T ∧ Gr S T ∧ (FRI [(9, 9)] [] S T) ∧ K2 S T ∧ ((NFq 9 9 c9 v0 T))) hI o_v0 (fun r T h0 h1 h2 h3 h4 => ⟨h0, h1, h2, h3, h4⟩))) (kx_X9_walker (mn_X9_walker (Q := fun r T => IV T ∧ Gr S T ∧ (FRI [(9, 9)] [] S T) ∧ K2 S T ∧ ((NFq 9 9 c9 v0 T))) hI o_v0 (fun r T h0 h1 h2 h3 h4 => ⟨h0, h1, h2, h3, h4⟩))) (fun r T a b => ⟨a.1, a.2, b.2⟩)) (cm_X9_walker (Q3 := fun r T => (IV T ∧ Gr S T ∧ (FRI [(9, 9)] [] S T) ∧ K2 S T ∧ ((NFq 9 9 c9 v0 T))) ∧ (K9 false LA S T ∧ K9 true LB S T)) (ky_X9_walker (b := false) (L := LA) (by decide) (by decide) (fun _ => rfl) (mn_X9_walker (Q := fun r T => IV T ∧ Gr S T ∧ (FRI [(9, 9)] [] S T) ∧ K2 S T ∧ ((NFq 9 9 c9 v0 T))) hI o_v0 (fun r T h0 h1 h2 h3 h4 => ⟨h0, h1, h2, h3, h4⟩))) (ky_X9_walker (b := true) (L := LB) (by decide) (by decide) (fun z => z.elim) (mn_X9_walker (Q := fun r T => IV T ∧ Gr S T ∧ (FRI [(9, 9)] [] S T) ∧ K2 S T ∧ ((NFq 9 9 c9 v0 T))) hI o_v0 (fun r T h0 h1 h2 h3 h4 => ⟨h0, h1, h2, h3, h4⟩))) (fun r T a b => ⟨a.1, a.2, b.2⟩)) (fun r T a b => ⟨a.1, a.2, b.2⟩)) (mn_X9_walker (Q := fun r T => IV T ∧ Gr S T ∧ (FRI [(9, 9)] [] S T) ∧ K2 S T ∧ ((NFq 9 9 c9 v0 T))) hI o_v0 (fun r T h0 h1 h2 h3 h4 => ⟨h0, h1, h2, h3, h4⟩)) (fun r T h _ => hq r T h.1.1 h.1.2.1 h.1.2.2.1 h.1.2.2.2.1 h.1.2.2.2.2 h.2)
theorem mz_X9_wet {v0 : Nat} {v1 : Int32} {v2 : Int32} {v3 : Int32} {v4 : Int32} {v5 : Int32} {v6 : Int32} {Q : Int64 → HS → Prop} {S : HS} (hI : IV S) (o_v0 : ob S v0 9)  (hq : ∀ (r : Int64) (T : HS), IV T → Gr S T → FRI [(9, 9)] [] S T → K2 S T → (NFq 9 9 c9 v0 T) → ((K7 S T ∧ K8 S T) ∧ (K9 false LA S T ∧ K9 true LB S T)) → Q r T) : P_X9_wet v0 v1 v2 v3 v4 v5 v6 Q S := cm_X9_wet (cm_X9_wet (Q3 := fun r T => (IV T ∧ Gr S T ∧ (FRI [(9, 9)] [] S T) ∧ K2 S T ∧ ((NFq 9 9 c9 v0 T))) ∧ (K7 S T ∧ K8 S T) ∧ (K9 false LA S T ∧ K9 true LB S T)) (cm_X9_wet (Q3 := fun r T => (IV T ∧ Gr S T ∧ (FRI [(9, 9)] [] S T) ∧ K2 S T ∧ ((NFq 9 9 c9 v0 T))) ∧ K7 S T ∧ K8 S T) (kw_X9_wet (mn_X9_wet (Q := fun r T => IV T ∧ Gr S T ∧ (FRI [(9, 9)] [] S T) ∧ K2 S T ∧ ((NFq 9 9 c9 v0 T))) hI o_v0 (fun r T h0 h1 h2 h3 h4 => ⟨h0, h1, h2, h3, h4⟩))) (kx_X9_wet (mn_X9_wet (Q := fun r T => IV T ∧ Gr S T ∧ (FRI [(9, 9)] [] S T) ∧ K2 S T ∧ ((NFq 9 9 c9 v0 T))) hI o_v0 (fun r T h0 h1 h2 h3 h4 => ⟨h0, h1, h2, h3, h4⟩))) (fun r T a b => ⟨a.1, a.2, b.2⟩)) (cm_X9_wet (Q3 := fun r T => (IV T ∧ Gr S T ∧ (FRI [(9, 9)] [] S T) ∧ K2 S T ∧ ((NFq 9 9 c9 v0 T))) ∧ (K9 false LA S T ∧ K9 true LB S T)) (ky_X9_wet (b := false) (L := LA) (by decide) (by decide) (fun _ => rfl) (mn_X9_wet (Q := fun r T => IV T ∧ Gr S T ∧ (FRI [(9, 9)] [] S T) ∧ K2 S T ∧ ((NFq 9 9 c9 v0 T))) hI o_v0 (fun r T h0 h1 h2 h3 h4 => ⟨h0, h1, h2, h3, h4⟩))) (ky_X9_wet (b := true) (L := LB) (by decide) (by decide) (fun z => z.elim) (mn_X9_wet (Q := fun r T => IV T ∧ Gr S T ∧ (FRI [(9, 9)] [] S T) ∧ K2 S T ∧ ((NFq 9 9 c9 v0 T))) hI o_v0 (fun r T h0 h1 h2 h3 h4 => ⟨h0, h1, h2, h3, h4⟩))) (fun r T a b => ⟨a.1, a.2, b.2⟩)) (fun r T a b => ⟨a.1, a.2, b.2⟩)) (mn_X9_wet (Q := fun r T => IV T ∧ Gr S T ∧ (FRI [(9, 9)] [] S T) ∧ K2 S T ∧ ((NFq 9 9 c9 v0 T))) hI o_v0 (fun r T h0 h1 h2 h3 h4 => ⟨h0, h1, h2, h3, h4⟩)) (fun r T h _ => hq r T h.1.1 h.1.2.1 h.1.2.2.1 h.1.2.2.2.1 h.1.2.2.2.2 h.2)
theorem mz_X9_wetness {v0 : Nat} {v1 : Int32} {Q : Int64 → HS → Prop} {S : HS} (hI : IV S) (o_v0 : ob S v0 9)  (hq : ∀ (r : Int64) (T : HS), IV T → Gr S T → FRI [(9, 9)] [] S T → K2 S T → (NFq 9 9 c9 v0 T) → ((K7 S T ∧ K8 S T) ∧ (K9 false LA S T ∧ K9 true LB S T)) → Q r T) : P_X9_wetness v0 v1 Q S := cm_X9_wetness (cm_X9_wetness (Q3 := fun r T => (IV T ∧ Gr S T ∧ (FRI [(9, 9)] [] S T) ∧ K2 S T ∧ ((NFq 9 9 c9 v0 T))) ∧ (K7 S T ∧ K8 S T) ∧ (K9 false LA S T ∧ K9 true LB S T)) (cm_X9_wetness (Q3 := fun r T => (IV T ∧ Gr S T ∧ (FRI [(9, 9)] [] S T) ∧ K2 S T ∧ ((NFq 9 9 c9 v0 T))) ∧ K7 S T ∧ K8 S T) (kw_X9_wetness (mn_X9_wetness (Q := fun r T => IV T ∧ Gr S T ∧ (FRI [(9, 9)] [] S T) ∧ K2 S T ∧ ((NFq 9 9 c9 v0 T))) hI o_v0 (fun r T h0 h1 h2 h3 h4 => ⟨h0, h1, h2, h3, h4⟩))) (kx_X9_wetness (mn_X9_wetness (Q := fun r T => IV T ∧ Gr S T ∧ (FRI [(9, 9)] [] S T) ∧ K2 S T ∧ ((NFq 9 9 c9 v0 T))) hI o_v0 (fun r T h0 h1 h2 h3 h4 => ⟨h0, h1, h2, h3, h4⟩))) (fun r T a b => ⟨a.1, a.2, b.2⟩)) (cm_X9_wetness (Q3 := fun r T => (IV T ∧ Gr S T ∧ (FRI [(9, 9)] [] S T) ∧ K2 S T ∧ ((NFq 9 9 c9 v0 T))) ∧ (K9 false LA S T ∧ K9 true LB S T)) (ky_X9_wetness (b := false) (L := LA) (by decide) (by decide) (fun _ => rfl) (mn_X9_wetness (Q := fun r T => IV T ∧ Gr S T ∧ (FRI [(9, 9)] [] S T) ∧ K2 S T ∧ ((NFq 9 9 c9 v0 T))) hI o_v0 (fun r T h0 h1 h2 h3 h4 => ⟨h0, h1, h2, h3, h4⟩))) (ky_X9_wetness (b := true) (L := LB) (by decide) (by decide) (fun z => z.elim) (mn_X9_wetness (Q := fun r T => IV T ∧ Gr S T ∧ (FRI [(9, 9)] [] S T) ∧ K2 S T ∧ ((NFq 9 9 c9 v0 T))) hI o_v0 (fun r T h0 h1 h2 h3 h4 => ⟨h0, h1, h2, h3, h4⟩))) (fun r T a b => ⟨a.1, a.2, b.2⟩)) (fun r T a b => ⟨a.1, a.2, b.2⟩)) (mn_X9_wetness (Q := fun r T => IV T ∧ Gr S T ∧ (FRI [(9, 9)] [] S T) ∧ K2 S T ∧ ((NFq 9 9 c9 v0 T))) hI o_v0 (fun r T h0 h1 h2 h3 h4 => ⟨h0, h1, h2, h3, h4⟩)) (fun r T h _ => hq r T h.1.1 h.1.2.1 h.1.2.2.1 h.1.2.2.2.1 h.1.2.2.2.2 h.2)
theorem mz_X9_worst {v0 : Nat} {v1 : Int32} {v2 : Int32} {v3 : Int32} {v4 : Int32} {Q : Int32 → HS → Prop} {S : HS} (hI : IV S) (o_v0 : ob S v0 9)  (hq : ∀ (r : Int32) (T : HS), IV T → Gr S T → FRI [(9, 9)] [] S T → K2 S T → (NFq 9 9 c9 v0 T) → ((K7 S T ∧ K8 S T) ∧ (K9 false LA S T ∧ K9 true LB S T)) → Q r T) : P_X9_worst v0 v1 v2 v3 v4 Q S := cm_X9_worst (cm_X9_worst (Q3 := fun r T => (IV T ∧ Gr S T ∧ (FRI [(9, 9)] [] S T) ∧ K2 S T ∧ ((NFq 9 9 c9 v0 T))) ∧ (K7 S T ∧ K8 S T) ∧ (K9 false LA S T ∧ K9 true LB S T)) (cm_X9_worst (Q3 := fun r T => (IV T ∧ Gr S T ∧ (FRI [(9, 9)] [] S T) ∧ K2 S T ∧ ((NFq 9 9 c9 v0 T))) ∧ K7 S T ∧ K8 S T) (kw_X9_worst (mn_X9_worst (Q := fun r T => IV T ∧ Gr S T ∧ (FRI [(9, 9)] [] S T) ∧ K2 S T ∧ ((NFq 9 9 c9 v0 T))) hI o_v0 (fun r T h0 h1 h2 h3 h4 => ⟨h0, h1, h2, h3, h4⟩))) (kx_X9_worst (mn_X9_worst (Q := fun r T => IV T ∧ Gr S T ∧ (FRI [(9, 9)] [] S T) ∧ K2 S T ∧ ((NFq 9 9 c9 v0 T))) hI o_v0 (fun r T h0 h1 h2 h3 h4 => ⟨h0, h1, h2, h3, h4⟩))) (fun r T a b => ⟨a.1, a.2, b.2⟩)) (cm_X9_worst (Q3 := fun r T => (IV T ∧ Gr S T ∧ (FRI [(9, 9)] [] S T) ∧ K2 S T ∧ ((NFq 9 9 c9 v0 T))) ∧ (K9 false LA S T ∧ K9 true LB S T)) (ky_X9_worst (b := false) (L := LA) (by decide) (by decide) (fun _ => rfl) (mn_X9_worst (Q := fun r T => IV T ∧ Gr S T ∧ (FRI [(9, 9)] [] S T) ∧ K2 S T ∧ ((NFq 9 9 c9 v0 T))) hI o_v0 (fun r T h0 h1 h2 h3 h4 => ⟨h0, h1, h2, h3, h4⟩))) (ky_X9_worst (b := true) (L := LB) (by decide) (by decide) (fun z => z.elim) (mn_X9_worst (Q := fun r T => IV T ∧ Gr S T ∧ (FRI [(9, 9)] [] S T) ∧ K2 S T ∧ ((NFq 9 9 c9 v0 T))) hI o_v0 (fun r T h0 h1 h2 h3 h4 => ⟨h0, h1, h2, h3, h4⟩))) (fun r T a b => ⟨a.1, a.2, b.2⟩)) (fun r T a b => ⟨a.1, a.2, b.2⟩)) (mn_X9_worst (Q := fun r T => IV T ∧ Gr S T ∧ (FRI [(9, 9)] [] S T) ∧ K2 S T ∧ ((NFq 9 9 c9 v0 T))) hI o_v0 (fun r T h0 h1 h2 h3 h4 => ⟨h0, h1, h2, h3, h4⟩)) (fun r T h _ => hq r T h.1.1 h.1.2.1 h.1.2.2.1 h.1.2.2.2.1 h.1.2.2.2.2 h.2)
theorem my_X9_world {v0 : Nat} {v1 : Int32} {Q : Int32 → HS → Prop} {S : HS} (hI : IV S) (o_v0 : ob S v0 9) {f : Nat → Int32} {t a : Nat} (P : TP 0 1 f t a v0 S) (ht : t ≤ 900) {rr w1 w2 dy : Nat} (J : CJ v0 rr w1 w2 S) (od : ob S dy 0) (hq : ∀ (r : Int32) (T : HS), IV T → Gr S T → FRI [(0, 0), (0, 2), (0, 3), (3, 0), (3, 1), (3, 2), (3, 3), (3, 4), (4, 0), (4, 1), (4, 3), (4, 4), (4, 6), (4, 7), (4, 9), (4, 10), (5, 0), (5, 1), (5, 2), (5, 3), (5, 4), (6, 0), (6, 1), (6, 2), (6, 3), (6, 4), (6, 5), (6, 6), (7, 10), (8, 0), (8, 1), (8, 2), (8, 3), (8, 4), (8, 5), (9, 1), (9, 7), (9, 8), (9, 9)] [(4, 2), (4, 5), (9, 2)] S T → ((v1 < 0 ∨ fI S v0 1 < v1 → fI T v0 1 = fI S v0 1) ∧ (0 ≤ v1 ∧ v1 ≤ fI S v0 1 → fI T v0 1 = 0)) → K2 S T → (WCd S f t v1 v0 r T) → ((WCe v0 rr w1 w2 S (RWo f t v1) T ∧ K8 S T) ∧ DwC v0 dy S r T ∧ (K9 false LA S T ∧ K9 true LB S T)) → Q r T) : P_X9_world v0 v1 Q S := cm_X9_world (cm_X9_world (Q3 := fun r T => (IV T ∧ Gr S T ∧ (FRI [(0, 0), (0, 2), (0, 3), (3, 0), (3, 1), (3, 2), (3, 3), (3, 4), (4, 0), (4, 1), (4, 3), (4, 4), (4, 6), (4, 7), (4, 9), (4, 10), (5, 0), (5, 1), (5, 2), (5, 3), (5, 4), (6, 0), (6, 1), (6, 2), (6, 3), (6, 4), (6, 5), (6, 6), (7, 10), (8, 0), (8, 1), (8, 2), (8, 3), (8, 4), (8, 5), (9, 1), (9, 7), (9, 8), (9, 9)] [(4, 2), (4, 5), (9, 2)] S T) ∧ (((v1 < 0 ∨ fI S v0 1 < v1 → fI T v0 1 = fI S v0 1) ∧ (0 ≤ v1 ∧ v1 ≤ fI S v0 1 → fI T v0 1 = 0))) ∧ K2 S T ∧ ((WCd S f t v1 v0 r T))) ∧ (WCe v0 rr w1 w2 S (RWo f t v1) T ∧ K8 S T) ∧ DwC v0 dy S r T ∧ (K9 false LA S T ∧ K9 true LB S T)) (cm_X9_world (Q3 := fun r T => (IV T ∧ Gr S T ∧ (FRI [(0, 0), (0, 2), (0, 3), (3, 0), (3, 1), (3, 2), (3, 3), (3, 4), (4, 0), (4, 1), (4, 3), (4, 4), (4, 6), (4, 7), (4, 9), (4, 10), (5, 0), (5, 1), (5, 2), (5, 3), (5, 4), (6, 0), (6, 1), (6, 2), (6, 3), (6, 4), (6, 5), (6, 6), (7, 10), (8, 0), (8, 1), (8, 2), (8, 3), (8, 4), (8, 5), (9, 1), (9, 7), (9, 8), (9, 9)] [(4, 2), (4, 5), (9, 2)] S T) ∧ (((v1 < 0 ∨ fI S v0 1 < v1 → fI T v0 1 = fI S v0 1) ∧ (0 ≤ v1 ∧ v1 ≤ fI S v0 1 → fI T v0 1 = 0))) ∧ K2 S T ∧ ((WCd S f t v1 v0 r T))) ∧ (WCe v0 rr w1 w2 S (RWo f t v1) T ∧ K8 S T)) (ry_X9_world hI P ht J (ml_X9_world (Q := fun r T => IV T ∧ Gr S T ∧ (FRI [(0, 0), (0, 2), (0, 3), (3, 0), (3, 1), (3, 2), (3, 3), (3, 4), (4, 0), (4, 1), (4, 3), (4, 4), (4, 6), (4, 7), (4, 9), (4, 10), (5, 0), (5, 1), (5, 2), (5, 3), (5, 4), (6, 0), (6, 1), (6, 2), (6, 3), (6, 4), (6, 5), (6, 6), (7, 10), (8, 0), (8, 1), (8, 2), (8, 3), (8, 4), (8, 5), (9, 1), (9, 7), (9, 8), (9, 9)] [(4, 2), (4, 5), (9, 2)] S T) ∧ (((v1 < 0 ∨ fI S v0 1 < v1 → fI T v0 1 = fI S v0 1) ∧ (0 ≤ v1 ∧ v1 ≤ fI S v0 1 → fI T v0 1 = 0))) ∧ K2 S T ∧ ((WCd S f t v1 v0 r T))) hI o_v0 P ht (fun r T h0 h1 h2 h3 h4 h5 => ⟨h0, h1, h2, h3, h4, h5⟩))) (kx_X9_world (ml_X9_world (Q := fun r T => IV T ∧ Gr S T ∧ (FRI [(0, 0), (0, 2), (0, 3), (3, 0), (3, 1), (3, 2), (3, 3), (3, 4), (4, 0), (4, 1), (4, 3), (4, 4), (4, 6), (4, 7), (4, 9), (4, 10), (5, 0), (5, 1), (5, 2), (5, 3), (5, 4), (6, 0), (6, 1), (6, 2), (6, 3), (6, 4), (6, 5), (6, 6), (7, 10), (8, 0), (8, 1), (8, 2), (8, 3), (8, 4), (8, 5), (9, 1), (9, 7), (9, 8), (9, 9)] [(4, 2), (4, 5), (9, 2)] S T) ∧ (((v1 < 0 ∨ fI S v0 1 < v1 → fI T v0 1 = fI S v0 1) ∧ (0 ≤ v1 ∧ v1 ≤ fI S v0 1 → fI T v0 1 = 0))) ∧ K2 S T ∧ ((WCd S f t v1 v0 r T))) hI o_v0 P ht (fun r T h0 h1 h2 h3 h4 h5 => ⟨h0, h1, h2, h3, h4, h5⟩))) (fun r T a b => ⟨a.1, a.2, b.2⟩)) (cm_X9_world (Q3 := fun r T => (IV T ∧ Gr S T ∧ (FRI [(0, 0), (0, 2), (0, 3), (3, 0), (3, 1), (3, 2), (3, 3), (3, 4), (4, 0), (4, 1), (4, 3), (4, 4), (4, 6), (4, 7), (4, 9), (4, 10), (5, 0), (5, 1), (5, 2), (5, 3), (5, 4), (6, 0), (6, 1), (6, 2), (6, 3), (6, 4), (6, 5), (6, 6), (7, 10), (8, 0), (8, 1), (8, 2), (8, 3), (8, 4), (8, 5), (9, 1), (9, 7), (9, 8), (9, 9)] [(4, 2), (4, 5), (9, 2)] S T) ∧ (((v1 < 0 ∨ fI S v0 1 < v1 → fI T v0 1 = fI S v0 1) ∧ (0 ≤ v1 ∧ v1 ≤ fI S v0 1 → fI T v0 1 = 0))) ∧ K2 S T ∧ ((WCd S f t v1 v0 r T))) ∧ (DwC v0 dy S r T ∧ (K9 false LA S T ∧ K9 true LB S T))) (dw_X9_world J.2.2.2.1 od (ml_X9_world (Q := fun r T => IV T ∧ Gr S T ∧ (FRI [(0, 0), (0, 2), (0, 3), (3, 0), (3, 1), (3, 2), (3, 3), (3, 4), (4, 0), (4, 1), (4, 3), (4, 4), (4, 6), (4, 7), (4, 9), (4, 10), (5, 0), (5, 1), (5, 2), (5, 3), (5, 4), (6, 0), (6, 1), (6, 2), (6, 3), (6, 4), (6, 5), (6, 6), (7, 10), (8, 0), (8, 1), (8, 2), (8, 3), (8, 4), (8, 5), (9, 1), (9, 7), (9, 8), (9, 9)] [(4, 2), (4, 5), (9, 2)] S T) ∧ (((v1 < 0 ∨ fI S v0 1 < v1 → fI T v0 1 = fI S v0 1) ∧ (0 ≤ v1 ∧ v1 ≤ fI S v0 1 → fI T v0 1 = 0))) ∧ K2 S T ∧ ((WCd S f t v1 v0 r T))) hI o_v0 P ht (fun r T h0 h1 h2 h3 h4 h5 => ⟨h0, h1, h2, h3, h4, h5⟩))) (cm_X9_world (Q3 := fun r T => (IV T ∧ Gr S T ∧ (FRI [(0, 0), (0, 2), (0, 3), (3, 0), (3, 1), (3, 2), (3, 3), (3, 4), (4, 0), (4, 1), (4, 3), (4, 4), (4, 6), (4, 7), (4, 9), (4, 10), (5, 0), (5, 1), (5, 2), (5, 3), (5, 4), (6, 0), (6, 1), (6, 2), (6, 3), (6, 4), (6, 5), (6, 6), (7, 10), (8, 0), (8, 1), (8, 2), (8, 3), (8, 4), (8, 5), (9, 1), (9, 7), (9, 8), (9, 9)] [(4, 2), (4, 5), (9, 2)] S T) ∧ (((v1 < 0 ∨ fI S v0 1 < v1 → fI T v0 1 = fI S v0 1) ∧ (0 ≤ v1 ∧ v1 ≤ fI S v0 1 → fI T v0 1 = 0))) ∧ K2 S T ∧ ((WCd S f t v1 v0 r T))) ∧ (K9 false LA S T ∧ K9 true LB S T)) (ky_X9_world (b := false) (L := LA) (by decide) (by decide) (fun _ => rfl) (ml_X9_world (Q := fun r T => IV T ∧ Gr S T ∧ (FRI [(0, 0), (0, 2), (0, 3), (3, 0), (3, 1), (3, 2), (3, 3), (3, 4), (4, 0), (4, 1), (4, 3), (4, 4), (4, 6), (4, 7), (4, 9), (4, 10), (5, 0), (5, 1), (5, 2), (5, 3), (5, 4), (6, 0), (6, 1), (6, 2), (6, 3), (6, 4), (6, 5), (6, 6), (7, 10), (8, 0), (8, 1), (8, 2), (8, 3), (8, 4), (8, 5), (9, 1), (9, 7), (9, 8), (9, 9)] [(4, 2), (4, 5), (9, 2)] S T) ∧ (((v1 < 0 ∨ fI S v0 1 < v1 → fI T v0 1 = fI S v0 1) ∧ (0 ≤ v1 ∧ v1 ≤ fI S v0 1 → fI T v0 1 = 0))) ∧ K2 S T ∧ ((WCd S f t v1 v0 r T))) hI o_v0 P ht (fun r T h0 h1 h2 h3 h4 h5 => ⟨h0, h1, h2, h3, h4, h5⟩))) (ky_X9_world (b := true) (L := LB) (by decide) (by decide) (fun z => z.elim) (ml_X9_world (Q := fun r T => IV T ∧ Gr S T ∧ (FRI [(0, 0), (0, 2), (0, 3), (3, 0), (3, 1), (3, 2), (3, 3), (3, 4), (4, 0), (4, 1), (4, 3), (4, 4), (4, 6), (4, 7), (4, 9), (4, 10), (5, 0), (5, 1), (5, 2), (5, 3), (5, 4), (6, 0), (6, 1), (6, 2), (6, 3), (6, 4), (6, 5), (6, 6), (7, 10), (8, 0), (8, 1), (8, 2), (8, 3), (8, 4), (8, 5), (9, 1), (9, 7), (9, 8), (9, 9)] [(4, 2), (4, 5), (9, 2)] S T) ∧ (((v1 < 0 ∨ fI S v0 1 < v1 → fI T v0 1 = fI S v0 1) ∧ (0 ≤ v1 ∧ v1 ≤ fI S v0 1 → fI T v0 1 = 0))) ∧ K2 S T ∧ ((WCd S f t v1 v0 r T))) hI o_v0 P ht (fun r T h0 h1 h2 h3 h4 h5 => ⟨h0, h1, h2, h3, h4, h5⟩))) (fun r T a b => ⟨a.1, a.2, b.2⟩)) (fun r T a b => ⟨a.1, a.2, b.2⟩)) (fun r T a b => ⟨a.1, a.2, b.2⟩)) (ml_X9_world (Q := fun r T => IV T ∧ Gr S T ∧ (FRI [(0, 0), (0, 2), (0, 3), (3, 0), (3, 1), (3, 2), (3, 3), (3, 4), (4, 0), (4, 1), (4, 3), (4, 4), (4, 6), (4, 7), (4, 9), (4, 10), (5, 0), (5, 1), (5, 2), (5, 3), (5, 4), (6, 0), (6, 1), (6, 2), (6, 3), (6, 4), (6, 5), (6, 6), (7, 10), (8, 0), (8, 1), (8, 2), (8, 3), (8, 4), (8, 5), (9, 1), (9, 7), (9, 8), (9, 9)] [(4, 2), (4, 5), (9, 2)] S T) ∧ (((v1 < 0 ∨ fI S v0 1 < v1 → fI T v0 1 = fI S v0 1) ∧ (0 ≤ v1 ∧ v1 ≤ fI S v0 1 → fI T v0 1 = 0))) ∧ K2 S T ∧ ((WCd S f t v1 v0 r T))) hI o_v0 P ht (fun r T h0 h1 h2 h3 h4 h5 => ⟨h0, h1, h2, h3, h4, h5⟩)) (fun r T h _ => hq r T h.1.1 h.1.2.1 h.1.2.2.1 h.1.2.2.2.1 h.1.2.2.2.2.1 h.1.2.2.2.2.2 h.2)
theorem my_X11_world {v0 : Nat} {v1 : Int32} {Q : Int32 → HS → Prop} {S : HS} (hI : IV S) (o_v0 : ob S v0 11) {f : Nat → Int32} {t a : Nat} (P : TP 5 6 f t a v0 S) (ht : t ≤ 900) (hB : ∀ j, j < t → -128 ≤ (f j).toInt ∧ (f j).toInt ≤ 127)  (hq : ∀ (r : Int32) (T : HS), IV T → Gr S T → FRI [(10, 0), (10, 1), (10, 2), (10, 3), (10, 4), (10, 5), (10, 6), (11, 0), (11, 1), (11, 2), (11, 6), (11, 7), (11, 8), (11, 9), (11, 10), (11, 11), (11, 12), (11, 13), (11, 14), (11, 19), (11, 24), (11, 25)] [(10, 7), (10, 8), (10, 9), (10, 10), (10, 11), (10, 12), (10, 13), (10, 14), (10, 15), (10, 16), (10, 17), (10, 18), (10, 19), (10, 20), (10, 21), (10, 22), (10, 23), (10, 24), (10, 25), (10, 26), (10, 27), (10, 28), (10, 29), (10, 30), (11, 3), (11, 4)] S T → ((v1 < 0 ∨ fI S v0 6 < v1 → fI T v0 6 = fI S v0 6) ∧ (0 ≤ v1 ∧ v1 ≤ fI S v0 6 → fI T v0 6 = 0)) → K2 S T → (WMd S f t v1 v0 r T) → (WMe v0 S (RWo f t v1) T ∧ DwM v0 S r T ∧ (K9 false LA S T ∧ K9 true LB S T)) → Q r T) : P_X11_world v0 v1 Q S := cm_X11_world (cm_X11_world (Q3 := fun r T => (IV T ∧ Gr S T ∧ (FRI [(10, 0), (10, 1), (10, 2), (10, 3), (10, 4), (10, 5), (10, 6), (11, 0), (11, 1), (11, 2), (11, 6), (11, 7), (11, 8), (11, 9), (11, 10), (11, 11), (11, 12), (11, 13), (11, 14), (11, 19), (11, 24), (11, 25)] [(10, 7), (10, 8), (10, 9), (10, 10), (10, 11), (10, 12), (10, 13), (10, 14), (10, 15), (10, 16), (10, 17), (10, 18), (10, 19), (10, 20), (10, 21), (10, 22), (10, 23), (10, 24), (10, 25), (10, 26), (10, 27), (10, 28), (10, 29), (10, 30), (11, 3), (11, 4)] S T) ∧ (((v1 < 0 ∨ fI S v0 6 < v1 → fI T v0 6 = fI S v0 6) ∧ (0 ≤ v1 ∧ v1 ≤ fI S v0 6 → fI T v0 6 = 0))) ∧ K2 S T ∧ ((WMd S f t v1 v0 r T))) ∧ WMe v0 S (RWo f t v1) T ∧ DwM v0 S r T ∧ (K9 false LA S T ∧ K9 true LB S T)) (ry_X11_world P ht hB (ml_X11_world (Q := fun r T => IV T ∧ Gr S T ∧ (FRI [(10, 0), (10, 1), (10, 2), (10, 3), (10, 4), (10, 5), (10, 6), (11, 0), (11, 1), (11, 2), (11, 6), (11, 7), (11, 8), (11, 9), (11, 10), (11, 11), (11, 12), (11, 13), (11, 14), (11, 19), (11, 24), (11, 25)] [(10, 7), (10, 8), (10, 9), (10, 10), (10, 11), (10, 12), (10, 13), (10, 14), (10, 15), (10, 16), (10, 17), (10, 18), (10, 19), (10, 20), (10, 21), (10, 22), (10, 23), (10, 24), (10, 25), (10, 26), (10, 27), (10, 28), (10, 29), (10, 30), (11, 3), (11, 4)] S T) ∧ (((v1 < 0 ∨ fI S v0 6 < v1 → fI T v0 6 = fI S v0 6) ∧ (0 ≤ v1 ∧ v1 ≤ fI S v0 6 → fI T v0 6 = 0))) ∧ K2 S T ∧ ((WMd S f t v1 v0 r T))) hI o_v0 P ht hB (fun r T h0 h1 h2 h3 h4 h5 => ⟨h0, h1, h2, h3, h4, h5⟩))) (cm_X11_world (Q3 := fun r T => (IV T ∧ Gr S T ∧ (FRI [(10, 0), (10, 1), (10, 2), (10, 3), (10, 4), (10, 5), (10, 6), (11, 0), (11, 1), (11, 2), (11, 6), (11, 7), (11, 8), (11, 9), (11, 10), (11, 11), (11, 12), (11, 13), (11, 14), (11, 19), (11, 24), (11, 25)] [(10, 7), (10, 8), (10, 9), (10, 10), (10, 11), (10, 12), (10, 13), (10, 14), (10, 15), (10, 16), (10, 17), (10, 18), (10, 19), (10, 20), (10, 21), (10, 22), (10, 23), (10, 24), (10, 25), (10, 26), (10, 27), (10, 28), (10, 29), (10, 30), (11, 3), (11, 4)] S T) ∧ (((v1 < 0 ∨ fI S v0 6 < v1 → fI T v0 6 = fI S v0 6) ∧ (0 ≤ v1 ∧ v1 ≤ fI S v0 6 → fI T v0 6 = 0))) ∧ K2 S T ∧ ((WMd S f t v1 v0 r T))) ∧ (DwM v0 S r T ∧ (K9 false LA S T ∧ K9 true LB S T))) (dw_X11_world o_v0 (ml_X11_world (Q := fun r T => IV T ∧ Gr S T ∧ (FRI [(10, 0), (10, 1), (10, 2), (10, 3), (10, 4), (10, 5), (10, 6), (11, 0), (11, 1), (11, 2), (11, 6), (11, 7), (11, 8), (11, 9), (11, 10), (11, 11), (11, 12), (11, 13), (11, 14), (11, 19), (11, 24), (11, 25)] [(10, 7), (10, 8), (10, 9), (10, 10), (10, 11), (10, 12), (10, 13), (10, 14), (10, 15), (10, 16), (10, 17), (10, 18), (10, 19), (10, 20), (10, 21), (10, 22), (10, 23), (10, 24), (10, 25), (10, 26), (10, 27), (10, 28), (10, 29), (10, 30), (11, 3), (11, 4)] S T) ∧ (((v1 < 0 ∨ fI S v0 6 < v1 → fI T v0 6 = fI S v0 6) ∧ (0 ≤ v1 ∧ v1 ≤ fI S v0 6 → fI T v0 6 = 0))) ∧ K2 S T ∧ ((WMd S f t v1 v0 r T))) hI o_v0 P ht hB (fun r T h0 h1 h2 h3 h4 h5 => ⟨h0, h1, h2, h3, h4, h5⟩))) (cm_X11_world (Q3 := fun r T => (IV T ∧ Gr S T ∧ (FRI [(10, 0), (10, 1), (10, 2), (10, 3), (10, 4), (10, 5), (10, 6), (11, 0), (11, 1), (11, 2), (11, 6), (11, 7), (11, 8), (11, 9), (11, 10), (11, 11), (11, 12), (11, 13), (11, 14), (11, 19), (11, 24), (11, 25)] [(10, 7), (10, 8), (10, 9), (10, 10), (10, 11), (10, 12), (10, 13), (10, 14), (10, 15), (10, 16), (10, 17), (10, 18), (10, 19), (10, 20), (10, 21), (10, 22), (10, 23), (10, 24), (10, 25), (10, 26), (10, 27), (10, 28), (10, 29), (10, 30), (11, 3), (11, 4)] S T) ∧ (((v1 < 0 ∨ fI S v0 6 < v1 → fI T v0 6 = fI S v0 6) ∧ (0 ≤ v1 ∧ v1 ≤ fI S v0 6 → fI T v0 6 = 0))) ∧ K2 S T ∧ ((WMd S f t v1 v0 r T))) ∧ (K9 false LA S T ∧ K9 true LB S T)) (ky_X11_world (b := false) (L := LA) (by decide) (by decide) (fun _ => rfl) (ml_X11_world (Q := fun r T => IV T ∧ Gr S T ∧ (FRI [(10, 0), (10, 1), (10, 2), (10, 3), (10, 4), (10, 5), (10, 6), (11, 0), (11, 1), (11, 2), (11, 6), (11, 7), (11, 8), (11, 9), (11, 10), (11, 11), (11, 12), (11, 13), (11, 14), (11, 19), (11, 24), (11, 25)] [(10, 7), (10, 8), (10, 9), (10, 10), (10, 11), (10, 12), (10, 13), (10, 14), (10, 15), (10, 16), (10, 17), (10, 18), (10, 19), (10, 20), (10, 21), (10, 22), (10, 23), (10, 24), (10, 25), (10, 26), (10, 27), (10, 28), (10, 29), (10, 30), (11, 3), (11, 4)] S T) ∧ (((v1 < 0 ∨ fI S v0 6 < v1 → fI T v0 6 = fI S v0 6) ∧ (0 ≤ v1 ∧ v1 ≤ fI S v0 6 → fI T v0 6 = 0))) ∧ K2 S T ∧ ((WMd S f t v1 v0 r T))) hI o_v0 P ht hB (fun r T h0 h1 h2 h3 h4 h5 => ⟨h0, h1, h2, h3, h4, h5⟩))) (ky_X11_world (b := true) (L := LB) (by decide) (by decide) (fun z => z.elim) (ml_X11_world (Q := fun r T => IV T ∧ Gr S T ∧ (FRI [(10, 0), (10, 1), (10, 2), (10, 3), (10, 4), (10, 5), (10, 6), (11, 0), (11, 1), (11, 2), (11, 6), (11, 7), (11, 8), (11, 9), (11, 10), (11, 11), (11, 12), (11, 13), (11, 14), (11, 19), (11, 24), (11, 25)] [(10, 7), (10, 8), (10, 9), (10, 10), (10, 11), (10, 12), (10, 13), (10, 14), (10, 15), (10, 16), (10, 17), (10, 18), (10, 19), (10, 20), (10, 21), (10, 22), (10, 23), (10, 24), (10, 25), (10, 26), (10, 27), (10, 28), (10, 29), (10, 30), (11, 3), (11, 4)] S T) ∧ (((v1 < 0 ∨ fI S v0 6 < v1 → fI T v0 6 = fI S v0 6) ∧ (0 ≤ v1 ∧ v1 ≤ fI S v0 6 → fI T v0 6 = 0))) ∧ K2 S T ∧ ((WMd S f t v1 v0 r T))) hI o_v0 P ht hB (fun r T h0 h1 h2 h3 h4 h5 => ⟨h0, h1, h2, h3, h4, h5⟩))) (fun r T a b => ⟨a.1, a.2, b.2⟩)) (fun r T a b => ⟨a.1, a.2, b.2⟩)) (fun r T a b => ⟨a.1, a.2, b.2⟩)) (ml_X11_world (Q := fun r T => IV T ∧ Gr S T ∧ (FRI [(10, 0), (10, 1), (10, 2), (10, 3), (10, 4), (10, 5), (10, 6), (11, 0), (11, 1), (11, 2), (11, 6), (11, 7), (11, 8), (11, 9), (11, 10), (11, 11), (11, 12), (11, 13), (11, 14), (11, 19), (11, 24), (11, 25)] [(10, 7), (10, 8), (10, 9), (10, 10), (10, 11), (10, 12), (10, 13), (10, 14), (10, 15), (10, 16), (10, 17), (10, 18), (10, 19), (10, 20), (10, 21), (10, 22), (10, 23), (10, 24), (10, 25), (10, 26), (10, 27), (10, 28), (10, 29), (10, 30), (11, 3), (11, 4)] S T) ∧ (((v1 < 0 ∨ fI S v0 6 < v1 → fI T v0 6 = fI S v0 6) ∧ (0 ≤ v1 ∧ v1 ≤ fI S v0 6 → fI T v0 6 = 0))) ∧ K2 S T ∧ ((WMd S f t v1 v0 r T))) hI o_v0 P ht hB (fun r T h0 h1 h2 h3 h4 h5 => ⟨h0, h1, h2, h3, h4, h5⟩)) (fun r T h _ => hq r T h.1.1 h.1.2.1 h.1.2.2.1 h.1.2.2.2.1 h.1.2.2.2.2.1 h.1.2.2.2.2.2 h.2)
end
section
/-! THE CLAIM OUT OF ONE WALK OF THE LAW'S BODY. Your part is whole_start (and what it stands on); all else here is the same for every law, but numbers. -/
def R_law : String := "RainWalkLaw"
def lw_P (b : Addr) (xs : List Int32) (args : Array Value) (s : State) : Prop := args = #[.ref b] ∧ s.IntsAt b xs ∧ xs.length ≤ 4096 ∧ (Jvm.Cond.and given_1 narrow_1).before args s = true
def lw_Q (_ : Array Value) (s : State) (o : Outcome) (t : State) : Prop := o = .returned (some (.int 1)) ∧ Framed s o t [] 601024 7293034
def lw_Z (below : List Frame) (a : Array Value) (s : State) : State → Prop := fun t => ∃ o, t.status = .running ∧ Ended t below o ∧ lw_Q a s o t
/-- the law's own end, with 1 on the stack, nothing written that was there before, its room as the claim has it -/
theorem lw_ret {p : Program} {l : Launch} {e : Env} {s : State} {m : MethodId} {below : List Frame} {meth : Method} {c : Code} {b : Nat} (hx : p.tables.exec = Jvm.exec) (hb : c.code = code) (hr : meth.sig.returnType = ret) (hlocks : meth.locks = false) {pc : Nat} {H : Heap} {ls : Array Slot} (hdg : decode code pc = .ok (.ireturn, 1)) : W p l e room_1 s m #[Value.ref b] below meth c H [] 601024 7293034 (lw_Z below #[Value.ref b] s) (F0 m pc ls [.int 1]) := by
  intro T hT X
  obtain ⟨fs, hret, hrun, hended, hW, hframe⟩ := X.leave (v := some (.int 1)) (hlocks := hlocks) (fun h => by rw [hr] at h; cases h)
  have hmeth' : T.vm.method? m = some meth := X.method'
  refine ⟨T.setFrames fs, ?_, .returned (some (.int 1)), hrun, hended, rfl, ⟨_, rfl⟩, hW, hframe⟩
  jvm_step X.here [X.here.top, hx, hb, hdg, hmeth', hr, ret, narrow_b1]
  (try refine ⟨rfl, ?_⟩); (try refine ⟨rfl, ?_⟩)
  first | (intro acts; rw [hret _ acts rfl rfl rfl]) | rw [hret _ _ rfl rfl rfl]
  exact Steps.refl _
/-- what holds at the law's entry: the machine, the code, the tables' words (any of lw_tbl by 'hts w (by decide +kernel)'), the script of L ints xs at the cell b, what the Statement gives of the start (any of its parts by flat_of_before) -/
def lw_At (p : Program) (s : State) (m : MethodId) (meth : Method) (c : Code) (b L : Nat) (xs : Nat → Int32) : Prop :=
  p.tables.exec = Jvm.exec ∧ c.code = code ∧ meth.sig.returnType = ret ∧ c.maxLocals = 7 ∧ s.vm.findClass R_law = some m.cls ∧ (∀ w ∈ lw_tbl, w.before #[Value.ref b] s = true) ∧ va_X b L xs s s.heap ∧ b < s.heap.size ∧ meth.locks = false ∧ (Jvm.Cond.and given_1 narrow_1).before #[Value.ref b] s = true
end
section
abbrev rm_L_law : Room := room_1
/-- led of the law: it answers, or catches what the class throws; the day and all else stay -/
def P_L_led (v0 : Nat) (v1 : Int32) (v2 : Nat) (Q : Int32 → HS → Prop) (S : HS) : Prop := IV S ∧ ob S v0 9 ∧ ob S v2 14 ∧ hN S v2 = 1 ∧ ∀ (r : Int32) (T : HS), IV T → Gr S T → FRI [] [] S T → K2 S T → K7 S T → K8 S T → LDx v2 S T → Q r T
/-- what is still open: the call of led out of the law -/
def LD (X : CX) : Prop := ∀ (k n pc : Nat) (lv : List (Nat × Value)) (rest : List Value) (S : HS) (v0 : Nat) (v1 : Int32) (v2 i : Nat) (Q : Int32 → HS → Prop), k + 2 ≤ rm_L_law.cells → n + 32 ≤ rm_L_law.slots → decode cL_law pc = .ok (.invokestatic i, 3) → Cond.methodLink RL i yL_led ∈ G → (rest.map fun v => v.category).sum ≤ 8 → P_L_led v0 v1 v2 Q S → (∀ (r : Int32) (T : HS), Q r T → Gr S T → WS X 7 (k + 2) (n + 32) (pc + 3) lv (.int r :: rest) T) → WS X 7 k n pc lv (.ref v2 :: .int v1 :: .ref v0 :: rest) S
def LE (X : CX) (scb scL : Nat) (scx : Nat → Int32) (_ : Int32 → HS → Prop) : Prop := xQ X = lw_Z (xb X) (xa X) (xs X) ∧ xa X = #[Value.ref scb] ∧ (xh X).sig.returnType = ret ∧ (xh X).locks = false ∧ va_X scb scL scx (xs X) (xs X).heap ∧ scb < (xs X).heap.size ∧ ¬ xA X scb ∧ (∀ q, xA X q → (xs X).heap.size ≤ q)
section LawRows
variable {X : CX} {nL k n pc scb scL : Nat} {scx : Nat → Int32} {lv : List (Nat × Value)} {st : List Value} {S : HS} {Q : Int32 → HS → Prop}
theorem r_scLen (C : Cx X cL_law RL 7 rm_L_law) (E : LE X scb scL scx Q) (hd : decode cL_law pc = .ok (.arraylength, 1)) (h : WS X 7 k n (pc + 1) lv (.int (nI scL) :: st) S) : WS X 7 k n pc lv (.ref scb :: st) S := fun H locs ls hP hD hS hG hv => va_slen C.1 C.2.1 E.2.2.2.2.1 E.2.2.2.2.2.1 E.2.2.2.2.2.2.1 hS hd (h H locs ls hP hD hS hG hv)
theorem r_scLd (C : Cx X cL_law RL 7 rm_L_law) (E : LE X scb scL scx Q) {i : Int32} (hi : vp_in i scL) (hd : decode cL_law pc = .ok (.iaload, 1)) (h : WS X 7 k n (pc + 1) lv (.int (scx i.toNatClampNeg) :: st) S) : WS X 7 k n pc lv (.int i :: .ref scb :: st) S := fun H locs ls hP hD hS hG hv => va_sld C.1 C.2.1 E.2.2.2.2.1 E.2.2.2.2.2.1 E.2.2.2.2.2.2.1 hS hi hd (h H locs ls hP hD hS hG hv)
theorem r_lawret (C : Cx X cL_law RL 7 rm_L_law) (E : LE X scb scL scx Q) {v : Int32} (hd : decode cL_law pc = .ok (.ireturn, 1)) (h1 : k ≤ rm_L_law.cells) (h2 : n ≤ rm_L_law.slots) (he : v = 1) : WS X 7 k n pc lv [.int v] S := fun H locs ls hP hD hS hG hv => by
  subst he
  obtain ⟨e1, e2, e3, e4, -, -, -, e8⟩ := E
  rw [e1, e2, C.2.2.2.2.2.2.2]
  refine va_forget (fun q hq => e8 _ (hS.2.2 q hq)) ?_
  refine W.widen h1 h2 ?_
  exact lw_ret C.1 C.2.1 e3 e4 hd
end LawRows
theorem nc_L_16 : NC RL 16 11 26 := ⟨_, _, tyX11, rfl, by decide, g_1157, g_1158, g_11, tyX11_ok, by decide +kernel⟩
theorem nc_L_8 : NC RL 8 9 10 := ⟨_, _, tyX9, rfl, by decide, g_22, g_23, g_1, tyX9_ok, by decide +kernel⟩
theorem yI_X11_init : YI yX11_init cX11_init 1 0 := ⟨g_1160, g_11, g_1161, rfl, by decide, by decide, by decide +kernel⟩
theorem yI_X9_init : YI yX9_init cX9_init 1 0 := ⟨g_25, g_1, g_26, rfl, by decide, by decide, by decide +kernel⟩
theorem yV_X11_air : YV yX11_air cX11_air 4 (some .int) 11 3 := ⟨⟨_, rfl, rfl⟩, by decide, g_1612, g_1613, g_11, g_1614, by decide, by decide, by decide +kernel⟩
theorem yV_X11_back : YV yX11_back cX11_back 3 (some .boolean) 11 1 := ⟨⟨_, rfl, rfl⟩, by decide, g_1833, g_1834, g_11, g_1835, by decide, by decide, by decide +kernel⟩
theorem yV_X11_best : YV yX11_best cX11_best 5 (some .int) 11 4 := ⟨⟨_, rfl, rfl⟩, by decide, g_1624, g_1625, g_11, g_1626, by decide, by decide, by decide +kernel⟩
theorem yV_X11_day : YV yX11_day cX11_day 7 (some .int) 11 4 := ⟨⟨_, rfl, rfl⟩, by decide, g_1768, g_1769, g_11, g_1770, by decide, by decide, by decide +kernel⟩
theorem yV_X11_driest : YV yX11_driest cX11_driest 10 (some .int) 11 3 := ⟨⟨_, rfl, rfl⟩, by decide, g_1652, g_1653, g_11, g_1654, by decide, by decide, by decide +kernel⟩
theorem yV_X11_even : YV yX11_even cX11_even 7 (some .int) 11 4 := ⟨⟨_, rfl, rfl⟩, by decide, g_1640, g_1641, g_11, g_1642, by decide, by decide, by decide +kernel⟩
theorem yV_X11_face : YV yX11_face cX11_face 9 (some .long) 11 7 := ⟨⟨_, rfl, rfl⟩, by decide, g_1531, g_1532, g_11, g_1533, by decide, by decide, by decide +kernel⟩
theorem yV_X11_fault : YV yX11_fault cX11_fault 1 (some .int) 11 0 := ⟨⟨_, rfl, rfl⟩, by decide, g_1523, g_1524, g_11, g_1525, by decide, by decide, by decide +kernel⟩
theorem yV_X11_feed : YV yX11_feed cX11_feed 8 (some .int) 11 5 := ⟨⟨_, rfl, rfl⟩, by decide, g_1243, g_1244, g_11, g_1245, by decide, by decide, by decide +kernel⟩
theorem yV_X11_first : YV yX11_first cX11_first 12 (some .int) 11 6 := ⟨⟨_, rfl, rfl⟩, by decide, g_1668, g_1669, g_11, g_1670, by decide, by decide, by decide +kernel⟩
theorem yV_X11_fit : YV yX11_fit cX11_fit 4 (some .int) 11 2 := ⟨⟨_, rfl, rfl⟩, by decide, g_1760, g_1761, g_11, g_1762, by decide, by decide, by decide +kernel⟩
theorem yV_X11_fits : YV yX11_fits cX11_fits 2 (some .int) 11 1 := ⟨⟨_, rfl, rfl⟩, by decide, g_1748, g_1749, g_11, g_1750, by decide, by decide, by decide +kernel⟩
theorem yV_X11_go : YV yX11_go cX11_go 6 (some .int) 11 3 := ⟨⟨_, rfl, rfl⟩, by decide, g_1776, g_1777, g_11, g_1778, by decide, by decide, by decide +kernel⟩
theorem yV_X11_got : YV yX11_got cX11_got 3 (some .long) 11 2 := ⟨⟨_, rfl, rfl⟩, by decide, g_1805, g_1806, g_11, g_1807, by decide, by decide, by decide +kernel⟩
theorem yV_X11_held : YV yX11_held cX11_held 7 (some .int) 11 5 := ⟨⟨_, rfl, rfl⟩, by decide, g_1620, g_1621, g_11, g_1622, by decide, by decide, by decide +kernel⟩
theorem yV_X11_least : YV yX11_least cX11_least 8 (some .long) 11 6 := ⟨⟨_, rfl, rfl⟩, by decide, g_1672, g_1673, g_11, g_1674, by decide, by decide, by decide +kernel⟩
theorem yV_X11_led : YV yX11_led cX11_led 4 (some .int) 11 1 := ⟨⟨_, rfl, rfl⟩, by decide, g_1845, g_1846, g_11, g_1847, by decide, by decide, by decide +kernel⟩
theorem yV_X11_lee : YV yX11_lee cX11_lee 9 (some .long) 11 7 := ⟨⟨_, rfl, rfl⟩, by decide, g_1656, g_1657, g_11, g_1658, by decide, by decide, by decide +kernel⟩
theorem yV_X11_lies : YV yX11_lies cX11_lies 3 (some .int) 11 0 := ⟨⟨_, rfl, rfl⟩, by decide, g_1764, g_1765, g_11, g_1766, by decide, by decide, by decide +kernel⟩
theorem yV_X11_mark : YV yX11_mark cX11_mark 2 (some .int) 11 0 := ⟨⟨_, rfl, rfl⟩, by decide, g_1829, g_1830, g_11, g_1831, by decide, by decide, by decide +kernel⟩
theorem yV_X11_mean : YV yX11_mean cX11_mean 8 (some .long) 11 6 := ⟨⟨_, rfl, rfl⟩, by decide, g_1599, g_1600, g_11, g_1601, by decide, by decide, by decide +kernel⟩
theorem yV_X11_minutes : YV yX11_minutes cX11_minutes 4 (some .int) 11 3 := ⟨⟨_, rfl, rfl⟩, by decide, g_1604, g_1605, g_11, g_1606, by decide, by decide, by decide +kernel⟩
theorem yV_X11_off : YV yX11_off cX11_off 7 (some .int) 11 4 := ⟨⟨_, rfl, rfl⟩, by decide, g_1744, g_1745, g_11, g_1746, by decide, by decide, by decide +kernel⟩
theorem yV_X11_road : YV yX11_road cX11_road 3 (some .int) 11 2 := ⟨⟨_, rfl, rfl⟩, by decide, g_1841, g_1842, g_11, g_1843, by decide, by decide, by decide +kernel⟩
theorem yV_X11_round : YV yX11_round cX11_round 5 (some .long) 11 4 := ⟨⟨_, rfl, rfl⟩, by decide, g_1644, g_1645, g_11, g_1646, by decide, by decide, by decide +kernel⟩
theorem yV_X11_saves : YV yX11_saves cX11_saves 6 (some .long) 11 5 := ⟨⟨_, rfl, rfl⟩, by decide, g_1632, g_1633, g_11, g_1634, by decide, by decide, by decide +kernel⟩
theorem yV_X11_size : YV yX11_size cX11_size 2 (some .int) 11 1 := ⟨⟨_, rfl, rfl⟩, by decide, g_1849, g_1850, g_11, g_1851, by decide, by decide, by decide +kernel⟩
theorem yV_X11_soaked : YV yX11_soaked cX11_soaked 1 (some .int) 11 0 := ⟨⟨_, rfl, rfl⟩, by decide, g_1821, g_1822, g_11, g_1823, by decide, by decide, by decide +kernel⟩
theorem yV_X11_stay : YV yX11_stay cX11_stay 4 (some .boolean) 11 1 := ⟨⟨_, rfl, rfl⟩, by decide, g_1792, g_1793, g_11, g_1794, by decide, by decide, by decide +kernel⟩
theorem yV_X11_step : YV yX11_step cX11_step 9 (some .int) 11 6 := ⟨⟨_, rfl, rfl⟩, by decide, g_1740, g_1741, g_11, g_1742, by decide, by decide, by decide +kernel⟩
theorem yV_X11_steps : YV yX11_steps cX11_steps 7 (some .int) 11 5 := ⟨⟨_, rfl, rfl⟩, by decide, g_1732, g_1733, g_11, g_1734, by decide, by decide, by decide +kernel⟩
theorem yV_X11_there : YV yX11_there cX11_there 7 (some .int) 11 5 := ⟨⟨_, rfl, rfl⟩, by decide, g_1728, g_1729, g_11, g_1730, by decide, by decide, by decide +kernel⟩
theorem yV_X11_trouble : YV yX11_trouble cX11_trouble 1 (some .int) 11 0 := ⟨⟨_, rfl, rfl⟩, by decide, g_1853, g_1854, g_11, g_1855, by decide, by decide, by decide +kernel⟩
theorem yV_X11_undo : YV yX11_undo cX11_undo 2 (some .boolean) 11 0 := ⟨⟨_, rfl, rfl⟩, by decide, g_1825, g_1826, g_11, g_1827, by decide, by decide, by decide +kernel⟩
theorem yV_X11_walker : YV yX11_walker cX11_walker 3 (some .int) 11 2 := ⟨⟨_, rfl, rfl⟩, by decide, g_1837, g_1838, g_11, g_1839, by decide, by decide, by decide +kernel⟩
theorem yV_X11_wet : YV yX11_wet cX11_wet 8 (some .long) 11 6 := ⟨⟨_, rfl, rfl⟩, by decide, g_1591, g_1592, g_11, g_1593, by decide, by decide, by decide +kernel⟩
theorem yV_X11_wetness : YV yX11_wetness cX11_wetness 4 (some .long) 11 1 := ⟨⟨_, rfl, rfl⟩, by decide, g_1809, g_1810, g_11, g_1811, by decide, by decide, by decide +kernel⟩
theorem yV_X11_where : YV yX11_where cX11_where 1 (some .int) 11 0 := ⟨⟨_, rfl, rfl⟩, by decide, g_1527, g_1528, g_11, g_1529, by decide, by decide, by decide +kernel⟩
theorem yV_X11_world : YV yX11_world cX11_world 2 (some .int) 11 1 := ⟨⟨_, rfl, rfl⟩, by decide, g_1247, g_1248, g_11, g_1249, by decide, by decide, by decide +kernel⟩
theorem yV_X11_worst : YV yX11_worst cX11_worst 7 (some .int) 11 4 := ⟨⟨_, rfl, rfl⟩, by decide, g_1636, g_1637, g_11, g_1638, by decide, by decide, by decide +kernel⟩
theorem yV_X9_air : YV yX9_air cX9_air 4 (some .int) 9 3 := ⟨⟨_, rfl, rfl⟩, by decide, g_746, g_747, g_1, g_748, by decide, by decide, by decide +kernel⟩
theorem yV_X9_back : YV yX9_back cX9_back 2 (some .boolean) 9 1 := ⟨⟨_, rfl, rfl⟩, by decide, g_1053, g_1054, g_1, g_1055, by decide, by decide, by decide +kernel⟩
theorem yV_X9_best : YV yX9_best cX9_best 5 (some .int) 9 4 := ⟨⟨_, rfl, rfl⟩, by decide, g_757, g_758, g_1, g_759, by decide, by decide, by decide +kernel⟩
theorem yV_X9_day : YV yX9_day cX9_day 5 (some .int) 9 4 := ⟨⟨_, rfl, rfl⟩, by decide, g_963, g_964, g_1, g_965, by decide, by decide, by decide +kernel⟩
theorem yV_X9_driest : YV yX9_driest cX9_driest 11 (some .int) 9 3 := ⟨⟨_, rfl, rfl⟩, by decide, g_793, g_794, g_1, g_795, by decide, by decide, by decide +kernel⟩
theorem yV_X9_even : YV yX9_even cX9_even 9 (some .int) 9 4 := ⟨⟨_, rfl, rfl⟩, by decide, g_785, g_786, g_1, g_787, by decide, by decide, by decide +kernel⟩
theorem yV_X9_face : YV yX9_face cX9_face 9 (some .long) 9 7 := ⟨⟨_, rfl, rfl⟩, by decide, g_650, g_651, g_1, g_652, by decide, by decide, by decide +kernel⟩
theorem yV_X9_fault : YV yX9_fault cX9_fault 1 (some .int) 9 0 := ⟨⟨_, rfl, rfl⟩, by decide, g_642, g_643, g_1, g_644, by decide, by decide, by decide +kernel⟩
theorem yV_X9_feed : YV yX9_feed cX9_feed 6 (some .int) 9 5 := ⟨⟨_, rfl, rfl⟩, by decide, g_419, g_420, g_1, g_421, by decide, by decide, by decide +kernel⟩
theorem yV_X9_first : YV yX9_first cX9_first 11 (some .int) 9 6 := ⟨⟨_, rfl, rfl⟩, by decide, g_810, g_811, g_1, g_812, by decide, by decide, by decide +kernel⟩
theorem yV_X9_fit : YV yX9_fit cX9_fit 4 (some .int) 9 2 := ⟨⟨_, rfl, rfl⟩, by decide, g_950, g_951, g_1, g_952, by decide, by decide, by decide +kernel⟩
theorem yV_X9_fits : YV yX9_fits cX9_fits 2 (some .int) 9 1 := ⟨⟨_, rfl, rfl⟩, by decide, g_926, g_927, g_1, g_928, by decide, by decide, by decide +kernel⟩
theorem yV_X9_go : YV yX9_go cX9_go 8 (some .int) 9 3 := ⟨⟨_, rfl, rfl⟩, by decide, g_978, g_979, g_1, g_980, by decide, by decide, by decide +kernel⟩
theorem yV_X9_got : YV yX9_got cX9_got 3 (some .long) 9 2 := ⟨⟨_, rfl, rfl⟩, by decide, g_1015, g_1016, g_1, g_1017, by decide, by decide, by decide +kernel⟩
theorem yV_X9_held : YV yX9_held cX9_held 6 (some .int) 9 5 := ⟨⟨_, rfl, rfl⟩, by decide, g_751, g_752, g_1, g_753, by decide, by decide, by decide +kernel⟩
theorem yV_X9_least : YV yX9_least cX9_least 7 (some .long) 9 6 := ⟨⟨_, rfl, rfl⟩, by decide, g_814, g_815, g_1, g_816, by decide, by decide, by decide +kernel⟩
theorem yV_X9_lee : YV yX9_lee cX9_lee 8 (some .long) 9 7 := ⟨⟨_, rfl, rfl⟩, by decide, g_798, g_799, g_1, g_800, by decide, by decide, by decide +kernel⟩
theorem yV_X9_lies : YV yX9_lies cX9_lies 3 (some .int) 9 0 := ⟨⟨_, rfl, rfl⟩, by decide, g_958, g_959, g_1, g_960, by decide, by decide, by decide +kernel⟩
theorem yV_X9_mark : YV yX9_mark cX9_mark 2 (some .int) 9 0 := ⟨⟨_, rfl, rfl⟩, by decide, g_1045, g_1046, g_1, g_1047, by decide, by decide, by decide +kernel⟩
theorem yV_X9_mean : YV yX9_mean cX9_mean 9 (some .long) 9 6 := ⟨⟨_, rfl, rfl⟩, by decide, g_733, g_734, g_1, g_735, by decide, by decide, by decide +kernel⟩
theorem yV_X9_minutes : YV yX9_minutes cX9_minutes 4 (some .int) 9 3 := ⟨⟨_, rfl, rfl⟩, by decide, g_738, g_739, g_1, g_740, by decide, by decide, by decide +kernel⟩
theorem yV_X9_off : YV yX9_off cX9_off 9 (some .int) 9 4 := ⟨⟨_, rfl, rfl⟩, by decide, g_922, g_923, g_1, g_924, by decide, by decide, by decide +kernel⟩
theorem yV_X9_road : YV yX9_road cX9_road 3 (some .int) 9 2 := ⟨⟨_, rfl, rfl⟩, by decide, g_1069, g_1070, g_1, g_1071, by decide, by decide, by decide +kernel⟩
theorem yV_X9_round : YV yX9_round cX9_round 9 (some .long) 9 4 := ⟨⟨_, rfl, rfl⟩, by decide, g_789, g_790, g_1, g_791, by decide, by decide, by decide +kernel⟩
theorem yV_X9_saves : YV yX9_saves cX9_saves 9 (some .long) 9 5 := ⟨⟨_, rfl, rfl⟩, by decide, g_767, g_768, g_1, g_769, by decide, by decide, by decide +kernel⟩
theorem yV_X9_size : YV yX9_size cX9_size 2 (some .int) 9 1 := ⟨⟨_, rfl, rfl⟩, by decide, g_1077, g_1078, g_1, g_1079, by decide, by decide, by decide +kernel⟩
theorem yV_X9_soaked : YV yX9_soaked cX9_soaked 2 (some .int) 9 0 := ⟨⟨_, rfl, rfl⟩, by decide, g_1033, g_1034, g_1, g_1035, by decide, by decide, by decide +kernel⟩
theorem yV_X9_stay : YV yX9_stay cX9_stay 5 (some .boolean) 9 1 := ⟨⟨_, rfl, rfl⟩, by decide, g_1005, g_1006, g_1, g_1007, by decide, by decide, by decide +kernel⟩
theorem yV_X9_step : YV yX9_step cX9_step 8 (some .int) 9 6 := ⟨⟨_, rfl, rfl⟩, by decide, g_918, g_919, g_1, g_920, by decide, by decide, by decide +kernel⟩
theorem yV_X9_steps : YV yX9_steps cX9_steps 6 (some .int) 9 5 := ⟨⟨_, rfl, rfl⟩, by decide, g_909, g_910, g_1, g_911, by decide, by decide, by decide +kernel⟩
theorem yV_X9_there : YV yX9_there cX9_there 6 (some .int) 9 5 := ⟨⟨_, rfl, rfl⟩, by decide, g_901, g_902, g_1, g_903, by decide, by decide, by decide +kernel⟩
theorem yV_X9_trouble : YV yX9_trouble cX9_trouble 1 (some .int) 9 0 := ⟨⟨_, rfl, rfl⟩, by decide, g_1081, g_1082, g_1, g_1083, by decide, by decide, by decide +kernel⟩
theorem yV_X9_undo : YV yX9_undo cX9_undo 1 (some .boolean) 9 0 := ⟨⟨_, rfl, rfl⟩, by decide, g_1037, g_1038, g_1, g_1039, by decide, by decide, by decide +kernel⟩
theorem yV_X9_walker : YV yX9_walker cX9_walker 3 (some .int) 9 2 := ⟨⟨_, rfl, rfl⟩, by decide, g_1061, g_1062, g_1, g_1063, by decide, by decide, by decide +kernel⟩
theorem yV_X9_wet : YV yX9_wet cX9_wet 7 (some .long) 9 6 := ⟨⟨_, rfl, rfl⟩, by decide, g_729, g_730, g_1, g_731, by decide, by decide, by decide +kernel⟩
theorem yV_X9_wetness : YV yX9_wetness cX9_wetness 4 (some .long) 9 1 := ⟨⟨_, rfl, rfl⟩, by decide, g_1019, g_1020, g_1, g_1021, by decide, by decide, by decide +kernel⟩
theorem yV_X9_where : YV yX9_where cX9_where 1 (some .int) 9 0 := ⟨⟨_, rfl, rfl⟩, by decide, g_646, g_647, g_1, g_648, by decide, by decide, by decide +kernel⟩
theorem yV_X9_world : YV yX9_world cX9_world 3 (some .int) 9 1 := ⟨⟨_, rfl, rfl⟩, by decide, g_427, g_428, g_1, g_429, by decide, by decide, by decide +kernel⟩
theorem yV_X9_worst : YV yX9_worst cX9_worst 5 (some .int) 9 4 := ⟨⟨_, rfl, rfl⟩, by decide, g_776, g_777, g_1, g_778, by decide, by decide, by decide +kernel⟩
end
section
def P_L_law_2341 (scL : Nat) (scx : Nat → Int32) (Q : Int32 → HS → Prop) (X23 : Nat → Nat → Nat → Int32 → Nat → Nat → HS → Prop) (v1 : Nat) (v2 : Nat) (v3 : Nat) (v4 : Int32) (kk : Nat) (nn : Nat) (S : HS) : Prop := ∀ x1 : Int32, x1 = v4 + (8 : Int32) → (X23 v1 v2 v3 x1 kk nn S)
set_option maxRecDepth 20000 in
set_option maxHeartbeats 4000000 in
theorem T_L_law_2341 {X : CX} {Q : Int32 → HS → Prop} {scb scL : Nat} {scx : Nat → Int32} (C : Cx X cL_law RL 7 rm_L_law) (E : LE X scb scL scx Q) (ht : LD X) (hn : True) {X23 : Nat → Nat → Nat → Int32 → Nat → Nat → HS → Prop} (hX23 : ∀ (v1 : Nat) (v2 : Nat) (v3 : Nat) (v4 : Int32) (kk : Nat) (nn : Nat) (S : HS), X23 v1 v2 v3 v4 kk nn S → WS X 7 kk nn 23 [(0, .ref scb), (1, .ref v1), (2, .ref v2), (3, .ref v3), (4, .int v4)] [] S) {v1 : Nat} {v2 : Nat} {v3 : Nat} {v4 : Int32} {kk : Nat} {nn : Nat} {S : HS} (h : P_L_law_2341 scL scx Q X23 v1 v2 v3 v4 kk nn S) : WS X 7 kk nn 2341 [(0, .ref scb), (1, .ref v1), (2, .ref v2), (3, .ref v3), (4, .int v4)] [] S := by
  obtain ⟨x1, ex1⟩ : ∃ z : Int32, z = v4 + (8 : Int32) := ⟨_, rfl⟩
  have h := h x1 ex1
  refine r_iinc (pc := 2341) C (v := x1) (lv' := [(4, .int x1), (0, .ref scb), (1, .ref v1), (2, .ref v2), (3, .ref v3)]) dL_law_2341 4 rfl ex1.symm (by decide) rfl ?_
  refine r_goto (pc := 2344) C (tgt := 23) dL_law_2344 (by decide) ?_
  exact r_sub [1, 2, 3, 4, 0] rfl (hX23 v1 v2 v3 x1 kk nn S h)
def P_L_law_216 (scL : Nat) (scx : Nat → Int32) (Q : Int32 → HS → Prop) (X23 : Nat → Nat → Nat → Int32 → Nat → Nat → HS → Prop) (v1 : Nat) (v2 : Nat) (v3 : Nat) (v4 : Int32) (kk : Nat) (nn : Nat) (S : HS) : Prop := ∀ x1 : Int32, x1 = v4 + (1 : Int32) → (vp_in x1 scL ∧ ∀ x3 : Int32, x3 = scx x1.toNatClampNeg → (∀ x4 : Int32, x4 = v4 + (2 : Int32) → (vp_in x4 scL ∧ ∀ x6 : Int32, x6 = scx x4.toNatClampNeg → (∀ x7 : Int32, x7 = v4 + (3 : Int32) → (vp_in x7 scL ∧ ∀ x9 : Int32, x9 = scx x7.toNatClampNeg → (∀ x10 : Int32, x10 = v4 + (4 : Int32) → (vp_in x10 scL ∧ ∀ x12 : Int32, x12 = scx x10.toNatClampNeg → (∀ x13 : Int32, x13 = v4 + (5 : Int32) → (vp_in x13 scL ∧ ∀ x15 : Int32, x15 = scx x13.toNatClampNeg → (ob S v1 9 ∧ (kk ≤ rm_L_law.cells ∧ nn ≤ rm_L_law.slots ∧ (P_X9_feed v1 x3 x6 x9 x12 x15 (fun x18 S16 => Gr S S16 → (∀ x19 : Int32, x19 = v4 + (1 : Int32) → (vp_in x19 scL ∧ ∀ x21 : Int32, x21 = scx x19.toNatClampNeg → (∀ x22 : Int32, x22 = v4 + (2 : Int32) → (vp_in x22 scL ∧ ∀ x24 : Int32, x24 = scx x22.toNatClampNeg → (∀ x25 : Int32, x25 = v4 + (3 : Int32) → (vp_in x25 scL ∧ ∀ x27 : Int32, x27 = scx x25.toNatClampNeg → (∀ x28 : Int32, x28 = v4 + (4 : Int32) → (vp_in x28 scL ∧ ∀ x30 : Int32, x30 = scx x28.toNatClampNeg → (∀ x31 : Int32, x31 = v4 + (5 : Int32) → (vp_in x31 scL ∧ ∀ x33 : Int32, x33 = scx x31.toNatClampNeg → (ob S16 v2 11 ∧ (kk ≤ rm_L_law.cells ∧ nn ≤ rm_L_law.slots ∧ (P_X11_feed v2 x21 x24 x27 x30 x33 (fun x36 S34 => Gr S16 S34 → (P_L_law_2341 scL scx Q X23 v1 v2 v3 v4 kk nn S34)) S16)))))))))))))) S))))))))))))
set_option maxRecDepth 20000 in
set_option maxHeartbeats 4000000 in
theorem T_L_law_216 {X : CX} {Q : Int32 → HS → Prop} {scb scL : Nat} {scx : Nat → Int32} (C : Cx X cL_law RL 7 rm_L_law) (E : LE X scb scL scx Q) (ht : LD X) (hn : True) {X23 : Nat → Nat → Nat → Int32 → Nat → Nat → HS → Prop} (hX23 : ∀ (v1 : Nat) (v2 : Nat) (v3 : Nat) (v4 : Int32) (kk : Nat) (nn : Nat) (S : HS), X23 v1 v2 v3 v4 kk nn S → WS X 7 kk nn 23 [(0, .ref scb), (1, .ref v1), (2, .ref v2), (3, .ref v3), (4, .int v4)] [] S) {v1 : Nat} {v2 : Nat} {v3 : Nat} {v4 : Int32} {kk : Nat} {nn : Nat} {S : HS} (h : P_L_law_216 scL scx Q X23 v1 v2 v3 v4 kk nn S) : WS X 7 kk nn 216 [(0, .ref scb), (1, .ref v1), (2, .ref v2), (3, .ref v3), (4, .int v4)] [] S := by
  refine r_aload_n (pc := 216) C dL_law_216 1 rfl ?_
  refine r_aload_n (pc := 217) C dL_law_217 0 rfl ?_
  refine r_iload (pc := 218) C dL_law_218 4 rfl ?_
  refine r_iconst (pc := 220) C (v := (1 : Int32)) dL_law_220 (by decide) ?_
  refine r_iadd (pc := 221) C dL_law_221 ?_
  refine r_topi (fun x1 ex1 => ?_)
  have h := h x1 ex1
  obtain ⟨i2, h⟩ := h
  refine r_scLd (pc := 222) C E i2 dL_law_222 ?_
  refine r_topi (fun x3 ex3 => ?_)
  have h := h x3 ex3
  refine r_aload_n (pc := 223) C dL_law_223 0 rfl ?_
  refine r_iload (pc := 224) C dL_law_224 4 rfl ?_
  refine r_iconst (pc := 226) C (v := (2 : Int32)) dL_law_226 (by decide) ?_
  refine r_iadd (pc := 227) C dL_law_227 ?_
  refine r_topi (fun x4 ex4 => ?_)
  have h := h x4 ex4
  obtain ⟨i5, h⟩ := h
  refine r_scLd (pc := 228) C E i5 dL_law_228 ?_
  refine r_topi (fun x6 ex6 => ?_)
  have h := h x6 ex6
  refine r_aload_n (pc := 229) C dL_law_229 0 rfl ?_
  refine r_iload (pc := 230) C dL_law_230 4 rfl ?_
  refine r_iconst (pc := 232) C (v := (3 : Int32)) dL_law_232 (by decide) ?_
  refine r_iadd (pc := 233) C dL_law_233 ?_
  refine r_topi (fun x7 ex7 => ?_)
  have h := h x7 ex7
  obtain ⟨i8, h⟩ := h
  refine r_scLd (pc := 234) C E i8 dL_law_234 ?_
  refine r_topi (fun x9 ex9 => ?_)
  have h := h x9 ex9
  refine r_aload_n (pc := 235) C dL_law_235 0 rfl ?_
  refine r_iload (pc := 236) C dL_law_236 4 rfl ?_
  refine r_iconst (pc := 238) C (v := (4 : Int32)) dL_law_238 (by decide) ?_
  refine r_iadd (pc := 239) C dL_law_239 ?_
  refine r_topi (fun x10 ex10 => ?_)
  have h := h x10 ex10
  obtain ⟨i11, h⟩ := h
  refine r_scLd (pc := 240) C E i11 dL_law_240 ?_
  refine r_topi (fun x12 ex12 => ?_)
  have h := h x12 ex12
  refine r_aload_n (pc := 241) C dL_law_241 0 rfl ?_
  refine r_iload (pc := 242) C dL_law_242 4 rfl ?_
  refine r_iconst (pc := 244) C (v := (5 : Int32)) dL_law_244 (by decide) ?_
  refine r_iadd (pc := 245) C dL_law_245 ?_
  refine r_topi (fun x13 ex13 => ?_)
  have h := h x13 ex13
  obtain ⟨i14, h⟩ := h
  refine r_scLd (pc := 246) C E i14 dL_law_246 ?_
  refine r_topi (fun x15 ex15 => ?_)
  have h := h x15 ex15
  obtain ⟨o_v1, h⟩ := h
  obtain ⟨hk, hk2, h⟩ := h
  refine r_callVi0 (pc := 247) C (rest := []) (a := v1) o_v1 [.int x3, .int x6, .int x9, .int x12, .int x15] yV_X9_feed g_418 (c_X9_feed h) dL_law_247 rfl rfl (Nat.le_of_ble_eq_true rfl) ⟨by decide, by decide⟩ ⟨hk, hk2⟩ ⟨rfl, rfl⟩ (fun x18 S16 h g17 => ?_)
  have h := h g17
  have o_v1 := gr_ob g17 o_v1
  refine r_pop (pc := 250) C dL_law_250 rfl ?_
  refine r_aload_n (pc := 251) C dL_law_251 2 rfl ?_
  refine r_aload_n (pc := 252) C dL_law_252 0 rfl ?_
  refine r_iload (pc := 253) C dL_law_253 4 rfl ?_
  refine r_iconst (pc := 255) C (v := (1 : Int32)) dL_law_255 (by decide) ?_
  refine r_iadd (pc := 256) C dL_law_256 ?_
  refine r_topi (fun x19 ex19 => ?_)
  have h := h x19 ex19
  obtain ⟨i20, h⟩ := h
  refine r_scLd (pc := 257) C E i20 dL_law_257 ?_
  refine r_topi (fun x21 ex21 => ?_)
  have h := h x21 ex21
  refine r_aload_n (pc := 258) C dL_law_258 0 rfl ?_
  refine r_iload (pc := 259) C dL_law_259 4 rfl ?_
  refine r_iconst (pc := 261) C (v := (2 : Int32)) dL_law_261 (by decide) ?_
  refine r_iadd (pc := 262) C dL_law_262 ?_
  refine r_topi (fun x22 ex22 => ?_)
  have h := h x22 ex22
  obtain ⟨i23, h⟩ := h
  refine r_scLd (pc := 263) C E i23 dL_law_263 ?_
  refine r_topi (fun x24 ex24 => ?_)
  have h := h x24 ex24
  refine r_aload_n (pc := 264) C dL_law_264 0 rfl ?_
  refine r_iload (pc := 265) C dL_law_265 4 rfl ?_
  refine r_iconst (pc := 267) C (v := (3 : Int32)) dL_law_267 (by decide) ?_
  refine r_iadd (pc := 268) C dL_law_268 ?_
  refine r_topi (fun x25 ex25 => ?_)
  have h := h x25 ex25
  obtain ⟨i26, h⟩ := h
  refine r_scLd (pc := 269) C E i26 dL_law_269 ?_
  refine r_topi (fun x27 ex27 => ?_)
  have h := h x27 ex27
  refine r_aload_n (pc := 270) C dL_law_270 0 rfl ?_
  refine r_iload (pc := 271) C dL_law_271 4 rfl ?_
  refine r_iconst (pc := 273) C (v := (4 : Int32)) dL_law_273 (by decide) ?_
  refine r_iadd (pc := 274) C dL_law_274 ?_
  refine r_topi (fun x28 ex28 => ?_)
  have h := h x28 ex28
  obtain ⟨i29, h⟩ := h
  refine r_scLd (pc := 275) C E i29 dL_law_275 ?_
  refine r_topi (fun x30 ex30 => ?_)
  have h := h x30 ex30
  refine r_aload_n (pc := 276) C dL_law_276 0 rfl ?_
  refine r_iload (pc := 277) C dL_law_277 4 rfl ?_
  refine r_iconst (pc := 279) C (v := (5 : Int32)) dL_law_279 (by decide) ?_
  refine r_iadd (pc := 280) C dL_law_280 ?_
  refine r_topi (fun x31 ex31 => ?_)
  have h := h x31 ex31
  obtain ⟨i32, h⟩ := h
  refine r_scLd (pc := 281) C E i32 dL_law_281 ?_
  refine r_topi (fun x33 ex33 => ?_)
  have h := h x33 ex33
  obtain ⟨o_v2, h⟩ := h
  obtain ⟨hk, hk2, h⟩ := h
  refine r_callVi0 (pc := 282) C (rest := []) (a := v2) o_v2 [.int x21, .int x24, .int x27, .int x30, .int x33] yV_X11_feed g_1242 (c_X11_feed h) dL_law_282 rfl rfl (Nat.le_of_ble_eq_true rfl) ⟨by decide, by decide⟩ ⟨hk, hk2⟩ ⟨rfl, rfl⟩ (fun x36 S34 h g35 => ?_)
  have h := h g35
  have o_v1 := gr_ob g35 o_v1
  have o_v2 := gr_ob g35 o_v2
  refine r_pop (pc := 285) C dL_law_285 rfl ?_
  refine r_goto (pc := 286) C (tgt := 2341) dL_law_286 (by decide) ?_
  exact r_sub [0, 1, 2, 3, 4] rfl (T_L_law_2341 C E ht hn hX23 h)
def P_L_law_289 (scL : Nat) (scx : Nat → Int32) (Q : Int32 → HS → Prop) (X23 : Nat → Nat → Nat → Int32 → Nat → Nat → HS → Prop) (v1 : Nat) (v2 : Nat) (v3 : Nat) (v4 : Int32) (kk : Nat) (nn : Nat) (S : HS) : Prop := ∀ x1 : Int32, x1 = v4 + (1 : Int32) → (vp_in x1 scL ∧ ∀ x3 : Int32, x3 = scx x1.toNatClampNeg → (ob S v1 9 ∧ (kk ≤ rm_L_law.cells ∧ nn ≤ rm_L_law.slots ∧ (P_X9_world v1 x3 (fun x6 S4 => Gr S S4 → (∀ x7 : Int32, x7 = v4 + (1 : Int32) → (vp_in x7 scL ∧ ∀ x9 : Int32, x9 = scx x7.toNatClampNeg → (ob S4 v2 11 ∧ (kk + 25 ≤ rm_L_law.cells ∧ nn + 225 ≤ rm_L_law.slots ∧ (P_X11_world v2 x9 (fun x12 S10 => Gr S4 S10 → (P_L_law_2341 scL scx Q X23 v1 v2 v3 v4 (kk + 25) (nn + 225) S10)) S4)))))) S))))
set_option maxRecDepth 20000 in
set_option maxHeartbeats 4000000 in
theorem T_L_law_289 {X : CX} {Q : Int32 → HS → Prop} {scb scL : Nat} {scx : Nat → Int32} (C : Cx X cL_law RL 7 rm_L_law) (E : LE X scb scL scx Q) (ht : LD X) (hn : True) {X23 : Nat → Nat → Nat → Int32 → Nat → Nat → HS → Prop} (hX23 : ∀ (v1 : Nat) (v2 : Nat) (v3 : Nat) (v4 : Int32) (kk : Nat) (nn : Nat) (S : HS), X23 v1 v2 v3 v4 kk nn S → WS X 7 kk nn 23 [(0, .ref scb), (1, .ref v1), (2, .ref v2), (3, .ref v3), (4, .int v4)] [] S) {v1 : Nat} {v2 : Nat} {v3 : Nat} {v4 : Int32} {kk : Nat} {nn : Nat} {S : HS} (h : P_L_law_289 scL scx Q X23 v1 v2 v3 v4 kk nn S) : WS X 7 kk nn 289 [(0, .ref scb), (1, .ref v1), (2, .ref v2), (3, .ref v3), (4, .int v4)] [] S := by
  refine r_aload_n (pc := 289) C dL_law_289 1 rfl ?_
  refine r_aload_n (pc := 290) C dL_law_290 0 rfl ?_
  refine r_iload (pc := 291) C dL_law_291 4 rfl ?_
  refine r_iconst (pc := 293) C (v := (1 : Int32)) dL_law_293 (by decide) ?_
  refine r_iadd (pc := 294) C dL_law_294 ?_
  refine r_topi (fun x1 ex1 => ?_)
  have h := h x1 ex1
  obtain ⟨i2, h⟩ := h
  refine r_scLd (pc := 295) C E i2 dL_law_295 ?_
  refine r_topi (fun x3 ex3 => ?_)
  have h := h x3 ex3
  obtain ⟨o_v1, h⟩ := h
  obtain ⟨hk, hk2, h⟩ := h
  refine r_callVi0 (pc := 296) C (rest := []) (a := v1) o_v1 [.int x3] yV_X9_world g_426 (c_X9_world h) dL_law_296 rfl rfl (Nat.le_of_ble_eq_true rfl) ⟨by decide, by decide⟩ ⟨hk, hk2⟩ ⟨rfl, rfl⟩ (fun x6 S4 h g5 => ?_)
  have h := h g5
  have o_v1 := gr_ob g5 o_v1
  refine r_pop (pc := 299) C dL_law_299 rfl ?_
  refine r_aload_n (pc := 300) C dL_law_300 2 rfl ?_
  refine r_aload_n (pc := 301) C dL_law_301 0 rfl ?_
  refine r_iload (pc := 302) C dL_law_302 4 rfl ?_
  refine r_iconst (pc := 304) C (v := (1 : Int32)) dL_law_304 (by decide) ?_
  refine r_iadd (pc := 305) C dL_law_305 ?_
  refine r_topi (fun x7 ex7 => ?_)
  have h := h x7 ex7
  obtain ⟨i8, h⟩ := h
  refine r_scLd (pc := 306) C E i8 dL_law_306 ?_
  refine r_topi (fun x9 ex9 => ?_)
  have h := h x9 ex9
  obtain ⟨o_v2, h⟩ := h
  obtain ⟨hk, hk2, h⟩ := h
  refine r_callVi (pc := 307) C (rest := []) (a := v2) o_v2 [.int x9] yV_X11_world g_1246 (c_X11_world h) dL_law_307 rfl rfl (Nat.le_of_ble_eq_true rfl) ⟨by decide, by decide⟩ ⟨hk, hk2⟩ (fun x12 S10 h g11 => ?_)
  have h := h g11
  have o_v1 := gr_ob g11 o_v1
  have o_v2 := gr_ob g11 o_v2
  refine r_pop (pc := 310) C dL_law_310 rfl ?_
  refine r_goto (pc := 311) C (tgt := 2341) dL_law_311 (by decide) ?_
  exact r_sub [0, 1, 2, 3, 4] rfl (T_L_law_2341 C E ht hn hX23 h)
def P_L_law_314 (scL : Nat) (scx : Nat → Int32) (Q : Int32 → HS → Prop) (X23 : Nat → Nat → Nat → Int32 → Nat → Nat → HS → Prop) (v1 : Nat) (v2 : Nat) (v3 : Nat) (v4 : Int32) (kk : Nat) (nn : Nat) (S : HS) : Prop := ob S v1 9 ∧ (kk ≤ rm_L_law.cells ∧ nn ≤ rm_L_law.slots ∧ (P_X9_fault v1 (fun x3 S1 => Gr S S1 → (ob S1 v2 11 ∧ (kk ≤ rm_L_law.cells ∧ nn ≤ rm_L_law.slots ∧ (P_X11_fault v2 (fun x6 S4 => Gr S1 S4 → (P_L_law_2341 scL scx Q X23 v1 v2 v3 v4 kk nn S4)) S1)))) S))
set_option maxRecDepth 20000 in
set_option maxHeartbeats 4000000 in
theorem T_L_law_314 {X : CX} {Q : Int32 → HS → Prop} {scb scL : Nat} {scx : Nat → Int32} (C : Cx X cL_law RL 7 rm_L_law) (E : LE X scb scL scx Q) (ht : LD X) (hn : True) {X23 : Nat → Nat → Nat → Int32 → Nat → Nat → HS → Prop} (hX23 : ∀ (v1 : Nat) (v2 : Nat) (v3 : Nat) (v4 : Int32) (kk : Nat) (nn : Nat) (S : HS), X23 v1 v2 v3 v4 kk nn S → WS X 7 kk nn 23 [(0, .ref scb), (1, .ref v1), (2, .ref v2), (3, .ref v3), (4, .int v4)] [] S) {v1 : Nat} {v2 : Nat} {v3 : Nat} {v4 : Int32} {kk : Nat} {nn : Nat} {S : HS} (h : P_L_law_314 scL scx Q X23 v1 v2 v3 v4 kk nn S) : WS X 7 kk nn 314 [(0, .ref scb), (1, .ref v1), (2, .ref v2), (3, .ref v3), (4, .int v4)] [] S := by
  refine r_aload_n (pc := 314) C dL_law_314 1 rfl ?_
  obtain ⟨o_v1, h⟩ := h
  obtain ⟨hk, hk2, h⟩ := h
  refine r_callVi0 (pc := 315) C (rest := []) (a := v1) o_v1 [] yV_X9_fault g_641 (c_X9_fault h) dL_law_315 rfl rfl (Nat.le_of_ble_eq_true rfl) ⟨by decide, by decide⟩ ⟨hk, hk2⟩ ⟨rfl, rfl⟩ (fun x3 S1 h g2 => ?_)
  have h := h g2
  have o_v1 := gr_ob g2 o_v1
  refine r_pop (pc := 318) C dL_law_318 rfl ?_
  refine r_aload_n (pc := 319) C dL_law_319 2 rfl ?_
  obtain ⟨o_v2, h⟩ := h
  obtain ⟨hk, hk2, h⟩ := h
  refine r_callVi0 (pc := 320) C (rest := []) (a := v2) o_v2 [] yV_X11_fault g_1522 (c_X11_fault h) dL_law_320 rfl rfl (Nat.le_of_ble_eq_true rfl) ⟨by decide, by decide⟩ ⟨hk, hk2⟩ ⟨rfl, rfl⟩ (fun x6 S4 h g5 => ?_)
  have h := h g5
  have o_v1 := gr_ob g5 o_v1
  have o_v2 := gr_ob g5 o_v2
  refine r_pop (pc := 323) C dL_law_323 rfl ?_
  refine r_goto (pc := 324) C (tgt := 2341) dL_law_324 (by decide) ?_
  exact r_sub [0, 1, 2, 3, 4] rfl (T_L_law_2341 C E ht hn hX23 h)
def P_L_law_327 (scL : Nat) (scx : Nat → Int32) (Q : Int32 → HS → Prop) (X23 : Nat → Nat → Nat → Int32 → Nat → Nat → HS → Prop) (v1 : Nat) (v2 : Nat) (v3 : Nat) (v4 : Int32) (kk : Nat) (nn : Nat) (S : HS) : Prop := ob S v1 9 ∧ (kk ≤ rm_L_law.cells ∧ nn ≤ rm_L_law.slots ∧ (P_X9_where v1 (fun x3 S1 => Gr S S1 → (ob S1 v2 11 ∧ (kk ≤ rm_L_law.cells ∧ nn ≤ rm_L_law.slots ∧ (P_X11_where v2 (fun x6 S4 => Gr S1 S4 → (P_L_law_2341 scL scx Q X23 v1 v2 v3 v4 kk nn S4)) S1)))) S))
set_option maxRecDepth 20000 in
set_option maxHeartbeats 4000000 in
theorem T_L_law_327 {X : CX} {Q : Int32 → HS → Prop} {scb scL : Nat} {scx : Nat → Int32} (C : Cx X cL_law RL 7 rm_L_law) (E : LE X scb scL scx Q) (ht : LD X) (hn : True) {X23 : Nat → Nat → Nat → Int32 → Nat → Nat → HS → Prop} (hX23 : ∀ (v1 : Nat) (v2 : Nat) (v3 : Nat) (v4 : Int32) (kk : Nat) (nn : Nat) (S : HS), X23 v1 v2 v3 v4 kk nn S → WS X 7 kk nn 23 [(0, .ref scb), (1, .ref v1), (2, .ref v2), (3, .ref v3), (4, .int v4)] [] S) {v1 : Nat} {v2 : Nat} {v3 : Nat} {v4 : Int32} {kk : Nat} {nn : Nat} {S : HS} (h : P_L_law_327 scL scx Q X23 v1 v2 v3 v4 kk nn S) : WS X 7 kk nn 327 [(0, .ref scb), (1, .ref v1), (2, .ref v2), (3, .ref v3), (4, .int v4)] [] S := by
  refine r_aload_n (pc := 327) C dL_law_327 1 rfl ?_
  obtain ⟨o_v1, h⟩ := h
  obtain ⟨hk, hk2, h⟩ := h
  refine r_callVi0 (pc := 328) C (rest := []) (a := v1) o_v1 [] yV_X9_where g_645 (c_X9_where h) dL_law_328 rfl rfl (Nat.le_of_ble_eq_true rfl) ⟨by decide, by decide⟩ ⟨hk, hk2⟩ ⟨rfl, rfl⟩ (fun x3 S1 h g2 => ?_)
  have h := h g2
  have o_v1 := gr_ob g2 o_v1
  refine r_pop (pc := 331) C dL_law_331 rfl ?_
  refine r_aload_n (pc := 332) C dL_law_332 2 rfl ?_
  obtain ⟨o_v2, h⟩ := h
  obtain ⟨hk, hk2, h⟩ := h
  refine r_callVi0 (pc := 333) C (rest := []) (a := v2) o_v2 [] yV_X11_where g_1526 (c_X11_where h) dL_law_333 rfl rfl (Nat.le_of_ble_eq_true rfl) ⟨by decide, by decide⟩ ⟨hk, hk2⟩ ⟨rfl, rfl⟩ (fun x6 S4 h g5 => ?_)
  have h := h g5
  have o_v1 := gr_ob g5 o_v1
  have o_v2 := gr_ob g5 o_v2
  refine r_pop (pc := 336) C dL_law_336 rfl ?_
  refine r_goto (pc := 337) C (tgt := 2341) dL_law_337 (by decide) ?_
  exact r_sub [0, 1, 2, 3, 4] rfl (T_L_law_2341 C E ht hn hX23 h)
def P_L_law_450 (scL : Nat) (scx : Nat → Int32) (Q : Int32 → HS → Prop) (X23 : Nat → Nat → Nat → Int32 → Nat → Nat → HS → Prop) (v1 : Nat) (v2 : Nat) (v3 : Nat) (v4 : Int32) (s0 : Nat) (s1 : Int32) (s2 : Int32) (s3 : Int32) (s4 : Int32) (s5 : Int32) (s6 : Int32) (s7 : Int32) (kk : Nat) (nn : Nat) (S : HS) : Prop := ob S s0 11 ∧ (kk ≤ rm_L_law.cells ∧ nn ≤ rm_L_law.slots ∧ (P_X11_face s0 s1 s2 s3 s4 s5 s6 s7 (fun x3 S1 => Gr S S1 → (P_L_law_2341 scL scx Q X23 v1 v2 v3 v4 kk nn S1)) S))
set_option maxRecDepth 20000 in
set_option maxHeartbeats 4000000 in
theorem T_L_law_450 {X : CX} {Q : Int32 → HS → Prop} {scb scL : Nat} {scx : Nat → Int32} (C : Cx X cL_law RL 7 rm_L_law) (E : LE X scb scL scx Q) (ht : LD X) (hn : True) {X23 : Nat → Nat → Nat → Int32 → Nat → Nat → HS → Prop} (hX23 : ∀ (v1 : Nat) (v2 : Nat) (v3 : Nat) (v4 : Int32) (kk : Nat) (nn : Nat) (S : HS), X23 v1 v2 v3 v4 kk nn S → WS X 7 kk nn 23 [(0, .ref scb), (1, .ref v1), (2, .ref v2), (3, .ref v3), (4, .int v4)] [] S) {v1 : Nat} {v2 : Nat} {v3 : Nat} {v4 : Int32} {s0 : Nat} {s1 : Int32} {s2 : Int32} {s3 : Int32} {s4 : Int32} {s5 : Int32} {s6 : Int32} {s7 : Int32} {kk : Nat} {nn : Nat} {S : HS} (h : P_L_law_450 scL scx Q X23 v1 v2 v3 v4 s0 s1 s2 s3 s4 s5 s6 s7 kk nn S) : WS X 7 kk nn 450 [(0, .ref scb), (1, .ref v1), (2, .ref v2), (3, .ref v3), (4, .int v4)] [.int s7, .int s6, .int s5, .int s4, .int s3, .int s2, .int s1, .ref s0] S := by
  obtain ⟨o_s0, h⟩ := h
  obtain ⟨hk, hk2, h⟩ := h
  refine r_callVl0 (pc := 450) C (rest := []) (a := s0) o_s0 [.int s1, .int s2, .int s3, .int s4, .int s5, .int s6, .int s7] yV_X11_face g_1530 (c_X11_face h) dL_law_450 rfl rfl (Nat.le_of_ble_eq_true rfl) ⟨by decide, by decide⟩ ⟨hk, hk2⟩ ⟨rfl, rfl⟩ (fun x3 S1 h g2 => ?_)
  have h := h g2
  have o_s0 := gr_ob g2 o_s0
  refine r_pop2 (pc := 453) C dL_law_453 rfl ?_
  refine r_goto (pc := 454) C (tgt := 2341) dL_law_454 (by decide) ?_
  exact r_sub [0, 1, 2, 3, 4] rfl (T_L_law_2341 C E ht hn hX23 h)
def P_L_law_393 (scL : Nat) (scx : Nat → Int32) (Q : Int32 → HS → Prop) (X23 : Nat → Nat → Nat → Int32 → Nat → Nat → HS → Prop) (v1 : Nat) (v2 : Nat) (v3 : Nat) (v4 : Int32) (s0 : Nat) (s1 : Int32) (s2 : Int32) (s3 : Int32) (s4 : Int32) (s5 : Int32) (s6 : Int32) (s7 : Int32) (kk : Nat) (nn : Nat) (S : HS) : Prop := ob S s0 9 ∧ (kk ≤ rm_L_law.cells ∧ nn ≤ rm_L_law.slots ∧ (P_X9_face s0 s1 s2 s3 s4 s5 s6 s7 (fun x3 S1 => Gr S S1 → (∀ x4 : Int32, x4 = v4 + (1 : Int32) → (vp_in x4 scL ∧ ∀ x6 : Int32, x6 = scx x4.toNatClampNeg → (∀ x7 : Int32, x7 = v4 + (2 : Int32) → (vp_in x7 scL ∧ ∀ x9 : Int32, x9 = scx x7.toNatClampNeg → (∀ x10 : Int32, x10 = v4 + (3 : Int32) → (vp_in x10 scL ∧ ∀ x12 : Int32, x12 = scx x10.toNatClampNeg → (∀ x13 : Int32, x13 = v4 + (4 : Int32) → (vp_in x13 scL ∧ ∀ x15 : Int32, x15 = scx x13.toNatClampNeg → (∀ x16 : Int32, x16 = v4 + (5 : Int32) → (vp_in x16 scL ∧ ∀ x18 : Int32, x18 = scx x16.toNatClampNeg → (∀ x19 : Int32, x19 = v4 + (6 : Int32) → (vp_in x19 scL ∧ ∀ x21 : Int32, x21 = scx x19.toNatClampNeg → (∀ x22 : Int32, x22 = v4 + (7 : Int32) → (vp_in x22 scL ∧ ∀ x24 : Int32, x24 = scx x22.toNatClampNeg → (((x24 = 0) → (P_L_law_450 scL scx Q X23 v1 v2 v3 v4 v2 x6 x9 x12 x15 x18 x21 (0 : Int32) kk nn S1)) ∧ ((¬ x24 = 0) → (P_L_law_450 scL scx Q X23 v1 v2 v3 v4 v2 x6 x9 x12 x15 x18 x21 (1 : Int32) kk nn S1)))))))))))))))))) S))
set_option maxRecDepth 20000 in
set_option maxHeartbeats 4000000 in
theorem T_L_law_393 {X : CX} {Q : Int32 → HS → Prop} {scb scL : Nat} {scx : Nat → Int32} (C : Cx X cL_law RL 7 rm_L_law) (E : LE X scb scL scx Q) (ht : LD X) (hn : True) {X23 : Nat → Nat → Nat → Int32 → Nat → Nat → HS → Prop} (hX23 : ∀ (v1 : Nat) (v2 : Nat) (v3 : Nat) (v4 : Int32) (kk : Nat) (nn : Nat) (S : HS), X23 v1 v2 v3 v4 kk nn S → WS X 7 kk nn 23 [(0, .ref scb), (1, .ref v1), (2, .ref v2), (3, .ref v3), (4, .int v4)] [] S) {v1 : Nat} {v2 : Nat} {v3 : Nat} {v4 : Int32} {s0 : Nat} {s1 : Int32} {s2 : Int32} {s3 : Int32} {s4 : Int32} {s5 : Int32} {s6 : Int32} {s7 : Int32} {kk : Nat} {nn : Nat} {S : HS} (h : P_L_law_393 scL scx Q X23 v1 v2 v3 v4 s0 s1 s2 s3 s4 s5 s6 s7 kk nn S) : WS X 7 kk nn 393 [(0, .ref scb), (1, .ref v1), (2, .ref v2), (3, .ref v3), (4, .int v4)] [.int s7, .int s6, .int s5, .int s4, .int s3, .int s2, .int s1, .ref s0] S := by
  obtain ⟨o_s0, h⟩ := h
  obtain ⟨hk, hk2, h⟩ := h
  refine r_callVl0 (pc := 393) C (rest := []) (a := s0) o_s0 [.int s1, .int s2, .int s3, .int s4, .int s5, .int s6, .int s7] yV_X9_face g_649 (c_X9_face h) dL_law_393 rfl rfl (Nat.le_of_ble_eq_true rfl) ⟨by decide, by decide⟩ ⟨hk, hk2⟩ ⟨rfl, rfl⟩ (fun x3 S1 h g2 => ?_)
  have h := h g2
  have o_s0 := gr_ob g2 o_s0
  refine r_pop2 (pc := 396) C dL_law_396 rfl ?_
  refine r_aload_n (pc := 397) C dL_law_397 2 rfl ?_
  refine r_aload_n (pc := 398) C dL_law_398 0 rfl ?_
  refine r_iload (pc := 399) C dL_law_399 4 rfl ?_
  refine r_iconst (pc := 401) C (v := (1 : Int32)) dL_law_401 (by decide) ?_
  refine r_iadd (pc := 402) C dL_law_402 ?_
  refine r_topi (fun x4 ex4 => ?_)
  have h := h x4 ex4
  obtain ⟨i5, h⟩ := h
  refine r_scLd (pc := 403) C E i5 dL_law_403 ?_
  refine r_topi (fun x6 ex6 => ?_)
  have h := h x6 ex6
  refine r_aload_n (pc := 404) C dL_law_404 0 rfl ?_
  refine r_iload (pc := 405) C dL_law_405 4 rfl ?_
  refine r_iconst (pc := 407) C (v := (2 : Int32)) dL_law_407 (by decide) ?_
  refine r_iadd (pc := 408) C dL_law_408 ?_
  refine r_topi (fun x7 ex7 => ?_)
  have h := h x7 ex7
  obtain ⟨i8, h⟩ := h
  refine r_scLd (pc := 409) C E i8 dL_law_409 ?_
  refine r_topi (fun x9 ex9 => ?_)
  have h := h x9 ex9
  refine r_aload_n (pc := 410) C dL_law_410 0 rfl ?_
  refine r_iload (pc := 411) C dL_law_411 4 rfl ?_
  refine r_iconst (pc := 413) C (v := (3 : Int32)) dL_law_413 (by decide) ?_
  refine r_iadd (pc := 414) C dL_law_414 ?_
  refine r_topi (fun x10 ex10 => ?_)
  have h := h x10 ex10
  obtain ⟨i11, h⟩ := h
  refine r_scLd (pc := 415) C E i11 dL_law_415 ?_
  refine r_topi (fun x12 ex12 => ?_)
  have h := h x12 ex12
  refine r_aload_n (pc := 416) C dL_law_416 0 rfl ?_
  refine r_iload (pc := 417) C dL_law_417 4 rfl ?_
  refine r_iconst (pc := 419) C (v := (4 : Int32)) dL_law_419 (by decide) ?_
  refine r_iadd (pc := 420) C dL_law_420 ?_
  refine r_topi (fun x13 ex13 => ?_)
  have h := h x13 ex13
  obtain ⟨i14, h⟩ := h
  refine r_scLd (pc := 421) C E i14 dL_law_421 ?_
  refine r_topi (fun x15 ex15 => ?_)
  have h := h x15 ex15
  refine r_aload_n (pc := 422) C dL_law_422 0 rfl ?_
  refine r_iload (pc := 423) C dL_law_423 4 rfl ?_
  refine r_iconst (pc := 425) C (v := (5 : Int32)) dL_law_425 (by decide) ?_
  refine r_iadd (pc := 426) C dL_law_426 ?_
  refine r_topi (fun x16 ex16 => ?_)
  have h := h x16 ex16
  obtain ⟨i17, h⟩ := h
  refine r_scLd (pc := 427) C E i17 dL_law_427 ?_
  refine r_topi (fun x18 ex18 => ?_)
  have h := h x18 ex18
  refine r_aload_n (pc := 428) C dL_law_428 0 rfl ?_
  refine r_iload (pc := 429) C dL_law_429 4 rfl ?_
  refine r_bipush (pc := 431) C (v := (6 : Int32)) dL_law_431 (by decide) ?_
  refine r_iadd (pc := 433) C dL_law_433 ?_
  refine r_topi (fun x19 ex19 => ?_)
  have h := h x19 ex19
  obtain ⟨i20, h⟩ := h
  refine r_scLd (pc := 434) C E i20 dL_law_434 ?_
  refine r_topi (fun x21 ex21 => ?_)
  have h := h x21 ex21
  refine r_aload_n (pc := 435) C dL_law_435 0 rfl ?_
  refine r_iload (pc := 436) C dL_law_436 4 rfl ?_
  refine r_bipush (pc := 438) C (v := (7 : Int32)) dL_law_438 (by decide) ?_
  refine r_iadd (pc := 440) C dL_law_440 ?_
  refine r_topi (fun x22 ex22 => ?_)
  have h := h x22 ex22
  obtain ⟨i23, h⟩ := h
  refine r_scLd (pc := 441) C E i23 dL_law_441 ?_
  refine r_topi (fun x24 ex24 => ?_)
  have h := h x24 ex24
  refine r_if_eq (pc := 442) C (tgt := 449) dL_law_442 (by decide) (fun c25 => ?_) (fun c25 => ?_)
  · have h := h.1 c25
    refine r_iconst (pc := 449) C (v := (0 : Int32)) dL_law_449 (by decide) ?_
    exact r_sub [0, 1, 2, 3, 4] rfl (T_L_law_450 C E ht hn hX23 h)
  · have h := h.2 c25
    refine r_iconst (pc := 445) C (v := (1 : Int32)) dL_law_445 (by decide) ?_
    refine r_goto (pc := 446) C (tgt := 450) dL_law_446 (by decide) ?_
    exact r_sub [0, 1, 2, 3, 4] rfl (T_L_law_450 C E ht hn hX23 h)
def P_L_law_340 (scL : Nat) (scx : Nat → Int32) (Q : Int32 → HS → Prop) (X23 : Nat → Nat → Nat → Int32 → Nat → Nat → HS → Prop) (v1 : Nat) (v2 : Nat) (v3 : Nat) (v4 : Int32) (kk : Nat) (nn : Nat) (S : HS) : Prop := ∀ x1 : Int32, x1 = v4 + (1 : Int32) → (vp_in x1 scL ∧ ∀ x3 : Int32, x3 = scx x1.toNatClampNeg → (∀ x4 : Int32, x4 = v4 + (2 : Int32) → (vp_in x4 scL ∧ ∀ x6 : Int32, x6 = scx x4.toNatClampNeg → (∀ x7 : Int32, x7 = v4 + (3 : Int32) → (vp_in x7 scL ∧ ∀ x9 : Int32, x9 = scx x7.toNatClampNeg → (∀ x10 : Int32, x10 = v4 + (4 : Int32) → (vp_in x10 scL ∧ ∀ x12 : Int32, x12 = scx x10.toNatClampNeg → (∀ x13 : Int32, x13 = v4 + (5 : Int32) → (vp_in x13 scL ∧ ∀ x15 : Int32, x15 = scx x13.toNatClampNeg → (∀ x16 : Int32, x16 = v4 + (6 : Int32) → (vp_in x16 scL ∧ ∀ x18 : Int32, x18 = scx x16.toNatClampNeg → (∀ x19 : Int32, x19 = v4 + (7 : Int32) → (vp_in x19 scL ∧ ∀ x21 : Int32, x21 = scx x19.toNatClampNeg → (((x21 = 0) → (P_L_law_393 scL scx Q X23 v1 v2 v3 v4 v1 x3 x6 x9 x12 x15 x18 (0 : Int32) kk nn S)) ∧ ((¬ x21 = 0) → (P_L_law_393 scL scx Q X23 v1 v2 v3 v4 v1 x3 x6 x9 x12 x15 x18 (1 : Int32) kk nn S))))))))))))))))
set_option maxRecDepth 20000 in
set_option maxHeartbeats 4000000 in
theorem T_L_law_340 {X : CX} {Q : Int32 → HS → Prop} {scb scL : Nat} {scx : Nat → Int32} (C : Cx X cL_law RL 7 rm_L_law) (E : LE X scb scL scx Q) (ht : LD X) (hn : True) {X23 : Nat → Nat → Nat → Int32 → Nat → Nat → HS → Prop} (hX23 : ∀ (v1 : Nat) (v2 : Nat) (v3 : Nat) (v4 : Int32) (kk : Nat) (nn : Nat) (S : HS), X23 v1 v2 v3 v4 kk nn S → WS X 7 kk nn 23 [(0, .ref scb), (1, .ref v1), (2, .ref v2), (3, .ref v3), (4, .int v4)] [] S) {v1 : Nat} {v2 : Nat} {v3 : Nat} {v4 : Int32} {kk : Nat} {nn : Nat} {S : HS} (h : P_L_law_340 scL scx Q X23 v1 v2 v3 v4 kk nn S) : WS X 7 kk nn 340 [(0, .ref scb), (1, .ref v1), (2, .ref v2), (3, .ref v3), (4, .int v4)] [] S := by
  refine r_aload_n (pc := 340) C dL_law_340 1 rfl ?_
  refine r_aload_n (pc := 341) C dL_law_341 0 rfl ?_
  refine r_iload (pc := 342) C dL_law_342 4 rfl ?_
  refine r_iconst (pc := 344) C (v := (1 : Int32)) dL_law_344 (by decide) ?_
  refine r_iadd (pc := 345) C dL_law_345 ?_
  refine r_topi (fun x1 ex1 => ?_)
  have h := h x1 ex1
  obtain ⟨i2, h⟩ := h
  refine r_scLd (pc := 346) C E i2 dL_law_346 ?_
  refine r_topi (fun x3 ex3 => ?_)
  have h := h x3 ex3
  refine r_aload_n (pc := 347) C dL_law_347 0 rfl ?_
  refine r_iload (pc := 348) C dL_law_348 4 rfl ?_
  refine r_iconst (pc := 350) C (v := (2 : Int32)) dL_law_350 (by decide) ?_
  refine r_iadd (pc := 351) C dL_law_351 ?_
  refine r_topi (fun x4 ex4 => ?_)
  have h := h x4 ex4
  obtain ⟨i5, h⟩ := h
  refine r_scLd (pc := 352) C E i5 dL_law_352 ?_
  refine r_topi (fun x6 ex6 => ?_)
  have h := h x6 ex6
  refine r_aload_n (pc := 353) C dL_law_353 0 rfl ?_
  refine r_iload (pc := 354) C dL_law_354 4 rfl ?_
  refine r_iconst (pc := 356) C (v := (3 : Int32)) dL_law_356 (by decide) ?_
  refine r_iadd (pc := 357) C dL_law_357 ?_
  refine r_topi (fun x7 ex7 => ?_)
  have h := h x7 ex7
  obtain ⟨i8, h⟩ := h
  refine r_scLd (pc := 358) C E i8 dL_law_358 ?_
  refine r_topi (fun x9 ex9 => ?_)
  have h := h x9 ex9
  refine r_aload_n (pc := 359) C dL_law_359 0 rfl ?_
  refine r_iload (pc := 360) C dL_law_360 4 rfl ?_
  refine r_iconst (pc := 362) C (v := (4 : Int32)) dL_law_362 (by decide) ?_
  refine r_iadd (pc := 363) C dL_law_363 ?_
  refine r_topi (fun x10 ex10 => ?_)
  have h := h x10 ex10
  obtain ⟨i11, h⟩ := h
  refine r_scLd (pc := 364) C E i11 dL_law_364 ?_
  refine r_topi (fun x12 ex12 => ?_)
  have h := h x12 ex12
  refine r_aload_n (pc := 365) C dL_law_365 0 rfl ?_
  refine r_iload (pc := 366) C dL_law_366 4 rfl ?_
  refine r_iconst (pc := 368) C (v := (5 : Int32)) dL_law_368 (by decide) ?_
  refine r_iadd (pc := 369) C dL_law_369 ?_
  refine r_topi (fun x13 ex13 => ?_)
  have h := h x13 ex13
  obtain ⟨i14, h⟩ := h
  refine r_scLd (pc := 370) C E i14 dL_law_370 ?_
  refine r_topi (fun x15 ex15 => ?_)
  have h := h x15 ex15
  refine r_aload_n (pc := 371) C dL_law_371 0 rfl ?_
  refine r_iload (pc := 372) C dL_law_372 4 rfl ?_
  refine r_bipush (pc := 374) C (v := (6 : Int32)) dL_law_374 (by decide) ?_
  refine r_iadd (pc := 376) C dL_law_376 ?_
  refine r_topi (fun x16 ex16 => ?_)
  have h := h x16 ex16
  obtain ⟨i17, h⟩ := h
  refine r_scLd (pc := 377) C E i17 dL_law_377 ?_
  refine r_topi (fun x18 ex18 => ?_)
  have h := h x18 ex18
  refine r_aload_n (pc := 378) C dL_law_378 0 rfl ?_
  refine r_iload (pc := 379) C dL_law_379 4 rfl ?_
  refine r_bipush (pc := 381) C (v := (7 : Int32)) dL_law_381 (by decide) ?_
  refine r_iadd (pc := 383) C dL_law_383 ?_
  refine r_topi (fun x19 ex19 => ?_)
  have h := h x19 ex19
  obtain ⟨i20, h⟩ := h
  refine r_scLd (pc := 384) C E i20 dL_law_384 ?_
  refine r_topi (fun x21 ex21 => ?_)
  have h := h x21 ex21
  refine r_if_eq (pc := 385) C (tgt := 392) dL_law_385 (by decide) (fun c22 => ?_) (fun c22 => ?_)
  · have h := h.1 c22
    refine r_iconst (pc := 392) C (v := (0 : Int32)) dL_law_392 (by decide) ?_
    exact r_sub [0, 1, 2, 3, 4] rfl (T_L_law_393 C E ht hn hX23 h)
  · have h := h.2 c22
    refine r_iconst (pc := 388) C (v := (1 : Int32)) dL_law_388 (by decide) ?_
    refine r_goto (pc := 389) C (tgt := 393) dL_law_389 (by decide) ?_
    exact r_sub [0, 1, 2, 3, 4] rfl (T_L_law_393 C E ht hn hX23 h)
def P_L_law_553 (scL : Nat) (scx : Nat → Int32) (Q : Int32 → HS → Prop) (X23 : Nat → Nat → Nat → Int32 → Nat → Nat → HS → Prop) (v1 : Nat) (v2 : Nat) (v3 : Nat) (v4 : Int32) (s0 : Nat) (s1 : Int32) (s2 : Int32) (s3 : Int32) (s4 : Int32) (s5 : Int32) (s6 : Int32) (kk : Nat) (nn : Nat) (S : HS) : Prop := ob S s0 11 ∧ (kk ≤ rm_L_law.cells ∧ nn ≤ rm_L_law.slots ∧ (P_X11_wet s0 s1 s2 s3 s4 s5 s6 (fun x3 S1 => Gr S S1 → (P_L_law_2341 scL scx Q X23 v1 v2 v3 v4 kk nn S1)) S))
set_option maxRecDepth 20000 in
set_option maxHeartbeats 4000000 in
theorem T_L_law_553 {X : CX} {Q : Int32 → HS → Prop} {scb scL : Nat} {scx : Nat → Int32} (C : Cx X cL_law RL 7 rm_L_law) (E : LE X scb scL scx Q) (ht : LD X) (hn : True) {X23 : Nat → Nat → Nat → Int32 → Nat → Nat → HS → Prop} (hX23 : ∀ (v1 : Nat) (v2 : Nat) (v3 : Nat) (v4 : Int32) (kk : Nat) (nn : Nat) (S : HS), X23 v1 v2 v3 v4 kk nn S → WS X 7 kk nn 23 [(0, .ref scb), (1, .ref v1), (2, .ref v2), (3, .ref v3), (4, .int v4)] [] S) {v1 : Nat} {v2 : Nat} {v3 : Nat} {v4 : Int32} {s0 : Nat} {s1 : Int32} {s2 : Int32} {s3 : Int32} {s4 : Int32} {s5 : Int32} {s6 : Int32} {kk : Nat} {nn : Nat} {S : HS} (h : P_L_law_553 scL scx Q X23 v1 v2 v3 v4 s0 s1 s2 s3 s4 s5 s6 kk nn S) : WS X 7 kk nn 553 [(0, .ref scb), (1, .ref v1), (2, .ref v2), (3, .ref v3), (4, .int v4)] [.int s6, .int s5, .int s4, .int s3, .int s2, .int s1, .ref s0] S := by
  obtain ⟨o_s0, h⟩ := h
  obtain ⟨hk, hk2, h⟩ := h
  refine r_callVl0 (pc := 553) C (rest := []) (a := s0) o_s0 [.int s1, .int s2, .int s3, .int s4, .int s5, .int s6] yV_X11_wet g_1590 (c_X11_wet h) dL_law_553 rfl rfl (Nat.le_of_ble_eq_true rfl) ⟨by decide, by decide⟩ ⟨hk, hk2⟩ ⟨rfl, rfl⟩ (fun x3 S1 h g2 => ?_)
  have h := h g2
  have o_s0 := gr_ob g2 o_s0
  refine r_pop2 (pc := 556) C dL_law_556 rfl ?_
  refine r_goto (pc := 557) C (tgt := 2341) dL_law_557 (by decide) ?_
  exact r_sub [0, 1, 2, 3, 4] rfl (T_L_law_2341 C E ht hn hX23 h)
def P_L_law_503 (scL : Nat) (scx : Nat → Int32) (Q : Int32 → HS → Prop) (X23 : Nat → Nat → Nat → Int32 → Nat → Nat → HS → Prop) (v1 : Nat) (v2 : Nat) (v3 : Nat) (v4 : Int32) (s0 : Nat) (s1 : Int32) (s2 : Int32) (s3 : Int32) (s4 : Int32) (s5 : Int32) (s6 : Int32) (kk : Nat) (nn : Nat) (S : HS) : Prop := ob S s0 9 ∧ (kk ≤ rm_L_law.cells ∧ nn ≤ rm_L_law.slots ∧ (P_X9_wet s0 s1 s2 s3 s4 s5 s6 (fun x3 S1 => Gr S S1 → (∀ x4 : Int32, x4 = v4 + (1 : Int32) → (vp_in x4 scL ∧ ∀ x6 : Int32, x6 = scx x4.toNatClampNeg → (∀ x7 : Int32, x7 = v4 + (2 : Int32) → (vp_in x7 scL ∧ ∀ x9 : Int32, x9 = scx x7.toNatClampNeg → (∀ x10 : Int32, x10 = v4 + (3 : Int32) → (vp_in x10 scL ∧ ∀ x12 : Int32, x12 = scx x10.toNatClampNeg → (∀ x13 : Int32, x13 = v4 + (4 : Int32) → (vp_in x13 scL ∧ ∀ x15 : Int32, x15 = scx x13.toNatClampNeg → (∀ x16 : Int32, x16 = v4 + (5 : Int32) → (vp_in x16 scL ∧ ∀ x18 : Int32, x18 = scx x16.toNatClampNeg → (∀ x19 : Int32, x19 = v4 + (6 : Int32) → (vp_in x19 scL ∧ ∀ x21 : Int32, x21 = scx x19.toNatClampNeg → (((x21 = 0) → (P_L_law_553 scL scx Q X23 v1 v2 v3 v4 v2 x6 x9 x12 x15 x18 (0 : Int32) kk nn S1)) ∧ ((¬ x21 = 0) → (P_L_law_553 scL scx Q X23 v1 v2 v3 v4 v2 x6 x9 x12 x15 x18 (1 : Int32) kk nn S1)))))))))))))))) S))
set_option maxRecDepth 20000 in
set_option maxHeartbeats 4000000 in
theorem T_L_law_503 {X : CX} {Q : Int32 → HS → Prop} {scb scL : Nat} {scx : Nat → Int32} (C : Cx X cL_law RL 7 rm_L_law) (E : LE X scb scL scx Q) (ht : LD X) (hn : True) {X23 : Nat → Nat → Nat → Int32 → Nat → Nat → HS → Prop} (hX23 : ∀ (v1 : Nat) (v2 : Nat) (v3 : Nat) (v4 : Int32) (kk : Nat) (nn : Nat) (S : HS), X23 v1 v2 v3 v4 kk nn S → WS X 7 kk nn 23 [(0, .ref scb), (1, .ref v1), (2, .ref v2), (3, .ref v3), (4, .int v4)] [] S) {v1 : Nat} {v2 : Nat} {v3 : Nat} {v4 : Int32} {s0 : Nat} {s1 : Int32} {s2 : Int32} {s3 : Int32} {s4 : Int32} {s5 : Int32} {s6 : Int32} {kk : Nat} {nn : Nat} {S : HS} (h : P_L_law_503 scL scx Q X23 v1 v2 v3 v4 s0 s1 s2 s3 s4 s5 s6 kk nn S) : WS X 7 kk nn 503 [(0, .ref scb), (1, .ref v1), (2, .ref v2), (3, .ref v3), (4, .int v4)] [.int s6, .int s5, .int s4, .int s3, .int s2, .int s1, .ref s0] S := by
  obtain ⟨o_s0, h⟩ := h
  obtain ⟨hk, hk2, h⟩ := h
  refine r_callVl0 (pc := 503) C (rest := []) (a := s0) o_s0 [.int s1, .int s2, .int s3, .int s4, .int s5, .int s6] yV_X9_wet g_728 (c_X9_wet h) dL_law_503 rfl rfl (Nat.le_of_ble_eq_true rfl) ⟨by decide, by decide⟩ ⟨hk, hk2⟩ ⟨rfl, rfl⟩ (fun x3 S1 h g2 => ?_)
  have h := h g2
  have o_s0 := gr_ob g2 o_s0
  refine r_pop2 (pc := 506) C dL_law_506 rfl ?_
  refine r_aload_n (pc := 507) C dL_law_507 2 rfl ?_
  refine r_aload_n (pc := 508) C dL_law_508 0 rfl ?_
  refine r_iload (pc := 509) C dL_law_509 4 rfl ?_
  refine r_iconst (pc := 511) C (v := (1 : Int32)) dL_law_511 (by decide) ?_
  refine r_iadd (pc := 512) C dL_law_512 ?_
  refine r_topi (fun x4 ex4 => ?_)
  have h := h x4 ex4
  obtain ⟨i5, h⟩ := h
  refine r_scLd (pc := 513) C E i5 dL_law_513 ?_
  refine r_topi (fun x6 ex6 => ?_)
  have h := h x6 ex6
  refine r_aload_n (pc := 514) C dL_law_514 0 rfl ?_
  refine r_iload (pc := 515) C dL_law_515 4 rfl ?_
  refine r_iconst (pc := 517) C (v := (2 : Int32)) dL_law_517 (by decide) ?_
  refine r_iadd (pc := 518) C dL_law_518 ?_
  refine r_topi (fun x7 ex7 => ?_)
  have h := h x7 ex7
  obtain ⟨i8, h⟩ := h
  refine r_scLd (pc := 519) C E i8 dL_law_519 ?_
  refine r_topi (fun x9 ex9 => ?_)
  have h := h x9 ex9
  refine r_aload_n (pc := 520) C dL_law_520 0 rfl ?_
  refine r_iload (pc := 521) C dL_law_521 4 rfl ?_
  refine r_iconst (pc := 523) C (v := (3 : Int32)) dL_law_523 (by decide) ?_
  refine r_iadd (pc := 524) C dL_law_524 ?_
  refine r_topi (fun x10 ex10 => ?_)
  have h := h x10 ex10
  obtain ⟨i11, h⟩ := h
  refine r_scLd (pc := 525) C E i11 dL_law_525 ?_
  refine r_topi (fun x12 ex12 => ?_)
  have h := h x12 ex12
  refine r_aload_n (pc := 526) C dL_law_526 0 rfl ?_
  refine r_iload (pc := 527) C dL_law_527 4 rfl ?_
  refine r_iconst (pc := 529) C (v := (4 : Int32)) dL_law_529 (by decide) ?_
  refine r_iadd (pc := 530) C dL_law_530 ?_
  refine r_topi (fun x13 ex13 => ?_)
  have h := h x13 ex13
  obtain ⟨i14, h⟩ := h
  refine r_scLd (pc := 531) C E i14 dL_law_531 ?_
  refine r_topi (fun x15 ex15 => ?_)
  have h := h x15 ex15
  refine r_aload_n (pc := 532) C dL_law_532 0 rfl ?_
  refine r_iload (pc := 533) C dL_law_533 4 rfl ?_
  refine r_iconst (pc := 535) C (v := (5 : Int32)) dL_law_535 (by decide) ?_
  refine r_iadd (pc := 536) C dL_law_536 ?_
  refine r_topi (fun x16 ex16 => ?_)
  have h := h x16 ex16
  obtain ⟨i17, h⟩ := h
  refine r_scLd (pc := 537) C E i17 dL_law_537 ?_
  refine r_topi (fun x18 ex18 => ?_)
  have h := h x18 ex18
  refine r_aload_n (pc := 538) C dL_law_538 0 rfl ?_
  refine r_iload (pc := 539) C dL_law_539 4 rfl ?_
  refine r_bipush (pc := 541) C (v := (6 : Int32)) dL_law_541 (by decide) ?_
  refine r_iadd (pc := 543) C dL_law_543 ?_
  refine r_topi (fun x19 ex19 => ?_)
  have h := h x19 ex19
  obtain ⟨i20, h⟩ := h
  refine r_scLd (pc := 544) C E i20 dL_law_544 ?_
  refine r_topi (fun x21 ex21 => ?_)
  have h := h x21 ex21
  refine r_if_eq (pc := 545) C (tgt := 552) dL_law_545 (by decide) (fun c22 => ?_) (fun c22 => ?_)
  · have h := h.1 c22
    refine r_iconst (pc := 552) C (v := (0 : Int32)) dL_law_552 (by decide) ?_
    exact r_sub [0, 1, 2, 3, 4] rfl (T_L_law_553 C E ht hn hX23 h)
  · have h := h.2 c22
    refine r_iconst (pc := 548) C (v := (1 : Int32)) dL_law_548 (by decide) ?_
    refine r_goto (pc := 549) C (tgt := 553) dL_law_549 (by decide) ?_
    exact r_sub [0, 1, 2, 3, 4] rfl (T_L_law_553 C E ht hn hX23 h)
def P_L_law_457 (scL : Nat) (scx : Nat → Int32) (Q : Int32 → HS → Prop) (X23 : Nat → Nat → Nat → Int32 → Nat → Nat → HS → Prop) (v1 : Nat) (v2 : Nat) (v3 : Nat) (v4 : Int32) (kk : Nat) (nn : Nat) (S : HS) : Prop := ∀ x1 : Int32, x1 = v4 + (1 : Int32) → (vp_in x1 scL ∧ ∀ x3 : Int32, x3 = scx x1.toNatClampNeg → (∀ x4 : Int32, x4 = v4 + (2 : Int32) → (vp_in x4 scL ∧ ∀ x6 : Int32, x6 = scx x4.toNatClampNeg → (∀ x7 : Int32, x7 = v4 + (3 : Int32) → (vp_in x7 scL ∧ ∀ x9 : Int32, x9 = scx x7.toNatClampNeg → (∀ x10 : Int32, x10 = v4 + (4 : Int32) → (vp_in x10 scL ∧ ∀ x12 : Int32, x12 = scx x10.toNatClampNeg → (∀ x13 : Int32, x13 = v4 + (5 : Int32) → (vp_in x13 scL ∧ ∀ x15 : Int32, x15 = scx x13.toNatClampNeg → (∀ x16 : Int32, x16 = v4 + (6 : Int32) → (vp_in x16 scL ∧ ∀ x18 : Int32, x18 = scx x16.toNatClampNeg → (((x18 = 0) → (P_L_law_503 scL scx Q X23 v1 v2 v3 v4 v1 x3 x6 x9 x12 x15 (0 : Int32) kk nn S)) ∧ ((¬ x18 = 0) → (P_L_law_503 scL scx Q X23 v1 v2 v3 v4 v1 x3 x6 x9 x12 x15 (1 : Int32) kk nn S))))))))))))))
set_option maxRecDepth 20000 in
set_option maxHeartbeats 4000000 in
theorem T_L_law_457 {X : CX} {Q : Int32 → HS → Prop} {scb scL : Nat} {scx : Nat → Int32} (C : Cx X cL_law RL 7 rm_L_law) (E : LE X scb scL scx Q) (ht : LD X) (hn : True) {X23 : Nat → Nat → Nat → Int32 → Nat → Nat → HS → Prop} (hX23 : ∀ (v1 : Nat) (v2 : Nat) (v3 : Nat) (v4 : Int32) (kk : Nat) (nn : Nat) (S : HS), X23 v1 v2 v3 v4 kk nn S → WS X 7 kk nn 23 [(0, .ref scb), (1, .ref v1), (2, .ref v2), (3, .ref v3), (4, .int v4)] [] S) {v1 : Nat} {v2 : Nat} {v3 : Nat} {v4 : Int32} {kk : Nat} {nn : Nat} {S : HS} (h : P_L_law_457 scL scx Q X23 v1 v2 v3 v4 kk nn S) : WS X 7 kk nn 457 [(0, .ref scb), (1, .ref v1), (2, .ref v2), (3, .ref v3), (4, .int v4)] [] S := by
  refine r_aload_n (pc := 457) C dL_law_457 1 rfl ?_
  refine r_aload_n (pc := 458) C dL_law_458 0 rfl ?_
  refine r_iload (pc := 459) C dL_law_459 4 rfl ?_
  refine r_iconst (pc := 461) C (v := (1 : Int32)) dL_law_461 (by decide) ?_
  refine r_iadd (pc := 462) C dL_law_462 ?_
  refine r_topi (fun x1 ex1 => ?_)
  have h := h x1 ex1
  obtain ⟨i2, h⟩ := h
  refine r_scLd (pc := 463) C E i2 dL_law_463 ?_
  refine r_topi (fun x3 ex3 => ?_)
  have h := h x3 ex3
  refine r_aload_n (pc := 464) C dL_law_464 0 rfl ?_
  refine r_iload (pc := 465) C dL_law_465 4 rfl ?_
  refine r_iconst (pc := 467) C (v := (2 : Int32)) dL_law_467 (by decide) ?_
  refine r_iadd (pc := 468) C dL_law_468 ?_
  refine r_topi (fun x4 ex4 => ?_)
  have h := h x4 ex4
  obtain ⟨i5, h⟩ := h
  refine r_scLd (pc := 469) C E i5 dL_law_469 ?_
  refine r_topi (fun x6 ex6 => ?_)
  have h := h x6 ex6
  refine r_aload_n (pc := 470) C dL_law_470 0 rfl ?_
  refine r_iload (pc := 471) C dL_law_471 4 rfl ?_
  refine r_iconst (pc := 473) C (v := (3 : Int32)) dL_law_473 (by decide) ?_
  refine r_iadd (pc := 474) C dL_law_474 ?_
  refine r_topi (fun x7 ex7 => ?_)
  have h := h x7 ex7
  obtain ⟨i8, h⟩ := h
  refine r_scLd (pc := 475) C E i8 dL_law_475 ?_
  refine r_topi (fun x9 ex9 => ?_)
  have h := h x9 ex9
  refine r_aload_n (pc := 476) C dL_law_476 0 rfl ?_
  refine r_iload (pc := 477) C dL_law_477 4 rfl ?_
  refine r_iconst (pc := 479) C (v := (4 : Int32)) dL_law_479 (by decide) ?_
  refine r_iadd (pc := 480) C dL_law_480 ?_
  refine r_topi (fun x10 ex10 => ?_)
  have h := h x10 ex10
  obtain ⟨i11, h⟩ := h
  refine r_scLd (pc := 481) C E i11 dL_law_481 ?_
  refine r_topi (fun x12 ex12 => ?_)
  have h := h x12 ex12
  refine r_aload_n (pc := 482) C dL_law_482 0 rfl ?_
  refine r_iload (pc := 483) C dL_law_483 4 rfl ?_
  refine r_iconst (pc := 485) C (v := (5 : Int32)) dL_law_485 (by decide) ?_
  refine r_iadd (pc := 486) C dL_law_486 ?_
  refine r_topi (fun x13 ex13 => ?_)
  have h := h x13 ex13
  obtain ⟨i14, h⟩ := h
  refine r_scLd (pc := 487) C E i14 dL_law_487 ?_
  refine r_topi (fun x15 ex15 => ?_)
  have h := h x15 ex15
  refine r_aload_n (pc := 488) C dL_law_488 0 rfl ?_
  refine r_iload (pc := 489) C dL_law_489 4 rfl ?_
  refine r_bipush (pc := 491) C (v := (6 : Int32)) dL_law_491 (by decide) ?_
  refine r_iadd (pc := 493) C dL_law_493 ?_
  refine r_topi (fun x16 ex16 => ?_)
  have h := h x16 ex16
  obtain ⟨i17, h⟩ := h
  refine r_scLd (pc := 494) C E i17 dL_law_494 ?_
  refine r_topi (fun x18 ex18 => ?_)
  have h := h x18 ex18
  refine r_if_eq (pc := 495) C (tgt := 502) dL_law_495 (by decide) (fun c19 => ?_) (fun c19 => ?_)
  · have h := h.1 c19
    refine r_iconst (pc := 502) C (v := (0 : Int32)) dL_law_502 (by decide) ?_
    exact r_sub [0, 1, 2, 3, 4] rfl (T_L_law_503 C E ht hn hX23 h)
  · have h := h.2 c19
    refine r_iconst (pc := 498) C (v := (1 : Int32)) dL_law_498 (by decide) ?_
    refine r_goto (pc := 499) C (tgt := 503) dL_law_499 (by decide) ?_
    exact r_sub [0, 1, 2, 3, 4] rfl (T_L_law_503 C E ht hn hX23 h)
def P_L_law_656 (scL : Nat) (scx : Nat → Int32) (Q : Int32 → HS → Prop) (X23 : Nat → Nat → Nat → Int32 → Nat → Nat → HS → Prop) (v1 : Nat) (v2 : Nat) (v3 : Nat) (v4 : Int32) (s0 : Nat) (s1 : Int32) (s2 : Int32) (s3 : Int32) (s4 : Int32) (s5 : Int32) (s6 : Int32) (kk : Nat) (nn : Nat) (S : HS) : Prop := ob S s0 11 ∧ (kk ≤ rm_L_law.cells ∧ nn ≤ rm_L_law.slots ∧ (P_X11_mean s0 s1 s2 s3 s4 s5 s6 (fun x3 S1 => Gr S S1 → (P_L_law_2341 scL scx Q X23 v1 v2 v3 v4 kk nn S1)) S))
set_option maxRecDepth 20000 in
set_option maxHeartbeats 4000000 in
theorem T_L_law_656 {X : CX} {Q : Int32 → HS → Prop} {scb scL : Nat} {scx : Nat → Int32} (C : Cx X cL_law RL 7 rm_L_law) (E : LE X scb scL scx Q) (ht : LD X) (hn : True) {X23 : Nat → Nat → Nat → Int32 → Nat → Nat → HS → Prop} (hX23 : ∀ (v1 : Nat) (v2 : Nat) (v3 : Nat) (v4 : Int32) (kk : Nat) (nn : Nat) (S : HS), X23 v1 v2 v3 v4 kk nn S → WS X 7 kk nn 23 [(0, .ref scb), (1, .ref v1), (2, .ref v2), (3, .ref v3), (4, .int v4)] [] S) {v1 : Nat} {v2 : Nat} {v3 : Nat} {v4 : Int32} {s0 : Nat} {s1 : Int32} {s2 : Int32} {s3 : Int32} {s4 : Int32} {s5 : Int32} {s6 : Int32} {kk : Nat} {nn : Nat} {S : HS} (h : P_L_law_656 scL scx Q X23 v1 v2 v3 v4 s0 s1 s2 s3 s4 s5 s6 kk nn S) : WS X 7 kk nn 656 [(0, .ref scb), (1, .ref v1), (2, .ref v2), (3, .ref v3), (4, .int v4)] [.int s6, .int s5, .int s4, .int s3, .int s2, .int s1, .ref s0] S := by
  obtain ⟨o_s0, h⟩ := h
  obtain ⟨hk, hk2, h⟩ := h
  refine r_callVl0 (pc := 656) C (rest := []) (a := s0) o_s0 [.int s1, .int s2, .int s3, .int s4, .int s5, .int s6] yV_X11_mean g_1598 (c_X11_mean h) dL_law_656 rfl rfl (Nat.le_of_ble_eq_true rfl) ⟨by decide, by decide⟩ ⟨hk, hk2⟩ ⟨rfl, rfl⟩ (fun x3 S1 h g2 => ?_)
  have h := h g2
  have o_s0 := gr_ob g2 o_s0
  refine r_pop2 (pc := 659) C dL_law_659 rfl ?_
  refine r_goto (pc := 660) C (tgt := 2341) dL_law_660 (by decide) ?_
  exact r_sub [0, 1, 2, 3, 4] rfl (T_L_law_2341 C E ht hn hX23 h)
def P_L_law_606 (scL : Nat) (scx : Nat → Int32) (Q : Int32 → HS → Prop) (X23 : Nat → Nat → Nat → Int32 → Nat → Nat → HS → Prop) (v1 : Nat) (v2 : Nat) (v3 : Nat) (v4 : Int32) (s0 : Nat) (s1 : Int32) (s2 : Int32) (s3 : Int32) (s4 : Int32) (s5 : Int32) (s6 : Int32) (kk : Nat) (nn : Nat) (S : HS) : Prop := ob S s0 9 ∧ (kk ≤ rm_L_law.cells ∧ nn ≤ rm_L_law.slots ∧ (P_X9_mean s0 s1 s2 s3 s4 s5 s6 (fun x3 S1 => Gr S S1 → (∀ x4 : Int32, x4 = v4 + (1 : Int32) → (vp_in x4 scL ∧ ∀ x6 : Int32, x6 = scx x4.toNatClampNeg → (∀ x7 : Int32, x7 = v4 + (2 : Int32) → (vp_in x7 scL ∧ ∀ x9 : Int32, x9 = scx x7.toNatClampNeg → (∀ x10 : Int32, x10 = v4 + (3 : Int32) → (vp_in x10 scL ∧ ∀ x12 : Int32, x12 = scx x10.toNatClampNeg → (∀ x13 : Int32, x13 = v4 + (4 : Int32) → (vp_in x13 scL ∧ ∀ x15 : Int32, x15 = scx x13.toNatClampNeg → (∀ x16 : Int32, x16 = v4 + (5 : Int32) → (vp_in x16 scL ∧ ∀ x18 : Int32, x18 = scx x16.toNatClampNeg → (∀ x19 : Int32, x19 = v4 + (6 : Int32) → (vp_in x19 scL ∧ ∀ x21 : Int32, x21 = scx x19.toNatClampNeg → (((x21 = 0) → (P_L_law_656 scL scx Q X23 v1 v2 v3 v4 v2 x6 x9 x12 x15 x18 (0 : Int32) kk nn S1)) ∧ ((¬ x21 = 0) → (P_L_law_656 scL scx Q X23 v1 v2 v3 v4 v2 x6 x9 x12 x15 x18 (1 : Int32) kk nn S1)))))))))))))))) S))
set_option maxRecDepth 20000 in
set_option maxHeartbeats 4000000 in
theorem T_L_law_606 {X : CX} {Q : Int32 → HS → Prop} {scb scL : Nat} {scx : Nat → Int32} (C : Cx X cL_law RL 7 rm_L_law) (E : LE X scb scL scx Q) (ht : LD X) (hn : True) {X23 : Nat → Nat → Nat → Int32 → Nat → Nat → HS → Prop} (hX23 : ∀ (v1 : Nat) (v2 : Nat) (v3 : Nat) (v4 : Int32) (kk : Nat) (nn : Nat) (S : HS), X23 v1 v2 v3 v4 kk nn S → WS X 7 kk nn 23 [(0, .ref scb), (1, .ref v1), (2, .ref v2), (3, .ref v3), (4, .int v4)] [] S) {v1 : Nat} {v2 : Nat} {v3 : Nat} {v4 : Int32} {s0 : Nat} {s1 : Int32} {s2 : Int32} {s3 : Int32} {s4 : Int32} {s5 : Int32} {s6 : Int32} {kk : Nat} {nn : Nat} {S : HS} (h : P_L_law_606 scL scx Q X23 v1 v2 v3 v4 s0 s1 s2 s3 s4 s5 s6 kk nn S) : WS X 7 kk nn 606 [(0, .ref scb), (1, .ref v1), (2, .ref v2), (3, .ref v3), (4, .int v4)] [.int s6, .int s5, .int s4, .int s3, .int s2, .int s1, .ref s0] S := by
  obtain ⟨o_s0, h⟩ := h
  obtain ⟨hk, hk2, h⟩ := h
  refine r_callVl0 (pc := 606) C (rest := []) (a := s0) o_s0 [.int s1, .int s2, .int s3, .int s4, .int s5, .int s6] yV_X9_mean g_732 (c_X9_mean h) dL_law_606 rfl rfl (Nat.le_of_ble_eq_true rfl) ⟨by decide, by decide⟩ ⟨hk, hk2⟩ ⟨rfl, rfl⟩ (fun x3 S1 h g2 => ?_)
  have h := h g2
  have o_s0 := gr_ob g2 o_s0
  refine r_pop2 (pc := 609) C dL_law_609 rfl ?_
  refine r_aload_n (pc := 610) C dL_law_610 2 rfl ?_
  refine r_aload_n (pc := 611) C dL_law_611 0 rfl ?_
  refine r_iload (pc := 612) C dL_law_612 4 rfl ?_
  refine r_iconst (pc := 614) C (v := (1 : Int32)) dL_law_614 (by decide) ?_
  refine r_iadd (pc := 615) C dL_law_615 ?_
  refine r_topi (fun x4 ex4 => ?_)
  have h := h x4 ex4
  obtain ⟨i5, h⟩ := h
  refine r_scLd (pc := 616) C E i5 dL_law_616 ?_
  refine r_topi (fun x6 ex6 => ?_)
  have h := h x6 ex6
  refine r_aload_n (pc := 617) C dL_law_617 0 rfl ?_
  refine r_iload (pc := 618) C dL_law_618 4 rfl ?_
  refine r_iconst (pc := 620) C (v := (2 : Int32)) dL_law_620 (by decide) ?_
  refine r_iadd (pc := 621) C dL_law_621 ?_
  refine r_topi (fun x7 ex7 => ?_)
  have h := h x7 ex7
  obtain ⟨i8, h⟩ := h
  refine r_scLd (pc := 622) C E i8 dL_law_622 ?_
  refine r_topi (fun x9 ex9 => ?_)
  have h := h x9 ex9
  refine r_aload_n (pc := 623) C dL_law_623 0 rfl ?_
  refine r_iload (pc := 624) C dL_law_624 4 rfl ?_
  refine r_iconst (pc := 626) C (v := (3 : Int32)) dL_law_626 (by decide) ?_
  refine r_iadd (pc := 627) C dL_law_627 ?_
  refine r_topi (fun x10 ex10 => ?_)
  have h := h x10 ex10
  obtain ⟨i11, h⟩ := h
  refine r_scLd (pc := 628) C E i11 dL_law_628 ?_
  refine r_topi (fun x12 ex12 => ?_)
  have h := h x12 ex12
  refine r_aload_n (pc := 629) C dL_law_629 0 rfl ?_
  refine r_iload (pc := 630) C dL_law_630 4 rfl ?_
  refine r_iconst (pc := 632) C (v := (4 : Int32)) dL_law_632 (by decide) ?_
  refine r_iadd (pc := 633) C dL_law_633 ?_
  refine r_topi (fun x13 ex13 => ?_)
  have h := h x13 ex13
  obtain ⟨i14, h⟩ := h
  refine r_scLd (pc := 634) C E i14 dL_law_634 ?_
  refine r_topi (fun x15 ex15 => ?_)
  have h := h x15 ex15
  refine r_aload_n (pc := 635) C dL_law_635 0 rfl ?_
  refine r_iload (pc := 636) C dL_law_636 4 rfl ?_
  refine r_iconst (pc := 638) C (v := (5 : Int32)) dL_law_638 (by decide) ?_
  refine r_iadd (pc := 639) C dL_law_639 ?_
  refine r_topi (fun x16 ex16 => ?_)
  have h := h x16 ex16
  obtain ⟨i17, h⟩ := h
  refine r_scLd (pc := 640) C E i17 dL_law_640 ?_
  refine r_topi (fun x18 ex18 => ?_)
  have h := h x18 ex18
  refine r_aload_n (pc := 641) C dL_law_641 0 rfl ?_
  refine r_iload (pc := 642) C dL_law_642 4 rfl ?_
  refine r_bipush (pc := 644) C (v := (6 : Int32)) dL_law_644 (by decide) ?_
  refine r_iadd (pc := 646) C dL_law_646 ?_
  refine r_topi (fun x19 ex19 => ?_)
  have h := h x19 ex19
  obtain ⟨i20, h⟩ := h
  refine r_scLd (pc := 647) C E i20 dL_law_647 ?_
  refine r_topi (fun x21 ex21 => ?_)
  have h := h x21 ex21
  refine r_if_eq (pc := 648) C (tgt := 655) dL_law_648 (by decide) (fun c22 => ?_) (fun c22 => ?_)
  · have h := h.1 c22
    refine r_iconst (pc := 655) C (v := (0 : Int32)) dL_law_655 (by decide) ?_
    exact r_sub [0, 1, 2, 3, 4] rfl (T_L_law_656 C E ht hn hX23 h)
  · have h := h.2 c22
    refine r_iconst (pc := 651) C (v := (1 : Int32)) dL_law_651 (by decide) ?_
    refine r_goto (pc := 652) C (tgt := 656) dL_law_652 (by decide) ?_
    exact r_sub [0, 1, 2, 3, 4] rfl (T_L_law_656 C E ht hn hX23 h)
def P_L_law_560 (scL : Nat) (scx : Nat → Int32) (Q : Int32 → HS → Prop) (X23 : Nat → Nat → Nat → Int32 → Nat → Nat → HS → Prop) (v1 : Nat) (v2 : Nat) (v3 : Nat) (v4 : Int32) (kk : Nat) (nn : Nat) (S : HS) : Prop := ∀ x1 : Int32, x1 = v4 + (1 : Int32) → (vp_in x1 scL ∧ ∀ x3 : Int32, x3 = scx x1.toNatClampNeg → (∀ x4 : Int32, x4 = v4 + (2 : Int32) → (vp_in x4 scL ∧ ∀ x6 : Int32, x6 = scx x4.toNatClampNeg → (∀ x7 : Int32, x7 = v4 + (3 : Int32) → (vp_in x7 scL ∧ ∀ x9 : Int32, x9 = scx x7.toNatClampNeg → (∀ x10 : Int32, x10 = v4 + (4 : Int32) → (vp_in x10 scL ∧ ∀ x12 : Int32, x12 = scx x10.toNatClampNeg → (∀ x13 : Int32, x13 = v4 + (5 : Int32) → (vp_in x13 scL ∧ ∀ x15 : Int32, x15 = scx x13.toNatClampNeg → (∀ x16 : Int32, x16 = v4 + (6 : Int32) → (vp_in x16 scL ∧ ∀ x18 : Int32, x18 = scx x16.toNatClampNeg → (((x18 = 0) → (P_L_law_606 scL scx Q X23 v1 v2 v3 v4 v1 x3 x6 x9 x12 x15 (0 : Int32) kk nn S)) ∧ ((¬ x18 = 0) → (P_L_law_606 scL scx Q X23 v1 v2 v3 v4 v1 x3 x6 x9 x12 x15 (1 : Int32) kk nn S))))))))))))))
set_option maxRecDepth 20000 in
set_option maxHeartbeats 4000000 in
theorem T_L_law_560 {X : CX} {Q : Int32 → HS → Prop} {scb scL : Nat} {scx : Nat → Int32} (C : Cx X cL_law RL 7 rm_L_law) (E : LE X scb scL scx Q) (ht : LD X) (hn : True) {X23 : Nat → Nat → Nat → Int32 → Nat → Nat → HS → Prop} (hX23 : ∀ (v1 : Nat) (v2 : Nat) (v3 : Nat) (v4 : Int32) (kk : Nat) (nn : Nat) (S : HS), X23 v1 v2 v3 v4 kk nn S → WS X 7 kk nn 23 [(0, .ref scb), (1, .ref v1), (2, .ref v2), (3, .ref v3), (4, .int v4)] [] S) {v1 : Nat} {v2 : Nat} {v3 : Nat} {v4 : Int32} {kk : Nat} {nn : Nat} {S : HS} (h : P_L_law_560 scL scx Q X23 v1 v2 v3 v4 kk nn S) : WS X 7 kk nn 560 [(0, .ref scb), (1, .ref v1), (2, .ref v2), (3, .ref v3), (4, .int v4)] [] S := by
  refine r_aload_n (pc := 560) C dL_law_560 1 rfl ?_
  refine r_aload_n (pc := 561) C dL_law_561 0 rfl ?_
  refine r_iload (pc := 562) C dL_law_562 4 rfl ?_
  refine r_iconst (pc := 564) C (v := (1 : Int32)) dL_law_564 (by decide) ?_
  refine r_iadd (pc := 565) C dL_law_565 ?_
  refine r_topi (fun x1 ex1 => ?_)
  have h := h x1 ex1
  obtain ⟨i2, h⟩ := h
  refine r_scLd (pc := 566) C E i2 dL_law_566 ?_
  refine r_topi (fun x3 ex3 => ?_)
  have h := h x3 ex3
  refine r_aload_n (pc := 567) C dL_law_567 0 rfl ?_
  refine r_iload (pc := 568) C dL_law_568 4 rfl ?_
  refine r_iconst (pc := 570) C (v := (2 : Int32)) dL_law_570 (by decide) ?_
  refine r_iadd (pc := 571) C dL_law_571 ?_
  refine r_topi (fun x4 ex4 => ?_)
  have h := h x4 ex4
  obtain ⟨i5, h⟩ := h
  refine r_scLd (pc := 572) C E i5 dL_law_572 ?_
  refine r_topi (fun x6 ex6 => ?_)
  have h := h x6 ex6
  refine r_aload_n (pc := 573) C dL_law_573 0 rfl ?_
  refine r_iload (pc := 574) C dL_law_574 4 rfl ?_
  refine r_iconst (pc := 576) C (v := (3 : Int32)) dL_law_576 (by decide) ?_
  refine r_iadd (pc := 577) C dL_law_577 ?_
  refine r_topi (fun x7 ex7 => ?_)
  have h := h x7 ex7
  obtain ⟨i8, h⟩ := h
  refine r_scLd (pc := 578) C E i8 dL_law_578 ?_
  refine r_topi (fun x9 ex9 => ?_)
  have h := h x9 ex9
  refine r_aload_n (pc := 579) C dL_law_579 0 rfl ?_
  refine r_iload (pc := 580) C dL_law_580 4 rfl ?_
  refine r_iconst (pc := 582) C (v := (4 : Int32)) dL_law_582 (by decide) ?_
  refine r_iadd (pc := 583) C dL_law_583 ?_
  refine r_topi (fun x10 ex10 => ?_)
  have h := h x10 ex10
  obtain ⟨i11, h⟩ := h
  refine r_scLd (pc := 584) C E i11 dL_law_584 ?_
  refine r_topi (fun x12 ex12 => ?_)
  have h := h x12 ex12
  refine r_aload_n (pc := 585) C dL_law_585 0 rfl ?_
  refine r_iload (pc := 586) C dL_law_586 4 rfl ?_
  refine r_iconst (pc := 588) C (v := (5 : Int32)) dL_law_588 (by decide) ?_
  refine r_iadd (pc := 589) C dL_law_589 ?_
  refine r_topi (fun x13 ex13 => ?_)
  have h := h x13 ex13
  obtain ⟨i14, h⟩ := h
  refine r_scLd (pc := 590) C E i14 dL_law_590 ?_
  refine r_topi (fun x15 ex15 => ?_)
  have h := h x15 ex15
  refine r_aload_n (pc := 591) C dL_law_591 0 rfl ?_
  refine r_iload (pc := 592) C dL_law_592 4 rfl ?_
  refine r_bipush (pc := 594) C (v := (6 : Int32)) dL_law_594 (by decide) ?_
  refine r_iadd (pc := 596) C dL_law_596 ?_
  refine r_topi (fun x16 ex16 => ?_)
  have h := h x16 ex16
  obtain ⟨i17, h⟩ := h
  refine r_scLd (pc := 597) C E i17 dL_law_597 ?_
  refine r_topi (fun x18 ex18 => ?_)
  have h := h x18 ex18
  refine r_if_eq (pc := 598) C (tgt := 605) dL_law_598 (by decide) (fun c19 => ?_) (fun c19 => ?_)
  · have h := h.1 c19
    refine r_iconst (pc := 605) C (v := (0 : Int32)) dL_law_605 (by decide) ?_
    exact r_sub [0, 1, 2, 3, 4] rfl (T_L_law_606 C E ht hn hX23 h)
  · have h := h.2 c19
    refine r_iconst (pc := 601) C (v := (1 : Int32)) dL_law_601 (by decide) ?_
    refine r_goto (pc := 602) C (tgt := 606) dL_law_602 (by decide) ?_
    exact r_sub [0, 1, 2, 3, 4] rfl (T_L_law_606 C E ht hn hX23 h)
def P_L_law_663 (scL : Nat) (scx : Nat → Int32) (Q : Int32 → HS → Prop) (X23 : Nat → Nat → Nat → Int32 → Nat → Nat → HS → Prop) (v1 : Nat) (v2 : Nat) (v3 : Nat) (v4 : Int32) (kk : Nat) (nn : Nat) (S : HS) : Prop := ∀ x1 : Int32, x1 = v4 + (1 : Int32) → (vp_in x1 scL ∧ ∀ x3 : Int32, x3 = scx x1.toNatClampNeg → (∀ x4 : Int32, x4 = v4 + (2 : Int32) → (vp_in x4 scL ∧ ∀ x6 : Int32, x6 = scx x4.toNatClampNeg → (∀ x7 : Int32, x7 = v4 + (3 : Int32) → (vp_in x7 scL ∧ ∀ x9 : Int32, x9 = scx x7.toNatClampNeg → (ob S v1 9 ∧ (kk ≤ rm_L_law.cells ∧ nn ≤ rm_L_law.slots ∧ (P_X9_minutes v1 x3 x6 x9 (fun x12 S10 => Gr S S10 → (∀ x13 : Int32, x13 = v4 + (1 : Int32) → (vp_in x13 scL ∧ ∀ x15 : Int32, x15 = scx x13.toNatClampNeg → (∀ x16 : Int32, x16 = v4 + (2 : Int32) → (vp_in x16 scL ∧ ∀ x18 : Int32, x18 = scx x16.toNatClampNeg → (∀ x19 : Int32, x19 = v4 + (3 : Int32) → (vp_in x19 scL ∧ ∀ x21 : Int32, x21 = scx x19.toNatClampNeg → (ob S10 v2 11 ∧ (kk ≤ rm_L_law.cells ∧ nn ≤ rm_L_law.slots ∧ (P_X11_minutes v2 x15 x18 x21 (fun x24 S22 => Gr S10 S22 → (P_L_law_2341 scL scx Q X23 v1 v2 v3 v4 kk nn S22)) S10)))))))))) S))))))))
set_option maxRecDepth 20000 in
set_option maxHeartbeats 4000000 in
theorem T_L_law_663 {X : CX} {Q : Int32 → HS → Prop} {scb scL : Nat} {scx : Nat → Int32} (C : Cx X cL_law RL 7 rm_L_law) (E : LE X scb scL scx Q) (ht : LD X) (hn : True) {X23 : Nat → Nat → Nat → Int32 → Nat → Nat → HS → Prop} (hX23 : ∀ (v1 : Nat) (v2 : Nat) (v3 : Nat) (v4 : Int32) (kk : Nat) (nn : Nat) (S : HS), X23 v1 v2 v3 v4 kk nn S → WS X 7 kk nn 23 [(0, .ref scb), (1, .ref v1), (2, .ref v2), (3, .ref v3), (4, .int v4)] [] S) {v1 : Nat} {v2 : Nat} {v3 : Nat} {v4 : Int32} {kk : Nat} {nn : Nat} {S : HS} (h : P_L_law_663 scL scx Q X23 v1 v2 v3 v4 kk nn S) : WS X 7 kk nn 663 [(0, .ref scb), (1, .ref v1), (2, .ref v2), (3, .ref v3), (4, .int v4)] [] S := by
  refine r_aload_n (pc := 663) C dL_law_663 1 rfl ?_
  refine r_aload_n (pc := 664) C dL_law_664 0 rfl ?_
  refine r_iload (pc := 665) C dL_law_665 4 rfl ?_
  refine r_iconst (pc := 667) C (v := (1 : Int32)) dL_law_667 (by decide) ?_
  refine r_iadd (pc := 668) C dL_law_668 ?_
  refine r_topi (fun x1 ex1 => ?_)
  have h := h x1 ex1
  obtain ⟨i2, h⟩ := h
  refine r_scLd (pc := 669) C E i2 dL_law_669 ?_
  refine r_topi (fun x3 ex3 => ?_)
  have h := h x3 ex3
  refine r_aload_n (pc := 670) C dL_law_670 0 rfl ?_
  refine r_iload (pc := 671) C dL_law_671 4 rfl ?_
  refine r_iconst (pc := 673) C (v := (2 : Int32)) dL_law_673 (by decide) ?_
  refine r_iadd (pc := 674) C dL_law_674 ?_
  refine r_topi (fun x4 ex4 => ?_)
  have h := h x4 ex4
  obtain ⟨i5, h⟩ := h
  refine r_scLd (pc := 675) C E i5 dL_law_675 ?_
  refine r_topi (fun x6 ex6 => ?_)
  have h := h x6 ex6
  refine r_aload_n (pc := 676) C dL_law_676 0 rfl ?_
  refine r_iload (pc := 677) C dL_law_677 4 rfl ?_
  refine r_iconst (pc := 679) C (v := (3 : Int32)) dL_law_679 (by decide) ?_
  refine r_iadd (pc := 680) C dL_law_680 ?_
  refine r_topi (fun x7 ex7 => ?_)
  have h := h x7 ex7
  obtain ⟨i8, h⟩ := h
  refine r_scLd (pc := 681) C E i8 dL_law_681 ?_
  refine r_topi (fun x9 ex9 => ?_)
  have h := h x9 ex9
  obtain ⟨o_v1, h⟩ := h
  obtain ⟨hk, hk2, h⟩ := h
  refine r_callVi0 (pc := 682) C (rest := []) (a := v1) o_v1 [.int x3, .int x6, .int x9] yV_X9_minutes g_737 (c_X9_minutes h) dL_law_682 rfl rfl (Nat.le_of_ble_eq_true rfl) ⟨by decide, by decide⟩ ⟨hk, hk2⟩ ⟨rfl, rfl⟩ (fun x12 S10 h g11 => ?_)
  have h := h g11
  have o_v1 := gr_ob g11 o_v1
  refine r_pop (pc := 685) C dL_law_685 rfl ?_
  refine r_aload_n (pc := 686) C dL_law_686 2 rfl ?_
  refine r_aload_n (pc := 687) C dL_law_687 0 rfl ?_
  refine r_iload (pc := 688) C dL_law_688 4 rfl ?_
  refine r_iconst (pc := 690) C (v := (1 : Int32)) dL_law_690 (by decide) ?_
  refine r_iadd (pc := 691) C dL_law_691 ?_
  refine r_topi (fun x13 ex13 => ?_)
  have h := h x13 ex13
  obtain ⟨i14, h⟩ := h
  refine r_scLd (pc := 692) C E i14 dL_law_692 ?_
  refine r_topi (fun x15 ex15 => ?_)
  have h := h x15 ex15
  refine r_aload_n (pc := 693) C dL_law_693 0 rfl ?_
  refine r_iload (pc := 694) C dL_law_694 4 rfl ?_
  refine r_iconst (pc := 696) C (v := (2 : Int32)) dL_law_696 (by decide) ?_
  refine r_iadd (pc := 697) C dL_law_697 ?_
  refine r_topi (fun x16 ex16 => ?_)
  have h := h x16 ex16
  obtain ⟨i17, h⟩ := h
  refine r_scLd (pc := 698) C E i17 dL_law_698 ?_
  refine r_topi (fun x18 ex18 => ?_)
  have h := h x18 ex18
  refine r_aload_n (pc := 699) C dL_law_699 0 rfl ?_
  refine r_iload (pc := 700) C dL_law_700 4 rfl ?_
  refine r_iconst (pc := 702) C (v := (3 : Int32)) dL_law_702 (by decide) ?_
  refine r_iadd (pc := 703) C dL_law_703 ?_
  refine r_topi (fun x19 ex19 => ?_)
  have h := h x19 ex19
  obtain ⟨i20, h⟩ := h
  refine r_scLd (pc := 704) C E i20 dL_law_704 ?_
  refine r_topi (fun x21 ex21 => ?_)
  have h := h x21 ex21
  obtain ⟨o_v2, h⟩ := h
  obtain ⟨hk, hk2, h⟩ := h
  refine r_callVi0 (pc := 705) C (rest := []) (a := v2) o_v2 [.int x15, .int x18, .int x21] yV_X11_minutes g_1603 (c_X11_minutes h) dL_law_705 rfl rfl (Nat.le_of_ble_eq_true rfl) ⟨by decide, by decide⟩ ⟨hk, hk2⟩ ⟨rfl, rfl⟩ (fun x24 S22 h g23 => ?_)
  have h := h g23
  have o_v1 := gr_ob g23 o_v1
  have o_v2 := gr_ob g23 o_v2
  refine r_pop (pc := 708) C dL_law_708 rfl ?_
  refine r_goto (pc := 709) C (tgt := 2341) dL_law_709 (by decide) ?_
  exact r_sub [0, 1, 2, 3, 4] rfl (T_L_law_2341 C E ht hn hX23 h)
end
section
def P_L_law_712 (scL : Nat) (scx : Nat → Int32) (Q : Int32 → HS → Prop) (X23 : Nat → Nat → Nat → Int32 → Nat → Nat → HS → Prop) (v1 : Nat) (v2 : Nat) (v3 : Nat) (v4 : Int32) (kk : Nat) (nn : Nat) (S : HS) : Prop := ∀ x1 : Int32, x1 = v4 + (1 : Int32) → (vp_in x1 scL ∧ ∀ x3 : Int32, x3 = scx x1.toNatClampNeg → (∀ x4 : Int32, x4 = v4 + (2 : Int32) → (vp_in x4 scL ∧ ∀ x6 : Int32, x6 = scx x4.toNatClampNeg → (∀ x7 : Int32, x7 = v4 + (3 : Int32) → (vp_in x7 scL ∧ ∀ x9 : Int32, x9 = scx x7.toNatClampNeg → (ob S v1 9 ∧ (kk ≤ rm_L_law.cells ∧ nn ≤ rm_L_law.slots ∧ (P_X9_air v1 x3 x6 x9 (fun x12 S10 => Gr S S10 → (∀ x13 : Int32, x13 = v4 + (1 : Int32) → (vp_in x13 scL ∧ ∀ x15 : Int32, x15 = scx x13.toNatClampNeg → (∀ x16 : Int32, x16 = v4 + (2 : Int32) → (vp_in x16 scL ∧ ∀ x18 : Int32, x18 = scx x16.toNatClampNeg → (∀ x19 : Int32, x19 = v4 + (3 : Int32) → (vp_in x19 scL ∧ ∀ x21 : Int32, x21 = scx x19.toNatClampNeg → (ob S10 v2 11 ∧ (kk ≤ rm_L_law.cells ∧ nn ≤ rm_L_law.slots ∧ (P_X11_air v2 x15 x18 x21 (fun x24 S22 => Gr S10 S22 → (P_L_law_2341 scL scx Q X23 v1 v2 v3 v4 kk nn S22)) S10)))))))))) S))))))))
set_option maxRecDepth 20000 in
set_option maxHeartbeats 4000000 in
theorem T_L_law_712 {X : CX} {Q : Int32 → HS → Prop} {scb scL : Nat} {scx : Nat → Int32} (C : Cx X cL_law RL 7 rm_L_law) (E : LE X scb scL scx Q) (ht : LD X) (hn : True) {X23 : Nat → Nat → Nat → Int32 → Nat → Nat → HS → Prop} (hX23 : ∀ (v1 : Nat) (v2 : Nat) (v3 : Nat) (v4 : Int32) (kk : Nat) (nn : Nat) (S : HS), X23 v1 v2 v3 v4 kk nn S → WS X 7 kk nn 23 [(0, .ref scb), (1, .ref v1), (2, .ref v2), (3, .ref v3), (4, .int v4)] [] S) {v1 : Nat} {v2 : Nat} {v3 : Nat} {v4 : Int32} {kk : Nat} {nn : Nat} {S : HS} (h : P_L_law_712 scL scx Q X23 v1 v2 v3 v4 kk nn S) : WS X 7 kk nn 712 [(0, .ref scb), (1, .ref v1), (2, .ref v2), (3, .ref v3), (4, .int v4)] [] S := by
  refine r_aload_n (pc := 712) C dL_law_712 1 rfl ?_
  refine r_aload_n (pc := 713) C dL_law_713 0 rfl ?_
  refine r_iload (pc := 714) C dL_law_714 4 rfl ?_
  refine r_iconst (pc := 716) C (v := (1 : Int32)) dL_law_716 (by decide) ?_
  refine r_iadd (pc := 717) C dL_law_717 ?_
  refine r_topi (fun x1 ex1 => ?_)
  have h := h x1 ex1
  obtain ⟨i2, h⟩ := h
  refine r_scLd (pc := 718) C E i2 dL_law_718 ?_
  refine r_topi (fun x3 ex3 => ?_)
  have h := h x3 ex3
  refine r_aload_n (pc := 719) C dL_law_719 0 rfl ?_
  refine r_iload (pc := 720) C dL_law_720 4 rfl ?_
  refine r_iconst (pc := 722) C (v := (2 : Int32)) dL_law_722 (by decide) ?_
  refine r_iadd (pc := 723) C dL_law_723 ?_
  refine r_topi (fun x4 ex4 => ?_)
  have h := h x4 ex4
  obtain ⟨i5, h⟩ := h
  refine r_scLd (pc := 724) C E i5 dL_law_724 ?_
  refine r_topi (fun x6 ex6 => ?_)
  have h := h x6 ex6
  refine r_aload_n (pc := 725) C dL_law_725 0 rfl ?_
  refine r_iload (pc := 726) C dL_law_726 4 rfl ?_
  refine r_iconst (pc := 728) C (v := (3 : Int32)) dL_law_728 (by decide) ?_
  refine r_iadd (pc := 729) C dL_law_729 ?_
  refine r_topi (fun x7 ex7 => ?_)
  have h := h x7 ex7
  obtain ⟨i8, h⟩ := h
  refine r_scLd (pc := 730) C E i8 dL_law_730 ?_
  refine r_topi (fun x9 ex9 => ?_)
  have h := h x9 ex9
  obtain ⟨o_v1, h⟩ := h
  obtain ⟨hk, hk2, h⟩ := h
  refine r_callVi0 (pc := 731) C (rest := []) (a := v1) o_v1 [.int x3, .int x6, .int x9] yV_X9_air g_745 (c_X9_air h) dL_law_731 rfl rfl (Nat.le_of_ble_eq_true rfl) ⟨by decide, by decide⟩ ⟨hk, hk2⟩ ⟨rfl, rfl⟩ (fun x12 S10 h g11 => ?_)
  have h := h g11
  have o_v1 := gr_ob g11 o_v1
  refine r_pop (pc := 734) C dL_law_734 rfl ?_
  refine r_aload_n (pc := 735) C dL_law_735 2 rfl ?_
  refine r_aload_n (pc := 736) C dL_law_736 0 rfl ?_
  refine r_iload (pc := 737) C dL_law_737 4 rfl ?_
  refine r_iconst (pc := 739) C (v := (1 : Int32)) dL_law_739 (by decide) ?_
  refine r_iadd (pc := 740) C dL_law_740 ?_
  refine r_topi (fun x13 ex13 => ?_)
  have h := h x13 ex13
  obtain ⟨i14, h⟩ := h
  refine r_scLd (pc := 741) C E i14 dL_law_741 ?_
  refine r_topi (fun x15 ex15 => ?_)
  have h := h x15 ex15
  refine r_aload_n (pc := 742) C dL_law_742 0 rfl ?_
  refine r_iload (pc := 743) C dL_law_743 4 rfl ?_
  refine r_iconst (pc := 745) C (v := (2 : Int32)) dL_law_745 (by decide) ?_
  refine r_iadd (pc := 746) C dL_law_746 ?_
  refine r_topi (fun x16 ex16 => ?_)
  have h := h x16 ex16
  obtain ⟨i17, h⟩ := h
  refine r_scLd (pc := 747) C E i17 dL_law_747 ?_
  refine r_topi (fun x18 ex18 => ?_)
  have h := h x18 ex18
  refine r_aload_n (pc := 748) C dL_law_748 0 rfl ?_
  refine r_iload (pc := 749) C dL_law_749 4 rfl ?_
  refine r_iconst (pc := 751) C (v := (3 : Int32)) dL_law_751 (by decide) ?_
  refine r_iadd (pc := 752) C dL_law_752 ?_
  refine r_topi (fun x19 ex19 => ?_)
  have h := h x19 ex19
  obtain ⟨i20, h⟩ := h
  refine r_scLd (pc := 753) C E i20 dL_law_753 ?_
  refine r_topi (fun x21 ex21 => ?_)
  have h := h x21 ex21
  obtain ⟨o_v2, h⟩ := h
  obtain ⟨hk, hk2, h⟩ := h
  refine r_callVi0 (pc := 754) C (rest := []) (a := v2) o_v2 [.int x15, .int x18, .int x21] yV_X11_air g_1611 (c_X11_air h) dL_law_754 rfl rfl (Nat.le_of_ble_eq_true rfl) ⟨by decide, by decide⟩ ⟨hk, hk2⟩ ⟨rfl, rfl⟩ (fun x24 S22 h g23 => ?_)
  have h := h g23
  have o_v1 := gr_ob g23 o_v1
  have o_v2 := gr_ob g23 o_v2
  refine r_pop (pc := 757) C dL_law_757 rfl ?_
  refine r_goto (pc := 758) C (tgt := 2341) dL_law_758 (by decide) ?_
  exact r_sub [0, 1, 2, 3, 4] rfl (T_L_law_2341 C E ht hn hX23 h)
def P_L_law_761 (scL : Nat) (scx : Nat → Int32) (Q : Int32 → HS → Prop) (X23 : Nat → Nat → Nat → Int32 → Nat → Nat → HS → Prop) (v1 : Nat) (v2 : Nat) (v3 : Nat) (v4 : Int32) (kk : Nat) (nn : Nat) (S : HS) : Prop := ∀ x1 : Int32, x1 = v4 + (1 : Int32) → (vp_in x1 scL ∧ ∀ x3 : Int32, x3 = scx x1.toNatClampNeg → (∀ x4 : Int32, x4 = v4 + (2 : Int32) → (vp_in x4 scL ∧ ∀ x6 : Int32, x6 = scx x4.toNatClampNeg → (∀ x7 : Int32, x7 = v4 + (3 : Int32) → (vp_in x7 scL ∧ ∀ x9 : Int32, x9 = scx x7.toNatClampNeg → (∀ x10 : Int32, x10 = v4 + (4 : Int32) → (vp_in x10 scL ∧ ∀ x12 : Int32, x12 = scx x10.toNatClampNeg → (∀ x13 : Int32, x13 = v4 + (5 : Int32) → (vp_in x13 scL ∧ ∀ x15 : Int32, x15 = scx x13.toNatClampNeg → (ob S v1 9 ∧ (kk ≤ rm_L_law.cells ∧ nn ≤ rm_L_law.slots ∧ (P_X9_held v1 x3 x6 x9 x12 x15 (fun x18 S16 => Gr S S16 → (∀ x19 : Int32, x19 = v4 + (1 : Int32) → (vp_in x19 scL ∧ ∀ x21 : Int32, x21 = scx x19.toNatClampNeg → (∀ x22 : Int32, x22 = v4 + (2 : Int32) → (vp_in x22 scL ∧ ∀ x24 : Int32, x24 = scx x22.toNatClampNeg → (∀ x25 : Int32, x25 = v4 + (3 : Int32) → (vp_in x25 scL ∧ ∀ x27 : Int32, x27 = scx x25.toNatClampNeg → (∀ x28 : Int32, x28 = v4 + (4 : Int32) → (vp_in x28 scL ∧ ∀ x30 : Int32, x30 = scx x28.toNatClampNeg → (∀ x31 : Int32, x31 = v4 + (5 : Int32) → (vp_in x31 scL ∧ ∀ x33 : Int32, x33 = scx x31.toNatClampNeg → (ob S16 v2 11 ∧ (kk ≤ rm_L_law.cells ∧ nn ≤ rm_L_law.slots ∧ (P_X11_held v2 x21 x24 x27 x30 x33 (fun x36 S34 => Gr S16 S34 → (P_L_law_2341 scL scx Q X23 v1 v2 v3 v4 kk nn S34)) S16)))))))))))))) S))))))))))))
set_option maxRecDepth 20000 in
set_option maxHeartbeats 4000000 in
theorem T_L_law_761 {X : CX} {Q : Int32 → HS → Prop} {scb scL : Nat} {scx : Nat → Int32} (C : Cx X cL_law RL 7 rm_L_law) (E : LE X scb scL scx Q) (ht : LD X) (hn : True) {X23 : Nat → Nat → Nat → Int32 → Nat → Nat → HS → Prop} (hX23 : ∀ (v1 : Nat) (v2 : Nat) (v3 : Nat) (v4 : Int32) (kk : Nat) (nn : Nat) (S : HS), X23 v1 v2 v3 v4 kk nn S → WS X 7 kk nn 23 [(0, .ref scb), (1, .ref v1), (2, .ref v2), (3, .ref v3), (4, .int v4)] [] S) {v1 : Nat} {v2 : Nat} {v3 : Nat} {v4 : Int32} {kk : Nat} {nn : Nat} {S : HS} (h : P_L_law_761 scL scx Q X23 v1 v2 v3 v4 kk nn S) : WS X 7 kk nn 761 [(0, .ref scb), (1, .ref v1), (2, .ref v2), (3, .ref v3), (4, .int v4)] [] S := by
  refine r_aload_n (pc := 761) C dL_law_761 1 rfl ?_
  refine r_aload_n (pc := 762) C dL_law_762 0 rfl ?_
  refine r_iload (pc := 763) C dL_law_763 4 rfl ?_
  refine r_iconst (pc := 765) C (v := (1 : Int32)) dL_law_765 (by decide) ?_
  refine r_iadd (pc := 766) C dL_law_766 ?_
  refine r_topi (fun x1 ex1 => ?_)
  have h := h x1 ex1
  obtain ⟨i2, h⟩ := h
  refine r_scLd (pc := 767) C E i2 dL_law_767 ?_
  refine r_topi (fun x3 ex3 => ?_)
  have h := h x3 ex3
  refine r_aload_n (pc := 768) C dL_law_768 0 rfl ?_
  refine r_iload (pc := 769) C dL_law_769 4 rfl ?_
  refine r_iconst (pc := 771) C (v := (2 : Int32)) dL_law_771 (by decide) ?_
  refine r_iadd (pc := 772) C dL_law_772 ?_
  refine r_topi (fun x4 ex4 => ?_)
  have h := h x4 ex4
  obtain ⟨i5, h⟩ := h
  refine r_scLd (pc := 773) C E i5 dL_law_773 ?_
  refine r_topi (fun x6 ex6 => ?_)
  have h := h x6 ex6
  refine r_aload_n (pc := 774) C dL_law_774 0 rfl ?_
  refine r_iload (pc := 775) C dL_law_775 4 rfl ?_
  refine r_iconst (pc := 777) C (v := (3 : Int32)) dL_law_777 (by decide) ?_
  refine r_iadd (pc := 778) C dL_law_778 ?_
  refine r_topi (fun x7 ex7 => ?_)
  have h := h x7 ex7
  obtain ⟨i8, h⟩ := h
  refine r_scLd (pc := 779) C E i8 dL_law_779 ?_
  refine r_topi (fun x9 ex9 => ?_)
  have h := h x9 ex9
  refine r_aload_n (pc := 780) C dL_law_780 0 rfl ?_
  refine r_iload (pc := 781) C dL_law_781 4 rfl ?_
  refine r_iconst (pc := 783) C (v := (4 : Int32)) dL_law_783 (by decide) ?_
  refine r_iadd (pc := 784) C dL_law_784 ?_
  refine r_topi (fun x10 ex10 => ?_)
  have h := h x10 ex10
  obtain ⟨i11, h⟩ := h
  refine r_scLd (pc := 785) C E i11 dL_law_785 ?_
  refine r_topi (fun x12 ex12 => ?_)
  have h := h x12 ex12
  refine r_aload_n (pc := 786) C dL_law_786 0 rfl ?_
  refine r_iload (pc := 787) C dL_law_787 4 rfl ?_
  refine r_iconst (pc := 789) C (v := (5 : Int32)) dL_law_789 (by decide) ?_
  refine r_iadd (pc := 790) C dL_law_790 ?_
  refine r_topi (fun x13 ex13 => ?_)
  have h := h x13 ex13
  obtain ⟨i14, h⟩ := h
  refine r_scLd (pc := 791) C E i14 dL_law_791 ?_
  refine r_topi (fun x15 ex15 => ?_)
  have h := h x15 ex15
  obtain ⟨o_v1, h⟩ := h
  obtain ⟨hk, hk2, h⟩ := h
  refine r_callVi0 (pc := 792) C (rest := []) (a := v1) o_v1 [.int x3, .int x6, .int x9, .int x12, .int x15] yV_X9_held g_750 (c_X9_held h) dL_law_792 rfl rfl (Nat.le_of_ble_eq_true rfl) ⟨by decide, by decide⟩ ⟨hk, hk2⟩ ⟨rfl, rfl⟩ (fun x18 S16 h g17 => ?_)
  have h := h g17
  have o_v1 := gr_ob g17 o_v1
  refine r_pop (pc := 795) C dL_law_795 rfl ?_
  refine r_aload_n (pc := 796) C dL_law_796 2 rfl ?_
  refine r_aload_n (pc := 797) C dL_law_797 0 rfl ?_
  refine r_iload (pc := 798) C dL_law_798 4 rfl ?_
  refine r_iconst (pc := 800) C (v := (1 : Int32)) dL_law_800 (by decide) ?_
  refine r_iadd (pc := 801) C dL_law_801 ?_
  refine r_topi (fun x19 ex19 => ?_)
  have h := h x19 ex19
  obtain ⟨i20, h⟩ := h
  refine r_scLd (pc := 802) C E i20 dL_law_802 ?_
  refine r_topi (fun x21 ex21 => ?_)
  have h := h x21 ex21
  refine r_aload_n (pc := 803) C dL_law_803 0 rfl ?_
  refine r_iload (pc := 804) C dL_law_804 4 rfl ?_
  refine r_iconst (pc := 806) C (v := (2 : Int32)) dL_law_806 (by decide) ?_
  refine r_iadd (pc := 807) C dL_law_807 ?_
  refine r_topi (fun x22 ex22 => ?_)
  have h := h x22 ex22
  obtain ⟨i23, h⟩ := h
  refine r_scLd (pc := 808) C E i23 dL_law_808 ?_
  refine r_topi (fun x24 ex24 => ?_)
  have h := h x24 ex24
  refine r_aload_n (pc := 809) C dL_law_809 0 rfl ?_
  refine r_iload (pc := 810) C dL_law_810 4 rfl ?_
  refine r_iconst (pc := 812) C (v := (3 : Int32)) dL_law_812 (by decide) ?_
  refine r_iadd (pc := 813) C dL_law_813 ?_
  refine r_topi (fun x25 ex25 => ?_)
  have h := h x25 ex25
  obtain ⟨i26, h⟩ := h
  refine r_scLd (pc := 814) C E i26 dL_law_814 ?_
  refine r_topi (fun x27 ex27 => ?_)
  have h := h x27 ex27
  refine r_aload_n (pc := 815) C dL_law_815 0 rfl ?_
  refine r_iload (pc := 816) C dL_law_816 4 rfl ?_
  refine r_iconst (pc := 818) C (v := (4 : Int32)) dL_law_818 (by decide) ?_
  refine r_iadd (pc := 819) C dL_law_819 ?_
  refine r_topi (fun x28 ex28 => ?_)
  have h := h x28 ex28
  obtain ⟨i29, h⟩ := h
  refine r_scLd (pc := 820) C E i29 dL_law_820 ?_
  refine r_topi (fun x30 ex30 => ?_)
  have h := h x30 ex30
  refine r_aload_n (pc := 821) C dL_law_821 0 rfl ?_
  refine r_iload (pc := 822) C dL_law_822 4 rfl ?_
  refine r_iconst (pc := 824) C (v := (5 : Int32)) dL_law_824 (by decide) ?_
  refine r_iadd (pc := 825) C dL_law_825 ?_
  refine r_topi (fun x31 ex31 => ?_)
  have h := h x31 ex31
  obtain ⟨i32, h⟩ := h
  refine r_scLd (pc := 826) C E i32 dL_law_826 ?_
  refine r_topi (fun x33 ex33 => ?_)
  have h := h x33 ex33
  obtain ⟨o_v2, h⟩ := h
  obtain ⟨hk, hk2, h⟩ := h
  refine r_callVi0 (pc := 827) C (rest := []) (a := v2) o_v2 [.int x21, .int x24, .int x27, .int x30, .int x33] yV_X11_held g_1619 (c_X11_held h) dL_law_827 rfl rfl (Nat.le_of_ble_eq_true rfl) ⟨by decide, by decide⟩ ⟨hk, hk2⟩ ⟨rfl, rfl⟩ (fun x36 S34 h g35 => ?_)
  have h := h g35
  have o_v1 := gr_ob g35 o_v1
  have o_v2 := gr_ob g35 o_v2
  refine r_pop (pc := 830) C dL_law_830 rfl ?_
  refine r_goto (pc := 831) C (tgt := 2341) dL_law_831 (by decide) ?_
  exact r_sub [0, 1, 2, 3, 4] rfl (T_L_law_2341 C E ht hn hX23 h)
def P_L_law_834 (scL : Nat) (scx : Nat → Int32) (Q : Int32 → HS → Prop) (X23 : Nat → Nat → Nat → Int32 → Nat → Nat → HS → Prop) (v1 : Nat) (v2 : Nat) (v3 : Nat) (v4 : Int32) (kk : Nat) (nn : Nat) (S : HS) : Prop := ∀ x1 : Int32, x1 = v4 + (1 : Int32) → (vp_in x1 scL ∧ ∀ x3 : Int32, x3 = scx x1.toNatClampNeg → (∀ x4 : Int32, x4 = v4 + (2 : Int32) → (vp_in x4 scL ∧ ∀ x6 : Int32, x6 = scx x4.toNatClampNeg → (∀ x7 : Int32, x7 = v4 + (3 : Int32) → (vp_in x7 scL ∧ ∀ x9 : Int32, x9 = scx x7.toNatClampNeg → (∀ x10 : Int32, x10 = v4 + (4 : Int32) → (vp_in x10 scL ∧ ∀ x12 : Int32, x12 = scx x10.toNatClampNeg → (ob S v1 9 ∧ (kk ≤ rm_L_law.cells ∧ nn ≤ rm_L_law.slots ∧ (P_X9_best v1 x3 x6 x9 x12 (fun x15 S13 => Gr S S13 → (∀ x16 : Int32, x16 = v4 + (1 : Int32) → (vp_in x16 scL ∧ ∀ x18 : Int32, x18 = scx x16.toNatClampNeg → (∀ x19 : Int32, x19 = v4 + (2 : Int32) → (vp_in x19 scL ∧ ∀ x21 : Int32, x21 = scx x19.toNatClampNeg → (∀ x22 : Int32, x22 = v4 + (3 : Int32) → (vp_in x22 scL ∧ ∀ x24 : Int32, x24 = scx x22.toNatClampNeg → (∀ x25 : Int32, x25 = v4 + (4 : Int32) → (vp_in x25 scL ∧ ∀ x27 : Int32, x27 = scx x25.toNatClampNeg → (ob S13 v2 11 ∧ (kk ≤ rm_L_law.cells ∧ nn ≤ rm_L_law.slots ∧ (P_X11_best v2 x18 x21 x24 x27 (fun x30 S28 => Gr S13 S28 → (P_L_law_2341 scL scx Q X23 v1 v2 v3 v4 kk nn S28)) S13)))))))))))) S))))))))))
set_option maxRecDepth 20000 in
set_option maxHeartbeats 4000000 in
theorem T_L_law_834 {X : CX} {Q : Int32 → HS → Prop} {scb scL : Nat} {scx : Nat → Int32} (C : Cx X cL_law RL 7 rm_L_law) (E : LE X scb scL scx Q) (ht : LD X) (hn : True) {X23 : Nat → Nat → Nat → Int32 → Nat → Nat → HS → Prop} (hX23 : ∀ (v1 : Nat) (v2 : Nat) (v3 : Nat) (v4 : Int32) (kk : Nat) (nn : Nat) (S : HS), X23 v1 v2 v3 v4 kk nn S → WS X 7 kk nn 23 [(0, .ref scb), (1, .ref v1), (2, .ref v2), (3, .ref v3), (4, .int v4)] [] S) {v1 : Nat} {v2 : Nat} {v3 : Nat} {v4 : Int32} {kk : Nat} {nn : Nat} {S : HS} (h : P_L_law_834 scL scx Q X23 v1 v2 v3 v4 kk nn S) : WS X 7 kk nn 834 [(0, .ref scb), (1, .ref v1), (2, .ref v2), (3, .ref v3), (4, .int v4)] [] S := by
  refine r_aload_n (pc := 834) C dL_law_834 1 rfl ?_
  refine r_aload_n (pc := 835) C dL_law_835 0 rfl ?_
  refine r_iload (pc := 836) C dL_law_836 4 rfl ?_
  refine r_iconst (pc := 838) C (v := (1 : Int32)) dL_law_838 (by decide) ?_
  refine r_iadd (pc := 839) C dL_law_839 ?_
  refine r_topi (fun x1 ex1 => ?_)
  have h := h x1 ex1
  obtain ⟨i2, h⟩ := h
  refine r_scLd (pc := 840) C E i2 dL_law_840 ?_
  refine r_topi (fun x3 ex3 => ?_)
  have h := h x3 ex3
  refine r_aload_n (pc := 841) C dL_law_841 0 rfl ?_
  refine r_iload (pc := 842) C dL_law_842 4 rfl ?_
  refine r_iconst (pc := 844) C (v := (2 : Int32)) dL_law_844 (by decide) ?_
  refine r_iadd (pc := 845) C dL_law_845 ?_
  refine r_topi (fun x4 ex4 => ?_)
  have h := h x4 ex4
  obtain ⟨i5, h⟩ := h
  refine r_scLd (pc := 846) C E i5 dL_law_846 ?_
  refine r_topi (fun x6 ex6 => ?_)
  have h := h x6 ex6
  refine r_aload_n (pc := 847) C dL_law_847 0 rfl ?_
  refine r_iload (pc := 848) C dL_law_848 4 rfl ?_
  refine r_iconst (pc := 850) C (v := (3 : Int32)) dL_law_850 (by decide) ?_
  refine r_iadd (pc := 851) C dL_law_851 ?_
  refine r_topi (fun x7 ex7 => ?_)
  have h := h x7 ex7
  obtain ⟨i8, h⟩ := h
  refine r_scLd (pc := 852) C E i8 dL_law_852 ?_
  refine r_topi (fun x9 ex9 => ?_)
  have h := h x9 ex9
  refine r_aload_n (pc := 853) C dL_law_853 0 rfl ?_
  refine r_iload (pc := 854) C dL_law_854 4 rfl ?_
  refine r_iconst (pc := 856) C (v := (4 : Int32)) dL_law_856 (by decide) ?_
  refine r_iadd (pc := 857) C dL_law_857 ?_
  refine r_topi (fun x10 ex10 => ?_)
  have h := h x10 ex10
  obtain ⟨i11, h⟩ := h
  refine r_scLd (pc := 858) C E i11 dL_law_858 ?_
  refine r_topi (fun x12 ex12 => ?_)
  have h := h x12 ex12
  obtain ⟨o_v1, h⟩ := h
  obtain ⟨hk, hk2, h⟩ := h
  refine r_callVi0 (pc := 859) C (rest := []) (a := v1) o_v1 [.int x3, .int x6, .int x9, .int x12] yV_X9_best g_756 (c_X9_best h) dL_law_859 rfl rfl (Nat.le_of_ble_eq_true rfl) ⟨by decide, by decide⟩ ⟨hk, hk2⟩ ⟨rfl, rfl⟩ (fun x15 S13 h g14 => ?_)
  have h := h g14
  have o_v1 := gr_ob g14 o_v1
  refine r_pop (pc := 862) C dL_law_862 rfl ?_
  refine r_aload_n (pc := 863) C dL_law_863 2 rfl ?_
  refine r_aload_n (pc := 864) C dL_law_864 0 rfl ?_
  refine r_iload (pc := 865) C dL_law_865 4 rfl ?_
  refine r_iconst (pc := 867) C (v := (1 : Int32)) dL_law_867 (by decide) ?_
  refine r_iadd (pc := 868) C dL_law_868 ?_
  refine r_topi (fun x16 ex16 => ?_)
  have h := h x16 ex16
  obtain ⟨i17, h⟩ := h
  refine r_scLd (pc := 869) C E i17 dL_law_869 ?_
  refine r_topi (fun x18 ex18 => ?_)
  have h := h x18 ex18
  refine r_aload_n (pc := 870) C dL_law_870 0 rfl ?_
  refine r_iload (pc := 871) C dL_law_871 4 rfl ?_
  refine r_iconst (pc := 873) C (v := (2 : Int32)) dL_law_873 (by decide) ?_
  refine r_iadd (pc := 874) C dL_law_874 ?_
  refine r_topi (fun x19 ex19 => ?_)
  have h := h x19 ex19
  obtain ⟨i20, h⟩ := h
  refine r_scLd (pc := 875) C E i20 dL_law_875 ?_
  refine r_topi (fun x21 ex21 => ?_)
  have h := h x21 ex21
  refine r_aload_n (pc := 876) C dL_law_876 0 rfl ?_
  refine r_iload (pc := 877) C dL_law_877 4 rfl ?_
  refine r_iconst (pc := 879) C (v := (3 : Int32)) dL_law_879 (by decide) ?_
  refine r_iadd (pc := 880) C dL_law_880 ?_
  refine r_topi (fun x22 ex22 => ?_)
  have h := h x22 ex22
  obtain ⟨i23, h⟩ := h
  refine r_scLd (pc := 881) C E i23 dL_law_881 ?_
  refine r_topi (fun x24 ex24 => ?_)
  have h := h x24 ex24
  refine r_aload_n (pc := 882) C dL_law_882 0 rfl ?_
  refine r_iload (pc := 883) C dL_law_883 4 rfl ?_
  refine r_iconst (pc := 885) C (v := (4 : Int32)) dL_law_885 (by decide) ?_
  refine r_iadd (pc := 886) C dL_law_886 ?_
  refine r_topi (fun x25 ex25 => ?_)
  have h := h x25 ex25
  obtain ⟨i26, h⟩ := h
  refine r_scLd (pc := 887) C E i26 dL_law_887 ?_
  refine r_topi (fun x27 ex27 => ?_)
  have h := h x27 ex27
  obtain ⟨o_v2, h⟩ := h
  obtain ⟨hk, hk2, h⟩ := h
  refine r_callVi0 (pc := 888) C (rest := []) (a := v2) o_v2 [.int x18, .int x21, .int x24, .int x27] yV_X11_best g_1623 (c_X11_best h) dL_law_888 rfl rfl (Nat.le_of_ble_eq_true rfl) ⟨by decide, by decide⟩ ⟨hk, hk2⟩ ⟨rfl, rfl⟩ (fun x30 S28 h g29 => ?_)
  have h := h g29
  have o_v1 := gr_ob g29 o_v1
  have o_v2 := gr_ob g29 o_v2
  refine r_pop (pc := 891) C dL_law_891 rfl ?_
  refine r_goto (pc := 892) C (tgt := 2341) dL_law_892 (by decide) ?_
  exact r_sub [0, 1, 2, 3, 4] rfl (T_L_law_2341 C E ht hn hX23 h)
def P_L_law_977 (scL : Nat) (scx : Nat → Int32) (Q : Int32 → HS → Prop) (X23 : Nat → Nat → Nat → Int32 → Nat → Nat → HS → Prop) (v1 : Nat) (v2 : Nat) (v3 : Nat) (v4 : Int32) (s0 : Nat) (s1 : Int32) (s2 : Int32) (s3 : Int32) (s4 : Int32) (s5 : Int32) (kk : Nat) (nn : Nat) (S : HS) : Prop := ob S s0 11 ∧ (kk ≤ rm_L_law.cells ∧ nn ≤ rm_L_law.slots ∧ (P_X11_saves s0 s1 s2 s3 s4 s5 (fun x3 S1 => Gr S S1 → (P_L_law_2341 scL scx Q X23 v1 v2 v3 v4 kk nn S1)) S))
set_option maxRecDepth 20000 in
set_option maxHeartbeats 4000000 in
theorem T_L_law_977 {X : CX} {Q : Int32 → HS → Prop} {scb scL : Nat} {scx : Nat → Int32} (C : Cx X cL_law RL 7 rm_L_law) (E : LE X scb scL scx Q) (ht : LD X) (hn : True) {X23 : Nat → Nat → Nat → Int32 → Nat → Nat → HS → Prop} (hX23 : ∀ (v1 : Nat) (v2 : Nat) (v3 : Nat) (v4 : Int32) (kk : Nat) (nn : Nat) (S : HS), X23 v1 v2 v3 v4 kk nn S → WS X 7 kk nn 23 [(0, .ref scb), (1, .ref v1), (2, .ref v2), (3, .ref v3), (4, .int v4)] [] S) {v1 : Nat} {v2 : Nat} {v3 : Nat} {v4 : Int32} {s0 : Nat} {s1 : Int32} {s2 : Int32} {s3 : Int32} {s4 : Int32} {s5 : Int32} {kk : Nat} {nn : Nat} {S : HS} (h : P_L_law_977 scL scx Q X23 v1 v2 v3 v4 s0 s1 s2 s3 s4 s5 kk nn S) : WS X 7 kk nn 977 [(0, .ref scb), (1, .ref v1), (2, .ref v2), (3, .ref v3), (4, .int v4)] [.int s5, .int s4, .int s3, .int s2, .int s1, .ref s0] S := by
  obtain ⟨o_s0, h⟩ := h
  obtain ⟨hk, hk2, h⟩ := h
  refine r_callVl0 (pc := 977) C (rest := []) (a := s0) o_s0 [.int s1, .int s2, .int s3, .int s4, .int s5] yV_X11_saves g_1631 (c_X11_saves h) dL_law_977 rfl rfl (Nat.le_of_ble_eq_true rfl) ⟨by decide, by decide⟩ ⟨hk, hk2⟩ ⟨rfl, rfl⟩ (fun x3 S1 h g2 => ?_)
  have h := h g2
  have o_s0 := gr_ob g2 o_s0
  refine r_pop2 (pc := 980) C dL_law_980 rfl ?_
  refine r_goto (pc := 981) C (tgt := 2341) dL_law_981 (by decide) ?_
  exact r_sub [0, 1, 2, 3, 4] rfl (T_L_law_2341 C E ht hn hX23 h)
def P_L_law_934 (scL : Nat) (scx : Nat → Int32) (Q : Int32 → HS → Prop) (X23 : Nat → Nat → Nat → Int32 → Nat → Nat → HS → Prop) (v1 : Nat) (v2 : Nat) (v3 : Nat) (v4 : Int32) (s0 : Nat) (s1 : Int32) (s2 : Int32) (s3 : Int32) (s4 : Int32) (s5 : Int32) (kk : Nat) (nn : Nat) (S : HS) : Prop := ob S s0 9 ∧ (kk ≤ rm_L_law.cells ∧ nn ≤ rm_L_law.slots ∧ (P_X9_saves s0 s1 s2 s3 s4 s5 (fun x3 S1 => Gr S S1 → (∀ x4 : Int32, x4 = v4 + (1 : Int32) → (vp_in x4 scL ∧ ∀ x6 : Int32, x6 = scx x4.toNatClampNeg → (∀ x7 : Int32, x7 = v4 + (2 : Int32) → (vp_in x7 scL ∧ ∀ x9 : Int32, x9 = scx x7.toNatClampNeg → (∀ x10 : Int32, x10 = v4 + (3 : Int32) → (vp_in x10 scL ∧ ∀ x12 : Int32, x12 = scx x10.toNatClampNeg → (∀ x13 : Int32, x13 = v4 + (4 : Int32) → (vp_in x13 scL ∧ ∀ x15 : Int32, x15 = scx x13.toNatClampNeg → (∀ x16 : Int32, x16 = v4 + (5 : Int32) → (vp_in x16 scL ∧ ∀ x18 : Int32, x18 = scx x16.toNatClampNeg → (((x18 = 0) → (P_L_law_977 scL scx Q X23 v1 v2 v3 v4 v2 x6 x9 x12 x15 (0 : Int32) kk nn S1)) ∧ ((¬ x18 = 0) → (P_L_law_977 scL scx Q X23 v1 v2 v3 v4 v2 x6 x9 x12 x15 (1 : Int32) kk nn S1)))))))))))))) S))
set_option maxRecDepth 20000 in
set_option maxHeartbeats 4000000 in
theorem T_L_law_934 {X : CX} {Q : Int32 → HS → Prop} {scb scL : Nat} {scx : Nat → Int32} (C : Cx X cL_law RL 7 rm_L_law) (E : LE X scb scL scx Q) (ht : LD X) (hn : True) {X23 : Nat → Nat → Nat → Int32 → Nat → Nat → HS → Prop} (hX23 : ∀ (v1 : Nat) (v2 : Nat) (v3 : Nat) (v4 : Int32) (kk : Nat) (nn : Nat) (S : HS), X23 v1 v2 v3 v4 kk nn S → WS X 7 kk nn 23 [(0, .ref scb), (1, .ref v1), (2, .ref v2), (3, .ref v3), (4, .int v4)] [] S) {v1 : Nat} {v2 : Nat} {v3 : Nat} {v4 : Int32} {s0 : Nat} {s1 : Int32} {s2 : Int32} {s3 : Int32} {s4 : Int32} {s5 : Int32} {kk : Nat} {nn : Nat} {S : HS} (h : P_L_law_934 scL scx Q X23 v1 v2 v3 v4 s0 s1 s2 s3 s4 s5 kk nn S) : WS X 7 kk nn 934 [(0, .ref scb), (1, .ref v1), (2, .ref v2), (3, .ref v3), (4, .int v4)] [.int s5, .int s4, .int s3, .int s2, .int s1, .ref s0] S := by
  obtain ⟨o_s0, h⟩ := h
  obtain ⟨hk, hk2, h⟩ := h
  refine r_callVl0 (pc := 934) C (rest := []) (a := s0) o_s0 [.int s1, .int s2, .int s3, .int s4, .int s5] yV_X9_saves g_766 (c_X9_saves h) dL_law_934 rfl rfl (Nat.le_of_ble_eq_true rfl) ⟨by decide, by decide⟩ ⟨hk, hk2⟩ ⟨rfl, rfl⟩ (fun x3 S1 h g2 => ?_)
  have h := h g2
  have o_s0 := gr_ob g2 o_s0
  refine r_pop2 (pc := 937) C dL_law_937 rfl ?_
  refine r_aload_n (pc := 938) C dL_law_938 2 rfl ?_
  refine r_aload_n (pc := 939) C dL_law_939 0 rfl ?_
  refine r_iload (pc := 940) C dL_law_940 4 rfl ?_
  refine r_iconst (pc := 942) C (v := (1 : Int32)) dL_law_942 (by decide) ?_
  refine r_iadd (pc := 943) C dL_law_943 ?_
  refine r_topi (fun x4 ex4 => ?_)
  have h := h x4 ex4
  obtain ⟨i5, h⟩ := h
  refine r_scLd (pc := 944) C E i5 dL_law_944 ?_
  refine r_topi (fun x6 ex6 => ?_)
  have h := h x6 ex6
  refine r_aload_n (pc := 945) C dL_law_945 0 rfl ?_
  refine r_iload (pc := 946) C dL_law_946 4 rfl ?_
  refine r_iconst (pc := 948) C (v := (2 : Int32)) dL_law_948 (by decide) ?_
  refine r_iadd (pc := 949) C dL_law_949 ?_
  refine r_topi (fun x7 ex7 => ?_)
  have h := h x7 ex7
  obtain ⟨i8, h⟩ := h
  refine r_scLd (pc := 950) C E i8 dL_law_950 ?_
  refine r_topi (fun x9 ex9 => ?_)
  have h := h x9 ex9
  refine r_aload_n (pc := 951) C dL_law_951 0 rfl ?_
  refine r_iload (pc := 952) C dL_law_952 4 rfl ?_
  refine r_iconst (pc := 954) C (v := (3 : Int32)) dL_law_954 (by decide) ?_
  refine r_iadd (pc := 955) C dL_law_955 ?_
  refine r_topi (fun x10 ex10 => ?_)
  have h := h x10 ex10
  obtain ⟨i11, h⟩ := h
  refine r_scLd (pc := 956) C E i11 dL_law_956 ?_
  refine r_topi (fun x12 ex12 => ?_)
  have h := h x12 ex12
  refine r_aload_n (pc := 957) C dL_law_957 0 rfl ?_
  refine r_iload (pc := 958) C dL_law_958 4 rfl ?_
  refine r_iconst (pc := 960) C (v := (4 : Int32)) dL_law_960 (by decide) ?_
  refine r_iadd (pc := 961) C dL_law_961 ?_
  refine r_topi (fun x13 ex13 => ?_)
  have h := h x13 ex13
  obtain ⟨i14, h⟩ := h
  refine r_scLd (pc := 962) C E i14 dL_law_962 ?_
  refine r_topi (fun x15 ex15 => ?_)
  have h := h x15 ex15
  refine r_aload_n (pc := 963) C dL_law_963 0 rfl ?_
  refine r_iload (pc := 964) C dL_law_964 4 rfl ?_
  refine r_iconst (pc := 966) C (v := (5 : Int32)) dL_law_966 (by decide) ?_
  refine r_iadd (pc := 967) C dL_law_967 ?_
  refine r_topi (fun x16 ex16 => ?_)
  have h := h x16 ex16
  obtain ⟨i17, h⟩ := h
  refine r_scLd (pc := 968) C E i17 dL_law_968 ?_
  refine r_topi (fun x18 ex18 => ?_)
  have h := h x18 ex18
  refine r_if_eq (pc := 969) C (tgt := 976) dL_law_969 (by decide) (fun c19 => ?_) (fun c19 => ?_)
  · have h := h.1 c19
    refine r_iconst (pc := 976) C (v := (0 : Int32)) dL_law_976 (by decide) ?_
    exact r_sub [0, 1, 2, 3, 4] rfl (T_L_law_977 C E ht hn hX23 h)
  · have h := h.2 c19
    refine r_iconst (pc := 972) C (v := (1 : Int32)) dL_law_972 (by decide) ?_
    refine r_goto (pc := 973) C (tgt := 977) dL_law_973 (by decide) ?_
    exact r_sub [0, 1, 2, 3, 4] rfl (T_L_law_977 C E ht hn hX23 h)
def P_L_law_895 (scL : Nat) (scx : Nat → Int32) (Q : Int32 → HS → Prop) (X23 : Nat → Nat → Nat → Int32 → Nat → Nat → HS → Prop) (v1 : Nat) (v2 : Nat) (v3 : Nat) (v4 : Int32) (kk : Nat) (nn : Nat) (S : HS) : Prop := ∀ x1 : Int32, x1 = v4 + (1 : Int32) → (vp_in x1 scL ∧ ∀ x3 : Int32, x3 = scx x1.toNatClampNeg → (∀ x4 : Int32, x4 = v4 + (2 : Int32) → (vp_in x4 scL ∧ ∀ x6 : Int32, x6 = scx x4.toNatClampNeg → (∀ x7 : Int32, x7 = v4 + (3 : Int32) → (vp_in x7 scL ∧ ∀ x9 : Int32, x9 = scx x7.toNatClampNeg → (∀ x10 : Int32, x10 = v4 + (4 : Int32) → (vp_in x10 scL ∧ ∀ x12 : Int32, x12 = scx x10.toNatClampNeg → (∀ x13 : Int32, x13 = v4 + (5 : Int32) → (vp_in x13 scL ∧ ∀ x15 : Int32, x15 = scx x13.toNatClampNeg → (((x15 = 0) → (P_L_law_934 scL scx Q X23 v1 v2 v3 v4 v1 x3 x6 x9 x12 (0 : Int32) kk nn S)) ∧ ((¬ x15 = 0) → (P_L_law_934 scL scx Q X23 v1 v2 v3 v4 v1 x3 x6 x9 x12 (1 : Int32) kk nn S))))))))))))
set_option maxRecDepth 20000 in
set_option maxHeartbeats 4000000 in
theorem T_L_law_895 {X : CX} {Q : Int32 → HS → Prop} {scb scL : Nat} {scx : Nat → Int32} (C : Cx X cL_law RL 7 rm_L_law) (E : LE X scb scL scx Q) (ht : LD X) (hn : True) {X23 : Nat → Nat → Nat → Int32 → Nat → Nat → HS → Prop} (hX23 : ∀ (v1 : Nat) (v2 : Nat) (v3 : Nat) (v4 : Int32) (kk : Nat) (nn : Nat) (S : HS), X23 v1 v2 v3 v4 kk nn S → WS X 7 kk nn 23 [(0, .ref scb), (1, .ref v1), (2, .ref v2), (3, .ref v3), (4, .int v4)] [] S) {v1 : Nat} {v2 : Nat} {v3 : Nat} {v4 : Int32} {kk : Nat} {nn : Nat} {S : HS} (h : P_L_law_895 scL scx Q X23 v1 v2 v3 v4 kk nn S) : WS X 7 kk nn 895 [(0, .ref scb), (1, .ref v1), (2, .ref v2), (3, .ref v3), (4, .int v4)] [] S := by
  refine r_aload_n (pc := 895) C dL_law_895 1 rfl ?_
  refine r_aload_n (pc := 896) C dL_law_896 0 rfl ?_
  refine r_iload (pc := 897) C dL_law_897 4 rfl ?_
  refine r_iconst (pc := 899) C (v := (1 : Int32)) dL_law_899 (by decide) ?_
  refine r_iadd (pc := 900) C dL_law_900 ?_
  refine r_topi (fun x1 ex1 => ?_)
  have h := h x1 ex1
  obtain ⟨i2, h⟩ := h
  refine r_scLd (pc := 901) C E i2 dL_law_901 ?_
  refine r_topi (fun x3 ex3 => ?_)
  have h := h x3 ex3
  refine r_aload_n (pc := 902) C dL_law_902 0 rfl ?_
  refine r_iload (pc := 903) C dL_law_903 4 rfl ?_
  refine r_iconst (pc := 905) C (v := (2 : Int32)) dL_law_905 (by decide) ?_
  refine r_iadd (pc := 906) C dL_law_906 ?_
  refine r_topi (fun x4 ex4 => ?_)
  have h := h x4 ex4
  obtain ⟨i5, h⟩ := h
  refine r_scLd (pc := 907) C E i5 dL_law_907 ?_
  refine r_topi (fun x6 ex6 => ?_)
  have h := h x6 ex6
  refine r_aload_n (pc := 908) C dL_law_908 0 rfl ?_
  refine r_iload (pc := 909) C dL_law_909 4 rfl ?_
  refine r_iconst (pc := 911) C (v := (3 : Int32)) dL_law_911 (by decide) ?_
  refine r_iadd (pc := 912) C dL_law_912 ?_
  refine r_topi (fun x7 ex7 => ?_)
  have h := h x7 ex7
  obtain ⟨i8, h⟩ := h
  refine r_scLd (pc := 913) C E i8 dL_law_913 ?_
  refine r_topi (fun x9 ex9 => ?_)
  have h := h x9 ex9
  refine r_aload_n (pc := 914) C dL_law_914 0 rfl ?_
  refine r_iload (pc := 915) C dL_law_915 4 rfl ?_
  refine r_iconst (pc := 917) C (v := (4 : Int32)) dL_law_917 (by decide) ?_
  refine r_iadd (pc := 918) C dL_law_918 ?_
  refine r_topi (fun x10 ex10 => ?_)
  have h := h x10 ex10
  obtain ⟨i11, h⟩ := h
  refine r_scLd (pc := 919) C E i11 dL_law_919 ?_
  refine r_topi (fun x12 ex12 => ?_)
  have h := h x12 ex12
  refine r_aload_n (pc := 920) C dL_law_920 0 rfl ?_
  refine r_iload (pc := 921) C dL_law_921 4 rfl ?_
  refine r_iconst (pc := 923) C (v := (5 : Int32)) dL_law_923 (by decide) ?_
  refine r_iadd (pc := 924) C dL_law_924 ?_
  refine r_topi (fun x13 ex13 => ?_)
  have h := h x13 ex13
  obtain ⟨i14, h⟩ := h
  refine r_scLd (pc := 925) C E i14 dL_law_925 ?_
  refine r_topi (fun x15 ex15 => ?_)
  have h := h x15 ex15
  refine r_if_eq (pc := 926) C (tgt := 933) dL_law_926 (by decide) (fun c16 => ?_) (fun c16 => ?_)
  · have h := h.1 c16
    refine r_iconst (pc := 933) C (v := (0 : Int32)) dL_law_933 (by decide) ?_
    exact r_sub [0, 1, 2, 3, 4] rfl (T_L_law_934 C E ht hn hX23 h)
  · have h := h.2 c16
    refine r_iconst (pc := 929) C (v := (1 : Int32)) dL_law_929 (by decide) ?_
    refine r_goto (pc := 930) C (tgt := 934) dL_law_930 (by decide) ?_
    exact r_sub [0, 1, 2, 3, 4] rfl (T_L_law_934 C E ht hn hX23 h)
def P_L_law_984 (scL : Nat) (scx : Nat → Int32) (Q : Int32 → HS → Prop) (X23 : Nat → Nat → Nat → Int32 → Nat → Nat → HS → Prop) (v1 : Nat) (v2 : Nat) (v3 : Nat) (v4 : Int32) (kk : Nat) (nn : Nat) (S : HS) : Prop := ∀ x1 : Int32, x1 = v4 + (1 : Int32) → (vp_in x1 scL ∧ ∀ x3 : Int32, x3 = scx x1.toNatClampNeg → (∀ x4 : Int32, x4 = v4 + (2 : Int32) → (vp_in x4 scL ∧ ∀ x6 : Int32, x6 = scx x4.toNatClampNeg → (∀ x7 : Int32, x7 = v4 + (3 : Int32) → (vp_in x7 scL ∧ ∀ x9 : Int32, x9 = scx x7.toNatClampNeg → (∀ x10 : Int32, x10 = v4 + (4 : Int32) → (vp_in x10 scL ∧ ∀ x12 : Int32, x12 = scx x10.toNatClampNeg → (ob S v1 9 ∧ (kk ≤ rm_L_law.cells ∧ nn ≤ rm_L_law.slots ∧ (P_X9_worst v1 x3 x6 x9 x12 (fun x15 S13 => Gr S S13 → (∀ x16 : Int32, x16 = v4 + (1 : Int32) → (vp_in x16 scL ∧ ∀ x18 : Int32, x18 = scx x16.toNatClampNeg → (∀ x19 : Int32, x19 = v4 + (2 : Int32) → (vp_in x19 scL ∧ ∀ x21 : Int32, x21 = scx x19.toNatClampNeg → (∀ x22 : Int32, x22 = v4 + (3 : Int32) → (vp_in x22 scL ∧ ∀ x24 : Int32, x24 = scx x22.toNatClampNeg → (∀ x25 : Int32, x25 = v4 + (4 : Int32) → (vp_in x25 scL ∧ ∀ x27 : Int32, x27 = scx x25.toNatClampNeg → (ob S13 v2 11 ∧ (kk ≤ rm_L_law.cells ∧ nn ≤ rm_L_law.slots ∧ (P_X11_worst v2 x18 x21 x24 x27 (fun x30 S28 => Gr S13 S28 → (P_L_law_2341 scL scx Q X23 v1 v2 v3 v4 kk nn S28)) S13)))))))))))) S))))))))))
set_option maxRecDepth 20000 in
set_option maxHeartbeats 4000000 in
theorem T_L_law_984 {X : CX} {Q : Int32 → HS → Prop} {scb scL : Nat} {scx : Nat → Int32} (C : Cx X cL_law RL 7 rm_L_law) (E : LE X scb scL scx Q) (ht : LD X) (hn : True) {X23 : Nat → Nat → Nat → Int32 → Nat → Nat → HS → Prop} (hX23 : ∀ (v1 : Nat) (v2 : Nat) (v3 : Nat) (v4 : Int32) (kk : Nat) (nn : Nat) (S : HS), X23 v1 v2 v3 v4 kk nn S → WS X 7 kk nn 23 [(0, .ref scb), (1, .ref v1), (2, .ref v2), (3, .ref v3), (4, .int v4)] [] S) {v1 : Nat} {v2 : Nat} {v3 : Nat} {v4 : Int32} {kk : Nat} {nn : Nat} {S : HS} (h : P_L_law_984 scL scx Q X23 v1 v2 v3 v4 kk nn S) : WS X 7 kk nn 984 [(0, .ref scb), (1, .ref v1), (2, .ref v2), (3, .ref v3), (4, .int v4)] [] S := by
  refine r_aload_n (pc := 984) C dL_law_984 1 rfl ?_
  refine r_aload_n (pc := 985) C dL_law_985 0 rfl ?_
  refine r_iload (pc := 986) C dL_law_986 4 rfl ?_
  refine r_iconst (pc := 988) C (v := (1 : Int32)) dL_law_988 (by decide) ?_
  refine r_iadd (pc := 989) C dL_law_989 ?_
  refine r_topi (fun x1 ex1 => ?_)
  have h := h x1 ex1
  obtain ⟨i2, h⟩ := h
  refine r_scLd (pc := 990) C E i2 dL_law_990 ?_
  refine r_topi (fun x3 ex3 => ?_)
  have h := h x3 ex3
  refine r_aload_n (pc := 991) C dL_law_991 0 rfl ?_
  refine r_iload (pc := 992) C dL_law_992 4 rfl ?_
  refine r_iconst (pc := 994) C (v := (2 : Int32)) dL_law_994 (by decide) ?_
  refine r_iadd (pc := 995) C dL_law_995 ?_
  refine r_topi (fun x4 ex4 => ?_)
  have h := h x4 ex4
  obtain ⟨i5, h⟩ := h
  refine r_scLd (pc := 996) C E i5 dL_law_996 ?_
  refine r_topi (fun x6 ex6 => ?_)
  have h := h x6 ex6
  refine r_aload_n (pc := 997) C dL_law_997 0 rfl ?_
  refine r_iload (pc := 998) C dL_law_998 4 rfl ?_
  refine r_iconst (pc := 1000) C (v := (3 : Int32)) dL_law_1000 (by decide) ?_
  refine r_iadd (pc := 1001) C dL_law_1001 ?_
  refine r_topi (fun x7 ex7 => ?_)
  have h := h x7 ex7
  obtain ⟨i8, h⟩ := h
  refine r_scLd (pc := 1002) C E i8 dL_law_1002 ?_
  refine r_topi (fun x9 ex9 => ?_)
  have h := h x9 ex9
  refine r_aload_n (pc := 1003) C dL_law_1003 0 rfl ?_
  refine r_iload (pc := 1004) C dL_law_1004 4 rfl ?_
  refine r_iconst (pc := 1006) C (v := (4 : Int32)) dL_law_1006 (by decide) ?_
  refine r_iadd (pc := 1007) C dL_law_1007 ?_
  refine r_topi (fun x10 ex10 => ?_)
  have h := h x10 ex10
  obtain ⟨i11, h⟩ := h
  refine r_scLd (pc := 1008) C E i11 dL_law_1008 ?_
  refine r_topi (fun x12 ex12 => ?_)
  have h := h x12 ex12
  obtain ⟨o_v1, h⟩ := h
  obtain ⟨hk, hk2, h⟩ := h
  refine r_callVi0 (pc := 1009) C (rest := []) (a := v1) o_v1 [.int x3, .int x6, .int x9, .int x12] yV_X9_worst g_775 (c_X9_worst h) dL_law_1009 rfl rfl (Nat.le_of_ble_eq_true rfl) ⟨by decide, by decide⟩ ⟨hk, hk2⟩ ⟨rfl, rfl⟩ (fun x15 S13 h g14 => ?_)
  have h := h g14
  have o_v1 := gr_ob g14 o_v1
  refine r_pop (pc := 1012) C dL_law_1012 rfl ?_
  refine r_aload_n (pc := 1013) C dL_law_1013 2 rfl ?_
  refine r_aload_n (pc := 1014) C dL_law_1014 0 rfl ?_
  refine r_iload (pc := 1015) C dL_law_1015 4 rfl ?_
  refine r_iconst (pc := 1017) C (v := (1 : Int32)) dL_law_1017 (by decide) ?_
  refine r_iadd (pc := 1018) C dL_law_1018 ?_
  refine r_topi (fun x16 ex16 => ?_)
  have h := h x16 ex16
  obtain ⟨i17, h⟩ := h
  refine r_scLd (pc := 1019) C E i17 dL_law_1019 ?_
  refine r_topi (fun x18 ex18 => ?_)
  have h := h x18 ex18
  refine r_aload_n (pc := 1020) C dL_law_1020 0 rfl ?_
  refine r_iload (pc := 1021) C dL_law_1021 4 rfl ?_
  refine r_iconst (pc := 1023) C (v := (2 : Int32)) dL_law_1023 (by decide) ?_
  refine r_iadd (pc := 1024) C dL_law_1024 ?_
  refine r_topi (fun x19 ex19 => ?_)
  have h := h x19 ex19
  obtain ⟨i20, h⟩ := h
  refine r_scLd (pc := 1025) C E i20 dL_law_1025 ?_
  refine r_topi (fun x21 ex21 => ?_)
  have h := h x21 ex21
  refine r_aload_n (pc := 1026) C dL_law_1026 0 rfl ?_
  refine r_iload (pc := 1027) C dL_law_1027 4 rfl ?_
  refine r_iconst (pc := 1029) C (v := (3 : Int32)) dL_law_1029 (by decide) ?_
  refine r_iadd (pc := 1030) C dL_law_1030 ?_
  refine r_topi (fun x22 ex22 => ?_)
  have h := h x22 ex22
  obtain ⟨i23, h⟩ := h
  refine r_scLd (pc := 1031) C E i23 dL_law_1031 ?_
  refine r_topi (fun x24 ex24 => ?_)
  have h := h x24 ex24
  refine r_aload_n (pc := 1032) C dL_law_1032 0 rfl ?_
  refine r_iload (pc := 1033) C dL_law_1033 4 rfl ?_
  refine r_iconst (pc := 1035) C (v := (4 : Int32)) dL_law_1035 (by decide) ?_
  refine r_iadd (pc := 1036) C dL_law_1036 ?_
  refine r_topi (fun x25 ex25 => ?_)
  have h := h x25 ex25
  obtain ⟨i26, h⟩ := h
  refine r_scLd (pc := 1037) C E i26 dL_law_1037 ?_
  refine r_topi (fun x27 ex27 => ?_)
  have h := h x27 ex27
  obtain ⟨o_v2, h⟩ := h
  obtain ⟨hk, hk2, h⟩ := h
  refine r_callVi0 (pc := 1038) C (rest := []) (a := v2) o_v2 [.int x18, .int x21, .int x24, .int x27] yV_X11_worst g_1635 (c_X11_worst h) dL_law_1038 rfl rfl (Nat.le_of_ble_eq_true rfl) ⟨by decide, by decide⟩ ⟨hk, hk2⟩ ⟨rfl, rfl⟩ (fun x30 S28 h g29 => ?_)
  have h := h g29
  have o_v1 := gr_ob g29 o_v1
  have o_v2 := gr_ob g29 o_v2
  refine r_pop (pc := 1041) C dL_law_1041 rfl ?_
  refine r_goto (pc := 1042) C (tgt := 2341) dL_law_1042 (by decide) ?_
  exact r_sub [0, 1, 2, 3, 4] rfl (T_L_law_2341 C E ht hn hX23 h)
def P_L_law_1045 (scL : Nat) (scx : Nat → Int32) (Q : Int32 → HS → Prop) (X23 : Nat → Nat → Nat → Int32 → Nat → Nat → HS → Prop) (v1 : Nat) (v2 : Nat) (v3 : Nat) (v4 : Int32) (kk : Nat) (nn : Nat) (S : HS) : Prop := ∀ x1 : Int32, x1 = v4 + (1 : Int32) → (vp_in x1 scL ∧ ∀ x3 : Int32, x3 = scx x1.toNatClampNeg → (∀ x4 : Int32, x4 = v4 + (2 : Int32) → (vp_in x4 scL ∧ ∀ x6 : Int32, x6 = scx x4.toNatClampNeg → (∀ x7 : Int32, x7 = v4 + (3 : Int32) → (vp_in x7 scL ∧ ∀ x9 : Int32, x9 = scx x7.toNatClampNeg → (∀ x10 : Int32, x10 = v4 + (4 : Int32) → (vp_in x10 scL ∧ ∀ x12 : Int32, x12 = scx x10.toNatClampNeg → (ob S v1 9 ∧ (kk ≤ rm_L_law.cells ∧ nn ≤ rm_L_law.slots ∧ (P_X9_even v1 x3 x6 x9 x12 (fun x15 S13 => Gr S S13 → (∀ x16 : Int32, x16 = v4 + (1 : Int32) → (vp_in x16 scL ∧ ∀ x18 : Int32, x18 = scx x16.toNatClampNeg → (∀ x19 : Int32, x19 = v4 + (2 : Int32) → (vp_in x19 scL ∧ ∀ x21 : Int32, x21 = scx x19.toNatClampNeg → (∀ x22 : Int32, x22 = v4 + (3 : Int32) → (vp_in x22 scL ∧ ∀ x24 : Int32, x24 = scx x22.toNatClampNeg → (∀ x25 : Int32, x25 = v4 + (4 : Int32) → (vp_in x25 scL ∧ ∀ x27 : Int32, x27 = scx x25.toNatClampNeg → (ob S13 v2 11 ∧ (kk ≤ rm_L_law.cells ∧ nn ≤ rm_L_law.slots ∧ (P_X11_even v2 x18 x21 x24 x27 (fun x30 S28 => Gr S13 S28 → (P_L_law_2341 scL scx Q X23 v1 v2 v3 v4 kk nn S28)) S13)))))))))))) S))))))))))
set_option maxRecDepth 20000 in
set_option maxHeartbeats 4000000 in
theorem T_L_law_1045 {X : CX} {Q : Int32 → HS → Prop} {scb scL : Nat} {scx : Nat → Int32} (C : Cx X cL_law RL 7 rm_L_law) (E : LE X scb scL scx Q) (ht : LD X) (hn : True) {X23 : Nat → Nat → Nat → Int32 → Nat → Nat → HS → Prop} (hX23 : ∀ (v1 : Nat) (v2 : Nat) (v3 : Nat) (v4 : Int32) (kk : Nat) (nn : Nat) (S : HS), X23 v1 v2 v3 v4 kk nn S → WS X 7 kk nn 23 [(0, .ref scb), (1, .ref v1), (2, .ref v2), (3, .ref v3), (4, .int v4)] [] S) {v1 : Nat} {v2 : Nat} {v3 : Nat} {v4 : Int32} {kk : Nat} {nn : Nat} {S : HS} (h : P_L_law_1045 scL scx Q X23 v1 v2 v3 v4 kk nn S) : WS X 7 kk nn 1045 [(0, .ref scb), (1, .ref v1), (2, .ref v2), (3, .ref v3), (4, .int v4)] [] S := by
  refine r_aload_n (pc := 1045) C dL_law_1045 1 rfl ?_
  refine r_aload_n (pc := 1046) C dL_law_1046 0 rfl ?_
  refine r_iload (pc := 1047) C dL_law_1047 4 rfl ?_
  refine r_iconst (pc := 1049) C (v := (1 : Int32)) dL_law_1049 (by decide) ?_
  refine r_iadd (pc := 1050) C dL_law_1050 ?_
  refine r_topi (fun x1 ex1 => ?_)
  have h := h x1 ex1
  obtain ⟨i2, h⟩ := h
  refine r_scLd (pc := 1051) C E i2 dL_law_1051 ?_
  refine r_topi (fun x3 ex3 => ?_)
  have h := h x3 ex3
  refine r_aload_n (pc := 1052) C dL_law_1052 0 rfl ?_
  refine r_iload (pc := 1053) C dL_law_1053 4 rfl ?_
  refine r_iconst (pc := 1055) C (v := (2 : Int32)) dL_law_1055 (by decide) ?_
  refine r_iadd (pc := 1056) C dL_law_1056 ?_
  refine r_topi (fun x4 ex4 => ?_)
  have h := h x4 ex4
  obtain ⟨i5, h⟩ := h
  refine r_scLd (pc := 1057) C E i5 dL_law_1057 ?_
  refine r_topi (fun x6 ex6 => ?_)
  have h := h x6 ex6
  refine r_aload_n (pc := 1058) C dL_law_1058 0 rfl ?_
  refine r_iload (pc := 1059) C dL_law_1059 4 rfl ?_
  refine r_iconst (pc := 1061) C (v := (3 : Int32)) dL_law_1061 (by decide) ?_
  refine r_iadd (pc := 1062) C dL_law_1062 ?_
  refine r_topi (fun x7 ex7 => ?_)
  have h := h x7 ex7
  obtain ⟨i8, h⟩ := h
  refine r_scLd (pc := 1063) C E i8 dL_law_1063 ?_
  refine r_topi (fun x9 ex9 => ?_)
  have h := h x9 ex9
  refine r_aload_n (pc := 1064) C dL_law_1064 0 rfl ?_
  refine r_iload (pc := 1065) C dL_law_1065 4 rfl ?_
  refine r_iconst (pc := 1067) C (v := (4 : Int32)) dL_law_1067 (by decide) ?_
  refine r_iadd (pc := 1068) C dL_law_1068 ?_
  refine r_topi (fun x10 ex10 => ?_)
  have h := h x10 ex10
  obtain ⟨i11, h⟩ := h
  refine r_scLd (pc := 1069) C E i11 dL_law_1069 ?_
  refine r_topi (fun x12 ex12 => ?_)
  have h := h x12 ex12
  obtain ⟨o_v1, h⟩ := h
  obtain ⟨hk, hk2, h⟩ := h
  refine r_callVi0 (pc := 1070) C (rest := []) (a := v1) o_v1 [.int x3, .int x6, .int x9, .int x12] yV_X9_even g_784 (c_X9_even h) dL_law_1070 rfl rfl (Nat.le_of_ble_eq_true rfl) ⟨by decide, by decide⟩ ⟨hk, hk2⟩ ⟨rfl, rfl⟩ (fun x15 S13 h g14 => ?_)
  have h := h g14
  have o_v1 := gr_ob g14 o_v1
  refine r_pop (pc := 1073) C dL_law_1073 rfl ?_
  refine r_aload_n (pc := 1074) C dL_law_1074 2 rfl ?_
  refine r_aload_n (pc := 1075) C dL_law_1075 0 rfl ?_
  refine r_iload (pc := 1076) C dL_law_1076 4 rfl ?_
  refine r_iconst (pc := 1078) C (v := (1 : Int32)) dL_law_1078 (by decide) ?_
  refine r_iadd (pc := 1079) C dL_law_1079 ?_
  refine r_topi (fun x16 ex16 => ?_)
  have h := h x16 ex16
  obtain ⟨i17, h⟩ := h
  refine r_scLd (pc := 1080) C E i17 dL_law_1080 ?_
  refine r_topi (fun x18 ex18 => ?_)
  have h := h x18 ex18
  refine r_aload_n (pc := 1081) C dL_law_1081 0 rfl ?_
  refine r_iload (pc := 1082) C dL_law_1082 4 rfl ?_
  refine r_iconst (pc := 1084) C (v := (2 : Int32)) dL_law_1084 (by decide) ?_
  refine r_iadd (pc := 1085) C dL_law_1085 ?_
  refine r_topi (fun x19 ex19 => ?_)
  have h := h x19 ex19
  obtain ⟨i20, h⟩ := h
  refine r_scLd (pc := 1086) C E i20 dL_law_1086 ?_
  refine r_topi (fun x21 ex21 => ?_)
  have h := h x21 ex21
  refine r_aload_n (pc := 1087) C dL_law_1087 0 rfl ?_
  refine r_iload (pc := 1088) C dL_law_1088 4 rfl ?_
  refine r_iconst (pc := 1090) C (v := (3 : Int32)) dL_law_1090 (by decide) ?_
  refine r_iadd (pc := 1091) C dL_law_1091 ?_
  refine r_topi (fun x22 ex22 => ?_)
  have h := h x22 ex22
  obtain ⟨i23, h⟩ := h
  refine r_scLd (pc := 1092) C E i23 dL_law_1092 ?_
  refine r_topi (fun x24 ex24 => ?_)
  have h := h x24 ex24
  refine r_aload_n (pc := 1093) C dL_law_1093 0 rfl ?_
  refine r_iload (pc := 1094) C dL_law_1094 4 rfl ?_
  refine r_iconst (pc := 1096) C (v := (4 : Int32)) dL_law_1096 (by decide) ?_
  refine r_iadd (pc := 1097) C dL_law_1097 ?_
  refine r_topi (fun x25 ex25 => ?_)
  have h := h x25 ex25
  obtain ⟨i26, h⟩ := h
  refine r_scLd (pc := 1098) C E i26 dL_law_1098 ?_
  refine r_topi (fun x27 ex27 => ?_)
  have h := h x27 ex27
  obtain ⟨o_v2, h⟩ := h
  obtain ⟨hk, hk2, h⟩ := h
  refine r_callVi0 (pc := 1099) C (rest := []) (a := v2) o_v2 [.int x18, .int x21, .int x24, .int x27] yV_X11_even g_1639 (c_X11_even h) dL_law_1099 rfl rfl (Nat.le_of_ble_eq_true rfl) ⟨by decide, by decide⟩ ⟨hk, hk2⟩ ⟨rfl, rfl⟩ (fun x30 S28 h g29 => ?_)
  have h := h g29
  have o_v1 := gr_ob g29 o_v1
  have o_v2 := gr_ob g29 o_v2
  refine r_pop (pc := 1102) C dL_law_1102 rfl ?_
  refine r_goto (pc := 1103) C (tgt := 2341) dL_law_1103 (by decide) ?_
  exact r_sub [0, 1, 2, 3, 4] rfl (T_L_law_2341 C E ht hn hX23 h)
def P_L_law_1176 (scL : Nat) (scx : Nat → Int32) (Q : Int32 → HS → Prop) (X23 : Nat → Nat → Nat → Int32 → Nat → Nat → HS → Prop) (v1 : Nat) (v2 : Nat) (v3 : Nat) (v4 : Int32) (s0 : Nat) (s1 : Int32) (s2 : Int32) (s3 : Int32) (s4 : Int32) (kk : Nat) (nn : Nat) (S : HS) : Prop := ob S s0 11 ∧ (kk ≤ rm_L_law.cells ∧ nn ≤ rm_L_law.slots ∧ (P_X11_round s0 s1 s2 s3 s4 (fun x3 S1 => Gr S S1 → (P_L_law_2341 scL scx Q X23 v1 v2 v3 v4 kk nn S1)) S))
set_option maxRecDepth 20000 in
set_option maxHeartbeats 4000000 in
theorem T_L_law_1176 {X : CX} {Q : Int32 → HS → Prop} {scb scL : Nat} {scx : Nat → Int32} (C : Cx X cL_law RL 7 rm_L_law) (E : LE X scb scL scx Q) (ht : LD X) (hn : True) {X23 : Nat → Nat → Nat → Int32 → Nat → Nat → HS → Prop} (hX23 : ∀ (v1 : Nat) (v2 : Nat) (v3 : Nat) (v4 : Int32) (kk : Nat) (nn : Nat) (S : HS), X23 v1 v2 v3 v4 kk nn S → WS X 7 kk nn 23 [(0, .ref scb), (1, .ref v1), (2, .ref v2), (3, .ref v3), (4, .int v4)] [] S) {v1 : Nat} {v2 : Nat} {v3 : Nat} {v4 : Int32} {s0 : Nat} {s1 : Int32} {s2 : Int32} {s3 : Int32} {s4 : Int32} {kk : Nat} {nn : Nat} {S : HS} (h : P_L_law_1176 scL scx Q X23 v1 v2 v3 v4 s0 s1 s2 s3 s4 kk nn S) : WS X 7 kk nn 1176 [(0, .ref scb), (1, .ref v1), (2, .ref v2), (3, .ref v3), (4, .int v4)] [.int s4, .int s3, .int s2, .int s1, .ref s0] S := by
  obtain ⟨o_s0, h⟩ := h
  obtain ⟨hk, hk2, h⟩ := h
  refine r_callVl0 (pc := 1176) C (rest := []) (a := s0) o_s0 [.int s1, .int s2, .int s3, .int s4] yV_X11_round g_1643 (c_X11_round h) dL_law_1176 rfl rfl (Nat.le_of_ble_eq_true rfl) ⟨by decide, by decide⟩ ⟨hk, hk2⟩ ⟨rfl, rfl⟩ (fun x3 S1 h g2 => ?_)
  have h := h g2
  have o_s0 := gr_ob g2 o_s0
  refine r_pop2 (pc := 1179) C dL_law_1179 rfl ?_
  refine r_goto (pc := 1180) C (tgt := 2341) dL_law_1180 (by decide) ?_
  exact r_sub [0, 1, 2, 3, 4] rfl (T_L_law_2341 C E ht hn hX23 h)
def P_L_law_1139 (scL : Nat) (scx : Nat → Int32) (Q : Int32 → HS → Prop) (X23 : Nat → Nat → Nat → Int32 → Nat → Nat → HS → Prop) (v1 : Nat) (v2 : Nat) (v3 : Nat) (v4 : Int32) (s0 : Nat) (s1 : Int32) (s2 : Int32) (s3 : Int32) (s4 : Int32) (kk : Nat) (nn : Nat) (S : HS) : Prop := ob S s0 9 ∧ (kk ≤ rm_L_law.cells ∧ nn ≤ rm_L_law.slots ∧ (P_X9_round s0 s1 s2 s3 s4 (fun x3 S1 => Gr S S1 → (∀ x4 : Int32, x4 = v4 + (1 : Int32) → (vp_in x4 scL ∧ ∀ x6 : Int32, x6 = scx x4.toNatClampNeg → (∀ x7 : Int32, x7 = v4 + (2 : Int32) → (vp_in x7 scL ∧ ∀ x9 : Int32, x9 = scx x7.toNatClampNeg → (∀ x10 : Int32, x10 = v4 + (3 : Int32) → (vp_in x10 scL ∧ ∀ x12 : Int32, x12 = scx x10.toNatClampNeg → (∀ x13 : Int32, x13 = v4 + (4 : Int32) → (vp_in x13 scL ∧ ∀ x15 : Int32, x15 = scx x13.toNatClampNeg → (((x15 = 0) → (P_L_law_1176 scL scx Q X23 v1 v2 v3 v4 v2 x6 x9 x12 (0 : Int32) kk nn S1)) ∧ ((¬ x15 = 0) → (P_L_law_1176 scL scx Q X23 v1 v2 v3 v4 v2 x6 x9 x12 (1 : Int32) kk nn S1)))))))))))) S))
set_option maxRecDepth 20000 in
set_option maxHeartbeats 4000000 in
theorem T_L_law_1139 {X : CX} {Q : Int32 → HS → Prop} {scb scL : Nat} {scx : Nat → Int32} (C : Cx X cL_law RL 7 rm_L_law) (E : LE X scb scL scx Q) (ht : LD X) (hn : True) {X23 : Nat → Nat → Nat → Int32 → Nat → Nat → HS → Prop} (hX23 : ∀ (v1 : Nat) (v2 : Nat) (v3 : Nat) (v4 : Int32) (kk : Nat) (nn : Nat) (S : HS), X23 v1 v2 v3 v4 kk nn S → WS X 7 kk nn 23 [(0, .ref scb), (1, .ref v1), (2, .ref v2), (3, .ref v3), (4, .int v4)] [] S) {v1 : Nat} {v2 : Nat} {v3 : Nat} {v4 : Int32} {s0 : Nat} {s1 : Int32} {s2 : Int32} {s3 : Int32} {s4 : Int32} {kk : Nat} {nn : Nat} {S : HS} (h : P_L_law_1139 scL scx Q X23 v1 v2 v3 v4 s0 s1 s2 s3 s4 kk nn S) : WS X 7 kk nn 1139 [(0, .ref scb), (1, .ref v1), (2, .ref v2), (3, .ref v3), (4, .int v4)] [.int s4, .int s3, .int s2, .int s1, .ref s0] S := by
  obtain ⟨o_s0, h⟩ := h
  obtain ⟨hk, hk2, h⟩ := h
  refine r_callVl0 (pc := 1139) C (rest := []) (a := s0) o_s0 [.int s1, .int s2, .int s3, .int s4] yV_X9_round g_788 (c_X9_round h) dL_law_1139 rfl rfl (Nat.le_of_ble_eq_true rfl) ⟨by decide, by decide⟩ ⟨hk, hk2⟩ ⟨rfl, rfl⟩ (fun x3 S1 h g2 => ?_)
  have h := h g2
  have o_s0 := gr_ob g2 o_s0
  refine r_pop2 (pc := 1142) C dL_law_1142 rfl ?_
  refine r_aload_n (pc := 1143) C dL_law_1143 2 rfl ?_
  refine r_aload_n (pc := 1144) C dL_law_1144 0 rfl ?_
  refine r_iload (pc := 1145) C dL_law_1145 4 rfl ?_
  refine r_iconst (pc := 1147) C (v := (1 : Int32)) dL_law_1147 (by decide) ?_
  refine r_iadd (pc := 1148) C dL_law_1148 ?_
  refine r_topi (fun x4 ex4 => ?_)
  have h := h x4 ex4
  obtain ⟨i5, h⟩ := h
  refine r_scLd (pc := 1149) C E i5 dL_law_1149 ?_
  refine r_topi (fun x6 ex6 => ?_)
  have h := h x6 ex6
  refine r_aload_n (pc := 1150) C dL_law_1150 0 rfl ?_
  refine r_iload (pc := 1151) C dL_law_1151 4 rfl ?_
  refine r_iconst (pc := 1153) C (v := (2 : Int32)) dL_law_1153 (by decide) ?_
  refine r_iadd (pc := 1154) C dL_law_1154 ?_
  refine r_topi (fun x7 ex7 => ?_)
  have h := h x7 ex7
  obtain ⟨i8, h⟩ := h
  refine r_scLd (pc := 1155) C E i8 dL_law_1155 ?_
  refine r_topi (fun x9 ex9 => ?_)
  have h := h x9 ex9
  refine r_aload_n (pc := 1156) C dL_law_1156 0 rfl ?_
  refine r_iload (pc := 1157) C dL_law_1157 4 rfl ?_
  refine r_iconst (pc := 1159) C (v := (3 : Int32)) dL_law_1159 (by decide) ?_
  refine r_iadd (pc := 1160) C dL_law_1160 ?_
  refine r_topi (fun x10 ex10 => ?_)
  have h := h x10 ex10
  obtain ⟨i11, h⟩ := h
  refine r_scLd (pc := 1161) C E i11 dL_law_1161 ?_
  refine r_topi (fun x12 ex12 => ?_)
  have h := h x12 ex12
  refine r_aload_n (pc := 1162) C dL_law_1162 0 rfl ?_
  refine r_iload (pc := 1163) C dL_law_1163 4 rfl ?_
  refine r_iconst (pc := 1165) C (v := (4 : Int32)) dL_law_1165 (by decide) ?_
  refine r_iadd (pc := 1166) C dL_law_1166 ?_
  refine r_topi (fun x13 ex13 => ?_)
  have h := h x13 ex13
  obtain ⟨i14, h⟩ := h
  refine r_scLd (pc := 1167) C E i14 dL_law_1167 ?_
  refine r_topi (fun x15 ex15 => ?_)
  have h := h x15 ex15
  refine r_if_eq (pc := 1168) C (tgt := 1175) dL_law_1168 (by decide) (fun c16 => ?_) (fun c16 => ?_)
  · have h := h.1 c16
    refine r_iconst (pc := 1175) C (v := (0 : Int32)) dL_law_1175 (by decide) ?_
    exact r_sub [0, 1, 2, 3, 4] rfl (T_L_law_1176 C E ht hn hX23 h)
  · have h := h.2 c16
    refine r_iconst (pc := 1171) C (v := (1 : Int32)) dL_law_1171 (by decide) ?_
    refine r_goto (pc := 1172) C (tgt := 1176) dL_law_1172 (by decide) ?_
    exact r_sub [0, 1, 2, 3, 4] rfl (T_L_law_1176 C E ht hn hX23 h)
def P_L_law_1106 (scL : Nat) (scx : Nat → Int32) (Q : Int32 → HS → Prop) (X23 : Nat → Nat → Nat → Int32 → Nat → Nat → HS → Prop) (v1 : Nat) (v2 : Nat) (v3 : Nat) (v4 : Int32) (kk : Nat) (nn : Nat) (S : HS) : Prop := ∀ x1 : Int32, x1 = v4 + (1 : Int32) → (vp_in x1 scL ∧ ∀ x3 : Int32, x3 = scx x1.toNatClampNeg → (∀ x4 : Int32, x4 = v4 + (2 : Int32) → (vp_in x4 scL ∧ ∀ x6 : Int32, x6 = scx x4.toNatClampNeg → (∀ x7 : Int32, x7 = v4 + (3 : Int32) → (vp_in x7 scL ∧ ∀ x9 : Int32, x9 = scx x7.toNatClampNeg → (∀ x10 : Int32, x10 = v4 + (4 : Int32) → (vp_in x10 scL ∧ ∀ x12 : Int32, x12 = scx x10.toNatClampNeg → (((x12 = 0) → (P_L_law_1139 scL scx Q X23 v1 v2 v3 v4 v1 x3 x6 x9 (0 : Int32) kk nn S)) ∧ ((¬ x12 = 0) → (P_L_law_1139 scL scx Q X23 v1 v2 v3 v4 v1 x3 x6 x9 (1 : Int32) kk nn S))))))))))
set_option maxRecDepth 20000 in
set_option maxHeartbeats 4000000 in
theorem T_L_law_1106 {X : CX} {Q : Int32 → HS → Prop} {scb scL : Nat} {scx : Nat → Int32} (C : Cx X cL_law RL 7 rm_L_law) (E : LE X scb scL scx Q) (ht : LD X) (hn : True) {X23 : Nat → Nat → Nat → Int32 → Nat → Nat → HS → Prop} (hX23 : ∀ (v1 : Nat) (v2 : Nat) (v3 : Nat) (v4 : Int32) (kk : Nat) (nn : Nat) (S : HS), X23 v1 v2 v3 v4 kk nn S → WS X 7 kk nn 23 [(0, .ref scb), (1, .ref v1), (2, .ref v2), (3, .ref v3), (4, .int v4)] [] S) {v1 : Nat} {v2 : Nat} {v3 : Nat} {v4 : Int32} {kk : Nat} {nn : Nat} {S : HS} (h : P_L_law_1106 scL scx Q X23 v1 v2 v3 v4 kk nn S) : WS X 7 kk nn 1106 [(0, .ref scb), (1, .ref v1), (2, .ref v2), (3, .ref v3), (4, .int v4)] [] S := by
  refine r_aload_n (pc := 1106) C dL_law_1106 1 rfl ?_
  refine r_aload_n (pc := 1107) C dL_law_1107 0 rfl ?_
  refine r_iload (pc := 1108) C dL_law_1108 4 rfl ?_
  refine r_iconst (pc := 1110) C (v := (1 : Int32)) dL_law_1110 (by decide) ?_
  refine r_iadd (pc := 1111) C dL_law_1111 ?_
  refine r_topi (fun x1 ex1 => ?_)
  have h := h x1 ex1
  obtain ⟨i2, h⟩ := h
  refine r_scLd (pc := 1112) C E i2 dL_law_1112 ?_
  refine r_topi (fun x3 ex3 => ?_)
  have h := h x3 ex3
  refine r_aload_n (pc := 1113) C dL_law_1113 0 rfl ?_
  refine r_iload (pc := 1114) C dL_law_1114 4 rfl ?_
  refine r_iconst (pc := 1116) C (v := (2 : Int32)) dL_law_1116 (by decide) ?_
  refine r_iadd (pc := 1117) C dL_law_1117 ?_
  refine r_topi (fun x4 ex4 => ?_)
  have h := h x4 ex4
  obtain ⟨i5, h⟩ := h
  refine r_scLd (pc := 1118) C E i5 dL_law_1118 ?_
  refine r_topi (fun x6 ex6 => ?_)
  have h := h x6 ex6
  refine r_aload_n (pc := 1119) C dL_law_1119 0 rfl ?_
  refine r_iload (pc := 1120) C dL_law_1120 4 rfl ?_
  refine r_iconst (pc := 1122) C (v := (3 : Int32)) dL_law_1122 (by decide) ?_
  refine r_iadd (pc := 1123) C dL_law_1123 ?_
  refine r_topi (fun x7 ex7 => ?_)
  have h := h x7 ex7
  obtain ⟨i8, h⟩ := h
  refine r_scLd (pc := 1124) C E i8 dL_law_1124 ?_
  refine r_topi (fun x9 ex9 => ?_)
  have h := h x9 ex9
  refine r_aload_n (pc := 1125) C dL_law_1125 0 rfl ?_
  refine r_iload (pc := 1126) C dL_law_1126 4 rfl ?_
  refine r_iconst (pc := 1128) C (v := (4 : Int32)) dL_law_1128 (by decide) ?_
  refine r_iadd (pc := 1129) C dL_law_1129 ?_
  refine r_topi (fun x10 ex10 => ?_)
  have h := h x10 ex10
  obtain ⟨i11, h⟩ := h
  refine r_scLd (pc := 1130) C E i11 dL_law_1130 ?_
  refine r_topi (fun x12 ex12 => ?_)
  have h := h x12 ex12
  refine r_if_eq (pc := 1131) C (tgt := 1138) dL_law_1131 (by decide) (fun c13 => ?_) (fun c13 => ?_)
  · have h := h.1 c13
    refine r_iconst (pc := 1138) C (v := (0 : Int32)) dL_law_1138 (by decide) ?_
    exact r_sub [0, 1, 2, 3, 4] rfl (T_L_law_1139 C E ht hn hX23 h)
  · have h := h.2 c13
    refine r_iconst (pc := 1134) C (v := (1 : Int32)) dL_law_1134 (by decide) ?_
    refine r_goto (pc := 1135) C (tgt := 1139) dL_law_1135 (by decide) ?_
    exact r_sub [0, 1, 2, 3, 4] rfl (T_L_law_1139 C E ht hn hX23 h)
def P_L_law_1183 (scL : Nat) (scx : Nat → Int32) (Q : Int32 → HS → Prop) (X23 : Nat → Nat → Nat → Int32 → Nat → Nat → HS → Prop) (v1 : Nat) (v2 : Nat) (v3 : Nat) (v4 : Int32) (kk : Nat) (nn : Nat) (S : HS) : Prop := ∀ x1 : Int32, x1 = v4 + (1 : Int32) → (vp_in x1 scL ∧ ∀ x3 : Int32, x3 = scx x1.toNatClampNeg → (∀ x4 : Int32, x4 = v4 + (2 : Int32) → (vp_in x4 scL ∧ ∀ x6 : Int32, x6 = scx x4.toNatClampNeg → (∀ x7 : Int32, x7 = v4 + (3 : Int32) → (vp_in x7 scL ∧ ∀ x9 : Int32, x9 = scx x7.toNatClampNeg → (ob S v1 9 ∧ (kk ≤ rm_L_law.cells ∧ nn ≤ rm_L_law.slots ∧ (P_X9_driest v1 x3 x6 x9 (fun x12 S10 => Gr S S10 → (∀ x13 : Int32, x13 = v4 + (1 : Int32) → (vp_in x13 scL ∧ ∀ x15 : Int32, x15 = scx x13.toNatClampNeg → (∀ x16 : Int32, x16 = v4 + (2 : Int32) → (vp_in x16 scL ∧ ∀ x18 : Int32, x18 = scx x16.toNatClampNeg → (∀ x19 : Int32, x19 = v4 + (3 : Int32) → (vp_in x19 scL ∧ ∀ x21 : Int32, x21 = scx x19.toNatClampNeg → (ob S10 v2 11 ∧ (kk ≤ rm_L_law.cells ∧ nn ≤ rm_L_law.slots ∧ (P_X11_driest v2 x15 x18 x21 (fun x24 S22 => Gr S10 S22 → (P_L_law_2341 scL scx Q X23 v1 v2 v3 v4 kk nn S22)) S10)))))))))) S))))))))
set_option maxRecDepth 20000 in
set_option maxHeartbeats 4000000 in
theorem T_L_law_1183 {X : CX} {Q : Int32 → HS → Prop} {scb scL : Nat} {scx : Nat → Int32} (C : Cx X cL_law RL 7 rm_L_law) (E : LE X scb scL scx Q) (ht : LD X) (hn : True) {X23 : Nat → Nat → Nat → Int32 → Nat → Nat → HS → Prop} (hX23 : ∀ (v1 : Nat) (v2 : Nat) (v3 : Nat) (v4 : Int32) (kk : Nat) (nn : Nat) (S : HS), X23 v1 v2 v3 v4 kk nn S → WS X 7 kk nn 23 [(0, .ref scb), (1, .ref v1), (2, .ref v2), (3, .ref v3), (4, .int v4)] [] S) {v1 : Nat} {v2 : Nat} {v3 : Nat} {v4 : Int32} {kk : Nat} {nn : Nat} {S : HS} (h : P_L_law_1183 scL scx Q X23 v1 v2 v3 v4 kk nn S) : WS X 7 kk nn 1183 [(0, .ref scb), (1, .ref v1), (2, .ref v2), (3, .ref v3), (4, .int v4)] [] S := by
  refine r_aload_n (pc := 1183) C dL_law_1183 1 rfl ?_
  refine r_aload_n (pc := 1184) C dL_law_1184 0 rfl ?_
  refine r_iload (pc := 1185) C dL_law_1185 4 rfl ?_
  refine r_iconst (pc := 1187) C (v := (1 : Int32)) dL_law_1187 (by decide) ?_
  refine r_iadd (pc := 1188) C dL_law_1188 ?_
  refine r_topi (fun x1 ex1 => ?_)
  have h := h x1 ex1
  obtain ⟨i2, h⟩ := h
  refine r_scLd (pc := 1189) C E i2 dL_law_1189 ?_
  refine r_topi (fun x3 ex3 => ?_)
  have h := h x3 ex3
  refine r_aload_n (pc := 1190) C dL_law_1190 0 rfl ?_
  refine r_iload (pc := 1191) C dL_law_1191 4 rfl ?_
  refine r_iconst (pc := 1193) C (v := (2 : Int32)) dL_law_1193 (by decide) ?_
  refine r_iadd (pc := 1194) C dL_law_1194 ?_
  refine r_topi (fun x4 ex4 => ?_)
  have h := h x4 ex4
  obtain ⟨i5, h⟩ := h
  refine r_scLd (pc := 1195) C E i5 dL_law_1195 ?_
  refine r_topi (fun x6 ex6 => ?_)
  have h := h x6 ex6
  refine r_aload_n (pc := 1196) C dL_law_1196 0 rfl ?_
  refine r_iload (pc := 1197) C dL_law_1197 4 rfl ?_
  refine r_iconst (pc := 1199) C (v := (3 : Int32)) dL_law_1199 (by decide) ?_
  refine r_iadd (pc := 1200) C dL_law_1200 ?_
  refine r_topi (fun x7 ex7 => ?_)
  have h := h x7 ex7
  obtain ⟨i8, h⟩ := h
  refine r_scLd (pc := 1201) C E i8 dL_law_1201 ?_
  refine r_topi (fun x9 ex9 => ?_)
  have h := h x9 ex9
  obtain ⟨o_v1, h⟩ := h
  obtain ⟨hk, hk2, h⟩ := h
  refine r_callVi0 (pc := 1202) C (rest := []) (a := v1) o_v1 [.int x3, .int x6, .int x9] yV_X9_driest g_792 (c_X9_driest h) dL_law_1202 rfl rfl (Nat.le_of_ble_eq_true rfl) ⟨by decide, by decide⟩ ⟨hk, hk2⟩ ⟨rfl, rfl⟩ (fun x12 S10 h g11 => ?_)
  have h := h g11
  have o_v1 := gr_ob g11 o_v1
  refine r_pop (pc := 1205) C dL_law_1205 rfl ?_
  refine r_aload_n (pc := 1206) C dL_law_1206 2 rfl ?_
  refine r_aload_n (pc := 1207) C dL_law_1207 0 rfl ?_
  refine r_iload (pc := 1208) C dL_law_1208 4 rfl ?_
  refine r_iconst (pc := 1210) C (v := (1 : Int32)) dL_law_1210 (by decide) ?_
  refine r_iadd (pc := 1211) C dL_law_1211 ?_
  refine r_topi (fun x13 ex13 => ?_)
  have h := h x13 ex13
  obtain ⟨i14, h⟩ := h
  refine r_scLd (pc := 1212) C E i14 dL_law_1212 ?_
  refine r_topi (fun x15 ex15 => ?_)
  have h := h x15 ex15
  refine r_aload_n (pc := 1213) C dL_law_1213 0 rfl ?_
  refine r_iload (pc := 1214) C dL_law_1214 4 rfl ?_
  refine r_iconst (pc := 1216) C (v := (2 : Int32)) dL_law_1216 (by decide) ?_
  refine r_iadd (pc := 1217) C dL_law_1217 ?_
  refine r_topi (fun x16 ex16 => ?_)
  have h := h x16 ex16
  obtain ⟨i17, h⟩ := h
  refine r_scLd (pc := 1218) C E i17 dL_law_1218 ?_
  refine r_topi (fun x18 ex18 => ?_)
  have h := h x18 ex18
  refine r_aload_n (pc := 1219) C dL_law_1219 0 rfl ?_
  refine r_iload (pc := 1220) C dL_law_1220 4 rfl ?_
  refine r_iconst (pc := 1222) C (v := (3 : Int32)) dL_law_1222 (by decide) ?_
  refine r_iadd (pc := 1223) C dL_law_1223 ?_
  refine r_topi (fun x19 ex19 => ?_)
  have h := h x19 ex19
  obtain ⟨i20, h⟩ := h
  refine r_scLd (pc := 1224) C E i20 dL_law_1224 ?_
  refine r_topi (fun x21 ex21 => ?_)
  have h := h x21 ex21
  obtain ⟨o_v2, h⟩ := h
  obtain ⟨hk, hk2, h⟩ := h
  refine r_callVi0 (pc := 1225) C (rest := []) (a := v2) o_v2 [.int x15, .int x18, .int x21] yV_X11_driest g_1651 (c_X11_driest h) dL_law_1225 rfl rfl (Nat.le_of_ble_eq_true rfl) ⟨by decide, by decide⟩ ⟨hk, hk2⟩ ⟨rfl, rfl⟩ (fun x24 S22 h g23 => ?_)
  have h := h g23
  have o_v1 := gr_ob g23 o_v1
  have o_v2 := gr_ob g23 o_v2
  refine r_pop (pc := 1228) C dL_law_1228 rfl ?_
  refine r_goto (pc := 1229) C (tgt := 2341) dL_law_1229 (by decide) ?_
  exact r_sub [0, 1, 2, 3, 4] rfl (T_L_law_2341 C E ht hn hX23 h)
def P_L_law_1342 (scL : Nat) (scx : Nat → Int32) (Q : Int32 → HS → Prop) (X23 : Nat → Nat → Nat → Int32 → Nat → Nat → HS → Prop) (v1 : Nat) (v2 : Nat) (v3 : Nat) (v4 : Int32) (s0 : Nat) (s1 : Int32) (s2 : Int32) (s3 : Int32) (s4 : Int32) (s5 : Int32) (s6 : Int32) (s7 : Int32) (kk : Nat) (nn : Nat) (S : HS) : Prop := ob S s0 11 ∧ (kk ≤ rm_L_law.cells ∧ nn ≤ rm_L_law.slots ∧ (P_X11_lee s0 s1 s2 s3 s4 s5 s6 s7 (fun x3 S1 => Gr S S1 → (P_L_law_2341 scL scx Q X23 v1 v2 v3 v4 kk nn S1)) S))
set_option maxRecDepth 20000 in
set_option maxHeartbeats 4000000 in
theorem T_L_law_1342 {X : CX} {Q : Int32 → HS → Prop} {scb scL : Nat} {scx : Nat → Int32} (C : Cx X cL_law RL 7 rm_L_law) (E : LE X scb scL scx Q) (ht : LD X) (hn : True) {X23 : Nat → Nat → Nat → Int32 → Nat → Nat → HS → Prop} (hX23 : ∀ (v1 : Nat) (v2 : Nat) (v3 : Nat) (v4 : Int32) (kk : Nat) (nn : Nat) (S : HS), X23 v1 v2 v3 v4 kk nn S → WS X 7 kk nn 23 [(0, .ref scb), (1, .ref v1), (2, .ref v2), (3, .ref v3), (4, .int v4)] [] S) {v1 : Nat} {v2 : Nat} {v3 : Nat} {v4 : Int32} {s0 : Nat} {s1 : Int32} {s2 : Int32} {s3 : Int32} {s4 : Int32} {s5 : Int32} {s6 : Int32} {s7 : Int32} {kk : Nat} {nn : Nat} {S : HS} (h : P_L_law_1342 scL scx Q X23 v1 v2 v3 v4 s0 s1 s2 s3 s4 s5 s6 s7 kk nn S) : WS X 7 kk nn 1342 [(0, .ref scb), (1, .ref v1), (2, .ref v2), (3, .ref v3), (4, .int v4)] [.int s7, .int s6, .int s5, .int s4, .int s3, .int s2, .int s1, .ref s0] S := by
  obtain ⟨o_s0, h⟩ := h
  obtain ⟨hk, hk2, h⟩ := h
  refine r_callVl0 (pc := 1342) C (rest := []) (a := s0) o_s0 [.int s1, .int s2, .int s3, .int s4, .int s5, .int s6, .int s7] yV_X11_lee g_1655 (c_X11_lee h) dL_law_1342 rfl rfl (Nat.le_of_ble_eq_true rfl) ⟨by decide, by decide⟩ ⟨hk, hk2⟩ ⟨rfl, rfl⟩ (fun x3 S1 h g2 => ?_)
  have h := h g2
  have o_s0 := gr_ob g2 o_s0
  refine r_pop2 (pc := 1345) C dL_law_1345 rfl ?_
  refine r_goto (pc := 1346) C (tgt := 2341) dL_law_1346 (by decide) ?_
  exact r_sub [0, 1, 2, 3, 4] rfl (T_L_law_2341 C E ht hn hX23 h)
end
