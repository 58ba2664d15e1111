section
/-! what air tells -/
def offOf (ws s v : Int32) : Int32 := (ws - (if v = 0 then s else s + 2)) &&& 3
def airOf (off wd : Int32) : Int32 := if off = 0 then wd else if off = 2 then -wd else 0
theorem and3 (x : BitVec 32) : (x &&& 3#32).toNat = x.toNat % 4 := by
  rw [BitVec.toNat_and]
  exact Nat.and_two_pow_sub_one_eq_mod x.toNat 2
theorem off_bv (a b : BitVec 32) : (a - (b &&& 3#32)) &&& 3#32 = (a - b) &&& 3#32 := by
  apply BitVec.eq_of_toNat_eq
  rw [and3, and3, BitVec.toNat_sub, BitVec.toNat_sub, and3]
  have h1 := a.isLt
  have h2 := b.isLt
  omega
theorem off_eq (ws s : Int32) : (ws - ((s + 2) &&& 3)) &&& 3 = (ws - (s + 2)) &&& 3 := by
  apply Int32.toBitVec_inj.mp
  exact off_bv ws.toBitVec (s + 2).toBitVec
section C22
variable {c m w : Nat} {A : AS} {G : GC} {S T : HS} {v1 v2 v3 : Int32} {Q : Int32 → HS → Prop}
theorem way_in : (¬ (v2 < 0 ∨ 1 < v2)) ↔ (v2 = 0 ∨ v2 = 1) := by
  have e0 : (0 : Int32).toInt = 0 := by decide
  have e1 : (1 : Int32).toInt = 1 := by decide
  constructor
  · intro h
    have a := nlt_i (fun z => h (Or.inl z))
    have b := nlt_i (fun z => h (Or.inr z))
    rcases (by omega : v2.toInt = 0 ∨ v2.toInt = 1) with q | q
    · exact Or.inl (Int32.toInt_inj.mp (by omega))
    · exact Or.inr (Int32.toInt_inj.mp (by omega))
  · rintro (rfl | rfl) <;> decide
theorem sp_X9_isWay (h : P_X9_isWay v2 Q S) : P_X9_isWay v2 (fun x T => Q x T ∧ S = T ∧ ans (v2 = 0 ∨ v2 = 1) x) S := by
  delta P_X9_isWay P_X9_isWay_0
  refine ⟨fun c1 => ⟨h.1 c1, rfl, Or.inl ⟨Or.inl c1, rfl⟩⟩, fun c1 => ⟨fun c2 => ⟨(h.2 c1).1 c2, rfl, Or.inr ⟨fun z => z.elim c1 c2, rfl⟩⟩, fun c2 => ⟨(h.2 c1).2 c2, rfl, Or.inl ⟨Or.inr c2, rfl⟩⟩⟩⟩
theorem sp_X5_turnOf {o u : Nat} (h : P_X5_turnOf o v2 u Q S) : P_X5_turnOf o v2 u (fun x T => Q x T ∧ S = T ∧ x = offOf (fI S u 2) (fI S o 2) v2) S := by
  delta P_X5_turnOf P_X5_turnOf_0
  refine ⟨fun c1 => ⟨(h.1 c1).1, fun x e => ?_⟩, fun c1 => ⟨(h.2 c1).1, fun x e => ?_⟩⟩
  · have h := (h.1 c1).2 x e
    delta P_X5_turnOf_17
    refine ⟨h.1, fun y ey => ⟨h.2 y ey, rfl, ?_⟩⟩
    unfold offOf
    rw [if_neg c1, ey, e]
  · have h := (h.2 c1).2 x e
    delta P_X5_turnOf_17
    refine ⟨h.1, fun y ey => ⟨h.2 y ey, rfl, ?_⟩⟩
    unfold offOf
    rw [if_pos c1, ey, e]
theorem sp_X5_airAlong {o u : Nat} (h : P_X5_airAlong o v2 u Q S) : P_X5_airAlong o v2 u (fun x T => Q x T ∧ S = T ∧ x = airOf (offOf (fI S u 2) (fI S o 2) v2) (fI S u 3)) S := by
  delta P_X5_airAlong P_X5_airAlong_0
  obtain ⟨o1, h⟩ := h
  refine ⟨o1, cm_X5_turnOf (sp_X5_turnOf h) h (fun x3 S1 hp h g => ?_)⟩
  have h := h g
  obtain ⟨-, hS, hx⟩ := hp
  subst hS
  unfold airOf
  rw [← hx]
  refine ⟨fun c1 => ⟨fun c2 => ⟨(h.1 c1).1 c2, rfl, by rw [if_neg c1, if_neg c2]⟩, fun c2 => ?_⟩, fun c1 => ?_⟩
  · have h := (h.1 c1).2 c2
    exact ⟨h.1, fun y ey => ⟨h.2 y ey, rfl, by rw [if_neg c1, if_pos c2, ey]⟩⟩
  · have h := h.2 c1
    exact ⟨h.1, fun y ey => ⟨h.2 y ey, rfl, by rw [if_pos c1, ey]⟩⟩
theorem sp_X8_hasHour (hI : IV S) (ow : ob S w 8) (ab : ABd A) (hc : Cnt w A S) (h : P_X8_hasHour w v1 Q S) : P_X8_hasHour w v1 (fun x T => Q x T ∧ S = T ∧ ans (¬ v1 < 0 ∧ v1 < nI (aHs A)) x) S := by
  delta P_X8_hasHour P_X8_hasHour_0
  refine ⟨fun c1 => ⟨h.1 c1, rfl, Or.inr ⟨fun z => z.1 c1, rfl⟩⟩, fun c1 => ?_⟩
  have h := h.2 c1
  obtain ⟨o, h⟩ := h
  refine ⟨o, fun x2 e2 => ?_⟩
  have h := h x2 e2
  have e2 := e2.trans hc.2.1
  refine ⟨fun c2 => ⟨h.1 c2, rfl, Or.inr ⟨fun z => ?_, rfl⟩⟩, fun c2 => ?_⟩
  · rw [e2] at c2
    exact absurd z.2 (Int32.not_lt.mpr c2)
  have h := h.2 c2
  obtain ⟨a4, e4, h⟩ := h
  refine ⟨a4, e4, ?_⟩
  obtain ⟨o4, h⟩ := h
  refine ⟨o4, ?_⟩
  rw [e2] at c2
  have c2 := Int32.not_le.mp c2
  obtain ⟨a5, e5, -, n5⟩ := hI.1 (8, 6, 17, 6) (by decide) w ow
  cases e5.symm.trans e4
  have n5 : hN S a4 = 6 := n5.resolve_left (by decide)
  refine ⟨fun c3 => ?_, fun c3 => ⟨h.2 c3, rfl, Or.inl ⟨⟨c1, c2⟩, rfl⟩⟩⟩
  rw [n5] at c3
  have q1 := le_i c3
  have q2 := lt_i c2
  have hb := ab.2.1
  rw [nI_i (by omega)] at q1 q2
  omega
theorem sp_X11_isHour (hm : (fR S m 3 = none ∧ A = A00) ∨ ∃ rd, WRm m rd A G S) (h : P_X11_isHour m v1 Q S) : P_X11_isHour m v1 (fun x T => Q x T ∧ S = T ∧ ans ((∃ rd, WRm m rd A G S) ∧ ¬ v1 < 0 ∧ v1 < nI (aHs A)) x) S := by
  delta P_X11_isHour P_X11_isHour_0
  obtain ⟨o, h⟩ := h
  refine ⟨o, fun n => ⟨h.1 n, rfl, Or.inr ⟨fun z => ?_, rfl⟩⟩, fun a1 e1 => ?_⟩
  · obtain ⟨⟨rd, q⟩, -⟩ := z
    cases n.symm.trans q.1
  have h := h.2 a1 e1
  rcases hm with ⟨n, -⟩ | ⟨rd, hm⟩
  · cases n.symm.trans e1
  refine ⟨fun c1 => ⟨h.1 c1, rfl, Or.inr ⟨fun z => z.2.1 c1, rfl⟩⟩, fun c1 => ?_⟩
  have h := h.2 c1
  obtain ⟨a4, e4, h⟩ := h
  refine ⟨a4, e4, ?_⟩
  cases hm.1.symm.trans e4
  obtain ⟨o4, h⟩ := h
  refine ⟨o4, fun x5 e5 => ?_⟩
  have h := h x5 e5
  have e5 := e5.trans hm.2.2.1.2.1
  refine ⟨fun c2 => ⟨h.1 c2, rfl, Or.inr ⟨fun z => ?_, rfl⟩⟩, fun c2 => ⟨h.2 c2, rfl, Or.inl ⟨⟨⟨rd, hm⟩, c1, ?_⟩, rfl⟩⟩⟩
  · rw [e5] at c2
    exact absurd z.2.2 (Int32.not_lt.mpr c2)
  · rw [e5] at c2
    exact Int32.not_le.mp c2
theorem sp_X10_facing {rd a : Nat} (e : fR S rd 15 = some a) (h : P_X10_facing rd v1 v2 Q S) : P_X10_facing rd v1 v2 (fun x T => Q x T ∧ S = T ∧ x = if v2 = 0 then fI S a v1.toNatClampNeg else (fI S a v1.toNatClampNeg + 2) &&& 3) S := by
  delta P_X10_facing P_X10_facing_0
  refine ⟨fun c1 => ?_, fun c1 => ?_⟩
  · have h := h.1 c1
    obtain ⟨o1, h⟩ := h
    refine ⟨o1, ?_⟩
    obtain ⟨a2, e2, h⟩ := h
    refine ⟨a2, e2, ?_⟩
    cases e.symm.trans e2
    obtain ⟨o2, h⟩ := h
    refine ⟨o2, ?_⟩
    obtain ⟨o3, h⟩ := h
    exact ⟨o3, fun x ex => ⟨h x ex, rfl, by rw [if_neg c1, ex]⟩⟩
  · have h := h.2 c1
    obtain ⟨o1, h⟩ := h
    refine ⟨o1, ?_⟩
    obtain ⟨a2, e2, h⟩ := h
    refine ⟨a2, e2, ?_⟩
    cases e.symm.trans e2
    obtain ⟨o2, h⟩ := h
    refine ⟨o2, ?_⟩
    obtain ⟨o3, h⟩ := h
    exact ⟨o3, fun x ex => ⟨h x ex, rfl, by rw [if_pos c1, ex]⟩⟩
theorem sp_X10_air {rd a b d : Nat} (e15 : fR S rd 15 = some a) (e9 : fR S rd 9 = some b) (e10 : fR S rd 10 = some d) (h : P_X10_air rd v1 v2 v3 Q S) : P_X10_air rd v1 v2 v3 (fun x T => Q x T ∧ S = T ∧ x = airOf (offOf (fI S b v3.toNatClampNeg) (fI S a v1.toNatClampNeg) v2) (fI S d v3.toNatClampNeg)) S := by
  delta P_X10_air P_X10_air_0
  obtain ⟨o1, h⟩ := h
  refine ⟨o1, ?_⟩
  obtain ⟨a2, e2, h⟩ := h
  refine ⟨a2, e2, ?_⟩
  cases e9.symm.trans e2
  obtain ⟨o2, h⟩ := h
  refine ⟨o2, ?_⟩
  obtain ⟨o3, h⟩ := h
  refine ⟨o3, fun x3 e3 => ?_⟩
  have h := h x3 e3
  refine cm_X10_facing (sp_X10_facing e15 h) h (fun x6 S4 hp h g => ?_)
  have h := h g
  obtain ⟨-, hS, hx⟩ := hp
  subst hS
  intro x7 e7
  have h := h x7 e7
  have eo : x7 = offOf (fI S b v3.toNatClampNeg) (fI S a v1.toNatClampNeg) v2 := by
    unfold offOf
    rw [e7, hx, e3]
    by_cases c1 : v2 = 0
    · rw [if_pos c1, if_pos c1]
    · rw [if_neg c1, if_neg c1]
      exact off_eq _ _
  unfold airOf
  rw [← eo]
  refine ⟨fun c1 => ⟨fun c2 => ⟨(h.1 c1).1 c2, rfl, by rw [if_neg c1, if_neg c2]⟩, fun c2 => ?_⟩, fun c1 => ?_⟩
  · have h := (h.1 c1).2 c2
    obtain ⟨a5, e5, h⟩ := h
    refine ⟨a5, e5, ?_⟩
    cases e10.symm.trans e5
    obtain ⟨o5, h⟩ := h
    refine ⟨o5, ?_⟩
    obtain ⟨o6, h⟩ := h
    exact ⟨o6, fun y ey => ⟨h y ey, rfl, by rw [if_neg c1, if_pos c2, ey]⟩⟩
  · have h := h.2 c1
    obtain ⟨a5, e5, h⟩ := h
    refine ⟨a5, e5, ?_⟩
    cases e10.symm.trans e5
    obtain ⟨o5, h⟩ := h
    refine ⟨o5, ?_⟩
    obtain ⟨o6, h⟩ := h
    exact ⟨o6, fun y ey => ⟨h y ey, rfl, by rw [if_pos c1, ey]⟩⟩
theorem hm_0 {S1 : HS} (hm : (fR S m 3 = none ∧ A = A00) ∨ ∃ rd, WRm m rd A G S) (o2 : ob S m 11) (eS1 : S1 = sI S m 0 0) : (fR S1 m 3 = none ∧ A = A00) ∨ ∃ rd, WRm m rd A G S1 := by
  have fr : fR S1 = fR S := by rw [eS1]; rfl
  rcases hm with ⟨n, hA⟩ | ⟨rd, hm⟩
  · exact Or.inl ⟨by rw [fr]; exact n, hA⟩
  · refine Or.inr ⟨rd, wrm_mv (by rw [eS1]; exact gr_rf S) hm (by rw [fr]) (fun i _ => by rw [fr]) (fun j _ => by rw [row_o eS1 (ob_ne hm.2.1 o2 (by decide))]) (fun b o n => ⟨row_o eS1 (o.elim (fun o => ob_ne o o2 (by decide)) (fun o => ob_ne o o2 (by decide))), by rw [eS1]; exact n⟩)⟩
end C22
/-! bounds of what was told -/
def inI (lo hi : Int) (x : Int32) : Prop := lo ≤ x.toInt ∧ x.toInt ≤ hi
def RnB (g : Nat → Int32) : Prop := inI 0 9 (g 0) ∧ inI 1 9 (g 1) ∧ inI 0 3 (g 2) ∧ inI 0 9 (g 3) ∧ inI 0 100 (g 4)
def RoB (g : Nat → Int32) : Prop := inI 0 7 (g 0) ∧ inI 0 7 (g 1) ∧ inI 0 3 (g 2) ∧ inI 1 60 (g 3) ∧ 0 ≤ (g 4).toInt ∧ (g 4).toInt ≤ (g 3).toInt
def WkB (g : Nat → Int32) : Prop := inI 0 3 (g 0) ∧ inI 0 999 (g 1) ∧ inI 1 153 (g 2) ∧ inI 1 81 (g 3) ∧ inI 1 153 (g 4) ∧ inI 1 9 (g 5) ∧ (g 5).toInt ≤ (g 6).toInt ∧ (g 6).toInt ≤ 9
def GBd (A : AS) (G : GC) : Prop := (∀ h, h < aHs A → RnB (gRn G h)) ∧ (∀ i, i < aP A → gPk G i ≤ 2 ∧ inI 0 9 (gPv G i)) ∧ (∀ i, i < aR A → RoB (gRd G i)) ∧ ∀ i, i < aW A → WkB (gWk G i)
section C23
variable {f : Nat → Int32} {n p q : Nat} {A : AS} {G : GC}
theorem t32 {v a b : Int64} (h : a ≤ v ∧ v ≤ b) {lo hi : Int} (ha : a.toInt = lo) (hb : b.toInt = hi) (h1 : -1000000 ≤ lo) (h2 : hi ≤ 1000000) : inI lo hi v.toInt32 ∧ v.toInt32.toInt = v.toInt := by
  have a0 := Int64.le_iff_toInt_le.mp h.1
  have a1 := Int64.le_iff_toInt_le.mp h.2
  rw [ha] at a0
  rw [hb] at a1
  have e : v.toInt32.toInt = v.toInt := by
    rw [Int64.toInt_toInt32]
    exact Int.bmod_eq_of_le (by omega) (by omega)
  unfold inI
  rw [e]
  exact ⟨⟨a0, a1⟩, rfl⟩
theorem sdV_in : inI 0 3 (sdV f n p) := by
  unfold sdV
  cases hs : sideOf f n p with
  | none => unfold inI; decide
  | some k =>
    have hk : k ≤ 3 := by
      unfold sideOf dc at hs
      repeat' split at hs
      all_goals first | (cases hs; done) | (cases hs; decide)
    show inI 0 3 (nI k)
    unfold inI
    rw [nI_i (by omega)]
    omega
theorem nI_in8 {k : Nat} (h : k < 8) : inI 0 7 (nI k) := by
  unfold inI
  rw [nI_i (by omega)]
  omega
theorem gb_rain (h : sRain f n p = .inl q) : RnB (rnC f n p) := by
  unfold sRain at h
  obtain ⟨p1, h1, h⟩ := rb_inl h
  obtain ⟨p2, h2, h⟩ := rb_inl h
  obtain ⟨p3, h3, h⟩ := rb_inl h
  obtain ⟨p4, h4, h⟩ := rb_inl h
  obtain ⟨p5, h5, h⟩ := rb_inl h
  have b0 := (t32 (part_in h1) (lo := 0) (hi := 9) rfl rfl (by decide) (by decide)).1
  have b1 := (t32 (part_in h2) (lo := 1) (hi := 9) rfl rfl (by decide) (by decide)).1
  have b3 := (t32 (whole_in h5) (lo := 0) (hi := 9) rfl rfl (by decide) (by decide)).1
  have b4 := (t32 (part_in h) (lo := 0) (hi := 100) rfl rfl (by decide) (by decide)).1
  rw [sPart_inl h1] at b1
  rw [sSide_inl h4, sWord_inl h3, sPart_inl h2, sPart_inl h1] at b3
  rw [sWhole_inl h5, sSide_inl h4, sWord_inl h3, sPart_inl h2, sPart_inl h1] at b4
  exact ⟨b0, b1, sdV_in, b3, b4⟩
theorem gb_place : plK f n p ≤ 2 ∧ (sPlace f n p A = .inl q → inI 0 9 (plV f n p)) := by
  refine ⟨?_, fun h => ?_⟩
  · unfold plK dc
    repeat' split
    all_goals decide
  · unfold sPlace at h
    obtain ⟨p1, h1, h⟩ := rb_inl h
    have e1 := (sNew_inl h1).1
    unfold plV
    rw [← e1]
    by_cases c1 : isW f n p1 15
    · rw [dc_y c1]
      unfold inI
      decide
    · rw [dc_n c1]
      have h : dc (isW f n p1 15) (.inl (tEn f n p1)) (dc (isW f n p1 16) (sPart f n p1 16 0 9) (.inl p1)) = (.inl q : Res) := h
      rw [dc_n c1] at h
      by_cases c2 : isW f n p1 16
      · rw [dc_y c2] at h ⊢
        exact (t32 (part_in h) (lo := 0) (hi := 9) rfl rfl (by decide) (by decide)).1
      · rw [dc_n c2]
        unfold inI
        decide
theorem gb_road (h : sRoad f n p A = .inl q) : RoB (rdC f n p A) := by
  unfold sRoad at h
  obtain ⟨p1, h1, h⟩ := rb_inl h
  obtain ⟨p2, h2, h⟩ := rb_inl h
  obtain ⟨p3, h3, h⟩ := rb_inl h
  obtain ⟨p4, h4, h⟩ := rb_inl h
  obtain ⟨e1, k1, g1, l1⟩ := sPB_inl h1
  obtain ⟨e4, k4, g4, l4⟩ := sPB_inl h4
  have e2 := sSide_inl h2
  have e3 := sWhole_inl h3
  have b3 := t32 (whole_in h3) (lo := 1) (hi := 60) rfl rfl (by decide) (by decide)
  subst e1
  subst e2
  subst e3
  subst e4
  refine ⟨?_, ?_, sdV_in, b3.1, ?_⟩
  · show inI 0 7 (nI (lkV A (tV f n p)))
    rw [lkV_of g1]
    exact nI_in8 l1
  · show inI 0 7 (nI (lkV A _))
    rw [show lkV A (tV f n (tEn f n (e2 f n p))) = k4 from lkV_of g4]
    exact nI_in8 l4
  · show 0 ≤ (dc _ _ _ : Int32).toInt ∧ (dc (isW f n (e2 f n (e2 f n p)) 17) (pVal f n (e2 f n (e2 f n p))) 0 : Int32).toInt ≤ ((tV f n (e2 f n p)).toInt32).toInt
    have b3 : inI 1 60 (tV f n (e2 f n p)).toInt32 := b3.1
    by_cases c : isW f n (e2 f n (e2 f n p)) 17
    · have h : dc (isW f n (e2 f n (e2 f n p)) 17) (sPart f n (e2 f n (e2 f n p)) 17 0 (tV f n (e2 f n p)).toInt32.toInt64) (.inl _) = (.inl q : Res) := h
      rw [dc_y c] at h ⊢
      have b := t32 (part_in h) (lo := 0) (hi := (tV f n (e2 f n p)).toInt32.toInt) rfl (Int32.toInt_toInt64 _) (by decide) (by have := b3.2; omega)
      exact b.1
    · rw [dc_n c]
      have := b3.1
      have e0 : (0 : Int32).toInt = 0 := by decide
      omega
theorem mul_in {x y : Int32} {a b c d : Int} (hx : inI a b x) (hy : inI c d y) (h0 : 0 ≤ a) (h1 : 0 ≤ c) (hb : b * d ≤ 1000000) : inI (a * c) (b * d) (x * y) := by
  have l : a * c ≤ x.toInt * y.toInt := Int.mul_le_mul hx.1 hy.1 h1 (by have := hx.1; omega)
  have u : x.toInt * y.toInt ≤ b * d := Int.mul_le_mul hx.2 hy.2 (by have := hy.1; omega) (by have := hx.1; have := hx.2; omega)
  have p : 0 ≤ a * c := Int.mul_nonneg h0 h1
  unfold inI
  rw [Int32.toInt_mul, Int.bmod_eq_of_le (by omega) (by omega)]
  exact ⟨l, u⟩
theorem add_in {x y : Int32} {a b c d : Int} (hx : inI a b x) (hy : inI c d y) (h0 : -100000 ≤ a) (h1 : -100000 ≤ c) (h2 : b ≤ 100000) (h3 : d ≤ 100000) : inI (a + c) (b + d) (x + y) ∧ (x + y).toInt = x.toInt + y.toInt := by
  have e : (x + y).toInt = x.toInt + y.toInt := by
    have := hx.1; have := hx.2; have := hy.1; have := hy.2
    rw [Int32.toInt_add, Int.bmod_eq_of_le (by omega) (by omega)]
  unfold inI
  rw [e]
  have := hx.1; have := hx.2; have := hy.1; have := hy.2
  exact ⟨⟨by omega, by omega⟩, rfl⟩
theorem sub_in {x y : Int32} {a b c d : Int} (hx : inI a b x) (hy : inI c d y) (h0 : -100000 ≤ a) (h1 : -100000 ≤ c) (h2 : b ≤ 100000) (h3 : d ≤ 100000) : (x - y).toInt = x.toInt - y.toInt := by
  have := hx.1; have := hx.2; have := hy.1; have := hy.2
  rw [Int32.toInt_sub, Int.bmod_eq_of_le (by omega) (by omega)]
/-- the kind, its amount and the bow -/
theorem gb_kind (h : sKind f n p = .inl q) : inI 0 3 (nI (kdOf f n p)) ∧ inI 0 999 (amOf f n p) ∧ inI 0 8 (bowOf f n p) ∧ (lhOf f n p).toInt = (bowOf f n p).toInt + 1 := by
  have hk := kdOf_le f n p
  have k3 : inI 0 3 (nI (kdOf f n p)) := by
    unfold inI
    rw [nI_i (by omega)]
    omega
  have e1 : (1 : Int32).toInt = 1 := by decide
  have e0 : (0 : Int32).toInt = 0 := by decide
  unfold sKind at h
  by_cases c1 : isW f n p 18
  · rw [dc_y c1] at h
    have b := (t32 (part_in h) (lo := 1) (hi := 8) rfl rfl (by decide) (by decide)).1
    have b : inI 1 8 (pVal f n p) := b
    obtain ⟨q1, q2, q3, -⟩ := ko_1 c1
    have z := add_in b (y := 1) (c := 1) (d := 1) ⟨by decide, by decide⟩ (by decide) (by decide) (by decide) (by decide)
    refine ⟨k3, by rw [q2]; exact ⟨by have := b.1; omega, by have := b.2; omega⟩, by rw [q3]; exact ⟨by have := b.1; omega, b.2⟩, ?_⟩
    unfold lhOf
    rw [if_pos q1, q2, q3, z.2, e1]
  rw [dc_n c1] at h
  have lh : kdOf f n p ≠ 1 → lhOf f n p = 1 := fun z => by unfold lhOf; rw [if_neg z]
  by_cases c2 : isW f n p 19
  · rw [dc_y c2] at h
    have b : inI 0 999 (pVal f n p) := (t32 (part_in h) (lo := 0) (hi := 999) rfl rfl (by decide) (by decide)).1
    obtain ⟨q1, q2, q3, -⟩ := ko_2 c2
    exact ⟨k3, by rw [q2]; exact b, by rw [q3]; exact ⟨by decide, by decide⟩, by rw [lh (by omega), q3, e1, e0]; rfl⟩
  rw [dc_n c2] at h
  by_cases c3 : isW f n p 20
  · rw [dc_y c3] at h
    have b : inI 1 99 (pVal f n p) := (t32 (part_in h) (lo := 1) (hi := 99) rfl rfl (by decide) (by decide)).1
    obtain ⟨q1, q2, q3, -⟩ := ko_3 c3
    exact ⟨k3, by rw [q2]; exact ⟨by have := b.1; omega, by have := b.2; omega⟩, by rw [q3]; exact ⟨by decide, by decide⟩, by rw [lh (by omega), q3, e1, e0]; rfl⟩
  rw [dc_n c3] at h
  have c0 : isW f n p 21 := by
    unfold sWord at h
    split at h
    · assumption
    · cases h
  obtain ⟨q1, q2, q3, -⟩ := ko_0 c0
  exact ⟨k3, by rw [q2]; exact ⟨by decide, by decide⟩, by rw [q3]; exact ⟨by decide, by decide⟩, by rw [lh (by omega), q3, e1, e0]; rfl⟩
theorem gb_walk (h : sWalker f n p A = .inl q) : WkB (wkC f n p) := by
  unfold sWalker at h
  obtain ⟨p1, h1, h⟩ := rb_inl h
  obtain ⟨p2, h2, h⟩ := rb_inl h
  obtain ⟨p3, h3, h⟩ := rb_inl h
  obtain ⟨p4, h4, h⟩ := rb_inl h
  have z1 := (sNew_inl h1).1
  obtain ⟨k1, k2, k3, k4⟩ := gb_kind h2
  have z2 := sKind_inl h2
  have z3 := sBody_inl h3
  have b5 : inI 1 9 (pVal f n p3) := (t32 (part_in h4) (lo := 1) (hi := 9) rfl rfl (by decide) (by decide)).1
  have z4 := sPart_inl h4
  have b6 := t32 (part_in h) (lo := (pVal f n p3).toInt) (hi := 9) (Int32.toInt_toInt64 _) rfl (by have := b5.1; omega) (by decide)
  unfold sBody at h3
  obtain ⟨r1, g1, h3⟩ := rb_inl h3
  obtain ⟨r2, g2, h3⟩ := rb_inl h3
  have c0 : inI 1 9 (pVal f n p2) := (t32 (part_in g1) (lo := 1) (hi := 9) rfl rfl (by decide) (by decide)).1
  have c1 : inI 1 9 (pVal f n r1) := (t32 (part_in g2) (lo := 1) (hi := 9) rfl rfl (by decide) (by decide)).1
  have c2 : inI (lhOf f n p1).toInt 9 (pVal f n r2) := (t32 (part_in h3) (lo := (lhOf f n p1).toInt) (hi := 9) (Int32.toInt_toInt64 _) rfl (by have := k3.1; omega) (by decide)).1
  rw [sPart_inl g1] at c1
  rw [sPart_inl g2, sPart_inl g1] at c2
  subst z1
  have s1 := (add_in c1 k3 (by decide) (by decide) (by decide) (by decide)).1
  have s2 := sub_in c2 k3 (by have := k3.1; omega) (by decide) (by decide) (by decide)
  have s2' : inI 1 9 (pVal f n (tEn f n (tEn f n (tEn f n (tEn f n p2)))) - bowOf f n (tEn f n p)) := by
    unfold inI
    rw [s2]
    have := c2.1; have := c2.2; have := k3.1
    omega
  have m1 := mul_in c0 s1 (by decide) (by decide) (by decide)
  have m2 := mul_in c0 s2' (by decide) (by decide) (by decide)
  have m3 := mul_in s1 s2' (by decide) (by decide) (by decide)
  rw [z2] at m1 m2 m3
  rw [z3, z2] at b5
  rw [z4, z3, z2] at b6
  exact ⟨k1, k2, m1, m2, m3, b5, b6.1.1, b6.1.2⟩
end C23
/-! bounds of what was told, over the whole text -/
section C24
variable {f : Nat → Int32} {n p q : Nat} {A : AS} {G : GC}
theorem up_lt {P : (Nat → Int32) → Prop} {g : Nat → Nat → Int32} {k : Nat} {c : Nat → Int32} (h : ∀ i, i < k → P (g i)) (hc : P c) : ∀ i, i < k + 1 → P (va_up g k c i) := by
  intro i hi
  by_cases z : i = k
  · rw [z, va_up_self]
    exact hc
  · rw [va_up_ne _ _ z]
    exact h i (by omega)
theorem gb_ln (h : sLn f n p A = .inl q) (b : GBd A G) : GBd (aLn f n p A) (gLn f n p A G) := by
  obtain ⟨b1, b2, b3, b4⟩ := b
  unfold sLn at h
  unfold aLn gLn
  by_cases w0 : isW f n p 0
  · rw [dc_y w0, dc_y w0]
    exact ⟨b1, b2, b3, b4⟩
  rw [dc_n w0] at h
  rw [dc_n w0, dc_n w0]
  by_cases w2 : isW f n p 2
  · rw [dc_y w2] at h
    rw [dc_y w2, dc_y w2]
    obtain ⟨p1, h1, h⟩ := rb_inl h
    rw [(sRoom_inl h1).1] at h
    exact ⟨up_lt b1 (gb_rain h), b2, b3, b4⟩
  rw [dc_n w2] at h
  rw [dc_n w2, dc_n w2]
  by_cases w11 : isW f n p 11
  · rw [dc_y w11] at h
    rw [dc_y w11, dc_y w11]
    obtain ⟨p1, h1, h⟩ := rb_inl h
    rw [(sRoom_inl h1).1] at h
    refine ⟨b1, fun i hi => ?_, b3, b4⟩
    show va_up (gPk G) (aP A) _ i ≤ 2 ∧ inI 0 9 (va_up (gPv G) (aP A) _ i)
    have hi : i < aP A + 1 := hi
    by_cases z : i = aP A
    · rw [z, va_up_self, va_up_self]
      exact ⟨(gb_place (A := A) (q := q)).1, gb_place.2 h⟩
    · rw [va_up_ne _ _ z, va_up_ne _ _ z]
      exact b2 i (by omega)
  rw [dc_n w11] at h
  rw [dc_n w11, dc_n w11]
  by_cases w12 : isW f n p 12
  · rw [dc_y w12] at h
    rw [dc_y w12, dc_y w12]
    obtain ⟨p1, h1, h⟩ := rb_inl h
    rw [(sRoom_inl h1).1] at h
    exact ⟨b1, b2, up_lt b3 (gb_road h), b4⟩
  rw [dc_n w12] at h
  rw [dc_n w12, dc_n w12]
  by_cases w13 : isW f n p 13
  · rw [dc_y w13] at h
    rw [dc_y w13, dc_y w13]
    obtain ⟨p1, h1, h⟩ := rb_inl h
    rw [(sRoom_inl h1).1] at h
    exact ⟨b1, b2, b3, up_lt b4 (gb_walk h)⟩
  rw [dc_n w13, dc_n w13]
  exact ⟨b1, b2, b3, b4⟩
theorem gb_all : ∀ (k p : Nat) (A A' : AS) (G : GC), sAll f n k p A = .inl A' → GBd A G → GBd A' (gAll f n k p A G) := by
  intro k
  induction k with
  | zero => intro p A A' G h b; cases h
  | succ k ih =>
    intro p A A' G h b
    have h : aft f n (aLn f n p A) (fun p2 => sAll f n k p2 (aLn f n p A)) (sLn f n p A) = .inl A' := h
    show GBd A' (gAft f n G (gLn f n p A G) (fun p2 => gAll f n k p2 (aLn f n p A) (gLn f n p A G)) (sLn f n p A))
    cases hL : sLn f n p A with
    | inr e => rw [hL] at h; cases h
    | inl p1 =>
      rw [hL] at h
      have b := gb_ln hL b
      unfold aft at h
      unfold gAft
      by_cases c0 : tS f n p1 = 0
      · simp only [if_pos c0] at h ⊢
        split at h
        · cases h
          exact b
        · cases h
      · simp only [if_neg c0] at h ⊢
        cases hS : sSign f n p1 3 with
        | inr e => rw [hS] at h; cases h
        | inl p2 =>
          rw [hS] at h
          exact ih p2 _ _ _ h b
theorem rw_gb {t : Nat} {v1 : Int32} {pr : AS × GC} (h : RWo f t v1 = some pr) : GBd pr.1 pr.2 := by
  unfold RWo at h
  by_cases c : v1 < 0 ∨ nI t < v1
  · rw [dc_y c] at h
    cases h
  · rw [dc_n c] at h
    unfold RWs at h
    cases hR : sAll f v1.toNatClampNeg 1000 0 A00 with
    | inr e => rw [hR] at h; cases h
    | inl A =>
      rw [hR] at h
      cases h
      exact gb_all 1000 0 A00 A G00 hR ⟨fun h hh => absurd hh (Nat.not_lt_zero h), fun h hh => absurd hh (Nat.not_lt_zero h), fun h hh => absurd hh (Nat.not_lt_zero h), fun h hh => absurd hh (Nat.not_lt_zero h)⟩
theorem gb_00 : GBd A00 G00 := ⟨fun h hh => absurd hh (Nat.not_lt_zero h), fun h hh => absurd hh (Nat.not_lt_zero h), fun h hh => absurd hh (Nat.not_lt_zero h), fun h hh => absurd hh (Nat.not_lt_zero h)⟩
/-- both worlds tell the same, and within bounds -/
def WRy (c m : Nat) (S : HS) : Prop := ∃ A G, WRa c m A G S ∧ GBd A G
end C24
section C24b
variable {c r w w1 w2 m rd a t : Nat} {A : AS} {G : GC} {S T U : HS} {wi wr : List (Nat × Nat)} {R : Option (AS × GC)}
theorem wr_wy (hI : IV S) (hT : IV T) (hU : IV U) (om : ob S m 11) (J : CJ c r w1 w2 S) (h1 : Cnt w1 A S) (h2 : CtB w1 A G S S) (h3 : ABd A) (h4 : (fR S m 3 = none ∧ A = A00) ∨ ∃ rd, WRm m rd A G S) (g : Gr S T) (K' : K8 S T) (F : FRI wi wr S T) (hR : (11, 3) ∉ wr) (h10 : ∀ i, i < 31 → (10, i) ∉ wr) (h10i : ∀ j, j < 6 → (10, j) ∉ wi) (hW8 : ∀ j ∈ ([6, 7, 8, 9, 10, 11] : List Nat), (8, j) ∉ wr) (g' : Gr T U) (e : WCe c r w1 w2 S R T) (e' : WMe m T R U) (gb : GBd A G) (hG : ∀ p, R = some p → GBd p.1 p.2) : WRy c m U := by
  obtain ⟨A', G', h, q⟩ := wr_worldz hI hT hU om J h1 h2 h3 h4 g K' F hR h10 h10i hW8 g' e e'
  rcases q with ⟨-, q1, q2⟩ | q
  · exact ⟨A', G', h, by rw [q1, q2]; exact gb⟩
  · exact ⟨A', G', h, hG _ q⟩
end C24b
/-! what minutes tells -/
section C25
variable {c m w : Nat} {A : AS} {G : GC} {S T : HS} {v1 v2 v3 : Int32} {Q : Int32 → HS → Prop}
theorem ix_lt {k : Nat} (hk : k ≤ 900) (h : ¬ v1 < 0 ∧ v1 < nI k) : v1.toNatClampNeg < k := by
  have e0 : (0 : Int32).toInt = 0 := by decide
  have q1 := nlt_i h.1
  have q2 := lt_i h.2
  rw [nI_i (by omega)] at q2
  show v1.toInt.toNat < _
  omega
theorem sp_X6_canGo {o : Nat} (b1 : 1 ≤ (fI S o 5).toInt) (b2 : (fI S o 6).toInt ≤ 9) (h : P_X6_canGo o v3 Q S) : P_X6_canGo o v3 (fun x T => Q x T ∧ S = T ∧ ans (¬ (v3 < fI S o 5 ∨ fI S o 6 < v3)) x) S := by
  have e1 : (1 : Int32).toInt = 1 := by decide
  have e9 : (9 : Int32).toInt = 9 := by decide
  delta P_X6_canGo P_X6_canGo_0
  obtain ⟨o1, h⟩ := h
  refine ⟨o1, fun x1 ex1 => ?_⟩
  have h := h x1 ex1
  refine ⟨fun c1 => ⟨h.1 c1, rfl, Or.inr ⟨fun z => z (Or.inl (ex1 ▸ c1)), rfl⟩⟩, fun c1 => ?_⟩
  have h := h.2 c1
  intro x3 ex3
  have h := h x3 ex3
  refine ⟨fun c2 => ⟨h.1 c2, rfl, Or.inr ⟨fun z => z (Or.inr (ex3 ▸ c2)), rfl⟩⟩, fun c2 => ?_⟩
  have h := h.2 c2
  have q1 := nlt_i c1
  have q2 := nlt_i c2
  rw [ex1] at q1
  rw [ex3] at q2
  refine ⟨fun c3 => ?_, fun c3 => ?_⟩
  · have := lt_i c3
    omega
  have h := h.2 c3
  refine ⟨fun c4 => ?_, fun c4 => ⟨h.2 c4, rfl, Or.inl ⟨fun z => z.elim (fun z => c1 (ex1 ▸ z)) (fun z => c2 (ex3 ▸ z)), rfl⟩⟩⟩
  have := lt_i c4
  omega
theorem sp_X11_isSpeed {rd a b : Nat} (e3 : fR S m 3 = some rd) (e24 : fR S rd 24 = some a) (e25 : fR S rd 25 = some b) (h : P_X11_isSpeed m v1 v3 Q S) : P_X11_isSpeed m v1 v3 (fun x T => Q x T ∧ S = T ∧ ans (¬ (v3 < fI S a v1.toNatClampNeg ∨ fI S b v1.toNatClampNeg < v3)) x) S := by
  delta P_X11_isSpeed P_X11_isSpeed_0
  obtain ⟨o1, h⟩ := h
  refine ⟨o1, ?_⟩
  obtain ⟨a1, g1, h⟩ := h
  refine ⟨a1, g1, ?_⟩
  cases e3.symm.trans g1
  obtain ⟨o2, h⟩ := h
  refine ⟨o2, ?_⟩
  obtain ⟨a2, g2, h⟩ := h
  refine ⟨a2, g2, ?_⟩
  cases e24.symm.trans g2
  obtain ⟨o3, h⟩ := h
  refine ⟨o3, ?_⟩
  obtain ⟨o4, h⟩ := h
  refine ⟨o4, fun x4 ex4 => ?_⟩
  have h := h x4 ex4
  obtain ⟨a5, g5, h⟩ := h
  refine ⟨a5, g5, ?_⟩
  cases e3.symm.trans g5
  obtain ⟨o5, h⟩ := h
  refine ⟨o5, ?_⟩
  obtain ⟨a6, g6, h⟩ := h
  refine ⟨a6, g6, ?_⟩
  cases e25.symm.trans g6
  obtain ⟨o6, h⟩ := h
  refine ⟨o6, ?_⟩
  obtain ⟨o7, h⟩ := h
  refine ⟨o7, fun x8 ex8 => ?_⟩
  have h := h x8 ex8
  refine cm_X11_in (sp_X11_in h) h (fun x11 S9 hp h g b => ?_)
  have h := h g b
  refine ⟨h.1, h.2, hp.2.1, ?_⟩
  rw [← ex4, ← ex8]
  exact hp.2.2
theorem zero_n {v : Int32} {k : Nat} (hk : k = 0) (h : ¬ v < 0 ∧ v < nI k) : False := by
  have q1 := nlt_i h.1
  have q2 := lt_i h.2
  have e0 : (0 : Int32).toInt = 0 := by decide
  have e1 : (nI k).toInt = 0 := by rw [hk]; decide
  omega
end C25
end
section
/-! legs: what both sides reckon, in machine words -/
/-- only rows of longs have changed -/
def wJ (S : HS) (f : Nat → Nat → Int64) : HS := (hL S, hK S, hN S, fI S, f, fR S)
def mx0 (x : Int32) : Int32 := if x < 0 then 0 else x
def mn2 (x y : Int32) : Int32 := if x < y then x else y
def lyT (rd : Nat → Int32) (v : Int32) : Int64 := (rd 3 - rd 4).toInt64 * ((2520 : Int32) / v).toInt64
def lyF (rn rd : Nat → Int32) (v : Int32) : Int64 := (rn 0).toInt64 * lyT rd v
def lyO (rn rd : Nat → Int32) (u : Int32) : Int32 := offOf (rn 2) (rd 2) u
def lyA (rn rd : Nat → Int32) (u : Int32) : Int32 := airOf (lyO rn rd u) (rn 3)
/-- for each unit of a face -/
def lyS (rn rd : Nat → Int32) (u v : Int32) : Nat → Int64
  | 0 => lyF rn rd v * (rn 1).toInt64
  | 1 => lyF rn rd v * (mx0 (v - lyA rn rd u)).toInt64
  | 2 => lyF rn rd v * (mx0 (lyA rn rd u - v)).toInt64
  | 3 => if lyO rn rd u = 1 then lyF rn rd v * (rn 3).toInt64 else 0
  | _ => if lyO rn rd u = 3 then lyF rn rd v * (rn 3).toInt64 else 0
def shO (wk : Nat → Int32) : Int32 := if wk 0 = 3 then wk 1 else 0
def fwJ (st : Nat → Int64) (wk : Nat → Int32) : Prop := ¬ lg_cmp (st 1 * (mn2 (wk 3) (shO wk)).toInt64) (st 0 * (mn2 (wk 2) (shO wk)).toInt64) ≤ 0
noncomputable def skJ (st : Nat → Int64) (wk : Nat → Int32) (x y : Int32) : Nat → Int64
  | 0 => st 0 * (mx0 (wk 2 - dc (fwJ st wk) 0 (shO wk))).toInt64
  | 1 => st 1 * (mx0 (wk 3 - dc (fwJ st wk) (shO wk) 0 - x)).toInt64
  | 2 => st 2 * (mx0 (wk 3 - y)).toInt64
  | 3 => st 3 * (wk 4).toInt64
  | _ => st 4 * (wk 4).toInt64
noncomputable def sumJ (f : Nat → Int64) : Int64 := f 0 + f 1 + f 2 + f 3 + f 4
theorem skJ_congr {st st' : Nat → Int64} {wk : Nat → Int32} {x y : Int32} (h : ∀ k, k < 5 → st k = st' k) (k : Nat) : skJ st wk x y k = skJ st' wk x y k := by
  have e : fwJ st wk = fwJ st' wk := by unfold fwJ; rw [h 0 (by decide), h 1 (by decide)]
  match k with
  | 0 => show st 0 * (mx0 (wk 2 - dc (fwJ st wk) 0 (shO wk))).toInt64 = st' 0 * (mx0 (wk 2 - dc (fwJ st' wk) 0 (shO wk))).toInt64; rw [e, h 0 (by decide)]
  | 1 => show st 1 * (mx0 (wk 3 - dc (fwJ st wk) (shO wk) 0 - x)).toInt64 = st' 1 * (mx0 (wk 3 - dc (fwJ st' wk) (shO wk) 0 - x)).toInt64; rw [e, h 1 (by decide)]
  | 2 => show st 2 * _ = st' 2 * _; rw [h 2 (by decide)]
  | 3 => show st 3 * _ = st' 3 * _; rw [h 3 (by decide)]
  | k + 4 => show st 4 * (wk 4).toInt64 = st' 4 * (wk 4).toInt64; rw [h 4 (by decide)]
theorem u5 (f : Nat → Nat → Int64) (b : Nat) (x0 x1 x2 x3 x4 : Int64) : ∃ g, g = u2 (u2 (u2 (u2 (u2 f b (0 : Int32).toNatClampNeg x0) b (1 : Int32).toNatClampNeg x1) b (2 : Int32).toNatClampNeg x2) b (3 : Int32).toNatClampNeg x3) b (4 : Int32).toNatClampNeg x4 ∧ g b 0 = x0 ∧ g b 1 = x1 ∧ g b 2 = x2 ∧ g b 3 = x3 ∧ g b 4 = x4 ∧ ∀ d, d ≠ b → g d = f d := by
  have j0 : (0 : Int32).toNatClampNeg = 0 := by decide
  have j1 : (1 : Int32).toNatClampNeg = 1 := by decide
  have j2 : (2 : Int32).toNatClampNeg = 2 := by decide
  have j3 : (3 : Int32).toNatClampNeg = 3 := by decide
  have j4 : (4 : Int32).toNatClampNeg = 4 := by decide
  rw [j0, j1, j2, j3, j4]
  refine ⟨_, rfl, ?_, ?_, ?_, ?_, u2_self _ _ _ _, fun d hd => ?_⟩
  · rw [u2_ne _ _ (by omega), u2_ne _ _ (by omega), u2_ne _ _ (by omega), u2_ne _ _ (by omega), u2_self]
  · rw [u2_ne _ _ (by omega), u2_ne _ _ (by omega), u2_ne _ _ (by omega), u2_self]
  · rw [u2_ne _ _ (by omega), u2_ne _ _ (by omega), u2_self]
  · rw [u2_ne _ _ (by omega), u2_self]
  · rw [u2_row _ _ hd, u2_row _ _ hd, u2_row _ _ hd, u2_row _ _ hd, u2_row _ _ hd]
section C26
variable {c m w v0 v1 v3 b0 b1 : Nat} {S T : HS} {v2 v4 x y : Int32} {Q : Int32 → HS → Prop} {QJ : Int64 → HS → Prop} {Q0 : HS → Prop}
theorem sp_X6_shield (h : P_X6_shield v0 Q S) : P_X6_shield v0 (fun x T => Q x T ∧ S = T ∧ x = shO (fI S v0)) S := by
  delta P_X6_shield P_X6_shield_0
  obtain ⟨o1, h⟩ := h
  refine ⟨o1, fun x1 e1 => ?_⟩
  have h := h x1 e1
  subst e1
  unfold shO
  exact ⟨fun c1 => ⟨h.1 c1, rfl, by rw [if_neg c1]⟩, fun c1 x3 e3 => ⟨h.2 c1 x3 e3, rfl, by rw [if_pos c1, e3]⟩⟩
theorem sp_X1_lay (hv : ¬ v4 ≤ 0) (e1 : fR S v0 1 = some b1) (h : P_X1_lay v0 v1 v2 v3 v4 Q0 S) : P_X1_lay v0 v1 v2 v3 v4 (fun T => Q0 T ∧ ∃ f, T = wJ S f ∧ (∀ d, d ≠ b1 → f d = fJ S d) ∧ ∀ k, k < 5 → f b1 k = lyS (fI S v3) (fI S v1) v2 v4 k) S := by
  delta P_X1_lay P_X1_lay_0
  refine ⟨fun c => absurd c hv, fun c => ?_⟩
  have h := h.2 c
  obtain ⟨o2, h⟩ := h
  refine ⟨o2, ?_⟩
  intro x2 ex2
  have h := h x2 ex2
  intro x3 ex3
  have h := h x3 ex3
  obtain ⟨n5, h⟩ := h
  refine ⟨n5, ?_⟩
  intro x5 ex5
  have h := h x5 ex5
  delta P_X1_lay_27
  obtain ⟨o6, h⟩ := h
  refine ⟨o6, ?_⟩
  intro x6 ex6
  have h := h x6 ex6
  intro x7 ex7
  have h := h x7 ex7
  have hF : x7 = lyF (fI S v3) (fI S v1) v4 := by rw [ex7, ex6, ex5, ex3, ex2]; rfl
  clear ex7 ex6 ex5 ex3 ex2
  obtain ⟨o8, h⟩ := h
  refine ⟨o8, ?_⟩
  refine cm_X5_turnOf (sp_X5_turnOf h) h (fun x9 S1 hp h g => ?_)
  have h := h g
  obtain ⟨-, hS, hO⟩ := hp
  subst hS
  have hO : x9 = lyO (fI S v3) (fI S v1) v2 := hO
  refine cm_X5_airAlong (sp_X5_airAlong h) h (fun x10 S1 hp h g => ?_)
  have h := h g
  obtain ⟨-, hS, hA⟩ := hp
  subst hS
  have hA : x10 = lyA (fI S v3) (fI S v1) v2 := hA
  obtain ⟨o11, h⟩ := h
  refine ⟨o11, ?_⟩
  obtain ⟨a12, e12, h⟩ := h
  refine ⟨a12, e12, ?_⟩
  cases e1.symm.trans e12
  intro x13 e13
  have h := h x13 e13
  obtain ⟨o14, h⟩ := h
  refine ⟨o14, ?_⟩
  intro x15 e15
  have h := h x15 e15
  obtain ⟨o16, h⟩ := h
  refine ⟨o16, ?_⟩
  intro S2 e17
  have h := h S2 e17
  subst e17
  obtain ⟨a18, e18, h⟩ := h
  refine ⟨a18, e18, ?_⟩
  cases e1.symm.trans e18
  intro x19 e19
  have h := h x19 e19
  obtain ⟨o20, h⟩ := h
  refine ⟨o20, ?_⟩
  intro x21 e21
  have h := h x21 e21
  obtain ⟨o22, h⟩ := h
  refine ⟨o22, ?_⟩
  intro S3 e23
  have h := h S3 e23
  subst e23
  obtain ⟨a24, e24, h⟩ := h
  refine ⟨a24, e24, ?_⟩
  cases e1.symm.trans e24
  intro x25 e25
  have h := h x25 e25
  obtain ⟨o26, h⟩ := h
  refine ⟨o26, ?_⟩
  intro x27 e27
  have h := h x27 e27
  obtain ⟨o28, h⟩ := h
  refine ⟨o28, ?_⟩
  intro S4 e29
  have h := h S4 e29
  subst e29
  obtain ⟨a30, e30, h⟩ := h
  refine ⟨a30, e30, ?_⟩
  cases e1.symm.trans e30
  have k0 : x15 = lyS (fI S v3) (fI S v1) v2 v4 0 := by rw [e15, e13, hF]; rfl
  have k1 : x21 = lyS (fI S v3) (fI S v1) v2 v4 1 := by rw [e21, e19, hF, hA]; rfl
  have k2 : x27 = lyS (fI S v3) (fI S v1) v2 v4 2 := by rw [e27, e25, hF, hA]; rfl
  clear e15 e13 e21 e19 e27 e25
  have tl : ∀ s2 : Int64, s2 = lyS (fI S v3) (fI S v1) v2 v4 3 → P_X1_lay_130 Q0 v0 v3 x7 x9 b1 3 s2 (sJ (sJ (sJ S b1 (0 : Int32).toNatClampNeg x15) b1 (1 : Int32).toNatClampNeg x21) b1 (2 : Int32).toNatClampNeg x27) → P_X1_lay_130 (fun T => Q0 T ∧ ∃ f, T = wJ S f ∧ (∀ d, d ≠ b1 → f d = fJ S d) ∧ ∀ k, k < 5 → f b1 k = lyS (fI S v3) (fI S v1) v2 v4 k) v0 v3 x7 x9 b1 3 s2 (sJ (sJ (sJ S b1 (0 : Int32).toNatClampNeg x15) b1 (1 : Int32).toNatClampNeg x21) b1 (2 : Int32).toNatClampNeg x27) := by
    intro s2 k3 h
    delta P_X1_lay_130
    have fin : ∀ s4 : Int64, s4 = lyS (fI S v3) (fI S v1) v2 v4 4 → ∃ f, sJ (sJ (sJ (sJ (sJ S b1 (0 : Int32).toNatClampNeg x15) b1 (1 : Int32).toNatClampNeg x21) b1 (2 : Int32).toNatClampNeg x27) b1 (3 : Int32).toNatClampNeg s2) b1 (4 : Int32).toNatClampNeg s4 = wJ S f ∧ (∀ d, d ≠ b1 → f d = fJ S d) ∧ ∀ k, k < 5 → f b1 k = lyS (fI S v3) (fI S v1) v2 v4 k := by
      intro s4 k4
      obtain ⟨gf, eg, g0, g1, g2, g3, g4, g5⟩ := u5 (fJ S) b1 x15 x21 x27 s2 s4
      refine ⟨gf, by rw [eg]; rfl, g5, fun k hk => ?_⟩
      match k, hk with
      | 0, _ => rw [g0, k0]
      | 1, _ => rw [g1, k1]
      | 2, _ => rw [g2, k2]
      | 3, _ => rw [g3, k3]
      | 4, _ => rw [g4, k4]
      | k + 5, hk => exact absurd hk (by omega)
    obtain ⟨p1, h⟩ := h
    refine ⟨p1, ?_⟩
    obtain ⟨p2, h⟩ := h
    refine ⟨p2, ?_⟩
    intro S5 e5
    have h := h S5 e5
    subst e5
    obtain ⟨p3, h⟩ := h
    refine ⟨p3, ?_⟩
    obtain ⟨a31, e31, h⟩ := h
    refine ⟨a31, e31, ?_⟩
    cases e1.symm.trans e31
    refine ⟨fun c3 => ?_, fun c3 => ?_⟩
    · have h := h.1 c3
      obtain ⟨p4, h⟩ := h
      refine ⟨p4, ?_⟩
      obtain ⟨p5, h⟩ := h
      refine ⟨p5, ?_⟩
      intro S6 e6
      have h := h S6 e6
      subst e6
      refine ⟨h, fin 0 ?_⟩
      rw [hO] at c3
      exact (if_neg c3).symm
    · have h := h.2 c3
      obtain ⟨p4, h⟩ := h
      refine ⟨p4, ?_⟩
      intro x32 e32
      have h := h x32 e32
      obtain ⟨p5, h⟩ := h
      refine ⟨p5, ?_⟩
      intro x33 e33
      have h := h x33 e33
      obtain ⟨p6, h⟩ := h
      refine ⟨p6, ?_⟩
      intro S6 e6
      have h := h S6 e6
      subst e6
      refine ⟨h, fin x33 ?_⟩
      rw [hO] at c3
      rw [e33, e32, hF]
      exact (if_pos c3).symm
  refine ⟨fun c2 => ?_, fun c2 => ?_⟩
  · have h := h.1 c2
    refine tl 0 ?_ h
    rw [hO] at c2
    exact (if_neg c2).symm
  · have h := h.2 c2
    intro x34 e34
    have h := h x34 e34
    refine tl _ ?_ h
    rw [hO] at c2
    rw [e34, hF]
    exact (if_pos c2).symm
theorem sp_X1_isForward (e1 : fR S v0 1 = some b1) (h : P_X1_isForward v0 v1 Q S) : P_X1_isForward v0 v1 (fun x T => Q x T ∧ S = T ∧ ans (fwJ (fJ S b1) (fI S v1)) x) S := by
  delta P_X1_isForward P_X1_isForward_0
  obtain ⟨o1, h⟩ := h
  refine ⟨o1, ?_⟩
  obtain ⟨a2, e2, h⟩ := h
  refine ⟨a2, e2, ?_⟩
  cases e1.symm.trans e2
  obtain ⟨o3, h⟩ := h
  refine ⟨o3, ?_⟩
  obtain ⟨o4, h⟩ := h
  refine ⟨o4, ?_⟩
  intro x5 ex5
  have h := h x5 ex5
  obtain ⟨o6, h⟩ := h
  refine ⟨o6, ?_⟩
  refine cm_X6_shield (sp_X6_shield h) h (fun x7 S1 hp h g => ?_)
  have h := h g
  obtain ⟨-, hS, h7⟩ := hp
  subst hS
  intro x8 ex8
  have h := h x8 ex8
  intro x9 ex9
  have h := h x9 ex9
  intro x10 ex10
  have h := h x10 ex10
  obtain ⟨a11, e11, h⟩ := h
  refine ⟨a11, e11, ?_⟩
  cases e1.symm.trans e11
  obtain ⟨o12, h⟩ := h
  refine ⟨o12, ?_⟩
  obtain ⟨o13, h⟩ := h
  refine ⟨o13, ?_⟩
  intro x14 ex14
  have h := h x14 ex14
  refine cm_X6_shield (sp_X6_shield h) h (fun x15 S1 hp h g => ?_)
  have h := h g
  obtain ⟨-, hS, h15⟩ := hp
  subst hS
  intro x16 ex16
  have h := h x16 ex16
  intro x17 ex17
  have h := h x17 ex17
  intro x18 ex18
  have h := h x18 ex18
  have k1 : x18 = fJ S b1 1 * (mn2 (fI S v1 3) (shO (fI S v1))).toInt64 := by rw [ex18, ex17, ex16, ex14, h15]; rfl
  have k0 : x10 = fJ S b1 0 * (mn2 (fI S v1 2) (shO (fI S v1))).toInt64 := by rw [ex10, ex9, ex8, ex5, h7]; rfl
  rw [k1, k0] at h
  rw [k1, k0]
  exact ⟨fun c1 => ⟨h.1 c1, rfl, Or.inr ⟨fun z => z c1, rfl⟩⟩, fun c1 => ⟨h.2 c1, rfl, Or.inl ⟨c1, rfl⟩⟩⟩
end C26
/-! legs: the class's faces -/
section C27
variable {c m w v0 v1 v2 v4 b0 b1 : Nat} {S T : HS} {u v x y : Int32} {Q : Int32 → HS → Prop} {QJ : Int64 → HS → Prop} {Q0 : HS → Prop}
theorem sp_X1_soak35 {r s : Int32} (e0 : fR S v0 0 = some b0) (e1 : fR S v0 1 = some b1) (ne : b1 ≠ b0) (hr : r = dc (fwJ (fJ S b1) (fI S v1)) 0 (shO (fI S v1))) (hs : s = dc (fwJ (fJ S b1) (fI S v1)) (shO (fI S v1)) 0) (h : P_X1_soak_35 QJ v0 v1 x y r s S) : P_X1_soak_35 (fun z T => QJ z T ∧ ∃ f, T = wJ S f ∧ (∀ d, d ≠ b0 → f d = fJ S d) ∧ (∀ k, k < 5 → f b0 k = skJ (fJ S b1) (fI S v1) x y k) ∧ z = sumJ (skJ (fJ S b1) (fI S v1) x y)) v0 v1 x y r s S := by
  delta P_X1_soak_35
  obtain ⟨op, h⟩ := h
  refine ⟨op, ?_⟩
  obtain ⟨af0, ef0, h⟩ := h
  refine ⟨af0, ef0, ?_⟩
  cases e0.symm.trans ef0
  obtain ⟨as0, es0, h⟩ := h
  refine ⟨as0, es0, ?_⟩
  cases e1.symm.trans es0
  obtain ⟨oa0, h⟩ := h
  refine ⟨oa0, ?_⟩
  obtain ⟨ob0, h⟩ := h
  refine ⟨ob0, ?_⟩
  intro xs0 qs0
  have h := h xs0 qs0
  obtain ⟨ow, h⟩ := h
  refine ⟨ow, ?_⟩
  intro xw0 qw0
  have h := h xw0 qw0
  intro xm0 qm0
  have h := h xm0 qm0
  obtain ⟨oc0, h⟩ := h
  refine ⟨oc0, ?_⟩
  intro xv0 qv0
  have h := h xv0 qv0
  obtain ⟨od0, h⟩ := h
  refine ⟨od0, ?_⟩
  have t0 : xs0 = fJ S b1 0 := by
    rw [qs0]
    rfl
  have k0 : xv0 = skJ (fJ S b1) (fI S v1) x y 0 := by
    rw [qv0, qm0, t0, qw0, hr]
    rfl
  intro S0 q0
  have h := h S0 q0
  subst q0
  obtain ⟨af1, ef1, h⟩ := h
  refine ⟨af1, ef1, ?_⟩
  cases e0.symm.trans ef1
  obtain ⟨as1, es1, h⟩ := h
  refine ⟨as1, es1, ?_⟩
  cases e1.symm.trans es1
  obtain ⟨oa1, h⟩ := h
  refine ⟨oa1, ?_⟩
  obtain ⟨ob1, h⟩ := h
  refine ⟨ob1, ?_⟩
  intro xs1 qs1
  have h := h xs1 qs1
  intro xw1 qw1
  have h := h xw1 qw1
  intro xm1 qm1
  have h := h xm1 qm1
  obtain ⟨oc1, h⟩ := h
  refine ⟨oc1, ?_⟩
  intro xv1 qv1
  have h := h xv1 qv1
  obtain ⟨od1, h⟩ := h
  refine ⟨od1, ?_⟩
  have t1 : xs1 = fJ S b1 1 := by
    rw [qs1]
    show (u2 (fJ S) b0 (0 : Int32).toNatClampNeg xv0) b1 (1 : Int32).toNatClampNeg = _
    rw [u2_row _ _ ne]
    rfl
  have k1 : xv1 = skJ (fJ S b1) (fI S v1) x y 1 := by
    rw [qv1, qm1, t1, qw1, hs]
    rfl
  intro S1 q1
  have h := h S1 q1
  subst q1
  obtain ⟨af2, ef2, h⟩ := h
  refine ⟨af2, ef2, ?_⟩
  cases e0.symm.trans ef2
  obtain ⟨as2, es2, h⟩ := h
  refine ⟨as2, es2, ?_⟩
  cases e1.symm.trans es2
  obtain ⟨oa2, h⟩ := h
  refine ⟨oa2, ?_⟩
  obtain ⟨ob2, h⟩ := h
  refine ⟨ob2, ?_⟩
  intro xs2 qs2
  have h := h xs2 qs2
  intro xw2 qw2
  have h := h xw2 qw2
  intro xm2 qm2
  have h := h xm2 qm2
  obtain ⟨oc2, h⟩ := h
  refine ⟨oc2, ?_⟩
  intro xv2 qv2
  have h := h xv2 qv2
  obtain ⟨od2, h⟩ := h
  refine ⟨od2, ?_⟩
  have t2 : xs2 = fJ S b1 2 := by
    rw [qs2]
    show (u2 (u2 (fJ S) b0 (0 : Int32).toNatClampNeg xv0) b0 (1 : Int32).toNatClampNeg xv1) b1 (2 : Int32).toNatClampNeg = _
    rw [u2_row _ _ ne, u2_row _ _ ne]
    rfl
  have k2 : xv2 = skJ (fJ S b1) (fI S v1) x y 2 := by
    rw [qv2, qm2, t2, qw2]
    rfl
  intro S2 q2
  have h := h S2 q2
  subst q2
  obtain ⟨af3, ef3, h⟩ := h
  refine ⟨af3, ef3, ?_⟩
  cases e0.symm.trans ef3
  obtain ⟨as3, es3, h⟩ := h
  refine ⟨as3, es3, ?_⟩
  cases e1.symm.trans es3
  obtain ⟨oa3, h⟩ := h
  refine ⟨oa3, ?_⟩
  obtain ⟨ob3, h⟩ := h
  refine ⟨ob3, ?_⟩
  intro xs3 qs3
  have h := h xs3 qs3
  intro xw3 qw3
  have h := h xw3 qw3
  obtain ⟨oc3, h⟩ := h
  refine ⟨oc3, ?_⟩
  intro xv3 qv3
  have h := h xv3 qv3
  obtain ⟨od3, h⟩ := h
  refine ⟨od3, ?_⟩
  have t3 : xs3 = fJ S b1 3 := by
    rw [qs3]
    show (u2 (u2 (u2 (fJ S) b0 (0 : Int32).toNatClampNeg xv0) b0 (1 : Int32).toNatClampNeg xv1) b0 (2 : Int32).toNatClampNeg xv2) b1 (3 : Int32).toNatClampNeg = _
    rw [u2_row _ _ ne, u2_row _ _ ne, u2_row _ _ ne]
    rfl
  have k3 : xv3 = skJ (fJ S b1) (fI S v1) x y 3 := by
    rw [qv3, t3, qw3]
    rfl
  intro S3 q3
  have h := h S3 q3
  subst q3
  obtain ⟨af4, ef4, h⟩ := h
  refine ⟨af4, ef4, ?_⟩
  cases e0.symm.trans ef4
  obtain ⟨as4, es4, h⟩ := h
  refine ⟨as4, es4, ?_⟩
  cases e1.symm.trans es4
  obtain ⟨oa4, h⟩ := h
  refine ⟨oa4, ?_⟩
  obtain ⟨ob4, h⟩ := h
  refine ⟨ob4, ?_⟩
  intro xs4 qs4
  have h := h xs4 qs4
  intro xw4 qw4
  have h := h xw4 qw4
  obtain ⟨oc4, h⟩ := h
  refine ⟨oc4, ?_⟩
  intro xv4 qv4
  have h := h xv4 qv4
  obtain ⟨od4, h⟩ := h
  refine ⟨od4, ?_⟩
  have t4 : xs4 = fJ S b1 4 := by
    rw [qs4]
    show (u2 (u2 (u2 (u2 (fJ S) b0 (0 : Int32).toNatClampNeg xv0) b0 (1 : Int32).toNatClampNeg xv1) b0 (2 : Int32).toNatClampNeg xv2) b0 (3 : Int32).toNatClampNeg xv3) b1 (4 : Int32).toNatClampNeg = _
    rw [u2_row _ _ ne, u2_row _ _ ne, u2_row _ _ ne, u2_row _ _ ne]
    rfl
  have k4 : xv4 = skJ (fJ S b1) (fI S v1) x y 4 := by
    rw [qv4, t4, qw4]
    rfl
  intro S4 q4
  have h := h S4 q4
  subst q4
  obtain ⟨gf, eg, g0, g1, g2, g3, g4, g5⟩ := u5 (fJ S) b0 xv0 xv1 xv2 xv3 xv4
  have eT : sJ (sJ (sJ (sJ (sJ S b0 (0 : Int32).toNatClampNeg xv0) b0 (1 : Int32).toNatClampNeg xv1) b0 (2 : Int32).toNatClampNeg xv2) b0 (3 : Int32).toNatClampNeg xv3) b0 (4 : Int32).toNatClampNeg xv4 = wJ S gf := by rw [eg]; rfl
  rw [eT] at h
  rw [eT]
  obtain ⟨az0, ez0, h⟩ := h
  refine ⟨az0, ez0, ?_⟩
  cases e0.symm.trans ez0
  obtain ⟨oy0, h⟩ := h
  refine ⟨oy0, ?_⟩
  obtain ⟨oz0, h⟩ := h
  refine ⟨oz0, ?_⟩
  intro xr0 qr0
  have h := h xr0 qr0
  obtain ⟨az1, ez1, h⟩ := h
  refine ⟨az1, ez1, ?_⟩
  cases e0.symm.trans ez1
  obtain ⟨oy1, h⟩ := h
  refine ⟨oy1, ?_⟩
  obtain ⟨oz1, h⟩ := h
  refine ⟨oz1, ?_⟩
  intro xr1 qr1
  have h := h xr1 qr1
  obtain ⟨az2, ez2, h⟩ := h
  refine ⟨az2, ez2, ?_⟩
  cases e0.symm.trans ez2
  obtain ⟨oy2, h⟩ := h
  refine ⟨oy2, ?_⟩
  obtain ⟨oz2, h⟩ := h
  refine ⟨oz2, ?_⟩
  intro xr2 qr2
  have h := h xr2 qr2
  obtain ⟨az3, ez3, h⟩ := h
  refine ⟨az3, ez3, ?_⟩
  cases e0.symm.trans ez3
  obtain ⟨oy3, h⟩ := h
  refine ⟨oy3, ?_⟩
  obtain ⟨oz3, h⟩ := h
  refine ⟨oz3, ?_⟩
  intro xr3 qr3
  have h := h xr3 qr3
  obtain ⟨az4, ez4, h⟩ := h
  refine ⟨az4, ez4, ?_⟩
  cases e0.symm.trans ez4
  obtain ⟨oy4, h⟩ := h
  refine ⟨oy4, ?_⟩
  obtain ⟨oz4, h⟩ := h
  refine ⟨oz4, ?_⟩
  intro xr4 qr4
  have h := h xr4 qr4
  refine ⟨h, gf, rfl, g5, fun k hk => ?_, ?_⟩
  · match k, hk with
    | 0, _ => rw [g0, k0]
    | 1, _ => rw [g1, k1]
    | 2, _ => rw [g2, k2]
    | 3, _ => rw [g3, k3]
    | 4, _ => rw [g4, k4]
    | k + 5, hk => exact absurd hk (by omega)
  · have r0 : xr0 = xv0 := qr0.trans g0
    have r1 : xr1 = xv1 := qr1.trans g1
    have r2 : xr2 = xv2 := qr2.trans g2
    have r3 : xr3 = xv3 := qr3.trans g3
    have r4 : xr4 = xv4 := qr4.trans g4
    rw [r0, r1, r2, r3, r4, k0, k1, k2, k3, k4]
    rfl
theorem sp_X1_soak (e0 : fR S v0 0 = some b0) (e1 : fR S v0 1 = some b1) (ne : b1 ≠ b0) (h : P_X1_soak v0 v1 x y QJ S) : P_X1_soak v0 v1 x y (fun z T => QJ z T ∧ ∃ f, T = wJ S f ∧ (∀ d, d ≠ b0 → f d = fJ S d) ∧ (∀ k, k < 5 → f b0 k = skJ (fJ S b1) (fI S v1) x y k) ∧ z = sumJ (skJ (fJ S b1) (fI S v1) x y)) S := by
  delta P_X1_soak P_X1_soak_0
  obtain ⟨o1, h⟩ := h
  refine ⟨o1, ?_⟩
  refine cm_X1_isForward (sp_X1_isForward e1 h) h (fun x1 S1 hp h g b => ?_)
  have h := h g b
  obtain ⟨-, hS, ha⟩ := hp
  subst hS
  refine ⟨fun c1 => ?_, fun c1 => ?_⟩
  · have h := h.1 c1
    have hn := an0 ha c1
    obtain ⟨o2, h⟩ := h
    refine ⟨o2, ?_⟩
    refine cm_X6_shield (sp_X6_shield h) h (fun x2 S1 hp h g => ?_)
    have h := h g
    obtain ⟨-, hS, h2⟩ := hp
    subst hS
    delta P_X1_soak_20
    refine ⟨fun c2 => ?_, fun c2 => absurd c1 c2⟩
    exact sp_X1_soak35 e0 e1 ne (by rw [dc_n hn, h2]) (by rw [dc_n hn]) (h.1 c2)
  · have h := h.2 c1
    have hn := an1 ha c1
    delta P_X1_soak_20
    refine ⟨fun c2 => absurd c2 c1, fun c2 => ?_⟩
    have h := h.2 c2
    obtain ⟨o2, h⟩ := h
    refine ⟨o2, ?_⟩
    refine cm_X6_shield (sp_X6_shield h) h (fun x2 S1 hp h g => ?_)
    have h := h g
    obtain ⟨-, hS, h2⟩ := hp
    subst hS
    exact sp_X1_soak35 e0 e1 ne (by rw [dc_y hn]) (by rw [dc_y hn, h2]) h
noncomputable def wtJ (wk rd rn : Nat → Int32) (u v x y : Int32) : Nat → Int64 := skJ (lyS rn rd u v) wk x y
end C27
/-! legs: the reference's faces, in machine words -/
def mRn (S : HS) (rd h j : Nat) : Int32 := fI S ((fR S rd (7 + j)).getD 0) h
def mRd (S : HS) (rd h j : Nat) : Int32 := fI S ((fR S rd (13 + j)).getD 0) h
def mWk (S : HS) (rd h j : Nat) : Int32 := fI S ((fR S rd (19 + j)).getD 0) h
def mm2 (x y : Int32) : Int32 := if x ≤ y then x else y
def ls2 (x y : Int32) : Int32 := if x ≤ y then 0 else x - y
def acO (o w : Int32) : Int32 := if o = 1 then w else if o = 3 then -w else 0
def lyC (rn rd : Nat → Int32) (u : Int32) : Int32 := acO (lyO rn rd u) (rn 3)
def fwM (rn rd wk : Nat → Int32) (u v : Int32) : Prop := ¬ rd 3 ≤ rd 4 ∧ ¬ v - lyA rn rd u ≤ 0 ∧ ¬ rn 0 * (v - lyA rn rd u) * mm2 (wk 3) (shO wk) ≤ rn 0 * rn 1 * mm2 (wk 2) (shO wk)
noncomputable def itM (rn rd wk : Nat → Int32) (u v x y : Int32) : Nat → Int32
  | 0 => rn 0 * rn 1 * ls2 (wk 2) (dc (fwM rn rd wk u v) 0 (shO wk))
  | 1 => if v - lyA rn rd u ≤ 0 then 0 else rn 0 * (v - lyA rn rd u) * ls2 (ls2 (wk 3) (dc (fwM rn rd wk u v) (shO wk) 0)) x
  | 2 => if 0 ≤ v - lyA rn rd u then 0 else rn 0 * (-(v - lyA rn rd u)) * ls2 (wk 3) y
  | 3 => if lyC rn rd u ≤ 0 then 0 else rn 0 * lyC rn rd u * wk 4
  | _ => if 0 ≤ lyC rn rd u then 0 else rn 0 * (-lyC rn rd u) * wk 4
section C28
variable {m rd : Nat} {S T : HS} {v1 v2 v3 v4 v5 v6 v7 v8 : Int32} {Q : Int32 → HS → Prop} {QJ : Int64 → HS → Prop}
theorem mrn {j a h : Nat} (e : fR S rd (7 + j) = some a) : fI S a h = mRn S rd h j := by
  unfold mRn
  rw [e]
  rfl
theorem mrd {j a h : Nat} (e : fR S rd (13 + j) = some a) : fI S a h = mRd S rd h j := by
  unfold mRd
  rw [e]
  rfl
theorem mwk {j a h : Nat} (e : fR S rd (19 + j) = some a) : fI S a h = mWk S rd h j := by
  unfold mWk
  rw [e]
  rfl
theorem sp_X10_shield (h : P_X10_shield rd v1 Q S) : P_X10_shield rd v1 (fun x T => Q x T ∧ S = T ∧ x = shO (mWk S rd v1.toNatClampNeg)) S := by
  delta P_X10_shield P_X10_shield_0
  obtain ⟨o1, h⟩ := h
  refine ⟨o1, ?_⟩
  obtain ⟨a2, e2, h⟩ := h
  refine ⟨a2, e2, ?_⟩
  obtain ⟨o3, h⟩ := h
  refine ⟨o3, ?_⟩
  obtain ⟨o4, h⟩ := h
  refine ⟨o4, ?_⟩
  intro x5 e5
  have h := h x5 e5
  have e5 := e5.trans (mwk (j := 0) e2)
  refine ⟨fun c1 => ⟨h.1 c1, rfl, ?_⟩, fun c1 => ?_⟩
  · unfold shO
    rw [if_neg (by rw [← e5]; exact c1)]
  · have h := h.2 c1
    obtain ⟨a6, e6, h⟩ := h
    refine ⟨a6, e6, ?_⟩
    obtain ⟨o7, h⟩ := h
    refine ⟨o7, ?_⟩
    obtain ⟨o8, h⟩ := h
    refine ⟨o8, fun x9 e9 => ⟨h x9 e9, rfl, ?_⟩⟩
    unfold shO
    rw [if_pos (by rw [← e5]; exact c1), e9]
    exact mwk (j := 1) e6
theorem sp_X10_air2 (he : ∀ i, 7 ≤ i → i ≤ 27 → ∃ b, fR S rd i = some b) (h : P_X10_air rd v2 v3 v4 Q S) : P_X10_air rd v2 v3 v4 (fun x T => Q x T ∧ S = T ∧ x = lyA (mRn S rd v4.toNatClampNeg) (mRd S rd v2.toNatClampNeg) v3) S := by
  obtain ⟨a, e15⟩ := he 15 (by decide) (by decide)
  obtain ⟨b, e9⟩ := he 9 (by decide) (by decide)
  obtain ⟨d, e10⟩ := he 10 (by decide) (by decide)
  refine cm_X10_air (sp_X10_air e15 e9 e10 h) h (fun x T hp h => ⟨h, hp.2.1, ?_⟩)
  rw [hp.2.2]
  unfold lyA lyO
  rw [← mrn (j := 2) e9, ← mrn (j := 3) e10, ← mrd (j := 2) e15]
theorem sp_X10_across (he : ∀ i, 7 ≤ i → i ≤ 27 → ∃ b, fR S rd i = some b) (h : P_X10_across rd v2 v3 v4 Q S) : P_X10_across rd v2 v3 v4 (fun x T => Q x T ∧ S = T ∧ x = lyC (mRn S rd v4.toNatClampNeg) (mRd S rd v2.toNatClampNeg) v3) S := by
  obtain ⟨a, e15⟩ := he 15 (by decide) (by decide)
  delta P_X10_across P_X10_across_0
  obtain ⟨o1, h⟩ := h
  refine ⟨o1, ?_⟩
  obtain ⟨a2, e2, h⟩ := h
  refine ⟨a2, e2, ?_⟩
  obtain ⟨o2, h⟩ := h
  refine ⟨o2, ?_⟩
  obtain ⟨o3, h⟩ := h
  refine ⟨o3, fun x3 e3 => ?_⟩
  have h := h x3 e3
  refine cm_X10_facing (sp_X10_facing e15 h) h (fun x6 S4 hp h g => ?_)
  have h := h g
  obtain ⟨-, hS, hx⟩ := hp
  subst hS
  intro x7 e7
  have h := h x7 e7
  have eo : x7 = lyO (mRn S rd v4.toNatClampNeg) (mRd S rd v2.toNatClampNeg) v3 := by
    unfold lyO offOf
    rw [e7, hx, e3, ← mrn (j := 2) e2, ← mrd (j := 2) e15]
    by_cases c1 : v3 = 0
    · rw [if_pos c1, if_pos c1]
    · rw [if_neg c1, if_neg c1]
      exact off_eq _ _
  unfold lyC acO
  rw [← eo]
  refine ⟨fun c1 => ⟨fun c2 => ⟨(h.1 c1).1 c2, rfl, by rw [if_neg c1, if_neg c2]⟩, fun c2 => ?_⟩, fun c1 => ?_⟩
  · have h := (h.1 c1).2 c2
    obtain ⟨a5, e5, h⟩ := h
    refine ⟨a5, e5, ?_⟩
    obtain ⟨o5, h⟩ := h
    refine ⟨o5, ?_⟩
    obtain ⟨o6, h⟩ := h
    exact ⟨o6, fun y ey => ⟨h y ey, rfl, by rw [if_neg c1, if_pos c2, ey, ← mrn (j := 3) e5]⟩⟩
  · have h := h.2 c1
    obtain ⟨a5, e5, h⟩ := h
    refine ⟨a5, e5, ?_⟩
    obtain ⟨o5, h⟩ := h
    refine ⟨o5, ?_⟩
    obtain ⟨o6, h⟩ := h
    exact ⟨o6, fun y ey => ⟨h y ey, rfl, by rw [if_pos c1, ey, ← mrn (j := 3) e5]⟩⟩
theorem sp_X11_less (h : P_X11_less v1 v2 Q S) : P_X11_less v1 v2 (fun x T => Q x T ∧ S = T ∧ x = ls2 v1 v2) S := by
  delta P_X11_less P_X11_less_0
  unfold ls2
  exact ⟨fun c => ⟨h.1 c, rfl, by rw [if_pos c]⟩, fun c => ⟨h.2 c, rfl, by rw [if_neg c]⟩⟩
theorem sp_X11_isForward (he : ∀ i, 7 ≤ i → i ≤ 27 → ∃ b, fR S rd i = some b) (e3 : fR S m 3 = some rd) (h : P_X11_isForward m v1 v2 v3 v4 v5 Q S) : P_X11_isForward m v1 v2 v3 v4 v5 (fun x T => Q x T ∧ S = T ∧ ans (fwM (mRn S rd v4.toNatClampNeg) (mRd S rd v2.toNatClampNeg) (mWk S rd v1.toNatClampNeg) v3 v5) x) S := by
  have f112 : ∀ y z s : Int32, y = v5 - lyA (mRn S rd v4.toNatClampNeg) (mRd S rd v2.toNatClampNeg) v3 → z = mm2 ((mWk S rd v1.toNatClampNeg) 3) (shO (mWk S rd v1.toNatClampNeg)) → ∀ w, w = mm2 ((mWk S rd v1.toNatClampNeg) 2) (shO (mWk S rd v1.toNatClampNeg)) → ans (¬ (mRd S rd v2.toNatClampNeg) 3 ≤ (mRd S rd v2.toNatClampNeg) 4) s → P_X11_isForward_112 Q m v4 y z w s S → P_X11_isForward_112 (fun x T => Q x T ∧ S = T ∧ ans (fwM (mRn S rd v4.toNatClampNeg) (mRd S rd v2.toNatClampNeg) (mWk S rd v1.toNatClampNeg) v3 v5) x) m v4 y z w s S := by
    intro y z s hy hz w hw hs h
    delta P_X11_isForward_112
    refine ⟨fun c1 => ⟨h.1 c1, rfl, Or.inr ⟨fun q => an0 hs c1 q.1, rfl⟩⟩, fun c1 => ?_⟩
    have h := h.2 c1
    have ho := an1 hs c1
    refine ⟨fun c2 => ⟨h.1 c2, rfl, Or.inr ⟨fun q => q.2.1 (by rw [← hy]; exact c2), rfl⟩⟩, fun c2 => ?_⟩
    have h := h.2 c2
    obtain ⟨o1, h⟩ := h
    refine ⟨o1, ?_⟩
    obtain ⟨a2, e2, h⟩ := h
    refine ⟨a2, e2, ?_⟩
    cases e3.symm.trans e2
    obtain ⟨o3, h⟩ := h
    refine ⟨o3, ?_⟩
    obtain ⟨a4, e4, h⟩ := h
    refine ⟨a4, e4, ?_⟩
    obtain ⟨o5, h⟩ := h
    refine ⟨o5, ?_⟩
    obtain ⟨o6, h⟩ := h
    refine ⟨o6, ?_⟩
    intro x7 q7
    have h := h x7 q7
    replace q7 := q7.trans (mrn (j := 0) e4)
    obtain ⟨a8, e8, h⟩ := h
    refine ⟨a8, e8, ?_⟩
    cases e3.symm.trans e8
    obtain ⟨o9, h⟩ := h
    refine ⟨o9, ?_⟩
    obtain ⟨a10, e10, h⟩ := h
    refine ⟨a10, e10, ?_⟩
    obtain ⟨o11, h⟩ := h
    refine ⟨o11, ?_⟩
    obtain ⟨o12, h⟩ := h
    refine ⟨o12, ?_⟩
    intro x13 q13
    have h := h x13 q13
    replace q13 := q13.trans (mrn (j := 0) e10)
    obtain ⟨a14, e14, h⟩ := h
    refine ⟨a14, e14, ?_⟩
    cases e3.symm.trans e14
    obtain ⟨o15, h⟩ := h
    refine ⟨o15, ?_⟩
    obtain ⟨a16, e16, h⟩ := h
    refine ⟨a16, e16, ?_⟩
    obtain ⟨o17, h⟩ := h
    refine ⟨o17, ?_⟩
    obtain ⟨o18, h⟩ := h
    refine ⟨o18, ?_⟩
    intro x19 q19
    have h := h x19 q19
    replace q19 := q19.trans (mrn (j := 1) e16)
    rw [q7, q13, q19, hy, hz, hw] at h
    rw [q7, q13, q19, hy, hz, hw]
    exact ⟨fun c3 => ⟨h.1 c3, rfl, Or.inr ⟨fun q => q.2.2 c3, rfl⟩⟩, fun c3 => ⟨h.2 c3, rfl, Or.inl ⟨⟨ho, by rw [← hy]; exact c2, c3⟩, rfl⟩⟩⟩
  have f84 : ∀ y z : Int32, y = v5 - lyA (mRn S rd v4.toNatClampNeg) (mRd S rd v2.toNatClampNeg) v3 → z = mm2 ((mWk S rd v1.toNatClampNeg) 3) (shO (mWk S rd v1.toNatClampNeg)) → ∀ w, w = mm2 ((mWk S rd v1.toNatClampNeg) 2) (shO (mWk S rd v1.toNatClampNeg)) → P_X11_isForward_84 Q m v2 v4 y z w S → P_X11_isForward_84 (fun x T => Q x T ∧ S = T ∧ ans (fwM (mRn S rd v4.toNatClampNeg) (mRd S rd v2.toNatClampNeg) (mWk S rd v1.toNatClampNeg) v3 v5) x) m v2 v4 y z w S := by
    intro y z hy hz w hw h
    delta P_X11_isForward_84
    obtain ⟨o20, h⟩ := h
    refine ⟨o20, ?_⟩
    obtain ⟨a21, e21, h⟩ := h
    refine ⟨a21, e21, ?_⟩
    cases e3.symm.trans e21
    obtain ⟨o22, h⟩ := h
    refine ⟨o22, ?_⟩
    obtain ⟨a23, e23, h⟩ := h
    refine ⟨a23, e23, ?_⟩
    obtain ⟨o24, h⟩ := h
    refine ⟨o24, ?_⟩
    obtain ⟨o25, h⟩ := h
    refine ⟨o25, ?_⟩
    intro x26 q26
    have h := h x26 q26
    replace q26 := q26.trans (mrd (j := 4) e23)
    obtain ⟨a27, e27, h⟩ := h
    refine ⟨a27, e27, ?_⟩
    cases e3.symm.trans e27
    obtain ⟨o28, h⟩ := h
    refine ⟨o28, ?_⟩
    obtain ⟨a29, e29, h⟩ := h
    refine ⟨a29, e29, ?_⟩
    obtain ⟨o30, h⟩ := h
    refine ⟨o30, ?_⟩
    obtain ⟨o31, h⟩ := h
    refine ⟨o31, ?_⟩
    intro x32 q32
    have h := h x32 q32
    replace q32 := q32.trans (mrd (j := 3) e29)
    refine ⟨fun c => f112 y z 0 hy hz w hw (Or.inr ⟨fun q => q (by rw [← q32, ← q26]; exact c), rfl⟩) (h.1 c), fun c => f112 y z 1 hy hz w hw (Or.inl ⟨by rw [← q32, ← q26]; exact c, rfl⟩) (h.2 c)⟩
  have f54 : ∀ y z : Int32, y = v5 - lyA (mRn S rd v4.toNatClampNeg) (mRd S rd v2.toNatClampNeg) v3 → z = mm2 ((mWk S rd v1.toNatClampNeg) 3) (shO (mWk S rd v1.toNatClampNeg)) → ∀ w, w = shO (mWk S rd v1.toNatClampNeg) → P_X11_isForward_54 Q m v1 v2 v4 w y z S → P_X11_isForward_54 (fun x T => Q x T ∧ S = T ∧ ans (fwM (mRn S rd v4.toNatClampNeg) (mRd S rd v2.toNatClampNeg) (mWk S rd v1.toNatClampNeg) v3 v5) x) m v1 v2 v4 w y z S := by
    intro y z hy hz w hw h
    delta P_X11_isForward_54
    obtain ⟨o33, h⟩ := h
    refine ⟨o33, ?_⟩
    obtain ⟨a34, e34, h⟩ := h
    refine ⟨a34, e34, ?_⟩
    cases e3.symm.trans e34
    obtain ⟨o35, h⟩ := h
    refine ⟨o35, ?_⟩
    obtain ⟨a36, e36, h⟩ := h
    refine ⟨a36, e36, ?_⟩
    obtain ⟨o37, h⟩ := h
    refine ⟨o37, ?_⟩
    obtain ⟨o38, h⟩ := h
    refine ⟨o38, ?_⟩
    intro x39 q39
    have h := h x39 q39
    replace q39 := q39.trans (mwk (j := 2) e36)
    refine ⟨fun c => ?_, fun c => ?_⟩
    · have h := h.1 c
      obtain ⟨a40, e40, h⟩ := h
      refine ⟨a40, e40, ?_⟩
      cases e3.symm.trans e40
      obtain ⟨o41, h⟩ := h
      refine ⟨o41, ?_⟩
      obtain ⟨a42, e42, h⟩ := h
      refine ⟨a42, e42, ?_⟩
      obtain ⟨o43, h⟩ := h
      refine ⟨o43, ?_⟩
      obtain ⟨o44, h⟩ := h
      refine ⟨o44, ?_⟩
      intro x45 q45
      have h := h x45 q45
      replace q45 := q45.trans (mwk (j := 2) e42)
      exact f84 y z hy hz _ (by unfold mm2; rw [if_pos (by rw [← q39, ← hw]; exact c), q45]) h
    · exact f84 y z hy hz _ (by unfold mm2; rw [if_neg (by rw [← q39, ← hw]; exact c), hw]) (h.2 c)
  delta P_X11_isForward P_X11_isForward_0
  obtain ⟨o46, h⟩ := h
  refine ⟨o46, ?_⟩
  obtain ⟨a47, e47, h⟩ := h
  refine ⟨a47, e47, ?_⟩
  cases e3.symm.trans e47
  obtain ⟨o48, h⟩ := h
  refine ⟨o48, ?_⟩
  refine cm_X10_shield (sp_X10_shield h) h (fun xs S1 hp h g => ?_)
  have h := h g
  obtain ⟨-, hS, hxs⟩ := hp
  subst hS
  obtain ⟨a49, e49, h⟩ := h
  refine ⟨a49, e49, ?_⟩
  cases e3.symm.trans e49
  obtain ⟨o50, h⟩ := h
  refine ⟨o50, ?_⟩
  refine cm_X10_air (sp_X10_air2 he h) h (fun xa S1 hp h g => ?_)
  have h := h g
  obtain ⟨-, hS, hxa⟩ := hp
  subst hS
  intro y hy
  have h := h y hy
  rw [hxa] at hy
  obtain ⟨a51, e51, h⟩ := h
  refine ⟨a51, e51, ?_⟩
  cases e3.symm.trans e51
  obtain ⟨o52, h⟩ := h
  refine ⟨o52, ?_⟩
  obtain ⟨a53, e53, h⟩ := h
  refine ⟨a53, e53, ?_⟩
  obtain ⟨o54, h⟩ := h
  refine ⟨o54, ?_⟩
  obtain ⟨o55, h⟩ := h
  refine ⟨o55, ?_⟩
  intro x56 q56
  have h := h x56 q56
  replace q56 := q56.trans (mwk (j := 3) e53)
  refine ⟨fun c => ?_, fun c => ?_⟩
  · have h := h.1 c
    obtain ⟨a57, e57, h⟩ := h
    refine ⟨a57, e57, ?_⟩
    cases e3.symm.trans e57
    obtain ⟨o58, h⟩ := h
    refine ⟨o58, ?_⟩
    obtain ⟨a59, e59, h⟩ := h
    refine ⟨a59, e59, ?_⟩
    obtain ⟨o60, h⟩ := h
    refine ⟨o60, ?_⟩
    obtain ⟨o61, h⟩ := h
    refine ⟨o61, ?_⟩
    intro x62 q62
    have h := h x62 q62
    replace q62 := q62.trans (mwk (j := 3) e59)
    exact f54 y _ hy (by unfold mm2; rw [if_pos (by rw [← q56, ← hxs]; exact c), q62]) _ hxs h
  · exact f54 y _ hy (by unfold mm2; rw [if_neg (by rw [← q56, ← hxs]; exact c), hxs]) _ hxs (h.2 c)
theorem sp_X11_inTime (he : ∀ i, 7 ≤ i → i ≤ 27 → ∃ b, fR S rd i = some b) (e3 : fR S m 3 = some rd) (h6 : 0 ≤ v6.toInt ∧ v6.toInt ≤ 4) (h : P_X11_inTime m v1 v2 v3 v4 v5 v6 v7 v8 Q S) : P_X11_inTime m v1 v2 v3 v4 v5 v6 v7 v8 (fun x T => Q x T ∧ S = T ∧ x = itM (mRn S rd v4.toNatClampNeg) (mRd S rd v2.toNatClampNeg) (mWk S rd v1.toNatClampNeg) v3 v5 v7 v8 v6.toNatClampNeg) S := by
  have hk : ∀ k : Nat, v6.toInt = (k : Int) → v6.toNatClampNeg = k := fun k z => by
    show v6.toInt.toNat = k
    omega
  delta P_X11_inTime P_X11_inTime_0
  obtain ⟨o63, h⟩ := h
  refine ⟨o63, ?_⟩
  obtain ⟨a64, e64, h⟩ := h
  refine ⟨a64, e64, ?_⟩
  cases e3.symm.trans e64
  obtain ⟨o65, h⟩ := h
  refine ⟨o65, ?_⟩
  obtain ⟨a66, e66, h⟩ := h
  refine ⟨a66, e66, ?_⟩
  obtain ⟨o67, h⟩ := h
  refine ⟨o67, ?_⟩
  obtain ⟨o68, h⟩ := h
  refine ⟨o68, ?_⟩
  intro x69 q69
  have h := h x69 q69
  replace q69 := q69.trans (mrn (j := 0) e66)
  obtain ⟨a70, e70, h⟩ := h
  refine ⟨a70, e70, ?_⟩
  cases e3.symm.trans e70
  obtain ⟨o71, h⟩ := h
  refine ⟨o71, ?_⟩
  refine cm_X10_air (sp_X10_air2 he h) h (fun xa S1 hp h g => ?_)
  have h := h g
  obtain ⟨-, hS, hxa⟩ := hp
  subst hS
  intro y hy
  have h := h y hy
  rw [hxa] at hy
  obtain ⟨a72, e72, h⟩ := h
  refine ⟨a72, e72, ?_⟩
  cases e3.symm.trans e72
  obtain ⟨o73, h⟩ := h
  refine ⟨o73, ?_⟩
  refine cm_X10_across (sp_X10_across he h) h (fun xc S1 hp h g => ?_)
  have h := h g
  obtain ⟨-, hS, hxc⟩ := hp
  subst hS
  refine cm_X11_isForward (sp_X11_isForward he e3 h) h (fun xf S1 hp h g bq => ?_)
  have h := h g bq
  obtain ⟨-, hS, hxf⟩ := hp
  subst hS
  obtain ⟨a74, e74, h⟩ := h
  refine ⟨a74, e74, ?_⟩
  cases e3.symm.trans e74
  obtain ⟨o75, h⟩ := h
  refine ⟨o75, ?_⟩
  refine cm_X10_shield (sp_X10_shield h) h (fun xs S1 hp h g => ?_)
  have h := h g
  obtain ⟨-, hS, hxs⟩ := hp
  subst hS
  refine ⟨fun c => ?_, fun c => ?_, fun c => ?_, fun c => ?_, fun c => ?_⟩
  · have h := h.1 c
    have ek := hk 4 (by omega)
    refine ⟨fun c1 => ⟨h.1 c1, rfl, ?_⟩, fun c1 => ?_⟩
    · rw [ek]
      exact (if_pos (by rw [← hxc]; exact c1)).symm
    have h := h.2 c1
    obtain ⟨a76, e76, h⟩ := h
    refine ⟨a76, e76, ?_⟩
    cases e3.symm.trans e76
    obtain ⟨o77, h⟩ := h
    refine ⟨o77, ?_⟩
    obtain ⟨a78, e78, h⟩ := h
    refine ⟨a78, e78, ?_⟩
    obtain ⟨o79, h⟩ := h
    refine ⟨o79, ?_⟩
    obtain ⟨o80, h⟩ := h
    refine ⟨o80, ?_⟩
    intro x81 q81
    have h := h x81 q81
    replace q81 := q81.trans (mwk (j := 4) e78)
    refine ⟨h, rfl, ?_⟩
    rw [ek, q81, q69, hxc]
    exact (if_neg (by rw [← hxc]; exact c1)).symm
  · have h := h.2.1 c
    have ek := hk 0 (by omega)
    obtain ⟨a82, e82, h⟩ := h
    refine ⟨a82, e82, ?_⟩
    cases e3.symm.trans e82
    obtain ⟨o83, h⟩ := h
    refine ⟨o83, ?_⟩
    obtain ⟨a84, e84, h⟩ := h
    refine ⟨a84, e84, ?_⟩
    obtain ⟨o85, h⟩ := h
    refine ⟨o85, ?_⟩
    obtain ⟨o86, h⟩ := h
    refine ⟨o86, ?_⟩
    intro x87 q87
    have h := h x87 q87
    replace q87 := q87.trans (mrn (j := 1) e84)
    obtain ⟨a88, e88, h⟩ := h
    refine ⟨a88, e88, ?_⟩
    cases e3.symm.trans e88
    obtain ⟨o89, h⟩ := h
    refine ⟨o89, ?_⟩
    obtain ⟨a90, e90, h⟩ := h
    refine ⟨a90, e90, ?_⟩
    obtain ⟨o91, h⟩ := h
    refine ⟨o91, ?_⟩
    obtain ⟨o92, h⟩ := h
    refine ⟨o92, ?_⟩
    intro x93 q93
    have h := h x93 q93
    replace q93 := q93.trans (mwk (j := 2) e90)
    refine ⟨fun c1 => ?_, fun c1 => ?_⟩
    · have h := h.1 c1
      have hn := an0 hxf c1
      delta P_X11_inTime_129
      refine cm_X11_less (sp_X11_less h) h (fun z S1 hp h g => ⟨h g, hp.2.1, ?_⟩)
      rw [ek, hp.2.2, q69, q87, q93, hxs]
      show _ = _ * ls2 _ (dc _ _ _)
      rw [dc_n hn]
    · have h := h.2 c1
      have hn := an1 hxf c1
      delta P_X11_inTime_129
      refine cm_X11_less (sp_X11_less h) h (fun z S1 hp h g => ⟨h g, hp.2.1, ?_⟩)
      rw [ek, hp.2.2, q69, q87, q93]
      show _ = _ * ls2 _ (dc _ _ _)
      rw [dc_y hn]
  · have h := h.2.2.1 c
    have ek := hk 1 (by omega)
    refine ⟨fun c1 => ⟨h.1 c1, rfl, ?_⟩, fun c1 => ?_⟩
    · rw [ek]
      exact (if_pos (by rw [← hy]; exact c1)).symm
    have h := h.2 c1
    obtain ⟨a94, e94, h⟩ := h
    refine ⟨a94, e94, ?_⟩
    cases e3.symm.trans e94
    obtain ⟨o95, h⟩ := h
    refine ⟨o95, ?_⟩
    obtain ⟨a96, e96, h⟩ := h
    refine ⟨a96, e96, ?_⟩
    obtain ⟨o97, h⟩ := h
    refine ⟨o97, ?_⟩
    obtain ⟨o98, h⟩ := h
    refine ⟨o98, ?_⟩
    intro x99 q99
    have h := h x99 q99
    replace q99 := q99.trans (mwk (j := 3) e96)
    have e1 : itM (mRn S rd v4.toNatClampNeg) (mRd S rd v2.toNatClampNeg) (mWk S rd v1.toNatClampNeg) v3 v5 v7 v8 1 = (mRn S rd v4.toNatClampNeg) 0 * (v5 - lyA (mRn S rd v4.toNatClampNeg) (mRd S rd v2.toNatClampNeg) v3) * ls2 (ls2 ((mWk S rd v1.toNatClampNeg) 3) (dc (fwM (mRn S rd v4.toNatClampNeg) (mRd S rd v2.toNatClampNeg) (mWk S rd v1.toNatClampNeg) v3 v5) (shO (mWk S rd v1.toNatClampNeg)) 0)) v7 := if_neg (by rw [← hy]; exact c1)
    refine ⟨fun c2 => ?_, fun c2 => ?_⟩
    · have h := h.1 c2
      have hn := an0 hxf c2
      delta P_X11_inTime_164
      refine cm_X11_less (sp_X11_less h) h (fun z S1 hp h g => ?_)
      have h := h g
      obtain ⟨-, hS, hz⟩ := hp
      subst hS
      refine cm_X11_less (sp_X11_less h) h (fun z2 S1 hp h g => ⟨h g, hp.2.1, ?_⟩)
      rw [ek, e1, hp.2.2, hz, q69, q99, hy, dc_n hn]
    · have h := h.2 c2
      have hn := an1 hxf c2
      delta P_X11_inTime_164
      refine cm_X11_less (sp_X11_less h) h (fun z S1 hp h g => ?_)
      have h := h g
      obtain ⟨-, hS, hz⟩ := hp
      subst hS
      refine cm_X11_less (sp_X11_less h) h (fun z2 S1 hp h g => ⟨h g, hp.2.1, ?_⟩)
      rw [ek, e1, hp.2.2, hz, q69, q99, hy, hxs, dc_y hn]
  · have h := h.2.2.2.1 c
    have ek := hk 2 (by omega)
    refine ⟨fun c1 => ⟨h.1 c1, rfl, ?_⟩, fun c1 => ?_⟩
    · rw [ek]
      exact (if_pos (by rw [← hy]; exact c1)).symm
    have h := h.2 c1
    obtain ⟨a100, e100, h⟩ := h
    refine ⟨a100, e100, ?_⟩
    cases e3.symm.trans e100
    obtain ⟨o101, h⟩ := h
    refine ⟨o101, ?_⟩
    obtain ⟨a102, e102, h⟩ := h
    refine ⟨a102, e102, ?_⟩
    obtain ⟨o103, h⟩ := h
    refine ⟨o103, ?_⟩
    obtain ⟨o104, h⟩ := h
    refine ⟨o104, ?_⟩
    intro x105 q105
    have h := h x105 q105
    replace q105 := q105.trans (mwk (j := 3) e102)
    refine cm_X11_less (sp_X11_less h) h (fun z S1 hp h g => ⟨h g, hp.2.1, ?_⟩)
    rw [ek, hp.2.2, q69, q105, hy]
    exact (if_neg (by rw [← hy]; exact c1)).symm
  · have h := h.2.2.2.2 c
    have ek := hk 3 (by omega)
    refine ⟨fun c1 => ⟨h.1 c1, rfl, ?_⟩, fun c1 => ?_⟩
    · rw [ek]
      exact (if_pos (by rw [← hxc]; exact c1)).symm
    have h := h.2 c1
    obtain ⟨a106, e106, h⟩ := h
    refine ⟨a106, e106, ?_⟩
    cases e3.symm.trans e106
    obtain ⟨o107, h⟩ := h
    refine ⟨o107, ?_⟩
    obtain ⟨a108, e108, h⟩ := h
    refine ⟨a108, e108, ?_⟩
    obtain ⟨o109, h⟩ := h
    refine ⟨o109, ?_⟩
    obtain ⟨o110, h⟩ := h
    refine ⟨o110, ?_⟩
    intro x111 q111
    have h := h x111 q111
    replace q111 := q111.trans (mwk (j := 4) e108)
    refine ⟨h, rfl, ?_⟩
    rw [ek, q111, q69, hxc]
    exact (if_neg (by rw [← hxc]; exact c1)).symm
end C28
end
section
/-! legs: both sides reckon the same -/
def bJ (x : Int64) (a B : Int) : Prop := x.toInt = a ∧ 0 ≤ a ∧ a ≤ B
def bI (x : Int32) (a B : Int) : Prop := x.toInt = a ∧ 0 ≤ a ∧ a ≤ B
section C29
theorem bJ_mul {x y : Int64} {a b B C : Int} (h : bJ x a B) (g : bJ y b C) (hB : B * C ≤ 4611686018427387904) : bJ (x * y) (a * b) (B * C) := by
  obtain ⟨h1, h2, h3⟩ := h
  obtain ⟨g1, g2, g3⟩ := g
  have p := Int.mul_nonneg h2 g2
  have u : a * b ≤ B * C := Int.mul_le_mul h3 g3 g2 (by omega)
  refine ⟨?_, p, u⟩
  rw [Int64.toInt_mul, h1, g1, Int.bmod_eq_of_le (by omega) (by omega)]
theorem bI_mul {x y : Int32} {a b B C : Int} (h : bI x a B) (g : bI y b C) (hB : B * C ≤ 1073741824) : bI (x * y) (a * b) (B * C) := by
  obtain ⟨h1, h2, h3⟩ := h
  obtain ⟨g1, g2, g3⟩ := g
  have p := Int.mul_nonneg h2 g2
  have u : a * b ≤ B * C := Int.mul_le_mul h3 g3 g2 (by omega)
  refine ⟨?_, p, u⟩
  rw [Int32.toInt_mul, h1, g1, Int.bmod_eq_of_le (by omega) (by omega)]
theorem bJ_of {x : Int32} {a B : Int} (h : bI x a B) : bJ x.toInt64 a B := ⟨(Int32.toInt_toInt64 _).trans h.1, h.2⟩
theorem bI_of {x : Int32} {lo hi : Int} (h : inI lo hi x) (h0 : 0 ≤ lo) : bI x x.toInt hi := ⟨rfl, by have := h.1; omega, h.2⟩
theorem bI_sub {x y : Int32} {a b B C : Int} (h : bI x a B) (g : bI y b C) (hB : B ≤ 100000) (hC : C ≤ 100000) : (x - y).toInt = a - b := by
  obtain ⟨h1, h2, h3⟩ := h
  obtain ⟨g1, g2, g3⟩ := g
  rw [Int32.toInt_sub, h1, g1, Int.bmod_eq_of_le (by omega) (by omega)]
theorem bI_mx {x : Int32} {a B : Int} (h : x.toInt = a) (hb : a ≤ B) (h0 : 0 ≤ B) : bI (mx0 x) (max a 0) B := by
  have e0 : (0 : Int32).toInt = 0 := by decide
  unfold mx0
  by_cases c : x < 0
  · rw [if_pos c]
    have := lt_i c
    exact ⟨by rw [e0]; omega, by omega, by omega⟩
  · rw [if_neg c]
    have := nlt_i c
    exact ⟨by rw [h]; omega, by omega, by omega⟩
theorem bI_mn {x y : Int32} {a b B C : Int} (h : bI x a B) (g : bI y b C) : bI (mn2 x y) (min a b) B := by
  obtain ⟨h1, h2, h3⟩ := h
  obtain ⟨g1, g2, g3⟩ := g
  unfold mn2
  by_cases c : x < y
  · rw [if_pos c]
    have := lt_i c
    exact ⟨by omega, by omega, by omega⟩
  · rw [if_neg c]
    have := nlt_i c
    exact ⟨by omega, by omega, by omega⟩
theorem bI_mm {x y : Int32} {a b B C : Int} (h : bI x a B) (g : bI y b C) : bI (mm2 x y) (min a b) B := by
  obtain ⟨h1, h2, h3⟩ := h
  obtain ⟨g1, g2, g3⟩ := g
  unfold mm2
  by_cases c : x ≤ y
  · rw [if_pos c]
    have := le_i c
    exact ⟨by omega, by omega, by omega⟩
  · rw [if_neg c]
    have := nle_i c
    exact ⟨by omega, by omega, by omega⟩
theorem bI_ls {x y : Int32} {a b B C : Int} (h : bI x a B) (g : bI y b C) (hB : B ≤ 100000) (hC : C ≤ 100000) : bI (ls2 x y) (max (a - b) 0) B := by
  have e0 : (0 : Int32).toInt = 0 := by decide
  have s := bI_sub h g hB hC
  obtain ⟨h1, h2, h3⟩ := h
  obtain ⟨g1, g2, g3⟩ := g
  unfold ls2
  by_cases c : x ≤ y
  · rw [if_pos c]
    have := le_i c
    exact ⟨by omega, by omega, by omega⟩
  · rw [if_neg c]
    have := nle_i c
    exact ⟨by omega, by omega, by omega⟩
theorem lgc {x y : Int64} : (¬ lg_cmp x y ≤ 0) ↔ y.toInt < x.toInt := by
  unfold lg_cmp
  by_cases c : x > y
  · rw [if_pos c]
    exact ⟨fun _ => Int64.lt_iff_toInt_lt.mp c, fun _ => by decide⟩
  · rw [if_neg c]
    have n := Int64.le_iff_toInt_le.mp (Int64.not_lt.mp c)
    by_cases d : x = y
    · rw [if_pos d]
      exact ⟨fun z => absurd (by decide) z, fun z => by omega⟩
    · rw [if_neg d]
      exact ⟨fun z => absurd (by decide) z, fun z => by omega⟩
theorem q_v {v : Int32} (h1 : 1 ≤ v.toInt) (h2 : v.toInt ≤ 9) : 280 ≤ ((2520 : Int32) / v).toInt ∧ ((2520 : Int32) / v).toInt ≤ 2520 := by
  have ofv : ∀ k : Int32, v.toInt = k.toInt → v = k := fun k z => Int32.toInt_inj.mp z
  rcases (by omega : v.toInt = 1 ∨ v.toInt = 2 ∨ v.toInt = 3 ∨ v.toInt = 4 ∨ v.toInt = 5 ∨ v.toInt = 6 ∨ v.toInt = 7 ∨ v.toInt = 8 ∨ v.toInt = 9) with q | q | q | q | q | q | q | q | q
  · rw [ofv 1 (q.trans (by decide))]; decide
  · rw [ofv 2 (q.trans (by decide))]; decide
  · rw [ofv 3 (q.trans (by decide))]; decide
  · rw [ofv 4 (q.trans (by decide))]; decide
  · rw [ofv 5 (q.trans (by decide))]; decide
  · rw [ofv 6 (q.trans (by decide))]; decide
  · rw [ofv 7 (q.trans (by decide))]; decide
  · rw [ofv 8 (q.trans (by decide))]; decide
  · rw [ofv 9 (q.trans (by decide))]; decide
end C29
section C29b
variable {rn rd wk : Nat → Int32} {u v x y : Int32}
def iD (rn : Nat → Int32) : Int := (rn 0).toInt
def iT (rd : Nat → Int32) (v : Int32) : Int := ((rd 3).toInt - (rd 4).toInt) * ((2520 : Int32) / v).toInt
def iA (rn rd : Nat → Int32) (u v : Int32) : Int := v.toInt - (lyA rn rd u).toInt
def iS (wk : Nat → Int32) : Int := (shO wk).toInt
def iFw (rn rd wk : Nat → Int32) (u v : Int32) : Prop := (rd 4).toInt < (rd 3).toInt ∧ 0 < iA rn rd u v ∧ iD rn * (rn 1).toInt * min (wk 2).toInt (iS wk) < iD rn * iA rn rd u v * min (wk 3).toInt (iS wk)
noncomputable def iE (rn rd wk : Nat → Int32) (u v : Int32) (x y : Int) : Nat → Int
  | 0 => iD rn * (rn 1).toInt * max ((wk 2).toInt - dc (iFw rn rd wk u v) 0 (iS wk)) 0
  | 1 => iD rn * max (iA rn rd u v) 0 * max ((wk 3).toInt - dc (iFw rn rd wk u v) (iS wk) 0 - x) 0
  | 2 => iD rn * max (-iA rn rd u v) 0 * max ((wk 3).toInt - y) 0
  | 3 => iD rn * (if lyO rn rd u = 1 then (rn 3).toInt else 0) * (wk 4).toInt
  | _ => iD rn * (if lyO rn rd u = 3 then (rn 3).toInt else 0) * (wk 4).toInt
theorem sh_b (b : WkB wk) : bI (shO wk) (iS wk) 999 := by
  unfold iS shO
  by_cases c : wk 0 = 3
  · rw [if_pos c]
    exact bI_of b.2.1 (by decide)
  · rw [if_neg c]
    exact ⟨rfl, by decide, by decide⟩
theorem air_b (b : RnB rn) : -9 ≤ (lyA rn rd u).toInt ∧ (lyA rn rd u).toInt ≤ 9 := by
  have h := b.2.2.2.1
  have h1 := h.1
  have h2 := h.2
  unfold lyA airOf
  by_cases c : lyO rn rd u = 0
  · rw [if_pos c]
    omega
  · rw [if_neg c]
    by_cases d : lyO rn rd u = 2
    · rw [if_pos d]
      have e : (-rn 3).toInt = -(rn 3).toInt := by
        rw [Int32.toInt_neg, Int.bmod_eq_of_le (by omega) (by omega)]
      omega
    · rw [if_neg d]
      decide
theorem off_b (b : RnB rn) (h1 : 1 ≤ v.toInt) (h2 : v.toInt ≤ 9) : (v - lyA rn rd u).toInt = iA rn rd u v ∧ (lyA rn rd u - v).toInt = -iA rn rd u v ∧ -8 ≤ iA rn rd u v ∧ iA rn rd u v ≤ 18 := by
  have a := air_b (rd := rd) (u := u) b
  unfold iA
  refine ⟨?_, ?_, by omega, by omega⟩
  · rw [Int32.toInt_sub, Int.bmod_eq_of_le (by omega) (by omega)]
  · rw [Int32.toInt_sub, Int.bmod_eq_of_le (by omega) (by omega)]
    omega
theorem len_b (b : RoB rd) : bI (rd 3 - rd 4) ((rd 3).toInt - (rd 4).toInt) 60 := by
  obtain ⟨-, -, -, b3, b4, b5⟩ := b
  have := b3.1
  have := b3.2
  refine ⟨?_, by omega, by omega⟩
  rw [Int32.toInt_sub, Int.bmod_eq_of_le (by omega) (by omega)]
theorem q_b (h1 : 1 ≤ v.toInt) (h2 : v.toInt ≤ 9) : bI ((2520 : Int32) / v) ((2520 : Int32) / v).toInt 2520 := ⟨rfl, by have := q_v h1 h2; omega, (q_v h1 h2).2⟩
theorem T_b (b : RoB rd) (h1 : 1 ≤ v.toInt) (h2 : v.toInt ≤ 9) : bJ (lyT rd v) (iT rd v) 151200 := bJ_mul (bJ_of (len_b b)) (bJ_of (q_b h1 h2)) (by decide)
theorem F_b (a : RnB rn) (b : RoB rd) (h1 : 1 ≤ v.toInt) (h2 : v.toInt ≤ 9) : bJ (lyF rn rd v) (iD rn * iT rd v) 1360800 := bJ_mul (bJ_of (bI_of a.1 (by decide))) (T_b b h1 h2) (by decide)
theorem T_pos (b : RoB rd) (h1 : 1 ≤ v.toInt) (h2 : v.toInt ≤ 9) : (0 < iT rd v ↔ (rd 4).toInt < (rd 3).toInt) ∧ 0 ≤ iT rd v := by
  have q := q_v h1 h2
  have := b.2.2.2.2.2
  refine ⟨⟨fun z => ?_, fun z => ?_⟩, (T_b b h1 h2).2.1⟩
  · by_cases c : (rd 4).toInt < (rd 3).toInt
    · exact c
    · have e : (rd 3).toInt - (rd 4).toInt = 0 := by omega
      unfold iT at z
      rw [e, Int.zero_mul] at z
      omega
  · exact Int.mul_pos (by omega) (by omega)
/-- the strengths -/
theorem ly_b (a : RnB rn) (b : RoB rd) (h1 : 1 ≤ v.toInt) (h2 : v.toInt ≤ 9) : bJ (lyS rn rd u v 0) (iD rn * iT rd v * (rn 1).toInt) 24494400 ∧ bJ (lyS rn rd u v 1) (iD rn * iT rd v * max (iA rn rd u v) 0) 24494400 ∧ bJ (lyS rn rd u v 2) (iD rn * iT rd v * max (-iA rn rd u v) 0) 24494400 ∧ bJ (lyS rn rd u v 3) (iD rn * iT rd v * (if lyO rn rd u = 1 then (rn 3).toInt else 0)) 24494400 ∧ bJ (lyS rn rd u v 4) (iD rn * iT rd v * (if lyO rn rd u = 3 then (rn 3).toInt else 0)) 24494400 := by
  have F := F_b a b h1 h2
  obtain ⟨e1, e2, e3, e4⟩ := off_b (rd := rd) (u := u) a h1 h2
  have w1 : ∀ {z : Int32} {k B : Int}, B ≤ 18 → bI z k B → bJ (lyF rn rd v * z.toInt64) (iD rn * iT rd v * k) 24494400 := fun {z k B} hB h => bJ_mul F (bJ_of ⟨h.1, h.2.1, Int.le_trans h.2.2 hB⟩) (by decide)
  have dr : ∀ j : Int32, bJ (if lyO rn rd u = j then lyF rn rd v * (rn 3).toInt64 else 0) (iD rn * iT rd v * (if lyO rn rd u = j then (rn 3).toInt else 0)) 24494400 := fun j => by
    by_cases c : lyO rn rd u = j
    · rw [if_pos c, if_pos c]
      exact w1 (by decide) (bI_of a.2.2.2.1 (by decide))
    · rw [if_neg c, if_neg c, Int.mul_zero]
      exact ⟨by decide, by decide, by decide⟩
  exact ⟨w1 (by decide) (bI_of a.2.1 (by decide)), w1 (by decide) (bI_mx e1 e4 (by decide)), w1 (B := 8) (by decide) (bI_mx (B := 8) e2 (by omega) (by decide)), dr 1, dr 3⟩
theorem fwJ_iff (a : RnB rn) (b : RoB rd) (w : WkB wk) (h1 : 1 ≤ v.toInt) (h2 : v.toInt ≤ 9) : fwJ (lyS rn rd u v) wk ↔ iFw rn rd wk u v := by
  obtain ⟨s0, s1, -⟩ := ly_b (u := u) a b h1 h2
  have sh := sh_b w
  have m1 := bJ_mul s1 (bJ_of (bI_mn (bI_of w.2.2.2.1 (by decide)) sh)) (by decide)
  have m0 := bJ_mul s0 (bJ_of (bI_mn (bI_of w.2.2.1 (by decide)) sh)) (by decide)
  obtain ⟨tp, t0⟩ := T_pos b h1 h2
  have e1 : iD rn * iT rd v * max (iA rn rd u v) 0 * min (wk 3).toInt (iS wk) = iT rd v * (iD rn * max (iA rn rd u v) 0 * min (wk 3).toInt (iS wk)) := by ac_rfl
  have e0 : iD rn * iT rd v * (rn 1).toInt * min (wk 2).toInt (iS wk) = iT rd v * (iD rn * (rn 1).toInt * min (wk 2).toInt (iS wk)) := by ac_rfl
  unfold fwJ
  rw [lgc, m1.1, m0.1, e1, e0]
  have d0 : 0 ≤ iD rn := a.1.1
  have y0 : 0 ≤ iD rn * (rn 1).toInt * min (wk 2).toInt (iS wk) := Int.mul_nonneg (Int.mul_nonneg d0 (by have := a.2.1.1; omega)) (by have := w.2.2.1.1; have := sh.2.1; omega)
  constructor
  · intro h
    have tpos : 0 < iT rd v := by
      rcases Int.lt_or_eq_of_le t0 with z | z
      · exact z
      · rw [← z, Int.zero_mul, Int.zero_mul] at h
        omega
    have h := Int.lt_of_mul_lt_mul_left h t0
    have ap : 0 < iA rn rd u v := by
      by_cases c : 0 < iA rn rd u v
      · exact c
      · have e : max (iA rn rd u v) 0 = 0 := by omega
        rw [e, Int.mul_zero, Int.zero_mul] at h
        omega
    have e : max (iA rn rd u v) 0 = iA rn rd u v := by omega
    rw [e] at h
    exact ⟨tp.mp tpos, ap, h⟩
  · rintro ⟨p1, p2, p3⟩
    have e : max (iA rn rd u v) 0 = iA rn rd u v := by omega
    rw [e]
    exact Int.mul_lt_mul_of_pos_left p3 (tp.mpr p1)
theorem fwM_iff (a : RnB rn) (b : RoB rd) (w : WkB wk) (h1 : 1 ≤ v.toInt) (h2 : v.toInt ≤ 9) : fwM rn rd wk u v ↔ iFw rn rd wk u v := by
  have e0 : (0 : Int32).toInt = 0 := by decide
  obtain ⟨e1, -, -, e4⟩ := off_b (rd := rd) (u := u) a h1 h2
  have sh := sh_b w
  have rr : bI (rn 0) (iD rn) 9 := bI_of a.1 (by decide)
  have m0 := bI_mul (bI_mul rr (bI_of a.2.1 (by decide)) (by decide)) (bI_mm (bI_of w.2.2.1 (by decide)) sh) (by decide)
  have key : ∀ h : 0 < iA rn rd u v, (rn 0 * (v - lyA rn rd u) * mm2 (wk 3) (shO wk)).toInt = iD rn * iA rn rd u v * min (wk 3).toInt (iS wk) := fun h =>
    (bI_mul (bI_mul rr (⟨e1, by omega, e4⟩ : bI _ _ 18) (by decide)) (bI_mm (bI_of w.2.2.2.1 (by decide)) sh) (by decide)).1
  constructor
  · rintro ⟨p1, p2, p3⟩
    have q1 := nle_i p1
    have q2 := nle_i p2
    have q3 := nle_i p3
    rw [e1, e0] at q2
    rw [key q2, m0.1] at q3
    exact ⟨q1, q2, q3⟩
  · rintro ⟨p1, p2, p3⟩
    refine ⟨fun z => ?_, fun z => ?_, fun z => ?_⟩
    · have := le_i z
      omega
    · have := le_i z
      omega
    · have := le_i z
      rw [key p2, m0.1] at this
      omega
end C29b
/-! legs: the faces of both sides are the same -/
section C30
variable {rn rd wk : Nat → Int32} {u v x y : Int32} {ix iy : Int}
theorem dc_bI {P P' : Prop} (hP : P ↔ P') {x y : Int32} {a b B : Int} (h : bI x a B) (g : bI y b B) : bI (dc P x y) (dc P' a b) B := by
  by_cases c : P
  · rw [dc_y c, dc_y (hP.mp c)]
    exact h
  · rw [dc_n c, dc_n (fun z => c (hP.mpr z))]
    exact g
theorem z_bI : bI 0 0 999 := ⟨by decide, by decide, by decide⟩
theorem mx_sub {p q r : Int32} {a b c : Int} (h : bI p a 153) (g : bI q b 999) (k : bI r c 999) : bI (mx0 (p - q)) (max (a - b) 0) 153 ∧ bI (mx0 (p - q - r)) (max (a - b - c) 0) 153 := by
  have e := bI_sub h g (by decide) (by decide)
  refine ⟨bI_mx e (by have := h.2.2; have := g.2.1; omega) (by decide), ?_⟩
  have e2 : (p - q - r).toInt = a - b - c := by
    have := h.2; have := g.2; have := k.2
    rw [Int32.toInt_sub, e, k.1, Int.bmod_eq_of_le (by omega) (by omega)]
  exact bI_mx e2 (by have := h.2.2; have := g.2.1; have := k.2.1; omega) (by decide)
theorem wt_b (a : RnB rn) (b : RoB rd) (w : WkB wk) (h1 : 1 ≤ v.toInt) (h2 : v.toInt ≤ 9) (hx : bI x ix 999) (hy : bI y iy 999) (k : Nat) (hk : k < 5) : bJ (wtJ wk rd rn u v x y k) (iE rn rd wk u v ix iy k * iT rd v) 3747643200 := by
  obtain ⟨s0, s1, s2, s3, s4⟩ := ly_b (u := u) a b h1 h2
  have sh := sh_b w
  have fw := fwJ_iff (u := u) a b w h1 h2
  have wd : ∀ {p : Int32} {n : Int}, bI p n 81 → bI p n 153 := fun h => ⟨h.1, h.2.1, by have := h.2.2; omega⟩
  have sw : ∀ d t p q : Int, d * t * p * q = d * p * q * t := fun d t p q => by ac_rfl
  match k, hk with
  | 0, _ =>
    show bJ (lyS rn rd u v 0 * (mx0 (wk 2 - dc (fwJ (lyS rn rd u v) wk) 0 (shO wk))).toInt64) (iD rn * (rn 1).toInt * max ((wk 2).toInt - dc (iFw rn rd wk u v) 0 (iS wk)) 0 * iT rd v) _
    rw [← sw]
    exact bJ_mul s0 (bJ_of (mx_sub (bI_of w.2.2.1 (by decide)) (dc_bI fw z_bI sh) z_bI).1) (by decide)
  | 1, _ =>
    show bJ (lyS rn rd u v 1 * (mx0 (wk 3 - dc (fwJ (lyS rn rd u v) wk) (shO wk) 0 - x)).toInt64) (iD rn * max (iA rn rd u v) 0 * max ((wk 3).toInt - dc (iFw rn rd wk u v) (iS wk) 0 - ix) 0 * iT rd v) _
    rw [← sw]
    exact bJ_mul s1 (bJ_of (mx_sub (wd (bI_of w.2.2.2.1 (by decide))) (dc_bI fw sh z_bI) hx).2) (by decide)
  | 2, _ =>
    show bJ (lyS rn rd u v 2 * (mx0 (wk 3 - y)).toInt64) (iD rn * max (-iA rn rd u v) 0 * max ((wk 3).toInt - iy) 0 * iT rd v) _
    rw [← sw]
    exact bJ_mul s2 (bJ_of (mx_sub (wd (bI_of w.2.2.2.1 (by decide))) hy z_bI).1) (by decide)
  | 3, _ =>
    show bJ (lyS rn rd u v 3 * (wk 4).toInt64) (iD rn * (if lyO rn rd u = 1 then (rn 3).toInt else 0) * (wk 4).toInt * iT rd v) _
    rw [← sw]
    exact bJ_mul s3 (bJ_of (bI_of w.2.2.2.2.1 (by decide))) (by decide)
  | 4, _ =>
    show bJ (lyS rn rd u v 4 * (wk 4).toInt64) (iD rn * (if lyO rn rd u = 3 then (rn 3).toInt else 0) * (wk 4).toInt * iT rd v) _
    rw [← sw]
    exact bJ_mul s4 (bJ_of (bI_of w.2.2.2.2.1 (by decide))) (by decide)
  | k + 5, hk => exact absurd hk (by omega)
theorem neg_i {z : Int32} (h : -1000 ≤ z.toInt) : (-z).toInt = -z.toInt := by
  have := z.toInt_lt
  rw [Int32.toInt_neg, Int.bmod_eq_of_le (by omega) (by omega)]
theorem ac_b (a : RnB rn) : ((lyC rn rd u).toInt = if lyO rn rd u = 1 then (rn 3).toInt else if lyO rn rd u = 3 then -(rn 3).toInt else 0) := by
  unfold lyC acO
  by_cases c : lyO rn rd u = 1
  · rw [if_pos c, if_pos c]
  · rw [if_neg c, if_neg c]
    by_cases d : lyO rn rd u = 3
    · rw [if_pos d, if_pos d]
      exact neg_i (by have := a.2.2.2.1.1; omega)
    · rw [if_neg d, if_neg d]
      decide
theorem it_b (a : RnB rn) (b : RoB rd) (w : WkB wk) (h1 : 1 ≤ v.toInt) (h2 : v.toInt ≤ 9) (hx : bI x ix 999) (hy : bI y iy 999) (k : Nat) (hk : k < 5) : bI (itM rn rd wk u v x y k) (iE rn rd wk u v ix iy k) 24786 := by
  have e0 : (0 : Int32).toInt = 0 := by decide
  obtain ⟨e1, -, e3, e4⟩ := off_b (rd := rd) (u := u) a h1 h2
  have sh := sh_b w
  have fw := fwM_iff (u := u) a b w h1 h2
  have rr : bI (rn 0) (iD rn) 9 := bI_of a.1 (by decide)
  have wd : ∀ {p : Int32} {n : Int}, bI p n 81 → bI p n 153 := fun h => ⟨h.1, h.2.1, by have := h.2.2; omega⟩
  have w18 : ∀ {p : Int32} {n B : Int}, B ≤ 18 → bI p n B → bI p n 18 := fun hB h => ⟨h.1, h.2.1, Int.le_trans h.2.2 hB⟩
  have wi := a.2.2.2.1
  have ac := ac_b (rd := rd) (u := u) a
  have m3 : ∀ {p q : Int32} {n t : Int}, bI p n 18 → bI q t 153 → bI (rn 0 * p * q) (iD rn * n * t) 24786 := fun h g => bI_mul (bI_mul rr h (by decide)) g (by decide)
  have zz : ∀ n t : Int, n = 0 → bI 0 (iD rn * n * t) 24786 := fun n t z => by
    rw [z, Int.mul_zero, Int.zero_mul]
    exact ⟨by decide, by decide, by decide⟩
  match k, hk with
  | 0, _ => exact m3 (w18 (by decide) (bI_of a.2.1 (by decide))) (bI_ls (bI_of w.2.2.1 (by decide)) (dc_bI fw z_bI sh) (by decide) (by decide))
  | 1, _ =>
    show bI (if v - lyA rn rd u ≤ 0 then 0 else rn 0 * (v - lyA rn rd u) * ls2 (ls2 (wk 3) (dc (fwM rn rd wk u v) (shO wk) 0)) x) (iD rn * max (iA rn rd u v) 0 * max ((wk 3).toInt - dc (iFw rn rd wk u v) (iS wk) 0 - ix) 0) _
    by_cases c : v - lyA rn rd u ≤ 0
    · rw [if_pos c]
      have := le_i c
      exact zz _ _ (by omega)
    · rw [if_neg c]
      have := nle_i c
      have l1 := bI_ls (wd (bI_of w.2.2.2.1 (by decide))) (dc_bI fw sh z_bI) (by decide) (by decide)
      have l2 := bI_ls l1 hx (by decide) (by decide)
      have hx0 := hx.2.1
      have eq : max (max ((wk 3).toInt - dc (iFw rn rd wk u v) (iS wk) 0) 0 - ix) 0 = max ((wk 3).toInt - dc (iFw rn rd wk u v) (iS wk) 0 - ix) 0 := by omega
      rw [eq] at l2
      exact m3 ⟨by omega, by omega, by omega⟩ l2
  | 2, _ =>
    show bI (if 0 ≤ v - lyA rn rd u then 0 else rn 0 * (-(v - lyA rn rd u)) * ls2 (wk 3) y) (iD rn * max (-iA rn rd u v) 0 * max ((wk 3).toInt - iy) 0) _
    by_cases c : 0 ≤ v - lyA rn rd u
    · rw [if_pos c]
      have := le_i c
      exact zz _ _ (by omega)
    · rw [if_neg c]
      have := nle_i c
      have ne := neg_i (z := v - lyA rn rd u) (by omega)
      exact m3 ⟨by omega, by omega, by omega⟩ (bI_ls (wd (bI_of w.2.2.2.1 (by decide))) hy (by decide) (by decide))
  | 3, _ =>
    show bI (if lyC rn rd u ≤ 0 then 0 else rn 0 * lyC rn rd u * wk 4) (iD rn * (if lyO rn rd u = 1 then (rn 3).toInt else 0) * (wk 4).toInt) _
    have w0 := wi.1
    have w9 := wi.2
    by_cases c : lyC rn rd u ≤ 0
    · rw [if_pos c]
      have := le_i c
      refine zz _ _ ?_
      by_cases d : lyO rn rd u = 1
      · rw [if_pos d] at ac ⊢
        omega
      · rw [if_neg d]
    · rw [if_neg c]
      have := nle_i c
      by_cases d : lyO rn rd u = 1
      · rw [if_pos d] at ac ⊢
        exact m3 ⟨ac, by omega, by omega⟩ (bI_of w.2.2.2.2.1 (by decide))
      · rw [if_neg d] at ac
        by_cases f : lyO rn rd u = 3
        · rw [if_pos f] at ac
          omega
        · rw [if_neg f] at ac
          omega
  | 4, _ =>
    show bI (if 0 ≤ lyC rn rd u then 0 else rn 0 * (-lyC rn rd u) * wk 4) (iD rn * (if lyO rn rd u = 3 then (rn 3).toInt else 0) * (wk 4).toInt) _
    have w0 := wi.1
    have w9 := wi.2
    have d13 : lyO rn rd u = 3 → ¬ lyO rn rd u = 1 := fun z y => absurd (z.symm.trans y) (by decide)
    by_cases c : 0 ≤ lyC rn rd u
    · rw [if_pos c]
      have := le_i c
      refine zz _ _ ?_
      by_cases d : lyO rn rd u = 3
      · rw [if_neg (d13 d), if_pos d] at ac
        rw [if_pos d]
        omega
      · rw [if_neg d]
    · rw [if_neg c]
      have := nle_i c
      by_cases d : lyO rn rd u = 3
      · rw [if_neg (d13 d), if_pos d] at ac
        rw [if_pos d]
        have ne := neg_i (z := lyC rn rd u) (by omega)
        exact m3 ⟨by omega, by omega, by omega⟩ (bI_of w.2.2.2.2.1 (by decide))
      · rw [if_neg d] at ac
        by_cases f : lyO rn rd u = 1
        · rw [if_pos f] at ac
          omega
        · rw [if_neg f] at ac
          omega
  | k + 5, hk => exact absurd hk (by omega)
theorem bJ_add {x y : Int64} {a b B C : Int} (h : bJ x a B) (g : bJ y b C) (hB : B + C ≤ 4611686018427387904) : bJ (x + y) (a + b) (B + C) := by
  obtain ⟨h1, h2, h3⟩ := h
  obtain ⟨g1, g2, g3⟩ := g
  refine ⟨?_, by omega, by omega⟩
  rw [Int64.toInt_add, h1, g1, Int.bmod_eq_of_le (by omega) (by omega)]
end C30
/-! told in lowest terms -/
section C31
variable {S T : HS} {a b d : Int64} {n k m : Nat} {l : Int32} {Q : Int64 → HS → Prop}
end C31
/-! legs: rows told, and troubles -/
def trOK (A : AS) (v1 v2 v3 v4 : Int32) : Prop := (¬ v1 < 0 ∧ v1 < nI (aW A)) ∧ (¬ v2 < 0 ∧ v2 < nI (aR A)) ∧ (v3 = 0 ∨ v3 = 1) ∧ (¬ v4 < 0 ∧ v4 < nI (aHs A))
def spOK (G : GC) (v1 v5 : Int32) : Prop := ¬ (v5 < gWk G v1.toNatClampNeg 5 ∨ gWk G v1.toNatClampNeg 6 < v5)
noncomputable def trN (A : AS) (v1 v2 v3 v4 : Int32) : Int32 := dc (trOK A v1 v2 v3 v4) 0 1
noncomputable def lgN (A : AS) (G : GC) (v1 v2 v3 v4 v5 : Int32) : Int32 := dc (trOK A v1 v2 v3 v4) (dc (spOK G v1 v5) 0 2) 1
/-- the class's leg: its two rows are two -/
def LG (c l b0 b1 : Nat) (S : HS) : Prop := fR S c 4 = some l ∧ ob S l 1 ∧ fR S l 0 = some b0 ∧ fR S l 1 = some b1 ∧ b1 ≠ b0
section C32c
variable {rn rn' rd rd' wk wk' : Nat → Int32} {u v x y : Int32} {st : Nat → Int64}
theorem lyT_c (b : ∀ j, j < 5 → rd j = rd' j) : lyT rd v = lyT rd' v := by unfold lyT; rw [b 3 (by decide), b 4 (by decide)]
theorem lyF_c (a : ∀ j, j < 5 → rn j = rn' j) (b : ∀ j, j < 5 → rd j = rd' j) : lyF rn rd v = lyF rn' rd' v := by unfold lyF; rw [lyT_c b, a 0 (by decide)]
theorem lyO_c (a : ∀ j, j < 5 → rn j = rn' j) (b : ∀ j, j < 5 → rd j = rd' j) : lyO rn rd u = lyO rn' rd' u := by unfold lyO; rw [a 2 (by decide), b 2 (by decide)]
theorem lyA_c (a : ∀ j, j < 5 → rn j = rn' j) (b : ∀ j, j < 5 → rd j = rd' j) : lyA rn rd u = lyA rn' rd' u := by unfold lyA; rw [lyO_c a b, a 3 (by decide)]
theorem lyC_c (a : ∀ j, j < 5 → rn j = rn' j) (b : ∀ j, j < 5 → rd j = rd' j) : lyC rn rd u = lyC rn' rd' u := by unfold lyC; rw [lyO_c a b, a 3 (by decide)]
theorem lyS_c (a : ∀ j, j < 5 → rn j = rn' j) (b : ∀ j, j < 5 → rd j = rd' j) : lyS rn rd u v = lyS rn' rd' u v := by
  funext k
  have f := lyF_c (v := v) a b
  have p := lyO_c (u := u) a b
  have q := lyA_c (u := u) a b
  have a1 := a 1 (by decide)
  have a3 := a 3 (by decide)
  match k with
  | 0 => show lyF rn rd v * (rn 1).toInt64 = lyF rn' rd' v * (rn' 1).toInt64; rw [f, a1]
  | 1 => show lyF rn rd v * (mx0 (v - lyA rn rd u)).toInt64 = lyF rn' rd' v * (mx0 (v - lyA rn' rd' u)).toInt64; rw [f, q]
  | 2 => show lyF rn rd v * (mx0 (lyA rn rd u - v)).toInt64 = lyF rn' rd' v * (mx0 (lyA rn' rd' u - v)).toInt64; rw [f, q]
  | 3 => show (if lyO rn rd u = 1 then lyF rn rd v * (rn 3).toInt64 else 0) = (if lyO rn' rd' u = 1 then lyF rn' rd' v * (rn' 3).toInt64 else 0); rw [f, p, a3]
  | k + 4 => show (if lyO rn rd u = 3 then lyF rn rd v * (rn 3).toInt64 else 0) = (if lyO rn' rd' u = 3 then lyF rn' rd' v * (rn' 3).toInt64 else 0); rw [f, p, a3]
theorem shO_c (w : ∀ j, j < 7 → wk j = wk' j) : shO wk = shO wk' := by unfold shO; rw [w 0 (by decide), w 1 (by decide)]
theorem fwJ_c (w : ∀ j, j < 7 → wk j = wk' j) : fwJ st wk = fwJ st wk' := by unfold fwJ; rw [shO_c w, w 2 (by decide), w 3 (by decide)]
theorem skJ_c (w : ∀ j, j < 7 → wk j = wk' j) : skJ st wk x y = skJ st wk' x y := by
  funext k
  have f := fwJ_c (st := st) w
  have s := shO_c w
  have w2 := w 2 (by decide)
  have w3 := w 3 (by decide)
  have w4 := w 4 (by decide)
  match k with
  | 0 => show st 0 * (mx0 (wk 2 - dc (fwJ st wk) 0 (shO wk))).toInt64 = st 0 * (mx0 (wk' 2 - dc (fwJ st wk') 0 (shO wk'))).toInt64; rw [f, s, w2]
  | 1 => show st 1 * (mx0 (wk 3 - dc (fwJ st wk) (shO wk) 0 - x)).toInt64 = st 1 * (mx0 (wk' 3 - dc (fwJ st wk') (shO wk') 0 - x)).toInt64; rw [f, s, w3]
  | 2 => show st 2 * (mx0 (wk 3 - y)).toInt64 = st 2 * (mx0 (wk' 3 - y)).toInt64; rw [w3]
  | 3 => show st 3 * (wk 4).toInt64 = st 3 * (wk' 4).toInt64; rw [w4]
  | k + 4 => show st 4 * (wk 4).toInt64 = st 4 * (wk' 4).toInt64; rw [w4]
theorem fwM_c (a : ∀ j, j < 5 → rn j = rn' j) (b : ∀ j, j < 5 → rd j = rd' j) (w : ∀ j, j < 7 → wk j = wk' j) : fwM rn rd wk u v = fwM rn' rd' wk' u v := by unfold fwM; rw [lyA_c a b, shO_c w, a 0 (by decide), a 1 (by decide), b 3 (by decide), b 4 (by decide), w 2 (by decide), w 3 (by decide)]
theorem itM_c (a : ∀ j, j < 5 → rn j = rn' j) (b : ∀ j, j < 5 → rd j = rd' j) (w : ∀ j, j < 7 → wk j = wk' j) : itM rn rd wk u v x y = itM rn' rd' wk' u v x y := by
  funext k
  have f := fwM_c (u := u) (v := v) a b w
  have s := shO_c w
  have q := lyA_c (u := u) a b
  have r := lyC_c (u := u) a b
  have a0 := a 0 (by decide)
  have a1 := a 1 (by decide)
  have w2 := w 2 (by decide)
  have w3 := w 3 (by decide)
  have w4 := w 4 (by decide)
  match k with
  | 0 => show rn 0 * rn 1 * ls2 (wk 2) (dc (fwM rn rd wk u v) 0 (shO wk)) = rn' 0 * rn' 1 * ls2 (wk' 2) (dc (fwM rn' rd' wk' u v) 0 (shO wk')); rw [f, s, a0, a1, w2]
  | 1 => show (if v - lyA rn rd u ≤ 0 then 0 else rn 0 * (v - lyA rn rd u) * ls2 (ls2 (wk 3) (dc (fwM rn rd wk u v) (shO wk) 0)) x) = (if v - lyA rn' rd' u ≤ 0 then 0 else rn' 0 * (v - lyA rn' rd' u) * ls2 (ls2 (wk' 3) (dc (fwM rn' rd' wk' u v) (shO wk') 0)) x); rw [f, s, q, a0, w3]
  | 2 => show (if 0 ≤ v - lyA rn rd u then 0 else rn 0 * (-(v - lyA rn rd u)) * ls2 (wk 3) y) = (if 0 ≤ v - lyA rn' rd' u then 0 else rn' 0 * (-(v - lyA rn' rd' u)) * ls2 (wk' 3) y); rw [q, a0, w3]
  | 3 => show (if lyC rn rd u ≤ 0 then 0 else rn 0 * lyC rn rd u * wk 4) = (if lyC rn' rd' u ≤ 0 then 0 else rn' 0 * lyC rn' rd' u * wk' 4); rw [r, a0, w4]
  | k + 4 => show (if 0 ≤ lyC rn rd u then 0 else rn 0 * (-lyC rn rd u) * wk 4) = (if 0 ≤ lyC rn' rd' u then 0 else rn' 0 * (-lyC rn' rd' u) * wk' 4); rw [r, a0, w4]
end C32c
section C32
variable {c m w l b0 b1 a o rd : Nat} {A : AS} {G : GC} {S T : HS} {v1 v2 v3 v4 v5 z : Int32} {Q : Int32 → HS → Prop}

theorem wk_at (hI : IV S) (ow : ob S w 8) (oc : ob S c 9) (ct : CtB w A G S S) (ab : ABd A) (e : fR S w 9 = some a) (hv : v1.toNatClampNeg < aW A) (eo : fR S a v1.toNatClampNeg = some o) : ob S o 6 ∧ (∀ j, j < 7 → fI S o j = gWk G v1.toNatClampNeg j) ∧ ∀ j, j < 7 → fI (sI S c 9 z) o j = gWk G v1.toNatClampNeg j := by
  obtain ⟨o', e', h'⟩ := ct.2.2.2.1 a e v1.toNatClampNeg hv
  cases e'.symm.trans eo
  obtain ⟨ra, e2, -, -, k3⟩ := el_ex hI ow (q := (9, 6, 4)) (by decide)
  cases e2.symm.trans e
  have oo := k3 v1.toNatClampNeg o (by have := ab.2.2.2.2.1; show _ < 4; omega) eo
  refine ⟨oo, h', fun j hj => ?_⟩
  rw [row_o (T := sI S c 9 z) rfl (ob_ne oo oc (by decide))]
  exact h' j hj
theorem rd_at (hI : IV S) (ow : ob S w 8) (oc : ob S c 9) (ct : CtB w A G S S) (ab : ABd A) (e : fR S w 8 = some a) (hv : v1.toNatClampNeg < aR A) (eo : fR S a v1.toNatClampNeg = some o) : ob S o 5 ∧ (∀ j, j < 5 → fI S o j = gRd G v1.toNatClampNeg j) ∧ ∀ j, j < 5 → fI (sI S c 9 z) o j = gRd G v1.toNatClampNeg j := by
  obtain ⟨o', e', h'⟩ := ct.2.2.1 a e v1.toNatClampNeg hv
  cases e'.symm.trans eo
  obtain ⟨ra, e2, -, -, k3⟩ := el_ex hI ow (q := (8, 5, 12)) (by decide)
  cases e2.symm.trans e
  have oo := k3 v1.toNatClampNeg o (by have := ab.2.2.2.1; show _ < 12; omega) eo
  refine ⟨oo, h', fun j hj => ?_⟩
  rw [row_o (T := sI S c 9 z) rfl (ob_ne oo oc (by decide))]
  exact h' j hj
theorem rn_at (hI : IV S) (ow : ob S w 8) (oc : ob S c 9) (ct : CtB w A G S S) (ab : ABd A) (e : fR S w 6 = some a) (hv : v1.toNatClampNeg < aHs A) (eo : fR S a v1.toNatClampNeg = some o) : ob S o 3 ∧ (∀ j, j < 5 → fI S o j = gRn G v1.toNatClampNeg j) ∧ ∀ j, j < 5 → fI (sI S c 9 z) o j = gRn G v1.toNatClampNeg j := by
  obtain ⟨o', e', h'⟩ := ct.1 a e v1.toNatClampNeg hv
  cases e'.symm.trans eo
  obtain ⟨ra, e2, -, -, k3⟩ := el_ex hI ow (q := (6, 3, 6)) (by decide)
  cases e2.symm.trans e
  have oo := k3 v1.toNatClampNeg o (by have := ab.2.1; show _ < 6; omega) eo
  refine ⟨oo, h', fun j hj => ?_⟩
  rw [row_o (T := sI S c 9 z) rfl (ob_ne oo oc (by decide))]
  exact h' j hj
theorem sp_X9_tripTrouble {r w1 w2 : Nat} (hI : IV S) (J : CJ c r w1 w2 S) (hc : Cnt w1 A S) (ab : ABd A) (h : P_X9_tripTrouble c v1 v2 v3 v4 Q S) : P_X9_tripTrouble c v1 v2 v3 v4 (fun x T => Q x T ∧ S = T ∧ x = trN A v1 v2 v3 v4) S := by
  have o1 := J.2.2.2.2.2.1
  have no : ¬ trOK A v1 v2 v3 v4 → P_X9_tripTrouble_45 Q S → P_X9_tripTrouble_45 (fun x T => Q x T ∧ S = T ∧ x = trN A v1 v2 v3 v4) S := fun hn h => by
    delta P_X9_tripTrouble_45 P_X9_tripTrouble_46
    exact ⟨fun q => ⟨h.1 q, rfl, by unfold trN; rw [dc_n hn]⟩, fun q => absurd rfl q⟩
  delta P_X9_tripTrouble P_X9_tripTrouble_0
  obtain ⟨o2, h⟩ := h
  refine ⟨o2, ?_⟩
  obtain ⟨a1, e1, h⟩ := h
  refine ⟨a1, e1, ?_⟩
  cases J.1.symm.trans e1
  obtain ⟨o3, h⟩ := h
  refine ⟨o3, ?_⟩
  refine cm_X8_hasWalker (sp_X8_hasWalker hI o1 ab hc h) h (fun x4 S2 hp h g b => ?_)
  have h := h g b
  obtain ⟨-, hS, hx⟩ := hp
  subst hS
  refine ⟨fun c1 => no (fun z => an0 hx c1 z.1) (h.1 c1), fun c1 => ?_⟩
  have h := h.2 c1
  have hx := an1 hx c1
  obtain ⟨a6, e6, h⟩ := h
  refine ⟨a6, e6, ?_⟩
  cases J.1.symm.trans e6
  obtain ⟨o6, h⟩ := h
  refine ⟨o6, ?_⟩
  refine cm_X8_hasRoad (sp_X8_hasRoad hI o1 ab hc h) h (fun x9 S7 hp h g b => ?_)
  have h := h g b
  obtain ⟨-, hS, hx2⟩ := hp
  subst hS
  refine ⟨fun c2 => no (fun z => an0 hx2 c2 z.2.1) (h.1 c2), fun c2 => ?_⟩
  have h := h.2 c2
  have hx2 := an1 hx2 c2
  refine cm_X9_isWay (sp_X9_isWay h) h (fun x9 S7 hp h g b => ?_)
  have h := h g b
  obtain ⟨-, hS, hx3⟩ := hp
  subst hS
  refine ⟨fun c3 => no (fun z => an0 hx3 c3 z.2.2.1) (h.1 c3), fun c3 => ?_⟩
  have h := h.2 c3
  have hx3 := an1 hx3 c3
  obtain ⟨a12, e12, h⟩ := h
  refine ⟨a12, e12, ?_⟩
  cases J.1.symm.trans e12
  obtain ⟨o12, h⟩ := h
  refine ⟨o12, ?_⟩
  refine cm_X8_hasHour (sp_X8_hasHour hI o1 ab hc h) h (fun x15 S13 hp h g b => ?_)
  have h := h g b
  obtain ⟨-, hS, hx4⟩ := hp
  subst hS
  refine ⟨fun c4 => no (fun z => an0 hx4 c4 z.2.2.2) (h.1 c4), fun c4 => ?_⟩
  have h := h.2 c4
  have hx4 := an1 hx4 c4
  delta P_X9_tripTrouble_46
  exact ⟨fun q => absurd q (by decide), fun q => ⟨h.2 q, rfl, by unfold trN; rw [dc_y ⟨hx, hx2, hx3, hx4⟩]⟩⟩
theorem sp_X9_legTrouble {r w1 w2 : Nat} (hI : IV S) (J : CJ c r w1 w2 S) (hc : Cnt w1 A S) (ct : CtB w1 A G S S) (ab : ABd A) (gb : GBd A G) (h : P_X9_legTrouble c v1 v2 v3 v4 v5 Q S) : P_X9_legTrouble c v1 v2 v3 v4 v5 (fun x T => Q x T ∧ S = T ∧ x = lgN A G v1 v2 v3 v4 v5) S := by
  have o1 := J.2.2.2.2.2.1
  delta P_X9_legTrouble P_X9_legTrouble_0
  obtain ⟨o2, h⟩ := h
  refine ⟨o2, ?_⟩
  refine cm_X9_tripTrouble (sp_X9_tripTrouble hI J hc ab h) h (fun x3 S1 hp h g => ?_)
  have h := h g
  obtain ⟨-, hS, hx⟩ := hp
  subst hS
  refine ⟨fun c1 => ?_, fun c1 => ⟨h.2 c1, rfl, ?_⟩⟩
  · have h := h.1 c1
    have ok : trOK A v1 v2 v3 v4 := Classical.byContradiction (fun q => by
      rw [hx] at c1
      unfold trN at c1
      rw [dc_n q] at c1
      exact absurd c1 (by decide))
    obtain ⟨a5, e5, h⟩ := h
    refine ⟨a5, e5, ?_⟩
    cases J.1.symm.trans e5
    obtain ⟨o5, h⟩ := h
    refine ⟨o5, ?_⟩
    obtain ⟨a6, e6, h⟩ := h
    refine ⟨a6, e6, ?_⟩
    obtain ⟨o6, h⟩ := h
    refine ⟨o6, ?_⟩
    obtain ⟨o7, h⟩ := h
    refine ⟨o7, ?_⟩
    obtain ⟨a8, e8, h⟩ := h
    refine ⟨a8, e8, ?_⟩
    obtain ⟨o8, h⟩ := h
    refine ⟨o8, ?_⟩
    have hv1 := ix_lt (by have := ab.2.2.2.2.1; omega) ok.1
    obtain ⟨-, ho, -⟩ := wk_at (z := 0) hI o1 o2 ct ab e6 hv1 e8
    have hb := gb.2.2.2 _ hv1
    have w5 := ho 5 (by decide)
    have w6 := ho 6 (by decide)
    refine cm_X6_canGo (sp_X6_canGo (by rw [w5]; exact hb.2.2.2.2.2.1.1) (by rw [w6]; exact hb.2.2.2.2.2.2.2) h) h (fun x17 S15 hp h g b => ?_)
    have h := h g b
    obtain ⟨-, hS, hx3⟩ := hp
    subst hS
    rw [w5, w6] at hx3
    unfold lgN
    rw [dc_y ok]
    exact ⟨fun c2 => ⟨h.1 c2, rfl, by rw [dc_n (P := spOK G v1 v5) (an0 hx3 c2)]⟩, fun c2 => ⟨h.2 c2, rfl, by rw [dc_y (P := spOK G v1 v5) (an1 hx3 c2)]⟩⟩
  · unfold trN at hx
    unfold lgN
    by_cases ok : trOK A v1 v2 v3 v4
    · rw [dc_y ok] at hx
      exact absurd hx c1
    · rw [dc_n ok] at hx ⊢
      exact hx
theorem lgN_0 (h : lgN A G v1 v2 v3 v4 v5 = 0) : trOK A v1 v2 v3 v4 ∧ spOK G v1 v5 := by
  unfold lgN at h
  by_cases ok : trOK A v1 v2 v3 v4
  · rw [dc_y ok] at h
    by_cases ok2 : spOK G v1 v5
    · exact ⟨ok, ok2⟩
    · rw [dc_n ok2] at h
      exact absurd h (by decide)
  · rw [dc_n ok] at h
    exact absurd h (by decide)
theorem lgN_3 : lgN A G v1 v2 v3 v4 v5 = 0 ∨ lgN A G v1 v2 v3 v4 v5 = 1 ∨ lgN A G v1 v2 v3 v4 v5 = 2 := by
  unfold lgN
  by_cases ok : trOK A v1 v2 v3 v4
  · rw [dc_y ok]
    by_cases ok2 : spOK G v1 v5
    · rw [dc_y ok2]
      exact Or.inl rfl
    · rw [dc_n ok2]
      exact Or.inr (Or.inr rfl)
  · rw [dc_n ok]
    exact Or.inr (Or.inl rfl)
theorem sp_X9_refusedBy (h : P_X9_refusedBy c v1 Q S) : P_X9_refusedBy c v1 (fun x T => Q x T ∧ T = sI S c 9 v1 ∧ ans (¬ v1 = 0) x) S := by
  delta P_X9_refusedBy P_X9_refusedBy_0
  obtain ⟨o, h⟩ := h
  refine ⟨o, fun S1 e => ?_⟩
  have h := h S1 e
  exact ⟨fun q => ⟨h.1 q, e, Or.inr ⟨fun z => z q, rfl⟩⟩, fun q => ⟨h.2 q, e, Or.inl ⟨q, rfl⟩⟩⟩
theorem sp_X11_refuses (hm : (fR S m 3 = none ∧ A = A00) ∨ ∃ rd, WRm m rd A G S) (ab : ABd A) (hE : ∀ rd i, ob S rd 10 → 7 ≤ i → i ≤ 27 → ∃ b, fR S rd i = some b) (h : P_X11_refuses m v1 v2 v3 v4 v5 Q S) : P_X11_refuses m v1 v2 v3 v4 v5 (fun x T => Q x T ∧ S = T ∧ x = lgN A G v1 v2 v3 v4 v5) S := by
  have nt : ¬ trOK A v1 v2 v3 v4 → (1 : Int32) = lgN A G v1 v2 v3 v4 v5 := fun q => by
    unfold lgN
    rw [dc_n q]
  delta P_X11_refuses P_X11_refuses_0
  obtain ⟨o2, h⟩ := h
  refine ⟨o2, ?_⟩
  refine cm_X11_isWalker (sp_X11_isWalker hm h) h (fun x4 S2 hp h g b => ?_)
  have h := h g b
  obtain ⟨-, hS, hx⟩ := hp
  subst hS
  refine ⟨fun c1 => ⟨h.1 c1, rfl, nt (fun z => ?_)⟩, fun c1 => ?_⟩
  · rcases hm with ⟨n, hA⟩ | hm1
    · exact zero_n (by rw [hA]; rfl) z.1
    · exact an0 hx c1 ⟨hm1, z.1⟩
  have h := h.2 c1
  obtain ⟨⟨rd, hr⟩, hx⟩ := an1 hx c1
  refine cm_X11_isRoad (sp_X11_isRoad hm h) h (fun x8 S6 hp h g b => ?_)
  have h := h g b
  obtain ⟨-, hS, hx2⟩ := hp
  subst hS
  refine ⟨fun c2 => ⟨h.1 c2, rfl, nt (fun z => an0 hx2 c2 ⟨⟨rd, hr⟩, z.2.1⟩)⟩, fun c2 => ?_⟩
  have h := h.2 c2
  obtain ⟨-, hx2⟩ := an1 hx2 c2
  refine cm_X11_in (sp_X11_in h) h (fun x8 S6 hp h g b => ?_)
  have h := h g b
  obtain ⟨-, hS, hx3⟩ := hp
  subst hS
  refine ⟨fun c3 => ⟨h.1 c3, rfl, nt (fun z => an0 hx3 c3 (way_in.mpr z.2.2.1))⟩, fun c3 => ?_⟩
  have h := h.2 c3
  have hx3 := way_in.mp (an1 hx3 c3)
  refine cm_X11_isHour (sp_X11_isHour hm h) h (fun x12 S10 hp h g b => ?_)
  have h := h g b
  obtain ⟨-, hS, hx4⟩ := hp
  subst hS
  refine Iff.mp and_comm ⟨fun c4 => ⟨h.2 c4, rfl, nt (fun z => an0 hx4 c4 ⟨⟨rd, hr⟩, z.2.2.2⟩)⟩, fun c4 => ?_⟩
  have h := h.1 c4
  obtain ⟨-, hx4⟩ := an1 hx4 c4
  obtain ⟨b24, q24⟩ := hE rd 24 hr.2.1 (by decide) (by decide)
  obtain ⟨b25, q25⟩ := hE rd 25 hr.2.1 (by decide) (by decide)
  have hv1 := ix_lt (by have := ab.2.2.2.2.1; omega) hx
  have c24 : fI S b24 v1.toNatClampNeg = gWk G v1.toNatClampNeg 5 := hr.2.2.2.1 24 b24 (by decide) (by decide) q24 v1.toNatClampNeg hv1
  have c25 : fI S b25 v1.toNatClampNeg = gWk G v1.toNatClampNeg 6 := hr.2.2.2.1 25 b25 (by decide) (by decide) q25 v1.toNatClampNeg hv1
  refine cm_X11_isSpeed (sp_X11_isSpeed hr.1 q24 q25 h) h (fun x12 S10 hp h g b => ?_)
  have h := h g b
  obtain ⟨-, hS, hx5⟩ := hp
  subst hS
  rw [c24, c25] at hx5
  unfold lgN
  rw [dc_y ⟨hx, hx2, hx3, hx4⟩]
  exact ⟨fun q => ⟨h.1 q, rfl, by rw [dc_n (P := spOK G v1 v5) (an0 hx5 q)]⟩, fun q => ⟨h.2 q, rfl, by rw [dc_y (P := spOK G v1 v5) (an1 hx5 q)]⟩⟩
/-- the reference's rows are what was told -/
theorem m_rows (hE : ∀ i, 7 ≤ i → i ≤ 27 → ∃ b, fR S rd i = some b) (hr : WRm m rd A G S) (h1 : v1.toNatClampNeg < aW A) (h2 : v2.toNatClampNeg < aR A) (h4 : v4.toNatClampNeg < aHs A) : (∀ j, j < 5 → mRn S rd v4.toNatClampNeg j = gRn G v4.toNatClampNeg j) ∧ (∀ j, j < 5 → mRd S rd v2.toNatClampNeg j = gRd G v2.toNatClampNeg j) ∧ ∀ j, j < 7 → mWk S rd v1.toNatClampNeg j = gWk G v1.toNatClampNeg j := by
  refine ⟨fun j hj => ?_, fun j hj => ?_, fun j hj => ?_⟩
  · obtain ⟨b, e⟩ := hE (7 + j) (by omega) (by omega)
    rw [← mrn e]
    match j, hj with
    | 0, _ => exact hr.2.2.2.1 7 b (by decide) (by decide) e v4.toNatClampNeg h4
    | 1, _ => exact hr.2.2.2.1 8 b (by decide) (by decide) e v4.toNatClampNeg h4
    | 2, _ => exact hr.2.2.2.1 9 b (by decide) (by decide) e v4.toNatClampNeg h4
    | 3, _ => exact hr.2.2.2.1 10 b (by decide) (by decide) e v4.toNatClampNeg h4
    | 4, _ => exact hr.2.2.2.1 11 b (by decide) (by decide) e v4.toNatClampNeg h4
    | j + 5, hj => exact absurd hj (by omega)
  · obtain ⟨b, e⟩ := hE (13 + j) (by omega) (by omega)
    rw [← mrd e]
    match j, hj with
    | 0, _ => exact hr.2.2.2.1 13 b (by decide) (by decide) e v2.toNatClampNeg h2
    | 1, _ => exact hr.2.2.2.1 14 b (by decide) (by decide) e v2.toNatClampNeg h2
    | 2, _ => exact hr.2.2.2.1 15 b (by decide) (by decide) e v2.toNatClampNeg h2
    | 3, _ => exact hr.2.2.2.1 16 b (by decide) (by decide) e v2.toNatClampNeg h2
    | 4, _ => exact hr.2.2.2.1 17 b (by decide) (by decide) e v2.toNatClampNeg h2
    | j + 5, hj => exact absurd hj (by omega)
  · obtain ⟨b, e⟩ := hE (19 + j) (by omega) (by omega)
    rw [← mwk e]
    match j, hj with
    | 0, _ => exact hr.2.2.2.1 19 b (by decide) (by decide) e v1.toNatClampNeg h1
    | 1, _ => exact hr.2.2.2.1 20 b (by decide) (by decide) e v1.toNatClampNeg h1
    | 2, _ => exact hr.2.2.2.1 21 b (by decide) (by decide) e v1.toNatClampNeg h1
    | 3, _ => exact hr.2.2.2.1 22 b (by decide) (by decide) e v1.toNatClampNeg h1
    | 4, _ => exact hr.2.2.2.1 23 b (by decide) (by decide) e v1.toNatClampNeg h1
    | 5, _ => exact hr.2.2.2.1 24 b (by decide) (by decide) e v1.toNatClampNeg h1
    | 6, _ => exact hr.2.2.2.1 25 b (by decide) (by decide) e v1.toNatClampNeg h1
    | j + 7, hj => exact absurd hj (by omega)
end C32
end
section
/-! what face, wet, mean, held tell -/
section C33
variable {c m : Nat} {A : AS} {G : GC} {S T : HS} {v1 v2 v3 v4 v5 v6 v7 : Int32} {Q : Int32 → HS → Prop} {QJ : Int64 → HS → Prop}
theorem ok_ix (ab : ABd A) (gb : GBd A G) (h : trOK A v1 v2 v3 v4) : v1.toNatClampNeg < aW A ∧ v2.toNatClampNeg < aR A ∧ v4.toNatClampNeg < aHs A ∧ RnB (gRn G v4.toNatClampNeg) ∧ RoB (gRd G v2.toNatClampNeg) ∧ WkB (gWk G v1.toNatClampNeg) := by
  have h1 := ix_lt (by have := ab.2.2.2.2.1; omega) h.1
  have h2 := ix_lt (by have := ab.2.2.2.1; omega) h.2.1
  have h4 := ix_lt (by have := ab.2.1; omega) h.2.2.2
  exact ⟨h1, h2, h4, gb.1 _ h4, gb.2.2.1 _ h2, gb.2.2.2 _ h1⟩
theorem ok_v (w : WkB (gWk G v1.toNatClampNeg)) (h : spOK G v1 v5) : 1 ≤ v5.toInt ∧ v5.toInt ≤ 9 ∧ ¬ v5 ≤ 0 := by
  have q1 := nlt_i (fun z => h (Or.inl z))
  have q2 := nlt_i (fun z => h (Or.inr z))
  have w5 := w.2.2.2.2.2.1.1
  have w6 := w.2.2.2.2.2.2.2
  refine ⟨by omega, by omega, fun z => ?_⟩
  have := le_i z
  have e0 : (0 : Int32).toInt = 0 := by decide
  omega
theorem m_start {S1 : HS} (hI : IV S) (eS1 : S1 = sI S m 0 0) : ∀ rd i, ob S1 rd 10 → 7 ≤ i → i ≤ 27 → ∃ b, fR S1 rd i = some b := fun rd i o10 h1 h2 => by
  have hs : ∀ i, i < 28 → 7 ≤ i → ∃ s ∈ shT, s.1 = 10 ∧ s.2.1 = i := by decide
  obtain ⟨s, hs, q1, q2⟩ := hs i (by omega) h1
  have fr : fR S1 = fR S := by rw [eS1]; rfl
  have oo : ob S rd 10 := by
    rw [eS1] at o10
    exact o10
  obtain ⟨d, e1, -, -⟩ := hI.1 s hs rd (by rw [q1]; exact oo)
  rw [q2] at e1
  exact ⟨d, by rw [fr]; exact e1⟩
theorem hm_ok (hm : (fR S m 3 = none ∧ A = A00) ∨ ∃ rd, WRm m rd A G S) (h : trOK A v1 v2 v3 v4) : ∃ rd, WRm m rd A G S := by
  rcases hm with ⟨n, hA⟩ | hm
  · exact absurd (zero_n (by rw [hA]; rfl) h.1) id
  · exact hm
theorem lg_le (h : lgN A G v1 v2 v3 v4 v5 ≤ 0) : lgN A G v1 v2 v3 v4 v5 = 0 := by
  rcases lgN_3 (A := A) (G := G) (v1 := v1) (v2 := v2) (v3 := v3) (v4 := v4) (v5 := v5) with q | q | q
  · exact q
  · rw [q] at h
    exact absurd h (by decide)
  · rw [q] at h
    exact absurd h (by decide)
end C33
/-! the best and the worst speed -/
section C34p
variable {W W' : Nat → Int64} {s n f : Nat}
theorem lgc_ge {x y : Int64} : (¬ 0 ≤ lg_cmp x y) ↔ x.toInt < y.toInt := by
  unfold lg_cmp
  by_cases c : x > y
  · rw [if_pos c]
    have := Int64.lt_iff_toInt_lt.mp c
    exact ⟨fun z => absurd (by decide) z, fun z => by omega⟩
  · rw [if_neg c]
    have n := Int64.le_iff_toInt_le.mp (Int64.not_lt.mp c)
    by_cases d : x = y
    · rw [if_pos d, d]
      exact ⟨fun z => absurd (by decide) z, fun z => by omega⟩
    · rw [if_neg d]
      refine ⟨fun _ => ?_, fun _ => by decide⟩
      rcases Int.lt_or_eq_of_le n with q | q
      · exact q
      · exact absurd (Int64.toInt_inj.mp q) d
theorem lgc_eq {x y : Int64} : lg_cmp x y = 0 ↔ x = y := by
  unfold lg_cmp
  by_cases c : x > y
  · rw [if_pos c]
    have := Int64.lt_iff_toInt_lt.mp c
    exact ⟨fun z => absurd z (by decide), fun z => by rw [z] at this; omega⟩
  · rw [if_neg c]
    by_cases d : x = y
    · rw [if_pos d]
      exact ⟨fun _ => d, fun _ => rfl⟩
    · rw [if_neg d]
      exact ⟨fun z => absurd z (by decide), fun z => absurd z d⟩
end C34p
section C34
variable {m rd v0 v1 v2 v4 b0 b1 s f : Nat} {S T : HS} {u : Int32} {w1 w2 w3 w4 : Int32} {W : Nat → Int64} {Q : Int32 → HS → Prop} {QJ : Int64 → HS → Prop}
end C34
end
section
/-! what lee and first tell -/
def tsum (f h : Nat → Int64) : Nat → Int64
  | 0 => 0
  | n + 1 => tsum f h n + f n + h n
noncomputable def tgM (rn rd wa wb : Nat → Int32) (u v : Int32) : Int64 := tsum (fun k => (itM rn rd wa u v 0 (wb 3) k).toInt64) (fun k => (itM rn rd wb u v (wa 3) 0 k).toInt64) 5 * (rd 3 - rd 4).toInt64 * ((2520 : Int32) / v).toInt64
noncomputable def ljJ (st : Nat → Int64) (wa wb : Nat → Int32) : Int64 := sumJ (skJ st wa 0 (wb 3)) + sumJ (skJ st wb (wa 3) 0)
noncomputable def gT (G : GC) (v1 v2 v3 v4 v5 v6 : Int32) : Int64 := tgM (gRn G v5.toNatClampNeg) (gRd G v3.toNatClampNeg) (gWk G v1.toNatClampNeg) (gWk G v2.toNatClampNeg) v4 v6
noncomputable def leN (A : AS) (G : GC) (v1 v2 v3 v4 v5 v6 : Int32) : Int32 := dc (¬ v1 = v2 ∧ (¬ v2 < 0 ∧ v2 < nI (aW A))) (dc (lgN A G v1 v3 v4 v5 v6 = 0) (dc (spOK G v2 v6) 0 2) (lgN A G v1 v3 v4 v5 v6)) 1
noncomputable def tellfirst (A : AS) (G : GC) (v1 v2 v3 v4 v5 v6 : Int32) : Int32 := dc (leN A G v1 v2 v3 v4 v5 v6 = 0) (dc (gT G v1 v2 v3 v4 v5 v6 = gT G v2 v1 v3 v4 v5 v6) (-2) (dc ((gT G v1 v2 v3 v4 v5 v6).toInt < (gT G v2 v1 v3 v4 v5 v6).toInt) 0 1)) (-1)
section C37p
variable {rn rn' rd rd' wa wa' wb wb' : Nat → Int32} {u v : Int32} {st : Nat → Int64}
theorem tgM_c (a : ∀ j, j < 5 → rn j = rn' j) (b : ∀ j, j < 5 → rd j = rd' j) (w : ∀ j, j < 7 → wa j = wa' j) (x : ∀ j, j < 7 → wb j = wb' j) : tgM rn rd wa wb u v = tgM rn' rd' wa' wb' u v := by
  unfold tgM
  rw [itM_c (u := u) (v := v) a b w, itM_c (u := u) (v := v) a b x, b 3 (by decide), b 4 (by decide), w 3 (by decide), x 3 (by decide)]
theorem ljJ_c (s : ∀ k, k < 5 → st k = lyS rn rd u v k) (w : ∀ j, j < 7 → wa j = wa' j) (x : ∀ j, j < 7 → wb j = wb' j) : ljJ st wa wb = sumJ (wtJ wa' rd rn u v 0 (wb' 3)) + sumJ (wtJ wb' rd rn u v (wa' 3) 0) := by
  unfold ljJ wtJ
  rw [skJ_c w, skJ_c x, w 3 (by decide), x 3 (by decide)]
  have p : ∀ wk y z, sumJ (skJ st wk y z) = sumJ (skJ (lyS rn rd u v) wk y z) := fun wk y z => by
    unfold sumJ
    rw [skJ_congr s 0, skJ_congr s 1, skJ_congr s 2, skJ_congr s 3, skJ_congr s 4]
  rw [p, p]
theorem sum_b {f : Nat → Int64} {e : Nat → Int} {B : Int} (h : ∀ k, k < 5 → bJ (f k) (e k) B) (hB : B * 10 ≤ 4611686018427387904) : bJ (sumJ f) (e 0 + e 1 + e 2 + e 3 + e 4) (B + B + B + B + B) := by
  have := (h 0 (by decide)).2
  exact bJ_add (bJ_add (bJ_add (bJ_add (h 0 (by decide)) (h 1 (by decide)) (by omega)) (h 2 (by decide)) (by omega)) (h 3 (by decide)) (by omega)) (h 4 (by decide)) (by omega)
theorem ts_b {f h : Nat → Int64} {e d : Nat → Int} (p : ∀ k, k < 5 → bJ (f k) (e k) 24786) (q : ∀ k, k < 5 → bJ (h k) (d k) 24786) : bJ (tsum f h 5) (0 + e 0 + d 0 + e 1 + d 1 + e 2 + d 2 + e 3 + d 3 + e 4 + d 4) 247860 := by
  have z : bJ (0 : Int64) 0 0 := ⟨by decide, by decide, by decide⟩
  exact bJ_add (bJ_add (bJ_add (bJ_add (bJ_add (bJ_add (bJ_add (bJ_add (bJ_add (bJ_add z (p 0 (by decide)) (by decide)) (q 0 (by decide)) (by decide)) (p 1 (by decide)) (by decide)) (q 1 (by decide)) (by decide)) (p 2 (by decide)) (by decide)) (q 2 (by decide)) (by decide)) (p 3 (by decide)) (by decide)) (q 3 (by decide)) (by decide)) (p 4 (by decide)) (by decide)) (q 4 (by decide)) (by decide)
/-- one in the other's lee: both sides reckon the same -/
theorem lee_eq (a : RnB rn) (b : RoB rd) (w : WkB wa) (x : WkB wb) (h1 : 1 ≤ v.toInt) (h2 : v.toInt ≤ 9) : sumJ (wtJ wa rd rn u v 0 (wb 3)) + sumJ (wtJ wb rd rn u v (wa 3) 0) = tgM rn rd wa wb u v ∧ ∃ n, bJ (tgM rn rd wa wb u v) n 37476432000 := by
  have f3 : ∀ {wk : Nat → Int32}, WkB wk → bI (wk 3) (wk 3).toInt 999 := fun w => ⟨rfl, by have := w.2.2.2.1.1; omega, by have := w.2.2.2.1.2; omega⟩
  have c1 := sum_b (fun k hk => wt_b (u := u) a b w h1 h2 z_bI (f3 x) k hk) (by decide)
  have c2 := sum_b (fun k hk => wt_b (u := u) a b x h1 h2 (f3 w) z_bI k hk) (by decide)
  have cs := bJ_add c1 c2 (by decide)
  have t := ts_b (fun k hk => bJ_of (it_b (u := u) a b w h1 h2 z_bI (f3 x) k hk)) (fun k hk => bJ_of (it_b (u := u) a b x h1 h2 (f3 w) z_bI k hk))
  have m := bJ_mul (bJ_mul t (bJ_of (len_b b)) (by decide)) (bJ_of (q_b h1 h2)) (by decide)
  have e : (tgM rn rd wa wb u v).toInt = _ := m.1
  refine ⟨Int64.toInt_inj.mp ?_, _, m⟩
  rw [cs.1, e, Int.mul_assoc]
  show _ = _ * iT rd v
  rw [Int.add_mul, Int.add_mul, Int.add_mul, Int.add_mul, Int.add_mul, Int.add_mul, Int.add_mul, Int.add_mul, Int.add_mul, Int.add_mul, Int.zero_mul]
  omega
end C37p
section C37
variable {c m rd v0 a1 a2 b0 b1 : Nat} {A : AS} {G : GC} {S T : HS} {v1 v2 v3 v4 v5 v6 v7 : Int32} {Q : Int32 → HS → Prop} {QJ : Int64 → HS → Prop}
theorem sp_X1_wetInLee (e0 : fR S v0 0 = some b0) (e1 : fR S v0 1 = some b1) (ne : b1 ≠ b0) (h : P_X1_wetInLee v0 a1 a2 QJ S) : P_X1_wetInLee v0 a1 a2 (fun z T => QJ z T ∧ ∃ f, T = wJ S f ∧ f b1 = fJ S b1 ∧ z = ljJ (fJ S b1) (fI S a1) (fI S a2)) S := by
  delta P_X1_wetInLee P_X1_wetInLee_0
  obtain ⟨o1, h⟩ := h
  refine ⟨o1, fun x1 q1 => ?_⟩
  have h := h x1 q1
  obtain ⟨o2, h⟩ := h
  refine ⟨o2, ?_⟩
  refine cm_X1_soak (sp_X1_soak e0 e1 ne h) h (fun z S1 hp h g => ?_)
  have h := h g
  obtain ⟨-, f1, hS, go, -, hz⟩ := hp
  subst hS
  obtain ⟨o3, h⟩ := h
  refine ⟨o3, fun x2 q2 => ?_⟩
  have h := h x2 q2
  have k1 : f1 b1 = fJ S b1 := go b1 ne
  refine cm_X1_soak (sp_X1_soak (S := wJ S f1) e0 e1 ne h) h (fun y S1 hp h g => ⟨h g, ?_⟩)
  obtain ⟨-, f2, hS, go2, -, hy⟩ := hp
  refine ⟨f2, hS, (go2 b1 ne).trans k1, ?_⟩
  have hy : y = sumJ (skJ (f1 b1) (fI S a2) x2 0) := hy
  have q2 : x2 = fI S a1 3 := q2
  rw [hz, hy, k1, q1, q2]
  rfl
theorem sp_X9_leeTrouble {r w1 w2 : Nat} (hI : IV S) (J : CJ c r w1 w2 S) (hc : Cnt w1 A S) (ct : CtB w1 A G S S) (ab : ABd A) (gb : GBd A G) (h : P_X9_leeTrouble c v1 v2 v3 v4 v5 v6 Q S) : P_X9_leeTrouble c v1 v2 v3 v4 v5 v6 (fun x T => Q x T ∧ S = T ∧ x = leN A G v1 v2 v3 v4 v5 v6) S := by
  have ow1 := J.2.2.2.2.2.1
  have oc := J.2.2.2.1
  have no : ¬ (¬ v1 = v2 ∧ (¬ v2 < 0 ∧ v2 < nI (aW A))) → (1 : Int32) = leN A G v1 v2 v3 v4 v5 v6 := fun q => by
    unfold leN
    rw [dc_n q]
  delta P_X9_leeTrouble P_X9_leeTrouble_0
  refine ⟨fun ce => ⟨h.1 ce, rfl, no (fun z => z.1 ce)⟩, fun ce => ?_⟩
  have h := h.2 ce
  obtain ⟨o1, h⟩ := h
  refine ⟨o1, ?_⟩
  obtain ⟨a2, e2, h⟩ := h
  refine ⟨a2, e2, ?_⟩
  cases (J.1).symm.trans e2
  obtain ⟨o3, h⟩ := h
  refine ⟨o3, ?_⟩
  refine cm_X8_hasWalker (sp_X8_hasWalker hI ow1 ab hc h) h (fun x1 S2 hp h g b => ?_)
  have h := h g b
  obtain ⟨-, hS, hx1⟩ := hp
  subst hS
  refine ⟨fun cc => ⟨h.1 cc, rfl, ?_⟩, fun cc => ?_⟩
  · have hn := an0 hx1 cc
    have e1 : lgN A G v1 v3 v4 v5 v6 = 1 := by
      unfold lgN
      rw [dc_n (fun z => hn z.1)]
    by_cases q : ¬ v1 = v2 ∧ (¬ v2 < 0 ∧ v2 < nI (aW A))
    · unfold leN
      rw [dc_y q, e1, dc_n (by decide)]
    · exact no q
  have h := h.2 cc
  have k1 := an1 hx1 cc
  obtain ⟨a4, e4, h⟩ := h
  refine ⟨a4, e4, ?_⟩
  cases (J.1).symm.trans e4
  obtain ⟨o5, h⟩ := h
  refine ⟨o5, ?_⟩
  refine cm_X8_hasWalker (sp_X8_hasWalker hI ow1 ab hc h) h (fun x2 S2 hp h g b => ?_)
  have h := h g b
  obtain ⟨-, hS, hx2⟩ := hp
  subst hS
  refine Iff.mp and_comm ⟨fun cc => ⟨h.2 cc, rfl, no (fun z => an0 hx2 cc z.2)⟩, fun cc => ?_⟩
  have h := h.1 cc
  have k2 := an1 hx2 cc
  refine cm_X9_legTrouble (sp_X9_legTrouble hI J hc ct ab gb h) h (fun xt S2 hp h g => ?_)
  have h := h g
  obtain ⟨-, hS, ht⟩ := hp
  subst hS
  unfold leN
  rw [dc_y ⟨ce, k2⟩]
  refine Iff.mp and_comm ⟨fun c1 => ⟨h.2 c1, rfl, by rw [dc_n (fun z => c1 (ht.trans z)), ht]⟩, fun c1 => ?_⟩
  have h := h.1 c1
  rw [dc_y (ht.symm.trans c1)]
  have hv2 := ix_lt (by have := ab.2.2.2.2.1; omega) k2
  obtain ⟨a6, e6, h⟩ := h
  refine ⟨a6, e6, ?_⟩
  cases (J.1).symm.trans e6
  obtain ⟨o7, h⟩ := h
  refine ⟨o7, ?_⟩
  obtain ⟨a8, e8, h⟩ := h
  refine ⟨a8, e8, ?_⟩
  obtain ⟨o9, h⟩ := h
  refine ⟨o9, ?_⟩
  obtain ⟨o10, h⟩ := h
  refine ⟨o10, ?_⟩
  obtain ⟨a11, e11, h⟩ := h
  refine ⟨a11, e11, ?_⟩
  obtain ⟨kwk, rwk, twk⟩ := wk_at (z := 0) hI ow1 oc ct ab e8 hv2 e11
  obtain ⟨o12, h⟩ := h
  refine ⟨o12, ?_⟩
  have hb := gb.2.2.2 _ hv2
  have w5 := rwk 5 (by decide)
  have w6 := rwk 6 (by decide)
  refine cm_X6_canGo (sp_X6_canGo (by rw [w5]; exact hb.2.2.2.2.2.1.1) (by rw [w6]; exact hb.2.2.2.2.2.2.2) h) h (fun x17 S15 hp h g b => ?_)
  have h := h g b
  obtain ⟨-, hS, hx3⟩ := hp
  subst hS
  rw [w5, w6] at hx3
  exact ⟨fun c2 => ⟨h.1 c2, rfl, by rw [dc_n (P := spOK G v2 v6) (an0 hx3 c2)]⟩, fun c2 => ⟨h.2 c2, rfl, by rw [dc_y (P := spOK G v2 v6) (an1 hx3 c2)]⟩⟩
theorem leN_0 (h : leN A G v1 v2 v3 v4 v5 v6 = 0) : (¬ v2 < 0 ∧ v2 < nI (aW A)) ∧ lgN A G v1 v3 v4 v5 v6 = 0 ∧ spOK G v2 v6 := by
  unfold leN at h
  by_cases q : ¬ v1 = v2 ∧ (¬ v2 < 0 ∧ v2 < nI (aW A))
  · rw [dc_y q] at h
    by_cases r : lgN A G v1 v3 v4 v5 v6 = 0
    · rw [dc_y r] at h
      by_cases t : spOK G v2 v6
      · exact ⟨q.2, r, t⟩
      · rw [dc_n t] at h
        exact absurd h (by decide)
    · rw [dc_n r] at h
      exact absurd h r
  · rw [dc_n q] at h
    exact absurd h (by decide)
theorem leN_3 : leN A G v1 v2 v3 v4 v5 v6 = 0 ∨ leN A G v1 v2 v3 v4 v5 v6 = 1 ∨ leN A G v1 v2 v3 v4 v5 v6 = 2 := by
  unfold leN
  by_cases q : ¬ v1 = v2 ∧ (¬ v2 < 0 ∧ v2 < nI (aW A))
  · rw [dc_y q]
    by_cases r : lgN A G v1 v3 v4 v5 v6 = 0
    · rw [dc_y r]
      by_cases t : spOK G v2 v6
      · rw [dc_y t]
        exact Or.inl rfl
      · rw [dc_n t]
        exact Or.inr (Or.inr rfl)
    · rw [dc_n r]
      exact lgN_3
  · rw [dc_n q]
    exact Or.inr (Or.inl rfl)
theorem le_le (h : leN A G v1 v2 v3 v4 v5 v6 ≤ 0) : leN A G v1 v2 v3 v4 v5 v6 = 0 := by
  rcases leN_3 (A := A) (G := G) (v1 := v1) (v2 := v2) (v3 := v3) (v4 := v4) (v5 := v5) (v6 := v6) with q | q | q
  · exact q
  · rw [q] at h
    exact absurd h (by decide)
  · rw [q] at h
    exact absurd h (by decide)
theorem sp_X11_refusesTwo (hm : (fR S m 3 = none ∧ A = A00) ∨ ∃ rd, WRm m rd A G S) (ab : ABd A) (hE : ∀ rd i, ob S rd 10 → 7 ≤ i → i ≤ 27 → ∃ b, fR S rd i = some b) (h : P_X11_refusesTwo m v1 v2 v3 v4 v5 v6 Q S) : P_X11_refusesTwo m v1 v2 v3 v4 v5 v6 (fun x T => Q x T ∧ S = T ∧ x = leN A G v1 v2 v3 v4 v5 v6) S := by
  have no : ¬ (¬ v1 = v2 ∧ (¬ v2 < 0 ∧ v2 < nI (aW A))) → (1 : Int32) = leN A G v1 v2 v3 v4 v5 v6 := fun q => by
    unfold leN
    rw [dc_n q]
  delta P_X11_refusesTwo P_X11_refusesTwo_0
  refine ⟨fun ce => ⟨h.1 ce, rfl, no (fun z => z.1 ce)⟩, fun ce => ?_⟩
  have h := h.2 ce
  obtain ⟨o1, h⟩ := h
  refine ⟨o1, ?_⟩
  refine cm_X11_isWalker (sp_X11_isWalker hm h) h (fun x1 S2 hp h g b => ?_)
  have h := h g b
  obtain ⟨-, hS, hx⟩ := hp
  subst hS
  refine Iff.mp and_comm ⟨fun c1 => ⟨h.2 c1, rfl, no (fun z => hm.elim (fun q => zero_n (by rw [q.2]; rfl) z.2) (fun q => an0 hx c1 ⟨q, z.2⟩))⟩, fun c1 => ?_⟩
  have h := h.1 c1
  obtain ⟨⟨rd, hr⟩, k2⟩ := an1 hx c1
  refine cm_X11_refuses (sp_X11_refuses hm ab hE h) h (fun xt S2 hp h g => ?_)
  have h := h g
  obtain ⟨-, hS, ht⟩ := hp
  subst hS
  unfold leN
  rw [dc_y ⟨ce, k2⟩]
  refine Iff.mp and_comm ⟨fun c2 => ⟨h.2 c2, rfl, by rw [dc_n (fun z => c2 (by rw [ht, z]; decide)), ht]⟩, fun c2 => ?_⟩
  have h := h.1 c2
  rw [dc_y (lg_le (by rw [← ht]; exact c2))]
  obtain ⟨b24, q24⟩ := hE rd 24 hr.2.1 (by decide) (by decide)
  obtain ⟨b25, q25⟩ := hE rd 25 hr.2.1 (by decide) (by decide)
  have hv1 := ix_lt (by have := ab.2.2.2.2.1; omega) k2
  have c24 : fI S b24 v2.toNatClampNeg = gWk G v2.toNatClampNeg 5 := hr.2.2.2.1 24 b24 (by decide) (by decide) q24 v2.toNatClampNeg hv1
  have c25 : fI S b25 v2.toNatClampNeg = gWk G v2.toNatClampNeg 6 := hr.2.2.2.1 25 b25 (by decide) (by decide) q25 v2.toNatClampNeg hv1
  refine cm_X11_isSpeed (sp_X11_isSpeed hr.1 q24 q25 h) h (fun x12 S10 hp h g b => ?_)
  have h := h g b
  obtain ⟨-, hS, hx5⟩ := hp
  subst hS
  rw [c24, c25] at hx5
  exact ⟨fun q => ⟨h.1 q, rfl, by rw [dc_n (P := spOK G v2 v6) (an0 hx5 q)]⟩, fun q => ⟨h.2 q, rfl, by rw [dc_y (P := spOK G v2 v6) (an1 hx5 q)]⟩⟩
theorem sp_X11_together (he : ∀ i, 7 ≤ i → i ≤ 27 → ∃ b, fR S rd i = some b) (e3 : fR S m 3 = some rd) (h : P_X11_together m v1 v2 v3 v4 v5 v6 QJ S) : P_X11_together m v1 v2 v3 v4 v5 v6 (fun x T => QJ x T ∧ S = T ∧ x = tgM (mRn S rd v5.toNatClampNeg) (mRd S rd v3.toNatClampNeg) (mWk S rd v1.toNatClampNeg) (mWk S rd v2.toNatClampNeg) v4 v6) S := by
  delta P_X11_together P_X11_together_0
  intro X hX
  refine h (fun a0 a1 a2 a3 a4 a5 a6 a7 a9 T => (a0 = m ∧ a1 = v1 ∧ a2 = v2 ∧ a3 = v3 ∧ a4 = v4 ∧ a5 = v5 ∧ a6 = v6 ∧ T = S ∧ ∃ k, k ≤ 5 ∧ a9 = nI k ∧ a7 = tsum (fun k => (itM (mRn S rd v5.toNatClampNeg) (mRd S rd v3.toNatClampNeg) (mWk S rd v1.toNatClampNeg) v4 v6 0 ((mWk S rd v2.toNatClampNeg) 3) k).toInt64) (fun k => (itM (mRn S rd v5.toNatClampNeg) (mRd S rd v3.toNatClampNeg) (mWk S rd v2.toNatClampNeg) v4 v6 ((mWk S rd v1.toNatClampNeg) 3) 0 k).toInt64) k) → X a0 a1 a2 a3 a4 a5 a6 a7 a9 T) ?_ ⟨rfl, rfl, rfl, rfl, rfl, rfl, rfl, rfl, 0, by decide, by decide, rfl⟩
  rintro a0 v1 v2 v3 v4 v5 v6 a7 a9 T h ⟨rfl, rfl, rfl, rfl, rfl, rfl, rfl, rfl, k, hk, e9, e7⟩
  apply hX
  have n5 : (5 : Int32).toInt = 5 := by decide
  have nk : a9.toInt = (k : Int) := by rw [e9, nI_i (by omega)]
  refine ⟨fun c => ?_, fun c => ?_⟩
  · have h := h.1 c
    have := le_i c
    have q : k = 5 := by omega
    obtain ⟨o13, h⟩ := h
    refine ⟨o13, ?_⟩
    obtain ⟨a14, e14, h⟩ := h
    refine ⟨a14, e14, ?_⟩
    cases (e3).symm.trans e14
    obtain ⟨o15, h⟩ := h
    refine ⟨o15, ?_⟩
    obtain ⟨a16, e16, h⟩ := h
    refine ⟨a16, e16, ?_⟩
    obtain ⟨o17, h⟩ := h
    refine ⟨o17, ?_⟩
    obtain ⟨o18, h⟩ := h
    refine ⟨o18, ?_⟩
    intro x19 q19
    have h := h x19 q19
    replace q19 := q19.trans (mrd (j := 3) e16)
    obtain ⟨a20, e20, h⟩ := h
    refine ⟨a20, e20, ?_⟩
    cases (e3).symm.trans e20
    obtain ⟨o21, h⟩ := h
    refine ⟨o21, ?_⟩
    obtain ⟨a22, e22, h⟩ := h
    refine ⟨a22, e22, ?_⟩
    obtain ⟨o23, h⟩ := h
    refine ⟨o23, ?_⟩
    obtain ⟨o24, h⟩ := h
    refine ⟨o24, ?_⟩
    intro x25 q25
    have h := h x25 q25
    replace q25 := q25.trans (mrd (j := 4) e22)
    obtain ⟨o26, h⟩ := h
    refine ⟨o26, ?_⟩
    intro x27 q27
    have h := h x27 q27
    refine ⟨h, rfl, ?_⟩
    rw [e7, q, q19, q25, q27]
    rfl
  have h := h.2 c
  have lt := nle_i c
  have hk9 : a9.toNatClampNeg = k := by rw [e9, nI_cl (by omega)]
  obtain ⟨o28, h⟩ := h
  refine ⟨o28, ?_⟩
  obtain ⟨a29, e29, h⟩ := h
  refine ⟨a29, e29, ?_⟩
  cases (e3).symm.trans e29
  obtain ⟨o30, h⟩ := h
  refine ⟨o30, ?_⟩
  obtain ⟨a31, e31, h⟩ := h
  refine ⟨a31, e31, ?_⟩
  obtain ⟨o32, h⟩ := h
  refine ⟨o32, ?_⟩
  obtain ⟨o33, h⟩ := h
  refine ⟨o33, ?_⟩
  intro x34 q34
  have h := h x34 q34
  replace q34 := q34.trans (mwk (j := 3) e31)
  refine cm_X11_inTime (sp_X11_inTime he e3 ⟨by omega, by omega⟩ h) h (fun zz S1 hp h g => ?_)
  have h := h g
  obtain ⟨-, hS, hz⟩ := hp
  subst hS
  intro x35 q35
  have h := h x35 q35
  obtain ⟨a36, e36, h⟩ := h
  refine ⟨a36, e36, ?_⟩
  cases (e3).symm.trans e36
  obtain ⟨o37, h⟩ := h
  refine ⟨o37, ?_⟩
  obtain ⟨a38, e38, h⟩ := h
  refine ⟨a38, e38, ?_⟩
  obtain ⟨o39, h⟩ := h
  refine ⟨o39, ?_⟩
  obtain ⟨o40, h⟩ := h
  refine ⟨o40, ?_⟩
  intro x41 q41
  have h := h x41 q41
  replace q41 := q41.trans (mwk (j := 3) e38)
  refine cm_X11_inTime (sp_X11_inTime he e3 ⟨by omega, by omega⟩ h) h (fun yy S1 hp h g => ?_)
  have h := h g
  obtain ⟨-, hS, hy⟩ := hp
  subst hS
  intro x42 q42
  have h := h x42 q42
  intro x43 q43
  have h := h x43 q43
  refine h ⟨rfl, rfl, rfl, rfl, rfl, rfl, rfl, rfl, k + 1, by omega, ?_, ?_⟩
  · rw [q43, e9]
    exact nI_add k 1
  · rw [q42, q35, e7, hz, hy, q34, q41, hk9]
    rfl
theorem tl_X9_first {r w1 w2 l b0 b1 : Nat} (hI : IV S) (J : CJ c r w1 w2 S) (hc : Cnt w1 A S) (ct : CtB w1 A G S S) (ab : ABd A) (gb : GBd A G) (lg : LG c l b0 b1 S) (h : P_X9_first c v1 v2 v3 v4 v5 v6 Q S) : P_X9_first c v1 v2 v3 v4 v5 v6 (fun x T => Q x T ∧ x = tellfirst A G v1 v2 v3 v4 v5 v6) S := by
  have ow1 := J.2.2.2.2.2.1
  have oc := J.2.2.2.1
  unfold tellfirst
  delta P_X9_first P_X9_first_0
  obtain ⟨o73, h⟩ := h
  refine ⟨o73, ?_⟩
  refine cm_X9_leeTrouble (sp_X9_leeTrouble hI J hc ct ab gb h) h (fun xt S1 hp h g => ?_)
  have h := h g
  obtain ⟨-, hS, ht⟩ := hp
  subst hS
  refine cm_X9_refusedBy (sp_X9_refusedBy h) h (fun xr S1 hp h g bq => ?_)
  have h := h g bq
  obtain ⟨-, hS, hr⟩ := hp
  subst hS
  refine Iff.mp and_comm ⟨fun cn => ⟨h.2 cn, ?_⟩, fun cn => ?_⟩
  · rw [dc_n (fun z => an1 hr cn (ht.trans z))]
  have h0 : leN A G v1 v2 v3 v4 v5 v6 = 0 := Classical.byContradiction (fun z => an0 hr cn (by rw [ht]; exact z))
  have h := h.1 cn
  rw [dc_y h0]
  rw [ht, h0] at h
  rw [ht, h0]
  obtain ⟨okb, okl, spb⟩ := leN_0 h0
  obtain ⟨ok, sp⟩ := lgN_0 okl
  obtain ⟨i1, i2, i4, bn, bd, bw⟩ := ok_ix ab gb ok
  obtain ⟨s1, s9, sv⟩ := ok_v bw sp
  have j1 := ix_lt (by have := ab.2.2.2.2.1; omega) okb
  have bw2 := gb.2.2.2 _ j1
  obtain ⟨a74, e74, h⟩ := h
  refine ⟨a74, e74, ?_⟩
  cases (lg.1).symm.trans e74
  obtain ⟨a75, e75, h⟩ := h
  refine ⟨a75, e75, ?_⟩
  cases (J.1).symm.trans e75
  obtain ⟨o76, h⟩ := h
  refine ⟨o76, ?_⟩
  obtain ⟨a77, e77, h⟩ := h
  refine ⟨a77, e77, ?_⟩
  obtain ⟨o78, h⟩ := h
  refine ⟨o78, ?_⟩
  obtain ⟨o79, h⟩ := h
  refine ⟨o79, ?_⟩
  obtain ⟨a80, e80, h⟩ := h
  refine ⟨a80, e80, ?_⟩
  obtain ⟨krd, rrd, trd⟩ := rd_at (z := 0) hI ow1 oc ct ab e77 i2 e80
  obtain ⟨a81, e81, h⟩ := h
  refine ⟨a81, e81, ?_⟩
  cases (J.1).symm.trans e81
  obtain ⟨o82, h⟩ := h
  refine ⟨o82, ?_⟩
  obtain ⟨a83, e83, h⟩ := h
  refine ⟨a83, e83, ?_⟩
  obtain ⟨o84, h⟩ := h
  refine ⟨o84, ?_⟩
  obtain ⟨o85, h⟩ := h
  refine ⟨o85, ?_⟩
  obtain ⟨a86, e86, h⟩ := h
  refine ⟨a86, e86, ?_⟩
  obtain ⟨krn, rrn, trn⟩ := rn_at (z := 0) hI ow1 oc ct ab e83 i4 e86
  obtain ⟨o87, h⟩ := h
  refine ⟨o87, ?_⟩
  refine cm_X1_lay (sp_X1_lay (S := sI S c 9 0) sv lg.2.2.2.1 h) h (fun S1 hp h g => ?_)
  have h := h g
  obtain ⟨-, ff, hS, -, hf⟩ := hp
  subst hS
  have hly : ∀ k, k < 5 → ff b1 k = lyS (gRn G v5.toNatClampNeg) (gRd G v3.toNatClampNeg) v4 v6 k := fun k hk => by rw [hf k hk, lyS_c trn trd]
  obtain ⟨a88, e88, h⟩ := h
  refine ⟨a88, e88, ?_⟩
  cases (lg.1).symm.trans e88
  obtain ⟨a89, e89, h⟩ := h
  refine ⟨a89, e89, ?_⟩
  cases (J.1).symm.trans e89
  obtain ⟨o90, h⟩ := h
  refine ⟨o90, ?_⟩
  obtain ⟨a91, e91, h⟩ := h
  refine ⟨a91, e91, ?_⟩
  obtain ⟨o92, h⟩ := h
  refine ⟨o92, ?_⟩
  obtain ⟨o93, h⟩ := h
  refine ⟨o93, ?_⟩
  obtain ⟨a94, e94, h⟩ := h
  refine ⟨a94, e94, ?_⟩
  obtain ⟨-, -, twa⟩ := wk_at (z := 0) hI ow1 oc ct ab e91 i1 e94
  obtain ⟨a95, e95, h⟩ := h
  refine ⟨a95, e95, ?_⟩
  cases (J.1).symm.trans e95
  obtain ⟨o96, h⟩ := h
  refine ⟨o96, ?_⟩
  obtain ⟨a97, e97, h⟩ := h
  refine ⟨a97, e97, ?_⟩
  obtain ⟨o98, h⟩ := h
  refine ⟨o98, ?_⟩
  obtain ⟨o99, h⟩ := h
  refine ⟨o99, ?_⟩
  obtain ⟨a100, e100, h⟩ := h
  refine ⟨a100, e100, ?_⟩
  obtain ⟨-, -, twb⟩ := wk_at (z := 0) hI ow1 oc ct ab e97 j1 e100
  obtain ⟨o101, h⟩ := h
  refine ⟨o101, ?_⟩
  refine cm_X1_wetInLee (sp_X1_wetInLee (S := wJ (sI S c 9 0) ff) lg.2.2.1 lg.2.2.2.1 lg.2.2.2.2 h) h (fun zz S1 hp h g => ?_)
  have h := h g
  obtain ⟨-, f2, hS, h2, hz⟩ := hp
  subst hS
  have hz : zz = gT G v1 v2 v3 v4 v5 v6 := hz.trans ((ljJ_c (st := ff b1) hly twa twb).trans (lee_eq (u := v4) bn bd bw bw2 s1 s9).1)
  replace h2 : f2 b1 = ff b1 := h2
  obtain ⟨a102, e102, h⟩ := h
  refine ⟨a102, e102, ?_⟩
  cases (lg.1).symm.trans e102
  obtain ⟨a103, e103, h⟩ := h
  refine ⟨a103, e103, ?_⟩
  cases (J.1).symm.trans e103
  obtain ⟨o104, h⟩ := h
  refine ⟨o104, ?_⟩
  obtain ⟨a105, e105, h⟩ := h
  refine ⟨a105, e105, ?_⟩
  cases (e97).symm.trans e105
  obtain ⟨o106, h⟩ := h
  refine ⟨o106, ?_⟩
  obtain ⟨o107, h⟩ := h
  refine ⟨o107, ?_⟩
  obtain ⟨a108, e108, h⟩ := h
  refine ⟨a108, e108, ?_⟩
  cases (e100).symm.trans e108
  obtain ⟨a109, e109, h⟩ := h
  refine ⟨a109, e109, ?_⟩
  cases (J.1).symm.trans e109
  obtain ⟨o110, h⟩ := h
  refine ⟨o110, ?_⟩
  obtain ⟨a111, e111, h⟩ := h
  refine ⟨a111, e111, ?_⟩
  cases (e91).symm.trans e111
  obtain ⟨o112, h⟩ := h
  refine ⟨o112, ?_⟩
  obtain ⟨o113, h⟩ := h
  refine ⟨o113, ?_⟩
  obtain ⟨a114, e114, h⟩ := h
  refine ⟨a114, e114, ?_⟩
  cases (e94).symm.trans e114
  obtain ⟨o115, h⟩ := h
  refine ⟨o115, ?_⟩
  refine cm_X1_wetInLee (sp_X1_wetInLee (S := wJ (sI S c 9 0) f2) lg.2.2.1 lg.2.2.2.1 lg.2.2.2.2 h) h (fun yy S1 hp h g => ?_)
  have h := h g
  obtain ⟨-, f3, hS, -, hy⟩ := hp
  subst hS
  have hy : yy = gT G v2 v1 v3 v4 v5 v6 := hy.trans ((ljJ_c (st := f2 b1) (fun k hk => by rw [h2]; exact hly k hk) twb twa).trans (lee_eq (u := v4) bn bd bw2 bw s1 s9).1)
  rw [hz, hy] at h
  rw [hz, hy]
  refine Iff.mp and_comm ⟨fun c1 => ⟨h.2 c1, by rw [dc_y (lgc_eq.mp c1)]⟩, fun c1 => ?_⟩
  have h := h.1 c1
  rw [dc_n (fun z => c1 (lgc_eq.mpr z))]
  exact ⟨fun c2 => ⟨h.1 c2, by rw [dc_n (fun z => (lgc_ge.mpr z) c2)]⟩, fun c2 => ⟨h.2 c2, by rw [dc_y (lgc_ge.mp c2)]⟩⟩
theorem tl_X11_first (hI : IV S) (hm : (fR S m 3 = none ∧ A = A00) ∨ ∃ rd, WRm m rd A G S) (ab : ABd A) (gb : GBd A G) (h : P_X11_first m v1 v2 v3 v4 v5 v6 Q S) : P_X11_first m v1 v2 v3 v4 v5 v6 (fun x T => Q x T ∧ x = tellfirst A G v1 v2 v3 v4 v5 v6) S := by
  have gd : ∀ z e T, tellfirst A G v1 v2 v3 v4 v5 v6 = e → P_X11_first_89 Q z e T → P_X11_first_89 (fun x T => Q x T ∧ x = tellfirst A G v1 v2 v3 v4 v5 v6) z e T := fun z e T ee h => by
    delta P_X11_first_89
    obtain ⟨o116, h⟩ := h
    refine ⟨o116, ?_⟩
    exact cm_X11_good (sp_X11_good h) h (fun x U hp h g => ⟨h g, by rw [hp.2.1, ee]⟩)
  delta P_X11_first P_X11_first_0
  obtain ⟨om, h⟩ := h
  refine ⟨om, ?_⟩
  intro S1 eS1
  have h := h S1 eS1
  have hm1 := hm_0 hm om eS1
  have hE := m_start hI eS1
  refine cm_X11_refusesTwo (sp_X11_refusesTwo hm1 ab hE h) h (fun xt S2 hp h g => ?_)
  have h := h g
  obtain ⟨-, hS, ht⟩ := hp
  subst hS
  refine Iff.mp and_comm ⟨fun cn => ?_, fun cn => ?_⟩
  · have h := h.2 cn
    exact cm_X11_refused (sp_X11_refused h) h (fun x U hp h g => ⟨h g, by unfold tellfirst; rw [dc_n (fun z => cn (by rw [ht, z]; decide)), hp.2.1]⟩)
  have h := h.1 cn
  have h0 := le_le (by rw [← ht]; exact cn)
  obtain ⟨okb, okl, spb⟩ := leN_0 h0
  obtain ⟨ok, sp⟩ := lgN_0 okl
  obtain ⟨i1, i2, i4, bn, bd, bw⟩ := ok_ix ab gb ok
  obtain ⟨s1, s9, sv⟩ := ok_v bw sp
  have j1 := ix_lt (by have := ab.2.2.2.2.1; omega) okb
  have bw2 := gb.2.2.2 _ j1
  obtain ⟨rd, hr⟩ := hm_ok hm1 ok
  have he := fun i => hE rd i hr.2.1
  obtain ⟨mn, md, mw⟩ := m_rows he hr i1 i2 i4
  have mw2 := (m_rows he hr j1 i2 i4).2.2
  refine cm_X11_together (sp_X11_together he hr.1 h) h (fun zz S2 hp h g => ?_)
  have h := h g
  obtain ⟨-, hS, hz⟩ := hp
  subst hS
  rw [tgM_c mn md mw mw2] at hz
  replace hz : zz = gT G v1 v2 v3 v4 v5 v6 := hz
  refine cm_X11_together (sp_X11_together he hr.1 h) h (fun yy S2 hp h g => ?_)
  have h := h g
  obtain ⟨-, hS, hy⟩ := hp
  subst hS
  rw [tgM_c mn md mw2 mw] at hy
  replace hy : yy = gT G v2 v1 v3 v4 v5 v6 := hy
  rw [hz, hy] at h
  rw [hz, hy]
  refine ⟨fun c1 => ?_, fun c1 => gd _ _ _ ?_ (h.2 c1)⟩
  · have h := h.1 c1
    have n1 : ¬ (gT G v1 v2 v3 v4 v5 v6).toInt < (gT G v2 v1 v3 v4 v5 v6).toInt := fun z => (lgc_ge.mpr z) c1
    refine ⟨fun c2 => gd _ _ _ ?_ (h.1 c2), fun c2 => gd _ _ _ ?_ (h.2 c2)⟩
    · have n2 : ¬ (gT G v2 v1 v3 v4 v5 v6).toInt < (gT G v1 v2 v3 v4 v5 v6).toInt := fun z => (lgc_ge.mpr z) c2
      unfold tellfirst
      rw [dc_y h0, dc_y (Int64.toInt_inj.mp (by omega))]
    · have n2 := lgc_ge.mp c2
      unfold tellfirst
      rw [dc_y h0, dc_n (fun z => by have := congrArg Int64.toInt z; omega), dc_n n1]
  · have n1 := lgc_ge.mp c1
    unfold tellfirst
    rw [dc_y h0, dc_n (fun z => by have := congrArg Int64.toInt z; omega), dc_y n1]
end C37
/-! the class's leg keeps its two rows -/
def LGx (c : Nat) (S : HS) : Prop := ∃ l b0 b1, LG c l b0 b1 S
section C38
variable {c m a3 : Nat} {S T U : HS} {wi wr : List (Nat × Nat)}
theorem lg_keep (oc : ob S c 9) (h : LGx c S) (g : Gr S T) (F : FRI wi wr S T) (h4 : (9, 4) ∉ wr) (h0 : (1, 0) ∉ wr) (h1 : (1, 1) ∉ wr) : LGx c T := by
  obtain ⟨l, b0, b1, e1, e2, e3, e4, e5⟩ := h
  exact ⟨l, b0, b1, (F.2 9 4 (by decide) h4 c oc).trans e1, gr_ob g e2, (F.2 1 0 (by decide) h0 l e2).trans e3, (F.2 1 1 (by decide) h1 l e2).trans e4, e5⟩
theorem lg_start {F : List (Nat × Nat × Nat)} {g : Nat → Int32} (hI : IV S) (oc : ob S c 9) (u : UZ S) (hf : m ∉ hL S) (bx : BX (nW S m 11 0) T m F g) (ha : a3 ∉ hL T) (e5 : U = nW T a3 14 1) : LGx c U := by
  have gn : Gr S (nW S m 11 0) := gr_of_new rfl hf
  have gT : Gr S T := gr_tr gn bx.1
  have gU : Gr T U := gr_of_new e5 ha
  have g : Gr S U := gr_tr gT gU
  have row : ∀ x, x ∈ hL S → fR U x = fR S x := fun x hx => by
    have xm : x ≠ m := fun z => hf (z ▸ hx)
    have xa : x ≠ a3 := fun z => ha (z ▸ (gT x hx).1)
    have q := bx.2.1 x (gn x hx).1 xm
    rw [e5]
    exact (va_up_ne _ _ xa).trans (q.2.2.trans (va_up_ne _ _ xm))
  obtain ⟨l, e1, o1, -⟩ := hI.1 (9, 4, 1, 0) (by decide) c oc
  obtain ⟨b0, k0, -, -⟩ := hI.1 (1, 0, 14, 5) (by decide) l o1
  obtain ⟨b1, k1, -, -⟩ := hI.1 (1, 1, 14, 5) (by decide) l o1
  refine ⟨l, b0, b1, by rw [row c oc.1]; exact e1, gr_ob g o1, by rw [row l o1.1]; exact k0, by rw [row l o1.1]; exact k1, fun z => ?_⟩
  exact absurd (u.1.2 l 0 l 1 b0 k0 (z ▸ k1)).2 (by decide)
end C38
end
section
theorem mz_X11_air {v0 : Nat} {v1 : Int32} {v2 : Int32} {v3 : Int32} {Q : Int32 → HS → Prop} {S : HS} (hI : IV S) (o_v0 : ob S v0 11)  (hq : ∀ (r : Int32) (T : HS), IV T → Gr S T → FRI [(11, 0), (11, 1), (11, 2)] [] S T → K2 S T → (NFq 11 2 c11 v0 T) → (K7 S T ∧ K8 S T) → Q r T) : P_X11_air v0 v1 v2 v3 Q S := cm_X11_air (cm_X11_air (Q3 := fun r T => (IV T ∧ Gr S T ∧ (FRI [(11, 0), (11, 1), (11, 2)] [] S T) ∧ K2 S T ∧ ((NFq 11 2 c11 v0 T))) ∧ K7 S T ∧ K8 S T) (kw_X11_air (mn_X11_air (Q := fun r T => IV T ∧ Gr S T ∧ (FRI [(11, 0), (11, 1), (11, 2)] [] S T) ∧ K2 S T ∧ ((NFq 11 2 c11 v0 T))) hI o_v0 (fun r T h0 h1 h2 h3 h4 => ⟨h0, h1, h2, h3, h4⟩))) (kx_X11_air (mn_X11_air (Q := fun r T => IV T ∧ Gr S T ∧ (FRI [(11, 0), (11, 1), (11, 2)] [] S T) ∧ K2 S T ∧ ((NFq 11 2 c11 v0 T))) hI o_v0 (fun r T h0 h1 h2 h3 h4 => ⟨h0, h1, h2, h3, h4⟩))) (fun r T a b => ⟨a.1, a.2, b.2⟩)) (mn_X11_air (Q := fun r T => IV T ∧ Gr S T ∧ (FRI [(11, 0), (11, 1), (11, 2)] [] S T) ∧ K2 S T ∧ ((NFq 11 2 c11 v0 T))) hI o_v0 (fun r T h0 h1 h2 h3 h4 => ⟨h0, h1, h2, h3, h4⟩)) (fun r T h _ => hq r T h.1.1 h.1.2.1 h.1.2.2.1 h.1.2.2.2.1 h.1.2.2.2.2 h.2)
theorem mz_X11_back {v0 : Nat} {v1 : Int32} {Q : Int32 → HS → Prop} {S : HS} (hI : IV S) (o_v0 : ob S v0 11)  (hq : ∀ (r : Int32) (T : HS), IV T → Gr S T → FRI [(11, 0), (11, 1), (11, 2), (11, 24)] [] S T → bl r → K2 S T → (NFq 11 2 c11 v0 T) → (K7 S T ∧ K8 S T) → Q r T) : P_X11_back v0 v1 Q S := cm_X11_back (cm_X11_back (Q3 := fun r T => (IV T ∧ Gr S T ∧ (FRI [(11, 0), (11, 1), (11, 2), (11, 24)] [] S T) ∧ bl r ∧ K2 S T ∧ ((NFq 11 2 c11 v0 T))) ∧ K7 S T ∧ K8 S T) (kw_X11_back (mn_X11_back (Q := fun r T => IV T ∧ Gr S T ∧ (FRI [(11, 0), (11, 1), (11, 2), (11, 24)] [] S T) ∧ bl r ∧ K2 S T ∧ ((NFq 11 2 c11 v0 T))) hI o_v0 (fun r T h0 h1 h2 h3 h4 h5 => ⟨h0, h1, h2, h3, h4, h5⟩))) (kx_X11_back (mn_X11_back (Q := fun r T => IV T ∧ Gr S T ∧ (FRI [(11, 0), (11, 1), (11, 2), (11, 24)] [] S T) ∧ bl r ∧ K2 S T ∧ ((NFq 11 2 c11 v0 T))) hI o_v0 (fun r T h0 h1 h2 h3 h4 h5 => ⟨h0, h1, h2, h3, h4, h5⟩))) (fun r T a b => ⟨a.1, a.2, b.2⟩)) (mn_X11_back (Q := fun r T => IV T ∧ Gr S T ∧ (FRI [(11, 0), (11, 1), (11, 2), (11, 24)] [] S T) ∧ bl r ∧ K2 S T ∧ ((NFq 11 2 c11 v0 T))) hI o_v0 (fun r T h0 h1 h2 h3 h4 h5 => ⟨h0, h1, h2, h3, h4, h5⟩)) (fun r T h _ => hq r T h.1.1 h.1.2.1 h.1.2.2.1 h.1.2.2.2.1 h.1.2.2.2.2.1 h.1.2.2.2.2.2 h.2)
theorem mz_X11_best {v0 : Nat} {v1 : Int32} {v2 : Int32} {v3 : Int32} {v4 : Int32} {Q : Int32 → HS → Prop} {S : HS} (hI : IV S) (o_v0 : ob S v0 11)  (hq : ∀ (r : Int32) (T : HS), IV T → Gr S T → FRI [(11, 0), (11, 1), (11, 2)] [] S T → K2 S T → (NFq 11 2 c11 v0 T) → (K7 S T ∧ K8 S T) → Q r T) : P_X11_best v0 v1 v2 v3 v4 Q S := cm_X11_best (cm_X11_best (Q3 := fun r T => (IV T ∧ Gr S T ∧ (FRI [(11, 0), (11, 1), (11, 2)] [] S T) ∧ K2 S T ∧ ((NFq 11 2 c11 v0 T))) ∧ K7 S T ∧ K8 S T) (kw_X11_best (mn_X11_best (Q := fun r T => IV T ∧ Gr S T ∧ (FRI [(11, 0), (11, 1), (11, 2)] [] S T) ∧ K2 S T ∧ ((NFq 11 2 c11 v0 T))) hI o_v0 (fun r T h0 h1 h2 h3 h4 => ⟨h0, h1, h2, h3, h4⟩))) (kx_X11_best (mn_X11_best (Q := fun r T => IV T ∧ Gr S T ∧ (FRI [(11, 0), (11, 1), (11, 2)] [] S T) ∧ K2 S T ∧ ((NFq 11 2 c11 v0 T))) hI o_v0 (fun r T h0 h1 h2 h3 h4 => ⟨h0, h1, h2, h3, h4⟩))) (fun r T a b => ⟨a.1, a.2, b.2⟩)) (mn_X11_best (Q := fun r T => IV T ∧ Gr S T ∧ (FRI [(11, 0), (11, 1), (11, 2)] [] S T) ∧ K2 S T ∧ ((NFq 11 2 c11 v0 T))) hI o_v0 (fun r T h0 h1 h2 h3 h4 => ⟨h0, h1, h2, h3, h4⟩)) (fun r T h _ => hq r T h.1.1 h.1.2.1 h.1.2.2.1 h.1.2.2.2.1 h.1.2.2.2.2 h.2)
theorem mz_X11_day {v0 : Nat} {v1 : Int32} {v2 : Int32} {v3 : Int32} {v4 : Int32} {Q : Int32 → HS → Prop} {S : HS} (hI : IV S) (o_v0 : ob S v0 11)  (hq : ∀ (r : Int32) (T : HS), IV T → Gr S T → FRI [(11, 0), (11, 1), (11, 2), (11, 19), (11, 20), (11, 24), (11, 25)] [] S T → K2 S T → (NFq 11 2 c11 v0 T) → (K7 S T ∧ K8 S T) → Q r T) : P_X11_day v0 v1 v2 v3 v4 Q S := cm_X11_day (cm_X11_day (Q3 := fun r T => (IV T ∧ Gr S T ∧ (FRI [(11, 0), (11, 1), (11, 2), (11, 19), (11, 20), (11, 24), (11, 25)] [] S T) ∧ K2 S T ∧ ((NFq 11 2 c11 v0 T))) ∧ K7 S T ∧ K8 S T) (kw_X11_day (mn_X11_day (Q := fun r T => IV T ∧ Gr S T ∧ (FRI [(11, 0), (11, 1), (11, 2), (11, 19), (11, 20), (11, 24), (11, 25)] [] S T) ∧ K2 S T ∧ ((NFq 11 2 c11 v0 T))) hI o_v0 (fun r T h0 h1 h2 h3 h4 => ⟨h0, h1, h2, h3, h4⟩))) (kx_X11_day (mn_X11_day (Q := fun r T => IV T ∧ Gr S T ∧ (FRI [(11, 0), (11, 1), (11, 2), (11, 19), (11, 20), (11, 24), (11, 25)] [] S T) ∧ K2 S T ∧ ((NFq 11 2 c11 v0 T))) hI o_v0 (fun r T h0 h1 h2 h3 h4 => ⟨h0, h1, h2, h3, h4⟩))) (fun r T a b => ⟨a.1, a.2, b.2⟩)) (mn_X11_day (Q := fun r T => IV T ∧ Gr S T ∧ (FRI [(11, 0), (11, 1), (11, 2), (11, 19), (11, 20), (11, 24), (11, 25)] [] S T) ∧ K2 S T ∧ ((NFq 11 2 c11 v0 T))) hI o_v0 (fun r T h0 h1 h2 h3 h4 => ⟨h0, h1, h2, h3, h4⟩)) (fun r T h _ => hq r T h.1.1 h.1.2.1 h.1.2.2.1 h.1.2.2.2.1 h.1.2.2.2.2 h.2)
theorem mz_X11_driest {v0 : Nat} {v1 : Int32} {v2 : Int32} {v3 : Int32} {Q : Int32 → HS → Prop} {S : HS} (hI : IV S) (o_v0 : ob S v0 11)  (hq : ∀ (r : Int32) (T : HS), IV T → Gr S T → FRI [(11, 0), (11, 1), (11, 2)] [] S T → K2 S T → (NFq 11 2 c11 v0 T) → (K7 S T ∧ K8 S T) → Q r T) : P_X11_driest v0 v1 v2 v3 Q S := cm_X11_driest (cm_X11_driest (Q3 := fun r T => (IV T ∧ Gr S T ∧ (FRI [(11, 0), (11, 1), (11, 2)] [] S T) ∧ K2 S T ∧ ((NFq 11 2 c11 v0 T))) ∧ K7 S T ∧ K8 S T) (kw_X11_driest (mn_X11_driest (Q := fun r T => IV T ∧ Gr S T ∧ (FRI [(11, 0), (11, 1), (11, 2)] [] S T) ∧ K2 S T ∧ ((NFq 11 2 c11 v0 T))) hI o_v0 (fun r T h0 h1 h2 h3 h4 => ⟨h0, h1, h2, h3, h4⟩))) (kx_X11_driest (mn_X11_driest (Q := fun r T => IV T ∧ Gr S T ∧ (FRI [(11, 0), (11, 1), (11, 2)] [] S T) ∧ K2 S T ∧ ((NFq 11 2 c11 v0 T))) hI o_v0 (fun r T h0 h1 h2 h3 h4 => ⟨h0, h1, h2, h3, h4⟩))) (fun r T a b => ⟨a.1, a.2, b.2⟩)) (mn_X11_driest (Q := fun r T => IV T ∧ Gr S T ∧ (FRI [(11, 0), (11, 1), (11, 2)] [] S T) ∧ K2 S T ∧ ((NFq 11 2 c11 v0 T))) hI o_v0 (fun r T h0 h1 h2 h3 h4 => ⟨h0, h1, h2, h3, h4⟩)) (fun r T h _ => hq r T h.1.1 h.1.2.1 h.1.2.2.1 h.1.2.2.2.1 h.1.2.2.2.2 h.2)
theorem mz_X11_even {v0 : Nat} {v1 : Int32} {v2 : Int32} {v3 : Int32} {v4 : Int32} {Q : Int32 → HS → Prop} {S : HS} (hI : IV S) (o_v0 : ob S v0 11)  (hq : ∀ (r : Int32) (T : HS), IV T → Gr S T → FRI [(11, 0), (11, 1), (11, 2)] [] S T → K2 S T → (NFq 11 2 c11 v0 T) → (K7 S T ∧ K8 S T) → Q r T) : P_X11_even v0 v1 v2 v3 v4 Q S := cm_X11_even (cm_X11_even (Q3 := fun r T => (IV T ∧ Gr S T ∧ (FRI [(11, 0), (11, 1), (11, 2)] [] S T) ∧ K2 S T ∧ ((NFq 11 2 c11 v0 T))) ∧ K7 S T ∧ K8 S T) (kw_X11_even (mn_X11_even (Q := fun r T => IV T ∧ Gr S T ∧ (FRI [(11, 0), (11, 1), (11, 2)] [] S T) ∧ K2 S T ∧ ((NFq 11 2 c11 v0 T))) hI o_v0 (fun r T h0 h1 h2 h3 h4 => ⟨h0, h1, h2, h3, h4⟩))) (kx_X11_even (mn_X11_even (Q := fun r T => IV T ∧ Gr S T ∧ (FRI [(11, 0), (11, 1), (11, 2)] [] S T) ∧ K2 S T ∧ ((NFq 11 2 c11 v0 T))) hI o_v0 (fun r T h0 h1 h2 h3 h4 => ⟨h0, h1, h2, h3, h4⟩))) (fun r T a b => ⟨a.1, a.2, b.2⟩)) (mn_X11_even (Q := fun r T => IV T ∧ Gr S T ∧ (FRI [(11, 0), (11, 1), (11, 2)] [] S T) ∧ K2 S T ∧ ((NFq 11 2 c11 v0 T))) hI o_v0 (fun r T h0 h1 h2 h3 h4 => ⟨h0, h1, h2, h3, h4⟩)) (fun r T h _ => hq r T h.1.1 h.1.2.1 h.1.2.2.1 h.1.2.2.2.1 h.1.2.2.2.2 h.2)
theorem mz_X11_face {v0 : Nat} {v1 : Int32} {v2 : Int32} {v3 : Int32} {v4 : Int32} {v5 : Int32} {v6 : Int32} {v7 : Int32} {Q : Int64 → HS → Prop} {S : HS} (hI : IV S) (o_v0 : ob S v0 11)  (hq : ∀ (r : Int64) (T : HS), IV T → Gr S T → FRI [(11, 0), (11, 1), (11, 2)] [] S T → K2 S T → (NFq 11 2 c11 v0 T) → (K7 S T ∧ K8 S T) → Q r T) : P_X11_face v0 v1 v2 v3 v4 v5 v6 v7 Q S := cm_X11_face (cm_X11_face (Q3 := fun r T => (IV T ∧ Gr S T ∧ (FRI [(11, 0), (11, 1), (11, 2)] [] S T) ∧ K2 S T ∧ ((NFq 11 2 c11 v0 T))) ∧ K7 S T ∧ K8 S T) (kw_X11_face (mn_X11_face (Q := fun r T => IV T ∧ Gr S T ∧ (FRI [(11, 0), (11, 1), (11, 2)] [] S T) ∧ K2 S T ∧ ((NFq 11 2 c11 v0 T))) hI o_v0 (fun r T h0 h1 h2 h3 h4 => ⟨h0, h1, h2, h3, h4⟩))) (kx_X11_face (mn_X11_face (Q := fun r T => IV T ∧ Gr S T ∧ (FRI [(11, 0), (11, 1), (11, 2)] [] S T) ∧ K2 S T ∧ ((NFq 11 2 c11 v0 T))) hI o_v0 (fun r T h0 h1 h2 h3 h4 => ⟨h0, h1, h2, h3, h4⟩))) (fun r T a b => ⟨a.1, a.2, b.2⟩)) (mn_X11_face (Q := fun r T => IV T ∧ Gr S T ∧ (FRI [(11, 0), (11, 1), (11, 2)] [] S T) ∧ K2 S T ∧ ((NFq 11 2 c11 v0 T))) hI o_v0 (fun r T h0 h1 h2 h3 h4 => ⟨h0, h1, h2, h3, h4⟩)) (fun r T h _ => hq r T h.1.1 h.1.2.1 h.1.2.2.1 h.1.2.2.2.1 h.1.2.2.2.2 h.2)
theorem mz_X11_fault {v0 : Nat} {Q : Int32 → HS → Prop} {S : HS} (hI : IV S) (o_v0 : ob S v0 11)  (hq : ∀ (r : Int32) (T : HS), IV T → Gr S T → FRI [(11, 0)] [] S T → K2 S T → (r = fI S v0 13) → (K7 S T ∧ K8 S T) → Q r T) : P_X11_fault v0 Q S := cm_X11_fault (cm_X11_fault (Q3 := fun r T => (IV T ∧ Gr S T ∧ (FRI [(11, 0)] [] S T) ∧ K2 S T ∧ ((r = fI S v0 13))) ∧ K7 S T ∧ K8 S T) (kw_X11_fault (mv_X11_fault (Q := fun r T => IV T ∧ Gr S T ∧ (FRI [(11, 0)] [] S T) ∧ K2 S T ∧ ((r = fI S v0 13))) hI o_v0 (fun r T h0 h1 h2 h3 h4 => ⟨h0, h1, h2, h3, h4⟩))) (kx_X11_fault (mv_X11_fault (Q := fun r T => IV T ∧ Gr S T ∧ (FRI [(11, 0)] [] S T) ∧ K2 S T ∧ ((r = fI S v0 13))) hI o_v0 (fun r T h0 h1 h2 h3 h4 => ⟨h0, h1, h2, h3, h4⟩))) (fun r T a b => ⟨a.1, a.2, b.2⟩)) (mv_X11_fault (Q := fun r T => IV T ∧ Gr S T ∧ (FRI [(11, 0)] [] S T) ∧ K2 S T ∧ ((r = fI S v0 13))) hI o_v0 (fun r T h0 h1 h2 h3 h4 => ⟨h0, h1, h2, h3, h4⟩)) (fun r T h _ => hq r T h.1.1 h.1.2.1 h.1.2.2.1 h.1.2.2.2.1 h.1.2.2.2.2 h.2)
theorem mz_X11_feed {v0 : Nat} {v1 : Int32} {v2 : Int32} {v3 : Int32} {v4 : Int32} {v5 : Int32} {Q : Int32 → HS → Prop} {S : HS} (hI : IV S) (o_v0 : ob S v0 11) {f : Nat → Int32} {t a : Nat} (P : TP 5 6 f t a v0 S) (ht : t ≤ 900)  (hq : ∀ (r : Int32) (T : HS), IV T → Gr S T → FRI [(11, 0), (11, 6)] [] S T → ((900 < fI S v0 6 + 20 → r = -1 ∧ fI T v0 6 = fI S v0 6) ∧ (fI S v0 6 + 20 ≤ 900 → r = fI T v0 6 ∧ fI T v0 6 = fI S v0 6 + 20)) → (FT [0, 6] a v0 S T ∧ ((t + 20 ≤ 900 ∧ r = nI (t + 20) ∧ TP 5 6 (f20 f t v1 v2 v3 v4 v5) (t + 20) a v0 T) ∨ (900 < t + 20 ∧ r = -1 ∧ TP 5 6 (f20 f t v1 v2 v3 v4 v5) t a v0 T))) → (K7 S T ∧ K8 S T) → Q r T) : P_X11_feed v0 v1 v2 v3 v4 v5 Q S := cm_X11_feed (cm_X11_feed (Q3 := fun r T => (IV T ∧ Gr S T ∧ (FRI [(11, 0), (11, 6)] [] S T) ∧ (((900 < fI S v0 6 + 20 → r = -1 ∧ fI T v0 6 = fI S v0 6) ∧ (fI S v0 6 + 20 ≤ 900 → r = fI T v0 6 ∧ fI T v0 6 = fI S v0 6 + 20))) ∧ ((FT [0, 6] a v0 S T ∧ ((t + 20 ≤ 900 ∧ r = nI (t + 20) ∧ TP 5 6 (f20 f t v1 v2 v3 v4 v5) (t + 20) a v0 T) ∨ (900 < t + 20 ∧ r = -1 ∧ TP 5 6 (f20 f t v1 v2 v3 v4 v5) t a v0 T))))) ∧ K7 S T ∧ K8 S T) (kw_X11_feed (ml_X11_feed (Q := fun r T => IV T ∧ Gr S T ∧ (FRI [(11, 0), (11, 6)] [] S T) ∧ (((900 < fI S v0 6 + 20 → r = -1 ∧ fI T v0 6 = fI S v0 6) ∧ (fI S v0 6 + 20 ≤ 900 → r = fI T v0 6 ∧ fI T v0 6 = fI S v0 6 + 20))) ∧ ((FT [0, 6] a v0 S T ∧ ((t + 20 ≤ 900 ∧ r = nI (t + 20) ∧ TP 5 6 (f20 f t v1 v2 v3 v4 v5) (t + 20) a v0 T) ∨ (900 < t + 20 ∧ r = -1 ∧ TP 5 6 (f20 f t v1 v2 v3 v4 v5) t a v0 T))))) hI o_v0 P ht (fun r T h0 h1 h2 h3 h4 => ⟨h0, h1, h2, h3, h4⟩))) (kx_X11_feed (ml_X11_feed (Q := fun r T => IV T ∧ Gr S T ∧ (FRI [(11, 0), (11, 6)] [] S T) ∧ (((900 < fI S v0 6 + 20 → r = -1 ∧ fI T v0 6 = fI S v0 6) ∧ (fI S v0 6 + 20 ≤ 900 → r = fI T v0 6 ∧ fI T v0 6 = fI S v0 6 + 20))) ∧ ((FT [0, 6] a v0 S T ∧ ((t + 20 ≤ 900 ∧ r = nI (t + 20) ∧ TP 5 6 (f20 f t v1 v2 v3 v4 v5) (t + 20) a v0 T) ∨ (900 < t + 20 ∧ r = -1 ∧ TP 5 6 (f20 f t v1 v2 v3 v4 v5) t a v0 T))))) hI o_v0 P ht (fun r T h0 h1 h2 h3 h4 => ⟨h0, h1, h2, h3, h4⟩))) (fun r T a b => ⟨a.1, a.2, b.2⟩)) (ml_X11_feed (Q := fun r T => IV T ∧ Gr S T ∧ (FRI [(11, 0), (11, 6)] [] S T) ∧ (((900 < fI S v0 6 + 20 → r = -1 ∧ fI T v0 6 = fI S v0 6) ∧ (fI S v0 6 + 20 ≤ 900 → r = fI T v0 6 ∧ fI T v0 6 = fI S v0 6 + 20))) ∧ ((FT [0, 6] a v0 S T ∧ ((t + 20 ≤ 900 ∧ r = nI (t + 20) ∧ TP 5 6 (f20 f t v1 v2 v3 v4 v5) (t + 20) a v0 T) ∨ (900 < t + 20 ∧ r = -1 ∧ TP 5 6 (f20 f t v1 v2 v3 v4 v5) t a v0 T))))) hI o_v0 P ht (fun r T h0 h1 h2 h3 h4 => ⟨h0, h1, h2, h3, h4⟩)) (fun r T h _ => hq r T h.1.1 h.1.2.1 h.1.2.2.1 h.1.2.2.2.1 h.1.2.2.2.2 h.2)
theorem mt_X11_first {v0 : Nat} {v1 : Int32} {v2 : Int32} {v3 : Int32} {v4 : Int32} {v5 : Int32} {v6 : Int32} {Q : Int32 → HS → Prop} {S : HS} (hI : IV S) (o_v0 : ob S v0 11) {A : AS} {G : GC} (hm : (fR S v0 3 = none ∧ A = A00) ∨ ∃ rd, WRm v0 rd A G S) (ab : ABd A) (gb : GBd A G) (hq : ∀ (r : Int32) (T : HS), IV T → Gr S T → FRI [(11, 0), (11, 1), (11, 2)] [] S T → K2 S T → (NFq 11 2 c11 v0 T) → ((K7 S T ∧ K8 S T) ∧ r = tellfirst A G v1 v2 v3 v4 v5 v6) → Q r T) : P_X11_first v0 v1 v2 v3 v4 v5 v6 Q S := cm_X11_first (cm_X11_first (Q3 := fun r T => (IV T ∧ Gr S T ∧ (FRI [(11, 0), (11, 1), (11, 2)] [] S T) ∧ K2 S T ∧ ((NFq 11 2 c11 v0 T))) ∧ (K7 S T ∧ K8 S T) ∧ r = tellfirst A G v1 v2 v3 v4 v5 v6) (cm_X11_first (Q3 := fun r T => (IV T ∧ Gr S T ∧ (FRI [(11, 0), (11, 1), (11, 2)] [] S T) ∧ K2 S T ∧ ((NFq 11 2 c11 v0 T))) ∧ K7 S T ∧ K8 S T) (kw_X11_first (mn_X11_first (Q := fun r T => IV T ∧ Gr S T ∧ (FRI [(11, 0), (11, 1), (11, 2)] [] S T) ∧ K2 S T ∧ ((NFq 11 2 c11 v0 T))) hI o_v0 (fun r T h0 h1 h2 h3 h4 => ⟨h0, h1, h2, h3, h4⟩))) (kx_X11_first (mn_X11_first (Q := fun r T => IV T ∧ Gr S T ∧ (FRI [(11, 0), (11, 1), (11, 2)] [] S T) ∧ K2 S T ∧ ((NFq 11 2 c11 v0 T))) hI o_v0 (fun r T h0 h1 h2 h3 h4 => ⟨h0, h1, h2, h3, h4⟩))) (fun r T a b => ⟨a.1, a.2, b.2⟩)) (tl_X11_first hI hm ab gb (mn_X11_first (Q := fun r T => IV T ∧ Gr S T ∧ (FRI [(11, 0), (11, 1), (11, 2)] [] S T) ∧ K2 S T ∧ ((NFq 11 2 c11 v0 T))) hI o_v0 (fun r T h0 h1 h2 h3 h4 => ⟨h0, h1, h2, h3, h4⟩))) (fun r T a b => ⟨a.1, a.2, b.2⟩)) (mn_X11_first (Q := fun r T => IV T ∧ Gr S T ∧ (FRI [(11, 0), (11, 1), (11, 2)] [] S T) ∧ K2 S T ∧ ((NFq 11 2 c11 v0 T))) hI o_v0 (fun r T h0 h1 h2 h3 h4 => ⟨h0, h1, h2, h3, h4⟩)) (fun r T h _ => hq r T h.1.1 h.1.2.1 h.1.2.2.1 h.1.2.2.2.1 h.1.2.2.2.2 h.2)
theorem mz_X11_fit {v0 : Nat} {v1 : Int32} {v2 : Int32} {Q : Int32 → HS → Prop} {S : HS} (hI : IV S) (o_v0 : ob S v0 11)  (hq : ∀ (r : Int32) (T : HS), IV T → Gr S T → FRI [(11, 0), (11, 1), (11, 2)] [] S T → K2 S T → (NFq 11 2 c11 v0 T) → (K7 S T ∧ K8 S T) → Q r T) : P_X11_fit v0 v1 v2 Q S := cm_X11_fit (cm_X11_fit (Q3 := fun r T => (IV T ∧ Gr S T ∧ (FRI [(11, 0), (11, 1), (11, 2)] [] S T) ∧ K2 S T ∧ ((NFq 11 2 c11 v0 T))) ∧ K7 S T ∧ K8 S T) (kw_X11_fit (mn_X11_fit (Q := fun r T => IV T ∧ Gr S T ∧ (FRI [(11, 0), (11, 1), (11, 2)] [] S T) ∧ K2 S T ∧ ((NFq 11 2 c11 v0 T))) hI o_v0 (fun r T h0 h1 h2 h3 h4 => ⟨h0, h1, h2, h3, h4⟩))) (kx_X11_fit (mn_X11_fit (Q := fun r T => IV T ∧ Gr S T ∧ (FRI [(11, 0), (11, 1), (11, 2)] [] S T) ∧ K2 S T ∧ ((NFq 11 2 c11 v0 T))) hI o_v0 (fun r T h0 h1 h2 h3 h4 => ⟨h0, h1, h2, h3, h4⟩))) (fun r T a b => ⟨a.1, a.2, b.2⟩)) (mn_X11_fit (Q := fun r T => IV T ∧ Gr S T ∧ (FRI [(11, 0), (11, 1), (11, 2)] [] S T) ∧ K2 S T ∧ ((NFq 11 2 c11 v0 T))) hI o_v0 (fun r T h0 h1 h2 h3 h4 => ⟨h0, h1, h2, h3, h4⟩)) (fun r T h _ => hq r T h.1.1 h.1.2.1 h.1.2.2.1 h.1.2.2.2.1 h.1.2.2.2.2 h.2)
theorem mz_X11_fits {v0 : Nat} {v1 : Int32} {Q : Int32 → HS → Prop} {S : HS} (hI : IV S) (o_v0 : ob S v0 11)  (hq : ∀ (r : Int32) (T : HS), IV T → Gr S T → FRI [(11, 0), (11, 1), (11, 2)] [] S T → K2 S T → (NFq 11 2 c11 v0 T) → (K7 S T ∧ K8 S T) → Q r T) : P_X11_fits v0 v1 Q S := cm_X11_fits (cm_X11_fits (Q3 := fun r T => (IV T ∧ Gr S T ∧ (FRI [(11, 0), (11, 1), (11, 2)] [] S T) ∧ K2 S T ∧ ((NFq 11 2 c11 v0 T))) ∧ K7 S T ∧ K8 S T) (kw_X11_fits (mn_X11_fits (Q := fun r T => IV T ∧ Gr S T ∧ (FRI [(11, 0), (11, 1), (11, 2)] [] S T) ∧ K2 S T ∧ ((NFq 11 2 c11 v0 T))) hI o_v0 (fun r T h0 h1 h2 h3 h4 => ⟨h0, h1, h2, h3, h4⟩))) (kx_X11_fits (mn_X11_fits (Q := fun r T => IV T ∧ Gr S T ∧ (FRI [(11, 0), (11, 1), (11, 2)] [] S T) ∧ K2 S T ∧ ((NFq 11 2 c11 v0 T))) hI o_v0 (fun r T h0 h1 h2 h3 h4 => ⟨h0, h1, h2, h3, h4⟩))) (fun r T a b => ⟨a.1, a.2, b.2⟩)) (mn_X11_fits (Q := fun r T => IV T ∧ Gr S T ∧ (FRI [(11, 0), (11, 1), (11, 2)] [] S T) ∧ K2 S T ∧ ((NFq 11 2 c11 v0 T))) hI o_v0 (fun r T h0 h1 h2 h3 h4 => ⟨h0, h1, h2, h3, h4⟩)) (fun r T h _ => hq r T h.1.1 h.1.2.1 h.1.2.2.1 h.1.2.2.2.1 h.1.2.2.2.2 h.2)
theorem mz_X11_go {v0 : Nat} {v1 : Int32} {v2 : Int32} {v3 : Int32} {Q : Int32 → HS → Prop} {S : HS} (hI : IV S) (o_v0 : ob S v0 11)  (hq : ∀ (r : Int32) (T : HS), IV T → Gr S T → FRI [(11, 0), (11, 1), (11, 2), (11, 24)] [] S T → K2 S T → (NFq 11 2 c11 v0 T) → (K7 S T ∧ K8 S T) → Q r T) : P_X11_go v0 v1 v2 v3 Q S := cm_X11_go (cm_X11_go (Q3 := fun r T => (IV T ∧ Gr S T ∧ (FRI [(11, 0), (11, 1), (11, 2), (11, 24)] [] S T) ∧ K2 S T ∧ ((NFq 11 2 c11 v0 T))) ∧ K7 S T ∧ K8 S T) (kw_X11_go (mn_X11_go (Q := fun r T => IV T ∧ Gr S T ∧ (FRI [(11, 0), (11, 1), (11, 2), (11, 24)] [] S T) ∧ K2 S T ∧ ((NFq 11 2 c11 v0 T))) hI o_v0 (fun r T h0 h1 h2 h3 h4 => ⟨h0, h1, h2, h3, h4⟩))) (kx_X11_go (mn_X11_go (Q := fun r T => IV T ∧ Gr S T ∧ (FRI [(11, 0), (11, 1), (11, 2), (11, 24)] [] S T) ∧ K2 S T ∧ ((NFq 11 2 c11 v0 T))) hI o_v0 (fun r T h0 h1 h2 h3 h4 => ⟨h0, h1, h2, h3, h4⟩))) (fun r T a b => ⟨a.1, a.2, b.2⟩)) (mn_X11_go (Q := fun r T => IV T ∧ Gr S T ∧ (FRI [(11, 0), (11, 1), (11, 2), (11, 24)] [] S T) ∧ K2 S T ∧ ((NFq 11 2 c11 v0 T))) hI o_v0 (fun r T h0 h1 h2 h3 h4 => ⟨h0, h1, h2, h3, h4⟩)) (fun r T h _ => hq r T h.1.1 h.1.2.1 h.1.2.2.1 h.1.2.2.2.1 h.1.2.2.2.2 h.2)
theorem mz_X11_got {v0 : Nat} {v1 : Int32} {v2 : Int32} {Q : Int64 → HS → Prop} {S : HS} (hI : IV S) (o_v0 : ob S v0 11)  (hq : ∀ (r : Int64) (T : HS), IV T → Gr S T → FRI [(11, 0), (11, 1), (11, 2)] [] S T → K2 S T → (NFq 11 2 c11 v0 T) → (K7 S T ∧ K8 S T) → Q r T) : P_X11_got v0 v1 v2 Q S := cm_X11_got (cm_X11_got (Q3 := fun r T => (IV T ∧ Gr S T ∧ (FRI [(11, 0), (11, 1), (11, 2)] [] S T) ∧ K2 S T ∧ ((NFq 11 2 c11 v0 T))) ∧ K7 S T ∧ K8 S T) (kw_X11_got (mn_X11_got (Q := fun r T => IV T ∧ Gr S T ∧ (FRI [(11, 0), (11, 1), (11, 2)] [] S T) ∧ K2 S T ∧ ((NFq 11 2 c11 v0 T))) hI o_v0 (fun r T h0 h1 h2 h3 h4 => ⟨h0, h1, h2, h3, h4⟩))) (kx_X11_got (mn_X11_got (Q := fun r T => IV T ∧ Gr S T ∧ (FRI [(11, 0), (11, 1), (11, 2)] [] S T) ∧ K2 S T ∧ ((NFq 11 2 c11 v0 T))) hI o_v0 (fun r T h0 h1 h2 h3 h4 => ⟨h0, h1, h2, h3, h4⟩))) (fun r T a b => ⟨a.1, a.2, b.2⟩)) (mn_X11_got (Q := fun r T => IV T ∧ Gr S T ∧ (FRI [(11, 0), (11, 1), (11, 2)] [] S T) ∧ K2 S T ∧ ((NFq 11 2 c11 v0 T))) hI o_v0 (fun r T h0 h1 h2 h3 h4 => ⟨h0, h1, h2, h3, h4⟩)) (fun r T h _ => hq r T h.1.1 h.1.2.1 h.1.2.2.1 h.1.2.2.2.1 h.1.2.2.2.2 h.2)
theorem mz_X11_held {v0 : Nat} {v1 : Int32} {v2 : Int32} {v3 : Int32} {v4 : Int32} {v5 : Int32} {Q : Int32 → HS → Prop} {S : HS} (hI : IV S) (o_v0 : ob S v0 11)  (hq : ∀ (r : Int32) (T : HS), IV T → Gr S T → FRI [(11, 0), (11, 1), (11, 2)] [] S T → K2 S T → (NFq 11 2 c11 v0 T) → (K7 S T ∧ K8 S T) → Q r T) : P_X11_held v0 v1 v2 v3 v4 v5 Q S := cm_X11_held (cm_X11_held (Q3 := fun r T => (IV T ∧ Gr S T ∧ (FRI [(11, 0), (11, 1), (11, 2)] [] S T) ∧ K2 S T ∧ ((NFq 11 2 c11 v0 T))) ∧ K7 S T ∧ K8 S T) (kw_X11_held (mn_X11_held (Q := fun r T => IV T ∧ Gr S T ∧ (FRI [(11, 0), (11, 1), (11, 2)] [] S T) ∧ K2 S T ∧ ((NFq 11 2 c11 v0 T))) hI o_v0 (fun r T h0 h1 h2 h3 h4 => ⟨h0, h1, h2, h3, h4⟩))) (kx_X11_held (mn_X11_held (Q := fun r T => IV T ∧ Gr S T ∧ (FRI [(11, 0), (11, 1), (11, 2)] [] S T) ∧ K2 S T ∧ ((NFq 11 2 c11 v0 T))) hI o_v0 (fun r T h0 h1 h2 h3 h4 => ⟨h0, h1, h2, h3, h4⟩))) (fun r T a b => ⟨a.1, a.2, b.2⟩)) (mn_X11_held (Q := fun r T => IV T ∧ Gr S T ∧ (FRI [(11, 0), (11, 1), (11, 2)] [] S T) ∧ K2 S T ∧ ((NFq 11 2 c11 v0 T))) hI o_v0 (fun r T h0 h1 h2 h3 h4 => ⟨h0, h1, h2, h3, h4⟩)) (fun r T h _ => hq r T h.1.1 h.1.2.1 h.1.2.2.1 h.1.2.2.2.1 h.1.2.2.2.2 h.2)
theorem mz_X11_least {v0 : Nat} {v1 : Int32} {v2 : Int32} {v3 : Int32} {v4 : Int32} {v5 : Int32} {v6 : Int32} {Q : Int64 → HS → Prop} {S : HS} (hI : IV S) (o_v0 : ob S v0 11)  (hq : ∀ (r : Int64) (T : HS), IV T → Gr S T → FRI [(11, 0), (11, 1), (11, 2)] [] S T → K2 S T → (NFq 11 2 c11 v0 T) → (K7 S T ∧ K8 S T) → Q r T) : P_X11_least v0 v1 v2 v3 v4 v5 v6 Q S := cm_X11_least (cm_X11_least (Q3 := fun r T => (IV T ∧ Gr S T ∧ (FRI [(11, 0), (11, 1), (11, 2)] [] S T) ∧ K2 S T ∧ ((NFq 11 2 c11 v0 T))) ∧ K7 S T ∧ K8 S T) (kw_X11_least (mn_X11_least (Q := fun r T => IV T ∧ Gr S T ∧ (FRI [(11, 0), (11, 1), (11, 2)] [] S T) ∧ K2 S T ∧ ((NFq 11 2 c11 v0 T))) hI o_v0 (fun r T h0 h1 h2 h3 h4 => ⟨h0, h1, h2, h3, h4⟩))) (kx_X11_least (mn_X11_least (Q := fun r T => IV T ∧ Gr S T ∧ (FRI [(11, 0), (11, 1), (11, 2)] [] S T) ∧ K2 S T ∧ ((NFq 11 2 c11 v0 T))) hI o_v0 (fun r T h0 h1 h2 h3 h4 => ⟨h0, h1, h2, h3, h4⟩))) (fun r T a b => ⟨a.1, a.2, b.2⟩)) (mn_X11_least (Q := fun r T => IV T ∧ Gr S T ∧ (FRI [(11, 0), (11, 1), (11, 2)] [] S T) ∧ K2 S T ∧ ((NFq 11 2 c11 v0 T))) hI o_v0 (fun r T h0 h1 h2 h3 h4 => ⟨h0, h1, h2, h3, h4⟩)) (fun r T h _ => hq r T h.1.1 h.1.2.1 h.1.2.2.1 h.1.2.2.2.1 h.1.2.2.2.2 h.2)
theorem mz_X11_led {v0 : Nat} {v1 : Int32} {Q : Int32 → HS → Prop} {S : HS} (hI : IV S) (o_v0 : ob S v0 11)  (hq : ∀ (r : Int32) (T : HS), IV T → Gr S T → FRI [(11, 0)] [] S T → K2 S T → (K7 S T ∧ K8 S T) → Q r T) : P_X11_led v0 v1 Q S := cm_X11_led (cm_X11_led (Q3 := fun r T => (IV T ∧ Gr S T ∧ (FRI [(11, 0)] [] S T) ∧ K2 S T) ∧ K7 S T ∧ K8 S T) (kw_X11_led (mk_X11_led (Q := fun r T => IV T ∧ Gr S T ∧ (FRI [(11, 0)] [] S T) ∧ K2 S T) hI o_v0 (fun r T h0 h1 h2 h3 => ⟨h0, h1, h2, h3⟩))) (kx_X11_led (mk_X11_led (Q := fun r T => IV T ∧ Gr S T ∧ (FRI [(11, 0)] [] S T) ∧ K2 S T) hI o_v0 (fun r T h0 h1 h2 h3 => ⟨h0, h1, h2, h3⟩))) (fun r T a b => ⟨a.1, a.2, b.2⟩)) (mk_X11_led (Q := fun r T => IV T ∧ Gr S T ∧ (FRI [(11, 0)] [] S T) ∧ K2 S T) hI o_v0 (fun r T h0 h1 h2 h3 => ⟨h0, h1, h2, h3⟩)) (fun r T h _ => hq r T h.1.1 h.1.2.1 h.1.2.2.1 h.1.2.2.2 h.2)
theorem mz_X11_lee {v0 : Nat} {v1 : Int32} {v2 : Int32} {v3 : Int32} {v4 : Int32} {v5 : Int32} {v6 : Int32} {v7 : Int32} {Q : Int64 → HS → Prop} {S : HS} (hI : IV S) (o_v0 : ob S v0 11)  (hq : ∀ (r : Int64) (T : HS), IV T → Gr S T → FRI [(11, 0), (11, 1), (11, 2)] [] S T → K2 S T → (NFq 11 2 c11 v0 T) → (K7 S T ∧ K8 S T) → Q r T) : P_X11_lee v0 v1 v2 v3 v4 v5 v6 v7 Q S := cm_X11_lee (cm_X11_lee (Q3 := fun r T => (IV T ∧ Gr S T ∧ (FRI [(11, 0), (11, 1), (11, 2)] [] S T) ∧ K2 S T ∧ ((NFq 11 2 c11 v0 T))) ∧ K7 S T ∧ K8 S T) (kw_X11_lee (mn_X11_lee (Q := fun r T => IV T ∧ Gr S T ∧ (FRI [(11, 0), (11, 1), (11, 2)] [] S T) ∧ K2 S T ∧ ((NFq 11 2 c11 v0 T))) hI o_v0 (fun r T h0 h1 h2 h3 h4 => ⟨h0, h1, h2, h3, h4⟩))) (kx_X11_lee (mn_X11_lee (Q := fun r T => IV T ∧ Gr S T ∧ (FRI [(11, 0), (11, 1), (11, 2)] [] S T) ∧ K2 S T ∧ ((NFq 11 2 c11 v0 T))) hI o_v0 (fun r T h0 h1 h2 h3 h4 => ⟨h0, h1, h2, h3, h4⟩))) (fun r T a b => ⟨a.1, a.2, b.2⟩)) (mn_X11_lee (Q := fun r T => IV T ∧ Gr S T ∧ (FRI [(11, 0), (11, 1), (11, 2)] [] S T) ∧ K2 S T ∧ ((NFq 11 2 c11 v0 T))) hI o_v0 (fun r T h0 h1 h2 h3 h4 => ⟨h0, h1, h2, h3, h4⟩)) (fun r T h _ => hq r T h.1.1 h.1.2.1 h.1.2.2.1 h.1.2.2.2.1 h.1.2.2.2.2 h.2)
theorem mz_X11_lies {v0 : Nat} {Q : Int32 → HS → Prop} {S : HS} (hI : IV S) (o_v0 : ob S v0 11)  (hq : ∀ (r : Int32) (T : HS), IV T → Gr S T → FRI [(11, 0), (11, 1), (11, 2)] [] S T → K2 S T → (NFq 11 2 c11 v0 T) → (K7 S T ∧ K8 S T) → Q r T) : P_X11_lies v0 Q S := cm_X11_lies (cm_X11_lies (Q3 := fun r T => (IV T ∧ Gr S T ∧ (FRI [(11, 0), (11, 1), (11, 2)] [] S T) ∧ K2 S T ∧ ((NFq 11 2 c11 v0 T))) ∧ K7 S T ∧ K8 S T) (kw_X11_lies (mn_X11_lies (Q := fun r T => IV T ∧ Gr S T ∧ (FRI [(11, 0), (11, 1), (11, 2)] [] S T) ∧ K2 S T ∧ ((NFq 11 2 c11 v0 T))) hI o_v0 (fun r T h0 h1 h2 h3 h4 => ⟨h0, h1, h2, h3, h4⟩))) (kx_X11_lies (mn_X11_lies (Q := fun r T => IV T ∧ Gr S T ∧ (FRI [(11, 0), (11, 1), (11, 2)] [] S T) ∧ K2 S T ∧ ((NFq 11 2 c11 v0 T))) hI o_v0 (fun r T h0 h1 h2 h3 h4 => ⟨h0, h1, h2, h3, h4⟩))) (fun r T a b => ⟨a.1, a.2, b.2⟩)) (mn_X11_lies (Q := fun r T => IV T ∧ Gr S T ∧ (FRI [(11, 0), (11, 1), (11, 2)] [] S T) ∧ K2 S T ∧ ((NFq 11 2 c11 v0 T))) hI o_v0 (fun r T h0 h1 h2 h3 h4 => ⟨h0, h1, h2, h3, h4⟩)) (fun r T h _ => hq r T h.1.1 h.1.2.1 h.1.2.2.1 h.1.2.2.2.1 h.1.2.2.2.2 h.2)
theorem mz_X11_mark {v0 : Nat} {Q : Int32 → HS → Prop} {S : HS} (hI : IV S) (o_v0 : ob S v0 11)  (hq : ∀ (r : Int32) (T : HS), IV T → Gr S T → FRI [(11, 0), (11, 1), (11, 2), (11, 25)] [] S T → K2 S T → (NFq 11 2 c11 v0 T) → (K7 S T ∧ K8 S T) → Q r T) : P_X11_mark v0 Q S := cm_X11_mark (cm_X11_mark (Q3 := fun r T => (IV T ∧ Gr S T ∧ (FRI [(11, 0), (11, 1), (11, 2), (11, 25)] [] S T) ∧ K2 S T ∧ ((NFq 11 2 c11 v0 T))) ∧ K7 S T ∧ K8 S T) (kw_X11_mark (mn_X11_mark (Q := fun r T => IV T ∧ Gr S T ∧ (FRI [(11, 0), (11, 1), (11, 2), (11, 25)] [] S T) ∧ K2 S T ∧ ((NFq 11 2 c11 v0 T))) hI o_v0 (fun r T h0 h1 h2 h3 h4 => ⟨h0, h1, h2, h3, h4⟩))) (kx_X11_mark (mn_X11_mark (Q := fun r T => IV T ∧ Gr S T ∧ (FRI [(11, 0), (11, 1), (11, 2), (11, 25)] [] S T) ∧ K2 S T ∧ ((NFq 11 2 c11 v0 T))) hI o_v0 (fun r T h0 h1 h2 h3 h4 => ⟨h0, h1, h2, h3, h4⟩))) (fun r T a b => ⟨a.1, a.2, b.2⟩)) (mn_X11_mark (Q := fun r T => IV T ∧ Gr S T ∧ (FRI [(11, 0), (11, 1), (11, 2), (11, 25)] [] S T) ∧ K2 S T ∧ ((NFq 11 2 c11 v0 T))) hI o_v0 (fun r T h0 h1 h2 h3 h4 => ⟨h0, h1, h2, h3, h4⟩)) (fun r T h _ => hq r T h.1.1 h.1.2.1 h.1.2.2.1 h.1.2.2.2.1 h.1.2.2.2.2 h.2)
theorem mz_X11_mean {v0 : Nat} {v1 : Int32} {v2 : Int32} {v3 : Int32} {v4 : Int32} {v5 : Int32} {v6 : Int32} {Q : Int64 → HS → Prop} {S : HS} (hI : IV S) (o_v0 : ob S v0 11)  (hq : ∀ (r : Int64) (T : HS), IV T → Gr S T → FRI [(11, 0), (11, 1), (11, 2)] [] S T → K2 S T → (NFq 11 2 c11 v0 T) → (K7 S T ∧ K8 S T) → Q r T) : P_X11_mean v0 v1 v2 v3 v4 v5 v6 Q S := cm_X11_mean (cm_X11_mean (Q3 := fun r T => (IV T ∧ Gr S T ∧ (FRI [(11, 0), (11, 1), (11, 2)] [] S T) ∧ K2 S T ∧ ((NFq 11 2 c11 v0 T))) ∧ K7 S T ∧ K8 S T) (kw_X11_mean (mn_X11_mean (Q := fun r T => IV T ∧ Gr S T ∧ (FRI [(11, 0), (11, 1), (11, 2)] [] S T) ∧ K2 S T ∧ ((NFq 11 2 c11 v0 T))) hI o_v0 (fun r T h0 h1 h2 h3 h4 => ⟨h0, h1, h2, h3, h4⟩))) (kx_X11_mean (mn_X11_mean (Q := fun r T => IV T ∧ Gr S T ∧ (FRI [(11, 0), (11, 1), (11, 2)] [] S T) ∧ K2 S T ∧ ((NFq 11 2 c11 v0 T))) hI o_v0 (fun r T h0 h1 h2 h3 h4 => ⟨h0, h1, h2, h3, h4⟩))) (fun r T a b => ⟨a.1, a.2, b.2⟩)) (mn_X11_mean (Q := fun r T => IV T ∧ Gr S T ∧ (FRI [(11, 0), (11, 1), (11, 2)] [] S T) ∧ K2 S T ∧ ((NFq 11 2 c11 v0 T))) hI o_v0 (fun r T h0 h1 h2 h3 h4 => ⟨h0, h1, h2, h3, h4⟩)) (fun r T h _ => hq r T h.1.1 h.1.2.1 h.1.2.2.1 h.1.2.2.2.1 h.1.2.2.2.2 h.2)
theorem mz_X11_minutes {v0 : Nat} {v1 : Int32} {v2 : Int32} {v3 : Int32} {Q : Int32 → HS → Prop} {S : HS} (hI : IV S) (o_v0 : ob S v0 11)  (hq : ∀ (r : Int32) (T : HS), IV T → Gr S T → FRI [(11, 0), (11, 1), (11, 2)] [] S T → K2 S T → (NFq 11 2 c11 v0 T) → (K7 S T ∧ K8 S T) → Q r T) : P_X11_minutes v0 v1 v2 v3 Q S := cm_X11_minutes (cm_X11_minutes (Q3 := fun r T => (IV T ∧ Gr S T ∧ (FRI [(11, 0), (11, 1), (11, 2)] [] S T) ∧ K2 S T ∧ ((NFq 11 2 c11 v0 T))) ∧ K7 S T ∧ K8 S T) (kw_X11_minutes (mn_X11_minutes (Q := fun r T => IV T ∧ Gr S T ∧ (FRI [(11, 0), (11, 1), (11, 2)] [] S T) ∧ K2 S T ∧ ((NFq 11 2 c11 v0 T))) hI o_v0 (fun r T h0 h1 h2 h3 h4 => ⟨h0, h1, h2, h3, h4⟩))) (kx_X11_minutes (mn_X11_minutes (Q := fun r T => IV T ∧ Gr S T ∧ (FRI [(11, 0), (11, 1), (11, 2)] [] S T) ∧ K2 S T ∧ ((NFq 11 2 c11 v0 T))) hI o_v0 (fun r T h0 h1 h2 h3 h4 => ⟨h0, h1, h2, h3, h4⟩))) (fun r T a b => ⟨a.1, a.2, b.2⟩)) (mn_X11_minutes (Q := fun r T => IV T ∧ Gr S T ∧ (FRI [(11, 0), (11, 1), (11, 2)] [] S T) ∧ K2 S T ∧ ((NFq 11 2 c11 v0 T))) hI o_v0 (fun r T h0 h1 h2 h3 h4 => ⟨h0, h1, h2, h3, h4⟩)) (fun r T h _ => hq r T h.1.1 h.1.2.1 h.1.2.2.1 h.1.2.2.2.1 h.1.2.2.2.2 h.2)
theorem mz_X11_off {v0 : Nat} {v1 : Int32} {v2 : Int32} {v3 : Int32} {v4 : Int32} {Q : Int32 → HS → Prop} {S : HS} (hI : IV S) (o_v0 : ob S v0 11)  (hq : ∀ (r : Int32) (T : HS), IV T → Gr S T → FRI [(11, 0), (11, 1), (11, 2)] [] S T → K2 S T → (NFq 11 2 c11 v0 T) → (K7 S T ∧ K8 S T) → Q r T) : P_X11_off v0 v1 v2 v3 v4 Q S := cm_X11_off (cm_X11_off (Q3 := fun r T => (IV T ∧ Gr S T ∧ (FRI [(11, 0), (11, 1), (11, 2)] [] S T) ∧ K2 S T ∧ ((NFq 11 2 c11 v0 T))) ∧ K7 S T ∧ K8 S T) (kw_X11_off (mn_X11_off (Q := fun r T => IV T ∧ Gr S T ∧ (FRI [(11, 0), (11, 1), (11, 2)] [] S T) ∧ K2 S T ∧ ((NFq 11 2 c11 v0 T))) hI o_v0 (fun r T h0 h1 h2 h3 h4 => ⟨h0, h1, h2, h3, h4⟩))) (kx_X11_off (mn_X11_off (Q := fun r T => IV T ∧ Gr S T ∧ (FRI [(11, 0), (11, 1), (11, 2)] [] S T) ∧ K2 S T ∧ ((NFq 11 2 c11 v0 T))) hI o_v0 (fun r T h0 h1 h2 h3 h4 => ⟨h0, h1, h2, h3, h4⟩))) (fun r T a b => ⟨a.1, a.2, b.2⟩)) (mn_X11_off (Q := fun r T => IV T ∧ Gr S T ∧ (FRI [(11, 0), (11, 1), (11, 2)] [] S T) ∧ K2 S T ∧ ((NFq 11 2 c11 v0 T))) hI o_v0 (fun r T h0 h1 h2 h3 h4 => ⟨h0, h1, h2, h3, h4⟩)) (fun r T h _ => hq r T h.1.1 h.1.2.1 h.1.2.2.1 h.1.2.2.2.1 h.1.2.2.2.2 h.2)
theorem mz_X11_road {v0 : Nat} {v1 : Int32} {v2 : Int32} {Q : Int32 → HS → Prop} {S : HS} (hI : IV S) (o_v0 : ob S v0 11)  (hq : ∀ (r : Int32) (T : HS), IV T → Gr S T → FRI [(11, 0), (11, 1), (11, 2)] [] S T → K2 S T → (NFq 11 2 c11 v0 T) → (K7 S T ∧ K8 S T) → Q r T) : P_X11_road v0 v1 v2 Q S := cm_X11_road (cm_X11_road (Q3 := fun r T => (IV T ∧ Gr S T ∧ (FRI [(11, 0), (11, 1), (11, 2)] [] S T) ∧ K2 S T ∧ ((NFq 11 2 c11 v0 T))) ∧ K7 S T ∧ K8 S T) (kw_X11_road (mn_X11_road (Q := fun r T => IV T ∧ Gr S T ∧ (FRI [(11, 0), (11, 1), (11, 2)] [] S T) ∧ K2 S T ∧ ((NFq 11 2 c11 v0 T))) hI o_v0 (fun r T h0 h1 h2 h3 h4 => ⟨h0, h1, h2, h3, h4⟩))) (kx_X11_road (mn_X11_road (Q := fun r T => IV T ∧ Gr S T ∧ (FRI [(11, 0), (11, 1), (11, 2)] [] S T) ∧ K2 S T ∧ ((NFq 11 2 c11 v0 T))) hI o_v0 (fun r T h0 h1 h2 h3 h4 => ⟨h0, h1, h2, h3, h4⟩))) (fun r T a b => ⟨a.1, a.2, b.2⟩)) (mn_X11_road (Q := fun r T => IV T ∧ Gr S T ∧ (FRI [(11, 0), (11, 1), (11, 2)] [] S T) ∧ K2 S T ∧ ((NFq 11 2 c11 v0 T))) hI o_v0 (fun r T h0 h1 h2 h3 h4 => ⟨h0, h1, h2, h3, h4⟩)) (fun r T h _ => hq r T h.1.1 h.1.2.1 h.1.2.2.1 h.1.2.2.2.1 h.1.2.2.2.2 h.2)
theorem mz_X11_round {v0 : Nat} {v1 : Int32} {v2 : Int32} {v3 : Int32} {v4 : Int32} {Q : Int64 → HS → Prop} {S : HS} (hI : IV S) (o_v0 : ob S v0 11)  (hq : ∀ (r : Int64) (T : HS), IV T → Gr S T → FRI [(11, 0), (11, 1), (11, 2)] [] S T → K2 S T → (NFq 11 2 c11 v0 T) → (K7 S T ∧ K8 S T) → Q r T) : P_X11_round v0 v1 v2 v3 v4 Q S := cm_X11_round (cm_X11_round (Q3 := fun r T => (IV T ∧ Gr S T ∧ (FRI [(11, 0), (11, 1), (11, 2)] [] S T) ∧ K2 S T ∧ ((NFq 11 2 c11 v0 T))) ∧ K7 S T ∧ K8 S T) (kw_X11_round (mn_X11_round (Q := fun r T => IV T ∧ Gr S T ∧ (FRI [(11, 0), (11, 1), (11, 2)] [] S T) ∧ K2 S T ∧ ((NFq 11 2 c11 v0 T))) hI o_v0 (fun r T h0 h1 h2 h3 h4 => ⟨h0, h1, h2, h3, h4⟩))) (kx_X11_round (mn_X11_round (Q := fun r T => IV T ∧ Gr S T ∧ (FRI [(11, 0), (11, 1), (11, 2)] [] S T) ∧ K2 S T ∧ ((NFq 11 2 c11 v0 T))) hI o_v0 (fun r T h0 h1 h2 h3 h4 => ⟨h0, h1, h2, h3, h4⟩))) (fun r T a b => ⟨a.1, a.2, b.2⟩)) (mn_X11_round (Q := fun r T => IV T ∧ Gr S T ∧ (FRI [(11, 0), (11, 1), (11, 2)] [] S T) ∧ K2 S T ∧ ((NFq 11 2 c11 v0 T))) hI o_v0 (fun r T h0 h1 h2 h3 h4 => ⟨h0, h1, h2, h3, h4⟩)) (fun r T h _ => hq r T h.1.1 h.1.2.1 h.1.2.2.1 h.1.2.2.2.1 h.1.2.2.2.2 h.2)
theorem mz_X11_saves {v0 : Nat} {v1 : Int32} {v2 : Int32} {v3 : Int32} {v4 : Int32} {v5 : Int32} {Q : Int64 → HS → Prop} {S : HS} (hI : IV S) (o_v0 : ob S v0 11)  (hq : ∀ (r : Int64) (T : HS), IV T → Gr S T → FRI [(11, 0), (11, 1), (11, 2)] [] S T → K2 S T → (NFq 11 2 c11 v0 T) → (K7 S T ∧ K8 S T) → Q r T) : P_X11_saves v0 v1 v2 v3 v4 v5 Q S := cm_X11_saves (cm_X11_saves (Q3 := fun r T => (IV T ∧ Gr S T ∧ (FRI [(11, 0), (11, 1), (11, 2)] [] S T) ∧ K2 S T ∧ ((NFq 11 2 c11 v0 T))) ∧ K7 S T ∧ K8 S T) (kw_X11_saves (mn_X11_saves (Q := fun r T => IV T ∧ Gr S T ∧ (FRI [(11, 0), (11, 1), (11, 2)] [] S T) ∧ K2 S T ∧ ((NFq 11 2 c11 v0 T))) hI o_v0 (fun r T h0 h1 h2 h3 h4 => ⟨h0, h1, h2, h3, h4⟩))) (kx_X11_saves (mn_X11_saves (Q := fun r T => IV T ∧ Gr S T ∧ (FRI [(11, 0), (11, 1), (11, 2)] [] S T) ∧ K2 S T ∧ ((NFq 11 2 c11 v0 T))) hI o_v0 (fun r T h0 h1 h2 h3 h4 => ⟨h0, h1, h2, h3, h4⟩))) (fun r T a b => ⟨a.1, a.2, b.2⟩)) (mn_X11_saves (Q := fun r T => IV T ∧ Gr S T ∧ (FRI [(11, 0), (11, 1), (11, 2)] [] S T) ∧ K2 S T ∧ ((NFq 11 2 c11 v0 T))) hI o_v0 (fun r T h0 h1 h2 h3 h4 => ⟨h0, h1, h2, h3, h4⟩)) (fun r T h _ => hq r T h.1.1 h.1.2.1 h.1.2.2.1 h.1.2.2.2.1 h.1.2.2.2.2 h.2)
theorem mz_X11_size {v0 : Nat} {v1 : Int32} {Q : Int32 → HS → Prop} {S : HS} (hI : IV S) (o_v0 : ob S v0 11)  (hq : ∀ (r : Int32) (T : HS), IV T → Gr S T → FRI [(11, 0)] [] S T → K2 S T → (K7 S T ∧ K8 S T) → Q r T) : P_X11_size v0 v1 Q S := cm_X11_size (cm_X11_size (Q3 := fun r T => (IV T ∧ Gr S T ∧ (FRI [(11, 0)] [] S T) ∧ K2 S T) ∧ K7 S T ∧ K8 S T) (kw_X11_size (mk_X11_size (Q := fun r T => IV T ∧ Gr S T ∧ (FRI [(11, 0)] [] S T) ∧ K2 S T) hI o_v0 (fun r T h0 h1 h2 h3 => ⟨h0, h1, h2, h3⟩))) (kx_X11_size (mk_X11_size (Q := fun r T => IV T ∧ Gr S T ∧ (FRI [(11, 0)] [] S T) ∧ K2 S T) hI o_v0 (fun r T h0 h1 h2 h3 => ⟨h0, h1, h2, h3⟩))) (fun r T a b => ⟨a.1, a.2, b.2⟩)) (mk_X11_size (Q := fun r T => IV T ∧ Gr S T ∧ (FRI [(11, 0)] [] S T) ∧ K2 S T) hI o_v0 (fun r T h0 h1 h2 h3 => ⟨h0, h1, h2, h3⟩)) (fun r T h _ => hq r T h.1.1 h.1.2.1 h.1.2.2.1 h.1.2.2.2 h.2)
theorem mz_X11_soaked {v0 : Nat} {Q : Int32 → HS → Prop} {S : HS} (hI : IV S) (o_v0 : ob S v0 11)  (hq : ∀ (r : Int32) (T : HS), IV T → Gr S T → FRI [(11, 0), (11, 1), (11, 2)] [] S T → K2 S T → (NFq 11 2 c11 v0 T) → (K7 S T ∧ K8 S T) → Q r T) : P_X11_soaked v0 Q S := cm_X11_soaked (cm_X11_soaked (Q3 := fun r T => (IV T ∧ Gr S T ∧ (FRI [(11, 0), (11, 1), (11, 2)] [] S T) ∧ K2 S T ∧ ((NFq 11 2 c11 v0 T))) ∧ K7 S T ∧ K8 S T) (kw_X11_soaked (mn_X11_soaked (Q := fun r T => IV T ∧ Gr S T ∧ (FRI [(11, 0), (11, 1), (11, 2)] [] S T) ∧ K2 S T ∧ ((NFq 11 2 c11 v0 T))) hI o_v0 (fun r T h0 h1 h2 h3 h4 => ⟨h0, h1, h2, h3, h4⟩))) (kx_X11_soaked (mn_X11_soaked (Q := fun r T => IV T ∧ Gr S T ∧ (FRI [(11, 0), (11, 1), (11, 2)] [] S T) ∧ K2 S T ∧ ((NFq 11 2 c11 v0 T))) hI o_v0 (fun r T h0 h1 h2 h3 h4 => ⟨h0, h1, h2, h3, h4⟩))) (fun r T a b => ⟨a.1, a.2, b.2⟩)) (mn_X11_soaked (Q := fun r T => IV T ∧ Gr S T ∧ (FRI [(11, 0), (11, 1), (11, 2)] [] S T) ∧ K2 S T ∧ ((NFq 11 2 c11 v0 T))) hI o_v0 (fun r T h0 h1 h2 h3 h4 => ⟨h0, h1, h2, h3, h4⟩)) (fun r T h _ => hq r T h.1.1 h.1.2.1 h.1.2.2.1 h.1.2.2.2.1 h.1.2.2.2.2 h.2)
theorem mz_X11_stay {v0 : Nat} {v1 : Int32} {Q : Int32 → HS → Prop} {S : HS} (hI : IV S) (o_v0 : ob S v0 11)  (hq : ∀ (r : Int32) (T : HS), IV T → Gr S T → FRI [(11, 0), (11, 1), (11, 2), (11, 24)] [] S T → bl r → K2 S T → (NFq 11 2 c11 v0 T) → (K7 S T ∧ K8 S T) → Q r T) : P_X11_stay v0 v1 Q S := cm_X11_stay (cm_X11_stay (Q3 := fun r T => (IV T ∧ Gr S T ∧ (FRI [(11, 0), (11, 1), (11, 2), (11, 24)] [] S T) ∧ bl r ∧ K2 S T ∧ ((NFq 11 2 c11 v0 T))) ∧ K7 S T ∧ K8 S T) (kw_X11_stay (mn_X11_stay (Q := fun r T => IV T ∧ Gr S T ∧ (FRI [(11, 0), (11, 1), (11, 2), (11, 24)] [] S T) ∧ bl r ∧ K2 S T ∧ ((NFq 11 2 c11 v0 T))) hI o_v0 (fun r T h0 h1 h2 h3 h4 h5 => ⟨h0, h1, h2, h3, h4, h5⟩))) (kx_X11_stay (mn_X11_stay (Q := fun r T => IV T ∧ Gr S T ∧ (FRI [(11, 0), (11, 1), (11, 2), (11, 24)] [] S T) ∧ bl r ∧ K2 S T ∧ ((NFq 11 2 c11 v0 T))) hI o_v0 (fun r T h0 h1 h2 h3 h4 h5 => ⟨h0, h1, h2, h3, h4, h5⟩))) (fun r T a b => ⟨a.1, a.2, b.2⟩)) (mn_X11_stay (Q := fun r T => IV T ∧ Gr S T ∧ (FRI [(11, 0), (11, 1), (11, 2), (11, 24)] [] S T) ∧ bl r ∧ K2 S T ∧ ((NFq 11 2 c11 v0 T))) hI o_v0 (fun r T h0 h1 h2 h3 h4 h5 => ⟨h0, h1, h2, h3, h4, h5⟩)) (fun r T h _ => hq r T h.1.1 h.1.2.1 h.1.2.2.1 h.1.2.2.2.1 h.1.2.2.2.2.1 h.1.2.2.2.2.2 h.2)
theorem mz_X11_step {v0 : Nat} {v1 : Int32} {v2 : Int32} {v3 : Int32} {v4 : Int32} {v5 : Int32} {v6 : Int32} {Q : Int32 → HS → Prop} {S : HS} (hI : IV S) (o_v0 : ob S v0 11)  (hq : ∀ (r : Int32) (T : HS), IV T → Gr S T → FRI [(11, 0), (11, 1), (11, 2)] [] S T → K2 S T → (NFq 11 2 c11 v0 T) → (K7 S T ∧ K8 S T) → Q r T) : P_X11_step v0 v1 v2 v3 v4 v5 v6 Q S := cm_X11_step (cm_X11_step (Q3 := fun r T => (IV T ∧ Gr S T ∧ (FRI [(11, 0), (11, 1), (11, 2)] [] S T) ∧ K2 S T ∧ ((NFq 11 2 c11 v0 T))) ∧ K7 S T ∧ K8 S T) (kw_X11_step (mn_X11_step (Q := fun r T => IV T ∧ Gr S T ∧ (FRI [(11, 0), (11, 1), (11, 2)] [] S T) ∧ K2 S T ∧ ((NFq 11 2 c11 v0 T))) hI o_v0 (fun r T h0 h1 h2 h3 h4 => ⟨h0, h1, h2, h3, h4⟩))) (kx_X11_step (mn_X11_step (Q := fun r T => IV T ∧ Gr S T ∧ (FRI [(11, 0), (11, 1), (11, 2)] [] S T) ∧ K2 S T ∧ ((NFq 11 2 c11 v0 T))) hI o_v0 (fun r T h0 h1 h2 h3 h4 => ⟨h0, h1, h2, h3, h4⟩))) (fun r T a b => ⟨a.1, a.2, b.2⟩)) (mn_X11_step (Q := fun r T => IV T ∧ Gr S T ∧ (FRI [(11, 0), (11, 1), (11, 2)] [] S T) ∧ K2 S T ∧ ((NFq 11 2 c11 v0 T))) hI o_v0 (fun r T h0 h1 h2 h3 h4 => ⟨h0, h1, h2, h3, h4⟩)) (fun r T h _ => hq r T h.1.1 h.1.2.1 h.1.2.2.1 h.1.2.2.2.1 h.1.2.2.2.2 h.2)
theorem mz_X11_steps {v0 : Nat} {v1 : Int32} {v2 : Int32} {v3 : Int32} {v4 : Int32} {v5 : Int32} {Q : Int32 → HS → Prop} {S : HS} (hI : IV S) (o_v0 : ob S v0 11)  (hq : ∀ (r : Int32) (T : HS), IV T → Gr S T → FRI [(11, 0), (11, 1), (11, 2)] [] S T → K2 S T → (NFq 11 2 c11 v0 T) → (K7 S T ∧ K8 S T) → Q r T) : P_X11_steps v0 v1 v2 v3 v4 v5 Q S := cm_X11_steps (cm_X11_steps (Q3 := fun r T => (IV T ∧ Gr S T ∧ (FRI [(11, 0), (11, 1), (11, 2)] [] S T) ∧ K2 S T ∧ ((NFq 11 2 c11 v0 T))) ∧ K7 S T ∧ K8 S T) (kw_X11_steps (mn_X11_steps (Q := fun r T => IV T ∧ Gr S T ∧ (FRI [(11, 0), (11, 1), (11, 2)] [] S T) ∧ K2 S T ∧ ((NFq 11 2 c11 v0 T))) hI o_v0 (fun r T h0 h1 h2 h3 h4 => ⟨h0, h1, h2, h3, h4⟩))) (kx_X11_steps (mn_X11_steps (Q := fun r T => IV T ∧ Gr S T ∧ (FRI [(11, 0), (11, 1), (11, 2)] [] S T) ∧ K2 S T ∧ ((NFq 11 2 c11 v0 T))) hI o_v0 (fun r T h0 h1 h2 h3 h4 => ⟨h0, h1, h2, h3, h4⟩))) (fun r T a b => ⟨a.1, a.2, b.2⟩)) (mn_X11_steps (Q := fun r T => IV T ∧ Gr S T ∧ (FRI [(11, 0), (11, 1), (11, 2)] [] S T) ∧ K2 S T ∧ ((NFq 11 2 c11 v0 T))) hI o_v0 (fun r T h0 h1 h2 h3 h4 => ⟨h0, h1, h2, h3, h4⟩)) (fun r T h _ => hq r T h.1.1 h.1.2.1 h.1.2.2.1 h.1.2.2.2.1 h.1.2.2.2.2 h.2)
theorem mz_X11_there {v0 : Nat} {v1 : Int32} {v2 : Int32} {v3 : Int32} {v4 : Int32} {v5 : Int32} {Q : Int32 → HS → Prop} {S : HS} (hI : IV S) (o_v0 : ob S v0 11)  (hq : ∀ (r : Int32) (T : HS), IV T → Gr S T → FRI [(11, 0), (11, 1), (11, 2)] [] S T → K2 S T → (NFq 11 2 c11 v0 T) → (K7 S T ∧ K8 S T) → Q r T) : P_X11_there v0 v1 v2 v3 v4 v5 Q S := cm_X11_there (cm_X11_there (Q3 := fun r T => (IV T ∧ Gr S T ∧ (FRI [(11, 0), (11, 1), (11, 2)] [] S T) ∧ K2 S T ∧ ((NFq 11 2 c11 v0 T))) ∧ K7 S T ∧ K8 S T) (kw_X11_there (mn_X11_there (Q := fun r T => IV T ∧ Gr S T ∧ (FRI [(11, 0), (11, 1), (11, 2)] [] S T) ∧ K2 S T ∧ ((NFq 11 2 c11 v0 T))) hI o_v0 (fun r T h0 h1 h2 h3 h4 => ⟨h0, h1, h2, h3, h4⟩))) (kx_X11_there (mn_X11_there (Q := fun r T => IV T ∧ Gr S T ∧ (FRI [(11, 0), (11, 1), (11, 2)] [] S T) ∧ K2 S T ∧ ((NFq 11 2 c11 v0 T))) hI o_v0 (fun r T h0 h1 h2 h3 h4 => ⟨h0, h1, h2, h3, h4⟩))) (fun r T a b => ⟨a.1, a.2, b.2⟩)) (mn_X11_there (Q := fun r T => IV T ∧ Gr S T ∧ (FRI [(11, 0), (11, 1), (11, 2)] [] S T) ∧ K2 S T ∧ ((NFq 11 2 c11 v0 T))) hI o_v0 (fun r T h0 h1 h2 h3 h4 => ⟨h0, h1, h2, h3, h4⟩)) (fun r T h _ => hq r T h.1.1 h.1.2.1 h.1.2.2.1 h.1.2.2.2.1 h.1.2.2.2.2 h.2)
theorem mz_X11_trouble {v0 : Nat} {Q : Int32 → HS → Prop} {S : HS} (hI : IV S) (o_v0 : ob S v0 11)  (hq : ∀ (r : Int32) (T : HS), IV T → Gr S T → FRI [(11, 0)] [] S T → K2 S T → (K7 S T ∧ K8 S T) → Q r T) : P_X11_trouble v0 Q S := cm_X11_trouble (cm_X11_trouble (Q3 := fun r T => (IV T ∧ Gr S T ∧ (FRI [(11, 0)] [] S T) ∧ K2 S T) ∧ K7 S T ∧ K8 S T) (kw_X11_trouble (mk_X11_trouble (Q := fun r T => IV T ∧ Gr S T ∧ (FRI [(11, 0)] [] S T) ∧ K2 S T) hI o_v0 (fun r T h0 h1 h2 h3 => ⟨h0, h1, h2, h3⟩))) (kx_X11_trouble (mk_X11_trouble (Q := fun r T => IV T ∧ Gr S T ∧ (FRI [(11, 0)] [] S T) ∧ K2 S T) hI o_v0 (fun r T h0 h1 h2 h3 => ⟨h0, h1, h2, h3⟩))) (fun r T a b => ⟨a.1, a.2, b.2⟩)) (mk_X11_trouble (Q := fun r T => IV T ∧ Gr S T ∧ (FRI [(11, 0)] [] S T) ∧ K2 S T) hI o_v0 (fun r T h0 h1 h2 h3 => ⟨h0, h1, h2, h3⟩)) (fun r T h _ => hq r T h.1.1 h.1.2.1 h.1.2.2.1 h.1.2.2.2 h.2)
theorem mz_X11_undo {v0 : Nat} {Q : Int32 → HS → Prop} {S : HS} (hI : IV S) (o_v0 : ob S v0 11)  (hq : ∀ (r : Int32) (T : HS), IV T → Gr S T → FRI [(11, 0), (11, 1), (11, 2), (11, 24)] [] S T → bl r → K2 S T → (NFq 11 2 c11 v0 T) → (K7 S T ∧ K8 S T) → Q r T) : P_X11_undo v0 Q S := cm_X11_undo (cm_X11_undo (Q3 := fun r T => (IV T ∧ Gr S T ∧ (FRI [(11, 0), (11, 1), (11, 2), (11, 24)] [] S T) ∧ bl r ∧ K2 S T ∧ ((NFq 11 2 c11 v0 T))) ∧ K7 S T ∧ K8 S T) (kw_X11_undo (mn_X11_undo (Q := fun r T => IV T ∧ Gr S T ∧ (FRI [(11, 0), (11, 1), (11, 2), (11, 24)] [] S T) ∧ bl r ∧ K2 S T ∧ ((NFq 11 2 c11 v0 T))) hI o_v0 (fun r T h0 h1 h2 h3 h4 h5 => ⟨h0, h1, h2, h3, h4, h5⟩))) (kx_X11_undo (mn_X11_undo (Q := fun r T => IV T ∧ Gr S T ∧ (FRI [(11, 0), (11, 1), (11, 2), (11, 24)] [] S T) ∧ bl r ∧ K2 S T ∧ ((NFq 11 2 c11 v0 T))) hI o_v0 (fun r T h0 h1 h2 h3 h4 h5 => ⟨h0, h1, h2, h3, h4, h5⟩))) (fun r T a b => ⟨a.1, a.2, b.2⟩)) (mn_X11_undo (Q := fun r T => IV T ∧ Gr S T ∧ (FRI [(11, 0), (11, 1), (11, 2), (11, 24)] [] S T) ∧ bl r ∧ K2 S T ∧ ((NFq 11 2 c11 v0 T))) hI o_v0 (fun r T h0 h1 h2 h3 h4 h5 => ⟨h0, h1, h2, h3, h4, h5⟩)) (fun r T h _ => hq r T h.1.1 h.1.2.1 h.1.2.2.1 h.1.2.2.2.1 h.1.2.2.2.2.1 h.1.2.2.2.2.2 h.2)
theorem mz_X11_walker {v0 : Nat} {v1 : Int32} {v2 : Int32} {Q : Int32 → HS → Prop} {S : HS} (hI : IV S) (o_v0 : ob S v0 11)  (hq : ∀ (r : Int32) (T : HS), IV T → Gr S T → FRI [(11, 0), (11, 1), (11, 2)] [] S T → K2 S T → (NFq 11 2 c11 v0 T) → (K7 S T ∧ K8 S T) → Q r T) : P_X11_walker v0 v1 v2 Q S := cm_X11_walker (cm_X11_walker (Q3 := fun r T => (IV T ∧ Gr S T ∧ (FRI [(11, 0), (11, 1), (11, 2)] [] S T) ∧ K2 S T ∧ ((NFq 11 2 c11 v0 T))) ∧ K7 S T ∧ K8 S T) (kw_X11_walker (mn_X11_walker (Q := fun r T => IV T ∧ Gr S T ∧ (FRI [(11, 0), (11, 1), (11, 2)] [] S T) ∧ K2 S T ∧ ((NFq 11 2 c11 v0 T))) hI o_v0 (fun r T h0 h1 h2 h3 h4 => ⟨h0, h1, h2, h3, h4⟩))) (kx_X11_walker (mn_X11_walker (Q := fun r T => IV T ∧ Gr S T ∧ (FRI [(11, 0), (11, 1), (11, 2)] [] S T) ∧ K2 S T ∧ ((NFq 11 2 c11 v0 T))) hI o_v0 (fun r T h0 h1 h2 h3 h4 => ⟨h0, h1, h2, h3, h4⟩))) (fun r T a b => ⟨a.1, a.2, b.2⟩)) (mn_X11_walker (Q := fun r T => IV T ∧ Gr S T ∧ (FRI [(11, 0), (11, 1), (11, 2)] [] S T) ∧ K2 S T ∧ ((NFq 11 2 c11 v0 T))) hI o_v0 (fun r T h0 h1 h2 h3 h4 => ⟨h0, h1, h2, h3, h4⟩)) (fun r T h _ => hq r T h.1.1 h.1.2.1 h.1.2.2.1 h.1.2.2.2.1 h.1.2.2.2.2 h.2)
theorem mz_X11_wet {v0 : Nat} {v1 : Int32} {v2 : Int32} {v3 : Int32} {v4 : Int32} {v5 : Int32} {v6 : Int32} {Q : Int64 → HS → Prop} {S : HS} (hI : IV S) (o_v0 : ob S v0 11)  (hq : ∀ (r : Int64) (T : HS), IV T → Gr S T → FRI [(11, 0), (11, 1), (11, 2)] [] S T → K2 S T → (NFq 11 2 c11 v0 T) → (K7 S T ∧ K8 S T) → Q r T) : P_X11_wet v0 v1 v2 v3 v4 v5 v6 Q S := cm_X11_wet (cm_X11_wet (Q3 := fun r T => (IV T ∧ Gr S T ∧ (FRI [(11, 0), (11, 1), (11, 2)] [] S T) ∧ K2 S T ∧ ((NFq 11 2 c11 v0 T))) ∧ K7 S T ∧ K8 S T) (kw_X11_wet (mn_X11_wet (Q := fun r T => IV T ∧ Gr S T ∧ (FRI [(11, 0), (11, 1), (11, 2)] [] S T) ∧ K2 S T ∧ ((NFq 11 2 c11 v0 T))) hI o_v0 (fun r T h0 h1 h2 h3 h4 => ⟨h0, h1, h2, h3, h4⟩))) (kx_X11_wet (mn_X11_wet (Q := fun r T => IV T ∧ Gr S T ∧ (FRI [(11, 0), (11, 1), (11, 2)] [] S T) ∧ K2 S T ∧ ((NFq 11 2 c11 v0 T))) hI o_v0 (fun r T h0 h1 h2 h3 h4 => ⟨h0, h1, h2, h3, h4⟩))) (fun r T a b => ⟨a.1, a.2, b.2⟩)) (mn_X11_wet (Q := fun r T => IV T ∧ Gr S T ∧ (FRI [(11, 0), (11, 1), (11, 2)] [] S T) ∧ K2 S T ∧ ((NFq 11 2 c11 v0 T))) hI o_v0 (fun r T h0 h1 h2 h3 h4 => ⟨h0, h1, h2, h3, h4⟩)) (fun r T h _ => hq r T h.1.1 h.1.2.1 h.1.2.2.1 h.1.2.2.2.1 h.1.2.2.2.2 h.2)
theorem mz_X11_wetness {v0 : Nat} {v1 : Int32} {Q : Int64 → HS → Prop} {S : HS} (hI : IV S) (o_v0 : ob S v0 11)  (hq : ∀ (r : Int64) (T : HS), IV T → Gr S T → FRI [(11, 0), (11, 1), (11, 2)] [] S T → K2 S T → (NFq 11 2 c11 v0 T) → (K7 S T ∧ K8 S T) → Q r T) : P_X11_wetness v0 v1 Q S := cm_X11_wetness (cm_X11_wetness (Q3 := fun r T => (IV T ∧ Gr S T ∧ (FRI [(11, 0), (11, 1), (11, 2)] [] S T) ∧ K2 S T ∧ ((NFq 11 2 c11 v0 T))) ∧ K7 S T ∧ K8 S T) (kw_X11_wetness (mn_X11_wetness (Q := fun r T => IV T ∧ Gr S T ∧ (FRI [(11, 0), (11, 1), (11, 2)] [] S T) ∧ K2 S T ∧ ((NFq 11 2 c11 v0 T))) hI o_v0 (fun r T h0 h1 h2 h3 h4 => ⟨h0, h1, h2, h3, h4⟩))) (kx_X11_wetness (mn_X11_wetness (Q := fun r T => IV T ∧ Gr S T ∧ (FRI [(11, 0), (11, 1), (11, 2)] [] S T) ∧ K2 S T ∧ ((NFq 11 2 c11 v0 T))) hI o_v0 (fun r T h0 h1 h2 h3 h4 => ⟨h0, h1, h2, h3, h4⟩))) (fun r T a b => ⟨a.1, a.2, b.2⟩)) (mn_X11_wetness (Q := fun r T => IV T ∧ Gr S T ∧ (FRI [(11, 0), (11, 1), (11, 2)] [] S T) ∧ K2 S T ∧ ((NFq 11 2 c11 v0 T))) hI o_v0 (fun r T h0 h1 h2 h3 h4 => ⟨h0, h1, h2, h3, h4⟩)) (fun r T h _ => hq r T h.1.1 h.1.2.1 h.1.2.2.1 h.1.2.2.2.1 h.1.2.2.2.2 h.2)
theorem mz_X11_where {v0 : Nat} {Q : Int32 → HS → Prop} {S : HS} (hI : IV S) (o_v0 : ob S v0 11)  (hq : ∀ (r : Int32) (T : HS), IV T → Gr S T → FRI [(11, 0)] [] S T → K2 S T → (r = fI S v0 2) → (K7 S T ∧ K8 S T) → Q r T) : P_X11_where v0 Q S := cm_X11_where (cm_X11_where (Q3 := fun r T => (IV T ∧ Gr S T ∧ (FRI [(11, 0)] [] S T) ∧ K2 S T ∧ ((r = fI S v0 2))) ∧ K7 S T ∧ K8 S T) (kw_X11_where (mv_X11_where (Q := fun r T => IV T ∧ Gr S T ∧ (FRI [(11, 0)] [] S T) ∧ K2 S T ∧ ((r = fI S v0 2))) hI o_v0 (fun r T h0 h1 h2 h3 h4 => ⟨h0, h1, h2, h3, h4⟩))) (kx_X11_where (mv_X11_where (Q := fun r T => IV T ∧ Gr S T ∧ (FRI [(11, 0)] [] S T) ∧ K2 S T ∧ ((r = fI S v0 2))) hI o_v0 (fun r T h0 h1 h2 h3 h4 => ⟨h0, h1, h2, h3, h4⟩))) (fun r T a b => ⟨a.1, a.2, b.2⟩)) (mv_X11_where (Q := fun r T => IV T ∧ Gr S T ∧ (FRI [(11, 0)] [] S T) ∧ K2 S T ∧ ((r = fI S v0 2))) hI o_v0 (fun r T h0 h1 h2 h3 h4 => ⟨h0, h1, h2, h3, h4⟩)) (fun r T h _ => hq r T h.1.1 h.1.2.1 h.1.2.2.1 h.1.2.2.2.1 h.1.2.2.2.2 h.2)
theorem mz_X11_worst {v0 : Nat} {v1 : Int32} {v2 : Int32} {v3 : Int32} {v4 : Int32} {Q : Int32 → HS → Prop} {S : HS} (hI : IV S) (o_v0 : ob S v0 11)  (hq : ∀ (r : Int32) (T : HS), IV T → Gr S T → FRI [(11, 0), (11, 1), (11, 2)] [] S T → K2 S T → (NFq 11 2 c11 v0 T) → (K7 S T ∧ K8 S T) → Q r T) : P_X11_worst v0 v1 v2 v3 v4 Q S := cm_X11_worst (cm_X11_worst (Q3 := fun r T => (IV T ∧ Gr S T ∧ (FRI [(11, 0), (11, 1), (11, 2)] [] S T) ∧ K2 S T ∧ ((NFq 11 2 c11 v0 T))) ∧ K7 S T ∧ K8 S T) (kw_X11_worst (mn_X11_worst (Q := fun r T => IV T ∧ Gr S T ∧ (FRI [(11, 0), (11, 1), (11, 2)] [] S T) ∧ K2 S T ∧ ((NFq 11 2 c11 v0 T))) hI o_v0 (fun r T h0 h1 h2 h3 h4 => ⟨h0, h1, h2, h3, h4⟩))) (kx_X11_worst (mn_X11_worst (Q := fun r T => IV T ∧ Gr S T ∧ (FRI [(11, 0), (11, 1), (11, 2)] [] S T) ∧ K2 S T ∧ ((NFq 11 2 c11 v0 T))) hI o_v0 (fun r T h0 h1 h2 h3 h4 => ⟨h0, h1, h2, h3, h4⟩))) (fun r T a b => ⟨a.1, a.2, b.2⟩)) (mn_X11_worst (Q := fun r T => IV T ∧ Gr S T ∧ (FRI [(11, 0), (11, 1), (11, 2)] [] S T) ∧ K2 S T ∧ ((NFq 11 2 c11 v0 T))) hI o_v0 (fun r T h0 h1 h2 h3 h4 => ⟨h0, h1, h2, h3, h4⟩)) (fun r T h _ => hq r T h.1.1 h.1.2.1 h.1.2.2.1 h.1.2.2.2.1 h.1.2.2.2.2 h.2)
theorem mz_X9_air {v0 : Nat} {v1 : Int32} {v2 : Int32} {v3 : Int32} {Q : Int32 → HS → Prop} {S : HS} (hI : IV S) (o_v0 : ob S v0 9)  (hq : ∀ (r : Int32) (T : HS), IV T → Gr S T → FRI [(9, 9)] [] S T → K2 S T → (NFq 9 9 c9 v0 T) → (K7 S T ∧ K8 S T) → Q r T) : P_X9_air v0 v1 v2 v3 Q S := cm_X9_air (cm_X9_air (Q3 := fun r T => (IV T ∧ Gr S T ∧ (FRI [(9, 9)] [] S T) ∧ K2 S T ∧ ((NFq 9 9 c9 v0 T))) ∧ K7 S T ∧ K8 S T) (kw_X9_air (mn_X9_air (Q := fun r T => IV T ∧ Gr S T ∧ (FRI [(9, 9)] [] S T) ∧ K2 S T ∧ ((NFq 9 9 c9 v0 T))) hI o_v0 (fun r T h0 h1 h2 h3 h4 => ⟨h0, h1, h2, h3, h4⟩))) (kx_X9_air (mn_X9_air (Q := fun r T => IV T ∧ Gr S T ∧ (FRI [(9, 9)] [] S T) ∧ K2 S T ∧ ((NFq 9 9 c9 v0 T))) hI o_v0 (fun r T h0 h1 h2 h3 h4 => ⟨h0, h1, h2, h3, h4⟩))) (fun r T a b => ⟨a.1, a.2, b.2⟩)) (mn_X9_air (Q := fun r T => IV T ∧ Gr S T ∧ (FRI [(9, 9)] [] S T) ∧ K2 S T ∧ ((NFq 9 9 c9 v0 T))) hI o_v0 (fun r T h0 h1 h2 h3 h4 => ⟨h0, h1, h2, h3, h4⟩)) (fun r T h _ => hq r T h.1.1 h.1.2.1 h.1.2.2.1 h.1.2.2.2.1 h.1.2.2.2.2 h.2)
theorem mz_X9_back {v0 : Nat} {v1 : Int32} {Q : Int32 → HS → Prop} {S : HS} (hI : IV S) (o_v0 : ob S v0 9)  (hq : ∀ (r : Int32) (T : HS), IV T → Gr S T → FRI [(0, 2), (2, 0), (2, 1), (9, 9)] [] S T → bl r → K2 S T → (NFq 9 9 c9 v0 T) → (K7 S T ∧ K8 S T) → Q r T) : P_X9_back v0 v1 Q S := cm_X9_back (cm_X9_back (Q3 := fun r T => (IV T ∧ Gr S T ∧ (FRI [(0, 2), (2, 0), (2, 1), (9, 9)] [] S T) ∧ bl r ∧ K2 S T ∧ ((NFq 9 9 c9 v0 T))) ∧ K7 S T ∧ K8 S T) (kw_X9_back (mn_X9_back (Q := fun r T => IV T ∧ Gr S T ∧ (FRI [(0, 2), (2, 0), (2, 1), (9, 9)] [] S T) ∧ bl r ∧ K2 S T ∧ ((NFq 9 9 c9 v0 T))) hI o_v0 (fun r T h0 h1 h2 h3 h4 h5 => ⟨h0, h1, h2, h3, h4, h5⟩))) (kx_X9_back (mn_X9_back (Q := fun r T => IV T ∧ Gr S T ∧ (FRI [(0, 2), (2, 0), (2, 1), (9, 9)] [] S T) ∧ bl r ∧ K2 S T ∧ ((NFq 9 9 c9 v0 T))) hI o_v0 (fun r T h0 h1 h2 h3 h4 h5 => ⟨h0, h1, h2, h3, h4, h5⟩))) (fun r T a b => ⟨a.1, a.2, b.2⟩)) (mn_X9_back (Q := fun r T => IV T ∧ Gr S T ∧ (FRI [(0, 2), (2, 0), (2, 1), (9, 9)] [] S T) ∧ bl r ∧ K2 S T ∧ ((NFq 9 9 c9 v0 T))) hI o_v0 (fun r T h0 h1 h2 h3 h4 h5 => ⟨h0, h1, h2, h3, h4, h5⟩)) (fun r T h _ => hq r T h.1.1 h.1.2.1 h.1.2.2.1 h.1.2.2.2.1 h.1.2.2.2.2.1 h.1.2.2.2.2.2 h.2)
theorem mz_X9_best {v0 : Nat} {v1 : Int32} {v2 : Int32} {v3 : Int32} {v4 : Int32} {Q : Int32 → HS → Prop} {S : HS} (hI : IV S) (o_v0 : ob S v0 9)  (hq : ∀ (r : Int32) (T : HS), IV T → Gr S T → FRI [(9, 9)] [] S T → K2 S T → (NFq 9 9 c9 v0 T) → (K7 S T ∧ K8 S T) → Q r T) : P_X9_best v0 v1 v2 v3 v4 Q S := cm_X9_best (cm_X9_best (Q3 := fun r T => (IV T ∧ Gr S T ∧ (FRI [(9, 9)] [] S T) ∧ K2 S T ∧ ((NFq 9 9 c9 v0 T))) ∧ K7 S T ∧ K8 S T) (kw_X9_best (mn_X9_best (Q := fun r T => IV T ∧ Gr S T ∧ (FRI [(9, 9)] [] S T) ∧ K2 S T ∧ ((NFq 9 9 c9 v0 T))) hI o_v0 (fun r T h0 h1 h2 h3 h4 => ⟨h0, h1, h2, h3, h4⟩))) (kx_X9_best (mn_X9_best (Q := fun r T => IV T ∧ Gr S T ∧ (FRI [(9, 9)] [] S T) ∧ K2 S T ∧ ((NFq 9 9 c9 v0 T))) hI o_v0 (fun r T h0 h1 h2 h3 h4 => ⟨h0, h1, h2, h3, h4⟩))) (fun r T a b => ⟨a.1, a.2, b.2⟩)) (mn_X9_best (Q := fun r T => IV T ∧ Gr S T ∧ (FRI [(9, 9)] [] S T) ∧ K2 S T ∧ ((NFq 9 9 c9 v0 T))) hI o_v0 (fun r T h0 h1 h2 h3 h4 => ⟨h0, h1, h2, h3, h4⟩)) (fun r T h _ => hq r T h.1.1 h.1.2.1 h.1.2.2.1 h.1.2.2.2.1 h.1.2.2.2.2 h.2)
theorem mz_X9_day {v0 : Nat} {v1 : Int32} {v2 : Int32} {v3 : Int32} {v4 : Int32} {Q : Int32 → HS → Prop} {S : HS} (hI : IV S) (o_v0 : ob S v0 9)  (hq : ∀ (r : Int32) (T : HS), IV T → Gr S T → FRI [(0, 0), (0, 1), (0, 2), (0, 3), (2, 0), (2, 1), (9, 9)] [] S T → K2 S T → (NFq 9 9 c9 v0 T) → (K7 S T ∧ K8 S T) → Q r T) : P_X9_day v0 v1 v2 v3 v4 Q S := cm_X9_day (cm_X9_day (Q3 := fun r T => (IV T ∧ Gr S T ∧ (FRI [(0, 0), (0, 1), (0, 2), (0, 3), (2, 0), (2, 1), (9, 9)] [] S T) ∧ K2 S T ∧ ((NFq 9 9 c9 v0 T))) ∧ K7 S T ∧ K8 S T) (kw_X9_day (mn_X9_day (Q := fun r T => IV T ∧ Gr S T ∧ (FRI [(0, 0), (0, 1), (0, 2), (0, 3), (2, 0), (2, 1), (9, 9)] [] S T) ∧ K2 S T ∧ ((NFq 9 9 c9 v0 T))) hI o_v0 (fun r T h0 h1 h2 h3 h4 => ⟨h0, h1, h2, h3, h4⟩))) (kx_X9_day (mn_X9_day (Q := fun r T => IV T ∧ Gr S T ∧ (FRI [(0, 0), (0, 1), (0, 2), (0, 3), (2, 0), (2, 1), (9, 9)] [] S T) ∧ K2 S T ∧ ((NFq 9 9 c9 v0 T))) hI o_v0 (fun r T h0 h1 h2 h3 h4 => ⟨h0, h1, h2, h3, h4⟩))) (fun r T a b => ⟨a.1, a.2, b.2⟩)) (mn_X9_day (Q := fun r T => IV T ∧ Gr S T ∧ (FRI [(0, 0), (0, 1), (0, 2), (0, 3), (2, 0), (2, 1), (9, 9)] [] S T) ∧ K2 S T ∧ ((NFq 9 9 c9 v0 T))) hI o_v0 (fun r T h0 h1 h2 h3 h4 => ⟨h0, h1, h2, h3, h4⟩)) (fun r T h _ => hq r T h.1.1 h.1.2.1 h.1.2.2.1 h.1.2.2.2.1 h.1.2.2.2.2 h.2)
theorem mz_X9_driest {v0 : Nat} {v1 : Int32} {v2 : Int32} {v3 : Int32} {Q : Int32 → HS → Prop} {S : HS} (hI : IV S) (o_v0 : ob S v0 9)  (hq : ∀ (r : Int32) (T : HS), IV T → Gr S T → FRI [(9, 9)] [] S T → K2 S T → (NFq 9 9 c9 v0 T) → (K7 S T ∧ K8 S T) → Q r T) : P_X9_driest v0 v1 v2 v3 Q S := cm_X9_driest (cm_X9_driest (Q3 := fun r T => (IV T ∧ Gr S T ∧ (FRI [(9, 9)] [] S T) ∧ K2 S T ∧ ((NFq 9 9 c9 v0 T))) ∧ K7 S T ∧ K8 S T) (kw_X9_driest (mn_X9_driest (Q := fun r T => IV T ∧ Gr S T ∧ (FRI [(9, 9)] [] S T) ∧ K2 S T ∧ ((NFq 9 9 c9 v0 T))) hI o_v0 (fun r T h0 h1 h2 h3 h4 => ⟨h0, h1, h2, h3, h4⟩))) (kx_X9_driest (mn_X9_driest (Q := fun r T => IV T ∧ Gr S T ∧ (FRI [(9, 9)] [] S T) ∧ K2 S T ∧ ((NFq 9 9 c9 v0 T))) hI o_v0 (fun r T h0 h1 h2 h3 h4 => ⟨h0, h1, h2, h3, h4⟩))) (fun r T a b => ⟨a.1, a.2, b.2⟩)) (mn_X9_driest (Q := fun r T => IV T ∧ Gr S T ∧ (FRI [(9, 9)] [] S T) ∧ K2 S T ∧ ((NFq 9 9 c9 v0 T))) hI o_v0 (fun r T h0 h1 h2 h3 h4 => ⟨h0, h1, h2, h3, h4⟩)) (fun r T h _ => hq r T h.1.1 h.1.2.1 h.1.2.2.1 h.1.2.2.2.1 h.1.2.2.2.2 h.2)
theorem mz_X9_even {v0 : Nat} {v1 : Int32} {v2 : Int32} {v3 : Int32} {v4 : Int32} {Q : Int32 → HS → Prop} {S : HS} (hI : IV S) (o_v0 : ob S v0 9)  (hq : ∀ (r : Int32) (T : HS), IV T → Gr S T → FRI [(9, 9)] [] S T → K2 S T → (NFq 9 9 c9 v0 T) → (K7 S T ∧ K8 S T) → Q r T) : P_X9_even v0 v1 v2 v3 v4 Q S := cm_X9_even (cm_X9_even (Q3 := fun r T => (IV T ∧ Gr S T ∧ (FRI [(9, 9)] [] S T) ∧ K2 S T ∧ ((NFq 9 9 c9 v0 T))) ∧ K7 S T ∧ K8 S T) (kw_X9_even (mn_X9_even (Q := fun r T => IV T ∧ Gr S T ∧ (FRI [(9, 9)] [] S T) ∧ K2 S T ∧ ((NFq 9 9 c9 v0 T))) hI o_v0 (fun r T h0 h1 h2 h3 h4 => ⟨h0, h1, h2, h3, h4⟩))) (kx_X9_even (mn_X9_even (Q := fun r T => IV T ∧ Gr S T ∧ (FRI [(9, 9)] [] S T) ∧ K2 S T ∧ ((NFq 9 9 c9 v0 T))) hI o_v0 (fun r T h0 h1 h2 h3 h4 => ⟨h0, h1, h2, h3, h4⟩))) (fun r T a b => ⟨a.1, a.2, b.2⟩)) (mn_X9_even (Q := fun r T => IV T ∧ Gr S T ∧ (FRI [(9, 9)] [] S T) ∧ K2 S T ∧ ((NFq 9 9 c9 v0 T))) hI o_v0 (fun r T h0 h1 h2 h3 h4 => ⟨h0, h1, h2, h3, h4⟩)) (fun r T h _ => hq r T h.1.1 h.1.2.1 h.1.2.2.1 h.1.2.2.2.1 h.1.2.2.2.2 h.2)
theorem mz_X9_face {v0 : Nat} {v1 : Int32} {v2 : Int32} {v3 : Int32} {v4 : Int32} {v5 : Int32} {v6 : Int32} {v7 : Int32} {Q : Int64 → HS → Prop} {S : HS} (hI : IV S) (o_v0 : ob S v0 9)  (hq : ∀ (r : Int64) (T : HS), IV T → Gr S T → FRI [(9, 9)] [] S T → K2 S T → (NFq 9 9 c9 v0 T) → (K7 S T ∧ K8 S T) → Q r T) : P_X9_face v0 v1 v2 v3 v4 v5 v6 v7 Q S := cm_X9_face (cm_X9_face (Q3 := fun r T => (IV T ∧ Gr S T ∧ (FRI [(9, 9)] [] S T) ∧ K2 S T ∧ ((NFq 9 9 c9 v0 T))) ∧ K7 S T ∧ K8 S T) (kw_X9_face (mn_X9_face (Q := fun r T => IV T ∧ Gr S T ∧ (FRI [(9, 9)] [] S T) ∧ K2 S T ∧ ((NFq 9 9 c9 v0 T))) hI o_v0 (fun r T h0 h1 h2 h3 h4 => ⟨h0, h1, h2, h3, h4⟩))) (kx_X9_face (mn_X9_face (Q := fun r T => IV T ∧ Gr S T ∧ (FRI [(9, 9)] [] S T) ∧ K2 S T ∧ ((NFq 9 9 c9 v0 T))) hI o_v0 (fun r T h0 h1 h2 h3 h4 => ⟨h0, h1, h2, h3, h4⟩))) (fun r T a b => ⟨a.1, a.2, b.2⟩)) (mn_X9_face (Q := fun r T => IV T ∧ Gr S T ∧ (FRI [(9, 9)] [] S T) ∧ K2 S T ∧ ((NFq 9 9 c9 v0 T))) hI o_v0 (fun r T h0 h1 h2 h3 h4 => ⟨h0, h1, h2, h3, h4⟩)) (fun r T h _ => hq r T h.1.1 h.1.2.1 h.1.2.2.1 h.1.2.2.2.1 h.1.2.2.2.2 h.2)
theorem mz_X9_feed {v0 : Nat} {v1 : Int32} {v2 : Int32} {v3 : Int32} {v4 : Int32} {v5 : Int32} {Q : Int32 → HS → Prop} {S : HS} (hI : IV S) (o_v0 : ob S v0 9) {f : Nat → Int32} {t a : Nat} (P : TP 0 1 f t a v0 S) (ht : t ≤ 900)  (hq : ∀ (r : Int32) (T : HS), IV T → Gr S T → FRI [(9, 1)] [] S T → ((900 < fI S v0 1 + 20 → r = -1 ∧ fI T v0 1 = fI S v0 1) ∧ (fI S v0 1 + 20 ≤ 900 → r = fI T v0 1 ∧ fI T v0 1 = fI S v0 1 + 20)) → (FT [1] a v0 S T ∧ ((t + 20 ≤ 900 ∧ r = nI (t + 20) ∧ TP 0 1 (f20 f t v1 v2 v3 v4 v5) (t + 20) a v0 T) ∨ (900 < t + 20 ∧ r = -1 ∧ S = T))) → (K7 S T ∧ K8 S T) → Q r T) : P_X9_feed v0 v1 v2 v3 v4 v5 Q S := cm_X9_feed (cm_X9_feed (Q3 := fun r T => (IV T ∧ Gr S T ∧ (FRI [(9, 1)] [] S T) ∧ (((900 < fI S v0 1 + 20 → r = -1 ∧ fI T v0 1 = fI S v0 1) ∧ (fI S v0 1 + 20 ≤ 900 → r = fI T v0 1 ∧ fI T v0 1 = fI S v0 1 + 20))) ∧ ((FT [1] a v0 S T ∧ ((t + 20 ≤ 900 ∧ r = nI (t + 20) ∧ TP 0 1 (f20 f t v1 v2 v3 v4 v5) (t + 20) a v0 T) ∨ (900 < t + 20 ∧ r = -1 ∧ S = T))))) ∧ K7 S T ∧ K8 S T) (kw_X9_feed (ml_X9_feed (Q := fun r T => IV T ∧ Gr S T ∧ (FRI [(9, 1)] [] S T) ∧ (((900 < fI S v0 1 + 20 → r = -1 ∧ fI T v0 1 = fI S v0 1) ∧ (fI S v0 1 + 20 ≤ 900 → r = fI T v0 1 ∧ fI T v0 1 = fI S v0 1 + 20))) ∧ ((FT [1] a v0 S T ∧ ((t + 20 ≤ 900 ∧ r = nI (t + 20) ∧ TP 0 1 (f20 f t v1 v2 v3 v4 v5) (t + 20) a v0 T) ∨ (900 < t + 20 ∧ r = -1 ∧ S = T))))) hI o_v0 P ht (fun r T h0 h1 h2 h3 h4 => ⟨h0, h1, h2, h3, h4⟩))) (kx_X9_feed (ml_X9_feed (Q := fun r T => IV T ∧ Gr S T ∧ (FRI [(9, 1)] [] S T) ∧ (((900 < fI S v0 1 + 20 → r = -1 ∧ fI T v0 1 = fI S v0 1) ∧ (fI S v0 1 + 20 ≤ 900 → r = fI T v0 1 ∧ fI T v0 1 = fI S v0 1 + 20))) ∧ ((FT [1] a v0 S T ∧ ((t + 20 ≤ 900 ∧ r = nI (t + 20) ∧ TP 0 1 (f20 f t v1 v2 v3 v4 v5) (t + 20) a v0 T) ∨ (900 < t + 20 ∧ r = -1 ∧ S = T))))) hI o_v0 P ht (fun r T h0 h1 h2 h3 h4 => ⟨h0, h1, h2, h3, h4⟩))) (fun r T a b => ⟨a.1, a.2, b.2⟩)) (ml_X9_feed (Q := fun r T => IV T ∧ Gr S T ∧ (FRI [(9, 1)] [] S T) ∧ (((900 < fI S v0 1 + 20 → r = -1 ∧ fI T v0 1 = fI S v0 1) ∧ (fI S v0 1 + 20 ≤ 900 → r = fI T v0 1 ∧ fI T v0 1 = fI S v0 1 + 20))) ∧ ((FT [1] a v0 S T ∧ ((t + 20 ≤ 900 ∧ r = nI (t + 20) ∧ TP 0 1 (f20 f t v1 v2 v3 v4 v5) (t + 20) a v0 T) ∨ (900 < t + 20 ∧ r = -1 ∧ S = T))))) hI o_v0 P ht (fun r T h0 h1 h2 h3 h4 => ⟨h0, h1, h2, h3, h4⟩)) (fun r T h _ => hq r T h.1.1 h.1.2.1 h.1.2.2.1 h.1.2.2.2.1 h.1.2.2.2.2 h.2)
theorem mt_X9_first {v0 : Nat} {v1 : Int32} {v2 : Int32} {v3 : Int32} {v4 : Int32} {v5 : Int32} {v6 : Int32} {Q : Int32 → HS → Prop} {S : HS} (hI : IV S) (o_v0 : ob S v0 9) {rr w1 w2 l9 p9 q9 : Nat} {A : AS} {G : GC} (J : CJ v0 rr w1 w2 S) (hc : Cnt w1 A S) (ct : CtB w1 A G S S) (ab : ABd A) (gb : GBd A G) (lg : LG v0 l9 p9 q9 S) (hq : ∀ (r : Int32) (T : HS), IV T → Gr S T → FRI [(9, 9)] [] S T → K2 S T → (NFq 9 9 c9 v0 T) → ((K7 S T ∧ K8 S T) ∧ r = tellfirst A G v1 v2 v3 v4 v5 v6) → Q r T) : P_X9_first v0 v1 v2 v3 v4 v5 v6 Q S := cm_X9_first (cm_X9_first (Q3 := fun r T => (IV T ∧ Gr S T ∧ (FRI [(9, 9)] [] S T) ∧ K2 S T ∧ ((NFq 9 9 c9 v0 T))) ∧ (K7 S T ∧ K8 S T) ∧ r = tellfirst A G v1 v2 v3 v4 v5 v6) (cm_X9_first (Q3 := fun r T => (IV T ∧ Gr S T ∧ (FRI [(9, 9)] [] S T) ∧ K2 S T ∧ ((NFq 9 9 c9 v0 T))) ∧ K7 S T ∧ K8 S T) (kw_X9_first (mn_X9_first (Q := fun r T => IV T ∧ Gr S T ∧ (FRI [(9, 9)] [] S T) ∧ K2 S T ∧ ((NFq 9 9 c9 v0 T))) hI o_v0 (fun r T h0 h1 h2 h3 h4 => ⟨h0, h1, h2, h3, h4⟩))) (kx_X9_first (mn_X9_first (Q := fun r T => IV T ∧ Gr S T ∧ (FRI [(9, 9)] [] S T) ∧ K2 S T ∧ ((NFq 9 9 c9 v0 T))) hI o_v0 (fun r T h0 h1 h2 h3 h4 => ⟨h0, h1, h2, h3, h4⟩))) (fun r T a b => ⟨a.1, a.2, b.2⟩)) (tl_X9_first hI J hc ct ab gb lg (mn_X9_first (Q := fun r T => IV T ∧ Gr S T ∧ (FRI [(9, 9)] [] S T) ∧ K2 S T ∧ ((NFq 9 9 c9 v0 T))) hI o_v0 (fun r T h0 h1 h2 h3 h4 => ⟨h0, h1, h2, h3, h4⟩))) (fun r T a b => ⟨a.1, a.2, b.2⟩)) (mn_X9_first (Q := fun r T => IV T ∧ Gr S T ∧ (FRI [(9, 9)] [] S T) ∧ K2 S T ∧ ((NFq 9 9 c9 v0 T))) hI o_v0 (fun r T h0 h1 h2 h3 h4 => ⟨h0, h1, h2, h3, h4⟩)) (fun r T h _ => hq r T h.1.1 h.1.2.1 h.1.2.2.1 h.1.2.2.2.1 h.1.2.2.2.2 h.2)
theorem mz_X9_fit {v0 : Nat} {v1 : Int32} {v2 : Int32} {Q : Int32 → HS → Prop} {S : HS} (hI : IV S) (o_v0 : ob S v0 9)  (hq : ∀ (r : Int32) (T : HS), IV T → Gr S T → FRI [(9, 9)] [] S T → K2 S T → (NFq 9 9 c9 v0 T) → (K7 S T ∧ K8 S T) → Q r T) : P_X9_fit v0 v1 v2 Q S := cm_X9_fit (cm_X9_fit (Q3 := fun r T => (IV T ∧ Gr S T ∧ (FRI [(9, 9)] [] S T) ∧ K2 S T ∧ ((NFq 9 9 c9 v0 T))) ∧ K7 S T ∧ K8 S T) (kw_X9_fit (mn_X9_fit (Q := fun r T => IV T ∧ Gr S T ∧ (FRI [(9, 9)] [] S T) ∧ K2 S T ∧ ((NFq 9 9 c9 v0 T))) hI o_v0 (fun r T h0 h1 h2 h3 h4 => ⟨h0, h1, h2, h3, h4⟩))) (kx_X9_fit (mn_X9_fit (Q := fun r T => IV T ∧ Gr S T ∧ (FRI [(9, 9)] [] S T) ∧ K2 S T ∧ ((NFq 9 9 c9 v0 T))) hI o_v0 (fun r T h0 h1 h2 h3 h4 => ⟨h0, h1, h2, h3, h4⟩))) (fun r T a b => ⟨a.1, a.2, b.2⟩)) (mn_X9_fit (Q := fun r T => IV T ∧ Gr S T ∧ (FRI [(9, 9)] [] S T) ∧ K2 S T ∧ ((NFq 9 9 c9 v0 T))) hI o_v0 (fun r T h0 h1 h2 h3 h4 => ⟨h0, h1, h2, h3, h4⟩)) (fun r T h _ => hq r T h.1.1 h.1.2.1 h.1.2.2.1 h.1.2.2.2.1 h.1.2.2.2.2 h.2)
theorem mz_X9_fits {v0 : Nat} {v1 : Int32} {Q : Int32 → HS → Prop} {S : HS} (hI : IV S) (o_v0 : ob S v0 9)  (hq : ∀ (r : Int32) (T : HS), IV T → Gr S T → FRI [(9, 9)] [] S T → K2 S T → (NFq 9 9 c9 v0 T) → (K7 S T ∧ K8 S T) → Q r T) : P_X9_fits v0 v1 Q S := cm_X9_fits (cm_X9_fits (Q3 := fun r T => (IV T ∧ Gr S T ∧ (FRI [(9, 9)] [] S T) ∧ K2 S T ∧ ((NFq 9 9 c9 v0 T))) ∧ K7 S T ∧ K8 S T) (kw_X9_fits (mn_X9_fits (Q := fun r T => IV T ∧ Gr S T ∧ (FRI [(9, 9)] [] S T) ∧ K2 S T ∧ ((NFq 9 9 c9 v0 T))) hI o_v0 (fun r T h0 h1 h2 h3 h4 => ⟨h0, h1, h2, h3, h4⟩))) (kx_X9_fits (mn_X9_fits (Q := fun r T => IV T ∧ Gr S T ∧ (FRI [(9, 9)] [] S T) ∧ K2 S T ∧ ((NFq 9 9 c9 v0 T))) hI o_v0 (fun r T h0 h1 h2 h3 h4 => ⟨h0, h1, h2, h3, h4⟩))) (fun r T a b => ⟨a.1, a.2, b.2⟩)) (mn_X9_fits (Q := fun r T => IV T ∧ Gr S T ∧ (FRI [(9, 9)] [] S T) ∧ K2 S T ∧ ((NFq 9 9 c9 v0 T))) hI o_v0 (fun r T h0 h1 h2 h3 h4 => ⟨h0, h1, h2, h3, h4⟩)) (fun r T h _ => hq r T h.1.1 h.1.2.1 h.1.2.2.1 h.1.2.2.2.1 h.1.2.2.2.2 h.2)
theorem mz_X9_go {v0 : Nat} {v1 : Int32} {v2 : Int32} {v3 : Int32} {Q : Int32 → HS → Prop} {S : HS} (hI : IV S) (o_v0 : ob S v0 9)  (hq : ∀ (r : Int32) (T : HS), IV T → Gr S T → FRI [(0, 2), (2, 0), (2, 1), (9, 9)] [] S T → K2 S T → (NFq 9 9 c9 v0 T) → (K7 S T ∧ K8 S T) → Q r T) : P_X9_go v0 v1 v2 v3 Q S := cm_X9_go (cm_X9_go (Q3 := fun r T => (IV T ∧ Gr S T ∧ (FRI [(0, 2), (2, 0), (2, 1), (9, 9)] [] S T) ∧ K2 S T ∧ ((NFq 9 9 c9 v0 T))) ∧ K7 S T ∧ K8 S T) (kw_X9_go (mn_X9_go (Q := fun r T => IV T ∧ Gr S T ∧ (FRI [(0, 2), (2, 0), (2, 1), (9, 9)] [] S T) ∧ K2 S T ∧ ((NFq 9 9 c9 v0 T))) hI o_v0 (fun r T h0 h1 h2 h3 h4 => ⟨h0, h1, h2, h3, h4⟩))) (kx_X9_go (mn_X9_go (Q := fun r T => IV T ∧ Gr S T ∧ (FRI [(0, 2), (2, 0), (2, 1), (9, 9)] [] S T) ∧ K2 S T ∧ ((NFq 9 9 c9 v0 T))) hI o_v0 (fun r T h0 h1 h2 h3 h4 => ⟨h0, h1, h2, h3, h4⟩))) (fun r T a b => ⟨a.1, a.2, b.2⟩)) (mn_X9_go (Q := fun r T => IV T ∧ Gr S T ∧ (FRI [(0, 2), (2, 0), (2, 1), (9, 9)] [] S T) ∧ K2 S T ∧ ((NFq 9 9 c9 v0 T))) hI o_v0 (fun r T h0 h1 h2 h3 h4 => ⟨h0, h1, h2, h3, h4⟩)) (fun r T h _ => hq r T h.1.1 h.1.2.1 h.1.2.2.1 h.1.2.2.2.1 h.1.2.2.2.2 h.2)
theorem mz_X9_got {v0 : Nat} {v1 : Int32} {v2 : Int32} {Q : Int64 → HS → Prop} {S : HS} (hI : IV S) (o_v0 : ob S v0 9)  (hq : ∀ (r : Int64) (T : HS), IV T → Gr S T → FRI [(9, 9)] [] S T → K2 S T → (NFq 9 9 c9 v0 T) → (K7 S T ∧ K8 S T) → Q r T) : P_X9_got v0 v1 v2 Q S := cm_X9_got (cm_X9_got (Q3 := fun r T => (IV T ∧ Gr S T ∧ (FRI [(9, 9)] [] S T) ∧ K2 S T ∧ ((NFq 9 9 c9 v0 T))) ∧ K7 S T ∧ K8 S T) (kw_X9_got (mn_X9_got (Q := fun r T => IV T ∧ Gr S T ∧ (FRI [(9, 9)] [] S T) ∧ K2 S T ∧ ((NFq 9 9 c9 v0 T))) hI o_v0 (fun r T h0 h1 h2 h3 h4 => ⟨h0, h1, h2, h3, h4⟩))) (kx_X9_got (mn_X9_got (Q := fun r T => IV T ∧ Gr S T ∧ (FRI [(9, 9)] [] S T) ∧ K2 S T ∧ ((NFq 9 9 c9 v0 T))) hI o_v0 (fun r T h0 h1 h2 h3 h4 => ⟨h0, h1, h2, h3, h4⟩))) (fun r T a b => ⟨a.1, a.2, b.2⟩)) (mn_X9_got (Q := fun r T => IV T ∧ Gr S T ∧ (FRI [(9, 9)] [] S T) ∧ K2 S T ∧ ((NFq 9 9 c9 v0 T))) hI o_v0 (fun r T h0 h1 h2 h3 h4 => ⟨h0, h1, h2, h3, h4⟩)) (fun r T h _ => hq r T h.1.1 h.1.2.1 h.1.2.2.1 h.1.2.2.2.1 h.1.2.2.2.2 h.2)
theorem mz_X9_held {v0 : Nat} {v1 : Int32} {v2 : Int32} {v3 : Int32} {v4 : Int32} {v5 : Int32} {Q : Int32 → HS → Prop} {S : HS} (hI : IV S) (o_v0 : ob S v0 9)  (hq : ∀ (r : Int32) (T : HS), IV T → Gr S T → FRI [(9, 9)] [] S T → K2 S T → (NFq 9 9 c9 v0 T) → (K7 S T ∧ K8 S T) → Q r T) : P_X9_held v0 v1 v2 v3 v4 v5 Q S := cm_X9_held (cm_X9_held (Q3 := fun r T => (IV T ∧ Gr S T ∧ (FRI [(9, 9)] [] S T) ∧ K2 S T ∧ ((NFq 9 9 c9 v0 T))) ∧ K7 S T ∧ K8 S T) (kw_X9_held (mn_X9_held (Q := fun r T => IV T ∧ Gr S T ∧ (FRI [(9, 9)] [] S T) ∧ K2 S T ∧ ((NFq 9 9 c9 v0 T))) hI o_v0 (fun r T h0 h1 h2 h3 h4 => ⟨h0, h1, h2, h3, h4⟩))) (kx_X9_held (mn_X9_held (Q := fun r T => IV T ∧ Gr S T ∧ (FRI [(9, 9)] [] S T) ∧ K2 S T ∧ ((NFq 9 9 c9 v0 T))) hI o_v0 (fun r T h0 h1 h2 h3 h4 => ⟨h0, h1, h2, h3, h4⟩))) (fun r T a b => ⟨a.1, a.2, b.2⟩)) (mn_X9_held (Q := fun r T => IV T ∧ Gr S T ∧ (FRI [(9, 9)] [] S T) ∧ K2 S T ∧ ((NFq 9 9 c9 v0 T))) hI o_v0 (fun r T h0 h1 h2 h3 h4 => ⟨h0, h1, h2, h3, h4⟩)) (fun r T h _ => hq r T h.1.1 h.1.2.1 h.1.2.2.1 h.1.2.2.2.1 h.1.2.2.2.2 h.2)
theorem mz_X9_least {v0 : Nat} {v1 : Int32} {v2 : Int32} {v3 : Int32} {v4 : Int32} {v5 : Int32} {v6 : Int32} {Q : Int64 → HS → Prop} {S : HS} (hI : IV S) (o_v0 : ob S v0 9)  (hq : ∀ (r : Int64) (T : HS), IV T → Gr S T → FRI [(7, 3), (7, 9), (7, 10), (7, 11), (7, 12), (7, 13), (9, 9)] [(7, 0), (7, 1), (7, 2), (7, 4), (7, 5), (7, 6), (7, 7), (7, 8)] S T → K2 S T → (NFq 9 9 c9 v0 T) → (K7 S T ∧ K8 S T) → Q r T) : P_X9_least v0 v1 v2 v3 v4 v5 v6 Q S := cm_X9_least (cm_X9_least (Q3 := fun r T => (IV T ∧ Gr S T ∧ (FRI [(7, 3), (7, 9), (7, 10), (7, 11), (7, 12), (7, 13), (9, 9)] [(7, 0), (7, 1), (7, 2), (7, 4), (7, 5), (7, 6), (7, 7), (7, 8)] S T) ∧ K2 S T ∧ ((NFq 9 9 c9 v0 T))) ∧ K7 S T ∧ K8 S T) (kw_X9_least (mn_X9_least (Q := fun r T => IV T ∧ Gr S T ∧ (FRI [(7, 3), (7, 9), (7, 10), (7, 11), (7, 12), (7, 13), (9, 9)] [(7, 0), (7, 1), (7, 2), (7, 4), (7, 5), (7, 6), (7, 7), (7, 8)] S T) ∧ K2 S T ∧ ((NFq 9 9 c9 v0 T))) hI o_v0 (fun r T h0 h1 h2 h3 h4 => ⟨h0, h1, h2, h3, h4⟩))) (kx_X9_least (mn_X9_least (Q := fun r T => IV T ∧ Gr S T ∧ (FRI [(7, 3), (7, 9), (7, 10), (7, 11), (7, 12), (7, 13), (9, 9)] [(7, 0), (7, 1), (7, 2), (7, 4), (7, 5), (7, 6), (7, 7), (7, 8)] S T) ∧ K2 S T ∧ ((NFq 9 9 c9 v0 T))) hI o_v0 (fun r T h0 h1 h2 h3 h4 => ⟨h0, h1, h2, h3, h4⟩))) (fun r T a b => ⟨a.1, a.2, b.2⟩)) (mn_X9_least (Q := fun r T => IV T ∧ Gr S T ∧ (FRI [(7, 3), (7, 9), (7, 10), (7, 11), (7, 12), (7, 13), (9, 9)] [(7, 0), (7, 1), (7, 2), (7, 4), (7, 5), (7, 6), (7, 7), (7, 8)] S T) ∧ K2 S T ∧ ((NFq 9 9 c9 v0 T))) hI o_v0 (fun r T h0 h1 h2 h3 h4 => ⟨h0, h1, h2, h3, h4⟩)) (fun r T h _ => hq r T h.1.1 h.1.2.1 h.1.2.2.1 h.1.2.2.2.1 h.1.2.2.2.2 h.2)
theorem mz_X9_lee {v0 : Nat} {v1 : Int32} {v2 : Int32} {v3 : Int32} {v4 : Int32} {v5 : Int32} {v6 : Int32} {v7 : Int32} {Q : Int64 → HS → Prop} {S : HS} (hI : IV S) (o_v0 : ob S v0 9)  (hq : ∀ (r : Int64) (T : HS), IV T → Gr S T → FRI [(9, 9)] [] S T → K2 S T → (NFq 9 9 c9 v0 T) → (K7 S T ∧ K8 S T) → Q r T) : P_X9_lee v0 v1 v2 v3 v4 v5 v6 v7 Q S := cm_X9_lee (cm_X9_lee (Q3 := fun r T => (IV T ∧ Gr S T ∧ (FRI [(9, 9)] [] S T) ∧ K2 S T ∧ ((NFq 9 9 c9 v0 T))) ∧ K7 S T ∧ K8 S T) (kw_X9_lee (mn_X9_lee (Q := fun r T => IV T ∧ Gr S T ∧ (FRI [(9, 9)] [] S T) ∧ K2 S T ∧ ((NFq 9 9 c9 v0 T))) hI o_v0 (fun r T h0 h1 h2 h3 h4 => ⟨h0, h1, h2, h3, h4⟩))) (kx_X9_lee (mn_X9_lee (Q := fun r T => IV T ∧ Gr S T ∧ (FRI [(9, 9)] [] S T) ∧ K2 S T ∧ ((NFq 9 9 c9 v0 T))) hI o_v0 (fun r T h0 h1 h2 h3 h4 => ⟨h0, h1, h2, h3, h4⟩))) (fun r T a b => ⟨a.1, a.2, b.2⟩)) (mn_X9_lee (Q := fun r T => IV T ∧ Gr S T ∧ (FRI [(9, 9)] [] S T) ∧ K2 S T ∧ ((NFq 9 9 c9 v0 T))) hI o_v0 (fun r T h0 h1 h2 h3 h4 => ⟨h0, h1, h2, h3, h4⟩)) (fun r T h _ => hq r T h.1.1 h.1.2.1 h.1.2.2.1 h.1.2.2.2.1 h.1.2.2.2.2 h.2)
theorem mz_X9_lies {v0 : Nat} {Q : Int32 → HS → Prop} {S : HS} (hI : IV S) (o_v0 : ob S v0 9)  (hq : ∀ (r : Int32) (T : HS), IV T → Gr S T → FRI [(9, 9)] [] S T → K2 S T → (NFq 9 9 c9 v0 T) → (K7 S T ∧ K8 S T) → Q r T) : P_X9_lies v0 Q S := cm_X9_lies (cm_X9_lies (Q3 := fun r T => (IV T ∧ Gr S T ∧ (FRI [(9, 9)] [] S T) ∧ K2 S T ∧ ((NFq 9 9 c9 v0 T))) ∧ K7 S T ∧ K8 S T) (kw_X9_lies (mn_X9_lies (Q := fun r T => IV T ∧ Gr S T ∧ (FRI [(9, 9)] [] S T) ∧ K2 S T ∧ ((NFq 9 9 c9 v0 T))) hI o_v0 (fun r T h0 h1 h2 h3 h4 => ⟨h0, h1, h2, h3, h4⟩))) (kx_X9_lies (mn_X9_lies (Q := fun r T => IV T ∧ Gr S T ∧ (FRI [(9, 9)] [] S T) ∧ K2 S T ∧ ((NFq 9 9 c9 v0 T))) hI o_v0 (fun r T h0 h1 h2 h3 h4 => ⟨h0, h1, h2, h3, h4⟩))) (fun r T a b => ⟨a.1, a.2, b.2⟩)) (mn_X9_lies (Q := fun r T => IV T ∧ Gr S T ∧ (FRI [(9, 9)] [] S T) ∧ K2 S T ∧ ((NFq 9 9 c9 v0 T))) hI o_v0 (fun r T h0 h1 h2 h3 h4 => ⟨h0, h1, h2, h3, h4⟩)) (fun r T h _ => hq r T h.1.1 h.1.2.1 h.1.2.2.1 h.1.2.2.2.1 h.1.2.2.2.2 h.2)
theorem mz_X9_mark {v0 : Nat} {Q : Int32 → HS → Prop} {S : HS} (hI : IV S) (o_v0 : ob S v0 9)  (hq : ∀ (r : Int32) (T : HS), IV T → Gr S T → FRI [(0, 3), (2, 0), (2, 1), (9, 9)] [] S T → K2 S T → (NFq 9 9 c9 v0 T) → (K7 S T ∧ K8 S T) → Q r T) : P_X9_mark v0 Q S := cm_X9_mark (cm_X9_mark (Q3 := fun r T => (IV T ∧ Gr S T ∧ (FRI [(0, 3), (2, 0), (2, 1), (9, 9)] [] S T) ∧ K2 S T ∧ ((NFq 9 9 c9 v0 T))) ∧ K7 S T ∧ K8 S T) (kw_X9_mark (mn_X9_mark (Q := fun r T => IV T ∧ Gr S T ∧ (FRI [(0, 3), (2, 0), (2, 1), (9, 9)] [] S T) ∧ K2 S T ∧ ((NFq 9 9 c9 v0 T))) hI o_v0 (fun r T h0 h1 h2 h3 h4 => ⟨h0, h1, h2, h3, h4⟩))) (kx_X9_mark (mn_X9_mark (Q := fun r T => IV T ∧ Gr S T ∧ (FRI [(0, 3), (2, 0), (2, 1), (9, 9)] [] S T) ∧ K2 S T ∧ ((NFq 9 9 c9 v0 T))) hI o_v0 (fun r T h0 h1 h2 h3 h4 => ⟨h0, h1, h2, h3, h4⟩))) (fun r T a b => ⟨a.1, a.2, b.2⟩)) (mn_X9_mark (Q := fun r T => IV T ∧ Gr S T ∧ (FRI [(0, 3), (2, 0), (2, 1), (9, 9)] [] S T) ∧ K2 S T ∧ ((NFq 9 9 c9 v0 T))) hI o_v0 (fun r T h0 h1 h2 h3 h4 => ⟨h0, h1, h2, h3, h4⟩)) (fun r T h _ => hq r T h.1.1 h.1.2.1 h.1.2.2.1 h.1.2.2.2.1 h.1.2.2.2.2 h.2)
theorem mz_X9_mean {v0 : Nat} {v1 : Int32} {v2 : Int32} {v3 : Int32} {v4 : Int32} {v5 : Int32} {v6 : Int32} {Q : Int64 → HS → Prop} {S : HS} (hI : IV S) (o_v0 : ob S v0 9)  (hq : ∀ (r : Int64) (T : HS), IV T → Gr S T → FRI [(9, 9)] [] S T → K2 S T → (NFq 9 9 c9 v0 T) → (K7 S T ∧ K8 S T) → Q r T) : P_X9_mean v0 v1 v2 v3 v4 v5 v6 Q S := cm_X9_mean (cm_X9_mean (Q3 := fun r T => (IV T ∧ Gr S T ∧ (FRI [(9, 9)] [] S T) ∧ K2 S T ∧ ((NFq 9 9 c9 v0 T))) ∧ K7 S T ∧ K8 S T) (kw_X9_mean (mn_X9_mean (Q := fun r T => IV T ∧ Gr S T ∧ (FRI [(9, 9)] [] S T) ∧ K2 S T ∧ ((NFq 9 9 c9 v0 T))) hI o_v0 (fun r T h0 h1 h2 h3 h4 => ⟨h0, h1, h2, h3, h4⟩))) (kx_X9_mean (mn_X9_mean (Q := fun r T => IV T ∧ Gr S T ∧ (FRI [(9, 9)] [] S T) ∧ K2 S T ∧ ((NFq 9 9 c9 v0 T))) hI o_v0 (fun r T h0 h1 h2 h3 h4 => ⟨h0, h1, h2, h3, h4⟩))) (fun r T a b => ⟨a.1, a.2, b.2⟩)) (mn_X9_mean (Q := fun r T => IV T ∧ Gr S T ∧ (FRI [(9, 9)] [] S T) ∧ K2 S T ∧ ((NFq 9 9 c9 v0 T))) hI o_v0 (fun r T h0 h1 h2 h3 h4 => ⟨h0, h1, h2, h3, h4⟩)) (fun r T h _ => hq r T h.1.1 h.1.2.1 h.1.2.2.1 h.1.2.2.2.1 h.1.2.2.2.2 h.2)
theorem mz_X9_minutes {v0 : Nat} {v1 : Int32} {v2 : Int32} {v3 : Int32} {Q : Int32 → HS → Prop} {S : HS} (hI : IV S) (o_v0 : ob S v0 9)  (hq : ∀ (r : Int32) (T : HS), IV T → Gr S T → FRI [(9, 9)] [] S T → K2 S T → (NFq 9 9 c9 v0 T) → (K7 S T ∧ K8 S T) → Q r T) : P_X9_minutes v0 v1 v2 v3 Q S := cm_X9_minutes (cm_X9_minutes (Q3 := fun r T => (IV T ∧ Gr S T ∧ (FRI [(9, 9)] [] S T) ∧ K2 S T ∧ ((NFq 9 9 c9 v0 T))) ∧ K7 S T ∧ K8 S T) (kw_X9_minutes (mn_X9_minutes (Q := fun r T => IV T ∧ Gr S T ∧ (FRI [(9, 9)] [] S T) ∧ K2 S T ∧ ((NFq 9 9 c9 v0 T))) hI o_v0 (fun r T h0 h1 h2 h3 h4 => ⟨h0, h1, h2, h3, h4⟩))) (kx_X9_minutes (mn_X9_minutes (Q := fun r T => IV T ∧ Gr S T ∧ (FRI [(9, 9)] [] S T) ∧ K2 S T ∧ ((NFq 9 9 c9 v0 T))) hI o_v0 (fun r T h0 h1 h2 h3 h4 => ⟨h0, h1, h2, h3, h4⟩))) (fun r T a b => ⟨a.1, a.2, b.2⟩)) (mn_X9_minutes (Q := fun r T => IV T ∧ Gr S T ∧ (FRI [(9, 9)] [] S T) ∧ K2 S T ∧ ((NFq 9 9 c9 v0 T))) hI o_v0 (fun r T h0 h1 h2 h3 h4 => ⟨h0, h1, h2, h3, h4⟩)) (fun r T h _ => hq r T h.1.1 h.1.2.1 h.1.2.2.1 h.1.2.2.2.1 h.1.2.2.2.2 h.2)
theorem mz_X9_off {v0 : Nat} {v1 : Int32} {v2 : Int32} {v3 : Int32} {v4 : Int32} {Q : Int32 → HS → Prop} {S : HS} (hI : IV S) (o_v0 : ob S v0 9)  (hq : ∀ (r : Int32) (T : HS), IV T → Gr S T → FRI [(7, 3), (7, 9), (7, 10), (7, 11), (7, 12), (7, 13), (9, 9)] [(7, 0), (7, 1), (7, 2), (7, 4), (7, 5), (7, 6), (7, 7), (7, 8)] S T → K2 S T → (NFq 9 9 c9 v0 T) → (K7 S T ∧ K8 S T) → Q r T) : P_X9_off v0 v1 v2 v3 v4 Q S := cm_X9_off (cm_X9_off (Q3 := fun r T => (IV T ∧ Gr S T ∧ (FRI [(7, 3), (7, 9), (7, 10), (7, 11), (7, 12), (7, 13), (9, 9)] [(7, 0), (7, 1), (7, 2), (7, 4), (7, 5), (7, 6), (7, 7), (7, 8)] S T) ∧ K2 S T ∧ ((NFq 9 9 c9 v0 T))) ∧ K7 S T ∧ K8 S T) (kw_X9_off (mn_X9_off (Q := fun r T => IV T ∧ Gr S T ∧ (FRI [(7, 3), (7, 9), (7, 10), (7, 11), (7, 12), (7, 13), (9, 9)] [(7, 0), (7, 1), (7, 2), (7, 4), (7, 5), (7, 6), (7, 7), (7, 8)] S T) ∧ K2 S T ∧ ((NFq 9 9 c9 v0 T))) hI o_v0 (fun r T h0 h1 h2 h3 h4 => ⟨h0, h1, h2, h3, h4⟩))) (kx_X9_off (mn_X9_off (Q := fun r T => IV T ∧ Gr S T ∧ (FRI [(7, 3), (7, 9), (7, 10), (7, 11), (7, 12), (7, 13), (9, 9)] [(7, 0), (7, 1), (7, 2), (7, 4), (7, 5), (7, 6), (7, 7), (7, 8)] S T) ∧ K2 S T ∧ ((NFq 9 9 c9 v0 T))) hI o_v0 (fun r T h0 h1 h2 h3 h4 => ⟨h0, h1, h2, h3, h4⟩))) (fun r T a b => ⟨a.1, a.2, b.2⟩)) (mn_X9_off (Q := fun r T => IV T ∧ Gr S T ∧ (FRI [(7, 3), (7, 9), (7, 10), (7, 11), (7, 12), (7, 13), (9, 9)] [(7, 0), (7, 1), (7, 2), (7, 4), (7, 5), (7, 6), (7, 7), (7, 8)] S T) ∧ K2 S T ∧ ((NFq 9 9 c9 v0 T))) hI o_v0 (fun r T h0 h1 h2 h3 h4 => ⟨h0, h1, h2, h3, h4⟩)) (fun r T h _ => hq r T h.1.1 h.1.2.1 h.1.2.2.1 h.1.2.2.2.1 h.1.2.2.2.2 h.2)
theorem mz_X9_road {v0 : Nat} {v1 : Int32} {v2 : Int32} {Q : Int32 → HS → Prop} {S : HS} (hI : IV S) (o_v0 : ob S v0 9)  (hq : ∀ (r : Int32) (T : HS), IV T → Gr S T → FRI [(9, 9)] [] S T → K2 S T → (NFq 9 9 c9 v0 T) → (K7 S T ∧ K8 S T) → Q r T) : P_X9_road v0 v1 v2 Q S := cm_X9_road (cm_X9_road (Q3 := fun r T => (IV T ∧ Gr S T ∧ (FRI [(9, 9)] [] S T) ∧ K2 S T ∧ ((NFq 9 9 c9 v0 T))) ∧ K7 S T ∧ K8 S T) (kw_X9_road (mn_X9_road (Q := fun r T => IV T ∧ Gr S T ∧ (FRI [(9, 9)] [] S T) ∧ K2 S T ∧ ((NFq 9 9 c9 v0 T))) hI o_v0 (fun r T h0 h1 h2 h3 h4 => ⟨h0, h1, h2, h3, h4⟩))) (kx_X9_road (mn_X9_road (Q := fun r T => IV T ∧ Gr S T ∧ (FRI [(9, 9)] [] S T) ∧ K2 S T ∧ ((NFq 9 9 c9 v0 T))) hI o_v0 (fun r T h0 h1 h2 h3 h4 => ⟨h0, h1, h2, h3, h4⟩))) (fun r T a b => ⟨a.1, a.2, b.2⟩)) (mn_X9_road (Q := fun r T => IV T ∧ Gr S T ∧ (FRI [(9, 9)] [] S T) ∧ K2 S T ∧ ((NFq 9 9 c9 v0 T))) hI o_v0 (fun r T h0 h1 h2 h3 h4 => ⟨h0, h1, h2, h3, h4⟩)) (fun r T h _ => hq r T h.1.1 h.1.2.1 h.1.2.2.1 h.1.2.2.2.1 h.1.2.2.2.2 h.2)
theorem mz_X9_round {v0 : Nat} {v1 : Int32} {v2 : Int32} {v3 : Int32} {v4 : Int32} {Q : Int64 → HS → Prop} {S : HS} (hI : IV S) (o_v0 : ob S v0 9)  (hq : ∀ (r : Int64) (T : HS), IV T → Gr S T → FRI [(9, 9)] [] S T → K2 S T → (NFq 9 9 c9 v0 T) → (K7 S T ∧ K8 S T) → Q r T) : P_X9_round v0 v1 v2 v3 v4 Q S := cm_X9_round (cm_X9_round (Q3 := fun r T => (IV T ∧ Gr S T ∧ (FRI [(9, 9)] [] S T) ∧ K2 S T ∧ ((NFq 9 9 c9 v0 T))) ∧ K7 S T ∧ K8 S T) (kw_X9_round (mn_X9_round (Q := fun r T => IV T ∧ Gr S T ∧ (FRI [(9, 9)] [] S T) ∧ K2 S T ∧ ((NFq 9 9 c9 v0 T))) hI o_v0 (fun r T h0 h1 h2 h3 h4 => ⟨h0, h1, h2, h3, h4⟩))) (kx_X9_round (mn_X9_round (Q := fun r T => IV T ∧ Gr S T ∧ (FRI [(9, 9)] [] S T) ∧ K2 S T ∧ ((NFq 9 9 c9 v0 T))) hI o_v0 (fun r T h0 h1 h2 h3 h4 => ⟨h0, h1, h2, h3, h4⟩))) (fun r T a b => ⟨a.1, a.2, b.2⟩)) (mn_X9_round (Q := fun r T => IV T ∧ Gr S T ∧ (FRI [(9, 9)] [] S T) ∧ K2 S T ∧ ((NFq 9 9 c9 v0 T))) hI o_v0 (fun r T h0 h1 h2 h3 h4 => ⟨h0, h1, h2, h3, h4⟩)) (fun r T h _ => hq r T h.1.1 h.1.2.1 h.1.2.2.1 h.1.2.2.2.1 h.1.2.2.2.2 h.2)
theorem mz_X9_saves {v0 : Nat} {v1 : Int32} {v2 : Int32} {v3 : Int32} {v4 : Int32} {v5 : Int32} {Q : Int64 → HS → Prop} {S : HS} (hI : IV S) (o_v0 : ob S v0 9)  (hq : ∀ (r : Int64) (T : HS), IV T → Gr S T → FRI [(9, 9)] [] S T → K2 S T → (NFq 9 9 c9 v0 T) → (K7 S T ∧ K8 S T) → Q r T) : P_X9_saves v0 v1 v2 v3 v4 v5 Q S := cm_X9_saves (cm_X9_saves (Q3 := fun r T => (IV T ∧ Gr S T ∧ (FRI [(9, 9)] [] S T) ∧ K2 S T ∧ ((NFq 9 9 c9 v0 T))) ∧ K7 S T ∧ K8 S T) (kw_X9_saves (mn_X9_saves (Q := fun r T => IV T ∧ Gr S T ∧ (FRI [(9, 9)] [] S T) ∧ K2 S T ∧ ((NFq 9 9 c9 v0 T))) hI o_v0 (fun r T h0 h1 h2 h3 h4 => ⟨h0, h1, h2, h3, h4⟩))) (kx_X9_saves (mn_X9_saves (Q := fun r T => IV T ∧ Gr S T ∧ (FRI [(9, 9)] [] S T) ∧ K2 S T ∧ ((NFq 9 9 c9 v0 T))) hI o_v0 (fun r T h0 h1 h2 h3 h4 => ⟨h0, h1, h2, h3, h4⟩))) (fun r T a b => ⟨a.1, a.2, b.2⟩)) (mn_X9_saves (Q := fun r T => IV T ∧ Gr S T ∧ (FRI [(9, 9)] [] S T) ∧ K2 S T ∧ ((NFq 9 9 c9 v0 T))) hI o_v0 (fun r T h0 h1 h2 h3 h4 => ⟨h0, h1, h2, h3, h4⟩)) (fun r T h _ => hq r T h.1.1 h.1.2.1 h.1.2.2.1 h.1.2.2.2.1 h.1.2.2.2.2 h.2)
theorem mz_X9_soaked {v0 : Nat} {Q : Int32 → HS → Prop} {S : HS} (hI : IV S) (o_v0 : ob S v0 9)  (hq : ∀ (r : Int32) (T : HS), IV T → Gr S T → FRI [(9, 9)] [] S T → K2 S T → (NFq 9 9 c9 v0 T) → (K7 S T ∧ K8 S T) → Q r T) : P_X9_soaked v0 Q S := cm_X9_soaked (cm_X9_soaked (Q3 := fun r T => (IV T ∧ Gr S T ∧ (FRI [(9, 9)] [] S T) ∧ K2 S T ∧ ((NFq 9 9 c9 v0 T))) ∧ K7 S T ∧ K8 S T) (kw_X9_soaked (mn_X9_soaked (Q := fun r T => IV T ∧ Gr S T ∧ (FRI [(9, 9)] [] S T) ∧ K2 S T ∧ ((NFq 9 9 c9 v0 T))) hI o_v0 (fun r T h0 h1 h2 h3 h4 => ⟨h0, h1, h2, h3, h4⟩))) (kx_X9_soaked (mn_X9_soaked (Q := fun r T => IV T ∧ Gr S T ∧ (FRI [(9, 9)] [] S T) ∧ K2 S T ∧ ((NFq 9 9 c9 v0 T))) hI o_v0 (fun r T h0 h1 h2 h3 h4 => ⟨h0, h1, h2, h3, h4⟩))) (fun r T a b => ⟨a.1, a.2, b.2⟩)) (mn_X9_soaked (Q := fun r T => IV T ∧ Gr S T ∧ (FRI [(9, 9)] [] S T) ∧ K2 S T ∧ ((NFq 9 9 c9 v0 T))) hI o_v0 (fun r T h0 h1 h2 h3 h4 => ⟨h0, h1, h2, h3, h4⟩)) (fun r T h _ => hq r T h.1.1 h.1.2.1 h.1.2.2.1 h.1.2.2.2.1 h.1.2.2.2.2 h.2)
theorem mz_X9_stay {v0 : Nat} {v1 : Int32} {Q : Int32 → HS → Prop} {S : HS} (hI : IV S) (o_v0 : ob S v0 9)  (hq : ∀ (r : Int32) (T : HS), IV T → Gr S T → FRI [(0, 2), (2, 0), (2, 1), (9, 9)] [] S T → bl r → K2 S T → (NFq 9 9 c9 v0 T) → (K7 S T ∧ K8 S T) → Q r T) : P_X9_stay v0 v1 Q S := cm_X9_stay (cm_X9_stay (Q3 := fun r T => (IV T ∧ Gr S T ∧ (FRI [(0, 2), (2, 0), (2, 1), (9, 9)] [] S T) ∧ bl r ∧ K2 S T ∧ ((NFq 9 9 c9 v0 T))) ∧ K7 S T ∧ K8 S T) (kw_X9_stay (mn_X9_stay (Q := fun r T => IV T ∧ Gr S T ∧ (FRI [(0, 2), (2, 0), (2, 1), (9, 9)] [] S T) ∧ bl r ∧ K2 S T ∧ ((NFq 9 9 c9 v0 T))) hI o_v0 (fun r T h0 h1 h2 h3 h4 h5 => ⟨h0, h1, h2, h3, h4, h5⟩))) (kx_X9_stay (mn_X9_stay (Q := fun r T => IV T ∧ Gr S T ∧ (FRI [(0, 2), (2, 0), (2, 1), (9, 9)] [] S T) ∧ bl r ∧ K2 S T ∧ ((NFq 9 9 c9 v0 T))) hI o_v0 (fun r T h0 h1 h2 h3 h4 h5 => ⟨h0, h1, h2, h3, h4, h5⟩))) (fun r T a b => ⟨a.1, a.2, b.2⟩)) (mn_X9_stay (Q := fun r T => IV T ∧ Gr S T ∧ (FRI [(0, 2), (2, 0), (2, 1), (9, 9)] [] S T) ∧ bl r ∧ K2 S T ∧ ((NFq 9 9 c9 v0 T))) hI o_v0 (fun r T h0 h1 h2 h3 h4 h5 => ⟨h0, h1, h2, h3, h4, h5⟩)) (fun r T h _ => hq r T h.1.1 h.1.2.1 h.1.2.2.1 h.1.2.2.2.1 h.1.2.2.2.2.1 h.1.2.2.2.2.2 h.2)
theorem mz_X9_step {v0 : Nat} {v1 : Int32} {v2 : Int32} {v3 : Int32} {v4 : Int32} {v5 : Int32} {v6 : Int32} {Q : Int32 → HS → Prop} {S : HS} (hI : IV S) (o_v0 : ob S v0 9)  (hq : ∀ (r : Int32) (T : HS), IV T → Gr S T → FRI [(7, 3), (7, 9), (7, 10), (7, 11), (7, 12), (7, 13), (9, 9)] [(7, 0), (7, 1), (7, 2), (7, 4), (7, 5), (7, 6), (7, 7), (7, 8)] S T → K2 S T → (NFq 9 9 c9 v0 T) → (K7 S T ∧ K8 S T) → Q r T) : P_X9_step v0 v1 v2 v3 v4 v5 v6 Q S := cm_X9_step (cm_X9_step (Q3 := fun r T => (IV T ∧ Gr S T ∧ (FRI [(7, 3), (7, 9), (7, 10), (7, 11), (7, 12), (7, 13), (9, 9)] [(7, 0), (7, 1), (7, 2), (7, 4), (7, 5), (7, 6), (7, 7), (7, 8)] S T) ∧ K2 S T ∧ ((NFq 9 9 c9 v0 T))) ∧ K7 S T ∧ K8 S T) (kw_X9_step (mn_X9_step (Q := fun r T => IV T ∧ Gr S T ∧ (FRI [(7, 3), (7, 9), (7, 10), (7, 11), (7, 12), (7, 13), (9, 9)] [(7, 0), (7, 1), (7, 2), (7, 4), (7, 5), (7, 6), (7, 7), (7, 8)] S T) ∧ K2 S T ∧ ((NFq 9 9 c9 v0 T))) hI o_v0 (fun r T h0 h1 h2 h3 h4 => ⟨h0, h1, h2, h3, h4⟩))) (kx_X9_step (mn_X9_step (Q := fun r T => IV T ∧ Gr S T ∧ (FRI [(7, 3), (7, 9), (7, 10), (7, 11), (7, 12), (7, 13), (9, 9)] [(7, 0), (7, 1), (7, 2), (7, 4), (7, 5), (7, 6), (7, 7), (7, 8)] S T) ∧ K2 S T ∧ ((NFq 9 9 c9 v0 T))) hI o_v0 (fun r T h0 h1 h2 h3 h4 => ⟨h0, h1, h2, h3, h4⟩))) (fun r T a b => ⟨a.1, a.2, b.2⟩)) (mn_X9_step (Q := fun r T => IV T ∧ Gr S T ∧ (FRI [(7, 3), (7, 9), (7, 10), (7, 11), (7, 12), (7, 13), (9, 9)] [(7, 0), (7, 1), (7, 2), (7, 4), (7, 5), (7, 6), (7, 7), (7, 8)] S T) ∧ K2 S T ∧ ((NFq 9 9 c9 v0 T))) hI o_v0 (fun r T h0 h1 h2 h3 h4 => ⟨h0, h1, h2, h3, h4⟩)) (fun r T h _ => hq r T h.1.1 h.1.2.1 h.1.2.2.1 h.1.2.2.2.1 h.1.2.2.2.2 h.2)
theorem mz_X9_steps {v0 : Nat} {v1 : Int32} {v2 : Int32} {v3 : Int32} {v4 : Int32} {v5 : Int32} {Q : Int32 → HS → Prop} {S : HS} (hI : IV S) (o_v0 : ob S v0 9)  (hq : ∀ (r : Int32) (T : HS), IV T → Gr S T → FRI [(7, 3), (7, 9), (7, 10), (7, 11), (7, 12), (7, 13), (9, 9)] [(7, 0), (7, 1), (7, 2), (7, 4), (7, 5), (7, 6), (7, 7), (7, 8)] S T → K2 S T → (NFq 9 9 c9 v0 T) → (K7 S T ∧ K8 S T) → Q r T) : P_X9_steps v0 v1 v2 v3 v4 v5 Q S := cm_X9_steps (cm_X9_steps (Q3 := fun r T => (IV T ∧ Gr S T ∧ (FRI [(7, 3), (7, 9), (7, 10), (7, 11), (7, 12), (7, 13), (9, 9)] [(7, 0), (7, 1), (7, 2), (7, 4), (7, 5), (7, 6), (7, 7), (7, 8)] S T) ∧ K2 S T ∧ ((NFq 9 9 c9 v0 T))) ∧ K7 S T ∧ K8 S T) (kw_X9_steps (mn_X9_steps (Q := fun r T => IV T ∧ Gr S T ∧ (FRI [(7, 3), (7, 9), (7, 10), (7, 11), (7, 12), (7, 13), (9, 9)] [(7, 0), (7, 1), (7, 2), (7, 4), (7, 5), (7, 6), (7, 7), (7, 8)] S T) ∧ K2 S T ∧ ((NFq 9 9 c9 v0 T))) hI o_v0 (fun r T h0 h1 h2 h3 h4 => ⟨h0, h1, h2, h3, h4⟩))) (kx_X9_steps (mn_X9_steps (Q := fun r T => IV T ∧ Gr S T ∧ (FRI [(7, 3), (7, 9), (7, 10), (7, 11), (7, 12), (7, 13), (9, 9)] [(7, 0), (7, 1), (7, 2), (7, 4), (7, 5), (7, 6), (7, 7), (7, 8)] S T) ∧ K2 S T ∧ ((NFq 9 9 c9 v0 T))) hI o_v0 (fun r T h0 h1 h2 h3 h4 => ⟨h0, h1, h2, h3, h4⟩))) (fun r T a b => ⟨a.1, a.2, b.2⟩)) (mn_X9_steps (Q := fun r T => IV T ∧ Gr S T ∧ (FRI [(7, 3), (7, 9), (7, 10), (7, 11), (7, 12), (7, 13), (9, 9)] [(7, 0), (7, 1), (7, 2), (7, 4), (7, 5), (7, 6), (7, 7), (7, 8)] S T) ∧ K2 S T ∧ ((NFq 9 9 c9 v0 T))) hI o_v0 (fun r T h0 h1 h2 h3 h4 => ⟨h0, h1, h2, h3, h4⟩)) (fun r T h _ => hq r T h.1.1 h.1.2.1 h.1.2.2.1 h.1.2.2.2.1 h.1.2.2.2.2 h.2)
theorem mz_X9_there {v0 : Nat} {v1 : Int32} {v2 : Int32} {v3 : Int32} {v4 : Int32} {v5 : Int32} {Q : Int32 → HS → Prop} {S : HS} (hI : IV S) (o_v0 : ob S v0 9)  (hq : ∀ (r : Int32) (T : HS), IV T → Gr S T → FRI [(7, 3), (7, 9), (7, 10), (7, 11), (7, 12), (7, 13), (9, 9)] [(7, 0), (7, 1), (7, 2), (7, 4), (7, 5), (7, 6), (7, 7), (7, 8)] S T → K2 S T → (NFq 9 9 c9 v0 T) → (K7 S T ∧ K8 S T) → Q r T) : P_X9_there v0 v1 v2 v3 v4 v5 Q S := cm_X9_there (cm_X9_there (Q3 := fun r T => (IV T ∧ Gr S T ∧ (FRI [(7, 3), (7, 9), (7, 10), (7, 11), (7, 12), (7, 13), (9, 9)] [(7, 0), (7, 1), (7, 2), (7, 4), (7, 5), (7, 6), (7, 7), (7, 8)] S T) ∧ K2 S T ∧ ((NFq 9 9 c9 v0 T))) ∧ K7 S T ∧ K8 S T) (kw_X9_there (mn_X9_there (Q := fun r T => IV T ∧ Gr S T ∧ (FRI [(7, 3), (7, 9), (7, 10), (7, 11), (7, 12), (7, 13), (9, 9)] [(7, 0), (7, 1), (7, 2), (7, 4), (7, 5), (7, 6), (7, 7), (7, 8)] S T) ∧ K2 S T ∧ ((NFq 9 9 c9 v0 T))) hI o_v0 (fun r T h0 h1 h2 h3 h4 => ⟨h0, h1, h2, h3, h4⟩))) (kx_X9_there (mn_X9_there (Q := fun r T => IV T ∧ Gr S T ∧ (FRI [(7, 3), (7, 9), (7, 10), (7, 11), (7, 12), (7, 13), (9, 9)] [(7, 0), (7, 1), (7, 2), (7, 4), (7, 5), (7, 6), (7, 7), (7, 8)] S T) ∧ K2 S T ∧ ((NFq 9 9 c9 v0 T))) hI o_v0 (fun r T h0 h1 h2 h3 h4 => ⟨h0, h1, h2, h3, h4⟩))) (fun r T a b => ⟨a.1, a.2, b.2⟩)) (mn_X9_there (Q := fun r T => IV T ∧ Gr S T ∧ (FRI [(7, 3), (7, 9), (7, 10), (7, 11), (7, 12), (7, 13), (9, 9)] [(7, 0), (7, 1), (7, 2), (7, 4), (7, 5), (7, 6), (7, 7), (7, 8)] S T) ∧ K2 S T ∧ ((NFq 9 9 c9 v0 T))) hI o_v0 (fun r T h0 h1 h2 h3 h4 => ⟨h0, h1, h2, h3, h4⟩)) (fun r T h _ => hq r T h.1.1 h.1.2.1 h.1.2.2.1 h.1.2.2.2.1 h.1.2.2.2.2 h.2)
theorem mz_X9_undo {v0 : Nat} {Q : Int32 → HS → Prop} {S : HS} (hI : IV S) (o_v0 : ob S v0 9)  (hq : ∀ (r : Int32) (T : HS), IV T → Gr S T → FRI [(0, 2), (2, 0), (2, 1), (9, 9)] [] S T → bl r → K2 S T → (NFq 9 9 c9 v0 T) → (K7 S T ∧ K8 S T) → Q r T) : P_X9_undo v0 Q S := cm_X9_undo (cm_X9_undo (Q3 := fun r T => (IV T ∧ Gr S T ∧ (FRI [(0, 2), (2, 0), (2, 1), (9, 9)] [] S T) ∧ bl r ∧ K2 S T ∧ ((NFq 9 9 c9 v0 T))) ∧ K7 S T ∧ K8 S T) (kw_X9_undo (mn_X9_undo (Q := fun r T => IV T ∧ Gr S T ∧ (FRI [(0, 2), (2, 0), (2, 1), (9, 9)] [] S T) ∧ bl r ∧ K2 S T ∧ ((NFq 9 9 c9 v0 T))) hI o_v0 (fun r T h0 h1 h2 h3 h4 h5 => ⟨h0, h1, h2, h3, h4, h5⟩))) (kx_X9_undo (mn_X9_undo (Q := fun r T => IV T ∧ Gr S T ∧ (FRI [(0, 2), (2, 0), (2, 1), (9, 9)] [] S T) ∧ bl r ∧ K2 S T ∧ ((NFq 9 9 c9 v0 T))) hI o_v0 (fun r T h0 h1 h2 h3 h4 h5 => ⟨h0, h1, h2, h3, h4, h5⟩))) (fun r T a b => ⟨a.1, a.2, b.2⟩)) (mn_X9_undo (Q := fun r T => IV T ∧ Gr S T ∧ (FRI [(0, 2), (2, 0), (2, 1), (9, 9)] [] S T) ∧ bl r ∧ K2 S T ∧ ((NFq 9 9 c9 v0 T))) hI o_v0 (fun r T h0 h1 h2 h3 h4 h5 => ⟨h0, h1, h2, h3, h4, h5⟩)) (fun r T h _ => hq r T h.1.1 h.1.2.1 h.1.2.2.1 h.1.2.2.2.1 h.1.2.2.2.2.1 h.1.2.2.2.2.2 h.2)
theorem mz_X9_walker {v0 : Nat} {v1 : Int32} {v2 : Int32} {Q : Int32 → HS → Prop} {S : HS} (hI : IV S) (o_v0 : ob S v0 9)  (hq : ∀ (r : Int32) (T : HS), IV T → Gr S T → FRI [(9, 9)] [] S T → K2 S T → (NFq 9 9 c9 v0 T) → (K7 S T ∧ K8 S T) → Q r T) : P_X9_walker v0 v1 v2 Q S := cm_X9_walker (cm_X9_walker (Q3 := fun r T => (IV T ∧ Gr S T ∧ (FRI [(9, 9)] [] S T) ∧ K2 S T ∧ ((NFq 9 9 c9 v0 T))) ∧ K7 S T ∧ K8 S T) (kw_X9_walker (mn_X9_walker (Q := fun r T => IV T ∧ Gr S T ∧ (FRI [(9, 9)] [] S T) ∧ K2 S T ∧ ((NFq 9 9 c9 v0 T))) hI o_v0 (fun r T h0 h1 h2 h3 h4 => ⟨h0, h1, h2, h3, h4⟩))) (kx_X9_walker (mn_X9_walker (Q := fun r T => IV T ∧ Gr S T ∧ (FRI [(9, 9)] [] S T) ∧ K2 S T ∧ ((NFq 9 9 c9 v0 T))) hI o_v0 (fun r T h0 h1 h2 h3 h4 => ⟨h0, h1, h2, h3, h4⟩))) (fun r T a b => ⟨a.1, a.2, b.2⟩)) (mn_X9_walker (Q := fun r T => IV T ∧ Gr S T ∧ (FRI [(9, 9)] [] S T) ∧ K2 S T ∧ ((NFq 9 9 c9 v0 T))) hI o_v0 (fun r T h0 h1 h2 h3 h4 => ⟨h0, h1, h2, h3, h4⟩)) (fun r T h _ => hq r T h.1.1 h.1.2.1 h.1.2.2.1 h.1.2.2.2.1 h.1.2.2.2.2 h.2)
theorem mz_X9_wet {v0 : Nat} {v1 : Int32} {v2 : Int32} {v3 : Int32} {v4 : Int32} {v5 : Int32} {v6 : Int32} {Q : Int64 → HS → Prop} {S : HS} (hI : IV S) (o_v0 : ob S v0 9)  (hq : ∀ (r : Int64) (T : HS), IV T → Gr S T → FRI [(9, 9)] [] S T → K2 S T → (NFq 9 9 c9 v0 T) → (K7 S T ∧ K8 S T) → Q r T) : P_X9_wet v0 v1 v2 v3 v4 v5 v6 Q S := cm_X9_wet (cm_X9_wet (Q3 := fun r T => (IV T ∧ Gr S T ∧ (FRI [(9, 9)] [] S T) ∧ K2 S T ∧ ((NFq 9 9 c9 v0 T))) ∧ K7 S T ∧ K8 S T) (kw_X9_wet (mn_X9_wet (Q := fun r T => IV T ∧ Gr S T ∧ (FRI [(9, 9)] [] S T) ∧ K2 S T ∧ ((NFq 9 9 c9 v0 T))) hI o_v0 (fun r T h0 h1 h2 h3 h4 => ⟨h0, h1, h2, h3, h4⟩))) (kx_X9_wet (mn_X9_wet (Q := fun r T => IV T ∧ Gr S T ∧ (FRI [(9, 9)] [] S T) ∧ K2 S T ∧ ((NFq 9 9 c9 v0 T))) hI o_v0 (fun r T h0 h1 h2 h3 h4 => ⟨h0, h1, h2, h3, h4⟩))) (fun r T a b => ⟨a.1, a.2, b.2⟩)) (mn_X9_wet (Q := fun r T => IV T ∧ Gr S T ∧ (FRI [(9, 9)] [] S T) ∧ K2 S T ∧ ((NFq 9 9 c9 v0 T))) hI o_v0 (fun r T h0 h1 h2 h3 h4 => ⟨h0, h1, h2, h3, h4⟩)) (fun r T h _ => hq r T h.1.1 h.1.2.1 h.1.2.2.1 h.1.2.2.2.1 h.1.2.2.2.2 h.2)
theorem mz_X9_wetness {v0 : Nat} {v1 : Int32} {Q : Int64 → HS → Prop} {S : HS} (hI : IV S) (o_v0 : ob S v0 9)  (hq : ∀ (r : Int64) (T : HS), IV T → Gr S T → FRI [(9, 9)] [] S T → K2 S T → (NFq 9 9 c9 v0 T) → (K7 S T ∧ K8 S T) → Q r T) : P_X9_wetness v0 v1 Q S := cm_X9_wetness (cm_X9_wetness (Q3 := fun r T => (IV T ∧ Gr S T ∧ (FRI [(9, 9)] [] S T) ∧ K2 S T ∧ ((NFq 9 9 c9 v0 T))) ∧ K7 S T ∧ K8 S T) (kw_X9_wetness (mn_X9_wetness (Q := fun r T => IV T ∧ Gr S T ∧ (FRI [(9, 9)] [] S T) ∧ K2 S T ∧ ((NFq 9 9 c9 v0 T))) hI o_v0 (fun r T h0 h1 h2 h3 h4 => ⟨h0, h1, h2, h3, h4⟩))) (kx_X9_wetness (mn_X9_wetness (Q := fun r T => IV T ∧ Gr S T ∧ (FRI [(9, 9)] [] S T) ∧ K2 S T ∧ ((NFq 9 9 c9 v0 T))) hI o_v0 (fun r T h0 h1 h2 h3 h4 => ⟨h0, h1, h2, h3, h4⟩))) (fun r T a b => ⟨a.1, a.2, b.2⟩)) (mn_X9_wetness (Q := fun r T => IV T ∧ Gr S T ∧ (FRI [(9, 9)] [] S T) ∧ K2 S T ∧ ((NFq 9 9 c9 v0 T))) hI o_v0 (fun r T h0 h1 h2 h3 h4 => ⟨h0, h1, h2, h3, h4⟩)) (fun r T h _ => hq r T h.1.1 h.1.2.1 h.1.2.2.1 h.1.2.2.2.1 h.1.2.2.2.2 h.2)
theorem mz_X9_worst {v0 : Nat} {v1 : Int32} {v2 : Int32} {v3 : Int32} {v4 : Int32} {Q : Int32 → HS → Prop} {S : HS} (hI : IV S) (o_v0 : ob S v0 9)  (hq : ∀ (r : Int32) (T : HS), IV T → Gr S T → FRI [(9, 9)] [] S T → K2 S T → (NFq 9 9 c9 v0 T) → (K7 S T ∧ K8 S T) → Q r T) : P_X9_worst v0 v1 v2 v3 v4 Q S := cm_X9_worst (cm_X9_worst (Q3 := fun r T => (IV T ∧ Gr S T ∧ (FRI [(9, 9)] [] S T) ∧ K2 S T ∧ ((NFq 9 9 c9 v0 T))) ∧ K7 S T ∧ K8 S T) (kw_X9_worst (mn_X9_worst (Q := fun r T => IV T ∧ Gr S T ∧ (FRI [(9, 9)] [] S T) ∧ K2 S T ∧ ((NFq 9 9 c9 v0 T))) hI o_v0 (fun r T h0 h1 h2 h3 h4 => ⟨h0, h1, h2, h3, h4⟩))) (kx_X9_worst (mn_X9_worst (Q := fun r T => IV T ∧ Gr S T ∧ (FRI [(9, 9)] [] S T) ∧ K2 S T ∧ ((NFq 9 9 c9 v0 T))) hI o_v0 (fun r T h0 h1 h2 h3 h4 => ⟨h0, h1, h2, h3, h4⟩))) (fun r T a b => ⟨a.1, a.2, b.2⟩)) (mn_X9_worst (Q := fun r T => IV T ∧ Gr S T ∧ (FRI [(9, 9)] [] S T) ∧ K2 S T ∧ ((NFq 9 9 c9 v0 T))) hI o_v0 (fun r T h0 h1 h2 h3 h4 => ⟨h0, h1, h2, h3, h4⟩)) (fun r T h _ => hq r T h.1.1 h.1.2.1 h.1.2.2.1 h.1.2.2.2.1 h.1.2.2.2.2 h.2)
theorem my_X9_world {v0 : Nat} {v1 : Int32} {Q : Int32 → HS → Prop} {S : HS} (hI : IV S) (o_v0 : ob S v0 9) {f : Nat → Int32} {t a : Nat} (P : TP 0 1 f t a v0 S) (ht : t ≤ 900) {rr w1 w2 : Nat} (J : CJ v0 rr w1 w2 S) (hq : ∀ (r : Int32) (T : HS), IV T → Gr S T → FRI [(0, 0), (0, 2), (0, 3), (3, 0), (3, 1), (3, 2), (3, 3), (3, 4), (4, 0), (4, 1), (4, 3), (4, 4), (4, 6), (4, 7), (4, 9), (4, 10), (5, 0), (5, 1), (5, 2), (5, 3), (5, 4), (6, 0), (6, 1), (6, 2), (6, 3), (6, 4), (6, 5), (6, 6), (7, 10), (8, 0), (8, 1), (8, 2), (8, 3), (8, 4), (8, 5), (9, 1), (9, 7), (9, 8), (9, 9)] [(4, 2), (4, 5), (9, 2)] S T → ((v1 < 0 ∨ fI S v0 1 < v1 → fI T v0 1 = fI S v0 1) ∧ (0 ≤ v1 ∧ v1 ≤ fI S v0 1 → fI T v0 1 = 0)) → K2 S T → (WCd S f t v1 v0 r T) → (WCe v0 rr w1 w2 S (RWo f t v1) T ∧ K8 S T) → Q r T) : P_X9_world v0 v1 Q S := cm_X9_world (cm_X9_world (Q3 := fun r T => (IV T ∧ Gr S T ∧ (FRI [(0, 0), (0, 2), (0, 3), (3, 0), (3, 1), (3, 2), (3, 3), (3, 4), (4, 0), (4, 1), (4, 3), (4, 4), (4, 6), (4, 7), (4, 9), (4, 10), (5, 0), (5, 1), (5, 2), (5, 3), (5, 4), (6, 0), (6, 1), (6, 2), (6, 3), (6, 4), (6, 5), (6, 6), (7, 10), (8, 0), (8, 1), (8, 2), (8, 3), (8, 4), (8, 5), (9, 1), (9, 7), (9, 8), (9, 9)] [(4, 2), (4, 5), (9, 2)] S T) ∧ (((v1 < 0 ∨ fI S v0 1 < v1 → fI T v0 1 = fI S v0 1) ∧ (0 ≤ v1 ∧ v1 ≤ fI S v0 1 → fI T v0 1 = 0))) ∧ K2 S T ∧ ((WCd S f t v1 v0 r T))) ∧ WCe v0 rr w1 w2 S (RWo f t v1) T ∧ K8 S T) (ry_X9_world hI P ht J (ml_X9_world (Q := fun r T => IV T ∧ Gr S T ∧ (FRI [(0, 0), (0, 2), (0, 3), (3, 0), (3, 1), (3, 2), (3, 3), (3, 4), (4, 0), (4, 1), (4, 3), (4, 4), (4, 6), (4, 7), (4, 9), (4, 10), (5, 0), (5, 1), (5, 2), (5, 3), (5, 4), (6, 0), (6, 1), (6, 2), (6, 3), (6, 4), (6, 5), (6, 6), (7, 10), (8, 0), (8, 1), (8, 2), (8, 3), (8, 4), (8, 5), (9, 1), (9, 7), (9, 8), (9, 9)] [(4, 2), (4, 5), (9, 2)] S T) ∧ (((v1 < 0 ∨ fI S v0 1 < v1 → fI T v0 1 = fI S v0 1) ∧ (0 ≤ v1 ∧ v1 ≤ fI S v0 1 → fI T v0 1 = 0))) ∧ K2 S T ∧ ((WCd S f t v1 v0 r T))) hI o_v0 P ht (fun r T h0 h1 h2 h3 h4 h5 => ⟨h0, h1, h2, h3, h4, h5⟩))) (kx_X9_world (ml_X9_world (Q := fun r T => IV T ∧ Gr S T ∧ (FRI [(0, 0), (0, 2), (0, 3), (3, 0), (3, 1), (3, 2), (3, 3), (3, 4), (4, 0), (4, 1), (4, 3), (4, 4), (4, 6), (4, 7), (4, 9), (4, 10), (5, 0), (5, 1), (5, 2), (5, 3), (5, 4), (6, 0), (6, 1), (6, 2), (6, 3), (6, 4), (6, 5), (6, 6), (7, 10), (8, 0), (8, 1), (8, 2), (8, 3), (8, 4), (8, 5), (9, 1), (9, 7), (9, 8), (9, 9)] [(4, 2), (4, 5), (9, 2)] S T) ∧ (((v1 < 0 ∨ fI S v0 1 < v1 → fI T v0 1 = fI S v0 1) ∧ (0 ≤ v1 ∧ v1 ≤ fI S v0 1 → fI T v0 1 = 0))) ∧ K2 S T ∧ ((WCd S f t v1 v0 r T))) hI o_v0 P ht (fun r T h0 h1 h2 h3 h4 h5 => ⟨h0, h1, h2, h3, h4, h5⟩))) (fun r T a b => ⟨a.1, a.2, b.2⟩)) (ml_X9_world (Q := fun r T => IV T ∧ Gr S T ∧ (FRI [(0, 0), (0, 2), (0, 3), (3, 0), (3, 1), (3, 2), (3, 3), (3, 4), (4, 0), (4, 1), (4, 3), (4, 4), (4, 6), (4, 7), (4, 9), (4, 10), (5, 0), (5, 1), (5, 2), (5, 3), (5, 4), (6, 0), (6, 1), (6, 2), (6, 3), (6, 4), (6, 5), (6, 6), (7, 10), (8, 0), (8, 1), (8, 2), (8, 3), (8, 4), (8, 5), (9, 1), (9, 7), (9, 8), (9, 9)] [(4, 2), (4, 5), (9, 2)] S T) ∧ (((v1 < 0 ∨ fI S v0 1 < v1 → fI T v0 1 = fI S v0 1) ∧ (0 ≤ v1 ∧ v1 ≤ fI S v0 1 → fI T v0 1 = 0))) ∧ K2 S T ∧ ((WCd S f t v1 v0 r T))) hI o_v0 P ht (fun r T h0 h1 h2 h3 h4 h5 => ⟨h0, h1, h2, h3, h4, h5⟩)) (fun r T h _ => hq r T h.1.1 h.1.2.1 h.1.2.2.1 h.1.2.2.2.1 h.1.2.2.2.2.1 h.1.2.2.2.2.2 h.2)
theorem my_X11_world {v0 : Nat} {v1 : Int32} {Q : Int32 → HS → Prop} {S : HS} (hI : IV S) (o_v0 : ob S v0 11) {f : Nat → Int32} {t a : Nat} (P : TP 5 6 f t a v0 S) (ht : t ≤ 900) (hB : ∀ j, j < t → -128 ≤ (f j).toInt ∧ (f j).toInt ≤ 127)  (hq : ∀ (r : Int32) (T : HS), IV T → Gr S T → FRI [(10, 0), (10, 1), (10, 2), (10, 3), (10, 4), (10, 5), (10, 6), (11, 0), (11, 1), (11, 2), (11, 6), (11, 7), (11, 8), (11, 9), (11, 10), (11, 11), (11, 12), (11, 13), (11, 14), (11, 19), (11, 24), (11, 25)] [(10, 7), (10, 8), (10, 9), (10, 10), (10, 11), (10, 12), (10, 13), (10, 14), (10, 15), (10, 16), (10, 17), (10, 18), (10, 19), (10, 20), (10, 21), (10, 22), (10, 23), (10, 24), (10, 25), (10, 26), (10, 27), (10, 28), (10, 29), (10, 30), (11, 3), (11, 4)] S T → ((v1 < 0 ∨ fI S v0 6 < v1 → fI T v0 6 = fI S v0 6) ∧ (0 ≤ v1 ∧ v1 ≤ fI S v0 6 → fI T v0 6 = 0)) → K2 S T → (WMd S f t v1 v0 r T) → (WMe v0 S (RWo f t v1) T) → Q r T) : P_X11_world v0 v1 Q S := cm_X11_world (ry_X11_world P ht hB (ml_X11_world (Q := fun r T => IV T ∧ Gr S T ∧ (FRI [(10, 0), (10, 1), (10, 2), (10, 3), (10, 4), (10, 5), (10, 6), (11, 0), (11, 1), (11, 2), (11, 6), (11, 7), (11, 8), (11, 9), (11, 10), (11, 11), (11, 12), (11, 13), (11, 14), (11, 19), (11, 24), (11, 25)] [(10, 7), (10, 8), (10, 9), (10, 10), (10, 11), (10, 12), (10, 13), (10, 14), (10, 15), (10, 16), (10, 17), (10, 18), (10, 19), (10, 20), (10, 21), (10, 22), (10, 23), (10, 24), (10, 25), (10, 26), (10, 27), (10, 28), (10, 29), (10, 30), (11, 3), (11, 4)] S T) ∧ (((v1 < 0 ∨ fI S v0 6 < v1 → fI T v0 6 = fI S v0 6) ∧ (0 ≤ v1 ∧ v1 ≤ fI S v0 6 → fI T v0 6 = 0))) ∧ K2 S T ∧ ((WMd S f t v1 v0 r T))) hI o_v0 P ht hB (fun r T h0 h1 h2 h3 h4 h5 => ⟨h0, h1, h2, h3, h4, h5⟩))) (ml_X11_world (Q := fun r T => IV T ∧ Gr S T ∧ (FRI [(10, 0), (10, 1), (10, 2), (10, 3), (10, 4), (10, 5), (10, 6), (11, 0), (11, 1), (11, 2), (11, 6), (11, 7), (11, 8), (11, 9), (11, 10), (11, 11), (11, 12), (11, 13), (11, 14), (11, 19), (11, 24), (11, 25)] [(10, 7), (10, 8), (10, 9), (10, 10), (10, 11), (10, 12), (10, 13), (10, 14), (10, 15), (10, 16), (10, 17), (10, 18), (10, 19), (10, 20), (10, 21), (10, 22), (10, 23), (10, 24), (10, 25), (10, 26), (10, 27), (10, 28), (10, 29), (10, 30), (11, 3), (11, 4)] S T) ∧ (((v1 < 0 ∨ fI S v0 6 < v1 → fI T v0 6 = fI S v0 6) ∧ (0 ≤ v1 ∧ v1 ≤ fI S v0 6 → fI T v0 6 = 0))) ∧ K2 S T ∧ ((WMd S f t v1 v0 r T))) hI o_v0 P ht hB (fun r T h0 h1 h2 h3 h4 h5 => ⟨h0, h1, h2, h3, h4, h5⟩)) (fun r T h _ => hq r T h.1.1 h.1.2.1 h.1.2.2.1 h.1.2.2.2.1 h.1.2.2.2.2.1 h.1.2.2.2.2.2 h.2)
end
section
/-! THE CLAIM OUT OF ONE WALK OF THE LAW'S BODY. Your part is whole_start (and what it stands on); all else here is the same for every law, but numbers. -/
def R_law : String := "RainWalkLaw"
def lw_P (b : Addr) (xs : List Int32) (args : Array Value) (s : State) : Prop := args = #[.ref b] ∧ s.IntsAt b xs ∧ xs.length ≤ 4096 ∧ (Jvm.Cond.and given_1 narrow_1).before args s = true
def lw_Q (_ : Array Value) (s : State) (o : Outcome) (t : State) : Prop := o = .returned (some (.int 1)) ∧ Framed s o t [] 601024 7293034
def lw_Z (below : List Frame) (a : Array Value) (s : State) : State → Prop := fun t => ∃ o, t.status = .running ∧ Ended t below o ∧ lw_Q a s o t
/-- the law's own end, with 1 on the stack, nothing written that was there before, its room as the claim has it -/
theorem lw_ret {p : Program} {l : Launch} {e : Env} {s : State} {m : MethodId} {below : List Frame} {meth : Method} {c : Code} {b : Nat} (hx : p.tables.exec = Jvm.exec) (hb : c.code = code) (hr : meth.sig.returnType = ret) (hlocks : meth.locks = false) {pc : Nat} {H : Heap} {ls : Array Slot} (hdg : decode code pc = .ok (.ireturn, 1)) : W p l e room_1 s m #[Value.ref b] below meth c H [] 601024 7293034 (lw_Z below #[Value.ref b] s) (F0 m pc ls [.int 1]) := by
  intro T hT X
  obtain ⟨fs, hret, hrun, hended, hW, hframe⟩ := X.leave (v := some (.int 1)) (hlocks := hlocks) (fun h => by rw [hr] at h; cases h)
  have hmeth' : T.vm.method? m = some meth := X.method'
  refine ⟨T.setFrames fs, ?_, .returned (some (.int 1)), hrun, hended, rfl, ⟨_, rfl⟩, hW, hframe⟩
  jvm_step X.here [X.here.top, hx, hb, hdg, hmeth', hr, ret, narrow_b1]
  (try refine ⟨rfl, ?_⟩); (try refine ⟨rfl, ?_⟩)
  first | (intro acts; rw [hret _ acts rfl rfl rfl]) | rw [hret _ _ rfl rfl rfl]
  exact Steps.refl _
/-- what holds at the law's entry: the machine, the code, the tables' words (any of lw_tbl by 'hts w (by decide +kernel)'), the script of L ints xs at the cell b, what the Statement gives of the start (any of its parts by flat_of_before) -/
def lw_At (p : Program) (s : State) (m : MethodId) (meth : Method) (c : Code) (b L : Nat) (xs : Nat → Int32) : Prop :=
  p.tables.exec = Jvm.exec ∧ c.code = code ∧ meth.sig.returnType = ret ∧ c.maxLocals = 7 ∧ s.vm.findClass R_law = some m.cls ∧ (∀ w ∈ lw_tbl, w.before #[Value.ref b] s = true) ∧ va_X b L xs s s.heap ∧ b < s.heap.size ∧ meth.locks = false ∧ (Jvm.Cond.and given_1 narrow_1).before #[Value.ref b] s = true
end
section
abbrev rm_L_law : Room := room_1
/-- led of the law: it answers, or catches what the class throws; the day and all else stay -/
def P_L_led (v0 : Nat) (v1 : Int32) (v2 : Nat) (Q : Int32 → HS → Prop) (S : HS) : Prop := IV S ∧ ob S v0 9 ∧ ob S v2 14 ∧ hN S v2 = 1 ∧ ∀ (r : Int32) (T : HS), IV T → Gr S T → FRI [] [] S T → K2 S T → K7 S T → K8 S T → Q r T
/-- what is still open: the call of led out of the law -/
def LD (X : CX) : Prop := ∀ (k n pc : Nat) (lv : List (Nat × Value)) (rest : List Value) (S : HS) (v0 : Nat) (v1 : Int32) (v2 i : Nat) (Q : Int32 → HS → Prop), k + 2 ≤ rm_L_law.cells → n + 32 ≤ rm_L_law.slots → decode cL_law pc = .ok (.invokestatic i, 3) → Cond.methodLink RL i yL_led ∈ G → (rest.map fun v => v.category).sum ≤ 8 → P_L_led v0 v1 v2 Q S → (∀ (r : Int32) (T : HS), Q r T → Gr S T → WS X 7 (k + 2) (n + 32) (pc + 3) lv (.int r :: rest) T) → WS X 7 k n pc lv (.ref v2 :: .int v1 :: .ref v0 :: rest) S
def LE (X : CX) (scb scL : Nat) (scx : Nat → Int32) (_ : Int32 → HS → Prop) : Prop := xQ X = lw_Z (xb X) (xa X) (xs X) ∧ xa X = #[Value.ref scb] ∧ (xh X).sig.returnType = ret ∧ (xh X).locks = false ∧ va_X scb scL scx (xs X) (xs X).heap ∧ scb < (xs X).heap.size ∧ ¬ xA X scb ∧ (∀ q, xA X q → (xs X).heap.size ≤ q)
section LawRows
variable {X : CX} {nL k n pc scb scL : Nat} {scx : Nat → Int32} {lv : List (Nat × Value)} {st : List Value} {S : HS} {Q : Int32 → HS → Prop}
theorem r_scLen (C : Cx X cL_law RL 7 rm_L_law) (E : LE X scb scL scx Q) (hd : decode cL_law pc = .ok (.arraylength, 1)) (h : WS X 7 k n (pc + 1) lv (.int (nI scL) :: st) S) : WS X 7 k n pc lv (.ref scb :: st) S := fun H locs ls hP hD hS hG hv => va_slen C.1 C.2.1 E.2.2.2.2.1 E.2.2.2.2.2.1 E.2.2.2.2.2.2.1 hS hd (h H locs ls hP hD hS hG hv)
theorem r_scLd (C : Cx X cL_law RL 7 rm_L_law) (E : LE X scb scL scx Q) {i : Int32} (hi : vp_in i scL) (hd : decode cL_law pc = .ok (.iaload, 1)) (h : WS X 7 k n (pc + 1) lv (.int (scx i.toNatClampNeg) :: st) S) : WS X 7 k n pc lv (.int i :: .ref scb :: st) S := fun H locs ls hP hD hS hG hv => va_sld C.1 C.2.1 E.2.2.2.2.1 E.2.2.2.2.2.1 E.2.2.2.2.2.2.1 hS hi hd (h H locs ls hP hD hS hG hv)
theorem r_lawret (C : Cx X cL_law RL 7 rm_L_law) (E : LE X scb scL scx Q) {v : Int32} (hd : decode cL_law pc = .ok (.ireturn, 1)) (h1 : k ≤ rm_L_law.cells) (h2 : n ≤ rm_L_law.slots) (he : v = 1) : WS X 7 k n pc lv [.int v] S := fun H locs ls hP hD hS hG hv => by
  subst he
  obtain ⟨e1, e2, e3, e4, -, -, -, e8⟩ := E
  rw [e1, e2, C.2.2.2.2.2.2.2]
  refine va_forget (fun q hq => e8 _ (hS.2.2 q hq)) ?_
  refine W.widen h1 h2 ?_
  exact lw_ret C.1 C.2.1 e3 e4 hd
end LawRows
theorem nc_L_16 : NC RL 16 11 26 := ⟨_, _, tyX11, rfl, by decide, g_1157, g_1158, g_11, tyX11_ok, by decide +kernel⟩
theorem nc_L_8 : NC RL 8 9 10 := ⟨_, _, tyX9, rfl, by decide, g_22, g_23, g_1, tyX9_ok, by decide +kernel⟩
theorem yI_X11_init : YI yX11_init cX11_init 1 0 := ⟨g_1160, g_11, g_1161, rfl, by decide, by decide, by decide +kernel⟩
theorem yI_X9_init : YI yX9_init cX9_init 1 0 := ⟨g_25, g_1, g_26, rfl, by decide, by decide, by decide +kernel⟩
theorem yV_X11_air : YV yX11_air cX11_air 4 (some .int) 11 3 := ⟨⟨_, rfl, rfl⟩, by decide, g_1612, g_1613, g_11, g_1614, by decide, by decide, by decide +kernel⟩
theorem yV_X11_back : YV yX11_back cX11_back 3 (some .boolean) 11 1 := ⟨⟨_, rfl, rfl⟩, by decide, g_1833, g_1834, g_11, g_1835, by decide, by decide, by decide +kernel⟩
theorem yV_X11_best : YV yX11_best cX11_best 5 (some .int) 11 4 := ⟨⟨_, rfl, rfl⟩, by decide, g_1624, g_1625, g_11, g_1626, by decide, by decide, by decide +kernel⟩
theorem yV_X11_day : YV yX11_day cX11_day 7 (some .int) 11 4 := ⟨⟨_, rfl, rfl⟩, by decide, g_1768, g_1769, g_11, g_1770, by decide, by decide, by decide +kernel⟩
theorem yV_X11_driest : YV yX11_driest cX11_driest 10 (some .int) 11 3 := ⟨⟨_, rfl, rfl⟩, by decide, g_1652, g_1653, g_11, g_1654, by decide, by decide, by decide +kernel⟩
theorem yV_X11_even : YV yX11_even cX11_even 7 (some .int) 11 4 := ⟨⟨_, rfl, rfl⟩, by decide, g_1640, g_1641, g_11, g_1642, by decide, by decide, by decide +kernel⟩
theorem yV_X11_face : YV yX11_face cX11_face 9 (some .long) 11 7 := ⟨⟨_, rfl, rfl⟩, by decide, g_1531, g_1532, g_11, g_1533, by decide, by decide, by decide +kernel⟩
theorem yV_X11_fault : YV yX11_fault cX11_fault 1 (some .int) 11 0 := ⟨⟨_, rfl, rfl⟩, by decide, g_1523, g_1524, g_11, g_1525, by decide, by decide, by decide +kernel⟩
theorem yV_X11_feed : YV yX11_feed cX11_feed 8 (some .int) 11 5 := ⟨⟨_, rfl, rfl⟩, by decide, g_1243, g_1244, g_11, g_1245, by decide, by decide, by decide +kernel⟩
theorem yV_X11_first : YV yX11_first cX11_first 12 (some .int) 11 6 := ⟨⟨_, rfl, rfl⟩, by decide, g_1668, g_1669, g_11, g_1670, by decide, by decide, by decide +kernel⟩
theorem yV_X11_fit : YV yX11_fit cX11_fit 4 (some .int) 11 2 := ⟨⟨_, rfl, rfl⟩, by decide, g_1760, g_1761, g_11, g_1762, by decide, by decide, by decide +kernel⟩
theorem yV_X11_fits : YV yX11_fits cX11_fits 2 (some .int) 11 1 := ⟨⟨_, rfl, rfl⟩, by decide, g_1748, g_1749, g_11, g_1750, by decide, by decide, by decide +kernel⟩
theorem yV_X11_go : YV yX11_go cX11_go 6 (some .int) 11 3 := ⟨⟨_, rfl, rfl⟩, by decide, g_1776, g_1777, g_11, g_1778, by decide, by decide, by decide +kernel⟩
theorem yV_X11_got : YV yX11_got cX11_got 3 (some .long) 11 2 := ⟨⟨_, rfl, rfl⟩, by decide, g_1805, g_1806, g_11, g_1807, by decide, by decide, by decide +kernel⟩
theorem yV_X11_held : YV yX11_held cX11_held 7 (some .int) 11 5 := ⟨⟨_, rfl, rfl⟩, by decide, g_1620, g_1621, g_11, g_1622, by decide, by decide, by decide +kernel⟩
theorem yV_X11_least : YV yX11_least cX11_least 8 (some .long) 11 6 := ⟨⟨_, rfl, rfl⟩, by decide, g_1672, g_1673, g_11, g_1674, by decide, by decide, by decide +kernel⟩
theorem yV_X11_led : YV yX11_led cX11_led 4 (some .int) 11 1 := ⟨⟨_, rfl, rfl⟩, by decide, g_1845, g_1846, g_11, g_1847, by decide, by decide, by decide +kernel⟩
theorem yV_X11_lee : YV yX11_lee cX11_lee 9 (some .long) 11 7 := ⟨⟨_, rfl, rfl⟩, by decide, g_1656, g_1657, g_11, g_1658, by decide, by decide, by decide +kernel⟩
theorem yV_X11_lies : YV yX11_lies cX11_lies 3 (some .int) 11 0 := ⟨⟨_, rfl, rfl⟩, by decide, g_1764, g_1765, g_11, g_1766, by decide, by decide, by decide +kernel⟩
theorem yV_X11_mark : YV yX11_mark cX11_mark 2 (some .int) 11 0 := ⟨⟨_, rfl, rfl⟩, by decide, g_1829, g_1830, g_11, g_1831, by decide, by decide, by decide +kernel⟩
theorem yV_X11_mean : YV yX11_mean cX11_mean 8 (some .long) 11 6 := ⟨⟨_, rfl, rfl⟩, by decide, g_1599, g_1600, g_11, g_1601, by decide, by decide, by decide +kernel⟩
theorem yV_X11_minutes : YV yX11_minutes cX11_minutes 4 (some .int) 11 3 := ⟨⟨_, rfl, rfl⟩, by decide, g_1604, g_1605, g_11, g_1606, by decide, by decide, by decide +kernel⟩
theorem yV_X11_off : YV yX11_off cX11_off 7 (some .int) 11 4 := ⟨⟨_, rfl, rfl⟩, by decide, g_1744, g_1745, g_11, g_1746, by decide, by decide, by decide +kernel⟩
theorem yV_X11_road : YV yX11_road cX11_road 3 (some .int) 11 2 := ⟨⟨_, rfl, rfl⟩, by decide, g_1841, g_1842, g_11, g_1843, by decide, by decide, by decide +kernel⟩
theorem yV_X11_round : YV yX11_round cX11_round 5 (some .long) 11 4 := ⟨⟨_, rfl, rfl⟩, by decide, g_1644, g_1645, g_11, g_1646, by decide, by decide, by decide +kernel⟩
theorem yV_X11_saves : YV yX11_saves cX11_saves 6 (some .long) 11 5 := ⟨⟨_, rfl, rfl⟩, by decide, g_1632, g_1633, g_11, g_1634, by decide, by decide, by decide +kernel⟩
theorem yV_X11_size : YV yX11_size cX11_size 2 (some .int) 11 1 := ⟨⟨_, rfl, rfl⟩, by decide, g_1849, g_1850, g_11, g_1851, by decide, by decide, by decide +kernel⟩
theorem yV_X11_soaked : YV yX11_soaked cX11_soaked 1 (some .int) 11 0 := ⟨⟨_, rfl, rfl⟩, by decide, g_1821, g_1822, g_11, g_1823, by decide, by decide, by decide +kernel⟩
theorem yV_X11_stay : YV yX11_stay cX11_stay 4 (some .boolean) 11 1 := ⟨⟨_, rfl, rfl⟩, by decide, g_1792, g_1793, g_11, g_1794, by decide, by decide, by decide +kernel⟩
theorem yV_X11_step : YV yX11_step cX11_step 9 (some .int) 11 6 := ⟨⟨_, rfl, rfl⟩, by decide, g_1740, g_1741, g_11, g_1742, by decide, by decide, by decide +kernel⟩
theorem yV_X11_steps : YV yX11_steps cX11_steps 7 (some .int) 11 5 := ⟨⟨_, rfl, rfl⟩, by decide, g_1732, g_1733, g_11, g_1734, by decide, by decide, by decide +kernel⟩
theorem yV_X11_there : YV yX11_there cX11_there 7 (some .int) 11 5 := ⟨⟨_, rfl, rfl⟩, by decide, g_1728, g_1729, g_11, g_1730, by decide, by decide, by decide +kernel⟩
theorem yV_X11_trouble : YV yX11_trouble cX11_trouble 1 (some .int) 11 0 := ⟨⟨_, rfl, rfl⟩, by decide, g_1853, g_1854, g_11, g_1855, by decide, by decide, by decide +kernel⟩
theorem yV_X11_undo : YV yX11_undo cX11_undo 2 (some .boolean) 11 0 := ⟨⟨_, rfl, rfl⟩, by decide, g_1825, g_1826, g_11, g_1827, by decide, by decide, by decide +kernel⟩
theorem yV_X11_walker : YV yX11_walker cX11_walker 3 (some .int) 11 2 := ⟨⟨_, rfl, rfl⟩, by decide, g_1837, g_1838, g_11, g_1839, by decide, by decide, by decide +kernel⟩
theorem yV_X11_wet : YV yX11_wet cX11_wet 8 (some .long) 11 6 := ⟨⟨_, rfl, rfl⟩, by decide, g_1591, g_1592, g_11, g_1593, by decide, by decide, by decide +kernel⟩
theorem yV_X11_wetness : YV yX11_wetness cX11_wetness 4 (some .long) 11 1 := ⟨⟨_, rfl, rfl⟩, by decide, g_1809, g_1810, g_11, g_1811, by decide, by decide, by decide +kernel⟩
theorem yV_X11_where : YV yX11_where cX11_where 1 (some .int) 11 0 := ⟨⟨_, rfl, rfl⟩, by decide, g_1527, g_1528, g_11, g_1529, by decide, by decide, by decide +kernel⟩
theorem yV_X11_world : YV yX11_world cX11_world 2 (some .int) 11 1 := ⟨⟨_, rfl, rfl⟩, by decide, g_1247, g_1248, g_11, g_1249, by decide, by decide, by decide +kernel⟩
theorem yV_X11_worst : YV yX11_worst cX11_worst 7 (some .int) 11 4 := ⟨⟨_, rfl, rfl⟩, by decide, g_1636, g_1637, g_11, g_1638, by decide, by decide, by decide +kernel⟩
theorem yV_X9_air : YV yX9_air cX9_air 4 (some .int) 9 3 := ⟨⟨_, rfl, rfl⟩, by decide, g_746, g_747, g_1, g_748, by decide, by decide, by decide +kernel⟩
theorem yV_X9_back : YV yX9_back cX9_back 2 (some .boolean) 9 1 := ⟨⟨_, rfl, rfl⟩, by decide, g_1053, g_1054, g_1, g_1055, by decide, by decide, by decide +kernel⟩
theorem yV_X9_best : YV yX9_best cX9_best 5 (some .int) 9 4 := ⟨⟨_, rfl, rfl⟩, by decide, g_757, g_758, g_1, g_759, by decide, by decide, by decide +kernel⟩
theorem yV_X9_day : YV yX9_day cX9_day 5 (some .int) 9 4 := ⟨⟨_, rfl, rfl⟩, by decide, g_963, g_964, g_1, g_965, by decide, by decide, by decide +kernel⟩
theorem yV_X9_driest : YV yX9_driest cX9_driest 11 (some .int) 9 3 := ⟨⟨_, rfl, rfl⟩, by decide, g_793, g_794, g_1, g_795, by decide, by decide, by decide +kernel⟩
theorem yV_X9_even : YV yX9_even cX9_even 9 (some .int) 9 4 := ⟨⟨_, rfl, rfl⟩, by decide, g_785, g_786, g_1, g_787, by decide, by decide, by decide +kernel⟩
theorem yV_X9_face : YV yX9_face cX9_face 9 (some .long) 9 7 := ⟨⟨_, rfl, rfl⟩, by decide, g_650, g_651, g_1, g_652, by decide, by decide, by decide +kernel⟩
theorem yV_X9_fault : YV yX9_fault cX9_fault 1 (some .int) 9 0 := ⟨⟨_, rfl, rfl⟩, by decide, g_642, g_643, g_1, g_644, by decide, by decide, by decide +kernel⟩
theorem yV_X9_feed : YV yX9_feed cX9_feed 6 (some .int) 9 5 := ⟨⟨_, rfl, rfl⟩, by decide, g_419, g_420, g_1, g_421, by decide, by decide, by decide +kernel⟩
theorem yV_X9_first : YV yX9_first cX9_first 11 (some .int) 9 6 := ⟨⟨_, rfl, rfl⟩, by decide, g_810, g_811, g_1, g_812, by decide, by decide, by decide +kernel⟩
theorem yV_X9_fit : YV yX9_fit cX9_fit 4 (some .int) 9 2 := ⟨⟨_, rfl, rfl⟩, by decide, g_950, g_951, g_1, g_952, by decide, by decide, by decide +kernel⟩
theorem yV_X9_fits : YV yX9_fits cX9_fits 2 (some .int) 9 1 := ⟨⟨_, rfl, rfl⟩, by decide, g_926, g_927, g_1, g_928, by decide, by decide, by decide +kernel⟩
theorem yV_X9_go : YV yX9_go cX9_go 8 (some .int) 9 3 := ⟨⟨_, rfl, rfl⟩, by decide, g_978, g_979, g_1, g_980, by decide, by decide, by decide +kernel⟩
theorem yV_X9_got : YV yX9_got cX9_got 3 (some .long) 9 2 := ⟨⟨_, rfl, rfl⟩, by decide, g_1015, g_1016, g_1, g_1017, by decide, by decide, by decide +kernel⟩
theorem yV_X9_held : YV yX9_held cX9_held 6 (some .int) 9 5 := ⟨⟨_, rfl, rfl⟩, by decide, g_751, g_752, g_1, g_753, by decide, by decide, by decide +kernel⟩
theorem yV_X9_least : YV yX9_least cX9_least 7 (some .long) 9 6 := ⟨⟨_, rfl, rfl⟩, by decide, g_814, g_815, g_1, g_816, by decide, by decide, by decide +kernel⟩
theorem yV_X9_lee : YV yX9_lee cX9_lee 8 (some .long) 9 7 := ⟨⟨_, rfl, rfl⟩, by decide, g_798, g_799, g_1, g_800, by decide, by decide, by decide +kernel⟩
theorem yV_X9_lies : YV yX9_lies cX9_lies 3 (some .int) 9 0 := ⟨⟨_, rfl, rfl⟩, by decide, g_958, g_959, g_1, g_960, by decide, by decide, by decide +kernel⟩
theorem yV_X9_mark : YV yX9_mark cX9_mark 2 (some .int) 9 0 := ⟨⟨_, rfl, rfl⟩, by decide, g_1045, g_1046, g_1, g_1047, by decide, by decide, by decide +kernel⟩
theorem yV_X9_mean : YV yX9_mean cX9_mean 9 (some .long) 9 6 := ⟨⟨_, rfl, rfl⟩, by decide, g_733, g_734, g_1, g_735, by decide, by decide, by decide +kernel⟩
theorem yV_X9_minutes : YV yX9_minutes cX9_minutes 4 (some .int) 9 3 := ⟨⟨_, rfl, rfl⟩, by decide, g_738, g_739, g_1, g_740, by decide, by decide, by decide +kernel⟩
theorem yV_X9_off : YV yX9_off cX9_off 9 (some .int) 9 4 := ⟨⟨_, rfl, rfl⟩, by decide, g_922, g_923, g_1, g_924, by decide, by decide, by decide +kernel⟩
theorem yV_X9_road : YV yX9_road cX9_road 3 (some .int) 9 2 := ⟨⟨_, rfl, rfl⟩, by decide, g_1069, g_1070, g_1, g_1071, by decide, by decide, by decide +kernel⟩
theorem yV_X9_round : YV yX9_round cX9_round 9 (some .long) 9 4 := ⟨⟨_, rfl, rfl⟩, by decide, g_789, g_790, g_1, g_791, by decide, by decide, by decide +kernel⟩
theorem yV_X9_saves : YV yX9_saves cX9_saves 9 (some .long) 9 5 := ⟨⟨_, rfl, rfl⟩, by decide, g_767, g_768, g_1, g_769, by decide, by decide, by decide +kernel⟩
theorem yV_X9_size : YV yX9_size cX9_size 2 (some .int) 9 1 := ⟨⟨_, rfl, rfl⟩, by decide, g_1077, g_1078, g_1, g_1079, by decide, by decide, by decide +kernel⟩
theorem yV_X9_soaked : YV yX9_soaked cX9_soaked 2 (some .int) 9 0 := ⟨⟨_, rfl, rfl⟩, by decide, g_1033, g_1034, g_1, g_1035, by decide, by decide, by decide +kernel⟩
theorem yV_X9_stay : YV yX9_stay cX9_stay 5 (some .boolean) 9 1 := ⟨⟨_, rfl, rfl⟩, by decide, g_1005, g_1006, g_1, g_1007, by decide, by decide, by decide +kernel⟩
theorem yV_X9_step : YV yX9_step cX9_step 8 (some .int) 9 6 := ⟨⟨_, rfl, rfl⟩, by decide, g_918, g_919, g_1, g_920, by decide, by decide, by decide +kernel⟩
theorem yV_X9_steps : YV yX9_steps cX9_steps 6 (some .int) 9 5 := ⟨⟨_, rfl, rfl⟩, by decide, g_909, g_910, g_1, g_911, by decide, by decide, by decide +kernel⟩
theorem yV_X9_there : YV yX9_there cX9_there 6 (some .int) 9 5 := ⟨⟨_, rfl, rfl⟩, by decide, g_901, g_902, g_1, g_903, by decide, by decide, by decide +kernel⟩
theorem yV_X9_trouble : YV yX9_trouble cX9_trouble 1 (some .int) 9 0 := ⟨⟨_, rfl, rfl⟩, by decide, g_1081, g_1082, g_1, g_1083, by decide, by decide, by decide +kernel⟩
theorem yV_X9_undo : YV yX9_undo cX9_undo 1 (some .boolean) 9 0 := ⟨⟨_, rfl, rfl⟩, by decide, g_1037, g_1038, g_1, g_1039, by decide, by decide, by decide +kernel⟩
theorem yV_X9_walker : YV yX9_walker cX9_walker 3 (some .int) 9 2 := ⟨⟨_, rfl, rfl⟩, by decide, g_1061, g_1062, g_1, g_1063, by decide, by decide, by decide +kernel⟩
theorem yV_X9_wet : YV yX9_wet cX9_wet 7 (some .long) 9 6 := ⟨⟨_, rfl, rfl⟩, by decide, g_729, g_730, g_1, g_731, by decide, by decide, by decide +kernel⟩
theorem yV_X9_wetness : YV yX9_wetness cX9_wetness 4 (some .long) 9 1 := ⟨⟨_, rfl, rfl⟩, by decide, g_1019, g_1020, g_1, g_1021, by decide, by decide, by decide +kernel⟩
theorem yV_X9_where : YV yX9_where cX9_where 1 (some .int) 9 0 := ⟨⟨_, rfl, rfl⟩, by decide, g_646, g_647, g_1, g_648, by decide, by decide, by decide +kernel⟩
theorem yV_X9_world : YV yX9_world cX9_world 3 (some .int) 9 1 := ⟨⟨_, rfl, rfl⟩, by decide, g_427, g_428, g_1, g_429, by decide, by decide, by decide +kernel⟩
theorem yV_X9_worst : YV yX9_worst cX9_worst 5 (some .int) 9 4 := ⟨⟨_, rfl, rfl⟩, by decide, g_776, g_777, g_1, g_778, by decide, by decide, by decide +kernel⟩
end
section
def P_L_law_2341 (scL : Nat) (scx : Nat → Int32) (Q : Int32 → HS → Prop) (X23 : Nat → Nat → Nat → Int32 → Nat → Nat → HS → Prop) (v1 : Nat) (v2 : Nat) (v3 : Nat) (v4 : Int32) (kk : Nat) (nn : Nat) (S : HS) : Prop := ∀ x1 : Int32, x1 = v4 + (8 : Int32) → (X23 v1 v2 v3 x1 kk nn S)
set_option maxRecDepth 20000 in
set_option maxHeartbeats 4000000 in
theorem T_L_law_2341 {X : CX} {Q : Int32 → HS → Prop} {scb scL : Nat} {scx : Nat → Int32} (C : Cx X cL_law RL 7 rm_L_law) (E : LE X scb scL scx Q) (ht : LD X) (hn : True) {X23 : Nat → Nat → Nat → Int32 → Nat → Nat → HS → Prop} (hX23 : ∀ (v1 : Nat) (v2 : Nat) (v3 : Nat) (v4 : Int32) (kk : Nat) (nn : Nat) (S : HS), X23 v1 v2 v3 v4 kk nn S → WS X 7 kk nn 23 [(0, .ref scb), (1, .ref v1), (2, .ref v2), (3, .ref v3), (4, .int v4)] [] S) {v1 : Nat} {v2 : Nat} {v3 : Nat} {v4 : Int32} {kk : Nat} {nn : Nat} {S : HS} (h : P_L_law_2341 scL scx Q X23 v1 v2 v3 v4 kk nn S) : WS X 7 kk nn 2341 [(0, .ref scb), (1, .ref v1), (2, .ref v2), (3, .ref v3), (4, .int v4)] [] S := by
  obtain ⟨x1, ex1⟩ : ∃ z : Int32, z = v4 + (8 : Int32) := ⟨_, rfl⟩
  have h := h x1 ex1
  refine r_iinc (pc := 2341) C (v := x1) (lv' := [(4, .int x1), (0, .ref scb), (1, .ref v1), (2, .ref v2), (3, .ref v3)]) dL_law_2341 4 rfl ex1.symm (by decide) rfl ?_
  refine r_goto (pc := 2344) C (tgt := 23) dL_law_2344 (by decide) ?_
  exact r_sub [1, 2, 3, 4, 0] rfl (hX23 v1 v2 v3 x1 kk nn S h)
def P_L_law_216 (scL : Nat) (scx : Nat → Int32) (Q : Int32 → HS → Prop) (X23 : Nat → Nat → Nat → Int32 → Nat → Nat → HS → Prop) (v1 : Nat) (v2 : Nat) (v3 : Nat) (v4 : Int32) (kk : Nat) (nn : Nat) (S : HS) : Prop := ∀ x1 : Int32, x1 = v4 + (1 : Int32) → (vp_in x1 scL ∧ ∀ x3 : Int32, x3 = scx x1.toNatClampNeg → (∀ x4 : Int32, x4 = v4 + (2 : Int32) → (vp_in x4 scL ∧ ∀ x6 : Int32, x6 = scx x4.toNatClampNeg → (∀ x7 : Int32, x7 = v4 + (3 : Int32) → (vp_in x7 scL ∧ ∀ x9 : Int32, x9 = scx x7.toNatClampNeg → (∀ x10 : Int32, x10 = v4 + (4 : Int32) → (vp_in x10 scL ∧ ∀ x12 : Int32, x12 = scx x10.toNatClampNeg → (∀ x13 : Int32, x13 = v4 + (5 : Int32) → (vp_in x13 scL ∧ ∀ x15 : Int32, x15 = scx x13.toNatClampNeg → (ob S v1 9 ∧ (kk ≤ rm_L_law.cells ∧ nn ≤ rm_L_law.slots ∧ (P_X9_feed v1 x3 x6 x9 x12 x15 (fun x18 S16 => Gr S S16 → (∀ x19 : Int32, x19 = v4 + (1 : Int32) → (vp_in x19 scL ∧ ∀ x21 : Int32, x21 = scx x19.toNatClampNeg → (∀ x22 : Int32, x22 = v4 + (2 : Int32) → (vp_in x22 scL ∧ ∀ x24 : Int32, x24 = scx x22.toNatClampNeg → (∀ x25 : Int32, x25 = v4 + (3 : Int32) → (vp_in x25 scL ∧ ∀ x27 : Int32, x27 = scx x25.toNatClampNeg → (∀ x28 : Int32, x28 = v4 + (4 : Int32) → (vp_in x28 scL ∧ ∀ x30 : Int32, x30 = scx x28.toNatClampNeg → (∀ x31 : Int32, x31 = v4 + (5 : Int32) → (vp_in x31 scL ∧ ∀ x33 : Int32, x33 = scx x31.toNatClampNeg → (ob S16 v2 11 ∧ (kk ≤ rm_L_law.cells ∧ nn ≤ rm_L_law.slots ∧ (P_X11_feed v2 x21 x24 x27 x30 x33 (fun x36 S34 => Gr S16 S34 → (P_L_law_2341 scL scx Q X23 v1 v2 v3 v4 kk nn S34)) S16)))))))))))))) S))))))))))))
set_option maxRecDepth 20000 in
set_option maxHeartbeats 4000000 in
theorem T_L_law_216 {X : CX} {Q : Int32 → HS → Prop} {scb scL : Nat} {scx : Nat → Int32} (C : Cx X cL_law RL 7 rm_L_law) (E : LE X scb scL scx Q) (ht : LD X) (hn : True) {X23 : Nat → Nat → Nat → Int32 → Nat → Nat → HS → Prop} (hX23 : ∀ (v1 : Nat) (v2 : Nat) (v3 : Nat) (v4 : Int32) (kk : Nat) (nn : Nat) (S : HS), X23 v1 v2 v3 v4 kk nn S → WS X 7 kk nn 23 [(0, .ref scb), (1, .ref v1), (2, .ref v2), (3, .ref v3), (4, .int v4)] [] S) {v1 : Nat} {v2 : Nat} {v3 : Nat} {v4 : Int32} {kk : Nat} {nn : Nat} {S : HS} (h : P_L_law_216 scL scx Q X23 v1 v2 v3 v4 kk nn S) : WS X 7 kk nn 216 [(0, .ref scb), (1, .ref v1), (2, .ref v2), (3, .ref v3), (4, .int v4)] [] S := by
  refine r_aload_n (pc := 216) C dL_law_216 1 rfl ?_
  refine r_aload_n (pc := 217) C dL_law_217 0 rfl ?_
  refine r_iload (pc := 218) C dL_law_218 4 rfl ?_
  refine r_iconst (pc := 220) C (v := (1 : Int32)) dL_law_220 (by decide) ?_
  refine r_iadd (pc := 221) C dL_law_221 ?_
  refine r_topi (fun x1 ex1 => ?_)
  have h := h x1 ex1
  obtain ⟨i2, h⟩ := h
  refine r_scLd (pc := 222) C E i2 dL_law_222 ?_
  refine r_topi (fun x3 ex3 => ?_)
  have h := h x3 ex3
  refine r_aload_n (pc := 223) C dL_law_223 0 rfl ?_
  refine r_iload (pc := 224) C dL_law_224 4 rfl ?_
  refine r_iconst (pc := 226) C (v := (2 : Int32)) dL_law_226 (by decide) ?_
  refine r_iadd (pc := 227) C dL_law_227 ?_
  refine r_topi (fun x4 ex4 => ?_)
  have h := h x4 ex4
  obtain ⟨i5, h⟩ := h
  refine r_scLd (pc := 228) C E i5 dL_law_228 ?_
  refine r_topi (fun x6 ex6 => ?_)
  have h := h x6 ex6
  refine r_aload_n (pc := 229) C dL_law_229 0 rfl ?_
  refine r_iload (pc := 230) C dL_law_230 4 rfl ?_
  refine r_iconst (pc := 232) C (v := (3 : Int32)) dL_law_232 (by decide) ?_
  refine r_iadd (pc := 233) C dL_law_233 ?_
  refine r_topi (fun x7 ex7 => ?_)
  have h := h x7 ex7
  obtain ⟨i8, h⟩ := h
  refine r_scLd (pc := 234) C E i8 dL_law_234 ?_
  refine r_topi (fun x9 ex9 => ?_)
  have h := h x9 ex9
  refine r_aload_n (pc := 235) C dL_law_235 0 rfl ?_
  refine r_iload (pc := 236) C dL_law_236 4 rfl ?_
  refine r_iconst (pc := 238) C (v := (4 : Int32)) dL_law_238 (by decide) ?_
  refine r_iadd (pc := 239) C dL_law_239 ?_
  refine r_topi (fun x10 ex10 => ?_)
  have h := h x10 ex10
  obtain ⟨i11, h⟩ := h
  refine r_scLd (pc := 240) C E i11 dL_law_240 ?_
  refine r_topi (fun x12 ex12 => ?_)
  have h := h x12 ex12
  refine r_aload_n (pc := 241) C dL_law_241 0 rfl ?_
  refine r_iload (pc := 242) C dL_law_242 4 rfl ?_
  refine r_iconst (pc := 244) C (v := (5 : Int32)) dL_law_244 (by decide) ?_
  refine r_iadd (pc := 245) C dL_law_245 ?_
  refine r_topi (fun x13 ex13 => ?_)
  have h := h x13 ex13
  obtain ⟨i14, h⟩ := h
  refine r_scLd (pc := 246) C E i14 dL_law_246 ?_
  refine r_topi (fun x15 ex15 => ?_)
  have h := h x15 ex15
  obtain ⟨o_v1, h⟩ := h
  obtain ⟨hk, hk2, h⟩ := h
  refine r_callVi0 (pc := 247) C (rest := []) (a := v1) o_v1 [.int x3, .int x6, .int x9, .int x12, .int x15] yV_X9_feed g_418 (c_X9_feed h) dL_law_247 rfl rfl (Nat.le_of_ble_eq_true rfl) ⟨by decide, by decide⟩ ⟨hk, hk2⟩ ⟨rfl, rfl⟩ (fun x18 S16 h g17 => ?_)
  have h := h g17
  have o_v1 := gr_ob g17 o_v1
  refine r_pop (pc := 250) C dL_law_250 rfl ?_
  refine r_aload_n (pc := 251) C dL_law_251 2 rfl ?_
  refine r_aload_n (pc := 252) C dL_law_252 0 rfl ?_
  refine r_iload (pc := 253) C dL_law_253 4 rfl ?_
  refine r_iconst (pc := 255) C (v := (1 : Int32)) dL_law_255 (by decide) ?_
  refine r_iadd (pc := 256) C dL_law_256 ?_
  refine r_topi (fun x19 ex19 => ?_)
  have h := h x19 ex19
  obtain ⟨i20, h⟩ := h
  refine r_scLd (pc := 257) C E i20 dL_law_257 ?_
  refine r_topi (fun x21 ex21 => ?_)
  have h := h x21 ex21
  refine r_aload_n (pc := 258) C dL_law_258 0 rfl ?_
  refine r_iload (pc := 259) C dL_law_259 4 rfl ?_
  refine r_iconst (pc := 261) C (v := (2 : Int32)) dL_law_261 (by decide) ?_
  refine r_iadd (pc := 262) C dL_law_262 ?_
  refine r_topi (fun x22 ex22 => ?_)
  have h := h x22 ex22
  obtain ⟨i23, h⟩ := h
  refine r_scLd (pc := 263) C E i23 dL_law_263 ?_
  refine r_topi (fun x24 ex24 => ?_)
  have h := h x24 ex24
  refine r_aload_n (pc := 264) C dL_law_264 0 rfl ?_
  refine r_iload (pc := 265) C dL_law_265 4 rfl ?_
  refine r_iconst (pc := 267) C (v := (3 : Int32)) dL_law_267 (by decide) ?_
  refine r_iadd (pc := 268) C dL_law_268 ?_
  refine r_topi (fun x25 ex25 => ?_)
  have h := h x25 ex25
  obtain ⟨i26, h⟩ := h
  refine r_scLd (pc := 269) C E i26 dL_law_269 ?_
  refine r_topi (fun x27 ex27 => ?_)
  have h := h x27 ex27
  refine r_aload_n (pc := 270) C dL_law_270 0 rfl ?_
  refine r_iload (pc := 271) C dL_law_271 4 rfl ?_
  refine r_iconst (pc := 273) C (v := (4 : Int32)) dL_law_273 (by decide) ?_
  refine r_iadd (pc := 274) C dL_law_274 ?_
  refine r_topi (fun x28 ex28 => ?_)
  have h := h x28 ex28
  obtain ⟨i29, h⟩ := h
  refine r_scLd (pc := 275) C E i29 dL_law_275 ?_
  refine r_topi (fun x30 ex30 => ?_)
  have h := h x30 ex30
  refine r_aload_n (pc := 276) C dL_law_276 0 rfl ?_
  refine r_iload (pc := 277) C dL_law_277 4 rfl ?_
  refine r_iconst (pc := 279) C (v := (5 : Int32)) dL_law_279 (by decide) ?_
  refine r_iadd (pc := 280) C dL_law_280 ?_
  refine r_topi (fun x31 ex31 => ?_)
  have h := h x31 ex31
  obtain ⟨i32, h⟩ := h
  refine r_scLd (pc := 281) C E i32 dL_law_281 ?_
  refine r_topi (fun x33 ex33 => ?_)
  have h := h x33 ex33
  obtain ⟨o_v2, h⟩ := h
  obtain ⟨hk, hk2, h⟩ := h
  refine r_callVi0 (pc := 282) C (rest := []) (a := v2) o_v2 [.int x21, .int x24, .int x27, .int x30, .int x33] yV_X11_feed g_1242 (c_X11_feed h) dL_law_282 rfl rfl (Nat.le_of_ble_eq_true rfl) ⟨by decide, by decide⟩ ⟨hk, hk2⟩ ⟨rfl, rfl⟩ (fun x36 S34 h g35 => ?_)
  have h := h g35
  have o_v1 := gr_ob g35 o_v1
  have o_v2 := gr_ob g35 o_v2
  refine r_pop (pc := 285) C dL_law_285 rfl ?_
  refine r_goto (pc := 286) C (tgt := 2341) dL_law_286 (by decide) ?_
  exact r_sub [0, 1, 2, 3, 4] rfl (T_L_law_2341 C E ht hn hX23 h)
def P_L_law_289 (scL : Nat) (scx : Nat → Int32) (Q : Int32 → HS → Prop) (X23 : Nat → Nat → Nat → Int32 → Nat → Nat → HS → Prop) (v1 : Nat) (v2 : Nat) (v3 : Nat) (v4 : Int32) (kk : Nat) (nn : Nat) (S : HS) : Prop := ∀ x1 : Int32, x1 = v4 + (1 : Int32) → (vp_in x1 scL ∧ ∀ x3 : Int32, x3 = scx x1.toNatClampNeg → (ob S v1 9 ∧ (kk ≤ rm_L_law.cells ∧ nn ≤ rm_L_law.slots ∧ (P_X9_world v1 x3 (fun x6 S4 => Gr S S4 → (∀ x7 : Int32, x7 = v4 + (1 : Int32) → (vp_in x7 scL ∧ ∀ x9 : Int32, x9 = scx x7.toNatClampNeg → (ob S4 v2 11 ∧ (kk + 25 ≤ rm_L_law.cells ∧ nn + 225 ≤ rm_L_law.slots ∧ (P_X11_world v2 x9 (fun x12 S10 => Gr S4 S10 → (P_L_law_2341 scL scx Q X23 v1 v2 v3 v4 (kk + 25) (nn + 225) S10)) S4)))))) S))))
set_option maxRecDepth 20000 in
set_option maxHeartbeats 4000000 in
theorem T_L_law_289 {X : CX} {Q : Int32 → HS → Prop} {scb scL : Nat} {scx : Nat → Int32} (C : Cx X cL_law RL 7 rm_L_law) (E : LE X scb scL scx Q) (ht : LD X) (hn : True) {X23 : Nat → Nat → Nat → Int32 → Nat → Nat → HS → Prop} (hX23 : ∀ (v1 : Nat) (v2 : Nat) (v3 : Nat) (v4 : Int32) (kk : Nat) (nn : Nat) (S : HS), X23 v1 v2 v3 v4 kk nn S → WS X 7 kk nn 23 [(0, .ref scb), (1, .ref v1), (2, .ref v2), (3, .ref v3), (4, .int v4)] [] S) {v1 : Nat} {v2 : Nat} {v3 : Nat} {v4 : Int32} {kk : Nat} {nn : Nat} {S : HS} (h : P_L_law_289 scL scx Q X23 v1 v2 v3 v4 kk nn S) : WS X 7 kk nn 289 [(0, .ref scb), (1, .ref v1), (2, .ref v2), (3, .ref v3), (4, .int v4)] [] S := by
  refine r_aload_n (pc := 289) C dL_law_289 1 rfl ?_
  refine r_aload_n (pc := 290) C dL_law_290 0 rfl ?_
  refine r_iload (pc := 291) C dL_law_291 4 rfl ?_
  refine r_iconst (pc := 293) C (v := (1 : Int32)) dL_law_293 (by decide) ?_
  refine r_iadd (pc := 294) C dL_law_294 ?_
  refine r_topi (fun x1 ex1 => ?_)
  have h := h x1 ex1
  obtain ⟨i2, h⟩ := h
  refine r_scLd (pc := 295) C E i2 dL_law_295 ?_
  refine r_topi (fun x3 ex3 => ?_)
  have h := h x3 ex3
  obtain ⟨o_v1, h⟩ := h
  obtain ⟨hk, hk2, h⟩ := h
  refine r_callVi0 (pc := 296) C (rest := []) (a := v1) o_v1 [.int x3] yV_X9_world g_426 (c_X9_world h) dL_law_296 rfl rfl (Nat.le_of_ble_eq_true rfl) ⟨by decide, by decide⟩ ⟨hk, hk2⟩ ⟨rfl, rfl⟩ (fun x6 S4 h g5 => ?_)
  have h := h g5
  have o_v1 := gr_ob g5 o_v1
  refine r_pop (pc := 299) C dL_law_299 rfl ?_
  refine r_aload_n (pc := 300) C dL_law_300 2 rfl ?_
  refine r_aload_n (pc := 301) C dL_law_301 0 rfl ?_
  refine r_iload (pc := 302) C dL_law_302 4 rfl ?_
  refine r_iconst (pc := 304) C (v := (1 : Int32)) dL_law_304 (by decide) ?_
  refine r_iadd (pc := 305) C dL_law_305 ?_
  refine r_topi (fun x7 ex7 => ?_)
  have h := h x7 ex7
  obtain ⟨i8, h⟩ := h
  refine r_scLd (pc := 306) C E i8 dL_law_306 ?_
  refine r_topi (fun x9 ex9 => ?_)
  have h := h x9 ex9
  obtain ⟨o_v2, h⟩ := h
  obtain ⟨hk, hk2, h⟩ := h
  refine r_callVi (pc := 307) C (rest := []) (a := v2) o_v2 [.int x9] yV_X11_world g_1246 (c_X11_world h) dL_law_307 rfl rfl (Nat.le_of_ble_eq_true rfl) ⟨by decide, by decide⟩ ⟨hk, hk2⟩ (fun x12 S10 h g11 => ?_)
  have h := h g11
  have o_v1 := gr_ob g11 o_v1
  have o_v2 := gr_ob g11 o_v2
  refine r_pop (pc := 310) C dL_law_310 rfl ?_
  refine r_goto (pc := 311) C (tgt := 2341) dL_law_311 (by decide) ?_
  exact r_sub [0, 1, 2, 3, 4] rfl (T_L_law_2341 C E ht hn hX23 h)
def P_L_law_314 (scL : Nat) (scx : Nat → Int32) (Q : Int32 → HS → Prop) (X23 : Nat → Nat → Nat → Int32 → Nat → Nat → HS → Prop) (v1 : Nat) (v2 : Nat) (v3 : Nat) (v4 : Int32) (kk : Nat) (nn : Nat) (S : HS) : Prop := ob S v1 9 ∧ (kk ≤ rm_L_law.cells ∧ nn ≤ rm_L_law.slots ∧ (P_X9_fault v1 (fun x3 S1 => Gr S S1 → (ob S1 v2 11 ∧ (kk ≤ rm_L_law.cells ∧ nn ≤ rm_L_law.slots ∧ (P_X11_fault v2 (fun x6 S4 => Gr S1 S4 → (P_L_law_2341 scL scx Q X23 v1 v2 v3 v4 kk nn S4)) S1)))) S))
set_option maxRecDepth 20000 in
set_option maxHeartbeats 4000000 in
theorem T_L_law_314 {X : CX} {Q : Int32 → HS → Prop} {scb scL : Nat} {scx : Nat → Int32} (C : Cx X cL_law RL 7 rm_L_law) (E : LE X scb scL scx Q) (ht : LD X) (hn : True) {X23 : Nat → Nat → Nat → Int32 → Nat → Nat → HS → Prop} (hX23 : ∀ (v1 : Nat) (v2 : Nat) (v3 : Nat) (v4 : Int32) (kk : Nat) (nn : Nat) (S : HS), X23 v1 v2 v3 v4 kk nn S → WS X 7 kk nn 23 [(0, .ref scb), (1, .ref v1), (2, .ref v2), (3, .ref v3), (4, .int v4)] [] S) {v1 : Nat} {v2 : Nat} {v3 : Nat} {v4 : Int32} {kk : Nat} {nn : Nat} {S : HS} (h : P_L_law_314 scL scx Q X23 v1 v2 v3 v4 kk nn S) : WS X 7 kk nn 314 [(0, .ref scb), (1, .ref v1), (2, .ref v2), (3, .ref v3), (4, .int v4)] [] S := by
  refine r_aload_n (pc := 314) C dL_law_314 1 rfl ?_
  obtain ⟨o_v1, h⟩ := h
  obtain ⟨hk, hk2, h⟩ := h
  refine r_callVi0 (pc := 315) C (rest := []) (a := v1) o_v1 [] yV_X9_fault g_641 (c_X9_fault h) dL_law_315 rfl rfl (Nat.le_of_ble_eq_true rfl) ⟨by decide, by decide⟩ ⟨hk, hk2⟩ ⟨rfl, rfl⟩ (fun x3 S1 h g2 => ?_)
  have h := h g2
  have o_v1 := gr_ob g2 o_v1
  refine r_pop (pc := 318) C dL_law_318 rfl ?_
  refine r_aload_n (pc := 319) C dL_law_319 2 rfl ?_
  obtain ⟨o_v2, h⟩ := h
  obtain ⟨hk, hk2, h⟩ := h
  refine r_callVi0 (pc := 320) C (rest := []) (a := v2) o_v2 [] yV_X11_fault g_1522 (c_X11_fault h) dL_law_320 rfl rfl (Nat.le_of_ble_eq_true rfl) ⟨by decide, by decide⟩ ⟨hk, hk2⟩ ⟨rfl, rfl⟩ (fun x6 S4 h g5 => ?_)
  have h := h g5
  have o_v1 := gr_ob g5 o_v1
  have o_v2 := gr_ob g5 o_v2
  refine r_pop (pc := 323) C dL_law_323 rfl ?_
  refine r_goto (pc := 324) C (tgt := 2341) dL_law_324 (by decide) ?_
  exact r_sub [0, 1, 2, 3, 4] rfl (T_L_law_2341 C E ht hn hX23 h)
def P_L_law_327 (scL : Nat) (scx : Nat → Int32) (Q : Int32 → HS → Prop) (X23 : Nat → Nat → Nat → Int32 → Nat → Nat → HS → Prop) (v1 : Nat) (v2 : Nat) (v3 : Nat) (v4 : Int32) (kk : Nat) (nn : Nat) (S : HS) : Prop := ob S v1 9 ∧ (kk ≤ rm_L_law.cells ∧ nn ≤ rm_L_law.slots ∧ (P_X9_where v1 (fun x3 S1 => Gr S S1 → (ob S1 v2 11 ∧ (kk ≤ rm_L_law.cells ∧ nn ≤ rm_L_law.slots ∧ (P_X11_where v2 (fun x6 S4 => Gr S1 S4 → (P_L_law_2341 scL scx Q X23 v1 v2 v3 v4 kk nn S4)) S1)))) S))
set_option maxRecDepth 20000 in
set_option maxHeartbeats 4000000 in
theorem T_L_law_327 {X : CX} {Q : Int32 → HS → Prop} {scb scL : Nat} {scx : Nat → Int32} (C : Cx X cL_law RL 7 rm_L_law) (E : LE X scb scL scx Q) (ht : LD X) (hn : True) {X23 : Nat → Nat → Nat → Int32 → Nat → Nat → HS → Prop} (hX23 : ∀ (v1 : Nat) (v2 : Nat) (v3 : Nat) (v4 : Int32) (kk : Nat) (nn : Nat) (S : HS), X23 v1 v2 v3 v4 kk nn S → WS X 7 kk nn 23 [(0, .ref scb), (1, .ref v1), (2, .ref v2), (3, .ref v3), (4, .int v4)] [] S) {v1 : Nat} {v2 : Nat} {v3 : Nat} {v4 : Int32} {kk : Nat} {nn : Nat} {S : HS} (h : P_L_law_327 scL scx Q X23 v1 v2 v3 v4 kk nn S) : WS X 7 kk nn 327 [(0, .ref scb), (1, .ref v1), (2, .ref v2), (3, .ref v3), (4, .int v4)] [] S := by
  refine r_aload_n (pc := 327) C dL_law_327 1 rfl ?_
  obtain ⟨o_v1, h⟩ := h
  obtain ⟨hk, hk2, h⟩ := h
  refine r_callVi0 (pc := 328) C (rest := []) (a := v1) o_v1 [] yV_X9_where g_645 (c_X9_where h) dL_law_328 rfl rfl (Nat.le_of_ble_eq_true rfl) ⟨by decide, by decide⟩ ⟨hk, hk2⟩ ⟨rfl, rfl⟩ (fun x3 S1 h g2 => ?_)
  have h := h g2
  have o_v1 := gr_ob g2 o_v1
  refine r_pop (pc := 331) C dL_law_331 rfl ?_
  refine r_aload_n (pc := 332) C dL_law_332 2 rfl ?_
  obtain ⟨o_v2, h⟩ := h
  obtain ⟨hk, hk2, h⟩ := h
  refine r_callVi0 (pc := 333) C (rest := []) (a := v2) o_v2 [] yV_X11_where g_1526 (c_X11_where h) dL_law_333 rfl rfl (Nat.le_of_ble_eq_true rfl) ⟨by decide, by decide⟩ ⟨hk, hk2⟩ ⟨rfl, rfl⟩ (fun x6 S4 h g5 => ?_)
  have h := h g5
  have o_v1 := gr_ob g5 o_v1
  have o_v2 := gr_ob g5 o_v2
  refine r_pop (pc := 336) C dL_law_336 rfl ?_
  refine r_goto (pc := 337) C (tgt := 2341) dL_law_337 (by decide) ?_
  exact r_sub [0, 1, 2, 3, 4] rfl (T_L_law_2341 C E ht hn hX23 h)
def P_L_law_450 (scL : Nat) (scx : Nat → Int32) (Q : Int32 → HS → Prop) (X23 : Nat → Nat → Nat → Int32 → Nat → Nat → HS → Prop) (v1 : Nat) (v2 : Nat) (v3 : Nat) (v4 : Int32) (s0 : Nat) (s1 : Int32) (s2 : Int32) (s3 : Int32) (s4 : Int32) (s5 : Int32) (s6 : Int32) (s7 : Int32) (kk : Nat) (nn : Nat) (S : HS) : Prop := ob S s0 11 ∧ (kk ≤ rm_L_law.cells ∧ nn ≤ rm_L_law.slots ∧ (P_X11_face s0 s1 s2 s3 s4 s5 s6 s7 (fun x3 S1 => Gr S S1 → (P_L_law_2341 scL scx Q X23 v1 v2 v3 v4 kk nn S1)) S))
set_option maxRecDepth 20000 in
set_option maxHeartbeats 4000000 in
theorem T_L_law_450 {X : CX} {Q : Int32 → HS → Prop} {scb scL : Nat} {scx : Nat → Int32} (C : Cx X cL_law RL 7 rm_L_law) (E : LE X scb scL scx Q) (ht : LD X) (hn : True) {X23 : Nat → Nat → Nat → Int32 → Nat → Nat → HS → Prop} (hX23 : ∀ (v1 : Nat) (v2 : Nat) (v3 : Nat) (v4 : Int32) (kk : Nat) (nn : Nat) (S : HS), X23 v1 v2 v3 v4 kk nn S → WS X 7 kk nn 23 [(0, .ref scb), (1, .ref v1), (2, .ref v2), (3, .ref v3), (4, .int v4)] [] S) {v1 : Nat} {v2 : Nat} {v3 : Nat} {v4 : Int32} {s0 : Nat} {s1 : Int32} {s2 : Int32} {s3 : Int32} {s4 : Int32} {s5 : Int32} {s6 : Int32} {s7 : Int32} {kk : Nat} {nn : Nat} {S : HS} (h : P_L_law_450 scL scx Q X23 v1 v2 v3 v4 s0 s1 s2 s3 s4 s5 s6 s7 kk nn S) : WS X 7 kk nn 450 [(0, .ref scb), (1, .ref v1), (2, .ref v2), (3, .ref v3), (4, .int v4)] [.int s7, .int s6, .int s5, .int s4, .int s3, .int s2, .int s1, .ref s0] S := by
  obtain ⟨o_s0, h⟩ := h
  obtain ⟨hk, hk2, h⟩ := h
  refine r_callVl0 (pc := 450) C (rest := []) (a := s0) o_s0 [.int s1, .int s2, .int s3, .int s4, .int s5, .int s6, .int s7] yV_X11_face g_1530 (c_X11_face h) dL_law_450 rfl rfl (Nat.le_of_ble_eq_true rfl) ⟨by decide, by decide⟩ ⟨hk, hk2⟩ ⟨rfl, rfl⟩ (fun x3 S1 h g2 => ?_)
  have h := h g2
  have o_s0 := gr_ob g2 o_s0
  refine r_pop2 (pc := 453) C dL_law_453 rfl ?_
  refine r_goto (pc := 454) C (tgt := 2341) dL_law_454 (by decide) ?_
  exact r_sub [0, 1, 2, 3, 4] rfl (T_L_law_2341 C E ht hn hX23 h)
def P_L_law_393 (scL : Nat) (scx : Nat → Int32) (Q : Int32 → HS → Prop) (X23 : Nat → Nat → Nat → Int32 → Nat → Nat → HS → Prop) (v1 : Nat) (v2 : Nat) (v3 : Nat) (v4 : Int32) (s0 : Nat) (s1 : Int32) (s2 : Int32) (s3 : Int32) (s4 : Int32) (s5 : Int32) (s6 : Int32) (s7 : Int32) (kk : Nat) (nn : Nat) (S : HS) : Prop := ob S s0 9 ∧ (kk ≤ rm_L_law.cells ∧ nn ≤ rm_L_law.slots ∧ (P_X9_face s0 s1 s2 s3 s4 s5 s6 s7 (fun x3 S1 => Gr S S1 → (∀ x4 : Int32, x4 = v4 + (1 : Int32) → (vp_in x4 scL ∧ ∀ x6 : Int32, x6 = scx x4.toNatClampNeg → (∀ x7 : Int32, x7 = v4 + (2 : Int32) → (vp_in x7 scL ∧ ∀ x9 : Int32, x9 = scx x7.toNatClampNeg → (∀ x10 : Int32, x10 = v4 + (3 : Int32) → (vp_in x10 scL ∧ ∀ x12 : Int32, x12 = scx x10.toNatClampNeg → (∀ x13 : Int32, x13 = v4 + (4 : Int32) → (vp_in x13 scL ∧ ∀ x15 : Int32, x15 = scx x13.toNatClampNeg → (∀ x16 : Int32, x16 = v4 + (5 : Int32) → (vp_in x16 scL ∧ ∀ x18 : Int32, x18 = scx x16.toNatClampNeg → (∀ x19 : Int32, x19 = v4 + (6 : Int32) → (vp_in x19 scL ∧ ∀ x21 : Int32, x21 = scx x19.toNatClampNeg → (∀ x22 : Int32, x22 = v4 + (7 : Int32) → (vp_in x22 scL ∧ ∀ x24 : Int32, x24 = scx x22.toNatClampNeg → (((x24 = 0) → (P_L_law_450 scL scx Q X23 v1 v2 v3 v4 v2 x6 x9 x12 x15 x18 x21 (0 : Int32) kk nn S1)) ∧ ((¬ x24 = 0) → (P_L_law_450 scL scx Q X23 v1 v2 v3 v4 v2 x6 x9 x12 x15 x18 x21 (1 : Int32) kk nn S1)))))))))))))))))) S))
set_option maxRecDepth 20000 in
set_option maxHeartbeats 4000000 in
theorem T_L_law_393 {X : CX} {Q : Int32 → HS → Prop} {scb scL : Nat} {scx : Nat → Int32} (C : Cx X cL_law RL 7 rm_L_law) (E : LE X scb scL scx Q) (ht : LD X) (hn : True) {X23 : Nat → Nat → Nat → Int32 → Nat → Nat → HS → Prop} (hX23 : ∀ (v1 : Nat) (v2 : Nat) (v3 : Nat) (v4 : Int32) (kk : Nat) (nn : Nat) (S : HS), X23 v1 v2 v3 v4 kk nn S → WS X 7 kk nn 23 [(0, .ref scb), (1, .ref v1), (2, .ref v2), (3, .ref v3), (4, .int v4)] [] S) {v1 : Nat} {v2 : Nat} {v3 : Nat} {v4 : Int32} {s0 : Nat} {s1 : Int32} {s2 : Int32} {s3 : Int32} {s4 : Int32} {s5 : Int32} {s6 : Int32} {s7 : Int32} {kk : Nat} {nn : Nat} {S : HS} (h : P_L_law_393 scL scx Q X23 v1 v2 v3 v4 s0 s1 s2 s3 s4 s5 s6 s7 kk nn S) : WS X 7 kk nn 393 [(0, .ref scb), (1, .ref v1), (2, .ref v2), (3, .ref v3), (4, .int v4)] [.int s7, .int s6, .int s5, .int s4, .int s3, .int s2, .int s1, .ref s0] S := by
  obtain ⟨o_s0, h⟩ := h
  obtain ⟨hk, hk2, h⟩ := h
  refine r_callVl0 (pc := 393) C (rest := []) (a := s0) o_s0 [.int s1, .int s2, .int s3, .int s4, .int s5, .int s6, .int s7] yV_X9_face g_649 (c_X9_face h) dL_law_393 rfl rfl (Nat.le_of_ble_eq_true rfl) ⟨by decide, by decide⟩ ⟨hk, hk2⟩ ⟨rfl, rfl⟩ (fun x3 S1 h g2 => ?_)
  have h := h g2
  have o_s0 := gr_ob g2 o_s0
  refine r_pop2 (pc := 396) C dL_law_396 rfl ?_
  refine r_aload_n (pc := 397) C dL_law_397 2 rfl ?_
  refine r_aload_n (pc := 398) C dL_law_398 0 rfl ?_
  refine r_iload (pc := 399) C dL_law_399 4 rfl ?_
  refine r_iconst (pc := 401) C (v := (1 : Int32)) dL_law_401 (by decide) ?_
  refine r_iadd (pc := 402) C dL_law_402 ?_
  refine r_topi (fun x4 ex4 => ?_)
  have h := h x4 ex4
  obtain ⟨i5, h⟩ := h
  refine r_scLd (pc := 403) C E i5 dL_law_403 ?_
  refine r_topi (fun x6 ex6 => ?_)
  have h := h x6 ex6
  refine r_aload_n (pc := 404) C dL_law_404 0 rfl ?_
  refine r_iload (pc := 405) C dL_law_405 4 rfl ?_
  refine r_iconst (pc := 407) C (v := (2 : Int32)) dL_law_407 (by decide) ?_
  refine r_iadd (pc := 408) C dL_law_408 ?_
  refine r_topi (fun x7 ex7 => ?_)
  have h := h x7 ex7
  obtain ⟨i8, h⟩ := h
  refine r_scLd (pc := 409) C E i8 dL_law_409 ?_
  refine r_topi (fun x9 ex9 => ?_)
  have h := h x9 ex9
  refine r_aload_n (pc := 410) C dL_law_410 0 rfl ?_
  refine r_iload (pc := 411) C dL_law_411 4 rfl ?_
  refine r_iconst (pc := 413) C (v := (3 : Int32)) dL_law_413 (by decide) ?_
  refine r_iadd (pc := 414) C dL_law_414 ?_
  refine r_topi (fun x10 ex10 => ?_)
  have h := h x10 ex10
  obtain ⟨i11, h⟩ := h
  refine r_scLd (pc := 415) C E i11 dL_law_415 ?_
  refine r_topi (fun x12 ex12 => ?_)
  have h := h x12 ex12
  refine r_aload_n (pc := 416) C dL_law_416 0 rfl ?_
  refine r_iload (pc := 417) C dL_law_417 4 rfl ?_
  refine r_iconst (pc := 419) C (v := (4 : Int32)) dL_law_419 (by decide) ?_
  refine r_iadd (pc := 420) C dL_law_420 ?_
  refine r_topi (fun x13 ex13 => ?_)
  have h := h x13 ex13
  obtain ⟨i14, h⟩ := h
  refine r_scLd (pc := 421) C E i14 dL_law_421 ?_
  refine r_topi (fun x15 ex15 => ?_)
  have h := h x15 ex15
  refine r_aload_n (pc := 422) C dL_law_422 0 rfl ?_
  refine r_iload (pc := 423) C dL_law_423 4 rfl ?_
  refine r_iconst (pc := 425) C (v := (5 : Int32)) dL_law_425 (by decide) ?_
  refine r_iadd (pc := 426) C dL_law_426 ?_
  refine r_topi (fun x16 ex16 => ?_)
  have h := h x16 ex16
  obtain ⟨i17, h⟩ := h
  refine r_scLd (pc := 427) C E i17 dL_law_427 ?_
  refine r_topi (fun x18 ex18 => ?_)
  have h := h x18 ex18
  refine r_aload_n (pc := 428) C dL_law_428 0 rfl ?_
  refine r_iload (pc := 429) C dL_law_429 4 rfl ?_
  refine r_bipush (pc := 431) C (v := (6 : Int32)) dL_law_431 (by decide) ?_
  refine r_iadd (pc := 433) C dL_law_433 ?_
  refine r_topi (fun x19 ex19 => ?_)
  have h := h x19 ex19
  obtain ⟨i20, h⟩ := h
  refine r_scLd (pc := 434) C E i20 dL_law_434 ?_
  refine r_topi (fun x21 ex21 => ?_)
  have h := h x21 ex21
  refine r_aload_n (pc := 435) C dL_law_435 0 rfl ?_
  refine r_iload (pc := 436) C dL_law_436 4 rfl ?_
  refine r_bipush (pc := 438) C (v := (7 : Int32)) dL_law_438 (by decide) ?_
  refine r_iadd (pc := 440) C dL_law_440 ?_
  refine r_topi (fun x22 ex22 => ?_)
  have h := h x22 ex22
  obtain ⟨i23, h⟩ := h
  refine r_scLd (pc := 441) C E i23 dL_law_441 ?_
  refine r_topi (fun x24 ex24 => ?_)
  have h := h x24 ex24
  refine r_if_eq (pc := 442) C (tgt := 449) dL_law_442 (by decide) (fun c25 => ?_) (fun c25 => ?_)
  · have h := h.1 c25
    refine r_iconst (pc := 449) C (v := (0 : Int32)) dL_law_449 (by decide) ?_
    exact r_sub [0, 1, 2, 3, 4] rfl (T_L_law_450 C E ht hn hX23 h)
  · have h := h.2 c25
    refine r_iconst (pc := 445) C (v := (1 : Int32)) dL_law_445 (by decide) ?_
    refine r_goto (pc := 446) C (tgt := 450) dL_law_446 (by decide) ?_
    exact r_sub [0, 1, 2, 3, 4] rfl (T_L_law_450 C E ht hn hX23 h)
def P_L_law_340 (scL : Nat) (scx : Nat → Int32) (Q : Int32 → HS → Prop) (X23 : Nat → Nat → Nat → Int32 → Nat → Nat → HS → Prop) (v1 : Nat) (v2 : Nat) (v3 : Nat) (v4 : Int32) (kk : Nat) (nn : Nat) (S : HS) : Prop := ∀ x1 : Int32, x1 = v4 + (1 : Int32) → (vp_in x1 scL ∧ ∀ x3 : Int32, x3 = scx x1.toNatClampNeg → (∀ x4 : Int32, x4 = v4 + (2 : Int32) → (vp_in x4 scL ∧ ∀ x6 : Int32, x6 = scx x4.toNatClampNeg → (∀ x7 : Int32, x7 = v4 + (3 : Int32) → (vp_in x7 scL ∧ ∀ x9 : Int32, x9 = scx x7.toNatClampNeg → (∀ x10 : Int32, x10 = v4 + (4 : Int32) → (vp_in x10 scL ∧ ∀ x12 : Int32, x12 = scx x10.toNatClampNeg → (∀ x13 : Int32, x13 = v4 + (5 : Int32) → (vp_in x13 scL ∧ ∀ x15 : Int32, x15 = scx x13.toNatClampNeg → (∀ x16 : Int32, x16 = v4 + (6 : Int32) → (vp_in x16 scL ∧ ∀ x18 : Int32, x18 = scx x16.toNatClampNeg → (∀ x19 : Int32, x19 = v4 + (7 : Int32) → (vp_in x19 scL ∧ ∀ x21 : Int32, x21 = scx x19.toNatClampNeg → (((x21 = 0) → (P_L_law_393 scL scx Q X23 v1 v2 v3 v4 v1 x3 x6 x9 x12 x15 x18 (0 : Int32) kk nn S)) ∧ ((¬ x21 = 0) → (P_L_law_393 scL scx Q X23 v1 v2 v3 v4 v1 x3 x6 x9 x12 x15 x18 (1 : Int32) kk nn S))))))))))))))))
set_option maxRecDepth 20000 in
set_option maxHeartbeats 4000000 in
theorem T_L_law_340 {X : CX} {Q : Int32 → HS → Prop} {scb scL : Nat} {scx : Nat → Int32} (C : Cx X cL_law RL 7 rm_L_law) (E : LE X scb scL scx Q) (ht : LD X) (hn : True) {X23 : Nat → Nat → Nat → Int32 → Nat → Nat → HS → Prop} (hX23 : ∀ (v1 : Nat) (v2 : Nat) (v3 : Nat) (v4 : Int32) (kk : Nat) (nn : Nat) (S : HS), X23 v1 v2 v3 v4 kk nn S → WS X 7 kk nn 23 [(0, .ref scb), (1, .ref v1), (2, .ref v2), (3, .ref v3), (4, .int v4)] [] S) {v1 : Nat} {v2 : Nat} {v3 : Nat} {v4 : Int32} {kk : Nat} {nn : Nat} {S : HS} (h : P_L_law_340 scL scx Q X23 v1 v2 v3 v4 kk nn S) : WS X 7 kk nn 340 [(0, .ref scb), (1, .ref v1), (2, .ref v2), (3, .ref v3), (4, .int v4)] [] S := by
  refine r_aload_n (pc := 340) C dL_law_340 1 rfl ?_
  refine r_aload_n (pc := 341) C dL_law_341 0 rfl ?_
  refine r_iload (pc := 342) C dL_law_342 4 rfl ?_
  refine r_iconst (pc := 344) C (v := (1 : Int32)) dL_law_344 (by decide) ?_
  refine r_iadd (pc := 345) C dL_law_345 ?_
  refine r_topi (fun x1 ex1 => ?_)
  have h := h x1 ex1
  obtain ⟨i2, h⟩ := h
  refine r_scLd (pc := 346) C E i2 dL_law_346 ?_
  refine r_topi (fun x3 ex3 => ?_)
  have h := h x3 ex3
  refine r_aload_n (pc := 347) C dL_law_347 0 rfl ?_
  refine r_iload (pc := 348) C dL_law_348 4 rfl ?_
  refine r_iconst (pc := 350) C (v := (2 : Int32)) dL_law_350 (by decide) ?_
  refine r_iadd (pc := 351) C dL_law_351 ?_
  refine r_topi (fun x4 ex4 => ?_)
  have h := h x4 ex4
  obtain ⟨i5, h⟩ := h
  refine r_scLd (pc := 352) C E i5 dL_law_352 ?_
  refine r_topi (fun x6 ex6 => ?_)
  have h := h x6 ex6
  refine r_aload_n (pc := 353) C dL_law_353 0 rfl ?_
  refine r_iload (pc := 354) C dL_law_354 4 rfl ?_
  refine r_iconst (pc := 356) C (v := (3 : Int32)) dL_law_356 (by decide) ?_
  refine r_iadd (pc := 357) C dL_law_357 ?_
  refine r_topi (fun x7 ex7 => ?_)
  have h := h x7 ex7
  obtain ⟨i8, h⟩ := h
  refine r_scLd (pc := 358) C E i8 dL_law_358 ?_
  refine r_topi (fun x9 ex9 => ?_)
  have h := h x9 ex9
  refine r_aload_n (pc := 359) C dL_law_359 0 rfl ?_
  refine r_iload (pc := 360) C dL_law_360 4 rfl ?_
  refine r_iconst (pc := 362) C (v := (4 : Int32)) dL_law_362 (by decide) ?_
  refine r_iadd (pc := 363) C dL_law_363 ?_
  refine r_topi (fun x10 ex10 => ?_)
  have h := h x10 ex10
  obtain ⟨i11, h⟩ := h
  refine r_scLd (pc := 364) C E i11 dL_law_364 ?_
  refine r_topi (fun x12 ex12 => ?_)
  have h := h x12 ex12
  refine r_aload_n (pc := 365) C dL_law_365 0 rfl ?_
  refine r_iload (pc := 366) C dL_law_366 4 rfl ?_
  refine r_iconst (pc := 368) C (v := (5 : Int32)) dL_law_368 (by decide) ?_
  refine r_iadd (pc := 369) C dL_law_369 ?_
  refine r_topi (fun x13 ex13 => ?_)
  have h := h x13 ex13
  obtain ⟨i14, h⟩ := h
  refine r_scLd (pc := 370) C E i14 dL_law_370 ?_
  refine r_topi (fun x15 ex15 => ?_)
  have h := h x15 ex15
  refine r_aload_n (pc := 371) C dL_law_371 0 rfl ?_
  refine r_iload (pc := 372) C dL_law_372 4 rfl ?_
  refine r_bipush (pc := 374) C (v := (6 : Int32)) dL_law_374 (by decide) ?_
  refine r_iadd (pc := 376) C dL_law_376 ?_
  refine r_topi (fun x16 ex16 => ?_)
  have h := h x16 ex16
  obtain ⟨i17, h⟩ := h
  refine r_scLd (pc := 377) C E i17 dL_law_377 ?_
  refine r_topi (fun x18 ex18 => ?_)
  have h := h x18 ex18
  refine r_aload_n (pc := 378) C dL_law_378 0 rfl ?_
  refine r_iload (pc := 379) C dL_law_379 4 rfl ?_
  refine r_bipush (pc := 381) C (v := (7 : Int32)) dL_law_381 (by decide) ?_
  refine r_iadd (pc := 383) C dL_law_383 ?_
  refine r_topi (fun x19 ex19 => ?_)
  have h := h x19 ex19
  obtain ⟨i20, h⟩ := h
  refine r_scLd (pc := 384) C E i20 dL_law_384 ?_
  refine r_topi (fun x21 ex21 => ?_)
  have h := h x21 ex21
  refine r_if_eq (pc := 385) C (tgt := 392) dL_law_385 (by decide) (fun c22 => ?_) (fun c22 => ?_)
  · have h := h.1 c22
    refine r_iconst (pc := 392) C (v := (0 : Int32)) dL_law_392 (by decide) ?_
    exact r_sub [0, 1, 2, 3, 4] rfl (T_L_law_393 C E ht hn hX23 h)
  · have h := h.2 c22
    refine r_iconst (pc := 388) C (v := (1 : Int32)) dL_law_388 (by decide) ?_
    refine r_goto (pc := 389) C (tgt := 393) dL_law_389 (by decide) ?_
    exact r_sub [0, 1, 2, 3, 4] rfl (T_L_law_393 C E ht hn hX23 h)
def P_L_law_553 (scL : Nat) (scx : Nat → Int32) (Q : Int32 → HS → Prop) (X23 : Nat → Nat → Nat → Int32 → Nat → Nat → HS → Prop) (v1 : Nat) (v2 : Nat) (v3 : Nat) (v4 : Int32) (s0 : Nat) (s1 : Int32) (s2 : Int32) (s3 : Int32) (s4 : Int32) (s5 : Int32) (s6 : Int32) (kk : Nat) (nn : Nat) (S : HS) : Prop := ob S s0 11 ∧ (kk ≤ rm_L_law.cells ∧ nn ≤ rm_L_law.slots ∧ (P_X11_wet s0 s1 s2 s3 s4 s5 s6 (fun x3 S1 => Gr S S1 → (P_L_law_2341 scL scx Q X23 v1 v2 v3 v4 kk nn S1)) S))
set_option maxRecDepth 20000 in
set_option maxHeartbeats 4000000 in
theorem T_L_law_553 {X : CX} {Q : Int32 → HS → Prop} {scb scL : Nat} {scx : Nat → Int32} (C : Cx X cL_law RL 7 rm_L_law) (E : LE X scb scL scx Q) (ht : LD X) (hn : True) {X23 : Nat → Nat → Nat → Int32 → Nat → Nat → HS → Prop} (hX23 : ∀ (v1 : Nat) (v2 : Nat) (v3 : Nat) (v4 : Int32) (kk : Nat) (nn : Nat) (S : HS), X23 v1 v2 v3 v4 kk nn S → WS X 7 kk nn 23 [(0, .ref scb), (1, .ref v1), (2, .ref v2), (3, .ref v3), (4, .int v4)] [] S) {v1 : Nat} {v2 : Nat} {v3 : Nat} {v4 : Int32} {s0 : Nat} {s1 : Int32} {s2 : Int32} {s3 : Int32} {s4 : Int32} {s5 : Int32} {s6 : Int32} {kk : Nat} {nn : Nat} {S : HS} (h : P_L_law_553 scL scx Q X23 v1 v2 v3 v4 s0 s1 s2 s3 s4 s5 s6 kk nn S) : WS X 7 kk nn 553 [(0, .ref scb), (1, .ref v1), (2, .ref v2), (3, .ref v3), (4, .int v4)] [.int s6, .int s5, .int s4, .int s3, .int s2, .int s1, .ref s0] S := by
  obtain ⟨o_s0, h⟩ := h
  obtain ⟨hk, hk2, h⟩ := h
  refine r_callVl0 (pc := 553) C (rest := []) (a := s0) o_s0 [.int s1, .int s2, .int s3, .int s4, .int s5, .int s6] yV_X11_wet g_1590 (c_X11_wet h) dL_law_553 rfl rfl (Nat.le_of_ble_eq_true rfl) ⟨by decide, by decide⟩ ⟨hk, hk2⟩ ⟨rfl, rfl⟩ (fun x3 S1 h g2 => ?_)
  have h := h g2
  have o_s0 := gr_ob g2 o_s0
  refine r_pop2 (pc := 556) C dL_law_556 rfl ?_
  refine r_goto (pc := 557) C (tgt := 2341) dL_law_557 (by decide) ?_
  exact r_sub [0, 1, 2, 3, 4] rfl (T_L_law_2341 C E ht hn hX23 h)
def P_L_law_503 (scL : Nat) (scx : Nat → Int32) (Q : Int32 → HS → Prop) (X23 : Nat → Nat → Nat → Int32 → Nat → Nat → HS → Prop) (v1 : Nat) (v2 : Nat) (v3 : Nat) (v4 : Int32) (s0 : Nat) (s1 : Int32) (s2 : Int32) (s3 : Int32) (s4 : Int32) (s5 : Int32) (s6 : Int32) (kk : Nat) (nn : Nat) (S : HS) : Prop := ob S s0 9 ∧ (kk ≤ rm_L_law.cells ∧ nn ≤ rm_L_law.slots ∧ (P_X9_wet s0 s1 s2 s3 s4 s5 s6 (fun x3 S1 => Gr S S1 → (∀ x4 : Int32, x4 = v4 + (1 : Int32) → (vp_in x4 scL ∧ ∀ x6 : Int32, x6 = scx x4.toNatClampNeg → (∀ x7 : Int32, x7 = v4 + (2 : Int32) → (vp_in x7 scL ∧ ∀ x9 : Int32, x9 = scx x7.toNatClampNeg → (∀ x10 : Int32, x10 = v4 + (3 : Int32) → (vp_in x10 scL ∧ ∀ x12 : Int32, x12 = scx x10.toNatClampNeg → (∀ x13 : Int32, x13 = v4 + (4 : Int32) → (vp_in x13 scL ∧ ∀ x15 : Int32, x15 = scx x13.toNatClampNeg → (∀ x16 : Int32, x16 = v4 + (5 : Int32) → (vp_in x16 scL ∧ ∀ x18 : Int32, x18 = scx x16.toNatClampNeg → (∀ x19 : Int32, x19 = v4 + (6 : Int32) → (vp_in x19 scL ∧ ∀ x21 : Int32, x21 = scx x19.toNatClampNeg → (((x21 = 0) → (P_L_law_553 scL scx Q X23 v1 v2 v3 v4 v2 x6 x9 x12 x15 x18 (0 : Int32) kk nn S1)) ∧ ((¬ x21 = 0) → (P_L_law_553 scL scx Q X23 v1 v2 v3 v4 v2 x6 x9 x12 x15 x18 (1 : Int32) kk nn S1)))))))))))))))) S))
set_option maxRecDepth 20000 in
set_option maxHeartbeats 4000000 in
theorem T_L_law_503 {X : CX} {Q : Int32 → HS → Prop} {scb scL : Nat} {scx : Nat → Int32} (C : Cx X cL_law RL 7 rm_L_law) (E : LE X scb scL scx Q) (ht : LD X) (hn : True) {X23 : Nat → Nat → Nat → Int32 → Nat → Nat → HS → Prop} (hX23 : ∀ (v1 : Nat) (v2 : Nat) (v3 : Nat) (v4 : Int32) (kk : Nat) (nn : Nat) (S : HS), X23 v1 v2 v3 v4 kk nn S → WS X 7 kk nn 23 [(0, .ref scb), (1, .ref v1), (2, .ref v2), (3, .ref v3), (4, .int v4)] [] S) {v1 : Nat} {v2 : Nat} {v3 : Nat} {v4 : Int32} {s0 : Nat} {s1 : Int32} {s2 : Int32} {s3 : Int32} {s4 : Int32} {s5 : Int32} {s6 : Int32} {kk : Nat} {nn : Nat} {S : HS} (h : P_L_law_503 scL scx Q X23 v1 v2 v3 v4 s0 s1 s2 s3 s4 s5 s6 kk nn S) : WS X 7 kk nn 503 [(0, .ref scb), (1, .ref v1), (2, .ref v2), (3, .ref v3), (4, .int v4)] [.int s6, .int s5, .int s4, .int s3, .int s2, .int s1, .ref s0] S := by
  obtain ⟨o_s0, h⟩ := h
  obtain ⟨hk, hk2, h⟩ := h
  refine r_callVl0 (pc := 503) C (rest := []) (a := s0) o_s0 [.int s1, .int s2, .int s3, .int s4, .int s5, .int s6] yV_X9_wet g_728 (c_X9_wet h) dL_law_503 rfl rfl (Nat.le_of_ble_eq_true rfl) ⟨by decide, by decide⟩ ⟨hk, hk2⟩ ⟨rfl, rfl⟩ (fun x3 S1 h g2 => ?_)
  have h := h g2
  have o_s0 := gr_ob g2 o_s0
  refine r_pop2 (pc := 506) C dL_law_506 rfl ?_
  refine r_aload_n (pc := 507) C dL_law_507 2 rfl ?_
  refine r_aload_n (pc := 508) C dL_law_508 0 rfl ?_
  refine r_iload (pc := 509) C dL_law_509 4 rfl ?_
  refine r_iconst (pc := 511) C (v := (1 : Int32)) dL_law_511 (by decide) ?_
  refine r_iadd (pc := 512) C dL_law_512 ?_
  refine r_topi (fun x4 ex4 => ?_)
  have h := h x4 ex4
  obtain ⟨i5, h⟩ := h
  refine r_scLd (pc := 513) C E i5 dL_law_513 ?_
  refine r_topi (fun x6 ex6 => ?_)
  have h := h x6 ex6
  refine r_aload_n (pc := 514) C dL_law_514 0 rfl ?_
  refine r_iload (pc := 515) C dL_law_515 4 rfl ?_
  refine r_iconst (pc := 517) C (v := (2 : Int32)) dL_law_517 (by decide) ?_
  refine r_iadd (pc := 518) C dL_law_518 ?_
  refine r_topi (fun x7 ex7 => ?_)
  have h := h x7 ex7
  obtain ⟨i8, h⟩ := h
  refine r_scLd (pc := 519) C E i8 dL_law_519 ?_
  refine r_topi (fun x9 ex9 => ?_)
  have h := h x9 ex9
  refine r_aload_n (pc := 520) C dL_law_520 0 rfl ?_
  refine r_iload (pc := 521) C dL_law_521 4 rfl ?_
  refine r_iconst (pc := 523) C (v := (3 : Int32)) dL_law_523 (by decide) ?_
  refine r_iadd (pc := 524) C dL_law_524 ?_
  refine r_topi (fun x10 ex10 => ?_)
  have h := h x10 ex10
  obtain ⟨i11, h⟩ := h
  refine r_scLd (pc := 525) C E i11 dL_law_525 ?_
  refine r_topi (fun x12 ex12 => ?_)
  have h := h x12 ex12
  refine r_aload_n (pc := 526) C dL_law_526 0 rfl ?_
  refine r_iload (pc := 527) C dL_law_527 4 rfl ?_
  refine r_iconst (pc := 529) C (v := (4 : Int32)) dL_law_529 (by decide) ?_
  refine r_iadd (pc := 530) C dL_law_530 ?_
  refine r_topi (fun x13 ex13 => ?_)
  have h := h x13 ex13
  obtain ⟨i14, h⟩ := h
  refine r_scLd (pc := 531) C E i14 dL_law_531 ?_
  refine r_topi (fun x15 ex15 => ?_)
  have h := h x15 ex15
  refine r_aload_n (pc := 532) C dL_law_532 0 rfl ?_
  refine r_iload (pc := 533) C dL_law_533 4 rfl ?_
  refine r_iconst (pc := 535) C (v := (5 : Int32)) dL_law_535 (by decide) ?_
  refine r_iadd (pc := 536) C dL_law_536 ?_
  refine r_topi (fun x16 ex16 => ?_)
  have h := h x16 ex16
  obtain ⟨i17, h⟩ := h
  refine r_scLd (pc := 537) C E i17 dL_law_537 ?_
  refine r_topi (fun x18 ex18 => ?_)
  have h := h x18 ex18
  refine r_aload_n (pc := 538) C dL_law_538 0 rfl ?_
  refine r_iload (pc := 539) C dL_law_539 4 rfl ?_
  refine r_bipush (pc := 541) C (v := (6 : Int32)) dL_law_541 (by decide) ?_
  refine r_iadd (pc := 543) C dL_law_543 ?_
  refine r_topi (fun x19 ex19 => ?_)
  have h := h x19 ex19
  obtain ⟨i20, h⟩ := h
  refine r_scLd (pc := 544) C E i20 dL_law_544 ?_
  refine r_topi (fun x21 ex21 => ?_)
  have h := h x21 ex21
  refine r_if_eq (pc := 545) C (tgt := 552) dL_law_545 (by decide) (fun c22 => ?_) (fun c22 => ?_)
  · have h := h.1 c22
    refine r_iconst (pc := 552) C (v := (0 : Int32)) dL_law_552 (by decide) ?_
    exact r_sub [0, 1, 2, 3, 4] rfl (T_L_law_553 C E ht hn hX23 h)
  · have h := h.2 c22
    refine r_iconst (pc := 548) C (v := (1 : Int32)) dL_law_548 (by decide) ?_
    refine r_goto (pc := 549) C (tgt := 553) dL_law_549 (by decide) ?_
    exact r_sub [0, 1, 2, 3, 4] rfl (T_L_law_553 C E ht hn hX23 h)
def P_L_law_457 (scL : Nat) (scx : Nat → Int32) (Q : Int32 → HS → Prop) (X23 : Nat → Nat → Nat → Int32 → Nat → Nat → HS → Prop) (v1 : Nat) (v2 : Nat) (v3 : Nat) (v4 : Int32) (kk : Nat) (nn : Nat) (S : HS) : Prop := ∀ x1 : Int32, x1 = v4 + (1 : Int32) → (vp_in x1 scL ∧ ∀ x3 : Int32, x3 = scx x1.toNatClampNeg → (∀ x4 : Int32, x4 = v4 + (2 : Int32) → (vp_in x4 scL ∧ ∀ x6 : Int32, x6 = scx x4.toNatClampNeg → (∀ x7 : Int32, x7 = v4 + (3 : Int32) → (vp_in x7 scL ∧ ∀ x9 : Int32, x9 = scx x7.toNatClampNeg → (∀ x10 : Int32, x10 = v4 + (4 : Int32) → (vp_in x10 scL ∧ ∀ x12 : Int32, x12 = scx x10.toNatClampNeg → (∀ x13 : Int32, x13 = v4 + (5 : Int32) → (vp_in x13 scL ∧ ∀ x15 : Int32, x15 = scx x13.toNatClampNeg → (∀ x16 : Int32, x16 = v4 + (6 : Int32) → (vp_in x16 scL ∧ ∀ x18 : Int32, x18 = scx x16.toNatClampNeg → (((x18 = 0) → (P_L_law_503 scL scx Q X23 v1 v2 v3 v4 v1 x3 x6 x9 x12 x15 (0 : Int32) kk nn S)) ∧ ((¬ x18 = 0) → (P_L_law_503 scL scx Q X23 v1 v2 v3 v4 v1 x3 x6 x9 x12 x15 (1 : Int32) kk nn S))))))))))))))
set_option maxRecDepth 20000 in
set_option maxHeartbeats 4000000 in
theorem T_L_law_457 {X : CX} {Q : Int32 → HS → Prop} {scb scL : Nat} {scx : Nat → Int32} (C : Cx X cL_law RL 7 rm_L_law) (E : LE X scb scL scx Q) (ht : LD X) (hn : True) {X23 : Nat → Nat → Nat → Int32 → Nat → Nat → HS → Prop} (hX23 : ∀ (v1 : Nat) (v2 : Nat) (v3 : Nat) (v4 : Int32) (kk : Nat) (nn : Nat) (S : HS), X23 v1 v2 v3 v4 kk nn S → WS X 7 kk nn 23 [(0, .ref scb), (1, .ref v1), (2, .ref v2), (3, .ref v3), (4, .int v4)] [] S) {v1 : Nat} {v2 : Nat} {v3 : Nat} {v4 : Int32} {kk : Nat} {nn : Nat} {S : HS} (h : P_L_law_457 scL scx Q X23 v1 v2 v3 v4 kk nn S) : WS X 7 kk nn 457 [(0, .ref scb), (1, .ref v1), (2, .ref v2), (3, .ref v3), (4, .int v4)] [] S := by
  refine r_aload_n (pc := 457) C dL_law_457 1 rfl ?_
  refine r_aload_n (pc := 458) C dL_law_458 0 rfl ?_
  refine r_iload (pc := 459) C dL_law_459 4 rfl ?_
  refine r_iconst (pc := 461) C (v := (1 : Int32)) dL_law_461 (by decide) ?_
  refine r_iadd (pc := 462) C dL_law_462 ?_
  refine r_topi (fun x1 ex1 => ?_)
  have h := h x1 ex1
  obtain ⟨i2, h⟩ := h
  refine r_scLd (pc := 463) C E i2 dL_law_463 ?_
  refine r_topi (fun x3 ex3 => ?_)
  have h := h x3 ex3
  refine r_aload_n (pc := 464) C dL_law_464 0 rfl ?_
  refine r_iload (pc := 465) C dL_law_465 4 rfl ?_
  refine r_iconst (pc := 467) C (v := (2 : Int32)) dL_law_467 (by decide) ?_
  refine r_iadd (pc := 468) C dL_law_468 ?_
  refine r_topi (fun x4 ex4 => ?_)
  have h := h x4 ex4
  obtain ⟨i5, h⟩ := h
  refine r_scLd (pc := 469) C E i5 dL_law_469 ?_
  refine r_topi (fun x6 ex6 => ?_)
  have h := h x6 ex6
  refine r_aload_n (pc := 470) C dL_law_470 0 rfl ?_
  refine r_iload (pc := 471) C dL_law_471 4 rfl ?_
  refine r_iconst (pc := 473) C (v := (3 : Int32)) dL_law_473 (by decide) ?_
  refine r_iadd (pc := 474) C dL_law_474 ?_
  refine r_topi (fun x7 ex7 => ?_)
  have h := h x7 ex7
  obtain ⟨i8, h⟩ := h
  refine r_scLd (pc := 475) C E i8 dL_law_475 ?_
  refine r_topi (fun x9 ex9 => ?_)
  have h := h x9 ex9
  refine r_aload_n (pc := 476) C dL_law_476 0 rfl ?_
  refine r_iload (pc := 477) C dL_law_477 4 rfl ?_
  refine r_iconst (pc := 479) C (v := (4 : Int32)) dL_law_479 (by decide) ?_
  refine r_iadd (pc := 480) C dL_law_480 ?_
  refine r_topi (fun x10 ex10 => ?_)
  have h := h x10 ex10
  obtain ⟨i11, h⟩ := h
  refine r_scLd (pc := 481) C E i11 dL_law_481 ?_
  refine r_topi (fun x12 ex12 => ?_)
  have h := h x12 ex12
  refine r_aload_n (pc := 482) C dL_law_482 0 rfl ?_
  refine r_iload (pc := 483) C dL_law_483 4 rfl ?_
  refine r_iconst (pc := 485) C (v := (5 : Int32)) dL_law_485 (by decide) ?_
  refine r_iadd (pc := 486) C dL_law_486 ?_
  refine r_topi (fun x13 ex13 => ?_)
  have h := h x13 ex13
  obtain ⟨i14, h⟩ := h
  refine r_scLd (pc := 487) C E i14 dL_law_487 ?_
  refine r_topi (fun x15 ex15 => ?_)
  have h := h x15 ex15
  refine r_aload_n (pc := 488) C dL_law_488 0 rfl ?_
  refine r_iload (pc := 489) C dL_law_489 4 rfl ?_
  refine r_bipush (pc := 491) C (v := (6 : Int32)) dL_law_491 (by decide) ?_
  refine r_iadd (pc := 493) C dL_law_493 ?_
  refine r_topi (fun x16 ex16 => ?_)
  have h := h x16 ex16
  obtain ⟨i17, h⟩ := h
  refine r_scLd (pc := 494) C E i17 dL_law_494 ?_
  refine r_topi (fun x18 ex18 => ?_)
  have h := h x18 ex18
  refine r_if_eq (pc := 495) C (tgt := 502) dL_law_495 (by decide) (fun c19 => ?_) (fun c19 => ?_)
  · have h := h.1 c19
    refine r_iconst (pc := 502) C (v := (0 : Int32)) dL_law_502 (by decide) ?_
    exact r_sub [0, 1, 2, 3, 4] rfl (T_L_law_503 C E ht hn hX23 h)
  · have h := h.2 c19
    refine r_iconst (pc := 498) C (v := (1 : Int32)) dL_law_498 (by decide) ?_
    refine r_goto (pc := 499) C (tgt := 503) dL_law_499 (by decide) ?_
    exact r_sub [0, 1, 2, 3, 4] rfl (T_L_law_503 C E ht hn hX23 h)
def P_L_law_656 (scL : Nat) (scx : Nat → Int32) (Q : Int32 → HS → Prop) (X23 : Nat → Nat → Nat → Int32 → Nat → Nat → HS → Prop) (v1 : Nat) (v2 : Nat) (v3 : Nat) (v4 : Int32) (s0 : Nat) (s1 : Int32) (s2 : Int32) (s3 : Int32) (s4 : Int32) (s5 : Int32) (s6 : Int32) (kk : Nat) (nn : Nat) (S : HS) : Prop := ob S s0 11 ∧ (kk ≤ rm_L_law.cells ∧ nn ≤ rm_L_law.slots ∧ (P_X11_mean s0 s1 s2 s3 s4 s5 s6 (fun x3 S1 => Gr S S1 → (P_L_law_2341 scL scx Q X23 v1 v2 v3 v4 kk nn S1)) S))
set_option maxRecDepth 20000 in
set_option maxHeartbeats 4000000 in
theorem T_L_law_656 {X : CX} {Q : Int32 → HS → Prop} {scb scL : Nat} {scx : Nat → Int32} (C : Cx X cL_law RL 7 rm_L_law) (E : LE X scb scL scx Q) (ht : LD X) (hn : True) {X23 : Nat → Nat → Nat → Int32 → Nat → Nat → HS → Prop} (hX23 : ∀ (v1 : Nat) (v2 : Nat) (v3 : Nat) (v4 : Int32) (kk : Nat) (nn : Nat) (S : HS), X23 v1 v2 v3 v4 kk nn S → WS X 7 kk nn 23 [(0, .ref scb), (1, .ref v1), (2, .ref v2), (3, .ref v3), (4, .int v4)] [] S) {v1 : Nat} {v2 : Nat} {v3 : Nat} {v4 : Int32} {s0 : Nat} {s1 : Int32} {s2 : Int32} {s3 : Int32} {s4 : Int32} {s5 : Int32} {s6 : Int32} {kk : Nat} {nn : Nat} {S : HS} (h : P_L_law_656 scL scx Q X23 v1 v2 v3 v4 s0 s1 s2 s3 s4 s5 s6 kk nn S) : WS X 7 kk nn 656 [(0, .ref scb), (1, .ref v1), (2, .ref v2), (3, .ref v3), (4, .int v4)] [.int s6, .int s5, .int s4, .int s3, .int s2, .int s1, .ref s0] S := by
  obtain ⟨o_s0, h⟩ := h
  obtain ⟨hk, hk2, h⟩ := h
  refine r_callVl0 (pc := 656) C (rest := []) (a := s0) o_s0 [.int s1, .int s2, .int s3, .int s4, .int s5, .int s6] yV_X11_mean g_1598 (c_X11_mean h) dL_law_656 rfl rfl (Nat.le_of_ble_eq_true rfl) ⟨by decide, by decide⟩ ⟨hk, hk2⟩ ⟨rfl, rfl⟩ (fun x3 S1 h g2 => ?_)
  have h := h g2
  have o_s0 := gr_ob g2 o_s0
  refine r_pop2 (pc := 659) C dL_law_659 rfl ?_
  refine r_goto (pc := 660) C (tgt := 2341) dL_law_660 (by decide) ?_
  exact r_sub [0, 1, 2, 3, 4] rfl (T_L_law_2341 C E ht hn hX23 h)
def P_L_law_606 (scL : Nat) (scx : Nat → Int32) (Q : Int32 → HS → Prop) (X23 : Nat → Nat → Nat → Int32 → Nat → Nat → HS → Prop) (v1 : Nat) (v2 : Nat) (v3 : Nat) (v4 : Int32) (s0 : Nat) (s1 : Int32) (s2 : Int32) (s3 : Int32) (s4 : Int32) (s5 : Int32) (s6 : Int32) (kk : Nat) (nn : Nat) (S : HS) : Prop := ob S s0 9 ∧ (kk ≤ rm_L_law.cells ∧ nn ≤ rm_L_law.slots ∧ (P_X9_mean s0 s1 s2 s3 s4 s5 s6 (fun x3 S1 => Gr S S1 → (∀ x4 : Int32, x4 = v4 + (1 : Int32) → (vp_in x4 scL ∧ ∀ x6 : Int32, x6 = scx x4.toNatClampNeg → (∀ x7 : Int32, x7 = v4 + (2 : Int32) → (vp_in x7 scL ∧ ∀ x9 : Int32, x9 = scx x7.toNatClampNeg → (∀ x10 : Int32, x10 = v4 + (3 : Int32) → (vp_in x10 scL ∧ ∀ x12 : Int32, x12 = scx x10.toNatClampNeg → (∀ x13 : Int32, x13 = v4 + (4 : Int32) → (vp_in x13 scL ∧ ∀ x15 : Int32, x15 = scx x13.toNatClampNeg → (∀ x16 : Int32, x16 = v4 + (5 : Int32) → (vp_in x16 scL ∧ ∀ x18 : Int32, x18 = scx x16.toNatClampNeg → (∀ x19 : Int32, x19 = v4 + (6 : Int32) → (vp_in x19 scL ∧ ∀ x21 : Int32, x21 = scx x19.toNatClampNeg → (((x21 = 0) → (P_L_law_656 scL scx Q X23 v1 v2 v3 v4 v2 x6 x9 x12 x15 x18 (0 : Int32) kk nn S1)) ∧ ((¬ x21 = 0) → (P_L_law_656 scL scx Q X23 v1 v2 v3 v4 v2 x6 x9 x12 x15 x18 (1 : Int32) kk nn S1)))))))))))))))) S))
set_option maxRecDepth 20000 in
set_option maxHeartbeats 4000000 in
theorem T_L_law_606 {X : CX} {Q : Int32 → HS → Prop} {scb scL : Nat} {scx : Nat → Int32} (C : Cx X cL_law RL 7 rm_L_law) (E : LE X scb scL scx Q) (ht : LD X) (hn : True) {X23 : Nat → Nat → Nat → Int32 → Nat → Nat → HS → Prop} (hX23 : ∀ (v1 : Nat) (v2 : Nat) (v3 : Nat) (v4 : Int32) (kk : Nat) (nn : Nat) (S : HS), X23 v1 v2 v3 v4 kk nn S → WS X 7 kk nn 23 [(0, .ref scb), (1, .ref v1), (2, .ref v2), (3, .ref v3), (4, .int v4)] [] S) {v1 : Nat} {v2 : Nat} {v3 : Nat} {v4 : Int32} {s0 : Nat} {s1 : Int32} {s2 : Int32} {s3 : Int32} {s4 : Int32} {s5 : Int32} {s6 : Int32} {kk : Nat} {nn : Nat} {S : HS} (h : P_L_law_606 scL scx Q X23 v1 v2 v3 v4 s0 s1 s2 s3 s4 s5 s6 kk nn S) : WS X 7 kk nn 606 [(0, .ref scb), (1, .ref v1), (2, .ref v2), (3, .ref v3), (4, .int v4)] [.int s6, .int s5, .int s4, .int s3, .int s2, .int s1, .ref s0] S := by
  obtain ⟨o_s0, h⟩ := h
  obtain ⟨hk, hk2, h⟩ := h
  refine r_callVl0 (pc := 606) C (rest := []) (a := s0) o_s0 [.int s1, .int s2, .int s3, .int s4, .int s5, .int s6] yV_X9_mean g_732 (c_X9_mean h) dL_law_606 rfl rfl (Nat.le_of_ble_eq_true rfl) ⟨by decide, by decide⟩ ⟨hk, hk2⟩ ⟨rfl, rfl⟩ (fun x3 S1 h g2 => ?_)
  have h := h g2
  have o_s0 := gr_ob g2 o_s0
  refine r_pop2 (pc := 609) C dL_law_609 rfl ?_
  refine r_aload_n (pc := 610) C dL_law_610 2 rfl ?_
  refine r_aload_n (pc := 611) C dL_law_611 0 rfl ?_
  refine r_iload (pc := 612) C dL_law_612 4 rfl ?_
  refine r_iconst (pc := 614) C (v := (1 : Int32)) dL_law_614 (by decide) ?_
  refine r_iadd (pc := 615) C dL_law_615 ?_
  refine r_topi (fun x4 ex4 => ?_)
  have h := h x4 ex4
  obtain ⟨i5, h⟩ := h
  refine r_scLd (pc := 616) C E i5 dL_law_616 ?_
  refine r_topi (fun x6 ex6 => ?_)
  have h := h x6 ex6
  refine r_aload_n (pc := 617) C dL_law_617 0 rfl ?_
  refine r_iload (pc := 618) C dL_law_618 4 rfl ?_
  refine r_iconst (pc := 620) C (v := (2 : Int32)) dL_law_620 (by decide) ?_
  refine r_iadd (pc := 621) C dL_law_621 ?_
  refine r_topi (fun x7 ex7 => ?_)
  have h := h x7 ex7
  obtain ⟨i8, h⟩ := h
  refine r_scLd (pc := 622) C E i8 dL_law_622 ?_
  refine r_topi (fun x9 ex9 => ?_)
  have h := h x9 ex9
  refine r_aload_n (pc := 623) C dL_law_623 0 rfl ?_
  refine r_iload (pc := 624) C dL_law_624 4 rfl ?_
  refine r_iconst (pc := 626) C (v := (3 : Int32)) dL_law_626 (by decide) ?_
  refine r_iadd (pc := 627) C dL_law_627 ?_
  refine r_topi (fun x10 ex10 => ?_)
  have h := h x10 ex10
  obtain ⟨i11, h⟩ := h
  refine r_scLd (pc := 628) C E i11 dL_law_628 ?_
  refine r_topi (fun x12 ex12 => ?_)
  have h := h x12 ex12
  refine r_aload_n (pc := 629) C dL_law_629 0 rfl ?_
  refine r_iload (pc := 630) C dL_law_630 4 rfl ?_
  refine r_iconst (pc := 632) C (v := (4 : Int32)) dL_law_632 (by decide) ?_
  refine r_iadd (pc := 633) C dL_law_633 ?_
  refine r_topi (fun x13 ex13 => ?_)
  have h := h x13 ex13
  obtain ⟨i14, h⟩ := h
  refine r_scLd (pc := 634) C E i14 dL_law_634 ?_
  refine r_topi (fun x15 ex15 => ?_)
  have h := h x15 ex15
  refine r_aload_n (pc := 635) C dL_law_635 0 rfl ?_
  refine r_iload (pc := 636) C dL_law_636 4 rfl ?_
  refine r_iconst (pc := 638) C (v := (5 : Int32)) dL_law_638 (by decide) ?_
  refine r_iadd (pc := 639) C dL_law_639 ?_
  refine r_topi (fun x16 ex16 => ?_)
  have h := h x16 ex16
  obtain ⟨i17, h⟩ := h
  refine r_scLd (pc := 640) C E i17 dL_law_640 ?_
  refine r_topi (fun x18 ex18 => ?_)
  have h := h x18 ex18
  refine r_aload_n (pc := 641) C dL_law_641 0 rfl ?_
  refine r_iload (pc := 642) C dL_law_642 4 rfl ?_
  refine r_bipush (pc := 644) C (v := (6 : Int32)) dL_law_644 (by decide) ?_
  refine r_iadd (pc := 646) C dL_law_646 ?_
  refine r_topi (fun x19 ex19 => ?_)
  have h := h x19 ex19
  obtain ⟨i20, h⟩ := h
  refine r_scLd (pc := 647) C E i20 dL_law_647 ?_
  refine r_topi (fun x21 ex21 => ?_)
  have h := h x21 ex21
  refine r_if_eq (pc := 648) C (tgt := 655) dL_law_648 (by decide) (fun c22 => ?_) (fun c22 => ?_)
  · have h := h.1 c22
    refine r_iconst (pc := 655) C (v := (0 : Int32)) dL_law_655 (by decide) ?_
    exact r_sub [0, 1, 2, 3, 4] rfl (T_L_law_656 C E ht hn hX23 h)
  · have h := h.2 c22
    refine r_iconst (pc := 651) C (v := (1 : Int32)) dL_law_651 (by decide) ?_
    refine r_goto (pc := 652) C (tgt := 656) dL_law_652 (by decide) ?_
    exact r_sub [0, 1, 2, 3, 4] rfl (T_L_law_656 C E ht hn hX23 h)
def P_L_law_560 (scL : Nat) (scx : Nat → Int32) (Q : Int32 → HS → Prop) (X23 : Nat → Nat → Nat → Int32 → Nat → Nat → HS → Prop) (v1 : Nat) (v2 : Nat) (v3 : Nat) (v4 : Int32) (kk : Nat) (nn : Nat) (S : HS) : Prop := ∀ x1 : Int32, x1 = v4 + (1 : Int32) → (vp_in x1 scL ∧ ∀ x3 : Int32, x3 = scx x1.toNatClampNeg → (∀ x4 : Int32, x4 = v4 + (2 : Int32) → (vp_in x4 scL ∧ ∀ x6 : Int32, x6 = scx x4.toNatClampNeg → (∀ x7 : Int32, x7 = v4 + (3 : Int32) → (vp_in x7 scL ∧ ∀ x9 : Int32, x9 = scx x7.toNatClampNeg → (∀ x10 : Int32, x10 = v4 + (4 : Int32) → (vp_in x10 scL ∧ ∀ x12 : Int32, x12 = scx x10.toNatClampNeg → (∀ x13 : Int32, x13 = v4 + (5 : Int32) → (vp_in x13 scL ∧ ∀ x15 : Int32, x15 = scx x13.toNatClampNeg → (∀ x16 : Int32, x16 = v4 + (6 : Int32) → (vp_in x16 scL ∧ ∀ x18 : Int32, x18 = scx x16.toNatClampNeg → (((x18 = 0) → (P_L_law_606 scL scx Q X23 v1 v2 v3 v4 v1 x3 x6 x9 x12 x15 (0 : Int32) kk nn S)) ∧ ((¬ x18 = 0) → (P_L_law_606 scL scx Q X23 v1 v2 v3 v4 v1 x3 x6 x9 x12 x15 (1 : Int32) kk nn S))))))))))))))
set_option maxRecDepth 20000 in
set_option maxHeartbeats 4000000 in
theorem T_L_law_560 {X : CX} {Q : Int32 → HS → Prop} {scb scL : Nat} {scx : Nat → Int32} (C : Cx X cL_law RL 7 rm_L_law) (E : LE X scb scL scx Q) (ht : LD X) (hn : True) {X23 : Nat → Nat → Nat → Int32 → Nat → Nat → HS → Prop} (hX23 : ∀ (v1 : Nat) (v2 : Nat) (v3 : Nat) (v4 : Int32) (kk : Nat) (nn : Nat) (S : HS), X23 v1 v2 v3 v4 kk nn S → WS X 7 kk nn 23 [(0, .ref scb), (1, .ref v1), (2, .ref v2), (3, .ref v3), (4, .int v4)] [] S) {v1 : Nat} {v2 : Nat} {v3 : Nat} {v4 : Int32} {kk : Nat} {nn : Nat} {S : HS} (h : P_L_law_560 scL scx Q X23 v1 v2 v3 v4 kk nn S) : WS X 7 kk nn 560 [(0, .ref scb), (1, .ref v1), (2, .ref v2), (3, .ref v3), (4, .int v4)] [] S := by
  refine r_aload_n (pc := 560) C dL_law_560 1 rfl ?_
  refine r_aload_n (pc := 561) C dL_law_561 0 rfl ?_
  refine r_iload (pc := 562) C dL_law_562 4 rfl ?_
  refine r_iconst (pc := 564) C (v := (1 : Int32)) dL_law_564 (by decide) ?_
  refine r_iadd (pc := 565) C dL_law_565 ?_
  refine r_topi (fun x1 ex1 => ?_)
  have h := h x1 ex1
  obtain ⟨i2, h⟩ := h
  refine r_scLd (pc := 566) C E i2 dL_law_566 ?_
  refine r_topi (fun x3 ex3 => ?_)
  have h := h x3 ex3
  refine r_aload_n (pc := 567) C dL_law_567 0 rfl ?_
  refine r_iload (pc := 568) C dL_law_568 4 rfl ?_
  refine r_iconst (pc := 570) C (v := (2 : Int32)) dL_law_570 (by decide) ?_
  refine r_iadd (pc := 571) C dL_law_571 ?_
  refine r_topi (fun x4 ex4 => ?_)
  have h := h x4 ex4
  obtain ⟨i5, h⟩ := h
  refine r_scLd (pc := 572) C E i5 dL_law_572 ?_
  refine r_topi (fun x6 ex6 => ?_)
  have h := h x6 ex6
  refine r_aload_n (pc := 573) C dL_law_573 0 rfl ?_
  refine r_iload (pc := 574) C dL_law_574 4 rfl ?_
  refine r_iconst (pc := 576) C (v := (3 : Int32)) dL_law_576 (by decide) ?_
  refine r_iadd (pc := 577) C dL_law_577 ?_
  refine r_topi (fun x7 ex7 => ?_)
  have h := h x7 ex7
  obtain ⟨i8, h⟩ := h
  refine r_scLd (pc := 578) C E i8 dL_law_578 ?_
  refine r_topi (fun x9 ex9 => ?_)
  have h := h x9 ex9
  refine r_aload_n (pc := 579) C dL_law_579 0 rfl ?_
  refine r_iload (pc := 580) C dL_law_580 4 rfl ?_
  refine r_iconst (pc := 582) C (v := (4 : Int32)) dL_law_582 (by decide) ?_
  refine r_iadd (pc := 583) C dL_law_583 ?_
  refine r_topi (fun x10 ex10 => ?_)
  have h := h x10 ex10
  obtain ⟨i11, h⟩ := h
  refine r_scLd (pc := 584) C E i11 dL_law_584 ?_
  refine r_topi (fun x12 ex12 => ?_)
  have h := h x12 ex12
  refine r_aload_n (pc := 585) C dL_law_585 0 rfl ?_
  refine r_iload (pc := 586) C dL_law_586 4 rfl ?_
  refine r_iconst (pc := 588) C (v := (5 : Int32)) dL_law_588 (by decide) ?_
  refine r_iadd (pc := 589) C dL_law_589 ?_
  refine r_topi (fun x13 ex13 => ?_)
  have h := h x13 ex13
  obtain ⟨i14, h⟩ := h
  refine r_scLd (pc := 590) C E i14 dL_law_590 ?_
  refine r_topi (fun x15 ex15 => ?_)
  have h := h x15 ex15
  refine r_aload_n (pc := 591) C dL_law_591 0 rfl ?_
  refine r_iload (pc := 592) C dL_law_592 4 rfl ?_
  refine r_bipush (pc := 594) C (v := (6 : Int32)) dL_law_594 (by decide) ?_
  refine r_iadd (pc := 596) C dL_law_596 ?_
  refine r_topi (fun x16 ex16 => ?_)
  have h := h x16 ex16
  obtain ⟨i17, h⟩ := h
  refine r_scLd (pc := 597) C E i17 dL_law_597 ?_
  refine r_topi (fun x18 ex18 => ?_)
  have h := h x18 ex18
  refine r_if_eq (pc := 598) C (tgt := 605) dL_law_598 (by decide) (fun c19 => ?_) (fun c19 => ?_)
  · have h := h.1 c19
    refine r_iconst (pc := 605) C (v := (0 : Int32)) dL_law_605 (by decide) ?_
    exact r_sub [0, 1, 2, 3, 4] rfl (T_L_law_606 C E ht hn hX23 h)
  · have h := h.2 c19
    refine r_iconst (pc := 601) C (v := (1 : Int32)) dL_law_601 (by decide) ?_
    refine r_goto (pc := 602) C (tgt := 606) dL_law_602 (by decide) ?_
    exact r_sub [0, 1, 2, 3, 4] rfl (T_L_law_606 C E ht hn hX23 h)
def P_L_law_663 (scL : Nat) (scx : Nat → Int32) (Q : Int32 → HS → Prop) (X23 : Nat → Nat → Nat → Int32 → Nat → Nat → HS → Prop) (v1 : Nat) (v2 : Nat) (v3 : Nat) (v4 : Int32) (kk : Nat) (nn : Nat) (S : HS) : Prop := ∀ x1 : Int32, x1 = v4 + (1 : Int32) → (vp_in x1 scL ∧ ∀ x3 : Int32, x3 = scx x1.toNatClampNeg → (∀ x4 : Int32, x4 = v4 + (2 : Int32) → (vp_in x4 scL ∧ ∀ x6 : Int32, x6 = scx x4.toNatClampNeg → (∀ x7 : Int32, x7 = v4 + (3 : Int32) → (vp_in x7 scL ∧ ∀ x9 : Int32, x9 = scx x7.toNatClampNeg → (ob S v1 9 ∧ (kk ≤ rm_L_law.cells ∧ nn ≤ rm_L_law.slots ∧ (P_X9_minutes v1 x3 x6 x9 (fun x12 S10 => Gr S S10 → (∀ x13 : Int32, x13 = v4 + (1 : Int32) → (vp_in x13 scL ∧ ∀ x15 : Int32, x15 = scx x13.toNatClampNeg → (∀ x16 : Int32, x16 = v4 + (2 : Int32) → (vp_in x16 scL ∧ ∀ x18 : Int32, x18 = scx x16.toNatClampNeg → (∀ x19 : Int32, x19 = v4 + (3 : Int32) → (vp_in x19 scL ∧ ∀ x21 : Int32, x21 = scx x19.toNatClampNeg → (ob S10 v2 11 ∧ (kk ≤ rm_L_law.cells ∧ nn ≤ rm_L_law.slots ∧ (P_X11_minutes v2 x15 x18 x21 (fun x24 S22 => Gr S10 S22 → (P_L_law_2341 scL scx Q X23 v1 v2 v3 v4 kk nn S22)) S10)))))))))) S))))))))
set_option maxRecDepth 20000 in
set_option maxHeartbeats 4000000 in
theorem T_L_law_663 {X : CX} {Q : Int32 → HS → Prop} {scb scL : Nat} {scx : Nat → Int32} (C : Cx X cL_law RL 7 rm_L_law) (E : LE X scb scL scx Q) (ht : LD X) (hn : True) {X23 : Nat → Nat → Nat → Int32 → Nat → Nat → HS → Prop} (hX23 : ∀ (v1 : Nat) (v2 : Nat) (v3 : Nat) (v4 : Int32) (kk : Nat) (nn : Nat) (S : HS), X23 v1 v2 v3 v4 kk nn S → WS X 7 kk nn 23 [(0, .ref scb), (1, .ref v1), (2, .ref v2), (3, .ref v3), (4, .int v4)] [] S) {v1 : Nat} {v2 : Nat} {v3 : Nat} {v4 : Int32} {kk : Nat} {nn : Nat} {S : HS} (h : P_L_law_663 scL scx Q X23 v1 v2 v3 v4 kk nn S) : WS X 7 kk nn 663 [(0, .ref scb), (1, .ref v1), (2, .ref v2), (3, .ref v3), (4, .int v4)] [] S := by
  refine r_aload_n (pc := 663) C dL_law_663 1 rfl ?_
  refine r_aload_n (pc := 664) C dL_law_664 0 rfl ?_
  refine r_iload (pc := 665) C dL_law_665 4 rfl ?_
  refine r_iconst (pc := 667) C (v := (1 : Int32)) dL_law_667 (by decide) ?_
  refine r_iadd (pc := 668) C dL_law_668 ?_
  refine r_topi (fun x1 ex1 => ?_)
  have h := h x1 ex1
  obtain ⟨i2, h⟩ := h
  refine r_scLd (pc := 669) C E i2 dL_law_669 ?_
  refine r_topi (fun x3 ex3 => ?_)
  have h := h x3 ex3
  refine r_aload_n (pc := 670) C dL_law_670 0 rfl ?_
  refine r_iload (pc := 671) C dL_law_671 4 rfl ?_
  refine r_iconst (pc := 673) C (v := (2 : Int32)) dL_law_673 (by decide) ?_
  refine r_iadd (pc := 674) C dL_law_674 ?_
  refine r_topi (fun x4 ex4 => ?_)
  have h := h x4 ex4
  obtain ⟨i5, h⟩ := h
  refine r_scLd (pc := 675) C E i5 dL_law_675 ?_
  refine r_topi (fun x6 ex6 => ?_)
  have h := h x6 ex6
  refine r_aload_n (pc := 676) C dL_law_676 0 rfl ?_
  refine r_iload (pc := 677) C dL_law_677 4 rfl ?_
  refine r_iconst (pc := 679) C (v := (3 : Int32)) dL_law_679 (by decide) ?_
  refine r_iadd (pc := 680) C dL_law_680 ?_
  refine r_topi (fun x7 ex7 => ?_)
  have h := h x7 ex7
  obtain ⟨i8, h⟩ := h
  refine r_scLd (pc := 681) C E i8 dL_law_681 ?_
  refine r_topi (fun x9 ex9 => ?_)
  have h := h x9 ex9
  obtain ⟨o_v1, h⟩ := h
  obtain ⟨hk, hk2, h⟩ := h
  refine r_callVi0 (pc := 682) C (rest := []) (a := v1) o_v1 [.int x3, .int x6, .int x9] yV_X9_minutes g_737 (c_X9_minutes h) dL_law_682 rfl rfl (Nat.le_of_ble_eq_true rfl) ⟨by decide, by decide⟩ ⟨hk, hk2⟩ ⟨rfl, rfl⟩ (fun x12 S10 h g11 => ?_)
  have h := h g11
  have o_v1 := gr_ob g11 o_v1
  refine r_pop (pc := 685) C dL_law_685 rfl ?_
  refine r_aload_n (pc := 686) C dL_law_686 2 rfl ?_
  refine r_aload_n (pc := 687) C dL_law_687 0 rfl ?_
  refine r_iload (pc := 688) C dL_law_688 4 rfl ?_
  refine r_iconst (pc := 690) C (v := (1 : Int32)) dL_law_690 (by decide) ?_
  refine r_iadd (pc := 691) C dL_law_691 ?_
  refine r_topi (fun x13 ex13 => ?_)
  have h := h x13 ex13
  obtain ⟨i14, h⟩ := h
  refine r_scLd (pc := 692) C E i14 dL_law_692 ?_
  refine r_topi (fun x15 ex15 => ?_)
  have h := h x15 ex15
  refine r_aload_n (pc := 693) C dL_law_693 0 rfl ?_
  refine r_iload (pc := 694) C dL_law_694 4 rfl ?_
  refine r_iconst (pc := 696) C (v := (2 : Int32)) dL_law_696 (by decide) ?_
  refine r_iadd (pc := 697) C dL_law_697 ?_
  refine r_topi (fun x16 ex16 => ?_)
  have h := h x16 ex16
  obtain ⟨i17, h⟩ := h
  refine r_scLd (pc := 698) C E i17 dL_law_698 ?_
  refine r_topi (fun x18 ex18 => ?_)
  have h := h x18 ex18
  refine r_aload_n (pc := 699) C dL_law_699 0 rfl ?_
  refine r_iload (pc := 700) C dL_law_700 4 rfl ?_
  refine r_iconst (pc := 702) C (v := (3 : Int32)) dL_law_702 (by decide) ?_
  refine r_iadd (pc := 703) C dL_law_703 ?_
  refine r_topi (fun x19 ex19 => ?_)
  have h := h x19 ex19
  obtain ⟨i20, h⟩ := h
  refine r_scLd (pc := 704) C E i20 dL_law_704 ?_
  refine r_topi (fun x21 ex21 => ?_)
  have h := h x21 ex21
  obtain ⟨o_v2, h⟩ := h
  obtain ⟨hk, hk2, h⟩ := h
  refine r_callVi0 (pc := 705) C (rest := []) (a := v2) o_v2 [.int x15, .int x18, .int x21] yV_X11_minutes g_1603 (c_X11_minutes h) dL_law_705 rfl rfl (Nat.le_of_ble_eq_true rfl) ⟨by decide, by decide⟩ ⟨hk, hk2⟩ ⟨rfl, rfl⟩ (fun x24 S22 h g23 => ?_)
  have h := h g23
  have o_v1 := gr_ob g23 o_v1
  have o_v2 := gr_ob g23 o_v2
  refine r_pop (pc := 708) C dL_law_708 rfl ?_
  refine r_goto (pc := 709) C (tgt := 2341) dL_law_709 (by decide) ?_
  exact r_sub [0, 1, 2, 3, 4] rfl (T_L_law_2341 C E ht hn hX23 h)
end
section
def P_L_law_712 (scL : Nat) (scx : Nat → Int32) (Q : Int32 → HS → Prop) (X23 : Nat → Nat → Nat → Int32 → Nat → Nat → HS → Prop) (v1 : Nat) (v2 : Nat) (v3 : Nat) (v4 : Int32) (kk : Nat) (nn : Nat) (S : HS) : Prop := ∀ x1 : Int32, x1 = v4 + (1 : Int32) → (vp_in x1 scL ∧ ∀ x3 : Int32, x3 = scx x1.toNatClampNeg → (∀ x4 : Int32, x4 = v4 + (2 : Int32) → (vp_in x4 scL ∧ ∀ x6 : Int32, x6 = scx x4.toNatClampNeg → (∀ x7 : Int32, x7 = v4 + (3 : Int32) → (vp_in x7 scL ∧ ∀ x9 : Int32, x9 = scx x7.toNatClampNeg → (ob S v1 9 ∧ (kk ≤ rm_L_law.cells ∧ nn ≤ rm_L_law.slots ∧ (P_X9_air v1 x3 x6 x9 (fun x12 S10 => Gr S S10 → (∀ x13 : Int32, x13 = v4 + (1 : Int32) → (vp_in x13 scL ∧ ∀ x15 : Int32, x15 = scx x13.toNatClampNeg → (∀ x16 : Int32, x16 = v4 + (2 : Int32) → (vp_in x16 scL ∧ ∀ x18 : Int32, x18 = scx x16.toNatClampNeg → (∀ x19 : Int32, x19 = v4 + (3 : Int32) → (vp_in x19 scL ∧ ∀ x21 : Int32, x21 = scx x19.toNatClampNeg → (ob S10 v2 11 ∧ (kk ≤ rm_L_law.cells ∧ nn ≤ rm_L_law.slots ∧ (P_X11_air v2 x15 x18 x21 (fun x24 S22 => Gr S10 S22 → (P_L_law_2341 scL scx Q X23 v1 v2 v3 v4 kk nn S22)) S10)))))))))) S))))))))
set_option maxRecDepth 20000 in
set_option maxHeartbeats 4000000 in
theorem T_L_law_712 {X : CX} {Q : Int32 → HS → Prop} {scb scL : Nat} {scx : Nat → Int32} (C : Cx X cL_law RL 7 rm_L_law) (E : LE X scb scL scx Q) (ht : LD X) (hn : True) {X23 : Nat → Nat → Nat → Int32 → Nat → Nat → HS → Prop} (hX23 : ∀ (v1 : Nat) (v2 : Nat) (v3 : Nat) (v4 : Int32) (kk : Nat) (nn : Nat) (S : HS), X23 v1 v2 v3 v4 kk nn S → WS X 7 kk nn 23 [(0, .ref scb), (1, .ref v1), (2, .ref v2), (3, .ref v3), (4, .int v4)] [] S) {v1 : Nat} {v2 : Nat} {v3 : Nat} {v4 : Int32} {kk : Nat} {nn : Nat} {S : HS} (h : P_L_law_712 scL scx Q X23 v1 v2 v3 v4 kk nn S) : WS X 7 kk nn 712 [(0, .ref scb), (1, .ref v1), (2, .ref v2), (3, .ref v3), (4, .int v4)] [] S := by
  refine r_aload_n (pc := 712) C dL_law_712 1 rfl ?_
  refine r_aload_n (pc := 713) C dL_law_713 0 rfl ?_
  refine r_iload (pc := 714) C dL_law_714 4 rfl ?_
  refine r_iconst (pc := 716) C (v := (1 : Int32)) dL_law_716 (by decide) ?_
  refine r_iadd (pc := 717) C dL_law_717 ?_
  refine r_topi (fun x1 ex1 => ?_)
  have h := h x1 ex1
  obtain ⟨i2, h⟩ := h
  refine r_scLd (pc := 718) C E i2 dL_law_718 ?_
  refine r_topi (fun x3 ex3 => ?_)
  have h := h x3 ex3
  refine r_aload_n (pc := 719) C dL_law_719 0 rfl ?_
  refine r_iload (pc := 720) C dL_law_720 4 rfl ?_
  refine r_iconst (pc := 722) C (v := (2 : Int32)) dL_law_722 (by decide) ?_
  refine r_iadd (pc := 723) C dL_law_723 ?_
  refine r_topi (fun x4 ex4 => ?_)
  have h := h x4 ex4
  obtain ⟨i5, h⟩ := h
  refine r_scLd (pc := 724) C E i5 dL_law_724 ?_
  refine r_topi (fun x6 ex6 => ?_)
  have h := h x6 ex6
  refine r_aload_n (pc := 725) C dL_law_725 0 rfl ?_
  refine r_iload (pc := 726) C dL_law_726 4 rfl ?_
  refine r_iconst (pc := 728) C (v := (3 : Int32)) dL_law_728 (by decide) ?_
  refine r_iadd (pc := 729) C dL_law_729 ?_
  refine r_topi (fun x7 ex7 => ?_)
  have h := h x7 ex7
  obtain ⟨i8, h⟩ := h
  refine r_scLd (pc := 730) C E i8 dL_law_730 ?_
  refine r_topi (fun x9 ex9 => ?_)
  have h := h x9 ex9
  obtain ⟨o_v1, h⟩ := h
  obtain ⟨hk, hk2, h⟩ := h
  refine r_callVi0 (pc := 731) C (rest := []) (a := v1) o_v1 [.int x3, .int x6, .int x9] yV_X9_air g_745 (c_X9_air h) dL_law_731 rfl rfl (Nat.le_of_ble_eq_true rfl) ⟨by decide, by decide⟩ ⟨hk, hk2⟩ ⟨rfl, rfl⟩ (fun x12 S10 h g11 => ?_)
  have h := h g11
  have o_v1 := gr_ob g11 o_v1
  refine r_pop (pc := 734) C dL_law_734 rfl ?_
  refine r_aload_n (pc := 735) C dL_law_735 2 rfl ?_
  refine r_aload_n (pc := 736) C dL_law_736 0 rfl ?_
  refine r_iload (pc := 737) C dL_law_737 4 rfl ?_
  refine r_iconst (pc := 739) C (v := (1 : Int32)) dL_law_739 (by decide) ?_
  refine r_iadd (pc := 740) C dL_law_740 ?_
  refine r_topi (fun x13 ex13 => ?_)
  have h := h x13 ex13
  obtain ⟨i14, h⟩ := h
  refine r_scLd (pc := 741) C E i14 dL_law_741 ?_
  refine r_topi (fun x15 ex15 => ?_)
  have h := h x15 ex15
  refine r_aload_n (pc := 742) C dL_law_742 0 rfl ?_
  refine r_iload (pc := 743) C dL_law_743 4 rfl ?_
  refine r_iconst (pc := 745) C (v := (2 : Int32)) dL_law_745 (by decide) ?_
  refine r_iadd (pc := 746) C dL_law_746 ?_
  refine r_topi (fun x16 ex16 => ?_)
  have h := h x16 ex16
  obtain ⟨i17, h⟩ := h
  refine r_scLd (pc := 747) C E i17 dL_law_747 ?_
  refine r_topi (fun x18 ex18 => ?_)
  have h := h x18 ex18
  refine r_aload_n (pc := 748) C dL_law_748 0 rfl ?_
  refine r_iload (pc := 749) C dL_law_749 4 rfl ?_
  refine r_iconst (pc := 751) C (v := (3 : Int32)) dL_law_751 (by decide) ?_
  refine r_iadd (pc := 752) C dL_law_752 ?_
  refine r_topi (fun x19 ex19 => ?_)
  have h := h x19 ex19
  obtain ⟨i20, h⟩ := h
  refine r_scLd (pc := 753) C E i20 dL_law_753 ?_
  refine r_topi (fun x21 ex21 => ?_)
  have h := h x21 ex21
  obtain ⟨o_v2, h⟩ := h
  obtain ⟨hk, hk2, h⟩ := h
  refine r_callVi0 (pc := 754) C (rest := []) (a := v2) o_v2 [.int x15, .int x18, .int x21] yV_X11_air g_1611 (c_X11_air h) dL_law_754 rfl rfl (Nat.le_of_ble_eq_true rfl) ⟨by decide, by decide⟩ ⟨hk, hk2⟩ ⟨rfl, rfl⟩ (fun x24 S22 h g23 => ?_)
  have h := h g23
  have o_v1 := gr_ob g23 o_v1
  have o_v2 := gr_ob g23 o_v2
  refine r_pop (pc := 757) C dL_law_757 rfl ?_
  refine r_goto (pc := 758) C (tgt := 2341) dL_law_758 (by decide) ?_
  exact r_sub [0, 1, 2, 3, 4] rfl (T_L_law_2341 C E ht hn hX23 h)
def P_L_law_761 (scL : Nat) (scx : Nat → Int32) (Q : Int32 → HS → Prop) (X23 : Nat → Nat → Nat → Int32 → Nat → Nat → HS → Prop) (v1 : Nat) (v2 : Nat) (v3 : Nat) (v4 : Int32) (kk : Nat) (nn : Nat) (S : HS) : Prop := ∀ x1 : Int32, x1 = v4 + (1 : Int32) → (vp_in x1 scL ∧ ∀ x3 : Int32, x3 = scx x1.toNatClampNeg → (∀ x4 : Int32, x4 = v4 + (2 : Int32) → (vp_in x4 scL ∧ ∀ x6 : Int32, x6 = scx x4.toNatClampNeg → (∀ x7 : Int32, x7 = v4 + (3 : Int32) → (vp_in x7 scL ∧ ∀ x9 : Int32, x9 = scx x7.toNatClampNeg → (∀ x10 : Int32, x10 = v4 + (4 : Int32) → (vp_in x10 scL ∧ ∀ x12 : Int32, x12 = scx x10.toNatClampNeg → (∀ x13 : Int32, x13 = v4 + (5 : Int32) → (vp_in x13 scL ∧ ∀ x15 : Int32, x15 = scx x13.toNatClampNeg → (ob S v1 9 ∧ (kk ≤ rm_L_law.cells ∧ nn ≤ rm_L_law.slots ∧ (P_X9_held v1 x3 x6 x9 x12 x15 (fun x18 S16 => Gr S S16 → (∀ x19 : Int32, x19 = v4 + (1 : Int32) → (vp_in x19 scL ∧ ∀ x21 : Int32, x21 = scx x19.toNatClampNeg → (∀ x22 : Int32, x22 = v4 + (2 : Int32) → (vp_in x22 scL ∧ ∀ x24 : Int32, x24 = scx x22.toNatClampNeg → (∀ x25 : Int32, x25 = v4 + (3 : Int32) → (vp_in x25 scL ∧ ∀ x27 : Int32, x27 = scx x25.toNatClampNeg → (∀ x28 : Int32, x28 = v4 + (4 : Int32) → (vp_in x28 scL ∧ ∀ x30 : Int32, x30 = scx x28.toNatClampNeg → (∀ x31 : Int32, x31 = v4 + (5 : Int32) → (vp_in x31 scL ∧ ∀ x33 : Int32, x33 = scx x31.toNatClampNeg → (ob S16 v2 11 ∧ (kk ≤ rm_L_law.cells ∧ nn ≤ rm_L_law.slots ∧ (P_X11_held v2 x21 x24 x27 x30 x33 (fun x36 S34 => Gr S16 S34 → (P_L_law_2341 scL scx Q X23 v1 v2 v3 v4 kk nn S34)) S16)))))))))))))) S))))))))))))
set_option maxRecDepth 20000 in
set_option maxHeartbeats 4000000 in
theorem T_L_law_761 {X : CX} {Q : Int32 → HS → Prop} {scb scL : Nat} {scx : Nat → Int32} (C : Cx X cL_law RL 7 rm_L_law) (E : LE X scb scL scx Q) (ht : LD X) (hn : True) {X23 : Nat → Nat → Nat → Int32 → Nat → Nat → HS → Prop} (hX23 : ∀ (v1 : Nat) (v2 : Nat) (v3 : Nat) (v4 : Int32) (kk : Nat) (nn : Nat) (S : HS), X23 v1 v2 v3 v4 kk nn S → WS X 7 kk nn 23 [(0, .ref scb), (1, .ref v1), (2, .ref v2), (3, .ref v3), (4, .int v4)] [] S) {v1 : Nat} {v2 : Nat} {v3 : Nat} {v4 : Int32} {kk : Nat} {nn : Nat} {S : HS} (h : P_L_law_761 scL scx Q X23 v1 v2 v3 v4 kk nn S) : WS X 7 kk nn 761 [(0, .ref scb), (1, .ref v1), (2, .ref v2), (3, .ref v3), (4, .int v4)] [] S := by
  refine r_aload_n (pc := 761) C dL_law_761 1 rfl ?_
  refine r_aload_n (pc := 762) C dL_law_762 0 rfl ?_
  refine r_iload (pc := 763) C dL_law_763 4 rfl ?_
  refine r_iconst (pc := 765) C (v := (1 : Int32)) dL_law_765 (by decide) ?_
  refine r_iadd (pc := 766) C dL_law_766 ?_
  refine r_topi (fun x1 ex1 => ?_)
  have h := h x1 ex1
  obtain ⟨i2, h⟩ := h
  refine r_scLd (pc := 767) C E i2 dL_law_767 ?_
  refine r_topi (fun x3 ex3 => ?_)
  have h := h x3 ex3
  refine r_aload_n (pc := 768) C dL_law_768 0 rfl ?_
  refine r_iload (pc := 769) C dL_law_769 4 rfl ?_
  refine r_iconst (pc := 771) C (v := (2 : Int32)) dL_law_771 (by decide) ?_
  refine r_iadd (pc := 772) C dL_law_772 ?_
  refine r_topi (fun x4 ex4 => ?_)
  have h := h x4 ex4
  obtain ⟨i5, h⟩ := h
  refine r_scLd (pc := 773) C E i5 dL_law_773 ?_
  refine r_topi (fun x6 ex6 => ?_)
  have h := h x6 ex6
  refine r_aload_n (pc := 774) C dL_law_774 0 rfl ?_
  refine r_iload (pc := 775) C dL_law_775 4 rfl ?_
  refine r_iconst (pc := 777) C (v := (3 : Int32)) dL_law_777 (by decide) ?_
  refine r_iadd (pc := 778) C dL_law_778 ?_
  refine r_topi (fun x7 ex7 => ?_)
  have h := h x7 ex7
  obtain ⟨i8, h⟩ := h
  refine r_scLd (pc := 779) C E i8 dL_law_779 ?_
  refine r_topi (fun x9 ex9 => ?_)
  have h := h x9 ex9
  refine r_aload_n (pc := 780) C dL_law_780 0 rfl ?_
  refine r_iload (pc := 781) C dL_law_781 4 rfl ?_
  refine r_iconst (pc := 783) C (v := (4 : Int32)) dL_law_783 (by decide) ?_
  refine r_iadd (pc := 784) C dL_law_784 ?_
  refine r_topi (fun x10 ex10 => ?_)
  have h := h x10 ex10
  obtain ⟨i11, h⟩ := h
  refine r_scLd (pc := 785) C E i11 dL_law_785 ?_
  refine r_topi (fun x12 ex12 => ?_)
  have h := h x12 ex12
  refine r_aload_n (pc := 786) C dL_law_786 0 rfl ?_
  refine r_iload (pc := 787) C dL_law_787 4 rfl ?_
  refine r_iconst (pc := 789) C (v := (5 : Int32)) dL_law_789 (by decide) ?_
  refine r_iadd (pc := 790) C dL_law_790 ?_
  refine r_topi (fun x13 ex13 => ?_)
  have h := h x13 ex13
  obtain ⟨i14, h⟩ := h
  refine r_scLd (pc := 791) C E i14 dL_law_791 ?_
  refine r_topi (fun x15 ex15 => ?_)
  have h := h x15 ex15
  obtain ⟨o_v1, h⟩ := h
  obtain ⟨hk, hk2, h⟩ := h
  refine r_callVi0 (pc := 792) C (rest := []) (a := v1) o_v1 [.int x3, .int x6, .int x9, .int x12, .int x15] yV_X9_held g_750 (c_X9_held h) dL_law_792 rfl rfl (Nat.le_of_ble_eq_true rfl) ⟨by decide, by decide⟩ ⟨hk, hk2⟩ ⟨rfl, rfl⟩ (fun x18 S16 h g17 => ?_)
  have h := h g17
  have o_v1 := gr_ob g17 o_v1
  refine r_pop (pc := 795) C dL_law_795 rfl ?_
  refine r_aload_n (pc := 796) C dL_law_796 2 rfl ?_
  refine r_aload_n (pc := 797) C dL_law_797 0 rfl ?_
  refine r_iload (pc := 798) C dL_law_798 4 rfl ?_
  refine r_iconst (pc := 800) C (v := (1 : Int32)) dL_law_800 (by decide) ?_
  refine r_iadd (pc := 801) C dL_law_801 ?_
  refine r_topi (fun x19 ex19 => ?_)
  have h := h x19 ex19
  obtain ⟨i20, h⟩ := h
  refine r_scLd (pc := 802) C E i20 dL_law_802 ?_
  refine r_topi (fun x21 ex21 => ?_)
  have h := h x21 ex21
  refine r_aload_n (pc := 803) C dL_law_803 0 rfl ?_
  refine r_iload (pc := 804) C dL_law_804 4 rfl ?_
  refine r_iconst (pc := 806) C (v := (2 : Int32)) dL_law_806 (by decide) ?_
  refine r_iadd (pc := 807) C dL_law_807 ?_
  refine r_topi (fun x22 ex22 => ?_)
  have h := h x22 ex22
  obtain ⟨i23, h⟩ := h
  refine r_scLd (pc := 808) C E i23 dL_law_808 ?_
  refine r_topi (fun x24 ex24 => ?_)
  have h := h x24 ex24
  refine r_aload_n (pc := 809) C dL_law_809 0 rfl ?_
  refine r_iload (pc := 810) C dL_law_810 4 rfl ?_
  refine r_iconst (pc := 812) C (v := (3 : Int32)) dL_law_812 (by decide) ?_
  refine r_iadd (pc := 813) C dL_law_813 ?_
  refine r_topi (fun x25 ex25 => ?_)
  have h := h x25 ex25
  obtain ⟨i26, h⟩ := h
  refine r_scLd (pc := 814) C E i26 dL_law_814 ?_
  refine r_topi (fun x27 ex27 => ?_)
  have h := h x27 ex27
  refine r_aload_n (pc := 815) C dL_law_815 0 rfl ?_
  refine r_iload (pc := 816) C dL_law_816 4 rfl ?_
  refine r_iconst (pc := 818) C (v := (4 : Int32)) dL_law_818 (by decide) ?_
  refine r_iadd (pc := 819) C dL_law_819 ?_
  refine r_topi (fun x28 ex28 => ?_)
  have h := h x28 ex28
  obtain ⟨i29, h⟩ := h
  refine r_scLd (pc := 820) C E i29 dL_law_820 ?_
  refine r_topi (fun x30 ex30 => ?_)
  have h := h x30 ex30
  refine r_aload_n (pc := 821) C dL_law_821 0 rfl ?_
  refine r_iload (pc := 822) C dL_law_822 4 rfl ?_
  refine r_iconst (pc := 824) C (v := (5 : Int32)) dL_law_824 (by decide) ?_
  refine r_iadd (pc := 825) C dL_law_825 ?_
  refine r_topi (fun x31 ex31 => ?_)
  have h := h x31 ex31
  obtain ⟨i32, h⟩ := h
  refine r_scLd (pc := 826) C E i32 dL_law_826 ?_
  refine r_topi (fun x33 ex33 => ?_)
  have h := h x33 ex33
  obtain ⟨o_v2, h⟩ := h
  obtain ⟨hk, hk2, h⟩ := h
  refine r_callVi0 (pc := 827) C (rest := []) (a := v2) o_v2 [.int x21, .int x24, .int x27, .int x30, .int x33] yV_X11_held g_1619 (c_X11_held h) dL_law_827 rfl rfl (Nat.le_of_ble_eq_true rfl) ⟨by decide, by decide⟩ ⟨hk, hk2⟩ ⟨rfl, rfl⟩ (fun x36 S34 h g35 => ?_)
  have h := h g35
  have o_v1 := gr_ob g35 o_v1
  have o_v2 := gr_ob g35 o_v2
  refine r_pop (pc := 830) C dL_law_830 rfl ?_
  refine r_goto (pc := 831) C (tgt := 2341) dL_law_831 (by decide) ?_
  exact r_sub [0, 1, 2, 3, 4] rfl (T_L_law_2341 C E ht hn hX23 h)
def P_L_law_834 (scL : Nat) (scx : Nat → Int32) (Q : Int32 → HS → Prop) (X23 : Nat → Nat → Nat → Int32 → Nat → Nat → HS → Prop) (v1 : Nat) (v2 : Nat) (v3 : Nat) (v4 : Int32) (kk : Nat) (nn : Nat) (S : HS) : Prop := ∀ x1 : Int32, x1 = v4 + (1 : Int32) → (vp_in x1 scL ∧ ∀ x3 : Int32, x3 = scx x1.toNatClampNeg → (∀ x4 : Int32, x4 = v4 + (2 : Int32) → (vp_in x4 scL ∧ ∀ x6 : Int32, x6 = scx x4.toNatClampNeg → (∀ x7 : Int32, x7 = v4 + (3 : Int32) → (vp_in x7 scL ∧ ∀ x9 : Int32, x9 = scx x7.toNatClampNeg → (∀ x10 : Int32, x10 = v4 + (4 : Int32) → (vp_in x10 scL ∧ ∀ x12 : Int32, x12 = scx x10.toNatClampNeg → (ob S v1 9 ∧ (kk ≤ rm_L_law.cells ∧ nn ≤ rm_L_law.slots ∧ (P_X9_best v1 x3 x6 x9 x12 (fun x15 S13 => Gr S S13 → (∀ x16 : Int32, x16 = v4 + (1 : Int32) → (vp_in x16 scL ∧ ∀ x18 : Int32, x18 = scx x16.toNatClampNeg → (∀ x19 : Int32, x19 = v4 + (2 : Int32) → (vp_in x19 scL ∧ ∀ x21 : Int32, x21 = scx x19.toNatClampNeg → (∀ x22 : Int32, x22 = v4 + (3 : Int32) → (vp_in x22 scL ∧ ∀ x24 : Int32, x24 = scx x22.toNatClampNeg → (∀ x25 : Int32, x25 = v4 + (4 : Int32) → (vp_in x25 scL ∧ ∀ x27 : Int32, x27 = scx x25.toNatClampNeg → (ob S13 v2 11 ∧ (kk ≤ rm_L_law.cells ∧ nn ≤ rm_L_law.slots ∧ (P_X11_best v2 x18 x21 x24 x27 (fun x30 S28 => Gr S13 S28 → (P_L_law_2341 scL scx Q X23 v1 v2 v3 v4 kk nn S28)) S13)))))))))))) S))))))))))
set_option maxRecDepth 20000 in
set_option maxHeartbeats 4000000 in
theorem T_L_law_834 {X : CX} {Q : Int32 → HS → Prop} {scb scL : Nat} {scx : Nat → Int32} (C : Cx X cL_law RL 7 rm_L_law) (E : LE X scb scL scx Q) (ht : LD X) (hn : True) {X23 : Nat → Nat → Nat → Int32 → Nat → Nat → HS → Prop} (hX23 : ∀ (v1 : Nat) (v2 : Nat) (v3 : Nat) (v4 : Int32) (kk : Nat) (nn : Nat) (S : HS), X23 v1 v2 v3 v4 kk nn S → WS X 7 kk nn 23 [(0, .ref scb), (1, .ref v1), (2, .ref v2), (3, .ref v3), (4, .int v4)] [] S) {v1 : Nat} {v2 : Nat} {v3 : Nat} {v4 : Int32} {kk : Nat} {nn : Nat} {S : HS} (h : P_L_law_834 scL scx Q X23 v1 v2 v3 v4 kk nn S) : WS X 7 kk nn 834 [(0, .ref scb), (1, .ref v1), (2, .ref v2), (3, .ref v3), (4, .int v4)] [] S := by
  refine r_aload_n (pc := 834) C dL_law_834 1 rfl ?_
  refine r_aload_n (pc := 835) C dL_law_835 0 rfl ?_
  refine r_iload (pc := 836) C dL_law_836 4 rfl ?_
  refine r_iconst (pc := 838) C (v := (1 : Int32)) dL_law_838 (by decide) ?_
  refine r_iadd (pc := 839) C dL_law_839 ?_
  refine r_topi (fun x1 ex1 => ?_)
  have h := h x1 ex1
  obtain ⟨i2, h⟩ := h
  refine r_scLd (pc := 840) C E i2 dL_law_840 ?_
  refine r_topi (fun x3 ex3 => ?_)
  have h := h x3 ex3
  refine r_aload_n (pc := 841) C dL_law_841 0 rfl ?_
  refine r_iload (pc := 842) C dL_law_842 4 rfl ?_
  refine r_iconst (pc := 844) C (v := (2 : Int32)) dL_law_844 (by decide) ?_
  refine r_iadd (pc := 845) C dL_law_845 ?_
  refine r_topi (fun x4 ex4 => ?_)
  have h := h x4 ex4
  obtain ⟨i5, h⟩ := h
  refine r_scLd (pc := 846) C E i5 dL_law_846 ?_
  refine r_topi (fun x6 ex6 => ?_)
  have h := h x6 ex6
  refine r_aload_n (pc := 847) C dL_law_847 0 rfl ?_
  refine r_iload (pc := 848) C dL_law_848 4 rfl ?_
  refine r_iconst (pc := 850) C (v := (3 : Int32)) dL_law_850 (by decide) ?_
  refine r_iadd (pc := 851) C dL_law_851 ?_
  refine r_topi (fun x7 ex7 => ?_)
  have h := h x7 ex7
  obtain ⟨i8, h⟩ := h
  refine r_scLd (pc := 852) C E i8 dL_law_852 ?_
  refine r_topi (fun x9 ex9 => ?_)
  have h := h x9 ex9
  refine r_aload_n (pc := 853) C dL_law_853 0 rfl ?_
  refine r_iload (pc := 854) C dL_law_854 4 rfl ?_
  refine r_iconst (pc := 856) C (v := (4 : Int32)) dL_law_856 (by decide) ?_
  refine r_iadd (pc := 857) C dL_law_857 ?_
  refine r_topi (fun x10 ex10 => ?_)
  have h := h x10 ex10
  obtain ⟨i11, h⟩ := h
  refine r_scLd (pc := 858) C E i11 dL_law_858 ?_
  refine r_topi (fun x12 ex12 => ?_)
  have h := h x12 ex12
  obtain ⟨o_v1, h⟩ := h
  obtain ⟨hk, hk2, h⟩ := h
  refine r_callVi0 (pc := 859) C (rest := []) (a := v1) o_v1 [.int x3, .int x6, .int x9, .int x12] yV_X9_best g_756 (c_X9_best h) dL_law_859 rfl rfl (Nat.le_of_ble_eq_true rfl) ⟨by decide, by decide⟩ ⟨hk, hk2⟩ ⟨rfl, rfl⟩ (fun x15 S13 h g14 => ?_)
  have h := h g14
  have o_v1 := gr_ob g14 o_v1
  refine r_pop (pc := 862) C dL_law_862 rfl ?_
  refine r_aload_n (pc := 863) C dL_law_863 2 rfl ?_
  refine r_aload_n (pc := 864) C dL_law_864 0 rfl ?_
  refine r_iload (pc := 865) C dL_law_865 4 rfl ?_
  refine r_iconst (pc := 867) C (v := (1 : Int32)) dL_law_867 (by decide) ?_
  refine r_iadd (pc := 868) C dL_law_868 ?_
  refine r_topi (fun x16 ex16 => ?_)
  have h := h x16 ex16
  obtain ⟨i17, h⟩ := h
  refine r_scLd (pc := 869) C E i17 dL_law_869 ?_
  refine r_topi (fun x18 ex18 => ?_)
  have h := h x18 ex18
  refine r_aload_n (pc := 870) C dL_law_870 0 rfl ?_
  refine r_iload (pc := 871) C dL_law_871 4 rfl ?_
  refine r_iconst (pc := 873) C (v := (2 : Int32)) dL_law_873 (by decide) ?_
  refine r_iadd (pc := 874) C dL_law_874 ?_
  refine r_topi (fun x19 ex19 => ?_)
  have h := h x19 ex19
  obtain ⟨i20, h⟩ := h
  refine r_scLd (pc := 875) C E i20 dL_law_875 ?_
  refine r_topi (fun x21 ex21 => ?_)
  have h := h x21 ex21
  refine r_aload_n (pc := 876) C dL_law_876 0 rfl ?_
  refine r_iload (pc := 877) C dL_law_877 4 rfl ?_
  refine r_iconst (pc := 879) C (v := (3 : Int32)) dL_law_879 (by decide) ?_
  refine r_iadd (pc := 880) C dL_law_880 ?_
  refine r_topi (fun x22 ex22 => ?_)
  have h := h x22 ex22
  obtain ⟨i23, h⟩ := h
  refine r_scLd (pc := 881) C E i23 dL_law_881 ?_
  refine r_topi (fun x24 ex24 => ?_)
  have h := h x24 ex24
  refine r_aload_n (pc := 882) C dL_law_882 0 rfl ?_
  refine r_iload (pc := 883) C dL_law_883 4 rfl ?_
  refine r_iconst (pc := 885) C (v := (4 : Int32)) dL_law_885 (by decide) ?_
  refine r_iadd (pc := 886) C dL_law_886 ?_
  refine r_topi (fun x25 ex25 => ?_)
  have h := h x25 ex25
  obtain ⟨i26, h⟩ := h
  refine r_scLd (pc := 887) C E i26 dL_law_887 ?_
  refine r_topi (fun x27 ex27 => ?_)
  have h := h x27 ex27
  obtain ⟨o_v2, h⟩ := h
  obtain ⟨hk, hk2, h⟩ := h
  refine r_callVi0 (pc := 888) C (rest := []) (a := v2) o_v2 [.int x18, .int x21, .int x24, .int x27] yV_X11_best g_1623 (c_X11_best h) dL_law_888 rfl rfl (Nat.le_of_ble_eq_true rfl) ⟨by decide, by decide⟩ ⟨hk, hk2⟩ ⟨rfl, rfl⟩ (fun x30 S28 h g29 => ?_)
  have h := h g29
  have o_v1 := gr_ob g29 o_v1
  have o_v2 := gr_ob g29 o_v2
  refine r_pop (pc := 891) C dL_law_891 rfl ?_
  refine r_goto (pc := 892) C (tgt := 2341) dL_law_892 (by decide) ?_
  exact r_sub [0, 1, 2, 3, 4] rfl (T_L_law_2341 C E ht hn hX23 h)
def P_L_law_977 (scL : Nat) (scx : Nat → Int32) (Q : Int32 → HS → Prop) (X23 : Nat → Nat → Nat → Int32 → Nat → Nat → HS → Prop) (v1 : Nat) (v2 : Nat) (v3 : Nat) (v4 : Int32) (s0 : Nat) (s1 : Int32) (s2 : Int32) (s3 : Int32) (s4 : Int32) (s5 : Int32) (kk : Nat) (nn : Nat) (S : HS) : Prop := ob S s0 11 ∧ (kk ≤ rm_L_law.cells ∧ nn ≤ rm_L_law.slots ∧ (P_X11_saves s0 s1 s2 s3 s4 s5 (fun x3 S1 => Gr S S1 → (P_L_law_2341 scL scx Q X23 v1 v2 v3 v4 kk nn S1)) S))
set_option maxRecDepth 20000 in
set_option maxHeartbeats 4000000 in
theorem T_L_law_977 {X : CX} {Q : Int32 → HS → Prop} {scb scL : Nat} {scx : Nat → Int32} (C : Cx X cL_law RL 7 rm_L_law) (E : LE X scb scL scx Q) (ht : LD X) (hn : True) {X23 : Nat → Nat → Nat → Int32 → Nat → Nat → HS → Prop} (hX23 : ∀ (v1 : Nat) (v2 : Nat) (v3 : Nat) (v4 : Int32) (kk : Nat) (nn : Nat) (S : HS), X23 v1 v2 v3 v4 kk nn S → WS X 7 kk nn 23 [(0, .ref scb), (1, .ref v1), (2, .ref v2), (3, .ref v3), (4, .int v4)] [] S) {v1 : Nat} {v2 : Nat} {v3 : Nat} {v4 : Int32} {s0 : Nat} {s1 : Int32} {s2 : Int32} {s3 : Int32} {s4 : Int32} {s5 : Int32} {kk : Nat} {nn : Nat} {S : HS} (h : P_L_law_977 scL scx Q X23 v1 v2 v3 v4 s0 s1 s2 s3 s4 s5 kk nn S) : WS X 7 kk nn 977 [(0, .ref scb), (1, .ref v1), (2, .ref v2), (3, .ref v3), (4, .int v4)] [.int s5, .int s4, .int s3, .int s2, .int s1, .ref s0] S := by
  obtain ⟨o_s0, h⟩ := h
  obtain ⟨hk, hk2, h⟩ := h
  refine r_callVl0 (pc := 977) C (rest := []) (a := s0) o_s0 [.int s1, .int s2, .int s3, .int s4, .int s5] yV_X11_saves g_1631 (c_X11_saves h) dL_law_977 rfl rfl (Nat.le_of_ble_eq_true rfl) ⟨by decide, by decide⟩ ⟨hk, hk2⟩ ⟨rfl, rfl⟩ (fun x3 S1 h g2 => ?_)
  have h := h g2
  have o_s0 := gr_ob g2 o_s0
  refine r_pop2 (pc := 980) C dL_law_980 rfl ?_
  refine r_goto (pc := 981) C (tgt := 2341) dL_law_981 (by decide) ?_
  exact r_sub [0, 1, 2, 3, 4] rfl (T_L_law_2341 C E ht hn hX23 h)
def P_L_law_934 (scL : Nat) (scx : Nat → Int32) (Q : Int32 → HS → Prop) (X23 : Nat → Nat → Nat → Int32 → Nat → Nat → HS → Prop) (v1 : Nat) (v2 : Nat) (v3 : Nat) (v4 : Int32) (s0 : Nat) (s1 : Int32) (s2 : Int32) (s3 : Int32) (s4 : Int32) (s5 : Int32) (kk : Nat) (nn : Nat) (S : HS) : Prop := ob S s0 9 ∧ (kk ≤ rm_L_law.cells ∧ nn ≤ rm_L_law.slots ∧ (P_X9_saves s0 s1 s2 s3 s4 s5 (fun x3 S1 => Gr S S1 → (∀ x4 : Int32, x4 = v4 + (1 : Int32) → (vp_in x4 scL ∧ ∀ x6 : Int32, x6 = scx x4.toNatClampNeg → (∀ x7 : Int32, x7 = v4 + (2 : Int32) → (vp_in x7 scL ∧ ∀ x9 : Int32, x9 = scx x7.toNatClampNeg → (∀ x10 : Int32, x10 = v4 + (3 : Int32) → (vp_in x10 scL ∧ ∀ x12 : Int32, x12 = scx x10.toNatClampNeg → (∀ x13 : Int32, x13 = v4 + (4 : Int32) → (vp_in x13 scL ∧ ∀ x15 : Int32, x15 = scx x13.toNatClampNeg → (∀ x16 : Int32, x16 = v4 + (5 : Int32) → (vp_in x16 scL ∧ ∀ x18 : Int32, x18 = scx x16.toNatClampNeg → (((x18 = 0) → (P_L_law_977 scL scx Q X23 v1 v2 v3 v4 v2 x6 x9 x12 x15 (0 : Int32) kk nn S1)) ∧ ((¬ x18 = 0) → (P_L_law_977 scL scx Q X23 v1 v2 v3 v4 v2 x6 x9 x12 x15 (1 : Int32) kk nn S1)))))))))))))) S))
set_option maxRecDepth 20000 in
set_option maxHeartbeats 4000000 in
theorem T_L_law_934 {X : CX} {Q : Int32 → HS → Prop} {scb scL : Nat} {scx : Nat → Int32} (C : Cx X cL_law RL 7 rm_L_law) (E : LE X scb scL scx Q) (ht : LD X) (hn : True) {X23 : Nat → Nat → Nat → Int32 → Nat → Nat → HS → Prop} (hX23 : ∀ (v1 : Nat) (v2 : Nat) (v3 : Nat) (v4 : Int32) (kk : Nat) (nn : Nat) (S : HS), X23 v1 v2 v3 v4 kk nn S → WS X 7 kk nn 23 [(0, .ref scb), (1, .ref v1), (2, .ref v2), (3, .ref v3), (4, .int v4)] [] S) {v1 : Nat} {v2 : Nat} {v3 : Nat} {v4 : Int32} {s0 : Nat} {s1 : Int32} {s2 : Int32} {s3 : Int32} {s4 : Int32} {s5 : Int32} {kk : Nat} {nn : Nat} {S : HS} (h : P_L_law_934 scL scx Q X23 v1 v2 v3 v4 s0 s1 s2 s3 s4 s5 kk nn S) : WS X 7 kk nn 934 [(0, .ref scb), (1, .ref v1), (2, .ref v2), (3, .ref v3), (4, .int v4)] [.int s5, .int s4, .int s3, .int s2, .int s1, .ref s0] S := by
  obtain ⟨o_s0, h⟩ := h
  obtain ⟨hk, hk2, h⟩ := h
  refine r_callVl0 (pc := 934) C (rest := []) (a := s0) o_s0 [.int s1, .int s2, .int s3, .int s4, .int s5] yV_X9_saves g_766 (c_X9_saves h) dL_law_934 rfl rfl (Nat.le_of_ble_eq_true rfl) ⟨by decide, by decide⟩ ⟨hk, hk2⟩ ⟨rfl, rfl⟩ (fun x3 S1 h g2 => ?_)
  have h := h g2
  have o_s0 := gr_ob g2 o_s0
  refine r_pop2 (pc := 937) C dL_law_937 rfl ?_
  refine r_aload_n (pc := 938) C dL_law_938 2 rfl ?_
  refine r_aload_n (pc := 939) C dL_law_939 0 rfl ?_
  refine r_iload (pc := 940) C dL_law_940 4 rfl ?_
  refine r_iconst (pc := 942) C (v := (1 : Int32)) dL_law_942 (by decide) ?_
  refine r_iadd (pc := 943) C dL_law_943 ?_
  refine r_topi (fun x4 ex4 => ?_)
  have h := h x4 ex4
  obtain ⟨i5, h⟩ := h
  refine r_scLd (pc := 944) C E i5 dL_law_944 ?_
  refine r_topi (fun x6 ex6 => ?_)
  have h := h x6 ex6
  refine r_aload_n (pc := 945) C dL_law_945 0 rfl ?_
  refine r_iload (pc := 946) C dL_law_946 4 rfl ?_
  refine r_iconst (pc := 948) C (v := (2 : Int32)) dL_law_948 (by decide) ?_
  refine r_iadd (pc := 949) C dL_law_949 ?_
  refine r_topi (fun x7 ex7 => ?_)
  have h := h x7 ex7
  obtain ⟨i8, h⟩ := h
  refine r_scLd (pc := 950) C E i8 dL_law_950 ?_
  refine r_topi (fun x9 ex9 => ?_)
  have h := h x9 ex9
  refine r_aload_n (pc := 951) C dL_law_951 0 rfl ?_
  refine r_iload (pc := 952) C dL_law_952 4 rfl ?_
  refine r_iconst (pc := 954) C (v := (3 : Int32)) dL_law_954 (by decide) ?_
  refine r_iadd (pc := 955) C dL_law_955 ?_
  refine r_topi (fun x10 ex10 => ?_)
  have h := h x10 ex10
  obtain ⟨i11, h⟩ := h
  refine r_scLd (pc := 956) C E i11 dL_law_956 ?_
  refine r_topi (fun x12 ex12 => ?_)
  have h := h x12 ex12
  refine r_aload_n (pc := 957) C dL_law_957 0 rfl ?_
  refine r_iload (pc := 958) C dL_law_958 4 rfl ?_
  refine r_iconst (pc := 960) C (v := (4 : Int32)) dL_law_960 (by decide) ?_
  refine r_iadd (pc := 961) C dL_law_961 ?_
  refine r_topi (fun x13 ex13 => ?_)
  have h := h x13 ex13
  obtain ⟨i14, h⟩ := h
  refine r_scLd (pc := 962) C E i14 dL_law_962 ?_
  refine r_topi (fun x15 ex15 => ?_)
  have h := h x15 ex15
  refine r_aload_n (pc := 963) C dL_law_963 0 rfl ?_
  refine r_iload (pc := 964) C dL_law_964 4 rfl ?_
  refine r_iconst (pc := 966) C (v := (5 : Int32)) dL_law_966 (by decide) ?_
  refine r_iadd (pc := 967) C dL_law_967 ?_
  refine r_topi (fun x16 ex16 => ?_)
  have h := h x16 ex16
  obtain ⟨i17, h⟩ := h
  refine r_scLd (pc := 968) C E i17 dL_law_968 ?_
  refine r_topi (fun x18 ex18 => ?_)
  have h := h x18 ex18
  refine r_if_eq (pc := 969) C (tgt := 976) dL_law_969 (by decide) (fun c19 => ?_) (fun c19 => ?_)
  · have h := h.1 c19
    refine r_iconst (pc := 976) C (v := (0 : Int32)) dL_law_976 (by decide) ?_
    exact r_sub [0, 1, 2, 3, 4] rfl (T_L_law_977 C E ht hn hX23 h)
  · have h := h.2 c19
    refine r_iconst (pc := 972) C (v := (1 : Int32)) dL_law_972 (by decide) ?_
    refine r_goto (pc := 973) C (tgt := 977) dL_law_973 (by decide) ?_
    exact r_sub [0, 1, 2, 3, 4] rfl (T_L_law_977 C E ht hn hX23 h)
def P_L_law_895 (scL : Nat) (scx : Nat → Int32) (Q : Int32 → HS → Prop) (X23 : Nat → Nat → Nat → Int32 → Nat → Nat → HS → Prop) (v1 : Nat) (v2 : Nat) (v3 : Nat) (v4 : Int32) (kk : Nat) (nn : Nat) (S : HS) : Prop := ∀ x1 : Int32, x1 = v4 + (1 : Int32) → (vp_in x1 scL ∧ ∀ x3 : Int32, x3 = scx x1.toNatClampNeg → (∀ x4 : Int32, x4 = v4 + (2 : Int32) → (vp_in x4 scL ∧ ∀ x6 : Int32, x6 = scx x4.toNatClampNeg → (∀ x7 : Int32, x7 = v4 + (3 : Int32) → (vp_in x7 scL ∧ ∀ x9 : Int32, x9 = scx x7.toNatClampNeg → (∀ x10 : Int32, x10 = v4 + (4 : Int32) → (vp_in x10 scL ∧ ∀ x12 : Int32, x12 = scx x10.toNatClampNeg → (∀ x13 : Int32, x13 = v4 + (5 : Int32) → (vp_in x13 scL ∧ ∀ x15 : Int32, x15 = scx x13.toNatClampNeg → (((x15 = 0) → (P_L_law_934 scL scx Q X23 v1 v2 v3 v4 v1 x3 x6 x9 x12 (0 : Int32) kk nn S)) ∧ ((¬ x15 = 0) → (P_L_law_934 scL scx Q X23 v1 v2 v3 v4 v1 x3 x6 x9 x12 (1 : Int32) kk nn S))))))))))))
set_option maxRecDepth 20000 in
set_option maxHeartbeats 4000000 in
theorem T_L_law_895 {X : CX} {Q : Int32 → HS → Prop} {scb scL : Nat} {scx : Nat → Int32} (C : Cx X cL_law RL 7 rm_L_law) (E : LE X scb scL scx Q) (ht : LD X) (hn : True) {X23 : Nat → Nat → Nat → Int32 → Nat → Nat → HS → Prop} (hX23 : ∀ (v1 : Nat) (v2 : Nat) (v3 : Nat) (v4 : Int32) (kk : Nat) (nn : Nat) (S : HS), X23 v1 v2 v3 v4 kk nn S → WS X 7 kk nn 23 [(0, .ref scb), (1, .ref v1), (2, .ref v2), (3, .ref v3), (4, .int v4)] [] S) {v1 : Nat} {v2 : Nat} {v3 : Nat} {v4 : Int32} {kk : Nat} {nn : Nat} {S : HS} (h : P_L_law_895 scL scx Q X23 v1 v2 v3 v4 kk nn S) : WS X 7 kk nn 895 [(0, .ref scb), (1, .ref v1), (2, .ref v2), (3, .ref v3), (4, .int v4)] [] S := by
  refine r_aload_n (pc := 895) C dL_law_895 1 rfl ?_
  refine r_aload_n (pc := 896) C dL_law_896 0 rfl ?_
  refine r_iload (pc := 897) C dL_law_897 4 rfl ?_
  refine r_iconst (pc := 899) C (v := (1 : Int32)) dL_law_899 (by decide) ?_
  refine r_iadd (pc := 900) C dL_law_900 ?_
  refine r_topi (fun x1 ex1 => ?_)
  have h := h x1 ex1
  obtain ⟨i2, h⟩ := h
  refine r_scLd (pc := 901) C E i2 dL_law_901 ?_
  refine r_topi (fun x3 ex3 => ?_)
  have h := h x3 ex3
  refine r_aload_n (pc := 902) C dL_law_902 0 rfl ?_
  refine r_iload (pc := 903) C dL_law_903 4 rfl ?_
  refine r_iconst (pc := 905) C (v := (2 : Int32)) dL_law_905 (by decide) ?_
  refine r_iadd (pc := 906) C dL_law_906 ?_
  refine r_topi (fun x4 ex4 => ?_)
  have h := h x4 ex4
  obtain ⟨i5, h⟩ := h
  refine r_scLd (pc := 907) C E i5 dL_law_907 ?_
  refine r_topi (fun x6 ex6 => ?_)
  have h := h x6 ex6
  refine r_aload_n (pc := 908) C dL_law_908 0 rfl ?_
  refine r_iload (pc := 909) C dL_law_909 4 rfl ?_
  refine r_iconst (pc := 911) C (v := (3 : Int32)) dL_law_911 (by decide) ?_
  refine r_iadd (pc := 912) C dL_law_912 ?_
  refine r_topi (fun x7 ex7 => ?_)
  have h := h x7 ex7
  obtain ⟨i8, h⟩ := h
  refine r_scLd (pc := 913) C E i8 dL_law_913 ?_
  refine r_topi (fun x9 ex9 => ?_)
  have h := h x9 ex9
  refine r_aload_n (pc := 914) C dL_law_914 0 rfl ?_
  refine r_iload (pc := 915) C dL_law_915 4 rfl ?_
  refine r_iconst (pc := 917) C (v := (4 : Int32)) dL_law_917 (by decide) ?_
  refine r_iadd (pc := 918) C dL_law_918 ?_
  refine r_topi (fun x10 ex10 => ?_)
  have h := h x10 ex10
  obtain ⟨i11, h⟩ := h
  refine r_scLd (pc := 919) C E i11 dL_law_919 ?_
  refine r_topi (fun x12 ex12 => ?_)
  have h := h x12 ex12
  refine r_aload_n (pc := 920) C dL_law_920 0 rfl ?_
  refine r_iload (pc := 921) C dL_law_921 4 rfl ?_
  refine r_iconst (pc := 923) C (v := (5 : Int32)) dL_law_923 (by decide) ?_
  refine r_iadd (pc := 924) C dL_law_924 ?_
  refine r_topi (fun x13 ex13 => ?_)
  have h := h x13 ex13
  obtain ⟨i14, h⟩ := h
  refine r_scLd (pc := 925) C E i14 dL_law_925 ?_
  refine r_topi (fun x15 ex15 => ?_)
  have h := h x15 ex15
  refine r_if_eq (pc := 926) C (tgt := 933) dL_law_926 (by decide) (fun c16 => ?_) (fun c16 => ?_)
  · have h := h.1 c16
    refine r_iconst (pc := 933) C (v := (0 : Int32)) dL_law_933 (by decide) ?_
    exact r_sub [0, 1, 2, 3, 4] rfl (T_L_law_934 C E ht hn hX23 h)
  · have h := h.2 c16
    refine r_iconst (pc := 929) C (v := (1 : Int32)) dL_law_929 (by decide) ?_
    refine r_goto (pc := 930) C (tgt := 934) dL_law_930 (by decide) ?_
    exact r_sub [0, 1, 2, 3, 4] rfl (T_L_law_934 C E ht hn hX23 h)
def P_L_law_984 (scL : Nat) (scx : Nat → Int32) (Q : Int32 → HS → Prop) (X23 : Nat → Nat → Nat → Int32 → Nat → Nat → HS → Prop) (v1 : Nat) (v2 : Nat) (v3 : Nat) (v4 : Int32) (kk : Nat) (nn : Nat) (S : HS) : Prop := ∀ x1 : Int32, x1 = v4 + (1 : Int32) → (vp_in x1 scL ∧ ∀ x3 : Int32, x3 = scx x1.toNatClampNeg → (∀ x4 : Int32, x4 = v4 + (2 : Int32) → (vp_in x4 scL ∧ ∀ x6 : Int32, x6 = scx x4.toNatClampNeg → (∀ x7 : Int32, x7 = v4 + (3 : Int32) → (vp_in x7 scL ∧ ∀ x9 : Int32, x9 = scx x7.toNatClampNeg → (∀ x10 : Int32, x10 = v4 + (4 : Int32) → (vp_in x10 scL ∧ ∀ x12 : Int32, x12 = scx x10.toNatClampNeg → (ob S v1 9 ∧ (kk ≤ rm_L_law.cells ∧ nn ≤ rm_L_law.slots ∧ (P_X9_worst v1 x3 x6 x9 x12 (fun x15 S13 => Gr S S13 → (∀ x16 : Int32, x16 = v4 + (1 : Int32) → (vp_in x16 scL ∧ ∀ x18 : Int32, x18 = scx x16.toNatClampNeg → (∀ x19 : Int32, x19 = v4 + (2 : Int32) → (vp_in x19 scL ∧ ∀ x21 : Int32, x21 = scx x19.toNatClampNeg → (∀ x22 : Int32, x22 = v4 + (3 : Int32) → (vp_in x22 scL ∧ ∀ x24 : Int32, x24 = scx x22.toNatClampNeg → (∀ x25 : Int32, x25 = v4 + (4 : Int32) → (vp_in x25 scL ∧ ∀ x27 : Int32, x27 = scx x25.toNatClampNeg → (ob S13 v2 11 ∧ (kk ≤ rm_L_law.cells ∧ nn ≤ rm_L_law.slots ∧ (P_X11_worst v2 x18 x21 x24 x27 (fun x30 S28 => Gr S13 S28 → (P_L_law_2341 scL scx Q X23 v1 v2 v3 v4 kk nn S28)) S13)))))))))))) S))))))))))
set_option maxRecDepth 20000 in
set_option maxHeartbeats 4000000 in
theorem T_L_law_984 {X : CX} {Q : Int32 → HS → Prop} {scb scL : Nat} {scx : Nat → Int32} (C : Cx X cL_law RL 7 rm_L_law) (E : LE X scb scL scx Q) (ht : LD X) (hn : True) {X23 : Nat → Nat → Nat → Int32 → Nat → Nat → HS → Prop} (hX23 : ∀ (v1 : Nat) (v2 : Nat) (v3 : Nat) (v4 : Int32) (kk : Nat) (nn : Nat) (S : HS), X23 v1 v2 v3 v4 kk nn S → WS X 7 kk nn 23 [(0, .ref scb), (1, .ref v1), (2, .ref v2), (3, .ref v3), (4, .int v4)] [] S) {v1 : Nat} {v2 : Nat} {v3 : Nat} {v4 : Int32} {kk : Nat} {nn : Nat} {S : HS} (h : P_L_law_984 scL scx Q X23 v1 v2 v3 v4 kk nn S) : WS X 7 kk nn 984 [(0, .ref scb), (1, .ref v1), (2, .ref v2), (3, .ref v3), (4, .int v4)] [] S := by
  refine r_aload_n (pc := 984) C dL_law_984 1 rfl ?_
  refine r_aload_n (pc := 985) C dL_law_985 0 rfl ?_
  refine r_iload (pc := 986) C dL_law_986 4 rfl ?_
  refine r_iconst (pc := 988) C (v := (1 : Int32)) dL_law_988 (by decide) ?_
  refine r_iadd (pc := 989) C dL_law_989 ?_
  refine r_topi (fun x1 ex1 => ?_)
  have h := h x1 ex1
  obtain ⟨i2, h⟩ := h
  refine r_scLd (pc := 990) C E i2 dL_law_990 ?_
  refine r_topi (fun x3 ex3 => ?_)
  have h := h x3 ex3
  refine r_aload_n (pc := 991) C dL_law_991 0 rfl ?_
  refine r_iload (pc := 992) C dL_law_992 4 rfl ?_
  refine r_iconst (pc := 994) C (v := (2 : Int32)) dL_law_994 (by decide) ?_
  refine r_iadd (pc := 995) C dL_law_995 ?_
  refine r_topi (fun x4 ex4 => ?_)
  have h := h x4 ex4
  obtain ⟨i5, h⟩ := h
  refine r_scLd (pc := 996) C E i5 dL_law_996 ?_
  refine r_topi (fun x6 ex6 => ?_)
  have h := h x6 ex6
  refine r_aload_n (pc := 997) C dL_law_997 0 rfl ?_
  refine r_iload (pc := 998) C dL_law_998 4 rfl ?_
  refine r_iconst (pc := 1000) C (v := (3 : Int32)) dL_law_1000 (by decide) ?_
  refine r_iadd (pc := 1001) C dL_law_1001 ?_
  refine r_topi (fun x7 ex7 => ?_)
  have h := h x7 ex7
  obtain ⟨i8, h⟩ := h
  refine r_scLd (pc := 1002) C E i8 dL_law_1002 ?_
  refine r_topi (fun x9 ex9 => ?_)
  have h := h x9 ex9
  refine r_aload_n (pc := 1003) C dL_law_1003 0 rfl ?_
  refine r_iload (pc := 1004) C dL_law_1004 4 rfl ?_
  refine r_iconst (pc := 1006) C (v := (4 : Int32)) dL_law_1006 (by decide) ?_
  refine r_iadd (pc := 1007) C dL_law_1007 ?_
  refine r_topi (fun x10 ex10 => ?_)
  have h := h x10 ex10
  obtain ⟨i11, h⟩ := h
  refine r_scLd (pc := 1008) C E i11 dL_law_1008 ?_
  refine r_topi (fun x12 ex12 => ?_)
  have h := h x12 ex12
  obtain ⟨o_v1, h⟩ := h
  obtain ⟨hk, hk2, h⟩ := h
  refine r_callVi0 (pc := 1009) C (rest := []) (a := v1) o_v1 [.int x3, .int x6, .int x9, .int x12] yV_X9_worst g_775 (c_X9_worst h) dL_law_1009 rfl rfl (Nat.le_of_ble_eq_true rfl) ⟨by decide, by decide⟩ ⟨hk, hk2⟩ ⟨rfl, rfl⟩ (fun x15 S13 h g14 => ?_)
  have h := h g14
  have o_v1 := gr_ob g14 o_v1
  refine r_pop (pc := 1012) C dL_law_1012 rfl ?_
  refine r_aload_n (pc := 1013) C dL_law_1013 2 rfl ?_
  refine r_aload_n (pc := 1014) C dL_law_1014 0 rfl ?_
  refine r_iload (pc := 1015) C dL_law_1015 4 rfl ?_
  refine r_iconst (pc := 1017) C (v := (1 : Int32)) dL_law_1017 (by decide) ?_
  refine r_iadd (pc := 1018) C dL_law_1018 ?_
  refine r_topi (fun x16 ex16 => ?_)
  have h := h x16 ex16
  obtain ⟨i17, h⟩ := h
  refine r_scLd (pc := 1019) C E i17 dL_law_1019 ?_
  refine r_topi (fun x18 ex18 => ?_)
  have h := h x18 ex18
  refine r_aload_n (pc := 1020) C dL_law_1020 0 rfl ?_
  refine r_iload (pc := 1021) C dL_law_1021 4 rfl ?_
  refine r_iconst (pc := 1023) C (v := (2 : Int32)) dL_law_1023 (by decide) ?_
  refine r_iadd (pc := 1024) C dL_law_1024 ?_
  refine r_topi (fun x19 ex19 => ?_)
  have h := h x19 ex19
  obtain ⟨i20, h⟩ := h
  refine r_scLd (pc := 1025) C E i20 dL_law_1025 ?_
  refine r_topi (fun x21 ex21 => ?_)
  have h := h x21 ex21
  refine r_aload_n (pc := 1026) C dL_law_1026 0 rfl ?_
  refine r_iload (pc := 1027) C dL_law_1027 4 rfl ?_
  refine r_iconst (pc := 1029) C (v := (3 : Int32)) dL_law_1029 (by decide) ?_
  refine r_iadd (pc := 1030) C dL_law_1030 ?_
  refine r_topi (fun x22 ex22 => ?_)
  have h := h x22 ex22
  obtain ⟨i23, h⟩ := h
  refine r_scLd (pc := 1031) C E i23 dL_law_1031 ?_
  refine r_topi (fun x24 ex24 => ?_)
  have h := h x24 ex24
  refine r_aload_n (pc := 1032) C dL_law_1032 0 rfl ?_
  refine r_iload (pc := 1033) C dL_law_1033 4 rfl ?_
  refine r_iconst (pc := 1035) C (v := (4 : Int32)) dL_law_1035 (by decide) ?_
  refine r_iadd (pc := 1036) C dL_law_1036 ?_
  refine r_topi (fun x25 ex25 => ?_)
  have h := h x25 ex25
  obtain ⟨i26, h⟩ := h
  refine r_scLd (pc := 1037) C E i26 dL_law_1037 ?_
  refine r_topi (fun x27 ex27 => ?_)
  have h := h x27 ex27
  obtain ⟨o_v2, h⟩ := h
  obtain ⟨hk, hk2, h⟩ := h
  refine r_callVi0 (pc := 1038) C (rest := []) (a := v2) o_v2 [.int x18, .int x21, .int x24, .int x27] yV_X11_worst g_1635 (c_X11_worst h) dL_law_1038 rfl rfl (Nat.le_of_ble_eq_true rfl) ⟨by decide, by decide⟩ ⟨hk, hk2⟩ ⟨rfl, rfl⟩ (fun x30 S28 h g29 => ?_)
  have h := h g29
  have o_v1 := gr_ob g29 o_v1
  have o_v2 := gr_ob g29 o_v2
  refine r_pop (pc := 1041) C dL_law_1041 rfl ?_
  refine r_goto (pc := 1042) C (tgt := 2341) dL_law_1042 (by decide) ?_
  exact r_sub [0, 1, 2, 3, 4] rfl (T_L_law_2341 C E ht hn hX23 h)
def P_L_law_1045 (scL : Nat) (scx : Nat → Int32) (Q : Int32 → HS → Prop) (X23 : Nat → Nat → Nat → Int32 → Nat → Nat → HS → Prop) (v1 : Nat) (v2 : Nat) (v3 : Nat) (v4 : Int32) (kk : Nat) (nn : Nat) (S : HS) : Prop := ∀ x1 : Int32, x1 = v4 + (1 : Int32) → (vp_in x1 scL ∧ ∀ x3 : Int32, x3 = scx x1.toNatClampNeg → (∀ x4 : Int32, x4 = v4 + (2 : Int32) → (vp_in x4 scL ∧ ∀ x6 : Int32, x6 = scx x4.toNatClampNeg → (∀ x7 : Int32, x7 = v4 + (3 : Int32) → (vp_in x7 scL ∧ ∀ x9 : Int32, x9 = scx x7.toNatClampNeg → (∀ x10 : Int32, x10 = v4 + (4 : Int32) → (vp_in x10 scL ∧ ∀ x12 : Int32, x12 = scx x10.toNatClampNeg → (ob S v1 9 ∧ (kk ≤ rm_L_law.cells ∧ nn ≤ rm_L_law.slots ∧ (P_X9_even v1 x3 x6 x9 x12 (fun x15 S13 => Gr S S13 → (∀ x16 : Int32, x16 = v4 + (1 : Int32) → (vp_in x16 scL ∧ ∀ x18 : Int32, x18 = scx x16.toNatClampNeg → (∀ x19 : Int32, x19 = v4 + (2 : Int32) → (vp_in x19 scL ∧ ∀ x21 : Int32, x21 = scx x19.toNatClampNeg → (∀ x22 : Int32, x22 = v4 + (3 : Int32) → (vp_in x22 scL ∧ ∀ x24 : Int32, x24 = scx x22.toNatClampNeg → (∀ x25 : Int32, x25 = v4 + (4 : Int32) → (vp_in x25 scL ∧ ∀ x27 : Int32, x27 = scx x25.toNatClampNeg → (ob S13 v2 11 ∧ (kk ≤ rm_L_law.cells ∧ nn ≤ rm_L_law.slots ∧ (P_X11_even v2 x18 x21 x24 x27 (fun x30 S28 => Gr S13 S28 → (P_L_law_2341 scL scx Q X23 v1 v2 v3 v4 kk nn S28)) S13)))))))))))) S))))))))))
set_option maxRecDepth 20000 in
set_option maxHeartbeats 4000000 in
theorem T_L_law_1045 {X : CX} {Q : Int32 → HS → Prop} {scb scL : Nat} {scx : Nat → Int32} (C : Cx X cL_law RL 7 rm_L_law) (E : LE X scb scL scx Q) (ht : LD X) (hn : True) {X23 : Nat → Nat → Nat → Int32 → Nat → Nat → HS → Prop} (hX23 : ∀ (v1 : Nat) (v2 : Nat) (v3 : Nat) (v4 : Int32) (kk : Nat) (nn : Nat) (S : HS), X23 v1 v2 v3 v4 kk nn S → WS X 7 kk nn 23 [(0, .ref scb), (1, .ref v1), (2, .ref v2), (3, .ref v3), (4, .int v4)] [] S) {v1 : Nat} {v2 : Nat} {v3 : Nat} {v4 : Int32} {kk : Nat} {nn : Nat} {S : HS} (h : P_L_law_1045 scL scx Q X23 v1 v2 v3 v4 kk nn S) : WS X 7 kk nn 1045 [(0, .ref scb), (1, .ref v1), (2, .ref v2), (3, .ref v3), (4, .int v4)] [] S := by
  refine r_aload_n (pc := 1045) C dL_law_1045 1 rfl ?_
  refine r_aload_n (pc := 1046) C dL_law_1046 0 rfl ?_
  refine r_iload (pc := 1047) C dL_law_1047 4 rfl ?_
  refine r_iconst (pc := 1049) C (v := (1 : Int32)) dL_law_1049 (by decide) ?_
  refine r_iadd (pc := 1050) C dL_law_1050 ?_
  refine r_topi (fun x1 ex1 => ?_)
  have h := h x1 ex1
  obtain ⟨i2, h⟩ := h
  refine r_scLd (pc := 1051) C E i2 dL_law_1051 ?_
  refine r_topi (fun x3 ex3 => ?_)
  have h := h x3 ex3
  refine r_aload_n (pc := 1052) C dL_law_1052 0 rfl ?_
  refine r_iload (pc := 1053) C dL_law_1053 4 rfl ?_
  refine r_iconst (pc := 1055) C (v := (2 : Int32)) dL_law_1055 (by decide) ?_
  refine r_iadd (pc := 1056) C dL_law_1056 ?_
  refine r_topi (fun x4 ex4 => ?_)
  have h := h x4 ex4
  obtain ⟨i5, h⟩ := h
  refine r_scLd (pc := 1057) C E i5 dL_law_1057 ?_
  refine r_topi (fun x6 ex6 => ?_)
  have h := h x6 ex6
  refine r_aload_n (pc := 1058) C dL_law_1058 0 rfl ?_
  refine r_iload (pc := 1059) C dL_law_1059 4 rfl ?_
  refine r_iconst (pc := 1061) C (v := (3 : Int32)) dL_law_1061 (by decide) ?_
  refine r_iadd (pc := 1062) C dL_law_1062 ?_
  refine r_topi (fun x7 ex7 => ?_)
  have h := h x7 ex7
  obtain ⟨i8, h⟩ := h
  refine r_scLd (pc := 1063) C E i8 dL_law_1063 ?_
  refine r_topi (fun x9 ex9 => ?_)
  have h := h x9 ex9
  refine r_aload_n (pc := 1064) C dL_law_1064 0 rfl ?_
  refine r_iload (pc := 1065) C dL_law_1065 4 rfl ?_
  refine r_iconst (pc := 1067) C (v := (4 : Int32)) dL_law_1067 (by decide) ?_
  refine r_iadd (pc := 1068) C dL_law_1068 ?_
  refine r_topi (fun x10 ex10 => ?_)
  have h := h x10 ex10
  obtain ⟨i11, h⟩ := h
  refine r_scLd (pc := 1069) C E i11 dL_law_1069 ?_
  refine r_topi (fun x12 ex12 => ?_)
  have h := h x12 ex12
  obtain ⟨o_v1, h⟩ := h
  obtain ⟨hk, hk2, h⟩ := h
  refine r_callVi0 (pc := 1070) C (rest := []) (a := v1) o_v1 [.int x3, .int x6, .int x9, .int x12] yV_X9_even g_784 (c_X9_even h) dL_law_1070 rfl rfl (Nat.le_of_ble_eq_true rfl) ⟨by decide, by decide⟩ ⟨hk, hk2⟩ ⟨rfl, rfl⟩ (fun x15 S13 h g14 => ?_)
  have h := h g14
  have o_v1 := gr_ob g14 o_v1
  refine r_pop (pc := 1073) C dL_law_1073 rfl ?_
  refine r_aload_n (pc := 1074) C dL_law_1074 2 rfl ?_
  refine r_aload_n (pc := 1075) C dL_law_1075 0 rfl ?_
  refine r_iload (pc := 1076) C dL_law_1076 4 rfl ?_
  refine r_iconst (pc := 1078) C (v := (1 : Int32)) dL_law_1078 (by decide) ?_
  refine r_iadd (pc := 1079) C dL_law_1079 ?_
  refine r_topi (fun x16 ex16 => ?_)
  have h := h x16 ex16
  obtain ⟨i17, h⟩ := h
  refine r_scLd (pc := 1080) C E i17 dL_law_1080 ?_
  refine r_topi (fun x18 ex18 => ?_)
  have h := h x18 ex18
  refine r_aload_n (pc := 1081) C dL_law_1081 0 rfl ?_
  refine r_iload (pc := 1082) C dL_law_1082 4 rfl ?_
  refine r_iconst (pc := 1084) C (v := (2 : Int32)) dL_law_1084 (by decide) ?_
  refine r_iadd (pc := 1085) C dL_law_1085 ?_
  refine r_topi (fun x19 ex19 => ?_)
  have h := h x19 ex19
  obtain ⟨i20, h⟩ := h
  refine r_scLd (pc := 1086) C E i20 dL_law_1086 ?_
  refine r_topi (fun x21 ex21 => ?_)
  have h := h x21 ex21
  refine r_aload_n (pc := 1087) C dL_law_1087 0 rfl ?_
  refine r_iload (pc := 1088) C dL_law_1088 4 rfl ?_
  refine r_iconst (pc := 1090) C (v := (3 : Int32)) dL_law_1090 (by decide) ?_
  refine r_iadd (pc := 1091) C dL_law_1091 ?_
  refine r_topi (fun x22 ex22 => ?_)
  have h := h x22 ex22
  obtain ⟨i23, h⟩ := h
  refine r_scLd (pc := 1092) C E i23 dL_law_1092 ?_
  refine r_topi (fun x24 ex24 => ?_)
  have h := h x24 ex24
  refine r_aload_n (pc := 1093) C dL_law_1093 0 rfl ?_
  refine r_iload (pc := 1094) C dL_law_1094 4 rfl ?_
  refine r_iconst (pc := 1096) C (v := (4 : Int32)) dL_law_1096 (by decide) ?_
  refine r_iadd (pc := 1097) C dL_law_1097 ?_
  refine r_topi (fun x25 ex25 => ?_)
  have h := h x25 ex25
  obtain ⟨i26, h⟩ := h
  refine r_scLd (pc := 1098) C E i26 dL_law_1098 ?_
  refine r_topi (fun x27 ex27 => ?_)
  have h := h x27 ex27
  obtain ⟨o_v2, h⟩ := h
  obtain ⟨hk, hk2, h⟩ := h
  refine r_callVi0 (pc := 1099) C (rest := []) (a := v2) o_v2 [.int x18, .int x21, .int x24, .int x27] yV_X11_even g_1639 (c_X11_even h) dL_law_1099 rfl rfl (Nat.le_of_ble_eq_true rfl) ⟨by decide, by decide⟩ ⟨hk, hk2⟩ ⟨rfl, rfl⟩ (fun x30 S28 h g29 => ?_)
  have h := h g29
  have o_v1 := gr_ob g29 o_v1
  have o_v2 := gr_ob g29 o_v2
  refine r_pop (pc := 1102) C dL_law_1102 rfl ?_
  refine r_goto (pc := 1103) C (tgt := 2341) dL_law_1103 (by decide) ?_
  exact r_sub [0, 1, 2, 3, 4] rfl (T_L_law_2341 C E ht hn hX23 h)
def P_L_law_1176 (scL : Nat) (scx : Nat → Int32) (Q : Int32 → HS → Prop) (X23 : Nat → Nat → Nat → Int32 → Nat → Nat → HS → Prop) (v1 : Nat) (v2 : Nat) (v3 : Nat) (v4 : Int32) (s0 : Nat) (s1 : Int32) (s2 : Int32) (s3 : Int32) (s4 : Int32) (kk : Nat) (nn : Nat) (S : HS) : Prop := ob S s0 11 ∧ (kk ≤ rm_L_law.cells ∧ nn ≤ rm_L_law.slots ∧ (P_X11_round s0 s1 s2 s3 s4 (fun x3 S1 => Gr S S1 → (P_L_law_2341 scL scx Q X23 v1 v2 v3 v4 kk nn S1)) S))
set_option maxRecDepth 20000 in
set_option maxHeartbeats 4000000 in
theorem T_L_law_1176 {X : CX} {Q : Int32 → HS → Prop} {scb scL : Nat} {scx : Nat → Int32} (C : Cx X cL_law RL 7 rm_L_law) (E : LE X scb scL scx Q) (ht : LD X) (hn : True) {X23 : Nat → Nat → Nat → Int32 → Nat → Nat → HS → Prop} (hX23 : ∀ (v1 : Nat) (v2 : Nat) (v3 : Nat) (v4 : Int32) (kk : Nat) (nn : Nat) (S : HS), X23 v1 v2 v3 v4 kk nn S → WS X 7 kk nn 23 [(0, .ref scb), (1, .ref v1), (2, .ref v2), (3, .ref v3), (4, .int v4)] [] S) {v1 : Nat} {v2 : Nat} {v3 : Nat} {v4 : Int32} {s0 : Nat} {s1 : Int32} {s2 : Int32} {s3 : Int32} {s4 : Int32} {kk : Nat} {nn : Nat} {S : HS} (h : P_L_law_1176 scL scx Q X23 v1 v2 v3 v4 s0 s1 s2 s3 s4 kk nn S) : WS X 7 kk nn 1176 [(0, .ref scb), (1, .ref v1), (2, .ref v2), (3, .ref v3), (4, .int v4)] [.int s4, .int s3, .int s2, .int s1, .ref s0] S := by
  obtain ⟨o_s0, h⟩ := h
  obtain ⟨hk, hk2, h⟩ := h
  refine r_callVl0 (pc := 1176) C (rest := []) (a := s0) o_s0 [.int s1, .int s2, .int s3, .int s4] yV_X11_round g_1643 (c_X11_round h) dL_law_1176 rfl rfl (Nat.le_of_ble_eq_true rfl) ⟨by decide, by decide⟩ ⟨hk, hk2⟩ ⟨rfl, rfl⟩ (fun x3 S1 h g2 => ?_)
  have h := h g2
  have o_s0 := gr_ob g2 o_s0
  refine r_pop2 (pc := 1179) C dL_law_1179 rfl ?_
  refine r_goto (pc := 1180) C (tgt := 2341) dL_law_1180 (by decide) ?_
  exact r_sub [0, 1, 2, 3, 4] rfl (T_L_law_2341 C E ht hn hX23 h)
def P_L_law_1139 (scL : Nat) (scx : Nat → Int32) (Q : Int32 → HS → Prop) (X23 : Nat → Nat → Nat → Int32 → Nat → Nat → HS → Prop) (v1 : Nat) (v2 : Nat) (v3 : Nat) (v4 : Int32) (s0 : Nat) (s1 : Int32) (s2 : Int32) (s3 : Int32) (s4 : Int32) (kk : Nat) (nn : Nat) (S : HS) : Prop := ob S s0 9 ∧ (kk ≤ rm_L_law.cells ∧ nn ≤ rm_L_law.slots ∧ (P_X9_round s0 s1 s2 s3 s4 (fun x3 S1 => Gr S S1 → (∀ x4 : Int32, x4 = v4 + (1 : Int32) → (vp_in x4 scL ∧ ∀ x6 : Int32, x6 = scx x4.toNatClampNeg → (∀ x7 : Int32, x7 = v4 + (2 : Int32) → (vp_in x7 scL ∧ ∀ x9 : Int32, x9 = scx x7.toNatClampNeg → (∀ x10 : Int32, x10 = v4 + (3 : Int32) → (vp_in x10 scL ∧ ∀ x12 : Int32, x12 = scx x10.toNatClampNeg → (∀ x13 : Int32, x13 = v4 + (4 : Int32) → (vp_in x13 scL ∧ ∀ x15 : Int32, x15 = scx x13.toNatClampNeg → (((x15 = 0) → (P_L_law_1176 scL scx Q X23 v1 v2 v3 v4 v2 x6 x9 x12 (0 : Int32) kk nn S1)) ∧ ((¬ x15 = 0) → (P_L_law_1176 scL scx Q X23 v1 v2 v3 v4 v2 x6 x9 x12 (1 : Int32) kk nn S1)))))))))))) S))
set_option maxRecDepth 20000 in
set_option maxHeartbeats 4000000 in
theorem T_L_law_1139 {X : CX} {Q : Int32 → HS → Prop} {scb scL : Nat} {scx : Nat → Int32} (C : Cx X cL_law RL 7 rm_L_law) (E : LE X scb scL scx Q) (ht : LD X) (hn : True) {X23 : Nat → Nat → Nat → Int32 → Nat → Nat → HS → Prop} (hX23 : ∀ (v1 : Nat) (v2 : Nat) (v3 : Nat) (v4 : Int32) (kk : Nat) (nn : Nat) (S : HS), X23 v1 v2 v3 v4 kk nn S → WS X 7 kk nn 23 [(0, .ref scb), (1, .ref v1), (2, .ref v2), (3, .ref v3), (4, .int v4)] [] S) {v1 : Nat} {v2 : Nat} {v3 : Nat} {v4 : Int32} {s0 : Nat} {s1 : Int32} {s2 : Int32} {s3 : Int32} {s4 : Int32} {kk : Nat} {nn : Nat} {S : HS} (h : P_L_law_1139 scL scx Q X23 v1 v2 v3 v4 s0 s1 s2 s3 s4 kk nn S) : WS X 7 kk nn 1139 [(0, .ref scb), (1, .ref v1), (2, .ref v2), (3, .ref v3), (4, .int v4)] [.int s4, .int s3, .int s2, .int s1, .ref s0] S := by
  obtain ⟨o_s0, h⟩ := h
  obtain ⟨hk, hk2, h⟩ := h
  refine r_callVl0 (pc := 1139) C (rest := []) (a := s0) o_s0 [.int s1, .int s2, .int s3, .int s4] yV_X9_round g_788 (c_X9_round h) dL_law_1139 rfl rfl (Nat.le_of_ble_eq_true rfl) ⟨by decide, by decide⟩ ⟨hk, hk2⟩ ⟨rfl, rfl⟩ (fun x3 S1 h g2 => ?_)
  have h := h g2
  have o_s0 := gr_ob g2 o_s0
  refine r_pop2 (pc := 1142) C dL_law_1142 rfl ?_
  refine r_aload_n (pc := 1143) C dL_law_1143 2 rfl ?_
  refine r_aload_n (pc := 1144) C dL_law_1144 0 rfl ?_
  refine r_iload (pc := 1145) C dL_law_1145 4 rfl ?_
  refine r_iconst (pc := 1147) C (v := (1 : Int32)) dL_law_1147 (by decide) ?_
  refine r_iadd (pc := 1148) C dL_law_1148 ?_
  refine r_topi (fun x4 ex4 => ?_)
  have h := h x4 ex4
  obtain ⟨i5, h⟩ := h
  refine r_scLd (pc := 1149) C E i5 dL_law_1149 ?_
  refine r_topi (fun x6 ex6 => ?_)
  have h := h x6 ex6
  refine r_aload_n (pc := 1150) C dL_law_1150 0 rfl ?_
  refine r_iload (pc := 1151) C dL_law_1151 4 rfl ?_
  refine r_iconst (pc := 1153) C (v := (2 : Int32)) dL_law_1153 (by decide) ?_
  refine r_iadd (pc := 1154) C dL_law_1154 ?_
  refine r_topi (fun x7 ex7 => ?_)
  have h := h x7 ex7
  obtain ⟨i8, h⟩ := h
  refine r_scLd (pc := 1155) C E i8 dL_law_1155 ?_
  refine r_topi (fun x9 ex9 => ?_)
  have h := h x9 ex9
  refine r_aload_n (pc := 1156) C dL_law_1156 0 rfl ?_
  refine r_iload (pc := 1157) C dL_law_1157 4 rfl ?_
  refine r_iconst (pc := 1159) C (v := (3 : Int32)) dL_law_1159 (by decide) ?_
  refine r_iadd (pc := 1160) C dL_law_1160 ?_
  refine r_topi (fun x10 ex10 => ?_)
  have h := h x10 ex10
  obtain ⟨i11, h⟩ := h
  refine r_scLd (pc := 1161) C E i11 dL_law_1161 ?_
  refine r_topi (fun x12 ex12 => ?_)
  have h := h x12 ex12
  refine r_aload_n (pc := 1162) C dL_law_1162 0 rfl ?_
  refine r_iload (pc := 1163) C dL_law_1163 4 rfl ?_
  refine r_iconst (pc := 1165) C (v := (4 : Int32)) dL_law_1165 (by decide) ?_
  refine r_iadd (pc := 1166) C dL_law_1166 ?_
  refine r_topi (fun x13 ex13 => ?_)
  have h := h x13 ex13
  obtain ⟨i14, h⟩ := h
  refine r_scLd (pc := 1167) C E i14 dL_law_1167 ?_
  refine r_topi (fun x15 ex15 => ?_)
  have h := h x15 ex15
  refine r_if_eq (pc := 1168) C (tgt := 1175) dL_law_1168 (by decide) (fun c16 => ?_) (fun c16 => ?_)
  · have h := h.1 c16
    refine r_iconst (pc := 1175) C (v := (0 : Int32)) dL_law_1175 (by decide) ?_
    exact r_sub [0, 1, 2, 3, 4] rfl (T_L_law_1176 C E ht hn hX23 h)
  · have h := h.2 c16
    refine r_iconst (pc := 1171) C (v := (1 : Int32)) dL_law_1171 (by decide) ?_
    refine r_goto (pc := 1172) C (tgt := 1176) dL_law_1172 (by decide) ?_
    exact r_sub [0, 1, 2, 3, 4] rfl (T_L_law_1176 C E ht hn hX23 h)
def P_L_law_1106 (scL : Nat) (scx : Nat → Int32) (Q : Int32 → HS → Prop) (X23 : Nat → Nat → Nat → Int32 → Nat → Nat → HS → Prop) (v1 : Nat) (v2 : Nat) (v3 : Nat) (v4 : Int32) (kk : Nat) (nn : Nat) (S : HS) : Prop := ∀ x1 : Int32, x1 = v4 + (1 : Int32) → (vp_in x1 scL ∧ ∀ x3 : Int32, x3 = scx x1.toNatClampNeg → (∀ x4 : Int32, x4 = v4 + (2 : Int32) → (vp_in x4 scL ∧ ∀ x6 : Int32, x6 = scx x4.toNatClampNeg → (∀ x7 : Int32, x7 = v4 + (3 : Int32) → (vp_in x7 scL ∧ ∀ x9 : Int32, x9 = scx x7.toNatClampNeg → (∀ x10 : Int32, x10 = v4 + (4 : Int32) → (vp_in x10 scL ∧ ∀ x12 : Int32, x12 = scx x10.toNatClampNeg → (((x12 = 0) → (P_L_law_1139 scL scx Q X23 v1 v2 v3 v4 v1 x3 x6 x9 (0 : Int32) kk nn S)) ∧ ((¬ x12 = 0) → (P_L_law_1139 scL scx Q X23 v1 v2 v3 v4 v1 x3 x6 x9 (1 : Int32) kk nn S))))))))))
set_option maxRecDepth 20000 in
set_option maxHeartbeats 4000000 in
theorem T_L_law_1106 {X : CX} {Q : Int32 → HS → Prop} {scb scL : Nat} {scx : Nat → Int32} (C : Cx X cL_law RL 7 rm_L_law) (E : LE X scb scL scx Q) (ht : LD X) (hn : True) {X23 : Nat → Nat → Nat → Int32 → Nat → Nat → HS → Prop} (hX23 : ∀ (v1 : Nat) (v2 : Nat) (v3 : Nat) (v4 : Int32) (kk : Nat) (nn : Nat) (S : HS), X23 v1 v2 v3 v4 kk nn S → WS X 7 kk nn 23 [(0, .ref scb), (1, .ref v1), (2, .ref v2), (3, .ref v3), (4, .int v4)] [] S) {v1 : Nat} {v2 : Nat} {v3 : Nat} {v4 : Int32} {kk : Nat} {nn : Nat} {S : HS} (h : P_L_law_1106 scL scx Q X23 v1 v2 v3 v4 kk nn S) : WS X 7 kk nn 1106 [(0, .ref scb), (1, .ref v1), (2, .ref v2), (3, .ref v3), (4, .int v4)] [] S := by
  refine r_aload_n (pc := 1106) C dL_law_1106 1 rfl ?_
  refine r_aload_n (pc := 1107) C dL_law_1107 0 rfl ?_
  refine r_iload (pc := 1108) C dL_law_1108 4 rfl ?_
  refine r_iconst (pc := 1110) C (v := (1 : Int32)) dL_law_1110 (by decide) ?_
  refine r_iadd (pc := 1111) C dL_law_1111 ?_
  refine r_topi (fun x1 ex1 => ?_)
  have h := h x1 ex1
  obtain ⟨i2, h⟩ := h
  refine r_scLd (pc := 1112) C E i2 dL_law_1112 ?_
  refine r_topi (fun x3 ex3 => ?_)
  have h := h x3 ex3
  refine r_aload_n (pc := 1113) C dL_law_1113 0 rfl ?_
  refine r_iload (pc := 1114) C dL_law_1114 4 rfl ?_
  refine r_iconst (pc := 1116) C (v := (2 : Int32)) dL_law_1116 (by decide) ?_
  refine r_iadd (pc := 1117) C dL_law_1117 ?_
  refine r_topi (fun x4 ex4 => ?_)
  have h := h x4 ex4
  obtain ⟨i5, h⟩ := h
  refine r_scLd (pc := 1118) C E i5 dL_law_1118 ?_
  refine r_topi (fun x6 ex6 => ?_)
  have h := h x6 ex6
  refine r_aload_n (pc := 1119) C dL_law_1119 0 rfl ?_
  refine r_iload (pc := 1120) C dL_law_1120 4 rfl ?_
  refine r_iconst (pc := 1122) C (v := (3 : Int32)) dL_law_1122 (by decide) ?_
  refine r_iadd (pc := 1123) C dL_law_1123 ?_
  refine r_topi (fun x7 ex7 => ?_)
  have h := h x7 ex7
  obtain ⟨i8, h⟩ := h
  refine r_scLd (pc := 1124) C E i8 dL_law_1124 ?_
  refine r_topi (fun x9 ex9 => ?_)
  have h := h x9 ex9
  refine r_aload_n (pc := 1125) C dL_law_1125 0 rfl ?_
  refine r_iload (pc := 1126) C dL_law_1126 4 rfl ?_
  refine r_iconst (pc := 1128) C (v := (4 : Int32)) dL_law_1128 (by decide) ?_
  refine r_iadd (pc := 1129) C dL_law_1129 ?_
  refine r_topi (fun x10 ex10 => ?_)
  have h := h x10 ex10
  obtain ⟨i11, h⟩ := h
  refine r_scLd (pc := 1130) C E i11 dL_law_1130 ?_
  refine r_topi (fun x12 ex12 => ?_)
  have h := h x12 ex12
  refine r_if_eq (pc := 1131) C (tgt := 1138) dL_law_1131 (by decide) (fun c13 => ?_) (fun c13 => ?_)
  · have h := h.1 c13
    refine r_iconst (pc := 1138) C (v := (0 : Int32)) dL_law_1138 (by decide) ?_
    exact r_sub [0, 1, 2, 3, 4] rfl (T_L_law_1139 C E ht hn hX23 h)
  · have h := h.2 c13
    refine r_iconst (pc := 1134) C (v := (1 : Int32)) dL_law_1134 (by decide) ?_
    refine r_goto (pc := 1135) C (tgt := 1139) dL_law_1135 (by decide) ?_
    exact r_sub [0, 1, 2, 3, 4] rfl (T_L_law_1139 C E ht hn hX23 h)
def P_L_law_1183 (scL : Nat) (scx : Nat → Int32) (Q : Int32 → HS → Prop) (X23 : Nat → Nat → Nat → Int32 → Nat → Nat → HS → Prop) (v1 : Nat) (v2 : Nat) (v3 : Nat) (v4 : Int32) (kk : Nat) (nn : Nat) (S : HS) : Prop := ∀ x1 : Int32, x1 = v4 + (1 : Int32) → (vp_in x1 scL ∧ ∀ x3 : Int32, x3 = scx x1.toNatClampNeg → (∀ x4 : Int32, x4 = v4 + (2 : Int32) → (vp_in x4 scL ∧ ∀ x6 : Int32, x6 = scx x4.toNatClampNeg → (∀ x7 : Int32, x7 = v4 + (3 : Int32) → (vp_in x7 scL ∧ ∀ x9 : Int32, x9 = scx x7.toNatClampNeg → (ob S v1 9 ∧ (kk ≤ rm_L_law.cells ∧ nn ≤ rm_L_law.slots ∧ (P_X9_driest v1 x3 x6 x9 (fun x12 S10 => Gr S S10 → (∀ x13 : Int32, x13 = v4 + (1 : Int32) → (vp_in x13 scL ∧ ∀ x15 : Int32, x15 = scx x13.toNatClampNeg → (∀ x16 : Int32, x16 = v4 + (2 : Int32) → (vp_in x16 scL ∧ ∀ x18 : Int32, x18 = scx x16.toNatClampNeg → (∀ x19 : Int32, x19 = v4 + (3 : Int32) → (vp_in x19 scL ∧ ∀ x21 : Int32, x21 = scx x19.toNatClampNeg → (ob S10 v2 11 ∧ (kk ≤ rm_L_law.cells ∧ nn ≤ rm_L_law.slots ∧ (P_X11_driest v2 x15 x18 x21 (fun x24 S22 => Gr S10 S22 → (P_L_law_2341 scL scx Q X23 v1 v2 v3 v4 kk nn S22)) S10)))))))))) S))))))))
set_option maxRecDepth 20000 in
set_option maxHeartbeats 4000000 in
theorem T_L_law_1183 {X : CX} {Q : Int32 → HS → Prop} {scb scL : Nat} {scx : Nat → Int32} (C : Cx X cL_law RL 7 rm_L_law) (E : LE X scb scL scx Q) (ht : LD X) (hn : True) {X23 : Nat → Nat → Nat → Int32 → Nat → Nat → HS → Prop} (hX23 : ∀ (v1 : Nat) (v2 : Nat) (v3 : Nat) (v4 : Int32) (kk : Nat) (nn : Nat) (S : HS), X23 v1 v2 v3 v4 kk nn S → WS X 7 kk nn 23 [(0, .ref scb), (1, .ref v1), (2, .ref v2), (3, .ref v3), (4, .int v4)] [] S) {v1 : Nat} {v2 : Nat} {v3 : Nat} {v4 : Int32} {kk : Nat} {nn : Nat} {S : HS} (h : P_L_law_1183 scL scx Q X23 v1 v2 v3 v4 kk nn S) : WS X 7 kk nn 1183 [(0, .ref scb), (1, .ref v1), (2, .ref v2), (3, .ref v3), (4, .int v4)] [] S := by
  refine r_aload_n (pc := 1183) C dL_law_1183 1 rfl ?_
  refine r_aload_n (pc := 1184) C dL_law_1184 0 rfl ?_
  refine r_iload (pc := 1185) C dL_law_1185 4 rfl ?_
  refine r_iconst (pc := 1187) C (v := (1 : Int32)) dL_law_1187 (by decide) ?_
  refine r_iadd (pc := 1188) C dL_law_1188 ?_
  refine r_topi (fun x1 ex1 => ?_)
  have h := h x1 ex1
  obtain ⟨i2, h⟩ := h
  refine r_scLd (pc := 1189) C E i2 dL_law_1189 ?_
  refine r_topi (fun x3 ex3 => ?_)
  have h := h x3 ex3
  refine r_aload_n (pc := 1190) C dL_law_1190 0 rfl ?_
  refine r_iload (pc := 1191) C dL_law_1191 4 rfl ?_
  refine r_iconst (pc := 1193) C (v := (2 : Int32)) dL_law_1193 (by decide) ?_
  refine r_iadd (pc := 1194) C dL_law_1194 ?_
  refine r_topi (fun x4 ex4 => ?_)
  have h := h x4 ex4
  obtain ⟨i5, h⟩ := h
  refine r_scLd (pc := 1195) C E i5 dL_law_1195 ?_
  refine r_topi (fun x6 ex6 => ?_)
  have h := h x6 ex6
  refine r_aload_n (pc := 1196) C dL_law_1196 0 rfl ?_
  refine r_iload (pc := 1197) C dL_law_1197 4 rfl ?_
  refine r_iconst (pc := 1199) C (v := (3 : Int32)) dL_law_1199 (by decide) ?_
  refine r_iadd (pc := 1200) C dL_law_1200 ?_
  refine r_topi (fun x7 ex7 => ?_)
  have h := h x7 ex7
  obtain ⟨i8, h⟩ := h
  refine r_scLd (pc := 1201) C E i8 dL_law_1201 ?_
  refine r_topi (fun x9 ex9 => ?_)
  have h := h x9 ex9
  obtain ⟨o_v1, h⟩ := h
  obtain ⟨hk, hk2, h⟩ := h
  refine r_callVi0 (pc := 1202) C (rest := []) (a := v1) o_v1 [.int x3, .int x6, .int x9] yV_X9_driest g_792 (c_X9_driest h) dL_law_1202 rfl rfl (Nat.le_of_ble_eq_true rfl) ⟨by decide, by decide⟩ ⟨hk, hk2⟩ ⟨rfl, rfl⟩ (fun x12 S10 h g11 => ?_)
  have h := h g11
  have o_v1 := gr_ob g11 o_v1
  refine r_pop (pc := 1205) C dL_law_1205 rfl ?_
  refine r_aload_n (pc := 1206) C dL_law_1206 2 rfl ?_
  refine r_aload_n (pc := 1207) C dL_law_1207 0 rfl ?_
  refine r_iload (pc := 1208) C dL_law_1208 4 rfl ?_
  refine r_iconst (pc := 1210) C (v := (1 : Int32)) dL_law_1210 (by decide) ?_
  refine r_iadd (pc := 1211) C dL_law_1211 ?_
  refine r_topi (fun x13 ex13 => ?_)
  have h := h x13 ex13
  obtain ⟨i14, h⟩ := h
  refine r_scLd (pc := 1212) C E i14 dL_law_1212 ?_
  refine r_topi (fun x15 ex15 => ?_)
  have h := h x15 ex15
  refine r_aload_n (pc := 1213) C dL_law_1213 0 rfl ?_
  refine r_iload (pc := 1214) C dL_law_1214 4 rfl ?_
  refine r_iconst (pc := 1216) C (v := (2 : Int32)) dL_law_1216 (by decide) ?_
  refine r_iadd (pc := 1217) C dL_law_1217 ?_
  refine r_topi (fun x16 ex16 => ?_)
  have h := h x16 ex16
  obtain ⟨i17, h⟩ := h
  refine r_scLd (pc := 1218) C E i17 dL_law_1218 ?_
  refine r_topi (fun x18 ex18 => ?_)
  have h := h x18 ex18
  refine r_aload_n (pc := 1219) C dL_law_1219 0 rfl ?_
  refine r_iload (pc := 1220) C dL_law_1220 4 rfl ?_
  refine r_iconst (pc := 1222) C (v := (3 : Int32)) dL_law_1222 (by decide) ?_
  refine r_iadd (pc := 1223) C dL_law_1223 ?_
  refine r_topi (fun x19 ex19 => ?_)
  have h := h x19 ex19
  obtain ⟨i20, h⟩ := h
  refine r_scLd (pc := 1224) C E i20 dL_law_1224 ?_
  refine r_topi (fun x21 ex21 => ?_)
  have h := h x21 ex21
  obtain ⟨o_v2, h⟩ := h
  obtain ⟨hk, hk2, h⟩ := h
  refine r_callVi0 (pc := 1225) C (rest := []) (a := v2) o_v2 [.int x15, .int x18, .int x21] yV_X11_driest g_1651 (c_X11_driest h) dL_law_1225 rfl rfl (Nat.le_of_ble_eq_true rfl) ⟨by decide, by decide⟩ ⟨hk, hk2⟩ ⟨rfl, rfl⟩ (fun x24 S22 h g23 => ?_)
  have h := h g23
  have o_v1 := gr_ob g23 o_v1
  have o_v2 := gr_ob g23 o_v2
  refine r_pop (pc := 1228) C dL_law_1228 rfl ?_
  refine r_goto (pc := 1229) C (tgt := 2341) dL_law_1229 (by decide) ?_
  exact r_sub [0, 1, 2, 3, 4] rfl (T_L_law_2341 C E ht hn hX23 h)
def P_L_law_1342 (scL : Nat) (scx : Nat → Int32) (Q : Int32 → HS → Prop) (X23 : Nat → Nat → Nat → Int32 → Nat → Nat → HS → Prop) (v1 : Nat) (v2 : Nat) (v3 : Nat) (v4 : Int32) (s0 : Nat) (s1 : Int32) (s2 : Int32) (s3 : Int32) (s4 : Int32) (s5 : Int32) (s6 : Int32) (s7 : Int32) (kk : Nat) (nn : Nat) (S : HS) : Prop := ob S s0 11 ∧ (kk ≤ rm_L_law.cells ∧ nn ≤ rm_L_law.slots ∧ (P_X11_lee s0 s1 s2 s3 s4 s5 s6 s7 (fun x3 S1 => Gr S S1 → (P_L_law_2341 scL scx Q X23 v1 v2 v3 v4 kk nn S1)) S))
set_option maxRecDepth 20000 in
set_option maxHeartbeats 4000000 in
theorem T_L_law_1342 {X : CX} {Q : Int32 → HS → Prop} {scb scL : Nat} {scx : Nat → Int32} (C : Cx X cL_law RL 7 rm_L_law) (E : LE X scb scL scx Q) (ht : LD X) (hn : True) {X23 : Nat → Nat → Nat → Int32 → Nat → Nat → HS → Prop} (hX23 : ∀ (v1 : Nat) (v2 : Nat) (v3 : Nat) (v4 : Int32) (kk : Nat) (nn : Nat) (S : HS), X23 v1 v2 v3 v4 kk nn S → WS X 7 kk nn 23 [(0, .ref scb), (1, .ref v1), (2, .ref v2), (3, .ref v3), (4, .int v4)] [] S) {v1 : Nat} {v2 : Nat} {v3 : Nat} {v4 : Int32} {s0 : Nat} {s1 : Int32} {s2 : Int32} {s3 : Int32} {s4 : Int32} {s5 : Int32} {s6 : Int32} {s7 : Int32} {kk : Nat} {nn : Nat} {S : HS} (h : P_L_law_1342 scL scx Q X23 v1 v2 v3 v4 s0 s1 s2 s3 s4 s5 s6 s7 kk nn S) : WS X 7 kk nn 1342 [(0, .ref scb), (1, .ref v1), (2, .ref v2), (3, .ref v3), (4, .int v4)] [.int s7, .int s6, .int s5, .int s4, .int s3, .int s2, .int s1, .ref s0] S := by
  obtain ⟨o_s0, h⟩ := h
  obtain ⟨hk, hk2, h⟩ := h
  refine r_callVl0 (pc := 1342) C (rest := []) (a := s0) o_s0 [.int s1, .int s2, .int s3, .int s4, .int s5, .int s6, .int s7] yV_X11_lee g_1655 (c_X11_lee h) dL_law_1342 rfl rfl (Nat.le_of_ble_eq_true rfl) ⟨by decide, by decide⟩ ⟨hk, hk2⟩ ⟨rfl, rfl⟩ (fun x3 S1 h g2 => ?_)
  have h := h g2
  have o_s0 := gr_ob g2 o_s0
  refine r_pop2 (pc := 1345) C dL_law_1345 rfl ?_
  refine r_goto (pc := 1346) C (tgt := 2341) dL_law_1346 (by decide) ?_
  exact r_sub [0, 1, 2, 3, 4] rfl (T_L_law_2341 C E ht hn hX23 h)
end
section
def P_L_law_1285 (scL : Nat) (scx : Nat → Int32) (Q : Int32 → HS → Prop) (X23 : Nat → Nat → Nat → Int32 → Nat → Nat → HS → Prop) (v1 : Nat) (v2 : Nat) (v3 : Nat) (v4 : Int32) (s0 : Nat) (s1 : Int32) (s2 : Int32) (s3 : Int32) (s4 : Int32) (s5 : Int32) (s6 : Int32) (s7 : Int32) (kk : Nat) (nn : Nat) (S : HS) : Prop := ob S s0 9 ∧ (kk ≤ rm_L_law.cells ∧ nn ≤ rm_L_law.slots ∧ (P_X9_lee s0 s1 s2 s3 s4 s5 s6 s7 (fun x3 S1 => Gr S S1 → (∀ x4 : Int32, x4 = v4 + (1 : Int32) → (vp_in x4 scL ∧ ∀ x6 : Int32, x6 = scx x4.toNatClampNeg → (∀ x7 : Int32, x7 = v4 + (2 : Int32) → (vp_in x7 scL ∧ ∀ x9 : Int32, x9 = scx x7.toNatClampNeg → (∀ x10 : Int32, x10 = v4 + (3 : Int32) → (vp_in x10 scL ∧ ∀ x12 : Int32, x12 = scx x10.toNatClampNeg → (∀ x13 : Int32, x13 = v4 + (4 : Int32) → (vp_in x13 scL ∧ ∀ x15 : Int32, x15 = scx x13.toNatClampNeg → (∀ x16 : Int32, x16 = v4 + (5 : Int32) → (vp_in x16 scL ∧ ∀ x18 : Int32, x18 = scx x16.toNatClampNeg → (∀ x19 : Int32, x19 = v4 + (6 : Int32) → (vp_in x19 scL ∧ ∀ x21 : Int32, x21 = scx x19.toNatClampNeg → (∀ x22 : Int32, x22 = v4 + (7 : Int32) → (vp_in x22 scL ∧ ∀ x24 : Int32, x24 = scx x22.toNatClampNeg → (((x24 = 0) → (P_L_law_1342 scL scx Q X23 v1 v2 v3 v4 v2 x6 x9 x12 x15 x18 x21 (0 : Int32) kk nn S1)) ∧ ((¬ x24 = 0) → (P_L_law_1342 scL scx Q X23 v1 v2 v3 v4 v2 x6 x9 x12 x15 x18 x21 (1 : Int32) kk nn S1)))))))))))))))))) S))
set_option maxRecDepth 20000 in
set_option maxHeartbeats 4000000 in
theorem T_L_law_1285 {X : CX} {Q : Int32 → HS → Prop} {scb scL : Nat} {scx : Nat → Int32} (C : Cx X cL_law RL 7 rm_L_law) (E : LE X scb scL scx Q) (ht : LD X) (hn : True) {X23 : Nat → Nat → Nat → Int32 → Nat → Nat → HS → Prop} (hX23 : ∀ (v1 : Nat) (v2 : Nat) (v3 : Nat) (v4 : Int32) (kk : Nat) (nn : Nat) (S : HS), X23 v1 v2 v3 v4 kk nn S → WS X 7 kk nn 23 [(0, .ref scb), (1, .ref v1), (2, .ref v2), (3, .ref v3), (4, .int v4)] [] S) {v1 : Nat} {v2 : Nat} {v3 : Nat} {v4 : Int32} {s0 : Nat} {s1 : Int32} {s2 : Int32} {s3 : Int32} {s4 : Int32} {s5 : Int32} {s6 : Int32} {s7 : Int32} {kk : Nat} {nn : Nat} {S : HS} (h : P_L_law_1285 scL scx Q X23 v1 v2 v3 v4 s0 s1 s2 s3 s4 s5 s6 s7 kk nn S) : WS X 7 kk nn 1285 [(0, .ref scb), (1, .ref v1), (2, .ref v2), (3, .ref v3), (4, .int v4)] [.int s7, .int s6, .int s5, .int s4, .int s3, .int s2, .int s1, .ref s0] S := by
  obtain ⟨o_s0, h⟩ := h
  obtain ⟨hk, hk2, h⟩ := h
  refine r_callVl0 (pc := 1285) C (rest := []) (a := s0) o_s0 [.int s1, .int s2, .int s3, .int s4, .int s5, .int s6, .int s7] yV_X9_lee g_797 (c_X9_lee h) dL_law_1285 rfl rfl (Nat.le_of_ble_eq_true rfl) ⟨by decide, by decide⟩ ⟨hk, hk2⟩ ⟨rfl, rfl⟩ (fun x3 S1 h g2 => ?_)
  have h := h g2
  have o_s0 := gr_ob g2 o_s0
  refine r_pop2 (pc := 1288) C dL_law_1288 rfl ?_
  refine r_aload_n (pc := 1289) C dL_law_1289 2 rfl ?_
  refine r_aload_n (pc := 1290) C dL_law_1290 0 rfl ?_
  refine r_iload (pc := 1291) C dL_law_1291 4 rfl ?_
  refine r_iconst (pc := 1293) C (v := (1 : Int32)) dL_law_1293 (by decide) ?_
  refine r_iadd (pc := 1294) C dL_law_1294 ?_
  refine r_topi (fun x4 ex4 => ?_)
  have h := h x4 ex4
  obtain ⟨i5, h⟩ := h
  refine r_scLd (pc := 1295) C E i5 dL_law_1295 ?_
  refine r_topi (fun x6 ex6 => ?_)
  have h := h x6 ex6
  refine r_aload_n (pc := 1296) C dL_law_1296 0 rfl ?_
  refine r_iload (pc := 1297) C dL_law_1297 4 rfl ?_
  refine r_iconst (pc := 1299) C (v := (2 : Int32)) dL_law_1299 (by decide) ?_
  refine r_iadd (pc := 1300) C dL_law_1300 ?_
  refine r_topi (fun x7 ex7 => ?_)
  have h := h x7 ex7
  obtain ⟨i8, h⟩ := h
  refine r_scLd (pc := 1301) C E i8 dL_law_1301 ?_
  refine r_topi (fun x9 ex9 => ?_)
  have h := h x9 ex9
  refine r_aload_n (pc := 1302) C dL_law_1302 0 rfl ?_
  refine r_iload (pc := 1303) C dL_law_1303 4 rfl ?_
  refine r_iconst (pc := 1305) C (v := (3 : Int32)) dL_law_1305 (by decide) ?_
  refine r_iadd (pc := 1306) C dL_law_1306 ?_
  refine r_topi (fun x10 ex10 => ?_)
  have h := h x10 ex10
  obtain ⟨i11, h⟩ := h
  refine r_scLd (pc := 1307) C E i11 dL_law_1307 ?_
  refine r_topi (fun x12 ex12 => ?_)
  have h := h x12 ex12
  refine r_aload_n (pc := 1308) C dL_law_1308 0 rfl ?_
  refine r_iload (pc := 1309) C dL_law_1309 4 rfl ?_
  refine r_iconst (pc := 1311) C (v := (4 : Int32)) dL_law_1311 (by decide) ?_
  refine r_iadd (pc := 1312) C dL_law_1312 ?_
  refine r_topi (fun x13 ex13 => ?_)
  have h := h x13 ex13
  obtain ⟨i14, h⟩ := h
  refine r_scLd (pc := 1313) C E i14 dL_law_1313 ?_
  refine r_topi (fun x15 ex15 => ?_)
  have h := h x15 ex15
  refine r_aload_n (pc := 1314) C dL_law_1314 0 rfl ?_
  refine r_iload (pc := 1315) C dL_law_1315 4 rfl ?_
  refine r_iconst (pc := 1317) C (v := (5 : Int32)) dL_law_1317 (by decide) ?_
  refine r_iadd (pc := 1318) C dL_law_1318 ?_
  refine r_topi (fun x16 ex16 => ?_)
  have h := h x16 ex16
  obtain ⟨i17, h⟩ := h
  refine r_scLd (pc := 1319) C E i17 dL_law_1319 ?_
  refine r_topi (fun x18 ex18 => ?_)
  have h := h x18 ex18
  refine r_aload_n (pc := 1320) C dL_law_1320 0 rfl ?_
  refine r_iload (pc := 1321) C dL_law_1321 4 rfl ?_
  refine r_bipush (pc := 1323) C (v := (6 : Int32)) dL_law_1323 (by decide) ?_
  refine r_iadd (pc := 1325) C dL_law_1325 ?_
  refine r_topi (fun x19 ex19 => ?_)
  have h := h x19 ex19
  obtain ⟨i20, h⟩ := h
  refine r_scLd (pc := 1326) C E i20 dL_law_1326 ?_
  refine r_topi (fun x21 ex21 => ?_)
  have h := h x21 ex21
  refine r_aload_n (pc := 1327) C dL_law_1327 0 rfl ?_
  refine r_iload (pc := 1328) C dL_law_1328 4 rfl ?_
  refine r_bipush (pc := 1330) C (v := (7 : Int32)) dL_law_1330 (by decide) ?_
  refine r_iadd (pc := 1332) C dL_law_1332 ?_
  refine r_topi (fun x22 ex22 => ?_)
  have h := h x22 ex22
  obtain ⟨i23, h⟩ := h
  refine r_scLd (pc := 1333) C E i23 dL_law_1333 ?_
  refine r_topi (fun x24 ex24 => ?_)
  have h := h x24 ex24
  refine r_if_eq (pc := 1334) C (tgt := 1341) dL_law_1334 (by decide) (fun c25 => ?_) (fun c25 => ?_)
  · have h := h.1 c25
    refine r_iconst (pc := 1341) C (v := (0 : Int32)) dL_law_1341 (by decide) ?_
    exact r_sub [0, 1, 2, 3, 4] rfl (T_L_law_1342 C E ht hn hX23 h)
  · have h := h.2 c25
    refine r_iconst (pc := 1337) C (v := (1 : Int32)) dL_law_1337 (by decide) ?_
    refine r_goto (pc := 1338) C (tgt := 1342) dL_law_1338 (by decide) ?_
    exact r_sub [0, 1, 2, 3, 4] rfl (T_L_law_1342 C E ht hn hX23 h)
def P_L_law_1232 (scL : Nat) (scx : Nat → Int32) (Q : Int32 → HS → Prop) (X23 : Nat → Nat → Nat → Int32 → Nat → Nat → HS → Prop) (v1 : Nat) (v2 : Nat) (v3 : Nat) (v4 : Int32) (kk : Nat) (nn : Nat) (S : HS) : Prop := ∀ x1 : Int32, x1 = v4 + (1 : Int32) → (vp_in x1 scL ∧ ∀ x3 : Int32, x3 = scx x1.toNatClampNeg → (∀ x4 : Int32, x4 = v4 + (2 : Int32) → (vp_in x4 scL ∧ ∀ x6 : Int32, x6 = scx x4.toNatClampNeg → (∀ x7 : Int32, x7 = v4 + (3 : Int32) → (vp_in x7 scL ∧ ∀ x9 : Int32, x9 = scx x7.toNatClampNeg → (∀ x10 : Int32, x10 = v4 + (4 : Int32) → (vp_in x10 scL ∧ ∀ x12 : Int32, x12 = scx x10.toNatClampNeg → (∀ x13 : Int32, x13 = v4 + (5 : Int32) → (vp_in x13 scL ∧ ∀ x15 : Int32, x15 = scx x13.toNatClampNeg → (∀ x16 : Int32, x16 = v4 + (6 : Int32) → (vp_in x16 scL ∧ ∀ x18 : Int32, x18 = scx x16.toNatClampNeg → (∀ x19 : Int32, x19 = v4 + (7 : Int32) → (vp_in x19 scL ∧ ∀ x21 : Int32, x21 = scx x19.toNatClampNeg → (((x21 = 0) → (P_L_law_1285 scL scx Q X23 v1 v2 v3 v4 v1 x3 x6 x9 x12 x15 x18 (0 : Int32) kk nn S)) ∧ ((¬ x21 = 0) → (P_L_law_1285 scL scx Q X23 v1 v2 v3 v4 v1 x3 x6 x9 x12 x15 x18 (1 : Int32) kk nn S))))))))))))))))
set_option maxRecDepth 20000 in
set_option maxHeartbeats 4000000 in
theorem T_L_law_1232 {X : CX} {Q : Int32 → HS → Prop} {scb scL : Nat} {scx : Nat → Int32} (C : Cx X cL_law RL 7 rm_L_law) (E : LE X scb scL scx Q) (ht : LD X) (hn : True) {X23 : Nat → Nat → Nat → Int32 → Nat → Nat → HS → Prop} (hX23 : ∀ (v1 : Nat) (v2 : Nat) (v3 : Nat) (v4 : Int32) (kk : Nat) (nn : Nat) (S : HS), X23 v1 v2 v3 v4 kk nn S → WS X 7 kk nn 23 [(0, .ref scb), (1, .ref v1), (2, .ref v2), (3, .ref v3), (4, .int v4)] [] S) {v1 : Nat} {v2 : Nat} {v3 : Nat} {v4 : Int32} {kk : Nat} {nn : Nat} {S : HS} (h : P_L_law_1232 scL scx Q X23 v1 v2 v3 v4 kk nn S) : WS X 7 kk nn 1232 [(0, .ref scb), (1, .ref v1), (2, .ref v2), (3, .ref v3), (4, .int v4)] [] S := by
  refine r_aload_n (pc := 1232) C dL_law_1232 1 rfl ?_
  refine r_aload_n (pc := 1233) C dL_law_1233 0 rfl ?_
  refine r_iload (pc := 1234) C dL_law_1234 4 rfl ?_
  refine r_iconst (pc := 1236) C (v := (1 : Int32)) dL_law_1236 (by decide) ?_
  refine r_iadd (pc := 1237) C dL_law_1237 ?_
  refine r_topi (fun x1 ex1 => ?_)
  have h := h x1 ex1
  obtain ⟨i2, h⟩ := h
  refine r_scLd (pc := 1238) C E i2 dL_law_1238 ?_
  refine r_topi (fun x3 ex3 => ?_)
  have h := h x3 ex3
  refine r_aload_n (pc := 1239) C dL_law_1239 0 rfl ?_
  refine r_iload (pc := 1240) C dL_law_1240 4 rfl ?_
  refine r_iconst (pc := 1242) C (v := (2 : Int32)) dL_law_1242 (by decide) ?_
  refine r_iadd (pc := 1243) C dL_law_1243 ?_
  refine r_topi (fun x4 ex4 => ?_)
  have h := h x4 ex4
  obtain ⟨i5, h⟩ := h
  refine r_scLd (pc := 1244) C E i5 dL_law_1244 ?_
  refine r_topi (fun x6 ex6 => ?_)
  have h := h x6 ex6
  refine r_aload_n (pc := 1245) C dL_law_1245 0 rfl ?_
  refine r_iload (pc := 1246) C dL_law_1246 4 rfl ?_
  refine r_iconst (pc := 1248) C (v := (3 : Int32)) dL_law_1248 (by decide) ?_
  refine r_iadd (pc := 1249) C dL_law_1249 ?_
  refine r_topi (fun x7 ex7 => ?_)
  have h := h x7 ex7
  obtain ⟨i8, h⟩ := h
  refine r_scLd (pc := 1250) C E i8 dL_law_1250 ?_
  refine r_topi (fun x9 ex9 => ?_)
  have h := h x9 ex9
  refine r_aload_n (pc := 1251) C dL_law_1251 0 rfl ?_
  refine r_iload (pc := 1252) C dL_law_1252 4 rfl ?_
  refine r_iconst (pc := 1254) C (v := (4 : Int32)) dL_law_1254 (by decide) ?_
  refine r_iadd (pc := 1255) C dL_law_1255 ?_
  refine r_topi (fun x10 ex10 => ?_)
  have h := h x10 ex10
  obtain ⟨i11, h⟩ := h
  refine r_scLd (pc := 1256) C E i11 dL_law_1256 ?_
  refine r_topi (fun x12 ex12 => ?_)
  have h := h x12 ex12
  refine r_aload_n (pc := 1257) C dL_law_1257 0 rfl ?_
  refine r_iload (pc := 1258) C dL_law_1258 4 rfl ?_
  refine r_iconst (pc := 1260) C (v := (5 : Int32)) dL_law_1260 (by decide) ?_
  refine r_iadd (pc := 1261) C dL_law_1261 ?_
  refine r_topi (fun x13 ex13 => ?_)
  have h := h x13 ex13
  obtain ⟨i14, h⟩ := h
  refine r_scLd (pc := 1262) C E i14 dL_law_1262 ?_
  refine r_topi (fun x15 ex15 => ?_)
  have h := h x15 ex15
  refine r_aload_n (pc := 1263) C dL_law_1263 0 rfl ?_
  refine r_iload (pc := 1264) C dL_law_1264 4 rfl ?_
  refine r_bipush (pc := 1266) C (v := (6 : Int32)) dL_law_1266 (by decide) ?_
  refine r_iadd (pc := 1268) C dL_law_1268 ?_
  refine r_topi (fun x16 ex16 => ?_)
  have h := h x16 ex16
  obtain ⟨i17, h⟩ := h
  refine r_scLd (pc := 1269) C E i17 dL_law_1269 ?_
  refine r_topi (fun x18 ex18 => ?_)
  have h := h x18 ex18
  refine r_aload_n (pc := 1270) C dL_law_1270 0 rfl ?_
  refine r_iload (pc := 1271) C dL_law_1271 4 rfl ?_
  refine r_bipush (pc := 1273) C (v := (7 : Int32)) dL_law_1273 (by decide) ?_
  refine r_iadd (pc := 1275) C dL_law_1275 ?_
  refine r_topi (fun x19 ex19 => ?_)
  have h := h x19 ex19
  obtain ⟨i20, h⟩ := h
  refine r_scLd (pc := 1276) C E i20 dL_law_1276 ?_
  refine r_topi (fun x21 ex21 => ?_)
  have h := h x21 ex21
  refine r_if_eq (pc := 1277) C (tgt := 1284) dL_law_1277 (by decide) (fun c22 => ?_) (fun c22 => ?_)
  · have h := h.1 c22
    refine r_iconst (pc := 1284) C (v := (0 : Int32)) dL_law_1284 (by decide) ?_
    exact r_sub [0, 1, 2, 3, 4] rfl (T_L_law_1285 C E ht hn hX23 h)
  · have h := h.2 c22
    refine r_iconst (pc := 1280) C (v := (1 : Int32)) dL_law_1280 (by decide) ?_
    refine r_goto (pc := 1281) C (tgt := 1285) dL_law_1281 (by decide) ?_
    exact r_sub [0, 1, 2, 3, 4] rfl (T_L_law_1285 C E ht hn hX23 h)
def P_L_law_1349 (scL : Nat) (scx : Nat → Int32) (Q : Int32 → HS → Prop) (X23 : Nat → Nat → Nat → Int32 → Nat → Nat → HS → Prop) (v1 : Nat) (v2 : Nat) (v3 : Nat) (v4 : Int32) (kk : Nat) (nn : Nat) (S : HS) : Prop := ∀ x1 : Int32, x1 = v4 + (1 : Int32) → (vp_in x1 scL ∧ ∀ x3 : Int32, x3 = scx x1.toNatClampNeg → (∀ x4 : Int32, x4 = v4 + (2 : Int32) → (vp_in x4 scL ∧ ∀ x6 : Int32, x6 = scx x4.toNatClampNeg → (∀ x7 : Int32, x7 = v4 + (3 : Int32) → (vp_in x7 scL ∧ ∀ x9 : Int32, x9 = scx x7.toNatClampNeg → (∀ x10 : Int32, x10 = v4 + (4 : Int32) → (vp_in x10 scL ∧ ∀ x12 : Int32, x12 = scx x10.toNatClampNeg → (∀ x13 : Int32, x13 = v4 + (5 : Int32) → (vp_in x13 scL ∧ ∀ x15 : Int32, x15 = scx x13.toNatClampNeg → (∀ x16 : Int32, x16 = v4 + (6 : Int32) → (vp_in x16 scL ∧ ∀ x18 : Int32, x18 = scx x16.toNatClampNeg → (ob S v1 9 ∧ (kk ≤ rm_L_law.cells ∧ nn ≤ rm_L_law.slots ∧ (P_X9_first v1 x3 x6 x9 x12 x15 x18 (fun x21 S19 => Gr S S19 → (∀ x22 : Int32, x22 = v4 + (1 : Int32) → (vp_in x22 scL ∧ ∀ x24 : Int32, x24 = scx x22.toNatClampNeg → (∀ x25 : Int32, x25 = v4 + (2 : Int32) → (vp_in x25 scL ∧ ∀ x27 : Int32, x27 = scx x25.toNatClampNeg → (∀ x28 : Int32, x28 = v4 + (3 : Int32) → (vp_in x28 scL ∧ ∀ x30 : Int32, x30 = scx x28.toNatClampNeg → (∀ x31 : Int32, x31 = v4 + (4 : Int32) → (vp_in x31 scL ∧ ∀ x33 : Int32, x33 = scx x31.toNatClampNeg → (∀ x34 : Int32, x34 = v4 + (5 : Int32) → (vp_in x34 scL ∧ ∀ x36 : Int32, x36 = scx x34.toNatClampNeg → (∀ x37 : Int32, x37 = v4 + (6 : Int32) → (vp_in x37 scL ∧ ∀ x39 : Int32, x39 = scx x37.toNatClampNeg → (ob S19 v2 11 ∧ (kk ≤ rm_L_law.cells ∧ nn ≤ rm_L_law.slots ∧ (P_X11_first v2 x24 x27 x30 x33 x36 x39 (fun x42 S40 => Gr S19 S40 → (((x21 = x42) → (P_L_law_2341 scL scx Q X23 v1 v2 v3 v4 kk nn S40)) ∧ ((¬ x21 = x42) → (kk ≤ rm_L_law.cells ∧ nn ≤ rm_L_law.slots ∧ (0 : Int32) = 1 ∧ Q (0 : Int32) S40)))) S19)))))))))))))))) S))))))))))))))
set_option maxRecDepth 20000 in
set_option maxHeartbeats 4000000 in
theorem T_L_law_1349 {X : CX} {Q : Int32 → HS → Prop} {scb scL : Nat} {scx : Nat → Int32} (C : Cx X cL_law RL 7 rm_L_law) (E : LE X scb scL scx Q) (ht : LD X) (hn : True) {X23 : Nat → Nat → Nat → Int32 → Nat → Nat → HS → Prop} (hX23 : ∀ (v1 : Nat) (v2 : Nat) (v3 : Nat) (v4 : Int32) (kk : Nat) (nn : Nat) (S : HS), X23 v1 v2 v3 v4 kk nn S → WS X 7 kk nn 23 [(0, .ref scb), (1, .ref v1), (2, .ref v2), (3, .ref v3), (4, .int v4)] [] S) {v1 : Nat} {v2 : Nat} {v3 : Nat} {v4 : Int32} {kk : Nat} {nn : Nat} {S : HS} (h : P_L_law_1349 scL scx Q X23 v1 v2 v3 v4 kk nn S) : WS X 7 kk nn 1349 [(0, .ref scb), (1, .ref v1), (2, .ref v2), (3, .ref v3), (4, .int v4)] [] S := by
  refine r_aload_n (pc := 1349) C dL_law_1349 1 rfl ?_
  refine r_aload_n (pc := 1350) C dL_law_1350 0 rfl ?_
  refine r_iload (pc := 1351) C dL_law_1351 4 rfl ?_
  refine r_iconst (pc := 1353) C (v := (1 : Int32)) dL_law_1353 (by decide) ?_
  refine r_iadd (pc := 1354) C dL_law_1354 ?_
  refine r_topi (fun x1 ex1 => ?_)
  have h := h x1 ex1
  obtain ⟨i2, h⟩ := h
  refine r_scLd (pc := 1355) C E i2 dL_law_1355 ?_
  refine r_topi (fun x3 ex3 => ?_)
  have h := h x3 ex3
  refine r_aload_n (pc := 1356) C dL_law_1356 0 rfl ?_
  refine r_iload (pc := 1357) C dL_law_1357 4 rfl ?_
  refine r_iconst (pc := 1359) C (v := (2 : Int32)) dL_law_1359 (by decide) ?_
  refine r_iadd (pc := 1360) C dL_law_1360 ?_
  refine r_topi (fun x4 ex4 => ?_)
  have h := h x4 ex4
  obtain ⟨i5, h⟩ := h
  refine r_scLd (pc := 1361) C E i5 dL_law_1361 ?_
  refine r_topi (fun x6 ex6 => ?_)
  have h := h x6 ex6
  refine r_aload_n (pc := 1362) C dL_law_1362 0 rfl ?_
  refine r_iload (pc := 1363) C dL_law_1363 4 rfl ?_
  refine r_iconst (pc := 1365) C (v := (3 : Int32)) dL_law_1365 (by decide) ?_
  refine r_iadd (pc := 1366) C dL_law_1366 ?_
  refine r_topi (fun x7 ex7 => ?_)
  have h := h x7 ex7
  obtain ⟨i8, h⟩ := h
  refine r_scLd (pc := 1367) C E i8 dL_law_1367 ?_
  refine r_topi (fun x9 ex9 => ?_)
  have h := h x9 ex9
  refine r_aload_n (pc := 1368) C dL_law_1368 0 rfl ?_
  refine r_iload (pc := 1369) C dL_law_1369 4 rfl ?_
  refine r_iconst (pc := 1371) C (v := (4 : Int32)) dL_law_1371 (by decide) ?_
  refine r_iadd (pc := 1372) C dL_law_1372 ?_
  refine r_topi (fun x10 ex10 => ?_)
  have h := h x10 ex10
  obtain ⟨i11, h⟩ := h
  refine r_scLd (pc := 1373) C E i11 dL_law_1373 ?_
  refine r_topi (fun x12 ex12 => ?_)
  have h := h x12 ex12
  refine r_aload_n (pc := 1374) C dL_law_1374 0 rfl ?_
  refine r_iload (pc := 1375) C dL_law_1375 4 rfl ?_
  refine r_iconst (pc := 1377) C (v := (5 : Int32)) dL_law_1377 (by decide) ?_
  refine r_iadd (pc := 1378) C dL_law_1378 ?_
  refine r_topi (fun x13 ex13 => ?_)
  have h := h x13 ex13
  obtain ⟨i14, h⟩ := h
  refine r_scLd (pc := 1379) C E i14 dL_law_1379 ?_
  refine r_topi (fun x15 ex15 => ?_)
  have h := h x15 ex15
  refine r_aload_n (pc := 1380) C dL_law_1380 0 rfl ?_
  refine r_iload (pc := 1381) C dL_law_1381 4 rfl ?_
  refine r_bipush (pc := 1383) C (v := (6 : Int32)) dL_law_1383 (by decide) ?_
  refine r_iadd (pc := 1385) C dL_law_1385 ?_
  refine r_topi (fun x16 ex16 => ?_)
  have h := h x16 ex16
  obtain ⟨i17, h⟩ := h
  refine r_scLd (pc := 1386) C E i17 dL_law_1386 ?_
  refine r_topi (fun x18 ex18 => ?_)
  have h := h x18 ex18
  obtain ⟨o_v1, h⟩ := h
  obtain ⟨hk, hk2, h⟩ := h
  refine r_callVi0 (pc := 1387) C (rest := []) (a := v1) o_v1 [.int x3, .int x6, .int x9, .int x12, .int x15, .int x18] yV_X9_first g_809 (c_X9_first h) dL_law_1387 rfl rfl (Nat.le_of_ble_eq_true rfl) ⟨by decide, by decide⟩ ⟨hk, hk2⟩ ⟨rfl, rfl⟩ (fun x21 S19 h g20 => ?_)
  have h := h g20
  have o_v1 := gr_ob g20 o_v1
  refine r_aload_n (pc := 1390) C dL_law_1390 2 rfl ?_
  refine r_aload_n (pc := 1391) C dL_law_1391 0 rfl ?_
  refine r_iload (pc := 1392) C dL_law_1392 4 rfl ?_
  refine r_iconst (pc := 1394) C (v := (1 : Int32)) dL_law_1394 (by decide) ?_
  refine r_iadd (pc := 1395) C dL_law_1395 ?_
  refine r_topi (fun x22 ex22 => ?_)
  have h := h x22 ex22
  obtain ⟨i23, h⟩ := h
  refine r_scLd (pc := 1396) C E i23 dL_law_1396 ?_
  refine r_topi (fun x24 ex24 => ?_)
  have h := h x24 ex24
  refine r_aload_n (pc := 1397) C dL_law_1397 0 rfl ?_
  refine r_iload (pc := 1398) C dL_law_1398 4 rfl ?_
  refine r_iconst (pc := 1400) C (v := (2 : Int32)) dL_law_1400 (by decide) ?_
  refine r_iadd (pc := 1401) C dL_law_1401 ?_
  refine r_topi (fun x25 ex25 => ?_)
  have h := h x25 ex25
  obtain ⟨i26, h⟩ := h
  refine r_scLd (pc := 1402) C E i26 dL_law_1402 ?_
  refine r_topi (fun x27 ex27 => ?_)
  have h := h x27 ex27
  refine r_aload_n (pc := 1403) C dL_law_1403 0 rfl ?_
  refine r_iload (pc := 1404) C dL_law_1404 4 rfl ?_
  refine r_iconst (pc := 1406) C (v := (3 : Int32)) dL_law_1406 (by decide) ?_
  refine r_iadd (pc := 1407) C dL_law_1407 ?_
  refine r_topi (fun x28 ex28 => ?_)
  have h := h x28 ex28
  obtain ⟨i29, h⟩ := h
  refine r_scLd (pc := 1408) C E i29 dL_law_1408 ?_
  refine r_topi (fun x30 ex30 => ?_)
  have h := h x30 ex30
  refine r_aload_n (pc := 1409) C dL_law_1409 0 rfl ?_
  refine r_iload (pc := 1410) C dL_law_1410 4 rfl ?_
  refine r_iconst (pc := 1412) C (v := (4 : Int32)) dL_law_1412 (by decide) ?_
  refine r_iadd (pc := 1413) C dL_law_1413 ?_
  refine r_topi (fun x31 ex31 => ?_)
  have h := h x31 ex31
  obtain ⟨i32, h⟩ := h
  refine r_scLd (pc := 1414) C E i32 dL_law_1414 ?_
  refine r_topi (fun x33 ex33 => ?_)
  have h := h x33 ex33
  refine r_aload_n (pc := 1415) C dL_law_1415 0 rfl ?_
  refine r_iload (pc := 1416) C dL_law_1416 4 rfl ?_
  refine r_iconst (pc := 1418) C (v := (5 : Int32)) dL_law_1418 (by decide) ?_
  refine r_iadd (pc := 1419) C dL_law_1419 ?_
  refine r_topi (fun x34 ex34 => ?_)
  have h := h x34 ex34
  obtain ⟨i35, h⟩ := h
  refine r_scLd (pc := 1420) C E i35 dL_law_1420 ?_
  refine r_topi (fun x36 ex36 => ?_)
  have h := h x36 ex36
  refine r_aload_n (pc := 1421) C dL_law_1421 0 rfl ?_
  refine r_iload (pc := 1422) C dL_law_1422 4 rfl ?_
  refine r_bipush (pc := 1424) C (v := (6 : Int32)) dL_law_1424 (by decide) ?_
  refine r_iadd (pc := 1426) C dL_law_1426 ?_
  refine r_topi (fun x37 ex37 => ?_)
  have h := h x37 ex37
  obtain ⟨i38, h⟩ := h
  refine r_scLd (pc := 1427) C E i38 dL_law_1427 ?_
  refine r_topi (fun x39 ex39 => ?_)
  have h := h x39 ex39
  obtain ⟨o_v2, h⟩ := h
  obtain ⟨hk, hk2, h⟩ := h
  refine r_callVi0 (pc := 1428) C (rest := [.int x21]) (a := v2) o_v2 [.int x24, .int x27, .int x30, .int x33, .int x36, .int x39] yV_X11_first g_1667 (c_X11_first h) dL_law_1428 rfl rfl (Nat.le_of_ble_eq_true rfl) ⟨by decide, by decide⟩ ⟨hk, hk2⟩ ⟨rfl, rfl⟩ (fun x42 S40 h g41 => ?_)
  have h := h g41
  have o_v1 := gr_ob g41 o_v1
  have o_v2 := gr_ob g41 o_v2
  refine r_icmp_eq (pc := 1431) C (tgt := 2341) dL_law_1431 (by decide) (fun c43 => ?_) (fun c43 => ?_)
  · have h := h.1 c43
    exact r_sub [0, 1, 2, 3, 4] rfl (T_L_law_2341 C E ht hn hX23 h)
  · have h := h.2 c43
    refine r_iconst (pc := 1434) C (v := (0 : Int32)) dL_law_1434 (by decide) ?_
    obtain ⟨hk, hk2, he, h⟩ := h
    exact r_lawret (pc := 1435) C E dL_law_1435 hk hk2 he
def P_L_law_1532 (scL : Nat) (scx : Nat → Int32) (Q : Int32 → HS → Prop) (X23 : Nat → Nat → Nat → Int32 → Nat → Nat → HS → Prop) (v1 : Nat) (v2 : Nat) (v3 : Nat) (v4 : Int32) (s0 : Nat) (s1 : Int32) (s2 : Int32) (s3 : Int32) (s4 : Int32) (s5 : Int32) (s6 : Int32) (kk : Nat) (nn : Nat) (S : HS) : Prop := ob S s0 11 ∧ (kk ≤ rm_L_law.cells ∧ nn ≤ rm_L_law.slots ∧ (P_X11_least s0 s1 s2 s3 s4 s5 s6 (fun x3 S1 => Gr S S1 → (P_L_law_2341 scL scx Q X23 v1 v2 v3 v4 kk nn S1)) S))
set_option maxRecDepth 20000 in
set_option maxHeartbeats 4000000 in
theorem T_L_law_1532 {X : CX} {Q : Int32 → HS → Prop} {scb scL : Nat} {scx : Nat → Int32} (C : Cx X cL_law RL 7 rm_L_law) (E : LE X scb scL scx Q) (ht : LD X) (hn : True) {X23 : Nat → Nat → Nat → Int32 → Nat → Nat → HS → Prop} (hX23 : ∀ (v1 : Nat) (v2 : Nat) (v3 : Nat) (v4 : Int32) (kk : Nat) (nn : Nat) (S : HS), X23 v1 v2 v3 v4 kk nn S → WS X 7 kk nn 23 [(0, .ref scb), (1, .ref v1), (2, .ref v2), (3, .ref v3), (4, .int v4)] [] S) {v1 : Nat} {v2 : Nat} {v3 : Nat} {v4 : Int32} {s0 : Nat} {s1 : Int32} {s2 : Int32} {s3 : Int32} {s4 : Int32} {s5 : Int32} {s6 : Int32} {kk : Nat} {nn : Nat} {S : HS} (h : P_L_law_1532 scL scx Q X23 v1 v2 v3 v4 s0 s1 s2 s3 s4 s5 s6 kk nn S) : WS X 7 kk nn 1532 [(0, .ref scb), (1, .ref v1), (2, .ref v2), (3, .ref v3), (4, .int v4)] [.int s6, .int s5, .int s4, .int s3, .int s2, .int s1, .ref s0] S := by
  obtain ⟨o_s0, h⟩ := h
  obtain ⟨hk, hk2, h⟩ := h
  refine r_callVl0 (pc := 1532) C (rest := []) (a := s0) o_s0 [.int s1, .int s2, .int s3, .int s4, .int s5, .int s6] yV_X11_least g_1671 (c_X11_least h) dL_law_1532 rfl rfl (Nat.le_of_ble_eq_true rfl) ⟨by decide, by decide⟩ ⟨hk, hk2⟩ ⟨rfl, rfl⟩ (fun x3 S1 h g2 => ?_)
  have h := h g2
  have o_s0 := gr_ob g2 o_s0
  refine r_pop2 (pc := 1535) C dL_law_1535 rfl ?_
  refine r_goto (pc := 1536) C (tgt := 2341) dL_law_1536 (by decide) ?_
  exact r_sub [0, 1, 2, 3, 4] rfl (T_L_law_2341 C E ht hn hX23 h)
def P_L_law_1482 (scL : Nat) (scx : Nat → Int32) (Q : Int32 → HS → Prop) (X23 : Nat → Nat → Nat → Int32 → Nat → Nat → HS → Prop) (v1 : Nat) (v2 : Nat) (v3 : Nat) (v4 : Int32) (s0 : Nat) (s1 : Int32) (s2 : Int32) (s3 : Int32) (s4 : Int32) (s5 : Int32) (s6 : Int32) (kk : Nat) (nn : Nat) (S : HS) : Prop := ob S s0 9 ∧ (kk + 8 ≤ rm_L_law.cells ∧ nn + 7937 ≤ rm_L_law.slots ∧ (P_X9_least s0 s1 s2 s3 s4 s5 s6 (fun x3 S1 => Gr S S1 → (∀ x4 : Int32, x4 = v4 + (1 : Int32) → (vp_in x4 scL ∧ ∀ x6 : Int32, x6 = scx x4.toNatClampNeg → (∀ x7 : Int32, x7 = v4 + (2 : Int32) → (vp_in x7 scL ∧ ∀ x9 : Int32, x9 = scx x7.toNatClampNeg → (∀ x10 : Int32, x10 = v4 + (3 : Int32) → (vp_in x10 scL ∧ ∀ x12 : Int32, x12 = scx x10.toNatClampNeg → (∀ x13 : Int32, x13 = v4 + (4 : Int32) → (vp_in x13 scL ∧ ∀ x15 : Int32, x15 = scx x13.toNatClampNeg → (∀ x16 : Int32, x16 = v4 + (5 : Int32) → (vp_in x16 scL ∧ ∀ x18 : Int32, x18 = scx x16.toNatClampNeg → (∀ x19 : Int32, x19 = v4 + (6 : Int32) → (vp_in x19 scL ∧ ∀ x21 : Int32, x21 = scx x19.toNatClampNeg → (((x21 = 0) → (P_L_law_1532 scL scx Q X23 v1 v2 v3 v4 v2 x6 x9 x12 x15 x18 (0 : Int32) (kk + 8) (nn + 7937) S1)) ∧ ((¬ x21 = 0) → (P_L_law_1532 scL scx Q X23 v1 v2 v3 v4 v2 x6 x9 x12 x15 x18 (1 : Int32) (kk + 8) (nn + 7937) S1)))))))))))))))) S))
set_option maxRecDepth 20000 in
set_option maxHeartbeats 4000000 in
theorem T_L_law_1482 {X : CX} {Q : Int32 → HS → Prop} {scb scL : Nat} {scx : Nat → Int32} (C : Cx X cL_law RL 7 rm_L_law) (E : LE X scb scL scx Q) (ht : LD X) (hn : True) {X23 : Nat → Nat → Nat → Int32 → Nat → Nat → HS → Prop} (hX23 : ∀ (v1 : Nat) (v2 : Nat) (v3 : Nat) (v4 : Int32) (kk : Nat) (nn : Nat) (S : HS), X23 v1 v2 v3 v4 kk nn S → WS X 7 kk nn 23 [(0, .ref scb), (1, .ref v1), (2, .ref v2), (3, .ref v3), (4, .int v4)] [] S) {v1 : Nat} {v2 : Nat} {v3 : Nat} {v4 : Int32} {s0 : Nat} {s1 : Int32} {s2 : Int32} {s3 : Int32} {s4 : Int32} {s5 : Int32} {s6 : Int32} {kk : Nat} {nn : Nat} {S : HS} (h : P_L_law_1482 scL scx Q X23 v1 v2 v3 v4 s0 s1 s2 s3 s4 s5 s6 kk nn S) : WS X 7 kk nn 1482 [(0, .ref scb), (1, .ref v1), (2, .ref v2), (3, .ref v3), (4, .int v4)] [.int s6, .int s5, .int s4, .int s3, .int s2, .int s1, .ref s0] S := by
  obtain ⟨o_s0, h⟩ := h
  obtain ⟨hk, hk2, h⟩ := h
  refine r_callVl (pc := 1482) C (rest := []) (a := s0) o_s0 [.int s1, .int s2, .int s3, .int s4, .int s5, .int s6] yV_X9_least g_813 (c_X9_least h) dL_law_1482 rfl rfl (Nat.le_of_ble_eq_true rfl) ⟨by decide, by decide⟩ ⟨hk, hk2⟩ (fun x3 S1 h g2 => ?_)
  have h := h g2
  have o_s0 := gr_ob g2 o_s0
  refine r_pop2 (pc := 1485) C dL_law_1485 rfl ?_
  refine r_aload_n (pc := 1486) C dL_law_1486 2 rfl ?_
  refine r_aload_n (pc := 1487) C dL_law_1487 0 rfl ?_
  refine r_iload (pc := 1488) C dL_law_1488 4 rfl ?_
  refine r_iconst (pc := 1490) C (v := (1 : Int32)) dL_law_1490 (by decide) ?_
  refine r_iadd (pc := 1491) C dL_law_1491 ?_
  refine r_topi (fun x4 ex4 => ?_)
  have h := h x4 ex4
  obtain ⟨i5, h⟩ := h
  refine r_scLd (pc := 1492) C E i5 dL_law_1492 ?_
  refine r_topi (fun x6 ex6 => ?_)
  have h := h x6 ex6
  refine r_aload_n (pc := 1493) C dL_law_1493 0 rfl ?_
  refine r_iload (pc := 1494) C dL_law_1494 4 rfl ?_
  refine r_iconst (pc := 1496) C (v := (2 : Int32)) dL_law_1496 (by decide) ?_
  refine r_iadd (pc := 1497) C dL_law_1497 ?_
  refine r_topi (fun x7 ex7 => ?_)
  have h := h x7 ex7
  obtain ⟨i8, h⟩ := h
  refine r_scLd (pc := 1498) C E i8 dL_law_1498 ?_
  refine r_topi (fun x9 ex9 => ?_)
  have h := h x9 ex9
  refine r_aload_n (pc := 1499) C dL_law_1499 0 rfl ?_
  refine r_iload (pc := 1500) C dL_law_1500 4 rfl ?_
  refine r_iconst (pc := 1502) C (v := (3 : Int32)) dL_law_1502 (by decide) ?_
  refine r_iadd (pc := 1503) C dL_law_1503 ?_
  refine r_topi (fun x10 ex10 => ?_)
  have h := h x10 ex10
  obtain ⟨i11, h⟩ := h
  refine r_scLd (pc := 1504) C E i11 dL_law_1504 ?_
  refine r_topi (fun x12 ex12 => ?_)
  have h := h x12 ex12
  refine r_aload_n (pc := 1505) C dL_law_1505 0 rfl ?_
  refine r_iload (pc := 1506) C dL_law_1506 4 rfl ?_
  refine r_iconst (pc := 1508) C (v := (4 : Int32)) dL_law_1508 (by decide) ?_
  refine r_iadd (pc := 1509) C dL_law_1509 ?_
  refine r_topi (fun x13 ex13 => ?_)
  have h := h x13 ex13
  obtain ⟨i14, h⟩ := h
  refine r_scLd (pc := 1510) C E i14 dL_law_1510 ?_
  refine r_topi (fun x15 ex15 => ?_)
  have h := h x15 ex15
  refine r_aload_n (pc := 1511) C dL_law_1511 0 rfl ?_
  refine r_iload (pc := 1512) C dL_law_1512 4 rfl ?_
  refine r_iconst (pc := 1514) C (v := (5 : Int32)) dL_law_1514 (by decide) ?_
  refine r_iadd (pc := 1515) C dL_law_1515 ?_
  refine r_topi (fun x16 ex16 => ?_)
  have h := h x16 ex16
  obtain ⟨i17, h⟩ := h
  refine r_scLd (pc := 1516) C E i17 dL_law_1516 ?_
  refine r_topi (fun x18 ex18 => ?_)
  have h := h x18 ex18
  refine r_aload_n (pc := 1517) C dL_law_1517 0 rfl ?_
  refine r_iload (pc := 1518) C dL_law_1518 4 rfl ?_
  refine r_bipush (pc := 1520) C (v := (6 : Int32)) dL_law_1520 (by decide) ?_
  refine r_iadd (pc := 1522) C dL_law_1522 ?_
  refine r_topi (fun x19 ex19 => ?_)
  have h := h x19 ex19
  obtain ⟨i20, h⟩ := h
  refine r_scLd (pc := 1523) C E i20 dL_law_1523 ?_
  refine r_topi (fun x21 ex21 => ?_)
  have h := h x21 ex21
  refine r_if_eq (pc := 1524) C (tgt := 1531) dL_law_1524 (by decide) (fun c22 => ?_) (fun c22 => ?_)
  · have h := h.1 c22
    refine r_iconst (pc := 1531) C (v := (0 : Int32)) dL_law_1531 (by decide) ?_
    exact r_sub [0, 1, 2, 3, 4] rfl (T_L_law_1532 C E ht hn hX23 h)
  · have h := h.2 c22
    refine r_iconst (pc := 1527) C (v := (1 : Int32)) dL_law_1527 (by decide) ?_
    refine r_goto (pc := 1528) C (tgt := 1532) dL_law_1528 (by decide) ?_
    exact r_sub [0, 1, 2, 3, 4] rfl (T_L_law_1532 C E ht hn hX23 h)
def P_L_law_1436 (scL : Nat) (scx : Nat → Int32) (Q : Int32 → HS → Prop) (X23 : Nat → Nat → Nat → Int32 → Nat → Nat → HS → Prop) (v1 : Nat) (v2 : Nat) (v3 : Nat) (v4 : Int32) (kk : Nat) (nn : Nat) (S : HS) : Prop := ∀ x1 : Int32, x1 = v4 + (1 : Int32) → (vp_in x1 scL ∧ ∀ x3 : Int32, x3 = scx x1.toNatClampNeg → (∀ x4 : Int32, x4 = v4 + (2 : Int32) → (vp_in x4 scL ∧ ∀ x6 : Int32, x6 = scx x4.toNatClampNeg → (∀ x7 : Int32, x7 = v4 + (3 : Int32) → (vp_in x7 scL ∧ ∀ x9 : Int32, x9 = scx x7.toNatClampNeg → (∀ x10 : Int32, x10 = v4 + (4 : Int32) → (vp_in x10 scL ∧ ∀ x12 : Int32, x12 = scx x10.toNatClampNeg → (∀ x13 : Int32, x13 = v4 + (5 : Int32) → (vp_in x13 scL ∧ ∀ x15 : Int32, x15 = scx x13.toNatClampNeg → (∀ x16 : Int32, x16 = v4 + (6 : Int32) → (vp_in x16 scL ∧ ∀ x18 : Int32, x18 = scx x16.toNatClampNeg → (((x18 = 0) → (P_L_law_1482 scL scx Q X23 v1 v2 v3 v4 v1 x3 x6 x9 x12 x15 (0 : Int32) kk nn S)) ∧ ((¬ x18 = 0) → (P_L_law_1482 scL scx Q X23 v1 v2 v3 v4 v1 x3 x6 x9 x12 x15 (1 : Int32) kk nn S))))))))))))))
set_option maxRecDepth 20000 in
set_option maxHeartbeats 4000000 in
theorem T_L_law_1436 {X : CX} {Q : Int32 → HS → Prop} {scb scL : Nat} {scx : Nat → Int32} (C : Cx X cL_law RL 7 rm_L_law) (E : LE X scb scL scx Q) (ht : LD X) (hn : True) {X23 : Nat → Nat → Nat → Int32 → Nat → Nat → HS → Prop} (hX23 : ∀ (v1 : Nat) (v2 : Nat) (v3 : Nat) (v4 : Int32) (kk : Nat) (nn : Nat) (S : HS), X23 v1 v2 v3 v4 kk nn S → WS X 7 kk nn 23 [(0, .ref scb), (1, .ref v1), (2, .ref v2), (3, .ref v3), (4, .int v4)] [] S) {v1 : Nat} {v2 : Nat} {v3 : Nat} {v4 : Int32} {kk : Nat} {nn : Nat} {S : HS} (h : P_L_law_1436 scL scx Q X23 v1 v2 v3 v4 kk nn S) : WS X 7 kk nn 1436 [(0, .ref scb), (1, .ref v1), (2, .ref v2), (3, .ref v3), (4, .int v4)] [] S := by
  refine r_aload_n (pc := 1436) C dL_law_1436 1 rfl ?_
  refine r_aload_n (pc := 1437) C dL_law_1437 0 rfl ?_
  refine r_iload (pc := 1438) C dL_law_1438 4 rfl ?_
  refine r_iconst (pc := 1440) C (v := (1 : Int32)) dL_law_1440 (by decide) ?_
  refine r_iadd (pc := 1441) C dL_law_1441 ?_
  refine r_topi (fun x1 ex1 => ?_)
  have h := h x1 ex1
  obtain ⟨i2, h⟩ := h
  refine r_scLd (pc := 1442) C E i2 dL_law_1442 ?_
  refine r_topi (fun x3 ex3 => ?_)
  have h := h x3 ex3
  refine r_aload_n (pc := 1443) C dL_law_1443 0 rfl ?_
  refine r_iload (pc := 1444) C dL_law_1444 4 rfl ?_
  refine r_iconst (pc := 1446) C (v := (2 : Int32)) dL_law_1446 (by decide) ?_
  refine r_iadd (pc := 1447) C dL_law_1447 ?_
  refine r_topi (fun x4 ex4 => ?_)
  have h := h x4 ex4
  obtain ⟨i5, h⟩ := h
  refine r_scLd (pc := 1448) C E i5 dL_law_1448 ?_
  refine r_topi (fun x6 ex6 => ?_)
  have h := h x6 ex6
  refine r_aload_n (pc := 1449) C dL_law_1449 0 rfl ?_
  refine r_iload (pc := 1450) C dL_law_1450 4 rfl ?_
  refine r_iconst (pc := 1452) C (v := (3 : Int32)) dL_law_1452 (by decide) ?_
  refine r_iadd (pc := 1453) C dL_law_1453 ?_
  refine r_topi (fun x7 ex7 => ?_)
  have h := h x7 ex7
  obtain ⟨i8, h⟩ := h
  refine r_scLd (pc := 1454) C E i8 dL_law_1454 ?_
  refine r_topi (fun x9 ex9 => ?_)
  have h := h x9 ex9
  refine r_aload_n (pc := 1455) C dL_law_1455 0 rfl ?_
  refine r_iload (pc := 1456) C dL_law_1456 4 rfl ?_
  refine r_iconst (pc := 1458) C (v := (4 : Int32)) dL_law_1458 (by decide) ?_
  refine r_iadd (pc := 1459) C dL_law_1459 ?_
  refine r_topi (fun x10 ex10 => ?_)
  have h := h x10 ex10
  obtain ⟨i11, h⟩ := h
  refine r_scLd (pc := 1460) C E i11 dL_law_1460 ?_
  refine r_topi (fun x12 ex12 => ?_)
  have h := h x12 ex12
  refine r_aload_n (pc := 1461) C dL_law_1461 0 rfl ?_
  refine r_iload (pc := 1462) C dL_law_1462 4 rfl ?_
  refine r_iconst (pc := 1464) C (v := (5 : Int32)) dL_law_1464 (by decide) ?_
  refine r_iadd (pc := 1465) C dL_law_1465 ?_
  refine r_topi (fun x13 ex13 => ?_)
  have h := h x13 ex13
  obtain ⟨i14, h⟩ := h
  refine r_scLd (pc := 1466) C E i14 dL_law_1466 ?_
  refine r_topi (fun x15 ex15 => ?_)
  have h := h x15 ex15
  refine r_aload_n (pc := 1467) C dL_law_1467 0 rfl ?_
  refine r_iload (pc := 1468) C dL_law_1468 4 rfl ?_
  refine r_bipush (pc := 1470) C (v := (6 : Int32)) dL_law_1470 (by decide) ?_
  refine r_iadd (pc := 1472) C dL_law_1472 ?_
  refine r_topi (fun x16 ex16 => ?_)
  have h := h x16 ex16
  obtain ⟨i17, h⟩ := h
  refine r_scLd (pc := 1473) C E i17 dL_law_1473 ?_
  refine r_topi (fun x18 ex18 => ?_)
  have h := h x18 ex18
  refine r_if_eq (pc := 1474) C (tgt := 1481) dL_law_1474 (by decide) (fun c19 => ?_) (fun c19 => ?_)
  · have h := h.1 c19
    refine r_iconst (pc := 1481) C (v := (0 : Int32)) dL_law_1481 (by decide) ?_
    exact r_sub [0, 1, 2, 3, 4] rfl (T_L_law_1482 C E ht hn hX23 h)
  · have h := h.2 c19
    refine r_iconst (pc := 1477) C (v := (1 : Int32)) dL_law_1477 (by decide) ?_
    refine r_goto (pc := 1478) C (tgt := 1482) dL_law_1478 (by decide) ?_
    exact r_sub [0, 1, 2, 3, 4] rfl (T_L_law_1482 C E ht hn hX23 h)
def P_L_law_1539 (scL : Nat) (scx : Nat → Int32) (Q : Int32 → HS → Prop) (X23 : Nat → Nat → Nat → Int32 → Nat → Nat → HS → Prop) (v1 : Nat) (v2 : Nat) (v3 : Nat) (v4 : Int32) (kk : Nat) (nn : Nat) (S : HS) : Prop := ∀ x1 : Int32, x1 = v4 + (1 : Int32) → (vp_in x1 scL ∧ ∀ x3 : Int32, x3 = scx x1.toNatClampNeg → (∀ x4 : Int32, x4 = v4 + (2 : Int32) → (vp_in x4 scL ∧ ∀ x6 : Int32, x6 = scx x4.toNatClampNeg → (∀ x7 : Int32, x7 = v4 + (3 : Int32) → (vp_in x7 scL ∧ ∀ x9 : Int32, x9 = scx x7.toNatClampNeg → (∀ x10 : Int32, x10 = v4 + (4 : Int32) → (vp_in x10 scL ∧ ∀ x12 : Int32, x12 = scx x10.toNatClampNeg → (∀ x13 : Int32, x13 = v4 + (5 : Int32) → (vp_in x13 scL ∧ ∀ x15 : Int32, x15 = scx x13.toNatClampNeg → (ob S v1 9 ∧ (kk + 8 ≤ rm_L_law.cells ∧ nn + 7937 ≤ rm_L_law.slots ∧ (P_X9_there v1 x3 x6 x9 x12 x15 (fun x18 S16 => Gr S S16 → (∀ x19 : Int32, x19 = v4 + (1 : Int32) → (vp_in x19 scL ∧ ∀ x21 : Int32, x21 = scx x19.toNatClampNeg → (∀ x22 : Int32, x22 = v4 + (2 : Int32) → (vp_in x22 scL ∧ ∀ x24 : Int32, x24 = scx x22.toNatClampNeg → (∀ x25 : Int32, x25 = v4 + (3 : Int32) → (vp_in x25 scL ∧ ∀ x27 : Int32, x27 = scx x25.toNatClampNeg → (∀ x28 : Int32, x28 = v4 + (4 : Int32) → (vp_in x28 scL ∧ ∀ x30 : Int32, x30 = scx x28.toNatClampNeg → (∀ x31 : Int32, x31 = v4 + (5 : Int32) → (vp_in x31 scL ∧ ∀ x33 : Int32, x33 = scx x31.toNatClampNeg → (ob S16 v2 11 ∧ (kk + 8 ≤ rm_L_law.cells ∧ nn + 7937 ≤ rm_L_law.slots ∧ (P_X11_there v2 x21 x24 x27 x30 x33 (fun x36 S34 => Gr S16 S34 → (P_L_law_2341 scL scx Q X23 v1 v2 v3 v4 (kk + 8) (nn + 7937) S34)) S16)))))))))))))) S))))))))))))
set_option maxRecDepth 20000 in
set_option maxHeartbeats 4000000 in
theorem T_L_law_1539 {X : CX} {Q : Int32 → HS → Prop} {scb scL : Nat} {scx : Nat → Int32} (C : Cx X cL_law RL 7 rm_L_law) (E : LE X scb scL scx Q) (ht : LD X) (hn : True) {X23 : Nat → Nat → Nat → Int32 → Nat → Nat → HS → Prop} (hX23 : ∀ (v1 : Nat) (v2 : Nat) (v3 : Nat) (v4 : Int32) (kk : Nat) (nn : Nat) (S : HS), X23 v1 v2 v3 v4 kk nn S → WS X 7 kk nn 23 [(0, .ref scb), (1, .ref v1), (2, .ref v2), (3, .ref v3), (4, .int v4)] [] S) {v1 : Nat} {v2 : Nat} {v3 : Nat} {v4 : Int32} {kk : Nat} {nn : Nat} {S : HS} (h : P_L_law_1539 scL scx Q X23 v1 v2 v3 v4 kk nn S) : WS X 7 kk nn 1539 [(0, .ref scb), (1, .ref v1), (2, .ref v2), (3, .ref v3), (4, .int v4)] [] S := by
  refine r_aload_n (pc := 1539) C dL_law_1539 1 rfl ?_
  refine r_aload_n (pc := 1540) C dL_law_1540 0 rfl ?_
  refine r_iload (pc := 1541) C dL_law_1541 4 rfl ?_
  refine r_iconst (pc := 1543) C (v := (1 : Int32)) dL_law_1543 (by decide) ?_
  refine r_iadd (pc := 1544) C dL_law_1544 ?_
  refine r_topi (fun x1 ex1 => ?_)
  have h := h x1 ex1
  obtain ⟨i2, h⟩ := h
  refine r_scLd (pc := 1545) C E i2 dL_law_1545 ?_
  refine r_topi (fun x3 ex3 => ?_)
  have h := h x3 ex3
  refine r_aload_n (pc := 1546) C dL_law_1546 0 rfl ?_
  refine r_iload (pc := 1547) C dL_law_1547 4 rfl ?_
  refine r_iconst (pc := 1549) C (v := (2 : Int32)) dL_law_1549 (by decide) ?_
  refine r_iadd (pc := 1550) C dL_law_1550 ?_
  refine r_topi (fun x4 ex4 => ?_)
  have h := h x4 ex4
  obtain ⟨i5, h⟩ := h
  refine r_scLd (pc := 1551) C E i5 dL_law_1551 ?_
  refine r_topi (fun x6 ex6 => ?_)
  have h := h x6 ex6
  refine r_aload_n (pc := 1552) C dL_law_1552 0 rfl ?_
  refine r_iload (pc := 1553) C dL_law_1553 4 rfl ?_
  refine r_iconst (pc := 1555) C (v := (3 : Int32)) dL_law_1555 (by decide) ?_
  refine r_iadd (pc := 1556) C dL_law_1556 ?_
  refine r_topi (fun x7 ex7 => ?_)
  have h := h x7 ex7
  obtain ⟨i8, h⟩ := h
  refine r_scLd (pc := 1557) C E i8 dL_law_1557 ?_
  refine r_topi (fun x9 ex9 => ?_)
  have h := h x9 ex9
  refine r_aload_n (pc := 1558) C dL_law_1558 0 rfl ?_
  refine r_iload (pc := 1559) C dL_law_1559 4 rfl ?_
  refine r_iconst (pc := 1561) C (v := (4 : Int32)) dL_law_1561 (by decide) ?_
  refine r_iadd (pc := 1562) C dL_law_1562 ?_
  refine r_topi (fun x10 ex10 => ?_)
  have h := h x10 ex10
  obtain ⟨i11, h⟩ := h
  refine r_scLd (pc := 1563) C E i11 dL_law_1563 ?_
  refine r_topi (fun x12 ex12 => ?_)
  have h := h x12 ex12
  refine r_aload_n (pc := 1564) C dL_law_1564 0 rfl ?_
  refine r_iload (pc := 1565) C dL_law_1565 4 rfl ?_
  refine r_iconst (pc := 1567) C (v := (5 : Int32)) dL_law_1567 (by decide) ?_
  refine r_iadd (pc := 1568) C dL_law_1568 ?_
  refine r_topi (fun x13 ex13 => ?_)
  have h := h x13 ex13
  obtain ⟨i14, h⟩ := h
  refine r_scLd (pc := 1569) C E i14 dL_law_1569 ?_
  refine r_topi (fun x15 ex15 => ?_)
  have h := h x15 ex15
  obtain ⟨o_v1, h⟩ := h
  obtain ⟨hk, hk2, h⟩ := h
  refine r_callVi (pc := 1570) C (rest := []) (a := v1) o_v1 [.int x3, .int x6, .int x9, .int x12, .int x15] yV_X9_there g_900 (c_X9_there h) dL_law_1570 rfl rfl (Nat.le_of_ble_eq_true rfl) ⟨by decide, by decide⟩ ⟨hk, hk2⟩ (fun x18 S16 h g17 => ?_)
  have h := h g17
  have o_v1 := gr_ob g17 o_v1
  refine r_pop (pc := 1573) C dL_law_1573 rfl ?_
  refine r_aload_n (pc := 1574) C dL_law_1574 2 rfl ?_
  refine r_aload_n (pc := 1575) C dL_law_1575 0 rfl ?_
  refine r_iload (pc := 1576) C dL_law_1576 4 rfl ?_
  refine r_iconst (pc := 1578) C (v := (1 : Int32)) dL_law_1578 (by decide) ?_
  refine r_iadd (pc := 1579) C dL_law_1579 ?_
  refine r_topi (fun x19 ex19 => ?_)
  have h := h x19 ex19
  obtain ⟨i20, h⟩ := h
  refine r_scLd (pc := 1580) C E i20 dL_law_1580 ?_
  refine r_topi (fun x21 ex21 => ?_)
  have h := h x21 ex21
  refine r_aload_n (pc := 1581) C dL_law_1581 0 rfl ?_
  refine r_iload (pc := 1582) C dL_law_1582 4 rfl ?_
  refine r_iconst (pc := 1584) C (v := (2 : Int32)) dL_law_1584 (by decide) ?_
  refine r_iadd (pc := 1585) C dL_law_1585 ?_
  refine r_topi (fun x22 ex22 => ?_)
  have h := h x22 ex22
  obtain ⟨i23, h⟩ := h
  refine r_scLd (pc := 1586) C E i23 dL_law_1586 ?_
  refine r_topi (fun x24 ex24 => ?_)
  have h := h x24 ex24
  refine r_aload_n (pc := 1587) C dL_law_1587 0 rfl ?_
  refine r_iload (pc := 1588) C dL_law_1588 4 rfl ?_
  refine r_iconst (pc := 1590) C (v := (3 : Int32)) dL_law_1590 (by decide) ?_
  refine r_iadd (pc := 1591) C dL_law_1591 ?_
  refine r_topi (fun x25 ex25 => ?_)
  have h := h x25 ex25
  obtain ⟨i26, h⟩ := h
  refine r_scLd (pc := 1592) C E i26 dL_law_1592 ?_
  refine r_topi (fun x27 ex27 => ?_)
  have h := h x27 ex27
  refine r_aload_n (pc := 1593) C dL_law_1593 0 rfl ?_
  refine r_iload (pc := 1594) C dL_law_1594 4 rfl ?_
  refine r_iconst (pc := 1596) C (v := (4 : Int32)) dL_law_1596 (by decide) ?_
  refine r_iadd (pc := 1597) C dL_law_1597 ?_
  refine r_topi (fun x28 ex28 => ?_)
  have h := h x28 ex28
  obtain ⟨i29, h⟩ := h
  refine r_scLd (pc := 1598) C E i29 dL_law_1598 ?_
  refine r_topi (fun x30 ex30 => ?_)
  have h := h x30 ex30
  refine r_aload_n (pc := 1599) C dL_law_1599 0 rfl ?_
  refine r_iload (pc := 1600) C dL_law_1600 4 rfl ?_
  refine r_iconst (pc := 1602) C (v := (5 : Int32)) dL_law_1602 (by decide) ?_
  refine r_iadd (pc := 1603) C dL_law_1603 ?_
  refine r_topi (fun x31 ex31 => ?_)
  have h := h x31 ex31
  obtain ⟨i32, h⟩ := h
  refine r_scLd (pc := 1604) C E i32 dL_law_1604 ?_
  refine r_topi (fun x33 ex33 => ?_)
  have h := h x33 ex33
  obtain ⟨o_v2, h⟩ := h
  obtain ⟨hk, hk2, h⟩ := h
  refine r_callVi0 (pc := 1605) C (rest := []) (a := v2) o_v2 [.int x21, .int x24, .int x27, .int x30, .int x33] yV_X11_there g_1727 (c_X11_there h) dL_law_1605 rfl rfl (Nat.le_of_ble_eq_true rfl) ⟨by decide, by decide⟩ ⟨hk, hk2⟩ ⟨rfl, rfl⟩ (fun x36 S34 h g35 => ?_)
  have h := h g35
  have o_v1 := gr_ob g35 o_v1
  have o_v2 := gr_ob g35 o_v2
  refine r_pop (pc := 1608) C dL_law_1608 rfl ?_
  refine r_goto (pc := 1609) C (tgt := 2341) dL_law_1609 (by decide) ?_
  exact r_sub [0, 1, 2, 3, 4] rfl (T_L_law_2341 C E ht hn hX23 h)
def P_L_law_1612 (scL : Nat) (scx : Nat → Int32) (Q : Int32 → HS → Prop) (X23 : Nat → Nat → Nat → Int32 → Nat → Nat → HS → Prop) (v1 : Nat) (v2 : Nat) (v3 : Nat) (v4 : Int32) (kk : Nat) (nn : Nat) (S : HS) : Prop := ∀ x1 : Int32, x1 = v4 + (1 : Int32) → (vp_in x1 scL ∧ ∀ x3 : Int32, x3 = scx x1.toNatClampNeg → (∀ x4 : Int32, x4 = v4 + (2 : Int32) → (vp_in x4 scL ∧ ∀ x6 : Int32, x6 = scx x4.toNatClampNeg → (∀ x7 : Int32, x7 = v4 + (3 : Int32) → (vp_in x7 scL ∧ ∀ x9 : Int32, x9 = scx x7.toNatClampNeg → (∀ x10 : Int32, x10 = v4 + (4 : Int32) → (vp_in x10 scL ∧ ∀ x12 : Int32, x12 = scx x10.toNatClampNeg → (∀ x13 : Int32, x13 = v4 + (5 : Int32) → (vp_in x13 scL ∧ ∀ x15 : Int32, x15 = scx x13.toNatClampNeg → (ob S v1 9 ∧ (kk + 8 ≤ rm_L_law.cells ∧ nn + 7937 ≤ rm_L_law.slots ∧ (P_X9_steps v1 x3 x6 x9 x12 x15 (fun x18 S16 => Gr S S16 → (∀ x19 : Int32, x19 = v4 + (1 : Int32) → (vp_in x19 scL ∧ ∀ x21 : Int32, x21 = scx x19.toNatClampNeg → (∀ x22 : Int32, x22 = v4 + (2 : Int32) → (vp_in x22 scL ∧ ∀ x24 : Int32, x24 = scx x22.toNatClampNeg → (∀ x25 : Int32, x25 = v4 + (3 : Int32) → (vp_in x25 scL ∧ ∀ x27 : Int32, x27 = scx x25.toNatClampNeg → (∀ x28 : Int32, x28 = v4 + (4 : Int32) → (vp_in x28 scL ∧ ∀ x30 : Int32, x30 = scx x28.toNatClampNeg → (∀ x31 : Int32, x31 = v4 + (5 : Int32) → (vp_in x31 scL ∧ ∀ x33 : Int32, x33 = scx x31.toNatClampNeg → (ob S16 v2 11 ∧ (kk + 8 ≤ rm_L_law.cells ∧ nn + 7937 ≤ rm_L_law.slots ∧ (P_X11_steps v2 x21 x24 x27 x30 x33 (fun x36 S34 => Gr S16 S34 → (P_L_law_2341 scL scx Q X23 v1 v2 v3 v4 (kk + 8) (nn + 7937) S34)) S16)))))))))))))) S))))))))))))
set_option maxRecDepth 20000 in
set_option maxHeartbeats 4000000 in
theorem T_L_law_1612 {X : CX} {Q : Int32 → HS → Prop} {scb scL : Nat} {scx : Nat → Int32} (C : Cx X cL_law RL 7 rm_L_law) (E : LE X scb scL scx Q) (ht : LD X) (hn : True) {X23 : Nat → Nat → Nat → Int32 → Nat → Nat → HS → Prop} (hX23 : ∀ (v1 : Nat) (v2 : Nat) (v3 : Nat) (v4 : Int32) (kk : Nat) (nn : Nat) (S : HS), X23 v1 v2 v3 v4 kk nn S → WS X 7 kk nn 23 [(0, .ref scb), (1, .ref v1), (2, .ref v2), (3, .ref v3), (4, .int v4)] [] S) {v1 : Nat} {v2 : Nat} {v3 : Nat} {v4 : Int32} {kk : Nat} {nn : Nat} {S : HS} (h : P_L_law_1612 scL scx Q X23 v1 v2 v3 v4 kk nn S) : WS X 7 kk nn 1612 [(0, .ref scb), (1, .ref v1), (2, .ref v2), (3, .ref v3), (4, .int v4)] [] S := by
  refine r_aload_n (pc := 1612) C dL_law_1612 1 rfl ?_
  refine r_aload_n (pc := 1613) C dL_law_1613 0 rfl ?_
  refine r_iload (pc := 1614) C dL_law_1614 4 rfl ?_
  refine r_iconst (pc := 1616) C (v := (1 : Int32)) dL_law_1616 (by decide) ?_
  refine r_iadd (pc := 1617) C dL_law_1617 ?_
  refine r_topi (fun x1 ex1 => ?_)
  have h := h x1 ex1
  obtain ⟨i2, h⟩ := h
  refine r_scLd (pc := 1618) C E i2 dL_law_1618 ?_
  refine r_topi (fun x3 ex3 => ?_)
  have h := h x3 ex3
  refine r_aload_n (pc := 1619) C dL_law_1619 0 rfl ?_
  refine r_iload (pc := 1620) C dL_law_1620 4 rfl ?_
  refine r_iconst (pc := 1622) C (v := (2 : Int32)) dL_law_1622 (by decide) ?_
  refine r_iadd (pc := 1623) C dL_law_1623 ?_
  refine r_topi (fun x4 ex4 => ?_)
  have h := h x4 ex4
  obtain ⟨i5, h⟩ := h
  refine r_scLd (pc := 1624) C E i5 dL_law_1624 ?_
  refine r_topi (fun x6 ex6 => ?_)
  have h := h x6 ex6
  refine r_aload_n (pc := 1625) C dL_law_1625 0 rfl ?_
  refine r_iload (pc := 1626) C dL_law_1626 4 rfl ?_
  refine r_iconst (pc := 1628) C (v := (3 : Int32)) dL_law_1628 (by decide) ?_
  refine r_iadd (pc := 1629) C dL_law_1629 ?_
  refine r_topi (fun x7 ex7 => ?_)
  have h := h x7 ex7
  obtain ⟨i8, h⟩ := h
  refine r_scLd (pc := 1630) C E i8 dL_law_1630 ?_
  refine r_topi (fun x9 ex9 => ?_)
  have h := h x9 ex9
  refine r_aload_n (pc := 1631) C dL_law_1631 0 rfl ?_
  refine r_iload (pc := 1632) C dL_law_1632 4 rfl ?_
  refine r_iconst (pc := 1634) C (v := (4 : Int32)) dL_law_1634 (by decide) ?_
  refine r_iadd (pc := 1635) C dL_law_1635 ?_
  refine r_topi (fun x10 ex10 => ?_)
  have h := h x10 ex10
  obtain ⟨i11, h⟩ := h
  refine r_scLd (pc := 1636) C E i11 dL_law_1636 ?_
  refine r_topi (fun x12 ex12 => ?_)
  have h := h x12 ex12
  refine r_aload_n (pc := 1637) C dL_law_1637 0 rfl ?_
  refine r_iload (pc := 1638) C dL_law_1638 4 rfl ?_
  refine r_iconst (pc := 1640) C (v := (5 : Int32)) dL_law_1640 (by decide) ?_
  refine r_iadd (pc := 1641) C dL_law_1641 ?_
  refine r_topi (fun x13 ex13 => ?_)
  have h := h x13 ex13
  obtain ⟨i14, h⟩ := h
  refine r_scLd (pc := 1642) C E i14 dL_law_1642 ?_
  refine r_topi (fun x15 ex15 => ?_)
  have h := h x15 ex15
  obtain ⟨o_v1, h⟩ := h
  obtain ⟨hk, hk2, h⟩ := h
  refine r_callVi (pc := 1643) C (rest := []) (a := v1) o_v1 [.int x3, .int x6, .int x9, .int x12, .int x15] yV_X9_steps g_908 (c_X9_steps h) dL_law_1643 rfl rfl (Nat.le_of_ble_eq_true rfl) ⟨by decide, by decide⟩ ⟨hk, hk2⟩ (fun x18 S16 h g17 => ?_)
  have h := h g17
  have o_v1 := gr_ob g17 o_v1
  refine r_pop (pc := 1646) C dL_law_1646 rfl ?_
  refine r_aload_n (pc := 1647) C dL_law_1647 2 rfl ?_
  refine r_aload_n (pc := 1648) C dL_law_1648 0 rfl ?_
  refine r_iload (pc := 1649) C dL_law_1649 4 rfl ?_
  refine r_iconst (pc := 1651) C (v := (1 : Int32)) dL_law_1651 (by decide) ?_
  refine r_iadd (pc := 1652) C dL_law_1652 ?_
  refine r_topi (fun x19 ex19 => ?_)
  have h := h x19 ex19
  obtain ⟨i20, h⟩ := h
  refine r_scLd (pc := 1653) C E i20 dL_law_1653 ?_
  refine r_topi (fun x21 ex21 => ?_)
  have h := h x21 ex21
  refine r_aload_n (pc := 1654) C dL_law_1654 0 rfl ?_
  refine r_iload (pc := 1655) C dL_law_1655 4 rfl ?_
  refine r_iconst (pc := 1657) C (v := (2 : Int32)) dL_law_1657 (by decide) ?_
  refine r_iadd (pc := 1658) C dL_law_1658 ?_
  refine r_topi (fun x22 ex22 => ?_)
  have h := h x22 ex22
  obtain ⟨i23, h⟩ := h
  refine r_scLd (pc := 1659) C E i23 dL_law_1659 ?_
  refine r_topi (fun x24 ex24 => ?_)
  have h := h x24 ex24
  refine r_aload_n (pc := 1660) C dL_law_1660 0 rfl ?_
  refine r_iload (pc := 1661) C dL_law_1661 4 rfl ?_
  refine r_iconst (pc := 1663) C (v := (3 : Int32)) dL_law_1663 (by decide) ?_
  refine r_iadd (pc := 1664) C dL_law_1664 ?_
  refine r_topi (fun x25 ex25 => ?_)
  have h := h x25 ex25
  obtain ⟨i26, h⟩ := h
  refine r_scLd (pc := 1665) C E i26 dL_law_1665 ?_
  refine r_topi (fun x27 ex27 => ?_)
  have h := h x27 ex27
  refine r_aload_n (pc := 1666) C dL_law_1666 0 rfl ?_
  refine r_iload (pc := 1667) C dL_law_1667 4 rfl ?_
  refine r_iconst (pc := 1669) C (v := (4 : Int32)) dL_law_1669 (by decide) ?_
  refine r_iadd (pc := 1670) C dL_law_1670 ?_
  refine r_topi (fun x28 ex28 => ?_)
  have h := h x28 ex28
  obtain ⟨i29, h⟩ := h
  refine r_scLd (pc := 1671) C E i29 dL_law_1671 ?_
  refine r_topi (fun x30 ex30 => ?_)
  have h := h x30 ex30
  refine r_aload_n (pc := 1672) C dL_law_1672 0 rfl ?_
  refine r_iload (pc := 1673) C dL_law_1673 4 rfl ?_
  refine r_iconst (pc := 1675) C (v := (5 : Int32)) dL_law_1675 (by decide) ?_
  refine r_iadd (pc := 1676) C dL_law_1676 ?_
  refine r_topi (fun x31 ex31 => ?_)
  have h := h x31 ex31
  obtain ⟨i32, h⟩ := h
  refine r_scLd (pc := 1677) C E i32 dL_law_1677 ?_
  refine r_topi (fun x33 ex33 => ?_)
  have h := h x33 ex33
  obtain ⟨o_v2, h⟩ := h
  obtain ⟨hk, hk2, h⟩ := h
  refine r_callVi0 (pc := 1678) C (rest := []) (a := v2) o_v2 [.int x21, .int x24, .int x27, .int x30, .int x33] yV_X11_steps g_1731 (c_X11_steps h) dL_law_1678 rfl rfl (Nat.le_of_ble_eq_true rfl) ⟨by decide, by decide⟩ ⟨hk, hk2⟩ ⟨rfl, rfl⟩ (fun x36 S34 h g35 => ?_)
  have h := h g35
  have o_v1 := gr_ob g35 o_v1
  have o_v2 := gr_ob g35 o_v2
  refine r_pop (pc := 1681) C dL_law_1681 rfl ?_
  refine r_goto (pc := 1682) C (tgt := 2341) dL_law_1682 (by decide) ?_
  exact r_sub [0, 1, 2, 3, 4] rfl (T_L_law_2341 C E ht hn hX23 h)
def P_L_law_1685 (scL : Nat) (scx : Nat → Int32) (Q : Int32 → HS → Prop) (X23 : Nat → Nat → Nat → Int32 → Nat → Nat → HS → Prop) (v1 : Nat) (v2 : Nat) (v3 : Nat) (v4 : Int32) (kk : Nat) (nn : Nat) (S : HS) : Prop := ∀ x1 : Int32, x1 = v4 + (1 : Int32) → (vp_in x1 scL ∧ ∀ x3 : Int32, x3 = scx x1.toNatClampNeg → (∀ x4 : Int32, x4 = v4 + (2 : Int32) → (vp_in x4 scL ∧ ∀ x6 : Int32, x6 = scx x4.toNatClampNeg → (∀ x7 : Int32, x7 = v4 + (3 : Int32) → (vp_in x7 scL ∧ ∀ x9 : Int32, x9 = scx x7.toNatClampNeg → (∀ x10 : Int32, x10 = v4 + (4 : Int32) → (vp_in x10 scL ∧ ∀ x12 : Int32, x12 = scx x10.toNatClampNeg → (∀ x13 : Int32, x13 = v4 + (5 : Int32) → (vp_in x13 scL ∧ ∀ x15 : Int32, x15 = scx x13.toNatClampNeg → (∀ x16 : Int32, x16 = v4 + (6 : Int32) → (vp_in x16 scL ∧ ∀ x18 : Int32, x18 = scx x16.toNatClampNeg → (ob S v1 9 ∧ (kk + 8 ≤ rm_L_law.cells ∧ nn + 7937 ≤ rm_L_law.slots ∧ (P_X9_step v1 x3 x6 x9 x12 x15 x18 (fun x21 S19 => Gr S S19 → (∀ x22 : Int32, x22 = v4 + (1 : Int32) → (vp_in x22 scL ∧ ∀ x24 : Int32, x24 = scx x22.toNatClampNeg → (∀ x25 : Int32, x25 = v4 + (2 : Int32) → (vp_in x25 scL ∧ ∀ x27 : Int32, x27 = scx x25.toNatClampNeg → (∀ x28 : Int32, x28 = v4 + (3 : Int32) → (vp_in x28 scL ∧ ∀ x30 : Int32, x30 = scx x28.toNatClampNeg → (∀ x31 : Int32, x31 = v4 + (4 : Int32) → (vp_in x31 scL ∧ ∀ x33 : Int32, x33 = scx x31.toNatClampNeg → (∀ x34 : Int32, x34 = v4 + (5 : Int32) → (vp_in x34 scL ∧ ∀ x36 : Int32, x36 = scx x34.toNatClampNeg → (∀ x37 : Int32, x37 = v4 + (6 : Int32) → (vp_in x37 scL ∧ ∀ x39 : Int32, x39 = scx x37.toNatClampNeg → (ob S19 v2 11 ∧ (kk + 8 ≤ rm_L_law.cells ∧ nn + 7937 ≤ rm_L_law.slots ∧ (P_X11_step v2 x24 x27 x30 x33 x36 x39 (fun x42 S40 => Gr S19 S40 → (P_L_law_2341 scL scx Q X23 v1 v2 v3 v4 (kk + 8) (nn + 7937) S40)) S19)))))))))))))))) S))))))))))))))
set_option maxRecDepth 20000 in
set_option maxHeartbeats 4000000 in
theorem T_L_law_1685 {X : CX} {Q : Int32 → HS → Prop} {scb scL : Nat} {scx : Nat → Int32} (C : Cx X cL_law RL 7 rm_L_law) (E : LE X scb scL scx Q) (ht : LD X) (hn : True) {X23 : Nat → Nat → Nat → Int32 → Nat → Nat → HS → Prop} (hX23 : ∀ (v1 : Nat) (v2 : Nat) (v3 : Nat) (v4 : Int32) (kk : Nat) (nn : Nat) (S : HS), X23 v1 v2 v3 v4 kk nn S → WS X 7 kk nn 23 [(0, .ref scb), (1, .ref v1), (2, .ref v2), (3, .ref v3), (4, .int v4)] [] S) {v1 : Nat} {v2 : Nat} {v3 : Nat} {v4 : Int32} {kk : Nat} {nn : Nat} {S : HS} (h : P_L_law_1685 scL scx Q X23 v1 v2 v3 v4 kk nn S) : WS X 7 kk nn 1685 [(0, .ref scb), (1, .ref v1), (2, .ref v2), (3, .ref v3), (4, .int v4)] [] S := by
  refine r_aload_n (pc := 1685) C dL_law_1685 1 rfl ?_
  refine r_aload_n (pc := 1686) C dL_law_1686 0 rfl ?_
  refine r_iload (pc := 1687) C dL_law_1687 4 rfl ?_
  refine r_iconst (pc := 1689) C (v := (1 : Int32)) dL_law_1689 (by decide) ?_
  refine r_iadd (pc := 1690) C dL_law_1690 ?_
  refine r_topi (fun x1 ex1 => ?_)
  have h := h x1 ex1
  obtain ⟨i2, h⟩ := h
  refine r_scLd (pc := 1691) C E i2 dL_law_1691 ?_
  refine r_topi (fun x3 ex3 => ?_)
  have h := h x3 ex3
  refine r_aload_n (pc := 1692) C dL_law_1692 0 rfl ?_
  refine r_iload (pc := 1693) C dL_law_1693 4 rfl ?_
  refine r_iconst (pc := 1695) C (v := (2 : Int32)) dL_law_1695 (by decide) ?_
  refine r_iadd (pc := 1696) C dL_law_1696 ?_
  refine r_topi (fun x4 ex4 => ?_)
  have h := h x4 ex4
  obtain ⟨i5, h⟩ := h
  refine r_scLd (pc := 1697) C E i5 dL_law_1697 ?_
  refine r_topi (fun x6 ex6 => ?_)
  have h := h x6 ex6
  refine r_aload_n (pc := 1698) C dL_law_1698 0 rfl ?_
  refine r_iload (pc := 1699) C dL_law_1699 4 rfl ?_
  refine r_iconst (pc := 1701) C (v := (3 : Int32)) dL_law_1701 (by decide) ?_
  refine r_iadd (pc := 1702) C dL_law_1702 ?_
  refine r_topi (fun x7 ex7 => ?_)
  have h := h x7 ex7
  obtain ⟨i8, h⟩ := h
  refine r_scLd (pc := 1703) C E i8 dL_law_1703 ?_
  refine r_topi (fun x9 ex9 => ?_)
  have h := h x9 ex9
  refine r_aload_n (pc := 1704) C dL_law_1704 0 rfl ?_
  refine r_iload (pc := 1705) C dL_law_1705 4 rfl ?_
  refine r_iconst (pc := 1707) C (v := (4 : Int32)) dL_law_1707 (by decide) ?_
  refine r_iadd (pc := 1708) C dL_law_1708 ?_
  refine r_topi (fun x10 ex10 => ?_)
  have h := h x10 ex10
  obtain ⟨i11, h⟩ := h
  refine r_scLd (pc := 1709) C E i11 dL_law_1709 ?_
  refine r_topi (fun x12 ex12 => ?_)
  have h := h x12 ex12
  refine r_aload_n (pc := 1710) C dL_law_1710 0 rfl ?_
  refine r_iload (pc := 1711) C dL_law_1711 4 rfl ?_
  refine r_iconst (pc := 1713) C (v := (5 : Int32)) dL_law_1713 (by decide) ?_
  refine r_iadd (pc := 1714) C dL_law_1714 ?_
  refine r_topi (fun x13 ex13 => ?_)
  have h := h x13 ex13
  obtain ⟨i14, h⟩ := h
  refine r_scLd (pc := 1715) C E i14 dL_law_1715 ?_
  refine r_topi (fun x15 ex15 => ?_)
  have h := h x15 ex15
  refine r_aload_n (pc := 1716) C dL_law_1716 0 rfl ?_
  refine r_iload (pc := 1717) C dL_law_1717 4 rfl ?_
  refine r_bipush (pc := 1719) C (v := (6 : Int32)) dL_law_1719 (by decide) ?_
  refine r_iadd (pc := 1721) C dL_law_1721 ?_
  refine r_topi (fun x16 ex16 => ?_)
  have h := h x16 ex16
  obtain ⟨i17, h⟩ := h
  refine r_scLd (pc := 1722) C E i17 dL_law_1722 ?_
  refine r_topi (fun x18 ex18 => ?_)
  have h := h x18 ex18
  obtain ⟨o_v1, h⟩ := h
  obtain ⟨hk, hk2, h⟩ := h
  refine r_callVi (pc := 1723) C (rest := []) (a := v1) o_v1 [.int x3, .int x6, .int x9, .int x12, .int x15, .int x18] yV_X9_step g_917 (c_X9_step h) dL_law_1723 rfl rfl (Nat.le_of_ble_eq_true rfl) ⟨by decide, by decide⟩ ⟨hk, hk2⟩ (fun x21 S19 h g20 => ?_)
  have h := h g20
  have o_v1 := gr_ob g20 o_v1
  refine r_pop (pc := 1726) C dL_law_1726 rfl ?_
  refine r_aload_n (pc := 1727) C dL_law_1727 2 rfl ?_
  refine r_aload_n (pc := 1728) C dL_law_1728 0 rfl ?_
  refine r_iload (pc := 1729) C dL_law_1729 4 rfl ?_
  refine r_iconst (pc := 1731) C (v := (1 : Int32)) dL_law_1731 (by decide) ?_
  refine r_iadd (pc := 1732) C dL_law_1732 ?_
  refine r_topi (fun x22 ex22 => ?_)
  have h := h x22 ex22
  obtain ⟨i23, h⟩ := h
  refine r_scLd (pc := 1733) C E i23 dL_law_1733 ?_
  refine r_topi (fun x24 ex24 => ?_)
  have h := h x24 ex24
  refine r_aload_n (pc := 1734) C dL_law_1734 0 rfl ?_
  refine r_iload (pc := 1735) C dL_law_1735 4 rfl ?_
  refine r_iconst (pc := 1737) C (v := (2 : Int32)) dL_law_1737 (by decide) ?_
  refine r_iadd (pc := 1738) C dL_law_1738 ?_
  refine r_topi (fun x25 ex25 => ?_)
  have h := h x25 ex25
  obtain ⟨i26, h⟩ := h
  refine r_scLd (pc := 1739) C E i26 dL_law_1739 ?_
  refine r_topi (fun x27 ex27 => ?_)
  have h := h x27 ex27
  refine r_aload_n (pc := 1740) C dL_law_1740 0 rfl ?_
  refine r_iload (pc := 1741) C dL_law_1741 4 rfl ?_
  refine r_iconst (pc := 1743) C (v := (3 : Int32)) dL_law_1743 (by decide) ?_
  refine r_iadd (pc := 1744) C dL_law_1744 ?_
  refine r_topi (fun x28 ex28 => ?_)
  have h := h x28 ex28
  obtain ⟨i29, h⟩ := h
  refine r_scLd (pc := 1745) C E i29 dL_law_1745 ?_
  refine r_topi (fun x30 ex30 => ?_)
  have h := h x30 ex30
  refine r_aload_n (pc := 1746) C dL_law_1746 0 rfl ?_
  refine r_iload (pc := 1747) C dL_law_1747 4 rfl ?_
  refine r_iconst (pc := 1749) C (v := (4 : Int32)) dL_law_1749 (by decide) ?_
  refine r_iadd (pc := 1750) C dL_law_1750 ?_
  refine r_topi (fun x31 ex31 => ?_)
  have h := h x31 ex31
  obtain ⟨i32, h⟩ := h
  refine r_scLd (pc := 1751) C E i32 dL_law_1751 ?_
  refine r_topi (fun x33 ex33 => ?_)
  have h := h x33 ex33
  refine r_aload_n (pc := 1752) C dL_law_1752 0 rfl ?_
  refine r_iload (pc := 1753) C dL_law_1753 4 rfl ?_
  refine r_iconst (pc := 1755) C (v := (5 : Int32)) dL_law_1755 (by decide) ?_
  refine r_iadd (pc := 1756) C dL_law_1756 ?_
  refine r_topi (fun x34 ex34 => ?_)
  have h := h x34 ex34
  obtain ⟨i35, h⟩ := h
  refine r_scLd (pc := 1757) C E i35 dL_law_1757 ?_
  refine r_topi (fun x36 ex36 => ?_)
  have h := h x36 ex36
  refine r_aload_n (pc := 1758) C dL_law_1758 0 rfl ?_
  refine r_iload (pc := 1759) C dL_law_1759 4 rfl ?_
  refine r_bipush (pc := 1761) C (v := (6 : Int32)) dL_law_1761 (by decide) ?_
  refine r_iadd (pc := 1763) C dL_law_1763 ?_
  refine r_topi (fun x37 ex37 => ?_)
  have h := h x37 ex37
  obtain ⟨i38, h⟩ := h
  refine r_scLd (pc := 1764) C E i38 dL_law_1764 ?_
  refine r_topi (fun x39 ex39 => ?_)
  have h := h x39 ex39
  obtain ⟨o_v2, h⟩ := h
  obtain ⟨hk, hk2, h⟩ := h
  refine r_callVi0 (pc := 1765) C (rest := []) (a := v2) o_v2 [.int x24, .int x27, .int x30, .int x33, .int x36, .int x39] yV_X11_step g_1739 (c_X11_step h) dL_law_1765 rfl rfl (Nat.le_of_ble_eq_true rfl) ⟨by decide, by decide⟩ ⟨hk, hk2⟩ ⟨rfl, rfl⟩ (fun x42 S40 h g41 => ?_)
  have h := h g41
  have o_v1 := gr_ob g41 o_v1
  have o_v2 := gr_ob g41 o_v2
  refine r_pop (pc := 1768) C dL_law_1768 rfl ?_
  refine r_goto (pc := 1769) C (tgt := 2341) dL_law_1769 (by decide) ?_
  exact r_sub [0, 1, 2, 3, 4] rfl (T_L_law_2341 C E ht hn hX23 h)
def P_L_law_1772 (scL : Nat) (scx : Nat → Int32) (Q : Int32 → HS → Prop) (X23 : Nat → Nat → Nat → Int32 → Nat → Nat → HS → Prop) (v1 : Nat) (v2 : Nat) (v3 : Nat) (v4 : Int32) (kk : Nat) (nn : Nat) (S : HS) : Prop := ∀ x1 : Int32, x1 = v4 + (1 : Int32) → (vp_in x1 scL ∧ ∀ x3 : Int32, x3 = scx x1.toNatClampNeg → (∀ x4 : Int32, x4 = v4 + (2 : Int32) → (vp_in x4 scL ∧ ∀ x6 : Int32, x6 = scx x4.toNatClampNeg → (∀ x7 : Int32, x7 = v4 + (3 : Int32) → (vp_in x7 scL ∧ ∀ x9 : Int32, x9 = scx x7.toNatClampNeg → (∀ x10 : Int32, x10 = v4 + (4 : Int32) → (vp_in x10 scL ∧ ∀ x12 : Int32, x12 = scx x10.toNatClampNeg → (ob S v1 9 ∧ (kk + 8 ≤ rm_L_law.cells ∧ nn + 7937 ≤ rm_L_law.slots ∧ (P_X9_off v1 x3 x6 x9 x12 (fun x15 S13 => Gr S S13 → (∀ x16 : Int32, x16 = v4 + (1 : Int32) → (vp_in x16 scL ∧ ∀ x18 : Int32, x18 = scx x16.toNatClampNeg → (∀ x19 : Int32, x19 = v4 + (2 : Int32) → (vp_in x19 scL ∧ ∀ x21 : Int32, x21 = scx x19.toNatClampNeg → (∀ x22 : Int32, x22 = v4 + (3 : Int32) → (vp_in x22 scL ∧ ∀ x24 : Int32, x24 = scx x22.toNatClampNeg → (∀ x25 : Int32, x25 = v4 + (4 : Int32) → (vp_in x25 scL ∧ ∀ x27 : Int32, x27 = scx x25.toNatClampNeg → (ob S13 v2 11 ∧ (kk + 8 ≤ rm_L_law.cells ∧ nn + 7937 ≤ rm_L_law.slots ∧ (P_X11_off v2 x18 x21 x24 x27 (fun x30 S28 => Gr S13 S28 → (P_L_law_2341 scL scx Q X23 v1 v2 v3 v4 (kk + 8) (nn + 7937) S28)) S13)))))))))))) S))))))))))
set_option maxRecDepth 20000 in
set_option maxHeartbeats 4000000 in
theorem T_L_law_1772 {X : CX} {Q : Int32 → HS → Prop} {scb scL : Nat} {scx : Nat → Int32} (C : Cx X cL_law RL 7 rm_L_law) (E : LE X scb scL scx Q) (ht : LD X) (hn : True) {X23 : Nat → Nat → Nat → Int32 → Nat → Nat → HS → Prop} (hX23 : ∀ (v1 : Nat) (v2 : Nat) (v3 : Nat) (v4 : Int32) (kk : Nat) (nn : Nat) (S : HS), X23 v1 v2 v3 v4 kk nn S → WS X 7 kk nn 23 [(0, .ref scb), (1, .ref v1), (2, .ref v2), (3, .ref v3), (4, .int v4)] [] S) {v1 : Nat} {v2 : Nat} {v3 : Nat} {v4 : Int32} {kk : Nat} {nn : Nat} {S : HS} (h : P_L_law_1772 scL scx Q X23 v1 v2 v3 v4 kk nn S) : WS X 7 kk nn 1772 [(0, .ref scb), (1, .ref v1), (2, .ref v2), (3, .ref v3), (4, .int v4)] [] S := by
  refine r_aload_n (pc := 1772) C dL_law_1772 1 rfl ?_
  refine r_aload_n (pc := 1773) C dL_law_1773 0 rfl ?_
  refine r_iload (pc := 1774) C dL_law_1774 4 rfl ?_
  refine r_iconst (pc := 1776) C (v := (1 : Int32)) dL_law_1776 (by decide) ?_
  refine r_iadd (pc := 1777) C dL_law_1777 ?_
  refine r_topi (fun x1 ex1 => ?_)
  have h := h x1 ex1
  obtain ⟨i2, h⟩ := h
  refine r_scLd (pc := 1778) C E i2 dL_law_1778 ?_
  refine r_topi (fun x3 ex3 => ?_)
  have h := h x3 ex3
  refine r_aload_n (pc := 1779) C dL_law_1779 0 rfl ?_
  refine r_iload (pc := 1780) C dL_law_1780 4 rfl ?_
  refine r_iconst (pc := 1782) C (v := (2 : Int32)) dL_law_1782 (by decide) ?_
  refine r_iadd (pc := 1783) C dL_law_1783 ?_
  refine r_topi (fun x4 ex4 => ?_)
  have h := h x4 ex4
  obtain ⟨i5, h⟩ := h
  refine r_scLd (pc := 1784) C E i5 dL_law_1784 ?_
  refine r_topi (fun x6 ex6 => ?_)
  have h := h x6 ex6
  refine r_aload_n (pc := 1785) C dL_law_1785 0 rfl ?_
  refine r_iload (pc := 1786) C dL_law_1786 4 rfl ?_
  refine r_iconst (pc := 1788) C (v := (3 : Int32)) dL_law_1788 (by decide) ?_
  refine r_iadd (pc := 1789) C dL_law_1789 ?_
  refine r_topi (fun x7 ex7 => ?_)
  have h := h x7 ex7
  obtain ⟨i8, h⟩ := h
  refine r_scLd (pc := 1790) C E i8 dL_law_1790 ?_
  refine r_topi (fun x9 ex9 => ?_)
  have h := h x9 ex9
  refine r_aload_n (pc := 1791) C dL_law_1791 0 rfl ?_
  refine r_iload (pc := 1792) C dL_law_1792 4 rfl ?_
  refine r_iconst (pc := 1794) C (v := (4 : Int32)) dL_law_1794 (by decide) ?_
  refine r_iadd (pc := 1795) C dL_law_1795 ?_
  refine r_topi (fun x10 ex10 => ?_)
  have h := h x10 ex10
  obtain ⟨i11, h⟩ := h
  refine r_scLd (pc := 1796) C E i11 dL_law_1796 ?_
  refine r_topi (fun x12 ex12 => ?_)
  have h := h x12 ex12
  obtain ⟨o_v1, h⟩ := h
  obtain ⟨hk, hk2, h⟩ := h
  refine r_callVi (pc := 1797) C (rest := []) (a := v1) o_v1 [.int x3, .int x6, .int x9, .int x12] yV_X9_off g_921 (c_X9_off h) dL_law_1797 rfl rfl (Nat.le_of_ble_eq_true rfl) ⟨by decide, by decide⟩ ⟨hk, hk2⟩ (fun x15 S13 h g14 => ?_)
  have h := h g14
  have o_v1 := gr_ob g14 o_v1
  refine r_pop (pc := 1800) C dL_law_1800 rfl ?_
  refine r_aload_n (pc := 1801) C dL_law_1801 2 rfl ?_
  refine r_aload_n (pc := 1802) C dL_law_1802 0 rfl ?_
  refine r_iload (pc := 1803) C dL_law_1803 4 rfl ?_
  refine r_iconst (pc := 1805) C (v := (1 : Int32)) dL_law_1805 (by decide) ?_
  refine r_iadd (pc := 1806) C dL_law_1806 ?_
  refine r_topi (fun x16 ex16 => ?_)
  have h := h x16 ex16
  obtain ⟨i17, h⟩ := h
  refine r_scLd (pc := 1807) C E i17 dL_law_1807 ?_
  refine r_topi (fun x18 ex18 => ?_)
  have h := h x18 ex18
  refine r_aload_n (pc := 1808) C dL_law_1808 0 rfl ?_
  refine r_iload (pc := 1809) C dL_law_1809 4 rfl ?_
  refine r_iconst (pc := 1811) C (v := (2 : Int32)) dL_law_1811 (by decide) ?_
  refine r_iadd (pc := 1812) C dL_law_1812 ?_
  refine r_topi (fun x19 ex19 => ?_)
  have h := h x19 ex19
  obtain ⟨i20, h⟩ := h
  refine r_scLd (pc := 1813) C E i20 dL_law_1813 ?_
  refine r_topi (fun x21 ex21 => ?_)
  have h := h x21 ex21
  refine r_aload_n (pc := 1814) C dL_law_1814 0 rfl ?_
  refine r_iload (pc := 1815) C dL_law_1815 4 rfl ?_
  refine r_iconst (pc := 1817) C (v := (3 : Int32)) dL_law_1817 (by decide) ?_
  refine r_iadd (pc := 1818) C dL_law_1818 ?_
  refine r_topi (fun x22 ex22 => ?_)
  have h := h x22 ex22
  obtain ⟨i23, h⟩ := h
  refine r_scLd (pc := 1819) C E i23 dL_law_1819 ?_
  refine r_topi (fun x24 ex24 => ?_)
  have h := h x24 ex24
  refine r_aload_n (pc := 1820) C dL_law_1820 0 rfl ?_
  refine r_iload (pc := 1821) C dL_law_1821 4 rfl ?_
  refine r_iconst (pc := 1823) C (v := (4 : Int32)) dL_law_1823 (by decide) ?_
  refine r_iadd (pc := 1824) C dL_law_1824 ?_
  refine r_topi (fun x25 ex25 => ?_)
  have h := h x25 ex25
  obtain ⟨i26, h⟩ := h
  refine r_scLd (pc := 1825) C E i26 dL_law_1825 ?_
  refine r_topi (fun x27 ex27 => ?_)
  have h := h x27 ex27
  obtain ⟨o_v2, h⟩ := h
  obtain ⟨hk, hk2, h⟩ := h
  refine r_callVi0 (pc := 1826) C (rest := []) (a := v2) o_v2 [.int x18, .int x21, .int x24, .int x27] yV_X11_off g_1743 (c_X11_off h) dL_law_1826 rfl rfl (Nat.le_of_ble_eq_true rfl) ⟨by decide, by decide⟩ ⟨hk, hk2⟩ ⟨rfl, rfl⟩ (fun x30 S28 h g29 => ?_)
  have h := h g29
  have o_v1 := gr_ob g29 o_v1
  have o_v2 := gr_ob g29 o_v2
  refine r_pop (pc := 1829) C dL_law_1829 rfl ?_
  refine r_goto (pc := 1830) C (tgt := 2341) dL_law_1830 (by decide) ?_
  exact r_sub [0, 1, 2, 3, 4] rfl (T_L_law_2341 C E ht hn hX23 h)
end
section
def P_L_law_1833 (scL : Nat) (scx : Nat → Int32) (Q : Int32 → HS → Prop) (X23 : Nat → Nat → Nat → Int32 → Nat → Nat → HS → Prop) (v1 : Nat) (v2 : Nat) (v3 : Nat) (v4 : Int32) (kk : Nat) (nn : Nat) (S : HS) : Prop := ∀ x1 : Int32, x1 = v4 + (1 : Int32) → (vp_in x1 scL ∧ ∀ x3 : Int32, x3 = scx x1.toNatClampNeg → (ob S v1 9 ∧ (kk ≤ rm_L_law.cells ∧ nn ≤ rm_L_law.slots ∧ (P_X9_fits v1 x3 (fun x6 S4 => Gr S S4 → (∀ x7 : Int32, x7 = v4 + (1 : Int32) → (vp_in x7 scL ∧ ∀ x9 : Int32, x9 = scx x7.toNatClampNeg → (ob S4 v2 11 ∧ (kk ≤ rm_L_law.cells ∧ nn ≤ rm_L_law.slots ∧ (P_X11_fits v2 x9 (fun x12 S10 => Gr S4 S10 → (P_L_law_2341 scL scx Q X23 v1 v2 v3 v4 kk nn S10)) S4)))))) S))))
set_option maxRecDepth 20000 in
set_option maxHeartbeats 4000000 in
theorem T_L_law_1833 {X : CX} {Q : Int32 → HS → Prop} {scb scL : Nat} {scx : Nat → Int32} (C : Cx X cL_law RL 7 rm_L_law) (E : LE X scb scL scx Q) (ht : LD X) (hn : True) {X23 : Nat → Nat → Nat → Int32 → Nat → Nat → HS → Prop} (hX23 : ∀ (v1 : Nat) (v2 : Nat) (v3 : Nat) (v4 : Int32) (kk : Nat) (nn : Nat) (S : HS), X23 v1 v2 v3 v4 kk nn S → WS X 7 kk nn 23 [(0, .ref scb), (1, .ref v1), (2, .ref v2), (3, .ref v3), (4, .int v4)] [] S) {v1 : Nat} {v2 : Nat} {v3 : Nat} {v4 : Int32} {kk : Nat} {nn : Nat} {S : HS} (h : P_L_law_1833 scL scx Q X23 v1 v2 v3 v4 kk nn S) : WS X 7 kk nn 1833 [(0, .ref scb), (1, .ref v1), (2, .ref v2), (3, .ref v3), (4, .int v4)] [] S := by
  refine r_aload_n (pc := 1833) C dL_law_1833 1 rfl ?_
  refine r_aload_n (pc := 1834) C dL_law_1834 0 rfl ?_
  refine r_iload (pc := 1835) C dL_law_1835 4 rfl ?_
  refine r_iconst (pc := 1837) C (v := (1 : Int32)) dL_law_1837 (by decide) ?_
  refine r_iadd (pc := 1838) C dL_law_1838 ?_
  refine r_topi (fun x1 ex1 => ?_)
  have h := h x1 ex1
  obtain ⟨i2, h⟩ := h
  refine r_scLd (pc := 1839) C E i2 dL_law_1839 ?_
  refine r_topi (fun x3 ex3 => ?_)
  have h := h x3 ex3
  obtain ⟨o_v1, h⟩ := h
  obtain ⟨hk, hk2, h⟩ := h
  refine r_callVi0 (pc := 1840) C (rest := []) (a := v1) o_v1 [.int x3] yV_X9_fits g_925 (c_X9_fits h) dL_law_1840 rfl rfl (Nat.le_of_ble_eq_true rfl) ⟨by decide, by decide⟩ ⟨hk, hk2⟩ ⟨rfl, rfl⟩ (fun x6 S4 h g5 => ?_)
  have h := h g5
  have o_v1 := gr_ob g5 o_v1
  refine r_pop (pc := 1843) C dL_law_1843 rfl ?_
  refine r_aload_n (pc := 1844) C dL_law_1844 2 rfl ?_
  refine r_aload_n (pc := 1845) C dL_law_1845 0 rfl ?_
  refine r_iload (pc := 1846) C dL_law_1846 4 rfl ?_
  refine r_iconst (pc := 1848) C (v := (1 : Int32)) dL_law_1848 (by decide) ?_
  refine r_iadd (pc := 1849) C dL_law_1849 ?_
  refine r_topi (fun x7 ex7 => ?_)
  have h := h x7 ex7
  obtain ⟨i8, h⟩ := h
  refine r_scLd (pc := 1850) C E i8 dL_law_1850 ?_
  refine r_topi (fun x9 ex9 => ?_)
  have h := h x9 ex9
  obtain ⟨o_v2, h⟩ := h
  obtain ⟨hk, hk2, h⟩ := h
  refine r_callVi0 (pc := 1851) C (rest := []) (a := v2) o_v2 [.int x9] yV_X11_fits g_1747 (c_X11_fits h) dL_law_1851 rfl rfl (Nat.le_of_ble_eq_true rfl) ⟨by decide, by decide⟩ ⟨hk, hk2⟩ ⟨rfl, rfl⟩ (fun x12 S10 h g11 => ?_)
  have h := h g11
  have o_v1 := gr_ob g11 o_v1
  have o_v2 := gr_ob g11 o_v2
  refine r_pop (pc := 1854) C dL_law_1854 rfl ?_
  refine r_goto (pc := 1855) C (tgt := 2341) dL_law_1855 (by decide) ?_
  exact r_sub [0, 1, 2, 3, 4] rfl (T_L_law_2341 C E ht hn hX23 h)
def P_L_law_1858 (scL : Nat) (scx : Nat → Int32) (Q : Int32 → HS → Prop) (X23 : Nat → Nat → Nat → Int32 → Nat → Nat → HS → Prop) (v1 : Nat) (v2 : Nat) (v3 : Nat) (v4 : Int32) (kk : Nat) (nn : Nat) (S : HS) : Prop := ∀ x1 : Int32, x1 = v4 + (1 : Int32) → (vp_in x1 scL ∧ ∀ x3 : Int32, x3 = scx x1.toNatClampNeg → (∀ x4 : Int32, x4 = v4 + (2 : Int32) → (vp_in x4 scL ∧ ∀ x6 : Int32, x6 = scx x4.toNatClampNeg → (ob S v1 9 ∧ (kk ≤ rm_L_law.cells ∧ nn ≤ rm_L_law.slots ∧ (P_X9_fit v1 x3 x6 (fun x9 S7 => Gr S S7 → (∀ x10 : Int32, x10 = v4 + (1 : Int32) → (vp_in x10 scL ∧ ∀ x12 : Int32, x12 = scx x10.toNatClampNeg → (∀ x13 : Int32, x13 = v4 + (2 : Int32) → (vp_in x13 scL ∧ ∀ x15 : Int32, x15 = scx x13.toNatClampNeg → (ob S7 v2 11 ∧ (kk ≤ rm_L_law.cells ∧ nn ≤ rm_L_law.slots ∧ (P_X11_fit v2 x12 x15 (fun x18 S16 => Gr S7 S16 → (P_L_law_2341 scL scx Q X23 v1 v2 v3 v4 kk nn S16)) S7)))))))) S))))))
set_option maxRecDepth 20000 in
set_option maxHeartbeats 4000000 in
theorem T_L_law_1858 {X : CX} {Q : Int32 → HS → Prop} {scb scL : Nat} {scx : Nat → Int32} (C : Cx X cL_law RL 7 rm_L_law) (E : LE X scb scL scx Q) (ht : LD X) (hn : True) {X23 : Nat → Nat → Nat → Int32 → Nat → Nat → HS → Prop} (hX23 : ∀ (v1 : Nat) (v2 : Nat) (v3 : Nat) (v4 : Int32) (kk : Nat) (nn : Nat) (S : HS), X23 v1 v2 v3 v4 kk nn S → WS X 7 kk nn 23 [(0, .ref scb), (1, .ref v1), (2, .ref v2), (3, .ref v3), (4, .int v4)] [] S) {v1 : Nat} {v2 : Nat} {v3 : Nat} {v4 : Int32} {kk : Nat} {nn : Nat} {S : HS} (h : P_L_law_1858 scL scx Q X23 v1 v2 v3 v4 kk nn S) : WS X 7 kk nn 1858 [(0, .ref scb), (1, .ref v1), (2, .ref v2), (3, .ref v3), (4, .int v4)] [] S := by
  refine r_aload_n (pc := 1858) C dL_law_1858 1 rfl ?_
  refine r_aload_n (pc := 1859) C dL_law_1859 0 rfl ?_
  refine r_iload (pc := 1860) C dL_law_1860 4 rfl ?_
  refine r_iconst (pc := 1862) C (v := (1 : Int32)) dL_law_1862 (by decide) ?_
  refine r_iadd (pc := 1863) C dL_law_1863 ?_
  refine r_topi (fun x1 ex1 => ?_)
  have h := h x1 ex1
  obtain ⟨i2, h⟩ := h
  refine r_scLd (pc := 1864) C E i2 dL_law_1864 ?_
  refine r_topi (fun x3 ex3 => ?_)
  have h := h x3 ex3
  refine r_aload_n (pc := 1865) C dL_law_1865 0 rfl ?_
  refine r_iload (pc := 1866) C dL_law_1866 4 rfl ?_
  refine r_iconst (pc := 1868) C (v := (2 : Int32)) dL_law_1868 (by decide) ?_
  refine r_iadd (pc := 1869) C dL_law_1869 ?_
  refine r_topi (fun x4 ex4 => ?_)
  have h := h x4 ex4
  obtain ⟨i5, h⟩ := h
  refine r_scLd (pc := 1870) C E i5 dL_law_1870 ?_
  refine r_topi (fun x6 ex6 => ?_)
  have h := h x6 ex6
  obtain ⟨o_v1, h⟩ := h
  obtain ⟨hk, hk2, h⟩ := h
  refine r_callVi0 (pc := 1871) C (rest := []) (a := v1) o_v1 [.int x3, .int x6] yV_X9_fit g_949 (c_X9_fit h) dL_law_1871 rfl rfl (Nat.le_of_ble_eq_true rfl) ⟨by decide, by decide⟩ ⟨hk, hk2⟩ ⟨rfl, rfl⟩ (fun x9 S7 h g8 => ?_)
  have h := h g8
  have o_v1 := gr_ob g8 o_v1
  refine r_pop (pc := 1874) C dL_law_1874 rfl ?_
  refine r_aload_n (pc := 1875) C dL_law_1875 2 rfl ?_
  refine r_aload_n (pc := 1876) C dL_law_1876 0 rfl ?_
  refine r_iload (pc := 1877) C dL_law_1877 4 rfl ?_
  refine r_iconst (pc := 1879) C (v := (1 : Int32)) dL_law_1879 (by decide) ?_
  refine r_iadd (pc := 1880) C dL_law_1880 ?_
  refine r_topi (fun x10 ex10 => ?_)
  have h := h x10 ex10
  obtain ⟨i11, h⟩ := h
  refine r_scLd (pc := 1881) C E i11 dL_law_1881 ?_
  refine r_topi (fun x12 ex12 => ?_)
  have h := h x12 ex12
  refine r_aload_n (pc := 1882) C dL_law_1882 0 rfl ?_
  refine r_iload (pc := 1883) C dL_law_1883 4 rfl ?_
  refine r_iconst (pc := 1885) C (v := (2 : Int32)) dL_law_1885 (by decide) ?_
  refine r_iadd (pc := 1886) C dL_law_1886 ?_
  refine r_topi (fun x13 ex13 => ?_)
  have h := h x13 ex13
  obtain ⟨i14, h⟩ := h
  refine r_scLd (pc := 1887) C E i14 dL_law_1887 ?_
  refine r_topi (fun x15 ex15 => ?_)
  have h := h x15 ex15
  obtain ⟨o_v2, h⟩ := h
  obtain ⟨hk, hk2, h⟩ := h
  refine r_callVi0 (pc := 1888) C (rest := []) (a := v2) o_v2 [.int x12, .int x15] yV_X11_fit g_1759 (c_X11_fit h) dL_law_1888 rfl rfl (Nat.le_of_ble_eq_true rfl) ⟨by decide, by decide⟩ ⟨hk, hk2⟩ ⟨rfl, rfl⟩ (fun x18 S16 h g17 => ?_)
  have h := h g17
  have o_v1 := gr_ob g17 o_v1
  have o_v2 := gr_ob g17 o_v2
  refine r_pop (pc := 1891) C dL_law_1891 rfl ?_
  refine r_goto (pc := 1892) C (tgt := 2341) dL_law_1892 (by decide) ?_
  exact r_sub [0, 1, 2, 3, 4] rfl (T_L_law_2341 C E ht hn hX23 h)
def P_L_law_1895 (scL : Nat) (scx : Nat → Int32) (Q : Int32 → HS → Prop) (X23 : Nat → Nat → Nat → Int32 → Nat → Nat → HS → Prop) (v1 : Nat) (v2 : Nat) (v3 : Nat) (v4 : Int32) (kk : Nat) (nn : Nat) (S : HS) : Prop := ob S v1 9 ∧ (kk ≤ rm_L_law.cells ∧ nn ≤ rm_L_law.slots ∧ (P_X9_lies v1 (fun x3 S1 => Gr S S1 → (ob S1 v2 11 ∧ (kk ≤ rm_L_law.cells ∧ nn ≤ rm_L_law.slots ∧ (P_X11_lies v2 (fun x6 S4 => Gr S1 S4 → (P_L_law_2341 scL scx Q X23 v1 v2 v3 v4 kk nn S4)) S1)))) S))
set_option maxRecDepth 20000 in
set_option maxHeartbeats 4000000 in
theorem T_L_law_1895 {X : CX} {Q : Int32 → HS → Prop} {scb scL : Nat} {scx : Nat → Int32} (C : Cx X cL_law RL 7 rm_L_law) (E : LE X scb scL scx Q) (ht : LD X) (hn : True) {X23 : Nat → Nat → Nat → Int32 → Nat → Nat → HS → Prop} (hX23 : ∀ (v1 : Nat) (v2 : Nat) (v3 : Nat) (v4 : Int32) (kk : Nat) (nn : Nat) (S : HS), X23 v1 v2 v3 v4 kk nn S → WS X 7 kk nn 23 [(0, .ref scb), (1, .ref v1), (2, .ref v2), (3, .ref v3), (4, .int v4)] [] S) {v1 : Nat} {v2 : Nat} {v3 : Nat} {v4 : Int32} {kk : Nat} {nn : Nat} {S : HS} (h : P_L_law_1895 scL scx Q X23 v1 v2 v3 v4 kk nn S) : WS X 7 kk nn 1895 [(0, .ref scb), (1, .ref v1), (2, .ref v2), (3, .ref v3), (4, .int v4)] [] S := by
  refine r_aload_n (pc := 1895) C dL_law_1895 1 rfl ?_
  obtain ⟨o_v1, h⟩ := h
  obtain ⟨hk, hk2, h⟩ := h
  refine r_callVi0 (pc := 1896) C (rest := []) (a := v1) o_v1 [] yV_X9_lies g_957 (c_X9_lies h) dL_law_1896 rfl rfl (Nat.le_of_ble_eq_true rfl) ⟨by decide, by decide⟩ ⟨hk, hk2⟩ ⟨rfl, rfl⟩ (fun x3 S1 h g2 => ?_)
  have h := h g2
  have o_v1 := gr_ob g2 o_v1
  refine r_pop (pc := 1899) C dL_law_1899 rfl ?_
  refine r_aload_n (pc := 1900) C dL_law_1900 2 rfl ?_
  obtain ⟨o_v2, h⟩ := h
  obtain ⟨hk, hk2, h⟩ := h
  refine r_callVi0 (pc := 1901) C (rest := []) (a := v2) o_v2 [] yV_X11_lies g_1763 (c_X11_lies h) dL_law_1901 rfl rfl (Nat.le_of_ble_eq_true rfl) ⟨by decide, by decide⟩ ⟨hk, hk2⟩ ⟨rfl, rfl⟩ (fun x6 S4 h g5 => ?_)
  have h := h g5
  have o_v1 := gr_ob g5 o_v1
  have o_v2 := gr_ob g5 o_v2
  refine r_pop (pc := 1904) C dL_law_1904 rfl ?_
  refine r_goto (pc := 1905) C (tgt := 2341) dL_law_1905 (by decide) ?_
  exact r_sub [0, 1, 2, 3, 4] rfl (T_L_law_2341 C E ht hn hX23 h)
def P_L_law_1908 (scL : Nat) (scx : Nat → Int32) (Q : Int32 → HS → Prop) (X23 : Nat → Nat → Nat → Int32 → Nat → Nat → HS → Prop) (v1 : Nat) (v2 : Nat) (v3 : Nat) (v4 : Int32) (kk : Nat) (nn : Nat) (S : HS) : Prop := ∀ x1 : Int32, x1 = v4 + (1 : Int32) → (vp_in x1 scL ∧ ∀ x3 : Int32, x3 = scx x1.toNatClampNeg → (∀ x4 : Int32, x4 = v4 + (2 : Int32) → (vp_in x4 scL ∧ ∀ x6 : Int32, x6 = scx x4.toNatClampNeg → (∀ x7 : Int32, x7 = v4 + (3 : Int32) → (vp_in x7 scL ∧ ∀ x9 : Int32, x9 = scx x7.toNatClampNeg → (∀ x10 : Int32, x10 = v4 + (4 : Int32) → (vp_in x10 scL ∧ ∀ x12 : Int32, x12 = scx x10.toNatClampNeg → (ob S v1 9 ∧ (kk ≤ rm_L_law.cells ∧ nn ≤ rm_L_law.slots ∧ (P_X9_day v1 x3 x6 x9 x12 (fun x15 S13 => Gr S S13 → (∀ x16 : Int32, x16 = v4 + (1 : Int32) → (vp_in x16 scL ∧ ∀ x18 : Int32, x18 = scx x16.toNatClampNeg → (∀ x19 : Int32, x19 = v4 + (2 : Int32) → (vp_in x19 scL ∧ ∀ x21 : Int32, x21 = scx x19.toNatClampNeg → (∀ x22 : Int32, x22 = v4 + (3 : Int32) → (vp_in x22 scL ∧ ∀ x24 : Int32, x24 = scx x22.toNatClampNeg → (∀ x25 : Int32, x25 = v4 + (4 : Int32) → (vp_in x25 scL ∧ ∀ x27 : Int32, x27 = scx x25.toNatClampNeg → (ob S13 v2 11 ∧ (kk ≤ rm_L_law.cells ∧ nn ≤ rm_L_law.slots ∧ (P_X11_day v2 x18 x21 x24 x27 (fun x30 S28 => Gr S13 S28 → (P_L_law_2341 scL scx Q X23 v1 v2 v3 v4 kk nn S28)) S13)))))))))))) S))))))))))
set_option maxRecDepth 20000 in
set_option maxHeartbeats 4000000 in
theorem T_L_law_1908 {X : CX} {Q : Int32 → HS → Prop} {scb scL : Nat} {scx : Nat → Int32} (C : Cx X cL_law RL 7 rm_L_law) (E : LE X scb scL scx Q) (ht : LD X) (hn : True) {X23 : Nat → Nat → Nat → Int32 → Nat → Nat → HS → Prop} (hX23 : ∀ (v1 : Nat) (v2 : Nat) (v3 : Nat) (v4 : Int32) (kk : Nat) (nn : Nat) (S : HS), X23 v1 v2 v3 v4 kk nn S → WS X 7 kk nn 23 [(0, .ref scb), (1, .ref v1), (2, .ref v2), (3, .ref v3), (4, .int v4)] [] S) {v1 : Nat} {v2 : Nat} {v3 : Nat} {v4 : Int32} {kk : Nat} {nn : Nat} {S : HS} (h : P_L_law_1908 scL scx Q X23 v1 v2 v3 v4 kk nn S) : WS X 7 kk nn 1908 [(0, .ref scb), (1, .ref v1), (2, .ref v2), (3, .ref v3), (4, .int v4)] [] S := by
  refine r_aload_n (pc := 1908) C dL_law_1908 1 rfl ?_
  refine r_aload_n (pc := 1909) C dL_law_1909 0 rfl ?_
  refine r_iload (pc := 1910) C dL_law_1910 4 rfl ?_
  refine r_iconst (pc := 1912) C (v := (1 : Int32)) dL_law_1912 (by decide) ?_
  refine r_iadd (pc := 1913) C dL_law_1913 ?_
  refine r_topi (fun x1 ex1 => ?_)
  have h := h x1 ex1
  obtain ⟨i2, h⟩ := h
  refine r_scLd (pc := 1914) C E i2 dL_law_1914 ?_
  refine r_topi (fun x3 ex3 => ?_)
  have h := h x3 ex3
  refine r_aload_n (pc := 1915) C dL_law_1915 0 rfl ?_
  refine r_iload (pc := 1916) C dL_law_1916 4 rfl ?_
  refine r_iconst (pc := 1918) C (v := (2 : Int32)) dL_law_1918 (by decide) ?_
  refine r_iadd (pc := 1919) C dL_law_1919 ?_
  refine r_topi (fun x4 ex4 => ?_)
  have h := h x4 ex4
  obtain ⟨i5, h⟩ := h
  refine r_scLd (pc := 1920) C E i5 dL_law_1920 ?_
  refine r_topi (fun x6 ex6 => ?_)
  have h := h x6 ex6
  refine r_aload_n (pc := 1921) C dL_law_1921 0 rfl ?_
  refine r_iload (pc := 1922) C dL_law_1922 4 rfl ?_
  refine r_iconst (pc := 1924) C (v := (3 : Int32)) dL_law_1924 (by decide) ?_
  refine r_iadd (pc := 1925) C dL_law_1925 ?_
  refine r_topi (fun x7 ex7 => ?_)
  have h := h x7 ex7
  obtain ⟨i8, h⟩ := h
  refine r_scLd (pc := 1926) C E i8 dL_law_1926 ?_
  refine r_topi (fun x9 ex9 => ?_)
  have h := h x9 ex9
  refine r_aload_n (pc := 1927) C dL_law_1927 0 rfl ?_
  refine r_iload (pc := 1928) C dL_law_1928 4 rfl ?_
  refine r_iconst (pc := 1930) C (v := (4 : Int32)) dL_law_1930 (by decide) ?_
  refine r_iadd (pc := 1931) C dL_law_1931 ?_
  refine r_topi (fun x10 ex10 => ?_)
  have h := h x10 ex10
  obtain ⟨i11, h⟩ := h
  refine r_scLd (pc := 1932) C E i11 dL_law_1932 ?_
  refine r_topi (fun x12 ex12 => ?_)
  have h := h x12 ex12
  obtain ⟨o_v1, h⟩ := h
  obtain ⟨hk, hk2, h⟩ := h
  refine r_callVi0 (pc := 1933) C (rest := []) (a := v1) o_v1 [.int x3, .int x6, .int x9, .int x12] yV_X9_day g_962 (c_X9_day h) dL_law_1933 rfl rfl (Nat.le_of_ble_eq_true rfl) ⟨by decide, by decide⟩ ⟨hk, hk2⟩ ⟨rfl, rfl⟩ (fun x15 S13 h g14 => ?_)
  have h := h g14
  have o_v1 := gr_ob g14 o_v1
  refine r_pop (pc := 1936) C dL_law_1936 rfl ?_
  refine r_aload_n (pc := 1937) C dL_law_1937 2 rfl ?_
  refine r_aload_n (pc := 1938) C dL_law_1938 0 rfl ?_
  refine r_iload (pc := 1939) C dL_law_1939 4 rfl ?_
  refine r_iconst (pc := 1941) C (v := (1 : Int32)) dL_law_1941 (by decide) ?_
  refine r_iadd (pc := 1942) C dL_law_1942 ?_
  refine r_topi (fun x16 ex16 => ?_)
  have h := h x16 ex16
  obtain ⟨i17, h⟩ := h
  refine r_scLd (pc := 1943) C E i17 dL_law_1943 ?_
  refine r_topi (fun x18 ex18 => ?_)
  have h := h x18 ex18
  refine r_aload_n (pc := 1944) C dL_law_1944 0 rfl ?_
  refine r_iload (pc := 1945) C dL_law_1945 4 rfl ?_
  refine r_iconst (pc := 1947) C (v := (2 : Int32)) dL_law_1947 (by decide) ?_
  refine r_iadd (pc := 1948) C dL_law_1948 ?_
  refine r_topi (fun x19 ex19 => ?_)
  have h := h x19 ex19
  obtain ⟨i20, h⟩ := h
  refine r_scLd (pc := 1949) C E i20 dL_law_1949 ?_
  refine r_topi (fun x21 ex21 => ?_)
  have h := h x21 ex21
  refine r_aload_n (pc := 1950) C dL_law_1950 0 rfl ?_
  refine r_iload (pc := 1951) C dL_law_1951 4 rfl ?_
  refine r_iconst (pc := 1953) C (v := (3 : Int32)) dL_law_1953 (by decide) ?_
  refine r_iadd (pc := 1954) C dL_law_1954 ?_
  refine r_topi (fun x22 ex22 => ?_)
  have h := h x22 ex22
  obtain ⟨i23, h⟩ := h
  refine r_scLd (pc := 1955) C E i23 dL_law_1955 ?_
  refine r_topi (fun x24 ex24 => ?_)
  have h := h x24 ex24
  refine r_aload_n (pc := 1956) C dL_law_1956 0 rfl ?_
  refine r_iload (pc := 1957) C dL_law_1957 4 rfl ?_
  refine r_iconst (pc := 1959) C (v := (4 : Int32)) dL_law_1959 (by decide) ?_
  refine r_iadd (pc := 1960) C dL_law_1960 ?_
  refine r_topi (fun x25 ex25 => ?_)
  have h := h x25 ex25
  obtain ⟨i26, h⟩ := h
  refine r_scLd (pc := 1961) C E i26 dL_law_1961 ?_
  refine r_topi (fun x27 ex27 => ?_)
  have h := h x27 ex27
  obtain ⟨o_v2, h⟩ := h
  obtain ⟨hk, hk2, h⟩ := h
  refine r_callVi0 (pc := 1962) C (rest := []) (a := v2) o_v2 [.int x18, .int x21, .int x24, .int x27] yV_X11_day g_1767 (c_X11_day h) dL_law_1962 rfl rfl (Nat.le_of_ble_eq_true rfl) ⟨by decide, by decide⟩ ⟨hk, hk2⟩ ⟨rfl, rfl⟩ (fun x30 S28 h g29 => ?_)
  have h := h g29
  have o_v1 := gr_ob g29 o_v1
  have o_v2 := gr_ob g29 o_v2
  refine r_pop (pc := 1965) C dL_law_1965 rfl ?_
  refine r_goto (pc := 1966) C (tgt := 2341) dL_law_1966 (by decide) ?_
  exact r_sub [0, 1, 2, 3, 4] rfl (T_L_law_2341 C E ht hn hX23 h)
def P_L_law_1969 (scL : Nat) (scx : Nat → Int32) (Q : Int32 → HS → Prop) (X23 : Nat → Nat → Nat → Int32 → Nat → Nat → HS → Prop) (v1 : Nat) (v2 : Nat) (v3 : Nat) (v4 : Int32) (kk : Nat) (nn : Nat) (S : HS) : Prop := ∀ x1 : Int32, x1 = v4 + (1 : Int32) → (vp_in x1 scL ∧ ∀ x3 : Int32, x3 = scx x1.toNatClampNeg → (∀ x4 : Int32, x4 = v4 + (2 : Int32) → (vp_in x4 scL ∧ ∀ x6 : Int32, x6 = scx x4.toNatClampNeg → (∀ x7 : Int32, x7 = v4 + (3 : Int32) → (vp_in x7 scL ∧ ∀ x9 : Int32, x9 = scx x7.toNatClampNeg → (ob S v1 9 ∧ (kk ≤ rm_L_law.cells ∧ nn ≤ rm_L_law.slots ∧ (P_X9_go v1 x3 x6 x9 (fun x12 S10 => Gr S S10 → (∀ x13 : Int32, x13 = v4 + (1 : Int32) → (vp_in x13 scL ∧ ∀ x15 : Int32, x15 = scx x13.toNatClampNeg → (∀ x16 : Int32, x16 = v4 + (2 : Int32) → (vp_in x16 scL ∧ ∀ x18 : Int32, x18 = scx x16.toNatClampNeg → (∀ x19 : Int32, x19 = v4 + (3 : Int32) → (vp_in x19 scL ∧ ∀ x21 : Int32, x21 = scx x19.toNatClampNeg → (ob S10 v2 11 ∧ (kk ≤ rm_L_law.cells ∧ nn ≤ rm_L_law.slots ∧ (P_X11_go v2 x15 x18 x21 (fun x24 S22 => Gr S10 S22 → (P_L_law_2341 scL scx Q X23 v1 v2 v3 v4 kk nn S22)) S10)))))))))) S))))))))
set_option maxRecDepth 20000 in
set_option maxHeartbeats 4000000 in
theorem T_L_law_1969 {X : CX} {Q : Int32 → HS → Prop} {scb scL : Nat} {scx : Nat → Int32} (C : Cx X cL_law RL 7 rm_L_law) (E : LE X scb scL scx Q) (ht : LD X) (hn : True) {X23 : Nat → Nat → Nat → Int32 → Nat → Nat → HS → Prop} (hX23 : ∀ (v1 : Nat) (v2 : Nat) (v3 : Nat) (v4 : Int32) (kk : Nat) (nn : Nat) (S : HS), X23 v1 v2 v3 v4 kk nn S → WS X 7 kk nn 23 [(0, .ref scb), (1, .ref v1), (2, .ref v2), (3, .ref v3), (4, .int v4)] [] S) {v1 : Nat} {v2 : Nat} {v3 : Nat} {v4 : Int32} {kk : Nat} {nn : Nat} {S : HS} (h : P_L_law_1969 scL scx Q X23 v1 v2 v3 v4 kk nn S) : WS X 7 kk nn 1969 [(0, .ref scb), (1, .ref v1), (2, .ref v2), (3, .ref v3), (4, .int v4)] [] S := by
  refine r_aload_n (pc := 1969) C dL_law_1969 1 rfl ?_
  refine r_aload_n (pc := 1970) C dL_law_1970 0 rfl ?_
  refine r_iload (pc := 1971) C dL_law_1971 4 rfl ?_
  refine r_iconst (pc := 1973) C (v := (1 : Int32)) dL_law_1973 (by decide) ?_
  refine r_iadd (pc := 1974) C dL_law_1974 ?_
  refine r_topi (fun x1 ex1 => ?_)
  have h := h x1 ex1
  obtain ⟨i2, h⟩ := h
  refine r_scLd (pc := 1975) C E i2 dL_law_1975 ?_
  refine r_topi (fun x3 ex3 => ?_)
  have h := h x3 ex3
  refine r_aload_n (pc := 1976) C dL_law_1976 0 rfl ?_
  refine r_iload (pc := 1977) C dL_law_1977 4 rfl ?_
  refine r_iconst (pc := 1979) C (v := (2 : Int32)) dL_law_1979 (by decide) ?_
  refine r_iadd (pc := 1980) C dL_law_1980 ?_
  refine r_topi (fun x4 ex4 => ?_)
  have h := h x4 ex4
  obtain ⟨i5, h⟩ := h
  refine r_scLd (pc := 1981) C E i5 dL_law_1981 ?_
  refine r_topi (fun x6 ex6 => ?_)
  have h := h x6 ex6
  refine r_aload_n (pc := 1982) C dL_law_1982 0 rfl ?_
  refine r_iload (pc := 1983) C dL_law_1983 4 rfl ?_
  refine r_iconst (pc := 1985) C (v := (3 : Int32)) dL_law_1985 (by decide) ?_
  refine r_iadd (pc := 1986) C dL_law_1986 ?_
  refine r_topi (fun x7 ex7 => ?_)
  have h := h x7 ex7
  obtain ⟨i8, h⟩ := h
  refine r_scLd (pc := 1987) C E i8 dL_law_1987 ?_
  refine r_topi (fun x9 ex9 => ?_)
  have h := h x9 ex9
  obtain ⟨o_v1, h⟩ := h
  obtain ⟨hk, hk2, h⟩ := h
  refine r_callVi0 (pc := 1988) C (rest := []) (a := v1) o_v1 [.int x3, .int x6, .int x9] yV_X9_go g_977 (c_X9_go h) dL_law_1988 rfl rfl (Nat.le_of_ble_eq_true rfl) ⟨by decide, by decide⟩ ⟨hk, hk2⟩ ⟨rfl, rfl⟩ (fun x12 S10 h g11 => ?_)
  have h := h g11
  have o_v1 := gr_ob g11 o_v1
  refine r_pop (pc := 1991) C dL_law_1991 rfl ?_
  refine r_aload_n (pc := 1992) C dL_law_1992 2 rfl ?_
  refine r_aload_n (pc := 1993) C dL_law_1993 0 rfl ?_
  refine r_iload (pc := 1994) C dL_law_1994 4 rfl ?_
  refine r_iconst (pc := 1996) C (v := (1 : Int32)) dL_law_1996 (by decide) ?_
  refine r_iadd (pc := 1997) C dL_law_1997 ?_
  refine r_topi (fun x13 ex13 => ?_)
  have h := h x13 ex13
  obtain ⟨i14, h⟩ := h
  refine r_scLd (pc := 1998) C E i14 dL_law_1998 ?_
  refine r_topi (fun x15 ex15 => ?_)
  have h := h x15 ex15
  refine r_aload_n (pc := 1999) C dL_law_1999 0 rfl ?_
  refine r_iload (pc := 2000) C dL_law_2000 4 rfl ?_
  refine r_iconst (pc := 2002) C (v := (2 : Int32)) dL_law_2002 (by decide) ?_
  refine r_iadd (pc := 2003) C dL_law_2003 ?_
  refine r_topi (fun x16 ex16 => ?_)
  have h := h x16 ex16
  obtain ⟨i17, h⟩ := h
  refine r_scLd (pc := 2004) C E i17 dL_law_2004 ?_
  refine r_topi (fun x18 ex18 => ?_)
  have h := h x18 ex18
  refine r_aload_n (pc := 2005) C dL_law_2005 0 rfl ?_
  refine r_iload (pc := 2006) C dL_law_2006 4 rfl ?_
  refine r_iconst (pc := 2008) C (v := (3 : Int32)) dL_law_2008 (by decide) ?_
  refine r_iadd (pc := 2009) C dL_law_2009 ?_
  refine r_topi (fun x19 ex19 => ?_)
  have h := h x19 ex19
  obtain ⟨i20, h⟩ := h
  refine r_scLd (pc := 2010) C E i20 dL_law_2010 ?_
  refine r_topi (fun x21 ex21 => ?_)
  have h := h x21 ex21
  obtain ⟨o_v2, h⟩ := h
  obtain ⟨hk, hk2, h⟩ := h
  refine r_callVi0 (pc := 2011) C (rest := []) (a := v2) o_v2 [.int x15, .int x18, .int x21] yV_X11_go g_1775 (c_X11_go h) dL_law_2011 rfl rfl (Nat.le_of_ble_eq_true rfl) ⟨by decide, by decide⟩ ⟨hk, hk2⟩ ⟨rfl, rfl⟩ (fun x24 S22 h g23 => ?_)
  have h := h g23
  have o_v1 := gr_ob g23 o_v1
  have o_v2 := gr_ob g23 o_v2
  refine r_pop (pc := 2014) C dL_law_2014 rfl ?_
  refine r_goto (pc := 2015) C (tgt := 2341) dL_law_2015 (by decide) ?_
  exact r_sub [0, 1, 2, 3, 4] rfl (T_L_law_2341 C E ht hn hX23 h)
def P_L_law_2018 (scL : Nat) (scx : Nat → Int32) (Q : Int32 → HS → Prop) (X23 : Nat → Nat → Nat → Int32 → Nat → Nat → HS → Prop) (v1 : Nat) (v2 : Nat) (v3 : Nat) (v4 : Int32) (kk : Nat) (nn : Nat) (S : HS) : Prop := ∀ x1 : Int32, x1 = v4 + (1 : Int32) → (vp_in x1 scL ∧ ∀ x3 : Int32, x3 = scx x1.toNatClampNeg → (ob S v1 9 ∧ (kk ≤ rm_L_law.cells ∧ nn ≤ rm_L_law.slots ∧ (P_X9_stay v1 x3 (fun x6 S4 => Gr S S4 → bl x6 → (∀ x7 : Int32, x7 = v4 + (1 : Int32) → (vp_in x7 scL ∧ ∀ x9 : Int32, x9 = scx x7.toNatClampNeg → (ob S4 v2 11 ∧ (kk ≤ rm_L_law.cells ∧ nn ≤ rm_L_law.slots ∧ (P_X11_stay v2 x9 (fun x12 S10 => Gr S4 S10 → bl x12 → (P_L_law_2341 scL scx Q X23 v1 v2 v3 v4 kk nn S10)) S4)))))) S))))
set_option maxRecDepth 20000 in
set_option maxHeartbeats 4000000 in
theorem T_L_law_2018 {X : CX} {Q : Int32 → HS → Prop} {scb scL : Nat} {scx : Nat → Int32} (C : Cx X cL_law RL 7 rm_L_law) (E : LE X scb scL scx Q) (ht : LD X) (hn : True) {X23 : Nat → Nat → Nat → Int32 → Nat → Nat → HS → Prop} (hX23 : ∀ (v1 : Nat) (v2 : Nat) (v3 : Nat) (v4 : Int32) (kk : Nat) (nn : Nat) (S : HS), X23 v1 v2 v3 v4 kk nn S → WS X 7 kk nn 23 [(0, .ref scb), (1, .ref v1), (2, .ref v2), (3, .ref v3), (4, .int v4)] [] S) {v1 : Nat} {v2 : Nat} {v3 : Nat} {v4 : Int32} {kk : Nat} {nn : Nat} {S : HS} (h : P_L_law_2018 scL scx Q X23 v1 v2 v3 v4 kk nn S) : WS X 7 kk nn 2018 [(0, .ref scb), (1, .ref v1), (2, .ref v2), (3, .ref v3), (4, .int v4)] [] S := by
  refine r_aload_n (pc := 2018) C dL_law_2018 1 rfl ?_
  refine r_aload_n (pc := 2019) C dL_law_2019 0 rfl ?_
  refine r_iload (pc := 2020) C dL_law_2020 4 rfl ?_
  refine r_iconst (pc := 2022) C (v := (1 : Int32)) dL_law_2022 (by decide) ?_
  refine r_iadd (pc := 2023) C dL_law_2023 ?_
  refine r_topi (fun x1 ex1 => ?_)
  have h := h x1 ex1
  obtain ⟨i2, h⟩ := h
  refine r_scLd (pc := 2024) C E i2 dL_law_2024 ?_
  refine r_topi (fun x3 ex3 => ?_)
  have h := h x3 ex3
  obtain ⟨o_v1, h⟩ := h
  obtain ⟨hk, hk2, h⟩ := h
  refine r_callVi0 (pc := 2025) C (rest := []) (a := v1) o_v1 [.int x3] yV_X9_stay g_1004 (c_X9_stay h) dL_law_2025 rfl rfl (Nat.le_of_ble_eq_true rfl) ⟨by decide, by decide⟩ ⟨hk, hk2⟩ ⟨rfl, rfl⟩ (fun x6 S4 h g5 => ?_)
  have bx6 := h.1
  have h := h.2 g5 bx6
  have o_v1 := gr_ob g5 o_v1
  refine r_pop (pc := 2028) C dL_law_2028 rfl ?_
  refine r_aload_n (pc := 2029) C dL_law_2029 2 rfl ?_
  refine r_aload_n (pc := 2030) C dL_law_2030 0 rfl ?_
  refine r_iload (pc := 2031) C dL_law_2031 4 rfl ?_
  refine r_iconst (pc := 2033) C (v := (1 : Int32)) dL_law_2033 (by decide) ?_
  refine r_iadd (pc := 2034) C dL_law_2034 ?_
  refine r_topi (fun x7 ex7 => ?_)
  have h := h x7 ex7
  obtain ⟨i8, h⟩ := h
  refine r_scLd (pc := 2035) C E i8 dL_law_2035 ?_
  refine r_topi (fun x9 ex9 => ?_)
  have h := h x9 ex9
  obtain ⟨o_v2, h⟩ := h
  obtain ⟨hk, hk2, h⟩ := h
  refine r_callVi0 (pc := 2036) C (rest := []) (a := v2) o_v2 [.int x9] yV_X11_stay g_1791 (c_X11_stay h) dL_law_2036 rfl rfl (Nat.le_of_ble_eq_true rfl) ⟨by decide, by decide⟩ ⟨hk, hk2⟩ ⟨rfl, rfl⟩ (fun x12 S10 h g11 => ?_)
  have bx12 := h.1
  have h := h.2 g11 bx12
  have o_v1 := gr_ob g11 o_v1
  have o_v2 := gr_ob g11 o_v2
  refine r_pop (pc := 2039) C dL_law_2039 rfl ?_
  refine r_goto (pc := 2040) C (tgt := 2341) dL_law_2040 (by decide) ?_
  exact r_sub [0, 1, 2, 3, 4] rfl (T_L_law_2341 C E ht hn hX23 h)
def P_L_law_2089 (scL : Nat) (scx : Nat → Int32) (Q : Int32 → HS → Prop) (X23 : Nat → Nat → Nat → Int32 → Nat → Nat → HS → Prop) (v1 : Nat) (v2 : Nat) (v3 : Nat) (v4 : Int32) (s0 : Nat) (s1 : Int32) (s2 : Int32) (kk : Nat) (nn : Nat) (S : HS) : Prop := ob S s0 11 ∧ (kk ≤ rm_L_law.cells ∧ nn ≤ rm_L_law.slots ∧ (P_X11_got s0 s1 s2 (fun x3 S1 => Gr S S1 → (P_L_law_2341 scL scx Q X23 v1 v2 v3 v4 kk nn S1)) S))
set_option maxRecDepth 20000 in
set_option maxHeartbeats 4000000 in
theorem T_L_law_2089 {X : CX} {Q : Int32 → HS → Prop} {scb scL : Nat} {scx : Nat → Int32} (C : Cx X cL_law RL 7 rm_L_law) (E : LE X scb scL scx Q) (ht : LD X) (hn : True) {X23 : Nat → Nat → Nat → Int32 → Nat → Nat → HS → Prop} (hX23 : ∀ (v1 : Nat) (v2 : Nat) (v3 : Nat) (v4 : Int32) (kk : Nat) (nn : Nat) (S : HS), X23 v1 v2 v3 v4 kk nn S → WS X 7 kk nn 23 [(0, .ref scb), (1, .ref v1), (2, .ref v2), (3, .ref v3), (4, .int v4)] [] S) {v1 : Nat} {v2 : Nat} {v3 : Nat} {v4 : Int32} {s0 : Nat} {s1 : Int32} {s2 : Int32} {kk : Nat} {nn : Nat} {S : HS} (h : P_L_law_2089 scL scx Q X23 v1 v2 v3 v4 s0 s1 s2 kk nn S) : WS X 7 kk nn 2089 [(0, .ref scb), (1, .ref v1), (2, .ref v2), (3, .ref v3), (4, .int v4)] [.int s2, .int s1, .ref s0] S := by
  obtain ⟨o_s0, h⟩ := h
  obtain ⟨hk, hk2, h⟩ := h
  refine r_callVl0 (pc := 2089) C (rest := []) (a := s0) o_s0 [.int s1, .int s2] yV_X11_got g_1804 (c_X11_got h) dL_law_2089 rfl rfl (Nat.le_of_ble_eq_true rfl) ⟨by decide, by decide⟩ ⟨hk, hk2⟩ ⟨rfl, rfl⟩ (fun x3 S1 h g2 => ?_)
  have h := h g2
  have o_s0 := gr_ob g2 o_s0
  refine r_pop2 (pc := 2092) C dL_law_2092 rfl ?_
  refine r_goto (pc := 2093) C (tgt := 2341) dL_law_2093 (by decide) ?_
  exact r_sub [0, 1, 2, 3, 4] rfl (T_L_law_2341 C E ht hn hX23 h)
def P_L_law_2064 (scL : Nat) (scx : Nat → Int32) (Q : Int32 → HS → Prop) (X23 : Nat → Nat → Nat → Int32 → Nat → Nat → HS → Prop) (v1 : Nat) (v2 : Nat) (v3 : Nat) (v4 : Int32) (s0 : Nat) (s1 : Int32) (s2 : Int32) (kk : Nat) (nn : Nat) (S : HS) : Prop := ob S s0 9 ∧ (kk ≤ rm_L_law.cells ∧ nn ≤ rm_L_law.slots ∧ (P_X9_got s0 s1 s2 (fun x3 S1 => Gr S S1 → (∀ x4 : Int32, x4 = v4 + (1 : Int32) → (vp_in x4 scL ∧ ∀ x6 : Int32, x6 = scx x4.toNatClampNeg → (∀ x7 : Int32, x7 = v4 + (2 : Int32) → (vp_in x7 scL ∧ ∀ x9 : Int32, x9 = scx x7.toNatClampNeg → (((x9 = 0) → (P_L_law_2089 scL scx Q X23 v1 v2 v3 v4 v2 x6 (0 : Int32) kk nn S1)) ∧ ((¬ x9 = 0) → (P_L_law_2089 scL scx Q X23 v1 v2 v3 v4 v2 x6 (1 : Int32) kk nn S1)))))))) S))
set_option maxRecDepth 20000 in
set_option maxHeartbeats 4000000 in
theorem T_L_law_2064 {X : CX} {Q : Int32 → HS → Prop} {scb scL : Nat} {scx : Nat → Int32} (C : Cx X cL_law RL 7 rm_L_law) (E : LE X scb scL scx Q) (ht : LD X) (hn : True) {X23 : Nat → Nat → Nat → Int32 → Nat → Nat → HS → Prop} (hX23 : ∀ (v1 : Nat) (v2 : Nat) (v3 : Nat) (v4 : Int32) (kk : Nat) (nn : Nat) (S : HS), X23 v1 v2 v3 v4 kk nn S → WS X 7 kk nn 23 [(0, .ref scb), (1, .ref v1), (2, .ref v2), (3, .ref v3), (4, .int v4)] [] S) {v1 : Nat} {v2 : Nat} {v3 : Nat} {v4 : Int32} {s0 : Nat} {s1 : Int32} {s2 : Int32} {kk : Nat} {nn : Nat} {S : HS} (h : P_L_law_2064 scL scx Q X23 v1 v2 v3 v4 s0 s1 s2 kk nn S) : WS X 7 kk nn 2064 [(0, .ref scb), (1, .ref v1), (2, .ref v2), (3, .ref v3), (4, .int v4)] [.int s2, .int s1, .ref s0] S := by
  obtain ⟨o_s0, h⟩ := h
  obtain ⟨hk, hk2, h⟩ := h
  refine r_callVl0 (pc := 2064) C (rest := []) (a := s0) o_s0 [.int s1, .int s2] yV_X9_got g_1014 (c_X9_got h) dL_law_2064 rfl rfl (Nat.le_of_ble_eq_true rfl) ⟨by decide, by decide⟩ ⟨hk, hk2⟩ ⟨rfl, rfl⟩ (fun x3 S1 h g2 => ?_)
  have h := h g2
  have o_s0 := gr_ob g2 o_s0
  refine r_pop2 (pc := 2067) C dL_law_2067 rfl ?_
  refine r_aload_n (pc := 2068) C dL_law_2068 2 rfl ?_
  refine r_aload_n (pc := 2069) C dL_law_2069 0 rfl ?_
  refine r_iload (pc := 2070) C dL_law_2070 4 rfl ?_
  refine r_iconst (pc := 2072) C (v := (1 : Int32)) dL_law_2072 (by decide) ?_
  refine r_iadd (pc := 2073) C dL_law_2073 ?_
  refine r_topi (fun x4 ex4 => ?_)
  have h := h x4 ex4
  obtain ⟨i5, h⟩ := h
  refine r_scLd (pc := 2074) C E i5 dL_law_2074 ?_
  refine r_topi (fun x6 ex6 => ?_)
  have h := h x6 ex6
  refine r_aload_n (pc := 2075) C dL_law_2075 0 rfl ?_
  refine r_iload (pc := 2076) C dL_law_2076 4 rfl ?_
  refine r_iconst (pc := 2078) C (v := (2 : Int32)) dL_law_2078 (by decide) ?_
  refine r_iadd (pc := 2079) C dL_law_2079 ?_
  refine r_topi (fun x7 ex7 => ?_)
  have h := h x7 ex7
  obtain ⟨i8, h⟩ := h
  refine r_scLd (pc := 2080) C E i8 dL_law_2080 ?_
  refine r_topi (fun x9 ex9 => ?_)
  have h := h x9 ex9
  refine r_if_eq (pc := 2081) C (tgt := 2088) dL_law_2081 (by decide) (fun c10 => ?_) (fun c10 => ?_)
  · have h := h.1 c10
    refine r_iconst (pc := 2088) C (v := (0 : Int32)) dL_law_2088 (by decide) ?_
    exact r_sub [0, 1, 2, 3, 4] rfl (T_L_law_2089 C E ht hn hX23 h)
  · have h := h.2 c10
    refine r_iconst (pc := 2084) C (v := (1 : Int32)) dL_law_2084 (by decide) ?_
    refine r_goto (pc := 2085) C (tgt := 2089) dL_law_2085 (by decide) ?_
    exact r_sub [0, 1, 2, 3, 4] rfl (T_L_law_2089 C E ht hn hX23 h)
def P_L_law_2043 (scL : Nat) (scx : Nat → Int32) (Q : Int32 → HS → Prop) (X23 : Nat → Nat → Nat → Int32 → Nat → Nat → HS → Prop) (v1 : Nat) (v2 : Nat) (v3 : Nat) (v4 : Int32) (kk : Nat) (nn : Nat) (S : HS) : Prop := ∀ x1 : Int32, x1 = v4 + (1 : Int32) → (vp_in x1 scL ∧ ∀ x3 : Int32, x3 = scx x1.toNatClampNeg → (∀ x4 : Int32, x4 = v4 + (2 : Int32) → (vp_in x4 scL ∧ ∀ x6 : Int32, x6 = scx x4.toNatClampNeg → (((x6 = 0) → (P_L_law_2064 scL scx Q X23 v1 v2 v3 v4 v1 x3 (0 : Int32) kk nn S)) ∧ ((¬ x6 = 0) → (P_L_law_2064 scL scx Q X23 v1 v2 v3 v4 v1 x3 (1 : Int32) kk nn S))))))
set_option maxRecDepth 20000 in
set_option maxHeartbeats 4000000 in
theorem T_L_law_2043 {X : CX} {Q : Int32 → HS → Prop} {scb scL : Nat} {scx : Nat → Int32} (C : Cx X cL_law RL 7 rm_L_law) (E : LE X scb scL scx Q) (ht : LD X) (hn : True) {X23 : Nat → Nat → Nat → Int32 → Nat → Nat → HS → Prop} (hX23 : ∀ (v1 : Nat) (v2 : Nat) (v3 : Nat) (v4 : Int32) (kk : Nat) (nn : Nat) (S : HS), X23 v1 v2 v3 v4 kk nn S → WS X 7 kk nn 23 [(0, .ref scb), (1, .ref v1), (2, .ref v2), (3, .ref v3), (4, .int v4)] [] S) {v1 : Nat} {v2 : Nat} {v3 : Nat} {v4 : Int32} {kk : Nat} {nn : Nat} {S : HS} (h : P_L_law_2043 scL scx Q X23 v1 v2 v3 v4 kk nn S) : WS X 7 kk nn 2043 [(0, .ref scb), (1, .ref v1), (2, .ref v2), (3, .ref v3), (4, .int v4)] [] S := by
  refine r_aload_n (pc := 2043) C dL_law_2043 1 rfl ?_
  refine r_aload_n (pc := 2044) C dL_law_2044 0 rfl ?_
  refine r_iload (pc := 2045) C dL_law_2045 4 rfl ?_
  refine r_iconst (pc := 2047) C (v := (1 : Int32)) dL_law_2047 (by decide) ?_
  refine r_iadd (pc := 2048) C dL_law_2048 ?_
  refine r_topi (fun x1 ex1 => ?_)
  have h := h x1 ex1
  obtain ⟨i2, h⟩ := h
  refine r_scLd (pc := 2049) C E i2 dL_law_2049 ?_
  refine r_topi (fun x3 ex3 => ?_)
  have h := h x3 ex3
  refine r_aload_n (pc := 2050) C dL_law_2050 0 rfl ?_
  refine r_iload (pc := 2051) C dL_law_2051 4 rfl ?_
  refine r_iconst (pc := 2053) C (v := (2 : Int32)) dL_law_2053 (by decide) ?_
  refine r_iadd (pc := 2054) C dL_law_2054 ?_
  refine r_topi (fun x4 ex4 => ?_)
  have h := h x4 ex4
  obtain ⟨i5, h⟩ := h
  refine r_scLd (pc := 2055) C E i5 dL_law_2055 ?_
  refine r_topi (fun x6 ex6 => ?_)
  have h := h x6 ex6
  refine r_if_eq (pc := 2056) C (tgt := 2063) dL_law_2056 (by decide) (fun c7 => ?_) (fun c7 => ?_)
  · have h := h.1 c7
    refine r_iconst (pc := 2063) C (v := (0 : Int32)) dL_law_2063 (by decide) ?_
    exact r_sub [0, 1, 2, 3, 4] rfl (T_L_law_2064 C E ht hn hX23 h)
  · have h := h.2 c7
    refine r_iconst (pc := 2059) C (v := (1 : Int32)) dL_law_2059 (by decide) ?_
    refine r_goto (pc := 2060) C (tgt := 2064) dL_law_2060 (by decide) ?_
    exact r_sub [0, 1, 2, 3, 4] rfl (T_L_law_2064 C E ht hn hX23 h)
def P_L_law_2130 (scL : Nat) (scx : Nat → Int32) (Q : Int32 → HS → Prop) (X23 : Nat → Nat → Nat → Int32 → Nat → Nat → HS → Prop) (v1 : Nat) (v2 : Nat) (v3 : Nat) (v4 : Int32) (s0 : Nat) (s1 : Int32) (kk : Nat) (nn : Nat) (S : HS) : Prop := ob S s0 11 ∧ (kk ≤ rm_L_law.cells ∧ nn ≤ rm_L_law.slots ∧ (P_X11_wetness s0 s1 (fun x3 S1 => Gr S S1 → (P_L_law_2341 scL scx Q X23 v1 v2 v3 v4 kk nn S1)) S))
set_option maxRecDepth 20000 in
set_option maxHeartbeats 4000000 in
theorem T_L_law_2130 {X : CX} {Q : Int32 → HS → Prop} {scb scL : Nat} {scx : Nat → Int32} (C : Cx X cL_law RL 7 rm_L_law) (E : LE X scb scL scx Q) (ht : LD X) (hn : True) {X23 : Nat → Nat → Nat → Int32 → Nat → Nat → HS → Prop} (hX23 : ∀ (v1 : Nat) (v2 : Nat) (v3 : Nat) (v4 : Int32) (kk : Nat) (nn : Nat) (S : HS), X23 v1 v2 v3 v4 kk nn S → WS X 7 kk nn 23 [(0, .ref scb), (1, .ref v1), (2, .ref v2), (3, .ref v3), (4, .int v4)] [] S) {v1 : Nat} {v2 : Nat} {v3 : Nat} {v4 : Int32} {s0 : Nat} {s1 : Int32} {kk : Nat} {nn : Nat} {S : HS} (h : P_L_law_2130 scL scx Q X23 v1 v2 v3 v4 s0 s1 kk nn S) : WS X 7 kk nn 2130 [(0, .ref scb), (1, .ref v1), (2, .ref v2), (3, .ref v3), (4, .int v4)] [.int s1, .ref s0] S := by
  obtain ⟨o_s0, h⟩ := h
  obtain ⟨hk, hk2, h⟩ := h
  refine r_callVl0 (pc := 2130) C (rest := []) (a := s0) o_s0 [.int s1] yV_X11_wetness g_1808 (c_X11_wetness h) dL_law_2130 rfl rfl (Nat.le_of_ble_eq_true rfl) ⟨by decide, by decide⟩ ⟨hk, hk2⟩ ⟨rfl, rfl⟩ (fun x3 S1 h g2 => ?_)
  have h := h g2
  have o_s0 := gr_ob g2 o_s0
  refine r_pop2 (pc := 2133) C dL_law_2133 rfl ?_
  refine r_goto (pc := 2134) C (tgt := 2341) dL_law_2134 (by decide) ?_
  exact r_sub [0, 1, 2, 3, 4] rfl (T_L_law_2341 C E ht hn hX23 h)
def P_L_law_2111 (scL : Nat) (scx : Nat → Int32) (Q : Int32 → HS → Prop) (X23 : Nat → Nat → Nat → Int32 → Nat → Nat → HS → Prop) (v1 : Nat) (v2 : Nat) (v3 : Nat) (v4 : Int32) (s0 : Nat) (s1 : Int32) (kk : Nat) (nn : Nat) (S : HS) : Prop := ob S s0 9 ∧ (kk ≤ rm_L_law.cells ∧ nn ≤ rm_L_law.slots ∧ (P_X9_wetness s0 s1 (fun x3 S1 => Gr S S1 → (∀ x4 : Int32, x4 = v4 + (1 : Int32) → (vp_in x4 scL ∧ ∀ x6 : Int32, x6 = scx x4.toNatClampNeg → (((x6 = 0) → (P_L_law_2130 scL scx Q X23 v1 v2 v3 v4 v2 (0 : Int32) kk nn S1)) ∧ ((¬ x6 = 0) → (P_L_law_2130 scL scx Q X23 v1 v2 v3 v4 v2 (1 : Int32) kk nn S1)))))) S))
set_option maxRecDepth 20000 in
set_option maxHeartbeats 4000000 in
theorem T_L_law_2111 {X : CX} {Q : Int32 → HS → Prop} {scb scL : Nat} {scx : Nat → Int32} (C : Cx X cL_law RL 7 rm_L_law) (E : LE X scb scL scx Q) (ht : LD X) (hn : True) {X23 : Nat → Nat → Nat → Int32 → Nat → Nat → HS → Prop} (hX23 : ∀ (v1 : Nat) (v2 : Nat) (v3 : Nat) (v4 : Int32) (kk : Nat) (nn : Nat) (S : HS), X23 v1 v2 v3 v4 kk nn S → WS X 7 kk nn 23 [(0, .ref scb), (1, .ref v1), (2, .ref v2), (3, .ref v3), (4, .int v4)] [] S) {v1 : Nat} {v2 : Nat} {v3 : Nat} {v4 : Int32} {s0 : Nat} {s1 : Int32} {kk : Nat} {nn : Nat} {S : HS} (h : P_L_law_2111 scL scx Q X23 v1 v2 v3 v4 s0 s1 kk nn S) : WS X 7 kk nn 2111 [(0, .ref scb), (1, .ref v1), (2, .ref v2), (3, .ref v3), (4, .int v4)] [.int s1, .ref s0] S := by
  obtain ⟨o_s0, h⟩ := h
  obtain ⟨hk, hk2, h⟩ := h
  refine r_callVl0 (pc := 2111) C (rest := []) (a := s0) o_s0 [.int s1] yV_X9_wetness g_1018 (c_X9_wetness h) dL_law_2111 rfl rfl (Nat.le_of_ble_eq_true rfl) ⟨by decide, by decide⟩ ⟨hk, hk2⟩ ⟨rfl, rfl⟩ (fun x3 S1 h g2 => ?_)
  have h := h g2
  have o_s0 := gr_ob g2 o_s0
  refine r_pop2 (pc := 2114) C dL_law_2114 rfl ?_
  refine r_aload_n (pc := 2115) C dL_law_2115 2 rfl ?_
  refine r_aload_n (pc := 2116) C dL_law_2116 0 rfl ?_
  refine r_iload (pc := 2117) C dL_law_2117 4 rfl ?_
  refine r_iconst (pc := 2119) C (v := (1 : Int32)) dL_law_2119 (by decide) ?_
  refine r_iadd (pc := 2120) C dL_law_2120 ?_
  refine r_topi (fun x4 ex4 => ?_)
  have h := h x4 ex4
  obtain ⟨i5, h⟩ := h
  refine r_scLd (pc := 2121) C E i5 dL_law_2121 ?_
  refine r_topi (fun x6 ex6 => ?_)
  have h := h x6 ex6
  refine r_if_eq (pc := 2122) C (tgt := 2129) dL_law_2122 (by decide) (fun c7 => ?_) (fun c7 => ?_)
  · have h := h.1 c7
    refine r_iconst (pc := 2129) C (v := (0 : Int32)) dL_law_2129 (by decide) ?_
    exact r_sub [0, 1, 2, 3, 4] rfl (T_L_law_2130 C E ht hn hX23 h)
  · have h := h.2 c7
    refine r_iconst (pc := 2125) C (v := (1 : Int32)) dL_law_2125 (by decide) ?_
    refine r_goto (pc := 2126) C (tgt := 2130) dL_law_2126 (by decide) ?_
    exact r_sub [0, 1, 2, 3, 4] rfl (T_L_law_2130 C E ht hn hX23 h)
def P_L_law_2096 (scL : Nat) (scx : Nat → Int32) (Q : Int32 → HS → Prop) (X23 : Nat → Nat → Nat → Int32 → Nat → Nat → HS → Prop) (v1 : Nat) (v2 : Nat) (v3 : Nat) (v4 : Int32) (kk : Nat) (nn : Nat) (S : HS) : Prop := ∀ x1 : Int32, x1 = v4 + (1 : Int32) → (vp_in x1 scL ∧ ∀ x3 : Int32, x3 = scx x1.toNatClampNeg → (((x3 = 0) → (P_L_law_2111 scL scx Q X23 v1 v2 v3 v4 v1 (0 : Int32) kk nn S)) ∧ ((¬ x3 = 0) → (P_L_law_2111 scL scx Q X23 v1 v2 v3 v4 v1 (1 : Int32) kk nn S))))
set_option maxRecDepth 20000 in
set_option maxHeartbeats 4000000 in
theorem T_L_law_2096 {X : CX} {Q : Int32 → HS → Prop} {scb scL : Nat} {scx : Nat → Int32} (C : Cx X cL_law RL 7 rm_L_law) (E : LE X scb scL scx Q) (ht : LD X) (hn : True) {X23 : Nat → Nat → Nat → Int32 → Nat → Nat → HS → Prop} (hX23 : ∀ (v1 : Nat) (v2 : Nat) (v3 : Nat) (v4 : Int32) (kk : Nat) (nn : Nat) (S : HS), X23 v1 v2 v3 v4 kk nn S → WS X 7 kk nn 23 [(0, .ref scb), (1, .ref v1), (2, .ref v2), (3, .ref v3), (4, .int v4)] [] S) {v1 : Nat} {v2 : Nat} {v3 : Nat} {v4 : Int32} {kk : Nat} {nn : Nat} {S : HS} (h : P_L_law_2096 scL scx Q X23 v1 v2 v3 v4 kk nn S) : WS X 7 kk nn 2096 [(0, .ref scb), (1, .ref v1), (2, .ref v2), (3, .ref v3), (4, .int v4)] [] S := by
  refine r_aload_n (pc := 2096) C dL_law_2096 1 rfl ?_
  refine r_aload_n (pc := 2097) C dL_law_2097 0 rfl ?_
  refine r_iload (pc := 2098) C dL_law_2098 4 rfl ?_
  refine r_iconst (pc := 2100) C (v := (1 : Int32)) dL_law_2100 (by decide) ?_
  refine r_iadd (pc := 2101) C dL_law_2101 ?_
  refine r_topi (fun x1 ex1 => ?_)
  have h := h x1 ex1
  obtain ⟨i2, h⟩ := h
  refine r_scLd (pc := 2102) C E i2 dL_law_2102 ?_
  refine r_topi (fun x3 ex3 => ?_)
  have h := h x3 ex3
  refine r_if_eq (pc := 2103) C (tgt := 2110) dL_law_2103 (by decide) (fun c4 => ?_) (fun c4 => ?_)
  · have h := h.1 c4
    refine r_iconst (pc := 2110) C (v := (0 : Int32)) dL_law_2110 (by decide) ?_
    exact r_sub [0, 1, 2, 3, 4] rfl (T_L_law_2111 C E ht hn hX23 h)
  · have h := h.2 c4
    refine r_iconst (pc := 2106) C (v := (1 : Int32)) dL_law_2106 (by decide) ?_
    refine r_goto (pc := 2107) C (tgt := 2111) dL_law_2107 (by decide) ?_
    exact r_sub [0, 1, 2, 3, 4] rfl (T_L_law_2111 C E ht hn hX23 h)
def P_L_law_2137 (scL : Nat) (scx : Nat → Int32) (Q : Int32 → HS → Prop) (X23 : Nat → Nat → Nat → Int32 → Nat → Nat → HS → Prop) (v1 : Nat) (v2 : Nat) (v3 : Nat) (v4 : Int32) (kk : Nat) (nn : Nat) (S : HS) : Prop := ob S v1 9 ∧ (kk ≤ rm_L_law.cells ∧ nn ≤ rm_L_law.slots ∧ (P_X9_soaked v1 (fun x3 S1 => Gr S S1 → (ob S1 v2 11 ∧ (kk ≤ rm_L_law.cells ∧ nn ≤ rm_L_law.slots ∧ (P_X11_soaked v2 (fun x6 S4 => Gr S1 S4 → (P_L_law_2341 scL scx Q X23 v1 v2 v3 v4 kk nn S4)) S1)))) S))
set_option maxRecDepth 20000 in
set_option maxHeartbeats 4000000 in
theorem T_L_law_2137 {X : CX} {Q : Int32 → HS → Prop} {scb scL : Nat} {scx : Nat → Int32} (C : Cx X cL_law RL 7 rm_L_law) (E : LE X scb scL scx Q) (ht : LD X) (hn : True) {X23 : Nat → Nat → Nat → Int32 → Nat → Nat → HS → Prop} (hX23 : ∀ (v1 : Nat) (v2 : Nat) (v3 : Nat) (v4 : Int32) (kk : Nat) (nn : Nat) (S : HS), X23 v1 v2 v3 v4 kk nn S → WS X 7 kk nn 23 [(0, .ref scb), (1, .ref v1), (2, .ref v2), (3, .ref v3), (4, .int v4)] [] S) {v1 : Nat} {v2 : Nat} {v3 : Nat} {v4 : Int32} {kk : Nat} {nn : Nat} {S : HS} (h : P_L_law_2137 scL scx Q X23 v1 v2 v3 v4 kk nn S) : WS X 7 kk nn 2137 [(0, .ref scb), (1, .ref v1), (2, .ref v2), (3, .ref v3), (4, .int v4)] [] S := by
  refine r_aload_n (pc := 2137) C dL_law_2137 1 rfl ?_
  obtain ⟨o_v1, h⟩ := h
  obtain ⟨hk, hk2, h⟩ := h
  refine r_callVi0 (pc := 2138) C (rest := []) (a := v1) o_v1 [] yV_X9_soaked g_1032 (c_X9_soaked h) dL_law_2138 rfl rfl (Nat.le_of_ble_eq_true rfl) ⟨by decide, by decide⟩ ⟨hk, hk2⟩ ⟨rfl, rfl⟩ (fun x3 S1 h g2 => ?_)
  have h := h g2
  have o_v1 := gr_ob g2 o_v1
  refine r_pop (pc := 2141) C dL_law_2141 rfl ?_
  refine r_aload_n (pc := 2142) C dL_law_2142 2 rfl ?_
  obtain ⟨o_v2, h⟩ := h
  obtain ⟨hk, hk2, h⟩ := h
  refine r_callVi0 (pc := 2143) C (rest := []) (a := v2) o_v2 [] yV_X11_soaked g_1820 (c_X11_soaked h) dL_law_2143 rfl rfl (Nat.le_of_ble_eq_true rfl) ⟨by decide, by decide⟩ ⟨hk, hk2⟩ ⟨rfl, rfl⟩ (fun x6 S4 h g5 => ?_)
  have h := h g5
  have o_v1 := gr_ob g5 o_v1
  have o_v2 := gr_ob g5 o_v2
  refine r_pop (pc := 2146) C dL_law_2146 rfl ?_
  refine r_goto (pc := 2147) C (tgt := 2341) dL_law_2147 (by decide) ?_
  exact r_sub [0, 1, 2, 3, 4] rfl (T_L_law_2341 C E ht hn hX23 h)
def P_L_law_2150 (scL : Nat) (scx : Nat → Int32) (Q : Int32 → HS → Prop) (X23 : Nat → Nat → Nat → Int32 → Nat → Nat → HS → Prop) (v1 : Nat) (v2 : Nat) (v3 : Nat) (v4 : Int32) (kk : Nat) (nn : Nat) (S : HS) : Prop := ob S v1 9 ∧ (kk ≤ rm_L_law.cells ∧ nn ≤ rm_L_law.slots ∧ (P_X9_undo v1 (fun x3 S1 => Gr S S1 → bl x3 → (ob S1 v2 11 ∧ (kk ≤ rm_L_law.cells ∧ nn ≤ rm_L_law.slots ∧ (P_X11_undo v2 (fun x6 S4 => Gr S1 S4 → bl x6 → (P_L_law_2341 scL scx Q X23 v1 v2 v3 v4 kk nn S4)) S1)))) S))
set_option maxRecDepth 20000 in
set_option maxHeartbeats 4000000 in
theorem T_L_law_2150 {X : CX} {Q : Int32 → HS → Prop} {scb scL : Nat} {scx : Nat → Int32} (C : Cx X cL_law RL 7 rm_L_law) (E : LE X scb scL scx Q) (ht : LD X) (hn : True) {X23 : Nat → Nat → Nat → Int32 → Nat → Nat → HS → Prop} (hX23 : ∀ (v1 : Nat) (v2 : Nat) (v3 : Nat) (v4 : Int32) (kk : Nat) (nn : Nat) (S : HS), X23 v1 v2 v3 v4 kk nn S → WS X 7 kk nn 23 [(0, .ref scb), (1, .ref v1), (2, .ref v2), (3, .ref v3), (4, .int v4)] [] S) {v1 : Nat} {v2 : Nat} {v3 : Nat} {v4 : Int32} {kk : Nat} {nn : Nat} {S : HS} (h : P_L_law_2150 scL scx Q X23 v1 v2 v3 v4 kk nn S) : WS X 7 kk nn 2150 [(0, .ref scb), (1, .ref v1), (2, .ref v2), (3, .ref v3), (4, .int v4)] [] S := by
  refine r_aload_n (pc := 2150) C dL_law_2150 1 rfl ?_
  obtain ⟨o_v1, h⟩ := h
  obtain ⟨hk, hk2, h⟩ := h
  refine r_callVi0 (pc := 2151) C (rest := []) (a := v1) o_v1 [] yV_X9_undo g_1036 (c_X9_undo h) dL_law_2151 rfl rfl (Nat.le_of_ble_eq_true rfl) ⟨by decide, by decide⟩ ⟨hk, hk2⟩ ⟨rfl, rfl⟩ (fun x3 S1 h g2 => ?_)
  have bx3 := h.1
  have h := h.2 g2 bx3
  have o_v1 := gr_ob g2 o_v1
  refine r_pop (pc := 2154) C dL_law_2154 rfl ?_
  refine r_aload_n (pc := 2155) C dL_law_2155 2 rfl ?_
  obtain ⟨o_v2, h⟩ := h
  obtain ⟨hk, hk2, h⟩ := h
  refine r_callVi0 (pc := 2156) C (rest := []) (a := v2) o_v2 [] yV_X11_undo g_1824 (c_X11_undo h) dL_law_2156 rfl rfl (Nat.le_of_ble_eq_true rfl) ⟨by decide, by decide⟩ ⟨hk, hk2⟩ ⟨rfl, rfl⟩ (fun x6 S4 h g5 => ?_)
  have bx6 := h.1
  have h := h.2 g5 bx6
  have o_v1 := gr_ob g5 o_v1
  have o_v2 := gr_ob g5 o_v2
  refine r_pop (pc := 2159) C dL_law_2159 rfl ?_
  refine r_goto (pc := 2160) C (tgt := 2341) dL_law_2160 (by decide) ?_
  exact r_sub [0, 1, 2, 3, 4] rfl (T_L_law_2341 C E ht hn hX23 h)
def P_L_law_2163 (scL : Nat) (scx : Nat → Int32) (Q : Int32 → HS → Prop) (X23 : Nat → Nat → Nat → Int32 → Nat → Nat → HS → Prop) (v1 : Nat) (v2 : Nat) (v3 : Nat) (v4 : Int32) (kk : Nat) (nn : Nat) (S : HS) : Prop := ob S v1 9 ∧ (kk ≤ rm_L_law.cells ∧ nn ≤ rm_L_law.slots ∧ (P_X9_mark v1 (fun x3 S1 => Gr S S1 → (ob S1 v2 11 ∧ (kk ≤ rm_L_law.cells ∧ nn ≤ rm_L_law.slots ∧ (P_X11_mark v2 (fun x6 S4 => Gr S1 S4 → (P_L_law_2341 scL scx Q X23 v1 v2 v3 v4 kk nn S4)) S1)))) S))
set_option maxRecDepth 20000 in
set_option maxHeartbeats 4000000 in
theorem T_L_law_2163 {X : CX} {Q : Int32 → HS → Prop} {scb scL : Nat} {scx : Nat → Int32} (C : Cx X cL_law RL 7 rm_L_law) (E : LE X scb scL scx Q) (ht : LD X) (hn : True) {X23 : Nat → Nat → Nat → Int32 → Nat → Nat → HS → Prop} (hX23 : ∀ (v1 : Nat) (v2 : Nat) (v3 : Nat) (v4 : Int32) (kk : Nat) (nn : Nat) (S : HS), X23 v1 v2 v3 v4 kk nn S → WS X 7 kk nn 23 [(0, .ref scb), (1, .ref v1), (2, .ref v2), (3, .ref v3), (4, .int v4)] [] S) {v1 : Nat} {v2 : Nat} {v3 : Nat} {v4 : Int32} {kk : Nat} {nn : Nat} {S : HS} (h : P_L_law_2163 scL scx Q X23 v1 v2 v3 v4 kk nn S) : WS X 7 kk nn 2163 [(0, .ref scb), (1, .ref v1), (2, .ref v2), (3, .ref v3), (4, .int v4)] [] S := by
  refine r_aload_n (pc := 2163) C dL_law_2163 1 rfl ?_
  obtain ⟨o_v1, h⟩ := h
  obtain ⟨hk, hk2, h⟩ := h
  refine r_callVi0 (pc := 2164) C (rest := []) (a := v1) o_v1 [] yV_X9_mark g_1044 (c_X9_mark h) dL_law_2164 rfl rfl (Nat.le_of_ble_eq_true rfl) ⟨by decide, by decide⟩ ⟨hk, hk2⟩ ⟨rfl, rfl⟩ (fun x3 S1 h g2 => ?_)
  have h := h g2
  have o_v1 := gr_ob g2 o_v1
  refine r_pop (pc := 2167) C dL_law_2167 rfl ?_
  refine r_aload_n (pc := 2168) C dL_law_2168 2 rfl ?_
  obtain ⟨o_v2, h⟩ := h
  obtain ⟨hk, hk2, h⟩ := h
  refine r_callVi0 (pc := 2169) C (rest := []) (a := v2) o_v2 [] yV_X11_mark g_1828 (c_X11_mark h) dL_law_2169 rfl rfl (Nat.le_of_ble_eq_true rfl) ⟨by decide, by decide⟩ ⟨hk, hk2⟩ ⟨rfl, rfl⟩ (fun x6 S4 h g5 => ?_)
  have h := h g5
  have o_v1 := gr_ob g5 o_v1
  have o_v2 := gr_ob g5 o_v2
  refine r_pop (pc := 2172) C dL_law_2172 rfl ?_
  refine r_goto (pc := 2173) C (tgt := 2341) dL_law_2173 (by decide) ?_
  exact r_sub [0, 1, 2, 3, 4] rfl (T_L_law_2341 C E ht hn hX23 h)
def P_L_law_2176 (scL : Nat) (scx : Nat → Int32) (Q : Int32 → HS → Prop) (X23 : Nat → Nat → Nat → Int32 → Nat → Nat → HS → Prop) (v1 : Nat) (v2 : Nat) (v3 : Nat) (v4 : Int32) (kk : Nat) (nn : Nat) (S : HS) : Prop := ∀ x1 : Int32, x1 = v4 + (1 : Int32) → (vp_in x1 scL ∧ ∀ x3 : Int32, x3 = scx x1.toNatClampNeg → (ob S v1 9 ∧ (kk ≤ rm_L_law.cells ∧ nn ≤ rm_L_law.slots ∧ (P_X9_back v1 x3 (fun x6 S4 => Gr S S4 → bl x6 → (∀ x7 : Int32, x7 = v4 + (1 : Int32) → (vp_in x7 scL ∧ ∀ x9 : Int32, x9 = scx x7.toNatClampNeg → (ob S4 v2 11 ∧ (kk ≤ rm_L_law.cells ∧ nn ≤ rm_L_law.slots ∧ (P_X11_back v2 x9 (fun x12 S10 => Gr S4 S10 → bl x12 → (P_L_law_2341 scL scx Q X23 v1 v2 v3 v4 kk nn S10)) S4)))))) S))))
set_option maxRecDepth 20000 in
set_option maxHeartbeats 4000000 in
theorem T_L_law_2176 {X : CX} {Q : Int32 → HS → Prop} {scb scL : Nat} {scx : Nat → Int32} (C : Cx X cL_law RL 7 rm_L_law) (E : LE X scb scL scx Q) (ht : LD X) (hn : True) {X23 : Nat → Nat → Nat → Int32 → Nat → Nat → HS → Prop} (hX23 : ∀ (v1 : Nat) (v2 : Nat) (v3 : Nat) (v4 : Int32) (kk : Nat) (nn : Nat) (S : HS), X23 v1 v2 v3 v4 kk nn S → WS X 7 kk nn 23 [(0, .ref scb), (1, .ref v1), (2, .ref v2), (3, .ref v3), (4, .int v4)] [] S) {v1 : Nat} {v2 : Nat} {v3 : Nat} {v4 : Int32} {kk : Nat} {nn : Nat} {S : HS} (h : P_L_law_2176 scL scx Q X23 v1 v2 v3 v4 kk nn S) : WS X 7 kk nn 2176 [(0, .ref scb), (1, .ref v1), (2, .ref v2), (3, .ref v3), (4, .int v4)] [] S := by
  refine r_aload_n (pc := 2176) C dL_law_2176 1 rfl ?_
  refine r_aload_n (pc := 2177) C dL_law_2177 0 rfl ?_
  refine r_iload (pc := 2178) C dL_law_2178 4 rfl ?_
  refine r_iconst (pc := 2180) C (v := (1 : Int32)) dL_law_2180 (by decide) ?_
  refine r_iadd (pc := 2181) C dL_law_2181 ?_
  refine r_topi (fun x1 ex1 => ?_)
  have h := h x1 ex1
  obtain ⟨i2, h⟩ := h
  refine r_scLd (pc := 2182) C E i2 dL_law_2182 ?_
  refine r_topi (fun x3 ex3 => ?_)
  have h := h x3 ex3
  obtain ⟨o_v1, h⟩ := h
  obtain ⟨hk, hk2, h⟩ := h
  refine r_callVi0 (pc := 2183) C (rest := []) (a := v1) o_v1 [.int x3] yV_X9_back g_1052 (c_X9_back h) dL_law_2183 rfl rfl (Nat.le_of_ble_eq_true rfl) ⟨by decide, by decide⟩ ⟨hk, hk2⟩ ⟨rfl, rfl⟩ (fun x6 S4 h g5 => ?_)
  have bx6 := h.1
  have h := h.2 g5 bx6
  have o_v1 := gr_ob g5 o_v1
  refine r_pop (pc := 2186) C dL_law_2186 rfl ?_
  refine r_aload_n (pc := 2187) C dL_law_2187 2 rfl ?_
  refine r_aload_n (pc := 2188) C dL_law_2188 0 rfl ?_
  refine r_iload (pc := 2189) C dL_law_2189 4 rfl ?_
  refine r_iconst (pc := 2191) C (v := (1 : Int32)) dL_law_2191 (by decide) ?_
  refine r_iadd (pc := 2192) C dL_law_2192 ?_
  refine r_topi (fun x7 ex7 => ?_)
  have h := h x7 ex7
  obtain ⟨i8, h⟩ := h
  refine r_scLd (pc := 2193) C E i8 dL_law_2193 ?_
  refine r_topi (fun x9 ex9 => ?_)
  have h := h x9 ex9
  obtain ⟨o_v2, h⟩ := h
  obtain ⟨hk, hk2, h⟩ := h
  refine r_callVi0 (pc := 2194) C (rest := []) (a := v2) o_v2 [.int x9] yV_X11_back g_1832 (c_X11_back h) dL_law_2194 rfl rfl (Nat.le_of_ble_eq_true rfl) ⟨by decide, by decide⟩ ⟨hk, hk2⟩ ⟨rfl, rfl⟩ (fun x12 S10 h g11 => ?_)
  have bx12 := h.1
  have h := h.2 g11 bx12
  have o_v1 := gr_ob g11 o_v1
  have o_v2 := gr_ob g11 o_v2
  refine r_pop (pc := 2197) C dL_law_2197 rfl ?_
  refine r_goto (pc := 2198) C (tgt := 2341) dL_law_2198 (by decide) ?_
  exact r_sub [0, 1, 2, 3, 4] rfl (T_L_law_2341 C E ht hn hX23 h)
def P_L_law_2201 (scL : Nat) (scx : Nat → Int32) (Q : Int32 → HS → Prop) (X23 : Nat → Nat → Nat → Int32 → Nat → Nat → HS → Prop) (v1 : Nat) (v2 : Nat) (v3 : Nat) (v4 : Int32) (kk : Nat) (nn : Nat) (S : HS) : Prop := ∀ x1 : Int32, x1 = v4 + (1 : Int32) → (vp_in x1 scL ∧ ∀ x3 : Int32, x3 = scx x1.toNatClampNeg → (∀ x4 : Int32, x4 = v4 + (2 : Int32) → (vp_in x4 scL ∧ ∀ x6 : Int32, x6 = scx x4.toNatClampNeg → (ob S v1 9 ∧ (kk ≤ rm_L_law.cells ∧ nn ≤ rm_L_law.slots ∧ (P_X9_walker v1 x3 x6 (fun x9 S7 => Gr S S7 → (∀ x10 : Int32, x10 = v4 + (1 : Int32) → (vp_in x10 scL ∧ ∀ x12 : Int32, x12 = scx x10.toNatClampNeg → (∀ x13 : Int32, x13 = v4 + (2 : Int32) → (vp_in x13 scL ∧ ∀ x15 : Int32, x15 = scx x13.toNatClampNeg → (ob S7 v2 11 ∧ (kk ≤ rm_L_law.cells ∧ nn ≤ rm_L_law.slots ∧ (P_X11_walker v2 x12 x15 (fun x18 S16 => Gr S7 S16 → (P_L_law_2341 scL scx Q X23 v1 v2 v3 v4 kk nn S16)) S7)))))))) S))))))
set_option maxRecDepth 20000 in
set_option maxHeartbeats 4000000 in
theorem T_L_law_2201 {X : CX} {Q : Int32 → HS → Prop} {scb scL : Nat} {scx : Nat → Int32} (C : Cx X cL_law RL 7 rm_L_law) (E : LE X scb scL scx Q) (ht : LD X) (hn : True) {X23 : Nat → Nat → Nat → Int32 → Nat → Nat → HS → Prop} (hX23 : ∀ (v1 : Nat) (v2 : Nat) (v3 : Nat) (v4 : Int32) (kk : Nat) (nn : Nat) (S : HS), X23 v1 v2 v3 v4 kk nn S → WS X 7 kk nn 23 [(0, .ref scb), (1, .ref v1), (2, .ref v2), (3, .ref v3), (4, .int v4)] [] S) {v1 : Nat} {v2 : Nat} {v3 : Nat} {v4 : Int32} {kk : Nat} {nn : Nat} {S : HS} (h : P_L_law_2201 scL scx Q X23 v1 v2 v3 v4 kk nn S) : WS X 7 kk nn 2201 [(0, .ref scb), (1, .ref v1), (2, .ref v2), (3, .ref v3), (4, .int v4)] [] S := by
  refine r_aload_n (pc := 2201) C dL_law_2201 1 rfl ?_
  refine r_aload_n (pc := 2202) C dL_law_2202 0 rfl ?_
  refine r_iload (pc := 2203) C dL_law_2203 4 rfl ?_
  refine r_iconst (pc := 2205) C (v := (1 : Int32)) dL_law_2205 (by decide) ?_
  refine r_iadd (pc := 2206) C dL_law_2206 ?_
  refine r_topi (fun x1 ex1 => ?_)
  have h := h x1 ex1
  obtain ⟨i2, h⟩ := h
  refine r_scLd (pc := 2207) C E i2 dL_law_2207 ?_
  refine r_topi (fun x3 ex3 => ?_)
  have h := h x3 ex3
  refine r_aload_n (pc := 2208) C dL_law_2208 0 rfl ?_
  refine r_iload (pc := 2209) C dL_law_2209 4 rfl ?_
  refine r_iconst (pc := 2211) C (v := (2 : Int32)) dL_law_2211 (by decide) ?_
  refine r_iadd (pc := 2212) C dL_law_2212 ?_
  refine r_topi (fun x4 ex4 => ?_)
  have h := h x4 ex4
  obtain ⟨i5, h⟩ := h
  refine r_scLd (pc := 2213) C E i5 dL_law_2213 ?_
  refine r_topi (fun x6 ex6 => ?_)
  have h := h x6 ex6
  obtain ⟨o_v1, h⟩ := h
  obtain ⟨hk, hk2, h⟩ := h
  refine r_callVi0 (pc := 2214) C (rest := []) (a := v1) o_v1 [.int x3, .int x6] yV_X9_walker g_1060 (c_X9_walker h) dL_law_2214 rfl rfl (Nat.le_of_ble_eq_true rfl) ⟨by decide, by decide⟩ ⟨hk, hk2⟩ ⟨rfl, rfl⟩ (fun x9 S7 h g8 => ?_)
  have h := h g8
  have o_v1 := gr_ob g8 o_v1
  refine r_pop (pc := 2217) C dL_law_2217 rfl ?_
  refine r_aload_n (pc := 2218) C dL_law_2218 2 rfl ?_
  refine r_aload_n (pc := 2219) C dL_law_2219 0 rfl ?_
  refine r_iload (pc := 2220) C dL_law_2220 4 rfl ?_
  refine r_iconst (pc := 2222) C (v := (1 : Int32)) dL_law_2222 (by decide) ?_
  refine r_iadd (pc := 2223) C dL_law_2223 ?_
  refine r_topi (fun x10 ex10 => ?_)
  have h := h x10 ex10
  obtain ⟨i11, h⟩ := h
  refine r_scLd (pc := 2224) C E i11 dL_law_2224 ?_
  refine r_topi (fun x12 ex12 => ?_)
  have h := h x12 ex12
  refine r_aload_n (pc := 2225) C dL_law_2225 0 rfl ?_
  refine r_iload (pc := 2226) C dL_law_2226 4 rfl ?_
  refine r_iconst (pc := 2228) C (v := (2 : Int32)) dL_law_2228 (by decide) ?_
  refine r_iadd (pc := 2229) C dL_law_2229 ?_
  refine r_topi (fun x13 ex13 => ?_)
  have h := h x13 ex13
  obtain ⟨i14, h⟩ := h
  refine r_scLd (pc := 2230) C E i14 dL_law_2230 ?_
  refine r_topi (fun x15 ex15 => ?_)
  have h := h x15 ex15
  obtain ⟨o_v2, h⟩ := h
  obtain ⟨hk, hk2, h⟩ := h
  refine r_callVi0 (pc := 2231) C (rest := []) (a := v2) o_v2 [.int x12, .int x15] yV_X11_walker g_1836 (c_X11_walker h) dL_law_2231 rfl rfl (Nat.le_of_ble_eq_true rfl) ⟨by decide, by decide⟩ ⟨hk, hk2⟩ ⟨rfl, rfl⟩ (fun x18 S16 h g17 => ?_)
  have h := h g17
  have o_v1 := gr_ob g17 o_v1
  have o_v2 := gr_ob g17 o_v2
  refine r_pop (pc := 2234) C dL_law_2234 rfl ?_
  refine r_goto (pc := 2235) C (tgt := 2341) dL_law_2235 (by decide) ?_
  exact r_sub [0, 1, 2, 3, 4] rfl (T_L_law_2341 C E ht hn hX23 h)
def P_L_law_2238 (scL : Nat) (scx : Nat → Int32) (Q : Int32 → HS → Prop) (X23 : Nat → Nat → Nat → Int32 → Nat → Nat → HS → Prop) (v1 : Nat) (v2 : Nat) (v3 : Nat) (v4 : Int32) (kk : Nat) (nn : Nat) (S : HS) : Prop := ∀ x1 : Int32, x1 = v4 + (1 : Int32) → (vp_in x1 scL ∧ ∀ x3 : Int32, x3 = scx x1.toNatClampNeg → (∀ x4 : Int32, x4 = v4 + (2 : Int32) → (vp_in x4 scL ∧ ∀ x6 : Int32, x6 = scx x4.toNatClampNeg → (ob S v1 9 ∧ (kk ≤ rm_L_law.cells ∧ nn ≤ rm_L_law.slots ∧ (P_X9_road v1 x3 x6 (fun x9 S7 => Gr S S7 → (∀ x10 : Int32, x10 = v4 + (1 : Int32) → (vp_in x10 scL ∧ ∀ x12 : Int32, x12 = scx x10.toNatClampNeg → (∀ x13 : Int32, x13 = v4 + (2 : Int32) → (vp_in x13 scL ∧ ∀ x15 : Int32, x15 = scx x13.toNatClampNeg → (ob S7 v2 11 ∧ (kk ≤ rm_L_law.cells ∧ nn ≤ rm_L_law.slots ∧ (P_X11_road v2 x12 x15 (fun x18 S16 => Gr S7 S16 → (P_L_law_2341 scL scx Q X23 v1 v2 v3 v4 kk nn S16)) S7)))))))) S))))))
set_option maxRecDepth 20000 in
set_option maxHeartbeats 4000000 in
theorem T_L_law_2238 {X : CX} {Q : Int32 → HS → Prop} {scb scL : Nat} {scx : Nat → Int32} (C : Cx X cL_law RL 7 rm_L_law) (E : LE X scb scL scx Q) (ht : LD X) (hn : True) {X23 : Nat → Nat → Nat → Int32 → Nat → Nat → HS → Prop} (hX23 : ∀ (v1 : Nat) (v2 : Nat) (v3 : Nat) (v4 : Int32) (kk : Nat) (nn : Nat) (S : HS), X23 v1 v2 v3 v4 kk nn S → WS X 7 kk nn 23 [(0, .ref scb), (1, .ref v1), (2, .ref v2), (3, .ref v3), (4, .int v4)] [] S) {v1 : Nat} {v2 : Nat} {v3 : Nat} {v4 : Int32} {kk : Nat} {nn : Nat} {S : HS} (h : P_L_law_2238 scL scx Q X23 v1 v2 v3 v4 kk nn S) : WS X 7 kk nn 2238 [(0, .ref scb), (1, .ref v1), (2, .ref v2), (3, .ref v3), (4, .int v4)] [] S := by
  refine r_aload_n (pc := 2238) C dL_law_2238 1 rfl ?_
  refine r_aload_n (pc := 2239) C dL_law_2239 0 rfl ?_
  refine r_iload (pc := 2240) C dL_law_2240 4 rfl ?_
  refine r_iconst (pc := 2242) C (v := (1 : Int32)) dL_law_2242 (by decide) ?_
  refine r_iadd (pc := 2243) C dL_law_2243 ?_
  refine r_topi (fun x1 ex1 => ?_)
  have h := h x1 ex1
  obtain ⟨i2, h⟩ := h
  refine r_scLd (pc := 2244) C E i2 dL_law_2244 ?_
  refine r_topi (fun x3 ex3 => ?_)
  have h := h x3 ex3
  refine r_aload_n (pc := 2245) C dL_law_2245 0 rfl ?_
  refine r_iload (pc := 2246) C dL_law_2246 4 rfl ?_
  refine r_iconst (pc := 2248) C (v := (2 : Int32)) dL_law_2248 (by decide) ?_
  refine r_iadd (pc := 2249) C dL_law_2249 ?_
  refine r_topi (fun x4 ex4 => ?_)
  have h := h x4 ex4
  obtain ⟨i5, h⟩ := h
  refine r_scLd (pc := 2250) C E i5 dL_law_2250 ?_
  refine r_topi (fun x6 ex6 => ?_)
  have h := h x6 ex6
  obtain ⟨o_v1, h⟩ := h
  obtain ⟨hk, hk2, h⟩ := h
  refine r_callVi0 (pc := 2251) C (rest := []) (a := v1) o_v1 [.int x3, .int x6] yV_X9_road g_1068 (c_X9_road h) dL_law_2251 rfl rfl (Nat.le_of_ble_eq_true rfl) ⟨by decide, by decide⟩ ⟨hk, hk2⟩ ⟨rfl, rfl⟩ (fun x9 S7 h g8 => ?_)
  have h := h g8
  have o_v1 := gr_ob g8 o_v1
  refine r_pop (pc := 2254) C dL_law_2254 rfl ?_
  refine r_aload_n (pc := 2255) C dL_law_2255 2 rfl ?_
  refine r_aload_n (pc := 2256) C dL_law_2256 0 rfl ?_
  refine r_iload (pc := 2257) C dL_law_2257 4 rfl ?_
  refine r_iconst (pc := 2259) C (v := (1 : Int32)) dL_law_2259 (by decide) ?_
  refine r_iadd (pc := 2260) C dL_law_2260 ?_
  refine r_topi (fun x10 ex10 => ?_)
  have h := h x10 ex10
  obtain ⟨i11, h⟩ := h
  refine r_scLd (pc := 2261) C E i11 dL_law_2261 ?_
  refine r_topi (fun x12 ex12 => ?_)
  have h := h x12 ex12
  refine r_aload_n (pc := 2262) C dL_law_2262 0 rfl ?_
  refine r_iload (pc := 2263) C dL_law_2263 4 rfl ?_
  refine r_iconst (pc := 2265) C (v := (2 : Int32)) dL_law_2265 (by decide) ?_
  refine r_iadd (pc := 2266) C dL_law_2266 ?_
  refine r_topi (fun x13 ex13 => ?_)
  have h := h x13 ex13
  obtain ⟨i14, h⟩ := h
  refine r_scLd (pc := 2267) C E i14 dL_law_2267 ?_
  refine r_topi (fun x15 ex15 => ?_)
  have h := h x15 ex15
  obtain ⟨o_v2, h⟩ := h
  obtain ⟨hk, hk2, h⟩ := h
  refine r_callVi0 (pc := 2268) C (rest := []) (a := v2) o_v2 [.int x12, .int x15] yV_X11_road g_1840 (c_X11_road h) dL_law_2268 rfl rfl (Nat.le_of_ble_eq_true rfl) ⟨by decide, by decide⟩ ⟨hk, hk2⟩ ⟨rfl, rfl⟩ (fun x18 S16 h g17 => ?_)
  have h := h g17
  have o_v1 := gr_ob g17 o_v1
  have o_v2 := gr_ob g17 o_v2
  refine r_pop (pc := 2271) C dL_law_2271 rfl ?_
  refine r_goto (pc := 2272) C (tgt := 2341) dL_law_2272 (by decide) ?_
  exact r_sub [0, 1, 2, 3, 4] rfl (T_L_law_2341 C E ht hn hX23 h)
def P_L_law_2275 (scL : Nat) (scx : Nat → Int32) (Q : Int32 → HS → Prop) (X23 : Nat → Nat → Nat → Int32 → Nat → Nat → HS → Prop) (v1 : Nat) (v2 : Nat) (v3 : Nat) (v4 : Int32) (kk : Nat) (nn : Nat) (S : HS) : Prop := ∀ x1 : Int32, x1 = v4 + (1 : Int32) → (vp_in x1 scL ∧ ∀ x3 : Int32, x3 = scx x1.toNatClampNeg → (kk + 2 ≤ rm_L_law.cells ∧ nn + 32 ≤ rm_L_law.slots ∧ P_L_led v1 x3 v3 (fun x5 S4 => Gr S S4 → (∀ x7 : Int32, x7 = v4 + (1 : Int32) → (vp_in x7 scL ∧ ∀ x9 : Int32, x9 = scx x7.toNatClampNeg → (ob S4 v2 11 ∧ (kk + 2 ≤ rm_L_law.cells ∧ nn + 32 ≤ rm_L_law.slots ∧ (P_X11_led v2 x9 (fun x12 S10 => Gr S4 S10 → (P_L_law_2341 scL scx Q X23 v1 v2 v3 v4 (kk + 2) (nn + 32) S10)) S4)))))) S))
set_option maxRecDepth 20000 in
set_option maxHeartbeats 4000000 in
theorem T_L_law_2275 {X : CX} {Q : Int32 → HS → Prop} {scb scL : Nat} {scx : Nat → Int32} (C : Cx X cL_law RL 7 rm_L_law) (E : LE X scb scL scx Q) (ht : LD X) (hn : True) {X23 : Nat → Nat → Nat → Int32 → Nat → Nat → HS → Prop} (hX23 : ∀ (v1 : Nat) (v2 : Nat) (v3 : Nat) (v4 : Int32) (kk : Nat) (nn : Nat) (S : HS), X23 v1 v2 v3 v4 kk nn S → WS X 7 kk nn 23 [(0, .ref scb), (1, .ref v1), (2, .ref v2), (3, .ref v3), (4, .int v4)] [] S) {v1 : Nat} {v2 : Nat} {v3 : Nat} {v4 : Int32} {kk : Nat} {nn : Nat} {S : HS} (h : P_L_law_2275 scL scx Q X23 v1 v2 v3 v4 kk nn S) : WS X 7 kk nn 2275 [(0, .ref scb), (1, .ref v1), (2, .ref v2), (3, .ref v3), (4, .int v4)] [] S := by
  refine r_aload_n (pc := 2275) C dL_law_2275 1 rfl ?_
  refine r_aload_n (pc := 2276) C dL_law_2276 0 rfl ?_
  refine r_iload (pc := 2277) C dL_law_2277 4 rfl ?_
  refine r_iconst (pc := 2279) C (v := (1 : Int32)) dL_law_2279 (by decide) ?_
  refine r_iadd (pc := 2280) C dL_law_2280 ?_
  refine r_topi (fun x1 ex1 => ?_)
  have h := h x1 ex1
  obtain ⟨i2, h⟩ := h
  refine r_scLd (pc := 2281) C E i2 dL_law_2281 ?_
  refine r_topi (fun x3 ex3 => ?_)
  have h := h x3 ex3
  refine r_aload_n (pc := 2282) C dL_law_2282 3 rfl ?_
  obtain ⟨hk, hk2, h⟩ := h
  refine ht _ _ 2283 _ [] _ _ _ _ _ _ hk hk2 dL_law_2283 g_1084 (Nat.le_of_ble_eq_true rfl) h (fun x5 S4 h g6 => ?_)
  have h := h g6
  refine r_istore (pc := 2286) C dL_law_2286 (by decide) (lv' := [(5, .int x5), (0, .ref scb), (1, .ref v1), (2, .ref v2), (3, .ref v3), (4, .int v4)]) rfl ?_
  refine r_aload_n (pc := 2288) C dL_law_2288 3 rfl ?_
  refine r_aload_n (pc := 2289) C dL_law_2289 1 rfl ?_
  refine r_iload (pc := 2290) C dL_law_2290 5 rfl ?_
  refine r_iconst (pc := 2292) C (v := (1 : Int32)) dL_law_2292 (by decide) ?_
  refine r_iadd (pc := 2293) C dL_law_2293 ?_
  refine r_topi (fun x7 ex7 => ?_)
  have h := h x7 ex7
  obtain ⟨i8, h⟩ := h
  refine r_scLd (pc := 2294) C E i8 dL_law_2294 ?_
  refine r_topi (fun x9 ex9 => ?_)
  have h := h x9 ex9
  obtain ⟨o_v2, h⟩ := h
  obtain ⟨hk, hk2, h⟩ := h
  refine r_callVi0 (pc := 2295) C (rest := []) (a := v2) o_v2 [.int x9] yV_X11_led g_1844 (c_X11_led h) dL_law_2295 rfl rfl (Nat.le_of_ble_eq_true rfl) ⟨by decide, by decide⟩ ⟨hk, hk2⟩ ⟨rfl, rfl⟩ (fun x12 S10 h g11 => ?_)
  have h := h g11
  have o_v2 := gr_ob g11 o_v2
  refine r_istore (pc := 2298) C dL_law_2298 (by decide) (lv' := [(6, .int x12), (5, .int x5), (0, .ref scb), (1, .ref v1), (2, .ref v2), (3, .ref v3), (4, .int v4)]) rfl ?_
  refine r_goto (pc := 2300) C (tgt := 2341) dL_law_2300 (by decide) ?_
  exact r_sub [2, 3, 4, 5, 6] rfl (T_L_law_2341 C E ht hn hX23 h)
end
