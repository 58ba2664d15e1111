section
/-! what walker and road tell -/
noncomputable def tellwalker (A : AS) (G : GC) (v1 v2 : Int32) : Int32 := dc (¬ v1 < 0 ∧ v1 < nI (aW A) ∧ ¬ v2 < 0 ∧ v2 ≤ 6) (gWk G v1.toNatClampNeg v2.toNatClampNeg) (-1)
noncomputable def tellroad (A : AS) (G : GC) (v1 v2 : Int32) : Int32 := dc (¬ v1 < 0 ∧ v1 < nI (aR A) ∧ ¬ v2 < 0 ∧ v2 ≤ 4) (gRd G v1.toNatClampNeg v2.toNatClampNeg) (-1)
section C20
variable {c m w : Nat} {A : AS} {G : GC} {S T : HS} {v1 v2 : Int32} {Q : Int32 → HS → Prop}
theorem nat_of {k : Nat} (h : v1.toInt = (k : Int)) : v1.toNatClampNeg = k := by
  show v1.toInt.toNat = k
  omega
theorem sp_X6_tell {o : Nat} (h : P_X6_tell o v1 Q S) (h0 : ¬ v1 < 0) (h6 : v1 ≤ 6) : P_X6_tell o v1 (fun x T => Q x T ∧ S = T ∧ x = fI S o v1.toNatClampNeg) S := by
  have e0 : (0 : Int32).toInt = 0 := by decide
  have e6 : (6 : Int32).toInt = 6 := by decide
  have a0 := nlt_i h0
  have a6 := le_i h6
  delta P_X6_tell P_X6_tell_0
  have h : _ ∧ _ := h
  exact ⟨fun c => ⟨(h.1 c).1, fun x e => ⟨(h.1 c).2 x e, rfl, e.trans (by rw [nat_of (k := 6) (by omega)])⟩⟩,
    fun c => ⟨(h.2.1 c).1, fun x e => ⟨(h.2.1 c).2 x e, rfl, e.trans (by rw [nat_of (k := 0) (by omega)])⟩⟩,
    fun c => ⟨(h.2.2.1 c).1, fun x e => ⟨(h.2.2.1 c).2 x e, rfl, e.trans (by rw [nat_of (k := 1) (by omega)])⟩⟩,
    fun c => ⟨(h.2.2.2.1 c).1, fun x e => ⟨(h.2.2.2.1 c).2 x e, rfl, e.trans (by rw [nat_of (k := 2) (by omega)])⟩⟩,
    fun c => ⟨(h.2.2.2.2.1 c).1, fun x e => ⟨(h.2.2.2.2.1 c).2 x e, rfl, e.trans (by rw [nat_of (k := 3) (by omega)])⟩⟩,
    fun c => ⟨(h.2.2.2.2.2.1 c).1, fun x e => ⟨(h.2.2.2.2.2.1 c).2 x e, rfl, e.trans (by rw [nat_of (k := 4) (by omega)])⟩⟩,
    fun c => ⟨(h.2.2.2.2.2.2 c).1, fun x e => ⟨(h.2.2.2.2.2.2 c).2 x e, rfl, e.trans (by rw [nat_of (k := 5) (by omega)])⟩⟩⟩
theorem sp_X5_tell {o : Nat} (h : P_X5_tell o v1 Q S) (h0 : ¬ v1 < 0) (h6 : v1 ≤ 4) : P_X5_tell o v1 (fun x T => Q x T ∧ S = T ∧ x = fI S o v1.toNatClampNeg) S := by
  have e0 : (0 : Int32).toInt = 0 := by decide
  have e6 : (4 : Int32).toInt = 4 := by decide
  have a0 := nlt_i h0
  have a6 := le_i h6
  delta P_X5_tell P_X5_tell_0
  have h : _ ∧ _ := h
  exact ⟨fun c => ⟨(h.1 c).1, fun x e => ⟨(h.1 c).2 x e, rfl, e.trans (by rw [nat_of (k := 4) (by omega)])⟩⟩,
    fun c => ⟨(h.2.1 c).1, fun x e => ⟨(h.2.1 c).2 x e, rfl, e.trans (by rw [nat_of (k := 0) (by omega)])⟩⟩,
    fun c => ⟨(h.2.2.1 c).1, fun x e => ⟨(h.2.2.1 c).2 x e, rfl, e.trans (by rw [nat_of (k := 1) (by omega)])⟩⟩,
    fun c => ⟨(h.2.2.2.1 c).1, fun x e => ⟨(h.2.2.2.1 c).2 x e, rfl, e.trans (by rw [nat_of (k := 2) (by omega)])⟩⟩,
    fun c => ⟨(h.2.2.2.2 c).1, fun x e => ⟨(h.2.2.2.2 c).2 x e, rfl, e.trans (by rw [nat_of (k := 3) (by omega)])⟩⟩⟩
theorem sp_X8_hasWalker (hI : IV S) (ow : ob S w 8) (ab : ABd A) (hc : Cnt w A S) (h : P_X8_hasWalker w v1 Q S) : P_X8_hasWalker w v1 (fun x T => Q x T ∧ S = T ∧ ans (¬ v1 < 0 ∧ v1 < nI (aW A)) x) S := by
  delta P_X8_hasWalker P_X8_hasWalker_0
  refine ⟨fun c1 => ⟨h.1 c1, rfl, Or.inr ⟨fun z => z.1 c1, rfl⟩⟩, fun c1 => ?_⟩
  have h := h.2 c1
  obtain ⟨o, h⟩ := h
  refine ⟨o, fun x2 e2 => ?_⟩
  have h := h x2 e2
  have e2 := e2.trans hc.2.2.2.2.1
  refine ⟨fun c2 => ⟨h.1 c2, rfl, Or.inr ⟨fun z => ?_, rfl⟩⟩, fun c2 => ?_⟩
  · rw [e2] at c2
    exact absurd z.2 (Int32.not_lt.mpr c2)
  have h := h.2 c2
  obtain ⟨a4, e4, h⟩ := h
  refine ⟨a4, e4, ?_⟩
  obtain ⟨o4, h⟩ := h
  refine ⟨o4, ?_⟩
  rw [e2] at c2
  have c2 := Int32.not_le.mp c2
  obtain ⟨a5, e5, -, n5⟩ := hI.1 (8, 9, 19, 4) (by decide) w ow
  cases e5.symm.trans e4
  have n5 : hN S a4 = 4 := n5.resolve_left (by decide)
  refine ⟨fun c3 => ?_, fun c3 => ⟨h.2 c3, rfl, Or.inl ⟨⟨c1, c2⟩, rfl⟩⟩⟩
  rw [n5] at c3
  have q1 := le_i c3
  have q2 := lt_i c2
  have hb := ab.2.2.2.2.1
  rw [nI_i (by omega)] at q1 q2
  omega
theorem sp_X8_hasRoad (hI : IV S) (ow : ob S w 8) (ab : ABd A) (hc : Cnt w A S) (h : P_X8_hasRoad w v1 Q S) : P_X8_hasRoad w v1 (fun x T => Q x T ∧ S = T ∧ ans (¬ v1 < 0 ∧ v1 < nI (aR A)) x) S := by
  delta P_X8_hasRoad P_X8_hasRoad_0
  refine ⟨fun c1 => ⟨h.1 c1, rfl, Or.inr ⟨fun z => z.1 c1, rfl⟩⟩, fun c1 => ?_⟩
  have h := h.2 c1
  obtain ⟨o, h⟩ := h
  refine ⟨o, fun x2 e2 => ?_⟩
  have h := h x2 e2
  have e2 := e2.trans hc.2.2.2.1
  refine ⟨fun c2 => ⟨h.1 c2, rfl, Or.inr ⟨fun z => ?_, rfl⟩⟩, fun c2 => ?_⟩
  · rw [e2] at c2
    exact absurd z.2 (Int32.not_lt.mpr c2)
  have h := h.2 c2
  obtain ⟨a4, e4, h⟩ := h
  refine ⟨a4, e4, ?_⟩
  obtain ⟨o4, h⟩ := h
  refine ⟨o4, ?_⟩
  rw [e2] at c2
  have c2 := Int32.not_le.mp c2
  obtain ⟨a5, e5, -, n5⟩ := hI.1 (8, 8, 18, 12) (by decide) w ow
  cases e5.symm.trans e4
  have n5 : hN S a4 = 12 := n5.resolve_left (by decide)
  refine ⟨fun c3 => ?_, fun c3 => ⟨h.2 c3, rfl, Or.inl ⟨⟨c1, c2⟩, rfl⟩⟩⟩
  rw [n5] at c3
  have q1 := le_i c3
  have q2 := lt_i c2
  have hb := ab.2.2.2.1
  rw [nI_i (by omega)] at q1 q2
  omega
theorem sp_X11_isWalker (hm : (fR S m 3 = none ∧ A = A00) ∨ ∃ rd, WRm m rd A G S) (h : P_X11_isWalker m v1 Q S) : P_X11_isWalker m v1 (fun x T => Q x T ∧ S = T ∧ ans ((∃ rd, WRm m rd A G S) ∧ ¬ v1 < 0 ∧ v1 < nI (aW A)) x) S := by
  delta P_X11_isWalker P_X11_isWalker_0
  obtain ⟨o, h⟩ := h
  refine ⟨o, fun n => ⟨h.1 n, rfl, Or.inr ⟨fun z => ?_, rfl⟩⟩, fun a1 e1 => ?_⟩
  · obtain ⟨⟨rd, q⟩, -⟩ := z
    cases n.symm.trans q.1
  have h := h.2 a1 e1
  rcases hm with ⟨n, -⟩ | ⟨rd, hm⟩
  · cases n.symm.trans e1
  refine ⟨fun c1 => ⟨h.1 c1, rfl, Or.inr ⟨fun z => z.2.1 c1, rfl⟩⟩, fun c1 => ?_⟩
  have h := h.2 c1
  obtain ⟨a4, e4, h⟩ := h
  refine ⟨a4, e4, ?_⟩
  cases hm.1.symm.trans e4
  obtain ⟨o4, h⟩ := h
  refine ⟨o4, fun x5 e5 => ?_⟩
  have h := h x5 e5
  have e5 := e5.trans hm.2.2.1.2.2.2.2.1
  refine ⟨fun c2 => ⟨h.1 c2, rfl, Or.inr ⟨fun z => ?_, rfl⟩⟩, fun c2 => ⟨h.2 c2, rfl, Or.inl ⟨⟨⟨rd, hm⟩, c1, ?_⟩, rfl⟩⟩⟩
  · rw [e5] at c2
    exact absurd z.2.2 (Int32.not_lt.mpr c2)
  · rw [e5] at c2
    exact Int32.not_le.mp c2
theorem sp_X11_isRoad (hm : (fR S m 3 = none ∧ A = A00) ∨ ∃ rd, WRm m rd A G S) (h : P_X11_isRoad m v1 Q S) : P_X11_isRoad m v1 (fun x T => Q x T ∧ S = T ∧ ans ((∃ rd, WRm m rd A G S) ∧ ¬ v1 < 0 ∧ v1 < nI (aR A)) x) S := by
  delta P_X11_isRoad P_X11_isRoad_0
  obtain ⟨o, h⟩ := h
  refine ⟨o, fun n => ⟨h.1 n, rfl, Or.inr ⟨fun z => ?_, rfl⟩⟩, fun a1 e1 => ?_⟩
  · obtain ⟨⟨rd, q⟩, -⟩ := z
    cases n.symm.trans q.1
  have h := h.2 a1 e1
  rcases hm with ⟨n, -⟩ | ⟨rd, hm⟩
  · cases n.symm.trans e1
  refine ⟨fun c1 => ⟨h.1 c1, rfl, Or.inr ⟨fun z => z.2.1 c1, rfl⟩⟩, fun c1 => ?_⟩
  have h := h.2 c1
  obtain ⟨a4, e4, h⟩ := h
  refine ⟨a4, e4, ?_⟩
  cases hm.1.symm.trans e4
  obtain ⟨o4, h⟩ := h
  refine ⟨o4, fun x5 e5 => ?_⟩
  have h := h x5 e5
  have e5 := e5.trans hm.2.2.1.2.2.2.1
  refine ⟨fun c2 => ⟨h.1 c2, rfl, Or.inr ⟨fun z => ?_, rfl⟩⟩, fun c2 => ⟨h.2 c2, rfl, Or.inl ⟨⟨⟨rd, hm⟩, c1, ?_⟩, rfl⟩⟩⟩
  · rw [e5] at c2
    exact absurd z.2.2 (Int32.not_lt.mpr c2)
  · rw [e5] at c2
    exact Int32.not_le.mp c2
theorem tl_X9_walker {r w1 w2 : Nat} (hI : IV S) (J : CJ c r w1 w2 S) (hc : Cnt w1 A S) (ct : CtB w1 A G S S) (ab : ABd A) (h : P_X9_walker c v1 v2 Q S) : P_X9_walker c v1 v2 (fun x T => Q x T ∧ x = tellwalker A G v1 v2) S := by
  have o1 := J.2.2.2.2.2.1
  have no : ∀ T, ¬ (¬ v1 < 0 ∧ v1 < nI (aW A) ∧ ¬ v2 < 0 ∧ v2 ≤ 6) → P_X9_walker_21 Q c T → P_X9_walker_21 (fun x T => Q x T ∧ x = tellwalker A G v1 v2) c T := by
    intro T hn h
    delta P_X9_walker_21
    obtain ⟨o2, h⟩ := h
    refine ⟨o2, cm_X9_refuse (sp_X9_refuse h) h (fun x U hp h g => ⟨h g, ?_⟩)⟩
    unfold tellwalker
    rw [dc_n hn]
    exact hp.2.1
  delta P_X9_walker P_X9_walker_0
  obtain ⟨o2, h⟩ := h
  refine ⟨o2, ?_⟩
  obtain ⟨a1, e1, h⟩ := h
  refine ⟨a1, e1, ?_⟩
  cases J.1.symm.trans e1
  obtain ⟨o3, h⟩ := h
  refine ⟨o3, ?_⟩
  refine cm_X8_hasWalker (sp_X8_hasWalker hI o1 ab hc h) h (fun x4 S2 hp h g b => ?_)
  have h := h g b
  obtain ⟨-, hS, hx⟩ := hp
  subst hS
  refine ⟨fun c1 => no _ (fun z => an0 hx c1 ⟨z.1, z.2.1⟩) (h.1 c1), fun c1 => ?_⟩
  have h := h.2 c1
  have hx := an1 hx c1
  refine ⟨fun c2 => no _ (fun z => z.2.2.1 c2) (h.1 c2), fun c2 => ?_⟩
  have h := h.2 c2
  refine ⟨fun c3 => ?_, fun c3 => no _ (fun z => c3 z.2.2.2) (h.2 c3)⟩
  have h := h.1 c3
  obtain ⟨a8, e8, h⟩ := h
  refine ⟨a8, e8, ?_⟩
  cases J.1.symm.trans e8
  obtain ⟨o8, h⟩ := h
  refine ⟨o8, ?_⟩
  obtain ⟨a9, e9, h⟩ := h
  refine ⟨a9, e9, ?_⟩
  obtain ⟨o9, h⟩ := h
  refine ⟨o9, ?_⟩
  obtain ⟨o10, h⟩ := h
  refine ⟨o10, ?_⟩
  obtain ⟨a11, e11, h⟩ := h
  refine ⟨a11, e11, ?_⟩
  obtain ⟨o11, h⟩ := h
  refine ⟨o11, ?_⟩
  have e0 : (0 : Int32).toInt = 0 := by decide
  have hb := ab.2.2.2.2.1
  have q1 := nlt_i hx.1
  have q2 := lt_i hx.2
  rw [nI_i (by omega)] at q2
  have hv1 : v1.toNatClampNeg < aW A := by
    show v1.toInt.toNat < _
    omega
  have eN : (6 : Int32).toInt = 6 := by decide
  have q3 := nlt_i c2
  have q4 := le_i c3
  have hv2 : v2.toNatClampNeg < 7 := by
    show v2.toInt.toNat < _
    omega
  obtain ⟨o, eo, ho⟩ := ct.2.2.2.1 a9 e9 v1.toNatClampNeg hv1
  cases eo.symm.trans e11
  refine cm_X6_tell (sp_X6_tell h c2 c3) h (fun x14 S12 hp h g => ?_)
  have h := h g
  obtain ⟨-, hS, hx14⟩ := hp
  subst hS
  refine cm_X9_grant (sp_X9_grant h) h (fun x17 S15 hp h g => ⟨h g, ?_⟩)
  unfold tellwalker
  rw [dc_y ⟨hx.1, hx.2, c2, c3⟩, hp.2.1, hx14]
  exact ho _ hv2
theorem tl_X9_road {r w1 w2 : Nat} (hI : IV S) (J : CJ c r w1 w2 S) (hc : Cnt w1 A S) (ct : CtB w1 A G S S) (ab : ABd A) (h : P_X9_road c v1 v2 Q S) : P_X9_road c v1 v2 (fun x T => Q x T ∧ x = tellroad A G v1 v2) S := by
  have o1 := J.2.2.2.2.2.1
  have no : ∀ T, ¬ (¬ v1 < 0 ∧ v1 < nI (aR A) ∧ ¬ v2 < 0 ∧ v2 ≤ 4) → P_X9_road_20 Q c T → P_X9_road_20 (fun x T => Q x T ∧ x = tellroad A G v1 v2) c T := by
    intro T hn h
    delta P_X9_road_20
    obtain ⟨o2, h⟩ := h
    refine ⟨o2, cm_X9_refuse (sp_X9_refuse h) h (fun x U hp h g => ⟨h g, ?_⟩)⟩
    unfold tellroad
    rw [dc_n hn]
    exact hp.2.1
  delta P_X9_road P_X9_road_0
  obtain ⟨o2, h⟩ := h
  refine ⟨o2, ?_⟩
  obtain ⟨a1, e1, h⟩ := h
  refine ⟨a1, e1, ?_⟩
  cases J.1.symm.trans e1
  obtain ⟨o3, h⟩ := h
  refine ⟨o3, ?_⟩
  refine cm_X8_hasRoad (sp_X8_hasRoad hI o1 ab hc h) h (fun x4 S2 hp h g b => ?_)
  have h := h g b
  obtain ⟨-, hS, hx⟩ := hp
  subst hS
  refine ⟨fun c1 => no _ (fun z => an0 hx c1 ⟨z.1, z.2.1⟩) (h.1 c1), fun c1 => ?_⟩
  have h := h.2 c1
  have hx := an1 hx c1
  refine ⟨fun c2 => no _ (fun z => z.2.2.1 c2) (h.1 c2), fun c2 => ?_⟩
  have h := h.2 c2
  refine ⟨fun c3 => ?_, fun c3 => no _ (fun z => c3 z.2.2.2) (h.2 c3)⟩
  have h := h.1 c3
  obtain ⟨a8, e8, h⟩ := h
  refine ⟨a8, e8, ?_⟩
  cases J.1.symm.trans e8
  obtain ⟨o8, h⟩ := h
  refine ⟨o8, ?_⟩
  obtain ⟨a9, e9, h⟩ := h
  refine ⟨a9, e9, ?_⟩
  obtain ⟨o9, h⟩ := h
  refine ⟨o9, ?_⟩
  obtain ⟨o10, h⟩ := h
  refine ⟨o10, ?_⟩
  obtain ⟨a11, e11, h⟩ := h
  refine ⟨a11, e11, ?_⟩
  obtain ⟨o11, h⟩ := h
  refine ⟨o11, ?_⟩
  have e0 : (0 : Int32).toInt = 0 := by decide
  have hb := ab.2.2.2.1
  have q1 := nlt_i hx.1
  have q2 := lt_i hx.2
  rw [nI_i (by omega)] at q2
  have hv1 : v1.toNatClampNeg < aR A := by
    show v1.toInt.toNat < _
    omega
  have eN : (4 : Int32).toInt = 4 := by decide
  have q3 := nlt_i c2
  have q4 := le_i c3
  have hv2 : v2.toNatClampNeg < 5 := by
    show v2.toInt.toNat < _
    omega
  obtain ⟨o, eo, ho⟩ := ct.2.2.1 a9 e9 v1.toNatClampNeg hv1
  cases eo.symm.trans e11
  refine cm_X5_tell (sp_X5_tell h c2 c3) h (fun x14 S12 hp h g => ?_)
  have h := h g
  obtain ⟨-, hS, hx14⟩ := hp
  subst hS
  refine cm_X9_grant (sp_X9_grant h) h (fun x17 S15 hp h g => ⟨h g, ?_⟩)
  unfold tellroad
  rw [dc_y ⟨hx.1, hx.2, c2, c3⟩, hp.2.1, hx14]
  exact ho _ hv2
theorem tl_X11_walker (hm : (fR S m 3 = none ∧ A = A00) ∨ ∃ rd, WRm m rd A G S) (ab : ABd A) (h : P_X11_walker m v1 v2 Q S) : P_X11_walker m v1 v2 (fun x T => Q x T ∧ x = tellwalker A G v1 v2) S := by
  have no : ∀ T, ¬ (¬ v1 < 0 ∧ v1 < nI (aW A) ∧ ¬ v2 < 0 ∧ v2 ≤ 6) → P_X11_walker_23 Q m T → P_X11_walker_23 (fun x T => Q x T ∧ x = tellwalker A G v1 v2) m T := by
    intro T hn h
    delta P_X11_walker_23
    obtain ⟨o2, h⟩ := h
    refine ⟨o2, cm_X11_refused (sp_X11_refused h) h (fun x U hp h g => ⟨h g, ?_⟩)⟩
    unfold tellwalker
    rw [dc_n hn]
    exact hp.2.1
  delta P_X11_walker P_X11_walker_0
  obtain ⟨o2, h⟩ := h
  refine ⟨o2, fun S1 eS1 => ?_⟩
  have h := h S1 eS1
  have hm1 : (fR S1 m 3 = none ∧ A = A00) ∨ ∃ rd, WRm m rd A G S1 := by
    have fr : fR S1 = fR S := by rw [eS1]; rfl
    rcases hm with ⟨n, hA⟩ | ⟨rd, hm⟩
    · exact Or.inl ⟨by rw [fr]; exact n, hA⟩
    · refine Or.inr ⟨rd, wrm_mv (by rw [eS1]; exact gr_rf S) hm (by rw [fr]) (fun i _ => by rw [fr]) (fun j _ => by rw [row_o eS1 (ob_ne hm.2.1 o2 (by decide))]) (fun b o n => ⟨row_o eS1 (o.elim (fun o => ob_ne o o2 (by decide)) (fun o => ob_ne o o2 (by decide))), by rw [eS1]; exact n⟩)⟩
  refine cm_X11_isWalker (sp_X11_isWalker hm1 h) h (fun x4 S2 hp h g b => ?_)
  have h := h g b
  obtain ⟨-, hS, hx⟩ := hp
  subst hS
  refine ⟨fun c1 => no _ (fun z => ?_) (h.1 c1), fun c1 => ?_⟩
  · rcases hm1 with ⟨n, hA⟩ | hm1
    · have q1 := nlt_i z.1
      have q2 := lt_i z.2.1
      have e0 : (0 : Int32).toInt = 0 := by decide
      have e1 : (nI (aW A)).toInt = 0 := by rw [hA]; decide
      omega
    · exact an0 hx c1 ⟨hm1, z.1, z.2.1⟩
  have h := h.2 c1
  obtain ⟨⟨rd, hr⟩, hx⟩ := an1 hx c1
  refine cm_X11_in (sp_X11_in h) h (fun x8 S6 hp h g b => ?_)
  have h := h g b
  obtain ⟨-, hS, hx2⟩ := hp
  subst hS
  refine Iff.mp and_comm ⟨fun c2 => no _ (fun z => an0 hx2 c2 (fun y => y.elim z.2.2.1 (fun y => absurd z.2.2.2 (Int32.not_le.mpr y)))) (h.2 c2), fun c2 => ?_⟩
  have h := h.1 c2
  have hx2 := an1 hx2 c2
  have c3 : ¬ v2 < 0 := fun z => hx2 (Or.inl z)
  have c4 : v2 ≤ 6 := Int32.not_lt.mp (fun z => hx2 (Or.inr z))
  have e0 : (0 : Int32).toInt = 0 := by decide
  have hb := ab.2.2.2.2.1
  have q1 := nlt_i hx.1
  have q2 := lt_i hx.2
  rw [nI_i (by omega)] at q2
  have hv1 : v1.toNatClampNeg < aW A := by
    show v1.toInt.toNat < _
    omega
  have eN : (6 : Int32).toInt = 6 := by decide
  have q3 := nlt_i c3
  have q4 := le_i c4
  have fin : ∀ a11 a12 i k, fR S1 m 3 = some a11 → fR S1 a11 i = some a12 → (7 ≤ i ∧ i ≤ 27) → (∀ z, valM G i z = gWk G z k) ∧ cntM A i = aW A → v2.toNatClampNeg = k → fI S1 a12 v1.toNatClampNeg = tellwalker A G v1 v2 := by
    intro a11 a12 i k e11 e12 hi hv hk
    cases hr.1.symm.trans e11
    have q := hr.2.2.2.1 i a12 hi.1 hi.2 e12 v1.toNatClampNeg (by rw [hv.2]; exact hv1)
    unfold tellwalker
    rw [dc_y ⟨hx.1, hx.2, c3, c4⟩, q, hv.1, hk]
  refine ⟨?_, ?_, ?_, ?_, ?_, ?_, ?_⟩
  · intro c5
    have h := h.1 c5
    obtain ⟨a11, e11, h⟩ := h
    refine ⟨a11, e11, ?_⟩
    obtain ⟨o11, h⟩ := h
    refine ⟨o11, ?_⟩
    obtain ⟨a12, e12, h⟩ := h
    refine ⟨a12, e12, ?_⟩
    obtain ⟨o12, h⟩ := h
    refine ⟨o12, ?_⟩
    obtain ⟨o13, h⟩ := h
    refine ⟨o13, fun x14 e14 => ?_⟩
    have h := h x14 e14
    refine cm_X11_good (sp_X11_good h) h (fun x17 S15 hp h g => ⟨h g, ?_⟩)
    rw [hp.2.1, e14]
    exact fin a11 a12 25 6 e11 e12 (by decide) ⟨fun _ => rfl, rfl⟩ (by show v2.toInt.toNat = 6; omega)
  · intro c5
    have h := h.2.1 c5
    obtain ⟨a11, e11, h⟩ := h
    refine ⟨a11, e11, ?_⟩
    obtain ⟨o11, h⟩ := h
    refine ⟨o11, ?_⟩
    obtain ⟨a12, e12, h⟩ := h
    refine ⟨a12, e12, ?_⟩
    obtain ⟨o12, h⟩ := h
    refine ⟨o12, ?_⟩
    obtain ⟨o13, h⟩ := h
    refine ⟨o13, fun x14 e14 => ?_⟩
    have h := h x14 e14
    refine cm_X11_good (sp_X11_good h) h (fun x17 S15 hp h g => ⟨h g, ?_⟩)
    rw [hp.2.1, e14]
    exact fin a11 a12 19 0 e11 e12 (by decide) ⟨fun _ => rfl, rfl⟩ (by show v2.toInt.toNat = 0; omega)
  · intro c5
    have h := h.2.2.1 c5
    obtain ⟨a11, e11, h⟩ := h
    refine ⟨a11, e11, ?_⟩
    obtain ⟨o11, h⟩ := h
    refine ⟨o11, ?_⟩
    obtain ⟨a12, e12, h⟩ := h
    refine ⟨a12, e12, ?_⟩
    obtain ⟨o12, h⟩ := h
    refine ⟨o12, ?_⟩
    obtain ⟨o13, h⟩ := h
    refine ⟨o13, fun x14 e14 => ?_⟩
    have h := h x14 e14
    refine cm_X11_good (sp_X11_good h) h (fun x17 S15 hp h g => ⟨h g, ?_⟩)
    rw [hp.2.1, e14]
    exact fin a11 a12 20 1 e11 e12 (by decide) ⟨fun _ => rfl, rfl⟩ (by show v2.toInt.toNat = 1; omega)
  · intro c5
    have h := h.2.2.2.1 c5
    obtain ⟨a11, e11, h⟩ := h
    refine ⟨a11, e11, ?_⟩
    obtain ⟨o11, h⟩ := h
    refine ⟨o11, ?_⟩
    obtain ⟨a12, e12, h⟩ := h
    refine ⟨a12, e12, ?_⟩
    obtain ⟨o12, h⟩ := h
    refine ⟨o12, ?_⟩
    obtain ⟨o13, h⟩ := h
    refine ⟨o13, fun x14 e14 => ?_⟩
    have h := h x14 e14
    refine cm_X11_good (sp_X11_good h) h (fun x17 S15 hp h g => ⟨h g, ?_⟩)
    rw [hp.2.1, e14]
    exact fin a11 a12 21 2 e11 e12 (by decide) ⟨fun _ => rfl, rfl⟩ (by show v2.toInt.toNat = 2; omega)
  · intro c5
    have h := h.2.2.2.2.1 c5
    obtain ⟨a11, e11, h⟩ := h
    refine ⟨a11, e11, ?_⟩
    obtain ⟨o11, h⟩ := h
    refine ⟨o11, ?_⟩
    obtain ⟨a12, e12, h⟩ := h
    refine ⟨a12, e12, ?_⟩
    obtain ⟨o12, h⟩ := h
    refine ⟨o12, ?_⟩
    obtain ⟨o13, h⟩ := h
    refine ⟨o13, fun x14 e14 => ?_⟩
    have h := h x14 e14
    refine cm_X11_good (sp_X11_good h) h (fun x17 S15 hp h g => ⟨h g, ?_⟩)
    rw [hp.2.1, e14]
    exact fin a11 a12 22 3 e11 e12 (by decide) ⟨fun _ => rfl, rfl⟩ (by show v2.toInt.toNat = 3; omega)
  · intro c5
    have h := h.2.2.2.2.2.1 c5
    obtain ⟨a11, e11, h⟩ := h
    refine ⟨a11, e11, ?_⟩
    obtain ⟨o11, h⟩ := h
    refine ⟨o11, ?_⟩
    obtain ⟨a12, e12, h⟩ := h
    refine ⟨a12, e12, ?_⟩
    obtain ⟨o12, h⟩ := h
    refine ⟨o12, ?_⟩
    obtain ⟨o13, h⟩ := h
    refine ⟨o13, fun x14 e14 => ?_⟩
    have h := h x14 e14
    refine cm_X11_good (sp_X11_good h) h (fun x17 S15 hp h g => ⟨h g, ?_⟩)
    rw [hp.2.1, e14]
    exact fin a11 a12 23 4 e11 e12 (by decide) ⟨fun _ => rfl, rfl⟩ (by show v2.toInt.toNat = 4; omega)
  · intro c5
    have h := h.2.2.2.2.2.2 c5
    obtain ⟨a11, e11, h⟩ := h
    refine ⟨a11, e11, ?_⟩
    obtain ⟨o11, h⟩ := h
    refine ⟨o11, ?_⟩
    obtain ⟨a12, e12, h⟩ := h
    refine ⟨a12, e12, ?_⟩
    obtain ⟨o12, h⟩ := h
    refine ⟨o12, ?_⟩
    obtain ⟨o13, h⟩ := h
    refine ⟨o13, fun x14 e14 => ?_⟩
    have h := h x14 e14
    refine cm_X11_good (sp_X11_good h) h (fun x17 S15 hp h g => ⟨h g, ?_⟩)
    rw [hp.2.1, e14]
    exact fin a11 a12 24 5 e11 e12 (by decide) ⟨fun _ => rfl, rfl⟩ (by show v2.toInt.toNat = 5; omega)
theorem tl_X11_road (hm : (fR S m 3 = none ∧ A = A00) ∨ ∃ rd, WRm m rd A G S) (ab : ABd A) (h : P_X11_road m v1 v2 Q S) : P_X11_road m v1 v2 (fun x T => Q x T ∧ x = tellroad A G v1 v2) S := by
  have no : ∀ T, ¬ (¬ v1 < 0 ∧ v1 < nI (aR A) ∧ ¬ v2 < 0 ∧ v2 ≤ 4) → P_X11_road_22 Q m T → P_X11_road_22 (fun x T => Q x T ∧ x = tellroad A G v1 v2) m T := by
    intro T hn h
    delta P_X11_road_22
    obtain ⟨o2, h⟩ := h
    refine ⟨o2, cm_X11_refused (sp_X11_refused h) h (fun x U hp h g => ⟨h g, ?_⟩)⟩
    unfold tellroad
    rw [dc_n hn]
    exact hp.2.1
  delta P_X11_road P_X11_road_0
  obtain ⟨o2, h⟩ := h
  refine ⟨o2, fun S1 eS1 => ?_⟩
  have h := h S1 eS1
  have hm1 : (fR S1 m 3 = none ∧ A = A00) ∨ ∃ rd, WRm m rd A G S1 := by
    have fr : fR S1 = fR S := by rw [eS1]; rfl
    rcases hm with ⟨n, hA⟩ | ⟨rd, hm⟩
    · exact Or.inl ⟨by rw [fr]; exact n, hA⟩
    · refine Or.inr ⟨rd, wrm_mv (by rw [eS1]; exact gr_rf S) hm (by rw [fr]) (fun i _ => by rw [fr]) (fun j _ => by rw [row_o eS1 (ob_ne hm.2.1 o2 (by decide))]) (fun b o n => ⟨row_o eS1 (o.elim (fun o => ob_ne o o2 (by decide)) (fun o => ob_ne o o2 (by decide))), by rw [eS1]; exact n⟩)⟩
  refine cm_X11_isRoad (sp_X11_isRoad hm1 h) h (fun x4 S2 hp h g b => ?_)
  have h := h g b
  obtain ⟨-, hS, hx⟩ := hp
  subst hS
  refine ⟨fun c1 => no _ (fun z => ?_) (h.1 c1), fun c1 => ?_⟩
  · rcases hm1 with ⟨n, hA⟩ | hm1
    · have q1 := nlt_i z.1
      have q2 := lt_i z.2.1
      have e0 : (0 : Int32).toInt = 0 := by decide
      have e1 : (nI (aR A)).toInt = 0 := by rw [hA]; decide
      omega
    · exact an0 hx c1 ⟨hm1, z.1, z.2.1⟩
  have h := h.2 c1
  obtain ⟨⟨rd, hr⟩, hx⟩ := an1 hx c1
  refine cm_X11_in (sp_X11_in h) h (fun x8 S6 hp h g b => ?_)
  have h := h g b
  obtain ⟨-, hS, hx2⟩ := hp
  subst hS
  refine Iff.mp and_comm ⟨fun c2 => no _ (fun z => an0 hx2 c2 (fun y => y.elim z.2.2.1 (fun y => absurd z.2.2.2 (Int32.not_le.mpr y)))) (h.2 c2), fun c2 => ?_⟩
  have h := h.1 c2
  have hx2 := an1 hx2 c2
  have c3 : ¬ v2 < 0 := fun z => hx2 (Or.inl z)
  have c4 : v2 ≤ 4 := Int32.not_lt.mp (fun z => hx2 (Or.inr z))
  have e0 : (0 : Int32).toInt = 0 := by decide
  have hb := ab.2.2.2.1
  have q1 := nlt_i hx.1
  have q2 := lt_i hx.2
  rw [nI_i (by omega)] at q2
  have hv1 : v1.toNatClampNeg < aR A := by
    show v1.toInt.toNat < _
    omega
  have eN : (4 : Int32).toInt = 4 := by decide
  have q3 := nlt_i c3
  have q4 := le_i c4
  have fin : ∀ a11 a12 i k, fR S1 m 3 = some a11 → fR S1 a11 i = some a12 → (7 ≤ i ∧ i ≤ 27) → (∀ z, valM G i z = gRd G z k) ∧ cntM A i = aR A → v2.toNatClampNeg = k → fI S1 a12 v1.toNatClampNeg = tellroad A G v1 v2 := by
    intro a11 a12 i k e11 e12 hi hv hk
    cases hr.1.symm.trans e11
    have q := hr.2.2.2.1 i a12 hi.1 hi.2 e12 v1.toNatClampNeg (by rw [hv.2]; exact hv1)
    unfold tellroad
    rw [dc_y ⟨hx.1, hx.2, c3, c4⟩, q, hv.1, hk]
  refine ⟨?_, ?_, ?_, ?_, ?_⟩
  · intro c5
    have h := h.1 c5
    obtain ⟨a11, e11, h⟩ := h
    refine ⟨a11, e11, ?_⟩
    obtain ⟨o11, h⟩ := h
    refine ⟨o11, ?_⟩
    obtain ⟨a12, e12, h⟩ := h
    refine ⟨a12, e12, ?_⟩
    obtain ⟨o12, h⟩ := h
    refine ⟨o12, ?_⟩
    obtain ⟨o13, h⟩ := h
    refine ⟨o13, fun x14 e14 => ?_⟩
    have h := h x14 e14
    refine cm_X11_good (sp_X11_good h) h (fun x17 S15 hp h g => ⟨h g, ?_⟩)
    rw [hp.2.1, e14]
    exact fin a11 a12 17 4 e11 e12 (by decide) ⟨fun _ => rfl, rfl⟩ (by show v2.toInt.toNat = 4; omega)
  · intro c5
    have h := h.2.1 c5
    obtain ⟨a11, e11, h⟩ := h
    refine ⟨a11, e11, ?_⟩
    obtain ⟨o11, h⟩ := h
    refine ⟨o11, ?_⟩
    obtain ⟨a12, e12, h⟩ := h
    refine ⟨a12, e12, ?_⟩
    obtain ⟨o12, h⟩ := h
    refine ⟨o12, ?_⟩
    obtain ⟨o13, h⟩ := h
    refine ⟨o13, fun x14 e14 => ?_⟩
    have h := h x14 e14
    refine cm_X11_good (sp_X11_good h) h (fun x17 S15 hp h g => ⟨h g, ?_⟩)
    rw [hp.2.1, e14]
    exact fin a11 a12 13 0 e11 e12 (by decide) ⟨fun _ => rfl, rfl⟩ (by show v2.toInt.toNat = 0; omega)
  · intro c5
    have h := h.2.2.1 c5
    obtain ⟨a11, e11, h⟩ := h
    refine ⟨a11, e11, ?_⟩
    obtain ⟨o11, h⟩ := h
    refine ⟨o11, ?_⟩
    obtain ⟨a12, e12, h⟩ := h
    refine ⟨a12, e12, ?_⟩
    obtain ⟨o12, h⟩ := h
    refine ⟨o12, ?_⟩
    obtain ⟨o13, h⟩ := h
    refine ⟨o13, fun x14 e14 => ?_⟩
    have h := h x14 e14
    refine cm_X11_good (sp_X11_good h) h (fun x17 S15 hp h g => ⟨h g, ?_⟩)
    rw [hp.2.1, e14]
    exact fin a11 a12 14 1 e11 e12 (by decide) ⟨fun _ => rfl, rfl⟩ (by show v2.toInt.toNat = 1; omega)
  · intro c5
    have h := h.2.2.2.1 c5
    obtain ⟨a11, e11, h⟩ := h
    refine ⟨a11, e11, ?_⟩
    obtain ⟨o11, h⟩ := h
    refine ⟨o11, ?_⟩
    obtain ⟨a12, e12, h⟩ := h
    refine ⟨a12, e12, ?_⟩
    obtain ⟨o12, h⟩ := h
    refine ⟨o12, ?_⟩
    obtain ⟨o13, h⟩ := h
    refine ⟨o13, fun x14 e14 => ?_⟩
    have h := h x14 e14
    refine cm_X11_good (sp_X11_good h) h (fun x17 S15 hp h g => ⟨h g, ?_⟩)
    rw [hp.2.1, e14]
    exact fin a11 a12 15 2 e11 e12 (by decide) ⟨fun _ => rfl, rfl⟩ (by show v2.toInt.toNat = 2; omega)
  · intro c5
    have h := h.2.2.2.2 c5
    obtain ⟨a11, e11, h⟩ := h
    refine ⟨a11, e11, ?_⟩
    obtain ⟨o11, h⟩ := h
    refine ⟨o11, ?_⟩
    obtain ⟨a12, e12, h⟩ := h
    refine ⟨a12, e12, ?_⟩
    obtain ⟨o12, h⟩ := h
    refine ⟨o12, ?_⟩
    obtain ⟨o13, h⟩ := h
    refine ⟨o13, fun x14 e14 => ?_⟩
    have h := h x14 e14
    refine cm_X11_good (sp_X11_good h) h (fun x17 S15 hp h g => ⟨h g, ?_⟩)
    rw [hp.2.1, e14]
    exact fin a11 a12 16 3 e11 e12 (by decide) ⟨fun _ => rfl, rfl⟩ (by show v2.toInt.toNat = 3; omega)
end C20
/-! the start -/
section C21a
variable {S S0 T : HS} {c m v0 : Nat} {QU : HS → Prop}
theorem sq_X11_init (h : P_X11_init v0 QU S) (E : S = nW S0 v0 11 0) : P_X11_init v0 (fun T => QU T ∧ ∃ F g, BX S T v0 F g ∧ (5, 12, 900) ∈ F ∧ g 6 = 0 ∧ g 13 = 0 ∧ g 2 = -1 ∧ g 1 = 0 ∧ ∀ e ∈ F, e.1 ≠ 3) S := by
  have hv : v0 ∈ hL S := by rw [E]; exact List.mem_append_right _ (List.mem_singleton.mpr rfl)
  have hz : fI S v0 = fun _ => 0 := by rw [E]; exact zero_new.2
  have b0 := bx_rf (S0 := S) (v := v0) (fun j b e => by rw [E, zero_new.1 j] at e; exact absurd e (by simp))
  rw [hz] at b0
  delta P_X11_init P_X11_init_0
  obtain ⟨oq1, h⟩ := h
  refine ⟨oq1, ?_⟩
  intro Sq2 eSq2
  have h := h Sq2 eSq2
  have b1 := bx_I b0 hv eSq2
  intro aq3 eaq3
  have h := h aq3 eaq3
  intro Sq4 eSq4
  have h := h Sq4 eSq4
  intro Sq5 eSq5
  have h := h Sq5 eSq5
  have b2 := bx_arr b1 hv eaq3 eSq4 eSq5 (by decide) (by decide)
  intro aq6 eaq6
  have h := h aq6 eaq6
  intro Sq7 eSq7
  have h := h Sq7 eSq7
  intro Sq8 eSq8
  have h := h Sq8 eSq8
  have b3 := bx_arr b2 hv eaq6 eSq7 eSq8 (by decide) (by decide)
  intro aq9 eaq9
  have h := h aq9 eaq9
  intro Sq10 eSq10
  have h := h Sq10 eSq10
  intro Sq11 eSq11
  have h := h Sq11 eSq11
  have b4 := bx_arr b3 hv eaq9 eSq10 eSq11 (by decide) (by decide)
  intro aq12 eaq12
  have h := h aq12 eaq12
  intro Sq13 eSq13
  have h := h Sq13 eSq13
  intro Sq14 eSq14
  have h := h Sq14 eSq14
  have b5 := bx_arr b4 hv eaq12 eSq13 eSq14 (by decide) (by decide)
  intro Sq15 eSq15
  have h := h Sq15 eSq15
  have b6 := bx_I b5 hv eSq15
  intro aq16 eaq16
  have h := h aq16 eaq16
  intro Sq17 eSq17
  have h := h Sq17 eSq17
  intro Sq18 eSq18
  have h := h Sq18 eSq18
  have b7 := bx_arr b6 hv eaq16 eSq17 eSq18 (by decide) (by decide)
  intro aq19 eaq19
  have h := h aq19 eaq19
  intro Sq20 eSq20
  have h := h Sq20 eSq20
  intro Sq21 eSq21
  have h := h Sq21 eSq21
  have b8 := bx_arr b7 hv eaq19 eSq20 eSq21 (by decide) (by decide)
  intro aq22 eaq22
  have h := h aq22 eaq22
  intro Sq23 eSq23
  have h := h Sq23 eSq23
  intro Sq24 eSq24
  have h := h Sq24 eSq24
  have b9 := bx_arr b8 hv eaq22 eSq23 eSq24 (by decide) (by decide)
  exact ⟨h, _, _, b9, by simp, by decide, by decide, by decide, by decide, by decide⟩
end C21a
section C21
variable {c r w w1 w2 m a3 : Nat} {S T U : HS}
theorem woi_wob {b : Nat} (h : WOi w S b) : WOb w S b := by
  rcases h with h | h | ⟨q, hq, ra, i, e, -, eb⟩
  · exact Or.inl h
  · exact Or.inr (Or.inl h)
  · exact Or.inr (Or.inr ⟨q.1, by
      simp only [List.mem_cons, List.not_mem_nil, or_false] at hq
      rcases hq with rfl | rfl | rfl <;> decide, ra, i, e, eb⟩)
theorem dj_of (u : UV S) (r1 : WKr w1 S) (r2 : WKr w2 S) (oc : ob S c 9) (orr : ob S r 4) (o1 : ob S w1 8) (o2 : ob S w2 8) (e1 : fR S c 2 = some w1) (e2 : fR S r 5 = some w2) (b : Nat) (h : WOb w1 S b) (g : WOb w2 S b) : False := by
  have ne : w1 ≠ w2 := fun z => by
    have := (u.2 c 2 r 5 w1 e1 (z ▸ e2)).1
    exact ob_ne oc orr (by decide) this
  have nk : ∀ x ra k, ob S x k → k < 17 → 17 ≤ hK S ra → x ≠ ra := fun x ra k ox hk hr z => by
    rw [← z, ox.2] at hr
    omega
  rcases h with h | ⟨j, hj, h⟩ | ⟨j, hj, ra, i, h, hb⟩
  · rcases g with g | ⟨j', hj', g⟩ | ⟨j', hj', ra', i', g, gb⟩
    · exact ne (h.symm.trans g)
    · exact ob_ne oc o2 (by decide) (u.2 c 2 w2 j' b (h ▸ e1) g).1
    · exact nk c ra' 9 oc (by decide) (r2 j' hj' ra' g).1 (u.2 c 2 ra' i' b (h ▸ e1) gb).1
  · rcases g with g | ⟨j', hj', g⟩ | ⟨j', hj', ra', i', g, gb⟩
    · exact ob_ne orr o1 (by decide) (u.2 r 5 w1 j b (g ▸ e2) h).1
    · exact ne (u.2 w1 j w2 j' b h g).1
    · exact nk w1 ra' 8 o1 (by decide) (r2 j' hj' ra' g).1 (u.2 w1 j ra' i' b h gb).1
  · rcases g with g | ⟨j', hj', g⟩ | ⟨j', hj', ra', i', g, gb⟩
    · exact nk r ra 4 orr (by decide) (r1 j hj ra h).1 (u.2 r 5 ra i b (g ▸ e2) hb).1
    · exact nk w2 ra 8 o2 (by decide) (r1 j hj ra h).1 (u.2 w2 j' ra i b g hb).1
    · have q := (u.2 ra i ra' i' b hb gb).1
      subst q
      exact ne (u.2 w1 j w2 j' ra h g).1
theorem cj_start (hI : IV S) (oc : ob S c 9) (u : UV S) : ∃ r w1 w2, CJ c r w1 w2 S := by
  obtain ⟨w1, e1, o1, -⟩ := hI.1 (9, 2, 8, 0) (by decide) c oc
  obtain ⟨r, er, orr, -⟩ := hI.1 (9, 3, 4, 0) (by decide) c oc
  obtain ⟨w2, e2, o2, -⟩ := hI.1 (4, 5, 8, 0) (by decide) r orr
  have inj : ∀ w, INJ w S := fun w q hq ra e i j o _ _ h1 h2 => (u.2 ra i ra j o h1 h2).2
  have nwa : ∀ w, ob S w 8 → NWa w S := fun w ow fl hf d e q hq x ox z => by
    have := (u.2 x q.2 w fl d z e).1
    rw [this] at ox
    have hk : q.1 ≠ 8 := by
      simp only [List.mem_cons, List.not_mem_nil, or_false] at hq
      rcases hq with h | h | h | h | h | h | h | h <;> (rw [h]; decide)
    exact hk (ob_inj ox ow)
  have k1 := (wk_of hI o1 (inj w1)).2
  have k2 := (wk_of hI o2 (inj w2)).2
  exact ⟨r, w1, w2, e1, er, e2, oc, orr, o1, o2, ⟨inj w1, nwa w1 o1⟩, ⟨inj w2, nwa w2 o2⟩, fun b p q => dj_of u k1 k2 oc orr o1 o2 e1 e2 b (woi_wob p) q, fun b p q => dj_of u k1 k2 oc orr o1 o2 e1 e2 b q (woi_wob p)⟩
theorem ctb_00 {B : HS} : CtB w A00 G00 B S := ⟨fun _ _ h hh => absurd hh (Nat.not_lt_zero h), fun _ _ h hh => absurd hh (Nat.not_lt_zero h), fun _ _ h hh => absurd hh (Nat.not_lt_zero h), fun _ _ h hh => absurd hh (Nat.not_lt_zero h), fun _ _ _ _ h hh => absurd hh (Nat.not_lt_zero h)⟩
/-- at the start both worlds tell nothing -/
theorem wr_start {F : List (Nat × Nat × Nat)} {g : Nat → Int32} (hI : IV S) (oc : ob S c 9) (u : UZ S) (hf : m ∉ hL S) (bx : BX (nW S m 11 0) T m F g) (h3 : ∀ e ∈ F, e.1 ≠ 3) (ha : a3 ∉ hL T) (e5 : U = nW T a3 14 1) : WRa c m A00 G00 U := by
  obtain ⟨r, w1, w2, J⟩ := cj_start hI oc u.1
  have gn : Gr S (nW S m 11 0) := gr_of_new rfl hf
  have mi : m ∈ hL (nW S m 11 0) := by
    show m ∈ hL S ++ [m]
    simp
  have gT : Gr S T := gr_tr gn bx.1
  have gU : Gr T U := gr_of_new e5 ha
  have g : Gr S U := gr_tr gT gU
  have row : ∀ x, x ∈ hL S → fI U x = fI S x ∧ fR U x = fR S x := fun x hx => by
    have xm : x ≠ m := fun z => hf (z ▸ hx)
    have xa : x ≠ a3 := fun z => ha (z ▸ (gT x hx).1)
    have q := bx.2.1 x (gn x hx).1 xm
    rw [e5]
    exact ⟨(va_up_ne _ _ xa).trans (q.1.trans (va_up_ne _ _ xm)), (va_up_ne _ _ xa).trans (q.2.2.trans (va_up_ne _ _ xm))⟩
  have ma : m ≠ a3 := fun z => ha (z ▸ (bx.1 m mi).1)
  have rowm : fR U m = fR T m := by rw [e5]; exact va_up_ne _ _ ma
  have kind : ∀ x k, ob U x k → (k = 7 ∨ k = 11) → x ∈ hL S ∨ x = m := fun x k ox hk => by
    rw [e5] at ox
    obtain ⟨o1, o2⟩ := ox
    have o1 : x ∈ hL T ++ [a3] := o1
    have o2 : va_up (hK T) a3 14 x = k := o2
    by_cases xa : x = a3
    · rw [xa, va_up_self] at o2
      omega
    · rw [va_up_ne _ _ xa] at o2
      rcases List.mem_append.mp o1 with z | z
      · rcases bx.2.2.1 x z with q | q
        · have q : x ∈ hL S ++ [m] := q
          rcases List.mem_append.mp q with q | q
          · exact Or.inl q
          · exact Or.inr (List.mem_singleton.mp q)
        · omega
      · exact absurd (List.mem_singleton.mp z) xa
  have J0 := J
  obtain ⟨j1, j2, j3, -, orr, o1, o2, -⟩ := J0
  have FWf : FW S U := ⟨fun x ox j _ => by rw [(row x ox.1).2], fun x hx _ => (row x hx).2⟩
  refine ⟨r, w1, w2, cj_mv hI g FWf (fun d od n q hq x ox z => ?_) J (by rw [(row c oc.1).2]) (by rw [(row c oc.1).2]) (by rw [(row r orr.1).2]), ?_, ctb_00, ⟨by decide, by decide, by decide, by decide, by decide, by decide⟩, Or.inl ⟨?_, rfl⟩⟩
  · have hk : q.1 = 7 ∨ q.1 = 11 := by
      simp only [List.mem_cons, List.not_mem_nil, or_false] at hq
      rcases hq with h | h | h | h | h | h | h | h <;> (rw [h]; decide)
    rcases kind x q.1 ox hk with hx | hx
    · rw [(row x hx).2] at z
      exact n q hq x ⟨hx, (g x hx).2.1.symm.trans ox.2⟩ z
    · rw [hx, rowm] at z
      rcases bx.2.2.2.2.1 q.2 d z with y | y
      · exact y.1 (gn d od.1).1
      · have y : va_up (fR S) m (fun _ => none) m q.2 = some d := y
        rw [va_up_self] at y
        cases y
  · unfold Cnt
    rw [(row w1 o1.1).1, u.2 w1 o1]
    exact ⟨rfl, rfl, rfl, rfl, rfl, rfl⟩
  · rw [rowm, bx.2.2.2.2.2.2.2.2 3 h3]
    exact congrFun (va_up_self (fR S) m (fun _ => none)) 3
end C21
end
section
/-! what air tells -/
def offOf (ws s v : Int32) : Int32 := (ws - (if v = 0 then s else s + 2)) &&& 3
def airOf (off wd : Int32) : Int32 := if off = 0 then wd else if off = 2 then -wd else 0
noncomputable def tellair (A : AS) (G : GC) (v1 v2 v3 : Int32) : Int32 := dc ((¬ v1 < 0 ∧ v1 < nI (aR A)) ∧ (v2 = 0 ∨ v2 = 1) ∧ (¬ v3 < 0 ∧ v3 < nI (aHs A))) (airOf (offOf (gRn G v3.toNatClampNeg 2) (gRd G v1.toNatClampNeg 2) v2) (gRn G v3.toNatClampNeg 3)) (-100)
theorem and3 (x : BitVec 32) : (x &&& 3#32).toNat = x.toNat % 4 := by
  rw [BitVec.toNat_and]
  exact Nat.and_two_pow_sub_one_eq_mod x.toNat 2
theorem off_bv (a b : BitVec 32) : (a - (b &&& 3#32)) &&& 3#32 = (a - b) &&& 3#32 := by
  apply BitVec.eq_of_toNat_eq
  rw [and3, and3, BitVec.toNat_sub, BitVec.toNat_sub, and3]
  have h1 := a.isLt
  have h2 := b.isLt
  omega
theorem off_eq (ws s : Int32) : (ws - ((s + 2) &&& 3)) &&& 3 = (ws - (s + 2)) &&& 3 := by
  apply Int32.toBitVec_inj.mp
  exact off_bv ws.toBitVec (s + 2).toBitVec
section C22
variable {c m w : Nat} {A : AS} {G : GC} {S T : HS} {v1 v2 v3 : Int32} {Q : Int32 → HS → Prop}
theorem way_in : (¬ (v2 < 0 ∨ 1 < v2)) ↔ (v2 = 0 ∨ v2 = 1) := by
  have e0 : (0 : Int32).toInt = 0 := by decide
  have e1 : (1 : Int32).toInt = 1 := by decide
  constructor
  · intro h
    have a := nlt_i (fun z => h (Or.inl z))
    have b := nlt_i (fun z => h (Or.inr z))
    rcases (by omega : v2.toInt = 0 ∨ v2.toInt = 1) with q | q
    · exact Or.inl (Int32.toInt_inj.mp (by omega))
    · exact Or.inr (Int32.toInt_inj.mp (by omega))
  · rintro (rfl | rfl) <;> decide
theorem sp_X9_isWay (h : P_X9_isWay v2 Q S) : P_X9_isWay v2 (fun x T => Q x T ∧ S = T ∧ ans (v2 = 0 ∨ v2 = 1) x) S := by
  delta P_X9_isWay P_X9_isWay_0
  refine ⟨fun c1 => ⟨h.1 c1, rfl, Or.inl ⟨Or.inl c1, rfl⟩⟩, fun c1 => ⟨fun c2 => ⟨(h.2 c1).1 c2, rfl, Or.inr ⟨fun z => z.elim c1 c2, rfl⟩⟩, fun c2 => ⟨(h.2 c1).2 c2, rfl, Or.inl ⟨Or.inr c2, rfl⟩⟩⟩⟩
theorem sp_X5_turnOf {o u : Nat} (h : P_X5_turnOf o v2 u Q S) : P_X5_turnOf o v2 u (fun x T => Q x T ∧ S = T ∧ x = offOf (fI S u 2) (fI S o 2) v2) S := by
  delta P_X5_turnOf P_X5_turnOf_0
  refine ⟨fun c1 => ⟨(h.1 c1).1, fun x e => ?_⟩, fun c1 => ⟨(h.2 c1).1, fun x e => ?_⟩⟩
  · have h := (h.1 c1).2 x e
    delta P_X5_turnOf_17
    refine ⟨h.1, fun y ey => ⟨h.2 y ey, rfl, ?_⟩⟩
    unfold offOf
    rw [if_neg c1, ey, e]
  · have h := (h.2 c1).2 x e
    delta P_X5_turnOf_17
    refine ⟨h.1, fun y ey => ⟨h.2 y ey, rfl, ?_⟩⟩
    unfold offOf
    rw [if_pos c1, ey, e]
theorem sp_X5_airAlong {o u : Nat} (h : P_X5_airAlong o v2 u Q S) : P_X5_airAlong o v2 u (fun x T => Q x T ∧ S = T ∧ x = airOf (offOf (fI S u 2) (fI S o 2) v2) (fI S u 3)) S := by
  delta P_X5_airAlong P_X5_airAlong_0
  obtain ⟨o1, h⟩ := h
  refine ⟨o1, cm_X5_turnOf (sp_X5_turnOf h) h (fun x3 S1 hp h g => ?_)⟩
  have h := h g
  obtain ⟨-, hS, hx⟩ := hp
  subst hS
  unfold airOf
  rw [← hx]
  refine ⟨fun c1 => ⟨fun c2 => ⟨(h.1 c1).1 c2, rfl, by rw [if_neg c1, if_neg c2]⟩, fun c2 => ?_⟩, fun c1 => ?_⟩
  · have h := (h.1 c1).2 c2
    exact ⟨h.1, fun y ey => ⟨h.2 y ey, rfl, by rw [if_neg c1, if_pos c2, ey]⟩⟩
  · have h := h.2 c1
    exact ⟨h.1, fun y ey => ⟨h.2 y ey, rfl, by rw [if_pos c1, ey]⟩⟩
theorem sp_X8_hasHour (hI : IV S) (ow : ob S w 8) (ab : ABd A) (hc : Cnt w A S) (h : P_X8_hasHour w v1 Q S) : P_X8_hasHour w v1 (fun x T => Q x T ∧ S = T ∧ ans (¬ v1 < 0 ∧ v1 < nI (aHs A)) x) S := by
  delta P_X8_hasHour P_X8_hasHour_0
  refine ⟨fun c1 => ⟨h.1 c1, rfl, Or.inr ⟨fun z => z.1 c1, rfl⟩⟩, fun c1 => ?_⟩
  have h := h.2 c1
  obtain ⟨o, h⟩ := h
  refine ⟨o, fun x2 e2 => ?_⟩
  have h := h x2 e2
  have e2 := e2.trans hc.2.1
  refine ⟨fun c2 => ⟨h.1 c2, rfl, Or.inr ⟨fun z => ?_, rfl⟩⟩, fun c2 => ?_⟩
  · rw [e2] at c2
    exact absurd z.2 (Int32.not_lt.mpr c2)
  have h := h.2 c2
  obtain ⟨a4, e4, h⟩ := h
  refine ⟨a4, e4, ?_⟩
  obtain ⟨o4, h⟩ := h
  refine ⟨o4, ?_⟩
  rw [e2] at c2
  have c2 := Int32.not_le.mp c2
  obtain ⟨a5, e5, -, n5⟩ := hI.1 (8, 6, 17, 6) (by decide) w ow
  cases e5.symm.trans e4
  have n5 : hN S a4 = 6 := n5.resolve_left (by decide)
  refine ⟨fun c3 => ?_, fun c3 => ⟨h.2 c3, rfl, Or.inl ⟨⟨c1, c2⟩, rfl⟩⟩⟩
  rw [n5] at c3
  have q1 := le_i c3
  have q2 := lt_i c2
  have hb := ab.2.1
  rw [nI_i (by omega)] at q1 q2
  omega
theorem sp_X11_isHour (hm : (fR S m 3 = none ∧ A = A00) ∨ ∃ rd, WRm m rd A G S) (h : P_X11_isHour m v1 Q S) : P_X11_isHour m v1 (fun x T => Q x T ∧ S = T ∧ ans ((∃ rd, WRm m rd A G S) ∧ ¬ v1 < 0 ∧ v1 < nI (aHs A)) x) S := by
  delta P_X11_isHour P_X11_isHour_0
  obtain ⟨o, h⟩ := h
  refine ⟨o, fun n => ⟨h.1 n, rfl, Or.inr ⟨fun z => ?_, rfl⟩⟩, fun a1 e1 => ?_⟩
  · obtain ⟨⟨rd, q⟩, -⟩ := z
    cases n.symm.trans q.1
  have h := h.2 a1 e1
  rcases hm with ⟨n, -⟩ | ⟨rd, hm⟩
  · cases n.symm.trans e1
  refine ⟨fun c1 => ⟨h.1 c1, rfl, Or.inr ⟨fun z => z.2.1 c1, rfl⟩⟩, fun c1 => ?_⟩
  have h := h.2 c1
  obtain ⟨a4, e4, h⟩ := h
  refine ⟨a4, e4, ?_⟩
  cases hm.1.symm.trans e4
  obtain ⟨o4, h⟩ := h
  refine ⟨o4, fun x5 e5 => ?_⟩
  have h := h x5 e5
  have e5 := e5.trans hm.2.2.1.2.1
  refine ⟨fun c2 => ⟨h.1 c2, rfl, Or.inr ⟨fun z => ?_, rfl⟩⟩, fun c2 => ⟨h.2 c2, rfl, Or.inl ⟨⟨⟨rd, hm⟩, c1, ?_⟩, rfl⟩⟩⟩
  · rw [e5] at c2
    exact absurd z.2.2 (Int32.not_lt.mpr c2)
  · rw [e5] at c2
    exact Int32.not_le.mp c2
theorem tl_X9_air {r w1 w2 : Nat} (hI : IV S) (J : CJ c r w1 w2 S) (hc : Cnt w1 A S) (ct : CtB w1 A G S S) (ab : ABd A) (h : P_X9_air c v1 v2 v3 Q S) : P_X9_air c v1 v2 v3 (fun x T => Q x T ∧ x = tellair A G v1 v2 v3) S := by
  have o1 := J.2.2.2.2.2.1
  have no : ¬ ((¬ v1 < 0 ∧ v1 < nI (aR A)) ∧ (v2 = 0 ∨ v2 = 1) ∧ (¬ v3 < 0 ∧ v3 < nI (aHs A))) → (-100 : Int32) = tellair A G v1 v2 v3 := fun hn => by
    unfold tellair
    rw [dc_n hn]
  delta P_X9_air P_X9_air_0
  obtain ⟨o2, h⟩ := h
  refine ⟨o2, ?_⟩
  obtain ⟨a1, e1, h⟩ := h
  refine ⟨a1, e1, ?_⟩
  cases J.1.symm.trans e1
  obtain ⟨o3, h⟩ := h
  refine ⟨o3, ?_⟩
  refine cm_X8_hasRoad (sp_X8_hasRoad hI o1 ab hc h) h (fun x4 S2 hp h g b => ?_)
  have h := h g b
  obtain ⟨-, hS, hx⟩ := hp
  subst hS
  refine ⟨fun c1 S6 e6 => ⟨h.1 c1 S6 e6, no (fun z => an0 hx c1 z.1)⟩, fun c1 => ?_⟩
  have h := h.2 c1
  have hx := an1 hx c1
  refine cm_X9_isWay (sp_X9_isWay h) h (fun x9 S7 hp h g b => ?_)
  have h := h g b
  obtain ⟨-, hS, hx2⟩ := hp
  subst hS
  refine ⟨fun c2 S6 e6 => ⟨h.1 c2 S6 e6, no (fun z => an0 hx2 c2 z.2.1)⟩, fun c2 => ?_⟩
  have h := h.2 c2
  have hx2 := an1 hx2 c2
  obtain ⟨a12, e12, h⟩ := h
  refine ⟨a12, e12, ?_⟩
  cases J.1.symm.trans e12
  obtain ⟨o12, h⟩ := h
  refine ⟨o12, ?_⟩
  refine cm_X8_hasHour (sp_X8_hasHour hI o1 ab hc h) h (fun x15 S13 hp h g b => ?_)
  have h := h g b
  obtain ⟨-, hS, hx3⟩ := hp
  subst hS
  refine Iff.mp and_comm ⟨fun c3 S6 e6 => ⟨h.2 c3 S6 e6, no (fun z => an0 hx3 c3 z.2.2)⟩, fun c3 => ?_⟩
  have h := h.1 c3
  have hx3 := an1 hx3 c3
  obtain ⟨a17, e17, h⟩ := h
  refine ⟨a17, e17, ?_⟩
  cases J.1.symm.trans e17
  obtain ⟨o17, h⟩ := h
  refine ⟨o17, ?_⟩
  obtain ⟨a18, e18, h⟩ := h
  refine ⟨a18, e18, ?_⟩
  obtain ⟨o18, h⟩ := h
  refine ⟨o18, ?_⟩
  obtain ⟨o19, h⟩ := h
  refine ⟨o19, ?_⟩
  obtain ⟨a20, e20, h⟩ := h
  refine ⟨a20, e20, ?_⟩
  obtain ⟨a21, e21, h⟩ := h
  refine ⟨a21, e21, ?_⟩
  cases J.1.symm.trans e21
  obtain ⟨o21, h⟩ := h
  refine ⟨o21, ?_⟩
  obtain ⟨a22, e22, h⟩ := h
  refine ⟨a22, e22, ?_⟩
  obtain ⟨o22, h⟩ := h
  refine ⟨o22, ?_⟩
  obtain ⟨o23, h⟩ := h
  refine ⟨o23, ?_⟩
  obtain ⟨a24, e24, h⟩ := h
  refine ⟨a24, e24, ?_⟩
  obtain ⟨o24, h⟩ := h
  refine ⟨o24, ?_⟩
  have e0 : (0 : Int32).toInt = 0 := by decide
  have hb1 := ab.2.2.2.1
  have hb2 := ab.2.1
  have q1 := nlt_i hx.1
  have q2 := lt_i hx.2
  have q3 := nlt_i hx3.1
  have q4 := lt_i hx3.2
  rw [nI_i (by omega)] at q2 q4
  have hv1 : v1.toNatClampNeg < aR A := by
    show v1.toInt.toNat < _
    omega
  have hv3 : v3.toNatClampNeg < aHs A := by
    show v3.toInt.toNat < _
    omega
  obtain ⟨o, eo, ho⟩ := ct.2.2.1 a18 e18 v1.toNatClampNeg hv1
  cases eo.symm.trans e20
  obtain ⟨u, eu, hu⟩ := ct.1 a22 e22 v3.toNatClampNeg hv3
  cases eu.symm.trans e24
  refine cm_X5_airAlong (sp_X5_airAlong h) h (fun x27 S25 hp h g => ?_)
  have h := h g
  obtain ⟨-, hS, hx4⟩ := hp
  subst hS
  refine cm_X9_grant (sp_X9_grant h) h (fun x30 S28 hp h g => ⟨h g, ?_⟩)
  unfold tellair
  rw [dc_y ⟨hx, hx2, hx3⟩, hp.2.1, hx4, ho 2 (by decide), hu 2 (by decide), hu 3 (by decide)]
theorem sp_X11_lost {v0 : Nat} (h : P_X11_lost v0 v1 Q S) : P_X11_lost v0 v1 (fun x T => Q x T ∧ x = -100) S := by
  delta P_X11_lost P_X11_lost_0
  obtain ⟨o1, h⟩ := h
  refine ⟨o1, cm_X11_refused (sp_X11_refused h) h (fun x U hp h g => ⟨h g, rfl⟩)⟩
theorem sp_X10_facing {rd a : Nat} (e : fR S rd 15 = some a) (h : P_X10_facing rd v1 v2 Q S) : P_X10_facing rd v1 v2 (fun x T => Q x T ∧ S = T ∧ x = if v2 = 0 then fI S a v1.toNatClampNeg else (fI S a v1.toNatClampNeg + 2) &&& 3) S := by
  delta P_X10_facing P_X10_facing_0
  refine ⟨fun c1 => ?_, fun c1 => ?_⟩
  · have h := h.1 c1
    obtain ⟨o1, h⟩ := h
    refine ⟨o1, ?_⟩
    obtain ⟨a2, e2, h⟩ := h
    refine ⟨a2, e2, ?_⟩
    cases e.symm.trans e2
    obtain ⟨o2, h⟩ := h
    refine ⟨o2, ?_⟩
    obtain ⟨o3, h⟩ := h
    exact ⟨o3, fun x ex => ⟨h x ex, rfl, by rw [if_neg c1, ex]⟩⟩
  · have h := h.2 c1
    obtain ⟨o1, h⟩ := h
    refine ⟨o1, ?_⟩
    obtain ⟨a2, e2, h⟩ := h
    refine ⟨a2, e2, ?_⟩
    cases e.symm.trans e2
    obtain ⟨o2, h⟩ := h
    refine ⟨o2, ?_⟩
    obtain ⟨o3, h⟩ := h
    exact ⟨o3, fun x ex => ⟨h x ex, rfl, by rw [if_pos c1, ex]⟩⟩
theorem sp_X10_air {rd a b d : Nat} (e15 : fR S rd 15 = some a) (e9 : fR S rd 9 = some b) (e10 : fR S rd 10 = some d) (h : P_X10_air rd v1 v2 v3 Q S) : P_X10_air rd v1 v2 v3 (fun x T => Q x T ∧ S = T ∧ x = airOf (offOf (fI S b v3.toNatClampNeg) (fI S a v1.toNatClampNeg) v2) (fI S d v3.toNatClampNeg)) S := by
  delta P_X10_air P_X10_air_0
  obtain ⟨o1, h⟩ := h
  refine ⟨o1, ?_⟩
  obtain ⟨a2, e2, h⟩ := h
  refine ⟨a2, e2, ?_⟩
  cases e9.symm.trans e2
  obtain ⟨o2, h⟩ := h
  refine ⟨o2, ?_⟩
  obtain ⟨o3, h⟩ := h
  refine ⟨o3, fun x3 e3 => ?_⟩
  have h := h x3 e3
  refine cm_X10_facing (sp_X10_facing e15 h) h (fun x6 S4 hp h g => ?_)
  have h := h g
  obtain ⟨-, hS, hx⟩ := hp
  subst hS
  intro x7 e7
  have h := h x7 e7
  have eo : x7 = offOf (fI S b v3.toNatClampNeg) (fI S a v1.toNatClampNeg) v2 := by
    unfold offOf
    rw [e7, hx, e3]
    by_cases c1 : v2 = 0
    · rw [if_pos c1, if_pos c1]
    · rw [if_neg c1, if_neg c1]
      exact off_eq _ _
  unfold airOf
  rw [← eo]
  refine ⟨fun c1 => ⟨fun c2 => ⟨(h.1 c1).1 c2, rfl, by rw [if_neg c1, if_neg c2]⟩, fun c2 => ?_⟩, fun c1 => ?_⟩
  · have h := (h.1 c1).2 c2
    obtain ⟨a5, e5, h⟩ := h
    refine ⟨a5, e5, ?_⟩
    cases e10.symm.trans e5
    obtain ⟨o5, h⟩ := h
    refine ⟨o5, ?_⟩
    obtain ⟨o6, h⟩ := h
    exact ⟨o6, fun y ey => ⟨h y ey, rfl, by rw [if_neg c1, if_pos c2, ey]⟩⟩
  · have h := h.2 c1
    obtain ⟨a5, e5, h⟩ := h
    refine ⟨a5, e5, ?_⟩
    cases e10.symm.trans e5
    obtain ⟨o5, h⟩ := h
    refine ⟨o5, ?_⟩
    obtain ⟨o6, h⟩ := h
    exact ⟨o6, fun y ey => ⟨h y ey, rfl, by rw [if_pos c1, ey]⟩⟩
theorem hm_0 {S1 : HS} (hm : (fR S m 3 = none ∧ A = A00) ∨ ∃ rd, WRm m rd A G S) (o2 : ob S m 11) (eS1 : S1 = sI S m 0 0) : (fR S1 m 3 = none ∧ A = A00) ∨ ∃ rd, WRm m rd A G S1 := by
  have fr : fR S1 = fR S := by rw [eS1]; rfl
  rcases hm with ⟨n, hA⟩ | ⟨rd, hm⟩
  · exact Or.inl ⟨by rw [fr]; exact n, hA⟩
  · refine Or.inr ⟨rd, wrm_mv (by rw [eS1]; exact gr_rf S) hm (by rw [fr]) (fun i _ => by rw [fr]) (fun j _ => by rw [row_o eS1 (ob_ne hm.2.1 o2 (by decide))]) (fun b o n => ⟨row_o eS1 (o.elim (fun o => ob_ne o o2 (by decide)) (fun o => ob_ne o o2 (by decide))), by rw [eS1]; exact n⟩)⟩
theorem rd_ex {rd : Nat} (hI : IV S) (hr : WRm m rd A G S) {i : Nat} (h1 : 7 ≤ i) (h2 : i ≤ 27) : ∃ b, fR S rd i = some b := by
  have hs : ∀ i, i < 28 → 7 ≤ i → ∃ s ∈ shT, s.1 = 10 ∧ s.2.1 = i := by decide
  obtain ⟨s, hs, q1, q2⟩ := hs i (by omega) h1
  obtain ⟨d, e1, -, -⟩ := hI.1 s hs rd (by rw [q1]; exact hr.2.1)
  rw [q2] at e1
  exact ⟨d, e1⟩
theorem tl_X11_air (hI : IV S) (hm : (fR S m 3 = none ∧ A = A00) ∨ ∃ rd, WRm m rd A G S) (ab : ABd A) (h : P_X11_air m v1 v2 v3 Q S) : P_X11_air m v1 v2 v3 (fun x T => Q x T ∧ x = tellair A G v1 v2 v3) S := by
  have no : ∀ T, ¬ ((¬ v1 < 0 ∧ v1 < nI (aR A)) ∧ (v2 = 0 ∨ v2 = 1) ∧ (¬ v3 < 0 ∧ v3 < nI (aHs A))) → P_X11_air_30 Q m T → P_X11_air_30 (fun x T => Q x T ∧ x = tellair A G v1 v2 v3) m T := by
    intro T hn h
    delta P_X11_air_30
    obtain ⟨o2, h⟩ := h
    refine ⟨o2, cm_X11_lost (sp_X11_lost h) h (fun x U hp h g => ⟨h g, ?_⟩)⟩
    unfold tellair
    rw [dc_n hn]
    exact hp.2
  delta P_X11_air P_X11_air_0
  obtain ⟨o2, h⟩ := h
  refine ⟨o2, fun S1 eS1 => ?_⟩
  have h := h S1 eS1
  have hm1 := hm_0 hm o2 eS1
  have zero : ∀ {v : Int32} {k : Nat}, k = 0 → ¬ v < 0 → ¬ v < nI k := fun {v k} hk a b => by
    have q1 := nlt_i a
    have q2 := lt_i b
    have e0 : (0 : Int32).toInt = 0 := by decide
    have e1 : (nI k).toInt = 0 := by rw [hk]; decide
    omega
  refine cm_X11_isRoad (sp_X11_isRoad hm1 h) h (fun x4 S2 hp h g b => ?_)
  have h := h g b
  obtain ⟨-, hS, hx⟩ := hp
  subst hS
  refine ⟨fun c1 => no _ (fun z => ?_) (h.1 c1), fun c1 => ?_⟩
  · rcases hm1 with ⟨n, hA⟩ | hm1
    · exact zero (by rw [hA]; rfl) z.1.1 z.1.2
    · exact an0 hx c1 ⟨hm1, z.1⟩
  have h := h.2 c1
  obtain ⟨⟨rd, hr⟩, hx⟩ := an1 hx c1
  refine cm_X11_in (sp_X11_in h) h (fun x8 S6 hp h g b => ?_)
  have h := h g b
  obtain ⟨-, hS, hx2⟩ := hp
  subst hS
  refine ⟨fun c2 => no _ (fun z => an0 hx2 c2 (way_in.mpr z.2.1)) (h.1 c2), fun c2 => ?_⟩
  have h := h.2 c2
  have hx2 := way_in.mp (an1 hx2 c2)
  refine cm_X11_isHour (sp_X11_isHour hm1 h) h (fun x12 S10 hp h g b => ?_)
  have h := h g b
  obtain ⟨-, hS, hx3⟩ := hp
  subst hS
  refine Iff.mp and_comm ⟨fun c3 => no _ (fun z => an0 hx3 c3 ⟨⟨rd, hr⟩, z.2.2⟩) (h.2 c3), fun c3 => ?_⟩
  have h := h.1 c3
  obtain ⟨-, hx3⟩ := an1 hx3 c3
  obtain ⟨a14, e14, h⟩ := h
  refine ⟨a14, e14, ?_⟩
  cases hr.1.symm.trans e14
  obtain ⟨o14, h⟩ := h
  refine ⟨o14, ?_⟩
  have hI1 : ∃ b15 b9 b10, fR S1 rd 15 = some b15 ∧ fR S1 rd 9 = some b9 ∧ fR S1 rd 10 = some b10 := by
    have fr : fR S1 = fR S := by rw [eS1]; rfl
    rw [fr]
    have o10 : ob S rd 10 := by
      have := hr.2.1
      rw [eS1] at this
      exact this
    obtain ⟨b15, q15, -⟩ := hI.1 (10, 15, 13, 12) (by decide) rd o10
    obtain ⟨b9, q9, -⟩ := hI.1 (10, 9, 13, 6) (by decide) rd o10
    obtain ⟨b10, q10, -⟩ := hI.1 (10, 10, 13, 6) (by decide) rd o10
    exact ⟨b15, b9, b10, q15, q9, q10⟩
  obtain ⟨b15, b9, b10, q15, q9, q10⟩ := hI1
  refine cm_X10_air (sp_X10_air q15 q9 q10 h) h (fun x17 S15 hp h g => ?_)
  have h := h g
  obtain ⟨-, hS, hx4⟩ := hp
  subst hS
  have e0 : (0 : Int32).toInt = 0 := by decide
  have hb1 := ab.2.2.2.1
  have hb2 := ab.2.1
  have p1 := nlt_i hx.1
  have p2 := lt_i hx.2
  have p3 := nlt_i hx3.1
  have p4 := lt_i hx3.2
  rw [nI_i (by omega)] at p2 p4
  have hv1 : v1.toNatClampNeg < aR A := by
    show v1.toInt.toNat < _
    omega
  have hv3 : v3.toNatClampNeg < aHs A := by
    show v3.toInt.toNat < _
    omega
  refine cm_X11_good (sp_X11_good h) h (fun x20 S18 hp h g => ⟨h g, ?_⟩)
  have c15 := hr.2.2.2.1 15 b15 (by decide) (by decide) q15 v1.toNatClampNeg hv1
  have c9 := hr.2.2.2.1 9 b9 (by decide) (by decide) q9 v3.toNatClampNeg hv3
  have c10 := hr.2.2.2.1 10 b10 (by decide) (by decide) q10 v3.toNatClampNeg hv3
  unfold tellair
  rw [dc_y ⟨hx, hx2, hx3⟩, hp.2.1, hx4, c15, c9, c10]
  rfl
end C22
/-! bounds of what was told -/
def inI (lo hi : Int) (x : Int32) : Prop := lo ≤ x.toInt ∧ x.toInt ≤ hi
def RnB (g : Nat → Int32) : Prop := inI 0 9 (g 0) ∧ inI 1 9 (g 1) ∧ inI 0 3 (g 2) ∧ inI 0 9 (g 3) ∧ inI 0 100 (g 4)
def RoB (g : Nat → Int32) : Prop := inI 0 7 (g 0) ∧ inI 0 7 (g 1) ∧ inI 0 3 (g 2) ∧ inI 1 60 (g 3) ∧ 0 ≤ (g 4).toInt ∧ (g 4).toInt ≤ (g 3).toInt
def WkB (g : Nat → Int32) : Prop := inI 0 3 (g 0) ∧ inI 0 999 (g 1) ∧ inI 1 153 (g 2) ∧ inI 1 81 (g 3) ∧ inI 1 153 (g 4) ∧ inI 1 9 (g 5) ∧ (g 5).toInt ≤ (g 6).toInt ∧ (g 6).toInt ≤ 9
def GBd (A : AS) (G : GC) : Prop := (∀ h, h < aHs A → RnB (gRn G h)) ∧ (∀ i, i < aP A → gPk G i ≤ 2 ∧ inI 0 9 (gPv G i)) ∧ (∀ i, i < aR A → RoB (gRd G i)) ∧ ∀ i, i < aW A → WkB (gWk G i)
section C23
variable {f : Nat → Int32} {n p q : Nat} {A : AS} {G : GC}
theorem t32 {v a b : Int64} (h : a ≤ v ∧ v ≤ b) {lo hi : Int} (ha : a.toInt = lo) (hb : b.toInt = hi) (h1 : -1000000 ≤ lo) (h2 : hi ≤ 1000000) : inI lo hi v.toInt32 ∧ v.toInt32.toInt = v.toInt := by
  have a0 := Int64.le_iff_toInt_le.mp h.1
  have a1 := Int64.le_iff_toInt_le.mp h.2
  rw [ha] at a0
  rw [hb] at a1
  have e : v.toInt32.toInt = v.toInt := by
    rw [Int64.toInt_toInt32]
    exact Int.bmod_eq_of_le (by omega) (by omega)
  unfold inI
  rw [e]
  exact ⟨⟨a0, a1⟩, rfl⟩
theorem sdV_in : inI 0 3 (sdV f n p) := by
  unfold sdV
  cases hs : sideOf f n p with
  | none => unfold inI; decide
  | some k =>
    have hk : k ≤ 3 := by
      unfold sideOf dc at hs
      repeat' split at hs
      all_goals first | (cases hs; done) | (cases hs; decide)
    show inI 0 3 (nI k)
    unfold inI
    rw [nI_i (by omega)]
    omega
theorem nI_in8 {k : Nat} (h : k < 8) : inI 0 7 (nI k) := by
  unfold inI
  rw [nI_i (by omega)]
  omega
theorem gb_rain (h : sRain f n p = .inl q) : RnB (rnC f n p) := by
  unfold sRain at h
  obtain ⟨p1, h1, h⟩ := rb_inl h
  obtain ⟨p2, h2, h⟩ := rb_inl h
  obtain ⟨p3, h3, h⟩ := rb_inl h
  obtain ⟨p4, h4, h⟩ := rb_inl h
  obtain ⟨p5, h5, h⟩ := rb_inl h
  have b0 := (t32 (part_in h1) (lo := 0) (hi := 9) rfl rfl (by decide) (by decide)).1
  have b1 := (t32 (part_in h2) (lo := 1) (hi := 9) rfl rfl (by decide) (by decide)).1
  have b3 := (t32 (whole_in h5) (lo := 0) (hi := 9) rfl rfl (by decide) (by decide)).1
  have b4 := (t32 (part_in h) (lo := 0) (hi := 100) rfl rfl (by decide) (by decide)).1
  rw [sPart_inl h1] at b1
  rw [sSide_inl h4, sWord_inl h3, sPart_inl h2, sPart_inl h1] at b3
  rw [sWhole_inl h5, sSide_inl h4, sWord_inl h3, sPart_inl h2, sPart_inl h1] at b4
  exact ⟨b0, b1, sdV_in, b3, b4⟩
theorem gb_place : plK f n p ≤ 2 ∧ (sPlace f n p A = .inl q → inI 0 9 (plV f n p)) := by
  refine ⟨?_, fun h => ?_⟩
  · unfold plK dc
    repeat' split
    all_goals decide
  · unfold sPlace at h
    obtain ⟨p1, h1, h⟩ := rb_inl h
    have e1 := (sNew_inl h1).1
    unfold plV
    rw [← e1]
    by_cases c1 : isW f n p1 15
    · rw [dc_y c1]
      unfold inI
      decide
    · rw [dc_n c1]
      have h : dc (isW f n p1 15) (.inl (tEn f n p1)) (dc (isW f n p1 16) (sPart f n p1 16 0 9) (.inl p1)) = (.inl q : Res) := h
      rw [dc_n c1] at h
      by_cases c2 : isW f n p1 16
      · rw [dc_y c2] at h ⊢
        exact (t32 (part_in h) (lo := 0) (hi := 9) rfl rfl (by decide) (by decide)).1
      · rw [dc_n c2]
        unfold inI
        decide
theorem gb_road (h : sRoad f n p A = .inl q) : RoB (rdC f n p A) := by
  unfold sRoad at h
  obtain ⟨p1, h1, h⟩ := rb_inl h
  obtain ⟨p2, h2, h⟩ := rb_inl h
  obtain ⟨p3, h3, h⟩ := rb_inl h
  obtain ⟨p4, h4, h⟩ := rb_inl h
  obtain ⟨e1, k1, g1, l1⟩ := sPB_inl h1
  obtain ⟨e4, k4, g4, l4⟩ := sPB_inl h4
  have e2 := sSide_inl h2
  have e3 := sWhole_inl h3
  have b3 := t32 (whole_in h3) (lo := 1) (hi := 60) rfl rfl (by decide) (by decide)
  subst e1
  subst e2
  subst e3
  subst e4
  refine ⟨?_, ?_, sdV_in, b3.1, ?_⟩
  · show inI 0 7 (nI (lkV A (tV f n p)))
    rw [lkV_of g1]
    exact nI_in8 l1
  · show inI 0 7 (nI (lkV A _))
    rw [show lkV A (tV f n (tEn f n (e2 f n p))) = k4 from lkV_of g4]
    exact nI_in8 l4
  · show 0 ≤ (dc _ _ _ : Int32).toInt ∧ (dc (isW f n (e2 f n (e2 f n p)) 17) (pVal f n (e2 f n (e2 f n p))) 0 : Int32).toInt ≤ ((tV f n (e2 f n p)).toInt32).toInt
    have b3 : inI 1 60 (tV f n (e2 f n p)).toInt32 := b3.1
    by_cases c : isW f n (e2 f n (e2 f n p)) 17
    · have h : dc (isW f n (e2 f n (e2 f n p)) 17) (sPart f n (e2 f n (e2 f n p)) 17 0 (tV f n (e2 f n p)).toInt32.toInt64) (.inl _) = (.inl q : Res) := h
      rw [dc_y c] at h ⊢
      have b := t32 (part_in h) (lo := 0) (hi := (tV f n (e2 f n p)).toInt32.toInt) rfl (Int32.toInt_toInt64 _) (by decide) (by have := b3.2; omega)
      exact b.1
    · rw [dc_n c]
      have := b3.1
      have e0 : (0 : Int32).toInt = 0 := by decide
      omega
theorem mul_in {x y : Int32} {a b c d : Int} (hx : inI a b x) (hy : inI c d y) (h0 : 0 ≤ a) (h1 : 0 ≤ c) (hb : b * d ≤ 1000000) : inI (a * c) (b * d) (x * y) := by
  have l : a * c ≤ x.toInt * y.toInt := Int.mul_le_mul hx.1 hy.1 h1 (by have := hx.1; omega)
  have u : x.toInt * y.toInt ≤ b * d := Int.mul_le_mul hx.2 hy.2 (by have := hy.1; omega) (by have := hx.1; have := hx.2; omega)
  have p : 0 ≤ a * c := Int.mul_nonneg h0 h1
  unfold inI
  rw [Int32.toInt_mul, Int.bmod_eq_of_le (by omega) (by omega)]
  exact ⟨l, u⟩
theorem add_in {x y : Int32} {a b c d : Int} (hx : inI a b x) (hy : inI c d y) (h0 : -100000 ≤ a) (h1 : -100000 ≤ c) (h2 : b ≤ 100000) (h3 : d ≤ 100000) : inI (a + c) (b + d) (x + y) ∧ (x + y).toInt = x.toInt + y.toInt := by
  have e : (x + y).toInt = x.toInt + y.toInt := by
    have := hx.1; have := hx.2; have := hy.1; have := hy.2
    rw [Int32.toInt_add, Int.bmod_eq_of_le (by omega) (by omega)]
  unfold inI
  rw [e]
  have := hx.1; have := hx.2; have := hy.1; have := hy.2
  exact ⟨⟨by omega, by omega⟩, rfl⟩
theorem sub_in {x y : Int32} {a b c d : Int} (hx : inI a b x) (hy : inI c d y) (h0 : -100000 ≤ a) (h1 : -100000 ≤ c) (h2 : b ≤ 100000) (h3 : d ≤ 100000) : (x - y).toInt = x.toInt - y.toInt := by
  have := hx.1; have := hx.2; have := hy.1; have := hy.2
  rw [Int32.toInt_sub, Int.bmod_eq_of_le (by omega) (by omega)]
/-- the kind, its amount and the bow -/
theorem gb_kind (h : sKind f n p = .inl q) : inI 0 3 (nI (kdOf f n p)) ∧ inI 0 999 (amOf f n p) ∧ inI 0 8 (bowOf f n p) ∧ (lhOf f n p).toInt = (bowOf f n p).toInt + 1 := by
  have hk := kdOf_le f n p
  have k3 : inI 0 3 (nI (kdOf f n p)) := by
    unfold inI
    rw [nI_i (by omega)]
    omega
  have e1 : (1 : Int32).toInt = 1 := by decide
  have e0 : (0 : Int32).toInt = 0 := by decide
  unfold sKind at h
  by_cases c1 : isW f n p 18
  · rw [dc_y c1] at h
    have b := (t32 (part_in h) (lo := 1) (hi := 8) rfl rfl (by decide) (by decide)).1
    have b : inI 1 8 (pVal f n p) := b
    obtain ⟨q1, q2, q3, -⟩ := ko_1 c1
    have z := add_in b (y := 1) (c := 1) (d := 1) ⟨by decide, by decide⟩ (by decide) (by decide) (by decide) (by decide)
    refine ⟨k3, by rw [q2]; exact ⟨by have := b.1; omega, by have := b.2; omega⟩, by rw [q3]; exact ⟨by have := b.1; omega, b.2⟩, ?_⟩
    unfold lhOf
    rw [if_pos q1, q2, q3, z.2, e1]
  rw [dc_n c1] at h
  have lh : kdOf f n p ≠ 1 → lhOf f n p = 1 := fun z => by unfold lhOf; rw [if_neg z]
  by_cases c2 : isW f n p 19
  · rw [dc_y c2] at h
    have b : inI 0 999 (pVal f n p) := (t32 (part_in h) (lo := 0) (hi := 999) rfl rfl (by decide) (by decide)).1
    obtain ⟨q1, q2, q3, -⟩ := ko_2 c2
    exact ⟨k3, by rw [q2]; exact b, by rw [q3]; exact ⟨by decide, by decide⟩, by rw [lh (by omega), q3, e1, e0]; rfl⟩
  rw [dc_n c2] at h
  by_cases c3 : isW f n p 20
  · rw [dc_y c3] at h
    have b : inI 1 99 (pVal f n p) := (t32 (part_in h) (lo := 1) (hi := 99) rfl rfl (by decide) (by decide)).1
    obtain ⟨q1, q2, q3, -⟩ := ko_3 c3
    exact ⟨k3, by rw [q2]; exact ⟨by have := b.1; omega, by have := b.2; omega⟩, by rw [q3]; exact ⟨by decide, by decide⟩, by rw [lh (by omega), q3, e1, e0]; rfl⟩
  rw [dc_n c3] at h
  have c0 : isW f n p 21 := by
    unfold sWord at h
    split at h
    · assumption
    · cases h
  obtain ⟨q1, q2, q3, -⟩ := ko_0 c0
  exact ⟨k3, by rw [q2]; exact ⟨by decide, by decide⟩, by rw [q3]; exact ⟨by decide, by decide⟩, by rw [lh (by omega), q3, e1, e0]; rfl⟩
theorem gb_walk (h : sWalker f n p A = .inl q) : WkB (wkC f n p) := by
  unfold sWalker at h
  obtain ⟨p1, h1, h⟩ := rb_inl h
  obtain ⟨p2, h2, h⟩ := rb_inl h
  obtain ⟨p3, h3, h⟩ := rb_inl h
  obtain ⟨p4, h4, h⟩ := rb_inl h
  have z1 := (sNew_inl h1).1
  obtain ⟨k1, k2, k3, k4⟩ := gb_kind h2
  have z2 := sKind_inl h2
  have z3 := sBody_inl h3
  have b5 : inI 1 9 (pVal f n p3) := (t32 (part_in h4) (lo := 1) (hi := 9) rfl rfl (by decide) (by decide)).1
  have z4 := sPart_inl h4
  have b6 := t32 (part_in h) (lo := (pVal f n p3).toInt) (hi := 9) (Int32.toInt_toInt64 _) rfl (by have := b5.1; omega) (by decide)
  unfold sBody at h3
  obtain ⟨r1, g1, h3⟩ := rb_inl h3
  obtain ⟨r2, g2, h3⟩ := rb_inl h3
  have c0 : inI 1 9 (pVal f n p2) := (t32 (part_in g1) (lo := 1) (hi := 9) rfl rfl (by decide) (by decide)).1
  have c1 : inI 1 9 (pVal f n r1) := (t32 (part_in g2) (lo := 1) (hi := 9) rfl rfl (by decide) (by decide)).1
  have c2 : inI (lhOf f n p1).toInt 9 (pVal f n r2) := (t32 (part_in h3) (lo := (lhOf f n p1).toInt) (hi := 9) (Int32.toInt_toInt64 _) rfl (by have := k3.1; omega) (by decide)).1
  rw [sPart_inl g1] at c1
  rw [sPart_inl g2, sPart_inl g1] at c2
  subst z1
  have s1 := (add_in c1 k3 (by decide) (by decide) (by decide) (by decide)).1
  have s2 := sub_in c2 k3 (by have := k3.1; omega) (by decide) (by decide) (by decide)
  have s2' : inI 1 9 (pVal f n (tEn f n (tEn f n (tEn f n (tEn f n p2)))) - bowOf f n (tEn f n p)) := by
    unfold inI
    rw [s2]
    have := c2.1; have := c2.2; have := k3.1
    omega
  have m1 := mul_in c0 s1 (by decide) (by decide) (by decide)
  have m2 := mul_in c0 s2' (by decide) (by decide) (by decide)
  have m3 := mul_in s1 s2' (by decide) (by decide) (by decide)
  rw [z2] at m1 m2 m3
  rw [z3, z2] at b5
  rw [z4, z3, z2] at b6
  exact ⟨k1, k2, m1, m2, m3, b5, b6.1.1, b6.1.2⟩
end C23
/-! bounds of what was told, over the whole text -/
section C24
variable {f : Nat → Int32} {n p q : Nat} {A : AS} {G : GC}
theorem up_lt {P : (Nat → Int32) → Prop} {g : Nat → Nat → Int32} {k : Nat} {c : Nat → Int32} (h : ∀ i, i < k → P (g i)) (hc : P c) : ∀ i, i < k + 1 → P (va_up g k c i) := by
  intro i hi
  by_cases z : i = k
  · rw [z, va_up_self]
    exact hc
  · rw [va_up_ne _ _ z]
    exact h i (by omega)
theorem gb_ln (h : sLn f n p A = .inl q) (b : GBd A G) : GBd (aLn f n p A) (gLn f n p A G) := by
  obtain ⟨b1, b2, b3, b4⟩ := b
  unfold sLn at h
  unfold aLn gLn
  by_cases w0 : isW f n p 0
  · rw [dc_y w0, dc_y w0]
    exact ⟨b1, b2, b3, b4⟩
  rw [dc_n w0] at h
  rw [dc_n w0, dc_n w0]
  by_cases w2 : isW f n p 2
  · rw [dc_y w2] at h
    rw [dc_y w2, dc_y w2]
    obtain ⟨p1, h1, h⟩ := rb_inl h
    rw [(sRoom_inl h1).1] at h
    exact ⟨up_lt b1 (gb_rain h), b2, b3, b4⟩
  rw [dc_n w2] at h
  rw [dc_n w2, dc_n w2]
  by_cases w11 : isW f n p 11
  · rw [dc_y w11] at h
    rw [dc_y w11, dc_y w11]
    obtain ⟨p1, h1, h⟩ := rb_inl h
    rw [(sRoom_inl h1).1] at h
    refine ⟨b1, fun i hi => ?_, b3, b4⟩
    show va_up (gPk G) (aP A) _ i ≤ 2 ∧ inI 0 9 (va_up (gPv G) (aP A) _ i)
    have hi : i < aP A + 1 := hi
    by_cases z : i = aP A
    · rw [z, va_up_self, va_up_self]
      exact ⟨(gb_place (A := A) (q := q)).1, gb_place.2 h⟩
    · rw [va_up_ne _ _ z, va_up_ne _ _ z]
      exact b2 i (by omega)
  rw [dc_n w11] at h
  rw [dc_n w11, dc_n w11]
  by_cases w12 : isW f n p 12
  · rw [dc_y w12] at h
    rw [dc_y w12, dc_y w12]
    obtain ⟨p1, h1, h⟩ := rb_inl h
    rw [(sRoom_inl h1).1] at h
    exact ⟨b1, b2, up_lt b3 (gb_road h), b4⟩
  rw [dc_n w12] at h
  rw [dc_n w12, dc_n w12]
  by_cases w13 : isW f n p 13
  · rw [dc_y w13] at h
    rw [dc_y w13, dc_y w13]
    obtain ⟨p1, h1, h⟩ := rb_inl h
    rw [(sRoom_inl h1).1] at h
    exact ⟨b1, b2, b3, up_lt b4 (gb_walk h)⟩
  rw [dc_n w13, dc_n w13]
  exact ⟨b1, b2, b3, b4⟩
theorem gb_all : ∀ (k p : Nat) (A A' : AS) (G : GC), sAll f n k p A = .inl A' → GBd A G → GBd A' (gAll f n k p A G) := by
  intro k
  induction k with
  | zero => intro p A A' G h b; cases h
  | succ k ih =>
    intro p A A' G h b
    have h : aft f n (aLn f n p A) (fun p2 => sAll f n k p2 (aLn f n p A)) (sLn f n p A) = .inl A' := h
    show GBd A' (gAft f n G (gLn f n p A G) (fun p2 => gAll f n k p2 (aLn f n p A) (gLn f n p A G)) (sLn f n p A))
    cases hL : sLn f n p A with
    | inr e => rw [hL] at h; cases h
    | inl p1 =>
      rw [hL] at h
      have b := gb_ln hL b
      unfold aft at h
      unfold gAft
      by_cases c0 : tS f n p1 = 0
      · simp only [if_pos c0] at h ⊢
        split at h
        · cases h
          exact b
        · cases h
      · simp only [if_neg c0] at h ⊢
        cases hS : sSign f n p1 3 with
        | inr e => rw [hS] at h; cases h
        | inl p2 =>
          rw [hS] at h
          exact ih p2 _ _ _ h b
theorem rw_gb {t : Nat} {v1 : Int32} {pr : AS × GC} (h : RWo f t v1 = some pr) : GBd pr.1 pr.2 := by
  unfold RWo at h
  by_cases c : v1 < 0 ∨ nI t < v1
  · rw [dc_y c] at h
    cases h
  · rw [dc_n c] at h
    unfold RWs at h
    cases hR : sAll f v1.toNatClampNeg 1000 0 A00 with
    | inr e => rw [hR] at h; cases h
    | inl A =>
      rw [hR] at h
      cases h
      exact gb_all 1000 0 A00 A G00 hR ⟨fun h hh => absurd hh (Nat.not_lt_zero h), fun h hh => absurd hh (Nat.not_lt_zero h), fun h hh => absurd hh (Nat.not_lt_zero h), fun h hh => absurd hh (Nat.not_lt_zero h)⟩
theorem gb_00 : GBd A00 G00 := ⟨fun h hh => absurd hh (Nat.not_lt_zero h), fun h hh => absurd hh (Nat.not_lt_zero h), fun h hh => absurd hh (Nat.not_lt_zero h), fun h hh => absurd hh (Nat.not_lt_zero h)⟩
/-- both worlds tell the same, and within bounds -/
def WRy (c m : Nat) (S : HS) : Prop := ∃ A G, WRa c m A G S ∧ GBd A G
end C24
section C24b
variable {c r w w1 w2 m rd a t : Nat} {A : AS} {G : GC} {S T U : HS} {wi wr : List (Nat × Nat)} {R : Option (AS × GC)}
theorem wr_wy (hI : IV S) (hT : IV T) (hU : IV U) (om : ob S m 11) (J : CJ c r w1 w2 S) (h1 : Cnt w1 A S) (h2 : CtB w1 A G S S) (h3 : ABd A) (h4 : (fR S m 3 = none ∧ A = A00) ∨ ∃ rd, WRm m rd A G S) (g : Gr S T) (K' : K8 S T) (F : FRI wi wr S T) (hR : (11, 3) ∉ wr) (h10 : ∀ i, i < 31 → (10, i) ∉ wr) (h10i : ∀ j, j < 6 → (10, j) ∉ wi) (hW8 : ∀ j ∈ ([6, 7, 8, 9, 10, 11] : List Nat), (8, j) ∉ wr) (g' : Gr T U) (e : WCe c r w1 w2 S R T) (e' : WMe m T R U) (gb : GBd A G) (hG : ∀ p, R = some p → GBd p.1 p.2) : WRy c m U := by
  obtain ⟨A', G', h, q⟩ := wr_worldz hI hT hU om J h1 h2 h3 h4 g K' F hR h10 h10i hW8 g' e e'
  rcases q with ⟨-, q1, q2⟩ | q
  · exact ⟨A', G', h, by rw [q1, q2]; exact gb⟩
  · exact ⟨A', G', h, hG _ q⟩
end C24b
/-! what minutes tells -/
noncomputable def tellminutes (A : AS) (G : GC) (v1 v2 v3 : Int32) : Int32 := dc ((¬ v1 < 0 ∧ v1 < nI (aW A)) ∧ (¬ v2 < 0 ∧ v2 < nI (aR A)) ∧ ¬ (v3 < gWk G v1.toNatClampNeg 5 ∨ gWk G v1.toNatClampNeg 6 < v3)) ((gRd G v2.toNatClampNeg 3 + v3 - 1) / v3) (-1)
section C25
variable {c m w : Nat} {A : AS} {G : GC} {S T : HS} {v1 v2 v3 : Int32} {Q : Int32 → HS → Prop}
theorem ix_lt {k : Nat} (hk : k ≤ 900) (h : ¬ v1 < 0 ∧ v1 < nI k) : v1.toNatClampNeg < k := by
  have e0 : (0 : Int32).toInt = 0 := by decide
  have q1 := nlt_i h.1
  have q2 := lt_i h.2
  rw [nI_i (by omega)] at q2
  show v1.toInt.toNat < _
  omega
theorem sp_X6_canGo {o : Nat} (b1 : 1 ≤ (fI S o 5).toInt) (b2 : (fI S o 6).toInt ≤ 9) (h : P_X6_canGo o v3 Q S) : P_X6_canGo o v3 (fun x T => Q x T ∧ S = T ∧ ans (¬ (v3 < fI S o 5 ∨ fI S o 6 < v3)) x) S := by
  have e1 : (1 : Int32).toInt = 1 := by decide
  have e9 : (9 : Int32).toInt = 9 := by decide
  delta P_X6_canGo P_X6_canGo_0
  obtain ⟨o1, h⟩ := h
  refine ⟨o1, fun x1 ex1 => ?_⟩
  have h := h x1 ex1
  refine ⟨fun c1 => ⟨h.1 c1, rfl, Or.inr ⟨fun z => z (Or.inl (ex1 ▸ c1)), rfl⟩⟩, fun c1 => ?_⟩
  have h := h.2 c1
  intro x3 ex3
  have h := h x3 ex3
  refine ⟨fun c2 => ⟨h.1 c2, rfl, Or.inr ⟨fun z => z (Or.inr (ex3 ▸ c2)), rfl⟩⟩, fun c2 => ?_⟩
  have h := h.2 c2
  have q1 := nlt_i c1
  have q2 := nlt_i c2
  rw [ex1] at q1
  rw [ex3] at q2
  refine ⟨fun c3 => ?_, fun c3 => ?_⟩
  · have := lt_i c3
    omega
  have h := h.2 c3
  refine ⟨fun c4 => ?_, fun c4 => ⟨h.2 c4, rfl, Or.inl ⟨fun z => z.elim (fun z => c1 (ex1 ▸ z)) (fun z => c2 (ex3 ▸ z)), rfl⟩⟩⟩
  have := lt_i c4
  omega
theorem sp_X5_minutesAt {o : Nat} (hv : 1 ≤ v3.toInt) (h : P_X5_minutesAt o v3 Q S) : P_X5_minutesAt o v3 (fun x T => Q x T ∧ S = T ∧ x = (fI S o 3 + v3 - 1) / v3) S := by
  have e0 : (0 : Int32).toInt = 0 := by decide
  delta P_X5_minutesAt P_X5_minutesAt_0
  refine ⟨fun c1 => ?_, fun c1 => ?_⟩
  · have := le_i c1
    omega
  have h := h.2 c1
  obtain ⟨o1, h⟩ := h
  refine ⟨o1, fun x2 e2 => ?_⟩
  have h := h x2 e2
  exact ⟨h.1, fun x4 e4 => ⟨h.2 x4 e4, rfl, by rw [e4, e2]⟩⟩
theorem tl_X9_minutes {r w1 w2 : Nat} (hI : IV S) (J : CJ c r w1 w2 S) (hc : Cnt w1 A S) (ct : CtB w1 A G S S) (ab : ABd A) (gb : GBd A G) (h : P_X9_minutes c v1 v2 v3 Q S) : P_X9_minutes c v1 v2 v3 (fun x T => Q x T ∧ x = tellminutes A G v1 v2 v3) S := by
  have o1 := J.2.2.2.2.2.1
  have no : ∀ T, ¬ ((¬ v1 < 0 ∧ v1 < nI (aW A)) ∧ (¬ v2 < 0 ∧ v2 < nI (aR A)) ∧ ¬ (v3 < gWk G v1.toNatClampNeg 5 ∨ gWk G v1.toNatClampNeg 6 < v3)) → P_X9_minutes_22 Q c T → P_X9_minutes_22 (fun x T => Q x T ∧ x = tellminutes A G v1 v2 v3) c T := by
    intro T hn h
    delta P_X9_minutes_22
    obtain ⟨o2, h⟩ := h
    refine ⟨o2, cm_X9_refuse (sp_X9_refuse h) h (fun x U hp h g => ⟨h g, ?_⟩)⟩
    unfold tellminutes
    rw [dc_n hn]
    exact hp.2.1
  delta P_X9_minutes P_X9_minutes_0
  obtain ⟨o2, h⟩ := h
  refine ⟨o2, ?_⟩
  obtain ⟨a1, e1, h⟩ := h
  refine ⟨a1, e1, ?_⟩
  cases J.1.symm.trans e1
  obtain ⟨o3, h⟩ := h
  refine ⟨o3, ?_⟩
  refine cm_X8_hasWalker (sp_X8_hasWalker hI o1 ab hc h) h (fun x4 S2 hp h g b => ?_)
  have h := h g b
  obtain ⟨-, hS, hx⟩ := hp
  subst hS
  refine ⟨fun c1 => no _ (fun z => an0 hx c1 z.1) (h.1 c1), fun c1 => ?_⟩
  have h := h.2 c1
  have hx := an1 hx c1
  obtain ⟨a6, e6, h⟩ := h
  refine ⟨a6, e6, ?_⟩
  cases J.1.symm.trans e6
  obtain ⟨o6, h⟩ := h
  refine ⟨o6, ?_⟩
  refine cm_X8_hasRoad (sp_X8_hasRoad hI o1 ab hc h) h (fun x9 S7 hp h g b => ?_)
  have h := h g b
  obtain ⟨-, hS, hx2⟩ := hp
  subst hS
  refine Iff.mp and_comm ⟨fun c2 => no _ (fun z => an0 hx2 c2 z.2.1) (h.2 c2), fun c2 => ?_⟩
  have h := h.1 c2
  have hx2 := an1 hx2 c2
  obtain ⟨a11, e11, h⟩ := h
  refine ⟨a11, e11, ?_⟩
  cases J.1.symm.trans e11
  obtain ⟨o11, h⟩ := h
  refine ⟨o11, ?_⟩
  obtain ⟨a12, e12, h⟩ := h
  refine ⟨a12, e12, ?_⟩
  obtain ⟨o12, h⟩ := h
  refine ⟨o12, ?_⟩
  obtain ⟨o13, h⟩ := h
  refine ⟨o13, ?_⟩
  obtain ⟨a14, e14, h⟩ := h
  refine ⟨a14, e14, ?_⟩
  obtain ⟨o14, h⟩ := h
  refine ⟨o14, ?_⟩
  have hv1 := ix_lt (by have := ab.2.2.2.2.1; omega) hx
  have hv2 := ix_lt (by have := ab.2.2.2.1; omega) hx2
  obtain ⟨o, eo, ho⟩ := ct.2.2.2.1 a12 e12 v1.toNatClampNeg hv1
  cases eo.symm.trans e14
  have hb := gb.2.2.2 _ hv1
  have w5 := ho 5 (by decide)
  have w6 := ho 6 (by decide)
  refine cm_X6_canGo (sp_X6_canGo (by rw [w5]; exact hb.2.2.2.2.2.1.1) (by rw [w6]; exact hb.2.2.2.2.2.2.2) h) h (fun x17 S15 hp h g b => ?_)
  have h := h g b
  obtain ⟨-, hS, hx3⟩ := hp
  subst hS
  rw [w5, w6] at hx3
  refine Iff.mp and_comm ⟨fun c3 => ?_, fun c3 => ?_⟩
  · have h := h.2 c3
    refine cm_X9_refuse (sp_X9_refuse h) h (fun x U hp h g => ⟨h g, ?_⟩)
    unfold tellminutes
    rw [dc_n (fun z => an0 hx3 c3 z.2.2)]
    exact hp.2.1
  have h := h.1 c3
  have hx3 := an1 hx3 c3
  obtain ⟨a19, e19, h⟩ := h
  refine ⟨a19, e19, ?_⟩
  cases J.1.symm.trans e19
  obtain ⟨o19, h⟩ := h
  refine ⟨o19, ?_⟩
  obtain ⟨a20, e20, h⟩ := h
  refine ⟨a20, e20, ?_⟩
  obtain ⟨o20, h⟩ := h
  refine ⟨o20, ?_⟩
  obtain ⟨o21, h⟩ := h
  refine ⟨o21, ?_⟩
  obtain ⟨a22, e22, h⟩ := h
  refine ⟨a22, e22, ?_⟩
  obtain ⟨o22, h⟩ := h
  refine ⟨o22, ?_⟩
  obtain ⟨u, eu, hu⟩ := ct.2.2.1 a20 e20 v2.toNatClampNeg hv2
  cases eu.symm.trans e22
  have q1 := nlt_i (fun z => hx3 (Or.inl z))
  have q2 := hb.2.2.2.2.2.1.1
  refine cm_X5_minutesAt (sp_X5_minutesAt (by omega) h) h (fun x25 S23 hp h g => ?_)
  have h := h g
  obtain ⟨-, hS, hx4⟩ := hp
  subst hS
  refine cm_X9_grant (sp_X9_grant h) h (fun x28 S26 hp h g => ⟨h g, ?_⟩)
  unfold tellminutes
  rw [dc_y ⟨hx, hx2, hx3⟩, hp.2.1, hx4, hu 3 (by decide)]
theorem sp_X11_isSpeed {rd a b : Nat} (e3 : fR S m 3 = some rd) (e24 : fR S rd 24 = some a) (e25 : fR S rd 25 = some b) (h : P_X11_isSpeed m v1 v3 Q S) : P_X11_isSpeed m v1 v3 (fun x T => Q x T ∧ S = T ∧ ans (¬ (v3 < fI S a v1.toNatClampNeg ∨ fI S b v1.toNatClampNeg < v3)) x) S := by
  delta P_X11_isSpeed P_X11_isSpeed_0
  obtain ⟨o1, h⟩ := h
  refine ⟨o1, ?_⟩
  obtain ⟨a1, g1, h⟩ := h
  refine ⟨a1, g1, ?_⟩
  cases e3.symm.trans g1
  obtain ⟨o2, h⟩ := h
  refine ⟨o2, ?_⟩
  obtain ⟨a2, g2, h⟩ := h
  refine ⟨a2, g2, ?_⟩
  cases e24.symm.trans g2
  obtain ⟨o3, h⟩ := h
  refine ⟨o3, ?_⟩
  obtain ⟨o4, h⟩ := h
  refine ⟨o4, fun x4 ex4 => ?_⟩
  have h := h x4 ex4
  obtain ⟨a5, g5, h⟩ := h
  refine ⟨a5, g5, ?_⟩
  cases e3.symm.trans g5
  obtain ⟨o5, h⟩ := h
  refine ⟨o5, ?_⟩
  obtain ⟨a6, g6, h⟩ := h
  refine ⟨a6, g6, ?_⟩
  cases e25.symm.trans g6
  obtain ⟨o6, h⟩ := h
  refine ⟨o6, ?_⟩
  obtain ⟨o7, h⟩ := h
  refine ⟨o7, fun x8 ex8 => ?_⟩
  have h := h x8 ex8
  refine cm_X11_in (sp_X11_in h) h (fun x11 S9 hp h g b => ?_)
  have h := h g b
  refine ⟨h.1, h.2, hp.2.1, ?_⟩
  rw [← ex4, ← ex8]
  exact hp.2.2
theorem sp_X10_minutes {rd a : Nat} (e16 : fR S rd 16 = some a) (h : P_X10_minutes rd v2 v3 Q S) : P_X10_minutes rd v2 v3 (fun x T => Q x T ∧ S = T ∧ x = (fI S a v2.toNatClampNeg + v3 - 1) / v3) S := by
  delta P_X10_minutes P_X10_minutes_0
  obtain ⟨o1, h⟩ := h
  refine ⟨o1, ?_⟩
  obtain ⟨a1, g1, h⟩ := h
  refine ⟨a1, g1, ?_⟩
  cases e16.symm.trans g1
  obtain ⟨o2, h⟩ := h
  refine ⟨o2, ?_⟩
  obtain ⟨o3, h⟩ := h
  refine ⟨o3, fun x3 ex3 => ?_⟩
  have h := h x3 ex3
  exact ⟨h.1, fun x5 ex5 => ⟨h.2 x5 ex5, rfl, by rw [ex5, ex3]⟩⟩
theorem zero_n {v : Int32} {k : Nat} (hk : k = 0) (h : ¬ v < 0 ∧ v < nI k) : False := by
  have q1 := nlt_i h.1
  have q2 := lt_i h.2
  have e0 : (0 : Int32).toInt = 0 := by decide
  have e1 : (nI k).toInt = 0 := by rw [hk]; decide
  omega
theorem tl_X11_minutes (hI : IV S) (hm : (fR S m 3 = none ∧ A = A00) ∨ ∃ rd, WRm m rd A G S) (ab : ABd A) (h : P_X11_minutes m v1 v2 v3 Q S) : P_X11_minutes m v1 v2 v3 (fun x T => Q x T ∧ x = tellminutes A G v1 v2 v3) S := by
  have no : ∀ T, ¬ ((¬ v1 < 0 ∧ v1 < nI (aW A)) ∧ (¬ v2 < 0 ∧ v2 < nI (aR A)) ∧ ¬ (v3 < gWk G v1.toNatClampNeg 5 ∨ gWk G v1.toNatClampNeg 6 < v3)) → P_X11_minutes_21 Q m T → P_X11_minutes_21 (fun x T => Q x T ∧ x = tellminutes A G v1 v2 v3) m T := by
    intro T hn h
    delta P_X11_minutes_21
    obtain ⟨o2, h⟩ := h
    refine ⟨o2, cm_X11_refused (sp_X11_refused h) h (fun x U hp h g => ⟨h g, ?_⟩)⟩
    unfold tellminutes
    rw [dc_n hn]
    exact hp.2.1
  delta P_X11_minutes P_X11_minutes_0
  obtain ⟨o2, h⟩ := h
  refine ⟨o2, fun S1 eS1 => ?_⟩
  have h := h S1 eS1
  have hm1 := hm_0 hm o2 eS1
  refine cm_X11_isWalker (sp_X11_isWalker hm1 h) h (fun x4 S2 hp h g b => ?_)
  have h := h g b
  obtain ⟨-, hS, hx⟩ := hp
  subst hS
  refine ⟨fun c1 => no _ (fun z => ?_) (h.1 c1), fun c1 => ?_⟩
  · rcases hm1 with ⟨n, hA⟩ | hm1
    · exact zero_n (by rw [hA]; rfl) z.1
    · exact an0 hx c1 ⟨hm1, z.1⟩
  have h := h.2 c1
  obtain ⟨⟨rd, hr⟩, hx⟩ := an1 hx c1
  refine cm_X11_isRoad (sp_X11_isRoad hm1 h) h (fun x8 S6 hp h g b => ?_)
  have h := h g b
  obtain ⟨-, hS, hx2⟩ := hp
  subst hS
  refine Iff.mp and_comm ⟨fun c2 => no _ (fun z => an0 hx2 c2 ⟨⟨rd, hr⟩, z.2.1⟩) (h.2 c2), fun c2 => ?_⟩
  have h := h.1 c2
  obtain ⟨-, hx2⟩ := an1 hx2 c2
  have o10 : ob S rd 10 := by
    have := hr.2.1
    rw [eS1] at this
    exact this
  have fr : fR S1 = fR S := by rw [eS1]; rfl
  obtain ⟨b24, q24, -⟩ := hI.1 (10, 24, 13, 4) (by decide) rd o10
  obtain ⟨b25, q25, -⟩ := hI.1 (10, 25, 13, 4) (by decide) rd o10
  obtain ⟨b16, q16, -⟩ := hI.1 (10, 16, 13, 12) (by decide) rd o10
  rw [← fr] at q24 q25 q16
  have hv1 := ix_lt (by have := ab.2.2.2.2.1; omega) hx
  have hv2 := ix_lt (by have := ab.2.2.2.1; omega) hx2
  have c24 := hr.2.2.2.1 24 b24 (by decide) (by decide) q24 v1.toNatClampNeg hv1
  have c25 := hr.2.2.2.1 25 b25 (by decide) (by decide) q25 v1.toNatClampNeg hv1
  have c16 := hr.2.2.2.1 16 b16 (by decide) (by decide) q16 v2.toNatClampNeg hv2
  refine cm_X11_isSpeed (sp_X11_isSpeed hr.1 q24 q25 h) h (fun x12 S10 hp h g b => ?_)
  have h := h g b
  obtain ⟨-, hS, hx3⟩ := hp
  subst hS
  rw [c24, c25] at hx3
  refine ⟨fun c3 => ?_, fun c3 => ?_⟩
  · have h := h.1 c3
    refine cm_X11_refused (sp_X11_refused h) h (fun x U hp h g => ⟨h g, ?_⟩)
    unfold tellminutes
    rw [dc_n (fun z => an0 hx3 c3 z.2.2)]
    exact hp.2.1
  have h := h.2 c3
  have hx3 := an1 hx3 c3
  obtain ⟨a17, e17, h⟩ := h
  refine ⟨a17, e17, ?_⟩
  cases hr.1.symm.trans e17
  obtain ⟨o17, h⟩ := h
  refine ⟨o17, ?_⟩
  refine cm_X10_minutes (sp_X10_minutes q16 h) h (fun x20 S18 hp h g => ?_)
  have h := h g
  obtain ⟨-, hS, hx4⟩ := hp
  subst hS
  refine cm_X11_good (sp_X11_good h) h (fun x23 S21 hp h g => ⟨h g, ?_⟩)
  unfold tellminutes
  rw [dc_y ⟨hx, hx2, hx3⟩, hp.2.1, hx4, c16]
  rfl
end C25
end
section
/-! legs: what both sides reckon, in machine words -/
/-- only rows of longs have changed -/
def wJ (S : HS) (f : Nat → Nat → Int64) : HS := (hL S, hK S, hN S, fI S, f, fR S)
def mx0 (x : Int32) : Int32 := if x < 0 then 0 else x
def mn2 (x y : Int32) : Int32 := if x < y then x else y
def lyT (rd : Nat → Int32) (v : Int32) : Int64 := (rd 3 - rd 4).toInt64 * ((2520 : Int32) / v).toInt64
def lyF (rn rd : Nat → Int32) (v : Int32) : Int64 := (rn 0).toInt64 * lyT rd v
def lyO (rn rd : Nat → Int32) (u : Int32) : Int32 := offOf (rn 2) (rd 2) u
def lyA (rn rd : Nat → Int32) (u : Int32) : Int32 := airOf (lyO rn rd u) (rn 3)
/-- for each unit of a face -/
def lyS (rn rd : Nat → Int32) (u v : Int32) : Nat → Int64
  | 0 => lyF rn rd v * (rn 1).toInt64
  | 1 => lyF rn rd v * (mx0 (v - lyA rn rd u)).toInt64
  | 2 => lyF rn rd v * (mx0 (lyA rn rd u - v)).toInt64
  | 3 => if lyO rn rd u = 1 then lyF rn rd v * (rn 3).toInt64 else 0
  | _ => if lyO rn rd u = 3 then lyF rn rd v * (rn 3).toInt64 else 0
def shO (wk : Nat → Int32) : Int32 := if wk 0 = 3 then wk 1 else 0
def fwJ (st : Nat → Int64) (wk : Nat → Int32) : Prop := ¬ lg_cmp (st 1 * (mn2 (wk 3) (shO wk)).toInt64) (st 0 * (mn2 (wk 2) (shO wk)).toInt64) ≤ 0
noncomputable def skJ (st : Nat → Int64) (wk : Nat → Int32) (x y : Int32) : Nat → Int64
  | 0 => st 0 * (mx0 (wk 2 - dc (fwJ st wk) 0 (shO wk))).toInt64
  | 1 => st 1 * (mx0 (wk 3 - dc (fwJ st wk) (shO wk) 0 - x)).toInt64
  | 2 => st 2 * (mx0 (wk 3 - y)).toInt64
  | 3 => st 3 * (wk 4).toInt64
  | _ => st 4 * (wk 4).toInt64
noncomputable def sumJ (f : Nat → Int64) : Int64 := f 0 + f 1 + f 2 + f 3 + f 4
theorem skJ_congr {st st' : Nat → Int64} {wk : Nat → Int32} {x y : Int32} (h : ∀ k, k < 5 → st k = st' k) (k : Nat) : skJ st wk x y k = skJ st' wk x y k := by
  have e : fwJ st wk = fwJ st' wk := by unfold fwJ; rw [h 0 (by decide), h 1 (by decide)]
  match k with
  | 0 => show st 0 * (mx0 (wk 2 - dc (fwJ st wk) 0 (shO wk))).toInt64 = st' 0 * (mx0 (wk 2 - dc (fwJ st' wk) 0 (shO wk))).toInt64; rw [e, h 0 (by decide)]
  | 1 => show st 1 * (mx0 (wk 3 - dc (fwJ st wk) (shO wk) 0 - x)).toInt64 = st' 1 * (mx0 (wk 3 - dc (fwJ st' wk) (shO wk) 0 - x)).toInt64; rw [e, h 1 (by decide)]
  | 2 => show st 2 * _ = st' 2 * _; rw [h 2 (by decide)]
  | 3 => show st 3 * _ = st' 3 * _; rw [h 3 (by decide)]
  | k + 4 => show st 4 * (wk 4).toInt64 = st' 4 * (wk 4).toInt64; rw [h 4 (by decide)]
theorem u5 (f : Nat → Nat → Int64) (b : Nat) (x0 x1 x2 x3 x4 : Int64) : ∃ g, g = u2 (u2 (u2 (u2 (u2 f b (0 : Int32).toNatClampNeg x0) b (1 : Int32).toNatClampNeg x1) b (2 : Int32).toNatClampNeg x2) b (3 : Int32).toNatClampNeg x3) b (4 : Int32).toNatClampNeg x4 ∧ g b 0 = x0 ∧ g b 1 = x1 ∧ g b 2 = x2 ∧ g b 3 = x3 ∧ g b 4 = x4 ∧ ∀ d, d ≠ b → g d = f d := by
  have j0 : (0 : Int32).toNatClampNeg = 0 := by decide
  have j1 : (1 : Int32).toNatClampNeg = 1 := by decide
  have j2 : (2 : Int32).toNatClampNeg = 2 := by decide
  have j3 : (3 : Int32).toNatClampNeg = 3 := by decide
  have j4 : (4 : Int32).toNatClampNeg = 4 := by decide
  rw [j0, j1, j2, j3, j4]
  refine ⟨_, rfl, ?_, ?_, ?_, ?_, u2_self _ _ _ _, fun d hd => ?_⟩
  · rw [u2_ne _ _ (by omega), u2_ne _ _ (by omega), u2_ne _ _ (by omega), u2_ne _ _ (by omega), u2_self]
  · rw [u2_ne _ _ (by omega), u2_ne _ _ (by omega), u2_ne _ _ (by omega), u2_self]
  · rw [u2_ne _ _ (by omega), u2_ne _ _ (by omega), u2_self]
  · rw [u2_ne _ _ (by omega), u2_self]
  · rw [u2_row _ _ hd, u2_row _ _ hd, u2_row _ _ hd, u2_row _ _ hd, u2_row _ _ hd]
section C26
variable {c m w v0 v1 v3 b0 b1 : Nat} {S T : HS} {v2 v4 x y : Int32} {Q : Int32 → HS → Prop} {QJ : Int64 → HS → Prop} {Q0 : HS → Prop}
theorem sp_X6_shield (h : P_X6_shield v0 Q S) : P_X6_shield v0 (fun x T => Q x T ∧ S = T ∧ x = shO (fI S v0)) S := by
  delta P_X6_shield P_X6_shield_0
  obtain ⟨o1, h⟩ := h
  refine ⟨o1, fun x1 e1 => ?_⟩
  have h := h x1 e1
  subst e1
  unfold shO
  exact ⟨fun c1 => ⟨h.1 c1, rfl, by rw [if_neg c1]⟩, fun c1 x3 e3 => ⟨h.2 c1 x3 e3, rfl, by rw [if_pos c1, e3]⟩⟩
theorem sp_X1_lay (hv : ¬ v4 ≤ 0) (e1 : fR S v0 1 = some b1) (h : P_X1_lay v0 v1 v2 v3 v4 Q0 S) : P_X1_lay v0 v1 v2 v3 v4 (fun T => Q0 T ∧ ∃ f, T = wJ S f ∧ (∀ d, d ≠ b1 → f d = fJ S d) ∧ ∀ k, k < 5 → f b1 k = lyS (fI S v3) (fI S v1) v2 v4 k) S := by
  delta P_X1_lay P_X1_lay_0
  refine ⟨fun c => absurd c hv, fun c => ?_⟩
  have h := h.2 c
  obtain ⟨o2, h⟩ := h
  refine ⟨o2, ?_⟩
  intro x2 ex2
  have h := h x2 ex2
  intro x3 ex3
  have h := h x3 ex3
  obtain ⟨n5, h⟩ := h
  refine ⟨n5, ?_⟩
  intro x5 ex5
  have h := h x5 ex5
  delta P_X1_lay_27
  obtain ⟨o6, h⟩ := h
  refine ⟨o6, ?_⟩
  intro x6 ex6
  have h := h x6 ex6
  intro x7 ex7
  have h := h x7 ex7
  have hF : x7 = lyF (fI S v3) (fI S v1) v4 := by rw [ex7, ex6, ex5, ex3, ex2]; rfl
  clear ex7 ex6 ex5 ex3 ex2
  obtain ⟨o8, h⟩ := h
  refine ⟨o8, ?_⟩
  refine cm_X5_turnOf (sp_X5_turnOf h) h (fun x9 S1 hp h g => ?_)
  have h := h g
  obtain ⟨-, hS, hO⟩ := hp
  subst hS
  have hO : x9 = lyO (fI S v3) (fI S v1) v2 := hO
  refine cm_X5_airAlong (sp_X5_airAlong h) h (fun x10 S1 hp h g => ?_)
  have h := h g
  obtain ⟨-, hS, hA⟩ := hp
  subst hS
  have hA : x10 = lyA (fI S v3) (fI S v1) v2 := hA
  obtain ⟨o11, h⟩ := h
  refine ⟨o11, ?_⟩
  obtain ⟨a12, e12, h⟩ := h
  refine ⟨a12, e12, ?_⟩
  cases e1.symm.trans e12
  intro x13 e13
  have h := h x13 e13
  obtain ⟨o14, h⟩ := h
  refine ⟨o14, ?_⟩
  intro x15 e15
  have h := h x15 e15
  obtain ⟨o16, h⟩ := h
  refine ⟨o16, ?_⟩
  intro S2 e17
  have h := h S2 e17
  subst e17
  obtain ⟨a18, e18, h⟩ := h
  refine ⟨a18, e18, ?_⟩
  cases e1.symm.trans e18
  intro x19 e19
  have h := h x19 e19
  obtain ⟨o20, h⟩ := h
  refine ⟨o20, ?_⟩
  intro x21 e21
  have h := h x21 e21
  obtain ⟨o22, h⟩ := h
  refine ⟨o22, ?_⟩
  intro S3 e23
  have h := h S3 e23
  subst e23
  obtain ⟨a24, e24, h⟩ := h
  refine ⟨a24, e24, ?_⟩
  cases e1.symm.trans e24
  intro x25 e25
  have h := h x25 e25
  obtain ⟨o26, h⟩ := h
  refine ⟨o26, ?_⟩
  intro x27 e27
  have h := h x27 e27
  obtain ⟨o28, h⟩ := h
  refine ⟨o28, ?_⟩
  intro S4 e29
  have h := h S4 e29
  subst e29
  obtain ⟨a30, e30, h⟩ := h
  refine ⟨a30, e30, ?_⟩
  cases e1.symm.trans e30
  have k0 : x15 = lyS (fI S v3) (fI S v1) v2 v4 0 := by rw [e15, e13, hF]; rfl
  have k1 : x21 = lyS (fI S v3) (fI S v1) v2 v4 1 := by rw [e21, e19, hF, hA]; rfl
  have k2 : x27 = lyS (fI S v3) (fI S v1) v2 v4 2 := by rw [e27, e25, hF, hA]; rfl
  clear e15 e13 e21 e19 e27 e25
  have tl : ∀ s2 : Int64, s2 = lyS (fI S v3) (fI S v1) v2 v4 3 → P_X1_lay_130 Q0 v0 v3 x7 x9 b1 3 s2 (sJ (sJ (sJ S b1 (0 : Int32).toNatClampNeg x15) b1 (1 : Int32).toNatClampNeg x21) b1 (2 : Int32).toNatClampNeg x27) → P_X1_lay_130 (fun T => Q0 T ∧ ∃ f, T = wJ S f ∧ (∀ d, d ≠ b1 → f d = fJ S d) ∧ ∀ k, k < 5 → f b1 k = lyS (fI S v3) (fI S v1) v2 v4 k) v0 v3 x7 x9 b1 3 s2 (sJ (sJ (sJ S b1 (0 : Int32).toNatClampNeg x15) b1 (1 : Int32).toNatClampNeg x21) b1 (2 : Int32).toNatClampNeg x27) := by
    intro s2 k3 h
    delta P_X1_lay_130
    have fin : ∀ s4 : Int64, s4 = lyS (fI S v3) (fI S v1) v2 v4 4 → ∃ f, sJ (sJ (sJ (sJ (sJ S b1 (0 : Int32).toNatClampNeg x15) b1 (1 : Int32).toNatClampNeg x21) b1 (2 : Int32).toNatClampNeg x27) b1 (3 : Int32).toNatClampNeg s2) b1 (4 : Int32).toNatClampNeg s4 = wJ S f ∧ (∀ d, d ≠ b1 → f d = fJ S d) ∧ ∀ k, k < 5 → f b1 k = lyS (fI S v3) (fI S v1) v2 v4 k := by
      intro s4 k4
      obtain ⟨gf, eg, g0, g1, g2, g3, g4, g5⟩ := u5 (fJ S) b1 x15 x21 x27 s2 s4
      refine ⟨gf, by rw [eg]; rfl, g5, fun k hk => ?_⟩
      match k, hk with
      | 0, _ => rw [g0, k0]
      | 1, _ => rw [g1, k1]
      | 2, _ => rw [g2, k2]
      | 3, _ => rw [g3, k3]
      | 4, _ => rw [g4, k4]
      | k + 5, hk => exact absurd hk (by omega)
    obtain ⟨p1, h⟩ := h
    refine ⟨p1, ?_⟩
    obtain ⟨p2, h⟩ := h
    refine ⟨p2, ?_⟩
    intro S5 e5
    have h := h S5 e5
    subst e5
    obtain ⟨p3, h⟩ := h
    refine ⟨p3, ?_⟩
    obtain ⟨a31, e31, h⟩ := h
    refine ⟨a31, e31, ?_⟩
    cases e1.symm.trans e31
    refine ⟨fun c3 => ?_, fun c3 => ?_⟩
    · have h := h.1 c3
      obtain ⟨p4, h⟩ := h
      refine ⟨p4, ?_⟩
      obtain ⟨p5, h⟩ := h
      refine ⟨p5, ?_⟩
      intro S6 e6
      have h := h S6 e6
      subst e6
      refine ⟨h, fin 0 ?_⟩
      rw [hO] at c3
      exact (if_neg c3).symm
    · have h := h.2 c3
      obtain ⟨p4, h⟩ := h
      refine ⟨p4, ?_⟩
      intro x32 e32
      have h := h x32 e32
      obtain ⟨p5, h⟩ := h
      refine ⟨p5, ?_⟩
      intro x33 e33
      have h := h x33 e33
      obtain ⟨p6, h⟩ := h
      refine ⟨p6, ?_⟩
      intro S6 e6
      have h := h S6 e6
      subst e6
      refine ⟨h, fin x33 ?_⟩
      rw [hO] at c3
      rw [e33, e32, hF]
      exact (if_pos c3).symm
  refine ⟨fun c2 => ?_, fun c2 => ?_⟩
  · have h := h.1 c2
    refine tl 0 ?_ h
    rw [hO] at c2
    exact (if_neg c2).symm
  · have h := h.2 c2
    intro x34 e34
    have h := h x34 e34
    refine tl _ ?_ h
    rw [hO] at c2
    rw [e34, hF]
    exact (if_pos c2).symm
theorem sp_X1_isForward (e1 : fR S v0 1 = some b1) (h : P_X1_isForward v0 v1 Q S) : P_X1_isForward v0 v1 (fun x T => Q x T ∧ S = T ∧ ans (fwJ (fJ S b1) (fI S v1)) x) S := by
  delta P_X1_isForward P_X1_isForward_0
  obtain ⟨o1, h⟩ := h
  refine ⟨o1, ?_⟩
  obtain ⟨a2, e2, h⟩ := h
  refine ⟨a2, e2, ?_⟩
  cases e1.symm.trans e2
  obtain ⟨o3, h⟩ := h
  refine ⟨o3, ?_⟩
  obtain ⟨o4, h⟩ := h
  refine ⟨o4, ?_⟩
  intro x5 ex5
  have h := h x5 ex5
  obtain ⟨o6, h⟩ := h
  refine ⟨o6, ?_⟩
  refine cm_X6_shield (sp_X6_shield h) h (fun x7 S1 hp h g => ?_)
  have h := h g
  obtain ⟨-, hS, h7⟩ := hp
  subst hS
  intro x8 ex8
  have h := h x8 ex8
  intro x9 ex9
  have h := h x9 ex9
  intro x10 ex10
  have h := h x10 ex10
  obtain ⟨a11, e11, h⟩ := h
  refine ⟨a11, e11, ?_⟩
  cases e1.symm.trans e11
  obtain ⟨o12, h⟩ := h
  refine ⟨o12, ?_⟩
  obtain ⟨o13, h⟩ := h
  refine ⟨o13, ?_⟩
  intro x14 ex14
  have h := h x14 ex14
  refine cm_X6_shield (sp_X6_shield h) h (fun x15 S1 hp h g => ?_)
  have h := h g
  obtain ⟨-, hS, h15⟩ := hp
  subst hS
  intro x16 ex16
  have h := h x16 ex16
  intro x17 ex17
  have h := h x17 ex17
  intro x18 ex18
  have h := h x18 ex18
  have k1 : x18 = fJ S b1 1 * (mn2 (fI S v1 3) (shO (fI S v1))).toInt64 := by rw [ex18, ex17, ex16, ex14, h15]; rfl
  have k0 : x10 = fJ S b1 0 * (mn2 (fI S v1 2) (shO (fI S v1))).toInt64 := by rw [ex10, ex9, ex8, ex5, h7]; rfl
  rw [k1, k0] at h
  rw [k1, k0]
  exact ⟨fun c1 => ⟨h.1 c1, rfl, Or.inr ⟨fun z => z c1, rfl⟩⟩, fun c1 => ⟨h.2 c1, rfl, Or.inl ⟨c1, rfl⟩⟩⟩
end C26
/-! legs: the class's faces -/
section C27
variable {c m w v0 v1 v2 v4 b0 b1 : Nat} {S T : HS} {u v x y : Int32} {Q : Int32 → HS → Prop} {QJ : Int64 → HS → Prop} {Q0 : HS → Prop}
theorem sp_X1_soak35 {r s : Int32} (e0 : fR S v0 0 = some b0) (e1 : fR S v0 1 = some b1) (ne : b1 ≠ b0) (hr : r = dc (fwJ (fJ S b1) (fI S v1)) 0 (shO (fI S v1))) (hs : s = dc (fwJ (fJ S b1) (fI S v1)) (shO (fI S v1)) 0) (h : P_X1_soak_35 QJ v0 v1 x y r s S) : P_X1_soak_35 (fun z T => QJ z T ∧ ∃ f, T = wJ S f ∧ (∀ d, d ≠ b0 → f d = fJ S d) ∧ (∀ k, k < 5 → f b0 k = skJ (fJ S b1) (fI S v1) x y k) ∧ z = sumJ (skJ (fJ S b1) (fI S v1) x y)) v0 v1 x y r s S := by
  delta P_X1_soak_35
  obtain ⟨op, h⟩ := h
  refine ⟨op, ?_⟩
  obtain ⟨af0, ef0, h⟩ := h
  refine ⟨af0, ef0, ?_⟩
  cases e0.symm.trans ef0
  obtain ⟨as0, es0, h⟩ := h
  refine ⟨as0, es0, ?_⟩
  cases e1.symm.trans es0
  obtain ⟨oa0, h⟩ := h
  refine ⟨oa0, ?_⟩
  obtain ⟨ob0, h⟩ := h
  refine ⟨ob0, ?_⟩
  intro xs0 qs0
  have h := h xs0 qs0
  obtain ⟨ow, h⟩ := h
  refine ⟨ow, ?_⟩
  intro xw0 qw0
  have h := h xw0 qw0
  intro xm0 qm0
  have h := h xm0 qm0
  obtain ⟨oc0, h⟩ := h
  refine ⟨oc0, ?_⟩
  intro xv0 qv0
  have h := h xv0 qv0
  obtain ⟨od0, h⟩ := h
  refine ⟨od0, ?_⟩
  have t0 : xs0 = fJ S b1 0 := by
    rw [qs0]
    rfl
  have k0 : xv0 = skJ (fJ S b1) (fI S v1) x y 0 := by
    rw [qv0, qm0, t0, qw0, hr]
    rfl
  intro S0 q0
  have h := h S0 q0
  subst q0
  obtain ⟨af1, ef1, h⟩ := h
  refine ⟨af1, ef1, ?_⟩
  cases e0.symm.trans ef1
  obtain ⟨as1, es1, h⟩ := h
  refine ⟨as1, es1, ?_⟩
  cases e1.symm.trans es1
  obtain ⟨oa1, h⟩ := h
  refine ⟨oa1, ?_⟩
  obtain ⟨ob1, h⟩ := h
  refine ⟨ob1, ?_⟩
  intro xs1 qs1
  have h := h xs1 qs1
  intro xw1 qw1
  have h := h xw1 qw1
  intro xm1 qm1
  have h := h xm1 qm1
  obtain ⟨oc1, h⟩ := h
  refine ⟨oc1, ?_⟩
  intro xv1 qv1
  have h := h xv1 qv1
  obtain ⟨od1, h⟩ := h
  refine ⟨od1, ?_⟩
  have t1 : xs1 = fJ S b1 1 := by
    rw [qs1]
    show (u2 (fJ S) b0 (0 : Int32).toNatClampNeg xv0) b1 (1 : Int32).toNatClampNeg = _
    rw [u2_row _ _ ne]
    rfl
  have k1 : xv1 = skJ (fJ S b1) (fI S v1) x y 1 := by
    rw [qv1, qm1, t1, qw1, hs]
    rfl
  intro S1 q1
  have h := h S1 q1
  subst q1
  obtain ⟨af2, ef2, h⟩ := h
  refine ⟨af2, ef2, ?_⟩
  cases e0.symm.trans ef2
  obtain ⟨as2, es2, h⟩ := h
  refine ⟨as2, es2, ?_⟩
  cases e1.symm.trans es2
  obtain ⟨oa2, h⟩ := h
  refine ⟨oa2, ?_⟩
  obtain ⟨ob2, h⟩ := h
  refine ⟨ob2, ?_⟩
  intro xs2 qs2
  have h := h xs2 qs2
  intro xw2 qw2
  have h := h xw2 qw2
  intro xm2 qm2
  have h := h xm2 qm2
  obtain ⟨oc2, h⟩ := h
  refine ⟨oc2, ?_⟩
  intro xv2 qv2
  have h := h xv2 qv2
  obtain ⟨od2, h⟩ := h
  refine ⟨od2, ?_⟩
  have t2 : xs2 = fJ S b1 2 := by
    rw [qs2]
    show (u2 (u2 (fJ S) b0 (0 : Int32).toNatClampNeg xv0) b0 (1 : Int32).toNatClampNeg xv1) b1 (2 : Int32).toNatClampNeg = _
    rw [u2_row _ _ ne, u2_row _ _ ne]
    rfl
  have k2 : xv2 = skJ (fJ S b1) (fI S v1) x y 2 := by
    rw [qv2, qm2, t2, qw2]
    rfl
  intro S2 q2
  have h := h S2 q2
  subst q2
  obtain ⟨af3, ef3, h⟩ := h
  refine ⟨af3, ef3, ?_⟩
  cases e0.symm.trans ef3
  obtain ⟨as3, es3, h⟩ := h
  refine ⟨as3, es3, ?_⟩
  cases e1.symm.trans es3
  obtain ⟨oa3, h⟩ := h
  refine ⟨oa3, ?_⟩
  obtain ⟨ob3, h⟩ := h
  refine ⟨ob3, ?_⟩
  intro xs3 qs3
  have h := h xs3 qs3
  intro xw3 qw3
  have h := h xw3 qw3
  obtain ⟨oc3, h⟩ := h
  refine ⟨oc3, ?_⟩
  intro xv3 qv3
  have h := h xv3 qv3
  obtain ⟨od3, h⟩ := h
  refine ⟨od3, ?_⟩
  have t3 : xs3 = fJ S b1 3 := by
    rw [qs3]
    show (u2 (u2 (u2 (fJ S) b0 (0 : Int32).toNatClampNeg xv0) b0 (1 : Int32).toNatClampNeg xv1) b0 (2 : Int32).toNatClampNeg xv2) b1 (3 : Int32).toNatClampNeg = _
    rw [u2_row _ _ ne, u2_row _ _ ne, u2_row _ _ ne]
    rfl
  have k3 : xv3 = skJ (fJ S b1) (fI S v1) x y 3 := by
    rw [qv3, t3, qw3]
    rfl
  intro S3 q3
  have h := h S3 q3
  subst q3
  obtain ⟨af4, ef4, h⟩ := h
  refine ⟨af4, ef4, ?_⟩
  cases e0.symm.trans ef4
  obtain ⟨as4, es4, h⟩ := h
  refine ⟨as4, es4, ?_⟩
  cases e1.symm.trans es4
  obtain ⟨oa4, h⟩ := h
  refine ⟨oa4, ?_⟩
  obtain ⟨ob4, h⟩ := h
  refine ⟨ob4, ?_⟩
  intro xs4 qs4
  have h := h xs4 qs4
  intro xw4 qw4
  have h := h xw4 qw4
  obtain ⟨oc4, h⟩ := h
  refine ⟨oc4, ?_⟩
  intro xv4 qv4
  have h := h xv4 qv4
  obtain ⟨od4, h⟩ := h
  refine ⟨od4, ?_⟩
  have t4 : xs4 = fJ S b1 4 := by
    rw [qs4]
    show (u2 (u2 (u2 (u2 (fJ S) b0 (0 : Int32).toNatClampNeg xv0) b0 (1 : Int32).toNatClampNeg xv1) b0 (2 : Int32).toNatClampNeg xv2) b0 (3 : Int32).toNatClampNeg xv3) b1 (4 : Int32).toNatClampNeg = _
    rw [u2_row _ _ ne, u2_row _ _ ne, u2_row _ _ ne, u2_row _ _ ne]
    rfl
  have k4 : xv4 = skJ (fJ S b1) (fI S v1) x y 4 := by
    rw [qv4, t4, qw4]
    rfl
  intro S4 q4
  have h := h S4 q4
  subst q4
  obtain ⟨gf, eg, g0, g1, g2, g3, g4, g5⟩ := u5 (fJ S) b0 xv0 xv1 xv2 xv3 xv4
  have eT : sJ (sJ (sJ (sJ (sJ S b0 (0 : Int32).toNatClampNeg xv0) b0 (1 : Int32).toNatClampNeg xv1) b0 (2 : Int32).toNatClampNeg xv2) b0 (3 : Int32).toNatClampNeg xv3) b0 (4 : Int32).toNatClampNeg xv4 = wJ S gf := by rw [eg]; rfl
  rw [eT] at h
  rw [eT]
  obtain ⟨az0, ez0, h⟩ := h
  refine ⟨az0, ez0, ?_⟩
  cases e0.symm.trans ez0
  obtain ⟨oy0, h⟩ := h
  refine ⟨oy0, ?_⟩
  obtain ⟨oz0, h⟩ := h
  refine ⟨oz0, ?_⟩
  intro xr0 qr0
  have h := h xr0 qr0
  obtain ⟨az1, ez1, h⟩ := h
  refine ⟨az1, ez1, ?_⟩
  cases e0.symm.trans ez1
  obtain ⟨oy1, h⟩ := h
  refine ⟨oy1, ?_⟩
  obtain ⟨oz1, h⟩ := h
  refine ⟨oz1, ?_⟩
  intro xr1 qr1
  have h := h xr1 qr1
  obtain ⟨az2, ez2, h⟩ := h
  refine ⟨az2, ez2, ?_⟩
  cases e0.symm.trans ez2
  obtain ⟨oy2, h⟩ := h
  refine ⟨oy2, ?_⟩
  obtain ⟨oz2, h⟩ := h
  refine ⟨oz2, ?_⟩
  intro xr2 qr2
  have h := h xr2 qr2
  obtain ⟨az3, ez3, h⟩ := h
  refine ⟨az3, ez3, ?_⟩
  cases e0.symm.trans ez3
  obtain ⟨oy3, h⟩ := h
  refine ⟨oy3, ?_⟩
  obtain ⟨oz3, h⟩ := h
  refine ⟨oz3, ?_⟩
  intro xr3 qr3
  have h := h xr3 qr3
  obtain ⟨az4, ez4, h⟩ := h
  refine ⟨az4, ez4, ?_⟩
  cases e0.symm.trans ez4
  obtain ⟨oy4, h⟩ := h
  refine ⟨oy4, ?_⟩
  obtain ⟨oz4, h⟩ := h
  refine ⟨oz4, ?_⟩
  intro xr4 qr4
  have h := h xr4 qr4
  refine ⟨h, gf, rfl, g5, fun k hk => ?_, ?_⟩
  · match k, hk with
    | 0, _ => rw [g0, k0]
    | 1, _ => rw [g1, k1]
    | 2, _ => rw [g2, k2]
    | 3, _ => rw [g3, k3]
    | 4, _ => rw [g4, k4]
    | k + 5, hk => exact absurd hk (by omega)
  · have r0 : xr0 = xv0 := qr0.trans g0
    have r1 : xr1 = xv1 := qr1.trans g1
    have r2 : xr2 = xv2 := qr2.trans g2
    have r3 : xr3 = xv3 := qr3.trans g3
    have r4 : xr4 = xv4 := qr4.trans g4
    rw [r0, r1, r2, r3, r4, k0, k1, k2, k3, k4]
    rfl
theorem sp_X1_soak (e0 : fR S v0 0 = some b0) (e1 : fR S v0 1 = some b1) (ne : b1 ≠ b0) (h : P_X1_soak v0 v1 x y QJ S) : P_X1_soak v0 v1 x y (fun z T => QJ z T ∧ ∃ f, T = wJ S f ∧ (∀ d, d ≠ b0 → f d = fJ S d) ∧ (∀ k, k < 5 → f b0 k = skJ (fJ S b1) (fI S v1) x y k) ∧ z = sumJ (skJ (fJ S b1) (fI S v1) x y)) S := by
  delta P_X1_soak P_X1_soak_0
  obtain ⟨o1, h⟩ := h
  refine ⟨o1, ?_⟩
  refine cm_X1_isForward (sp_X1_isForward e1 h) h (fun x1 S1 hp h g b => ?_)
  have h := h g b
  obtain ⟨-, hS, ha⟩ := hp
  subst hS
  refine ⟨fun c1 => ?_, fun c1 => ?_⟩
  · have h := h.1 c1
    have hn := an0 ha c1
    obtain ⟨o2, h⟩ := h
    refine ⟨o2, ?_⟩
    refine cm_X6_shield (sp_X6_shield h) h (fun x2 S1 hp h g => ?_)
    have h := h g
    obtain ⟨-, hS, h2⟩ := hp
    subst hS
    delta P_X1_soak_20
    refine ⟨fun c2 => ?_, fun c2 => absurd c1 c2⟩
    exact sp_X1_soak35 e0 e1 ne (by rw [dc_n hn, h2]) (by rw [dc_n hn]) (h.1 c2)
  · have h := h.2 c1
    have hn := an1 ha c1
    delta P_X1_soak_20
    refine ⟨fun c2 => absurd c2 c1, fun c2 => ?_⟩
    have h := h.2 c2
    obtain ⟨o2, h⟩ := h
    refine ⟨o2, ?_⟩
    refine cm_X6_shield (sp_X6_shield h) h (fun x2 S1 hp h g => ?_)
    have h := h g
    obtain ⟨-, hS, h2⟩ := hp
    subst hS
    exact sp_X1_soak35 e0 e1 ne (by rw [dc_y hn]) (by rw [dc_y hn, h2]) h
noncomputable def wtJ (wk rd rn : Nat → Int32) (u v x y : Int32) : Nat → Int64 := skJ (lyS rn rd u v) wk x y
theorem sp_X1_wetOf (hv : ¬ v ≤ 0) (e0 : fR S v0 0 = some b0) (e1 : fR S v0 1 = some b1) (ne : b1 ≠ b0) (h : P_X1_wetOf v0 v1 v2 u v4 v QJ S) : P_X1_wetOf v0 v1 v2 u v4 v (fun z T => QJ z T ∧ ∃ f, T = wJ S f ∧ (∀ d, d ≠ b0 → d ≠ b1 → f d = fJ S d) ∧ (∀ k, k < 5 → f b0 k = wtJ (fI S v1) (fI S v2) (fI S v4) u v 0 0 k) ∧ z = sumJ (wtJ (fI S v1) (fI S v2) (fI S v4) u v 0 0)) S := by
  delta P_X1_wetOf P_X1_wetOf_0
  obtain ⟨o1, h⟩ := h
  refine ⟨o1, ?_⟩
  refine cm_X1_lay (sp_X1_lay hv e1 h) h (fun S1 hp h g => ?_)
  have h := h g
  obtain ⟨-, f1, hS, fo, fk⟩ := hp
  subst hS
  refine cm_X1_soak (sp_X1_soak (S := wJ S f1) e0 e1 ne h) h (fun z S1 hp h g => ⟨h g, ?_⟩)
  obtain ⟨-, f2, hS, go, gk, gz⟩ := hp
  have cg : ∀ k, skJ (fJ (wJ S f1) b1) (fI (wJ S f1) v1) 0 0 k = wtJ (fI S v1) (fI S v2) (fI S v4) u v 0 0 k := fun k => skJ_congr fk k
  refine ⟨f2, hS, fun d d0 d1 => (go d d0).trans (fo d d1), fun k hk => (gk k hk).trans (cg k), ?_⟩
  rw [gz]
  unfold sumJ
  rw [cg 0, cg 1, cg 2, cg 3, cg 4]
end C27
/-! legs: the reference's faces, in machine words -/
def mRn (S : HS) (rd h j : Nat) : Int32 := fI S ((fR S rd (7 + j)).getD 0) h
def mRd (S : HS) (rd h j : Nat) : Int32 := fI S ((fR S rd (13 + j)).getD 0) h
def mWk (S : HS) (rd h j : Nat) : Int32 := fI S ((fR S rd (19 + j)).getD 0) h
def mm2 (x y : Int32) : Int32 := if x ≤ y then x else y
def ls2 (x y : Int32) : Int32 := if x ≤ y then 0 else x - y
def acO (o w : Int32) : Int32 := if o = 1 then w else if o = 3 then -w else 0
def lyC (rn rd : Nat → Int32) (u : Int32) : Int32 := acO (lyO rn rd u) (rn 3)
def fwM (rn rd wk : Nat → Int32) (u v : Int32) : Prop := ¬ rd 3 ≤ rd 4 ∧ ¬ v - lyA rn rd u ≤ 0 ∧ ¬ rn 0 * (v - lyA rn rd u) * mm2 (wk 3) (shO wk) ≤ rn 0 * rn 1 * mm2 (wk 2) (shO wk)
noncomputable def itM (rn rd wk : Nat → Int32) (u v x y : Int32) : Nat → Int32
  | 0 => rn 0 * rn 1 * ls2 (wk 2) (dc (fwM rn rd wk u v) 0 (shO wk))
  | 1 => if v - lyA rn rd u ≤ 0 then 0 else rn 0 * (v - lyA rn rd u) * ls2 (ls2 (wk 3) (dc (fwM rn rd wk u v) (shO wk) 0)) x
  | 2 => if 0 ≤ v - lyA rn rd u then 0 else rn 0 * (-(v - lyA rn rd u)) * ls2 (wk 3) y
  | 3 => if lyC rn rd u ≤ 0 then 0 else rn 0 * lyC rn rd u * wk 4
  | _ => if 0 ≤ lyC rn rd u then 0 else rn 0 * (-lyC rn rd u) * wk 4
noncomputable def ptM (rn rd wk : Nat → Int32) (u v : Int32) (k : Nat) : Int64 := (itM rn rd wk u v 0 0 k).toInt64 * (rd 3 - rd 4).toInt64 * ((2520 : Int32) / v).toInt64
def psum (f : Nat → Int64) : Nat → Int64
  | 0 => 0
  | n + 1 => psum f n + f n
section C28
variable {m rd : Nat} {S T : HS} {v1 v2 v3 v4 v5 v6 v7 v8 : Int32} {Q : Int32 → HS → Prop} {QJ : Int64 → HS → Prop}
theorem mrn {j a h : Nat} (e : fR S rd (7 + j) = some a) : fI S a h = mRn S rd h j := by
  unfold mRn
  rw [e]
  rfl
theorem mrd {j a h : Nat} (e : fR S rd (13 + j) = some a) : fI S a h = mRd S rd h j := by
  unfold mRd
  rw [e]
  rfl
theorem mwk {j a h : Nat} (e : fR S rd (19 + j) = some a) : fI S a h = mWk S rd h j := by
  unfold mWk
  rw [e]
  rfl
theorem sp_X10_shield (h : P_X10_shield rd v1 Q S) : P_X10_shield rd v1 (fun x T => Q x T ∧ S = T ∧ x = shO (mWk S rd v1.toNatClampNeg)) S := by
  delta P_X10_shield P_X10_shield_0
  obtain ⟨o1, h⟩ := h
  refine ⟨o1, ?_⟩
  obtain ⟨a2, e2, h⟩ := h
  refine ⟨a2, e2, ?_⟩
  obtain ⟨o3, h⟩ := h
  refine ⟨o3, ?_⟩
  obtain ⟨o4, h⟩ := h
  refine ⟨o4, ?_⟩
  intro x5 e5
  have h := h x5 e5
  have e5 := e5.trans (mwk (j := 0) e2)
  refine ⟨fun c1 => ⟨h.1 c1, rfl, ?_⟩, fun c1 => ?_⟩
  · unfold shO
    rw [if_neg (by rw [← e5]; exact c1)]
  · have h := h.2 c1
    obtain ⟨a6, e6, h⟩ := h
    refine ⟨a6, e6, ?_⟩
    obtain ⟨o7, h⟩ := h
    refine ⟨o7, ?_⟩
    obtain ⟨o8, h⟩ := h
    refine ⟨o8, fun x9 e9 => ⟨h x9 e9, rfl, ?_⟩⟩
    unfold shO
    rw [if_pos (by rw [← e5]; exact c1), e9]
    exact mwk (j := 1) e6
theorem sp_X10_air2 (he : ∀ i, 7 ≤ i → i ≤ 27 → ∃ b, fR S rd i = some b) (h : P_X10_air rd v2 v3 v4 Q S) : P_X10_air rd v2 v3 v4 (fun x T => Q x T ∧ S = T ∧ x = lyA (mRn S rd v4.toNatClampNeg) (mRd S rd v2.toNatClampNeg) v3) S := by
  obtain ⟨a, e15⟩ := he 15 (by decide) (by decide)
  obtain ⟨b, e9⟩ := he 9 (by decide) (by decide)
  obtain ⟨d, e10⟩ := he 10 (by decide) (by decide)
  refine cm_X10_air (sp_X10_air e15 e9 e10 h) h (fun x T hp h => ⟨h, hp.2.1, ?_⟩)
  rw [hp.2.2]
  unfold lyA lyO
  rw [← mrn (j := 2) e9, ← mrn (j := 3) e10, ← mrd (j := 2) e15]
theorem sp_X10_across (he : ∀ i, 7 ≤ i → i ≤ 27 → ∃ b, fR S rd i = some b) (h : P_X10_across rd v2 v3 v4 Q S) : P_X10_across rd v2 v3 v4 (fun x T => Q x T ∧ S = T ∧ x = lyC (mRn S rd v4.toNatClampNeg) (mRd S rd v2.toNatClampNeg) v3) S := by
  obtain ⟨a, e15⟩ := he 15 (by decide) (by decide)
  delta P_X10_across P_X10_across_0
  obtain ⟨o1, h⟩ := h
  refine ⟨o1, ?_⟩
  obtain ⟨a2, e2, h⟩ := h
  refine ⟨a2, e2, ?_⟩
  obtain ⟨o2, h⟩ := h
  refine ⟨o2, ?_⟩
  obtain ⟨o3, h⟩ := h
  refine ⟨o3, fun x3 e3 => ?_⟩
  have h := h x3 e3
  refine cm_X10_facing (sp_X10_facing e15 h) h (fun x6 S4 hp h g => ?_)
  have h := h g
  obtain ⟨-, hS, hx⟩ := hp
  subst hS
  intro x7 e7
  have h := h x7 e7
  have eo : x7 = lyO (mRn S rd v4.toNatClampNeg) (mRd S rd v2.toNatClampNeg) v3 := by
    unfold lyO offOf
    rw [e7, hx, e3, ← mrn (j := 2) e2, ← mrd (j := 2) e15]
    by_cases c1 : v3 = 0
    · rw [if_pos c1, if_pos c1]
    · rw [if_neg c1, if_neg c1]
      exact off_eq _ _
  unfold lyC acO
  rw [← eo]
  refine ⟨fun c1 => ⟨fun c2 => ⟨(h.1 c1).1 c2, rfl, by rw [if_neg c1, if_neg c2]⟩, fun c2 => ?_⟩, fun c1 => ?_⟩
  · have h := (h.1 c1).2 c2
    obtain ⟨a5, e5, h⟩ := h
    refine ⟨a5, e5, ?_⟩
    obtain ⟨o5, h⟩ := h
    refine ⟨o5, ?_⟩
    obtain ⟨o6, h⟩ := h
    exact ⟨o6, fun y ey => ⟨h y ey, rfl, by rw [if_neg c1, if_pos c2, ey, ← mrn (j := 3) e5]⟩⟩
  · have h := h.2 c1
    obtain ⟨a5, e5, h⟩ := h
    refine ⟨a5, e5, ?_⟩
    obtain ⟨o5, h⟩ := h
    refine ⟨o5, ?_⟩
    obtain ⟨o6, h⟩ := h
    exact ⟨o6, fun y ey => ⟨h y ey, rfl, by rw [if_pos c1, ey, ← mrn (j := 3) e5]⟩⟩
theorem sp_X11_less (h : P_X11_less v1 v2 Q S) : P_X11_less v1 v2 (fun x T => Q x T ∧ S = T ∧ x = ls2 v1 v2) S := by
  delta P_X11_less P_X11_less_0
  unfold ls2
  exact ⟨fun c => ⟨h.1 c, rfl, by rw [if_pos c]⟩, fun c => ⟨h.2 c, rfl, by rw [if_neg c]⟩⟩
theorem sp_X11_isForward (he : ∀ i, 7 ≤ i → i ≤ 27 → ∃ b, fR S rd i = some b) (e3 : fR S m 3 = some rd) (h : P_X11_isForward m v1 v2 v3 v4 v5 Q S) : P_X11_isForward m v1 v2 v3 v4 v5 (fun x T => Q x T ∧ S = T ∧ ans (fwM (mRn S rd v4.toNatClampNeg) (mRd S rd v2.toNatClampNeg) (mWk S rd v1.toNatClampNeg) v3 v5) x) S := by
  have f112 : ∀ y z s : Int32, y = v5 - lyA (mRn S rd v4.toNatClampNeg) (mRd S rd v2.toNatClampNeg) v3 → z = mm2 ((mWk S rd v1.toNatClampNeg) 3) (shO (mWk S rd v1.toNatClampNeg)) → ∀ w, w = mm2 ((mWk S rd v1.toNatClampNeg) 2) (shO (mWk S rd v1.toNatClampNeg)) → ans (¬ (mRd S rd v2.toNatClampNeg) 3 ≤ (mRd S rd v2.toNatClampNeg) 4) s → P_X11_isForward_112 Q m v4 y z w s S → P_X11_isForward_112 (fun x T => Q x T ∧ S = T ∧ ans (fwM (mRn S rd v4.toNatClampNeg) (mRd S rd v2.toNatClampNeg) (mWk S rd v1.toNatClampNeg) v3 v5) x) m v4 y z w s S := by
    intro y z s hy hz w hw hs h
    delta P_X11_isForward_112
    refine ⟨fun c1 => ⟨h.1 c1, rfl, Or.inr ⟨fun q => an0 hs c1 q.1, rfl⟩⟩, fun c1 => ?_⟩
    have h := h.2 c1
    have ho := an1 hs c1
    refine ⟨fun c2 => ⟨h.1 c2, rfl, Or.inr ⟨fun q => q.2.1 (by rw [← hy]; exact c2), rfl⟩⟩, fun c2 => ?_⟩
    have h := h.2 c2
    obtain ⟨o1, h⟩ := h
    refine ⟨o1, ?_⟩
    obtain ⟨a2, e2, h⟩ := h
    refine ⟨a2, e2, ?_⟩
    cases e3.symm.trans e2
    obtain ⟨o3, h⟩ := h
    refine ⟨o3, ?_⟩
    obtain ⟨a4, e4, h⟩ := h
    refine ⟨a4, e4, ?_⟩
    obtain ⟨o5, h⟩ := h
    refine ⟨o5, ?_⟩
    obtain ⟨o6, h⟩ := h
    refine ⟨o6, ?_⟩
    intro x7 q7
    have h := h x7 q7
    replace q7 := q7.trans (mrn (j := 0) e4)
    obtain ⟨a8, e8, h⟩ := h
    refine ⟨a8, e8, ?_⟩
    cases e3.symm.trans e8
    obtain ⟨o9, h⟩ := h
    refine ⟨o9, ?_⟩
    obtain ⟨a10, e10, h⟩ := h
    refine ⟨a10, e10, ?_⟩
    obtain ⟨o11, h⟩ := h
    refine ⟨o11, ?_⟩
    obtain ⟨o12, h⟩ := h
    refine ⟨o12, ?_⟩
    intro x13 q13
    have h := h x13 q13
    replace q13 := q13.trans (mrn (j := 0) e10)
    obtain ⟨a14, e14, h⟩ := h
    refine ⟨a14, e14, ?_⟩
    cases e3.symm.trans e14
    obtain ⟨o15, h⟩ := h
    refine ⟨o15, ?_⟩
    obtain ⟨a16, e16, h⟩ := h
    refine ⟨a16, e16, ?_⟩
    obtain ⟨o17, h⟩ := h
    refine ⟨o17, ?_⟩
    obtain ⟨o18, h⟩ := h
    refine ⟨o18, ?_⟩
    intro x19 q19
    have h := h x19 q19
    replace q19 := q19.trans (mrn (j := 1) e16)
    rw [q7, q13, q19, hy, hz, hw] at h
    rw [q7, q13, q19, hy, hz, hw]
    exact ⟨fun c3 => ⟨h.1 c3, rfl, Or.inr ⟨fun q => q.2.2 c3, rfl⟩⟩, fun c3 => ⟨h.2 c3, rfl, Or.inl ⟨⟨ho, by rw [← hy]; exact c2, c3⟩, rfl⟩⟩⟩
  have f84 : ∀ y z : Int32, y = v5 - lyA (mRn S rd v4.toNatClampNeg) (mRd S rd v2.toNatClampNeg) v3 → z = mm2 ((mWk S rd v1.toNatClampNeg) 3) (shO (mWk S rd v1.toNatClampNeg)) → ∀ w, w = mm2 ((mWk S rd v1.toNatClampNeg) 2) (shO (mWk S rd v1.toNatClampNeg)) → P_X11_isForward_84 Q m v2 v4 y z w S → P_X11_isForward_84 (fun x T => Q x T ∧ S = T ∧ ans (fwM (mRn S rd v4.toNatClampNeg) (mRd S rd v2.toNatClampNeg) (mWk S rd v1.toNatClampNeg) v3 v5) x) m v2 v4 y z w S := by
    intro y z hy hz w hw h
    delta P_X11_isForward_84
    obtain ⟨o20, h⟩ := h
    refine ⟨o20, ?_⟩
    obtain ⟨a21, e21, h⟩ := h
    refine ⟨a21, e21, ?_⟩
    cases e3.symm.trans e21
    obtain ⟨o22, h⟩ := h
    refine ⟨o22, ?_⟩
    obtain ⟨a23, e23, h⟩ := h
    refine ⟨a23, e23, ?_⟩
    obtain ⟨o24, h⟩ := h
    refine ⟨o24, ?_⟩
    obtain ⟨o25, h⟩ := h
    refine ⟨o25, ?_⟩
    intro x26 q26
    have h := h x26 q26
    replace q26 := q26.trans (mrd (j := 4) e23)
    obtain ⟨a27, e27, h⟩ := h
    refine ⟨a27, e27, ?_⟩
    cases e3.symm.trans e27
    obtain ⟨o28, h⟩ := h
    refine ⟨o28, ?_⟩
    obtain ⟨a29, e29, h⟩ := h
    refine ⟨a29, e29, ?_⟩
    obtain ⟨o30, h⟩ := h
    refine ⟨o30, ?_⟩
    obtain ⟨o31, h⟩ := h
    refine ⟨o31, ?_⟩
    intro x32 q32
    have h := h x32 q32
    replace q32 := q32.trans (mrd (j := 3) e29)
    refine ⟨fun c => f112 y z 0 hy hz w hw (Or.inr ⟨fun q => q (by rw [← q32, ← q26]; exact c), rfl⟩) (h.1 c), fun c => f112 y z 1 hy hz w hw (Or.inl ⟨by rw [← q32, ← q26]; exact c, rfl⟩) (h.2 c)⟩
  have f54 : ∀ y z : Int32, y = v5 - lyA (mRn S rd v4.toNatClampNeg) (mRd S rd v2.toNatClampNeg) v3 → z = mm2 ((mWk S rd v1.toNatClampNeg) 3) (shO (mWk S rd v1.toNatClampNeg)) → ∀ w, w = shO (mWk S rd v1.toNatClampNeg) → P_X11_isForward_54 Q m v1 v2 v4 w y z S → P_X11_isForward_54 (fun x T => Q x T ∧ S = T ∧ ans (fwM (mRn S rd v4.toNatClampNeg) (mRd S rd v2.toNatClampNeg) (mWk S rd v1.toNatClampNeg) v3 v5) x) m v1 v2 v4 w y z S := by
    intro y z hy hz w hw h
    delta P_X11_isForward_54
    obtain ⟨o33, h⟩ := h
    refine ⟨o33, ?_⟩
    obtain ⟨a34, e34, h⟩ := h
    refine ⟨a34, e34, ?_⟩
    cases e3.symm.trans e34
    obtain ⟨o35, h⟩ := h
    refine ⟨o35, ?_⟩
    obtain ⟨a36, e36, h⟩ := h
    refine ⟨a36, e36, ?_⟩
    obtain ⟨o37, h⟩ := h
    refine ⟨o37, ?_⟩
    obtain ⟨o38, h⟩ := h
    refine ⟨o38, ?_⟩
    intro x39 q39
    have h := h x39 q39
    replace q39 := q39.trans (mwk (j := 2) e36)
    refine ⟨fun c => ?_, fun c => ?_⟩
    · have h := h.1 c
      obtain ⟨a40, e40, h⟩ := h
      refine ⟨a40, e40, ?_⟩
      cases e3.symm.trans e40
      obtain ⟨o41, h⟩ := h
      refine ⟨o41, ?_⟩
      obtain ⟨a42, e42, h⟩ := h
      refine ⟨a42, e42, ?_⟩
      obtain ⟨o43, h⟩ := h
      refine ⟨o43, ?_⟩
      obtain ⟨o44, h⟩ := h
      refine ⟨o44, ?_⟩
      intro x45 q45
      have h := h x45 q45
      replace q45 := q45.trans (mwk (j := 2) e42)
      exact f84 y z hy hz _ (by unfold mm2; rw [if_pos (by rw [← q39, ← hw]; exact c), q45]) h
    · exact f84 y z hy hz _ (by unfold mm2; rw [if_neg (by rw [← q39, ← hw]; exact c), hw]) (h.2 c)
  delta P_X11_isForward P_X11_isForward_0
  obtain ⟨o46, h⟩ := h
  refine ⟨o46, ?_⟩
  obtain ⟨a47, e47, h⟩ := h
  refine ⟨a47, e47, ?_⟩
  cases e3.symm.trans e47
  obtain ⟨o48, h⟩ := h
  refine ⟨o48, ?_⟩
  refine cm_X10_shield (sp_X10_shield h) h (fun xs S1 hp h g => ?_)
  have h := h g
  obtain ⟨-, hS, hxs⟩ := hp
  subst hS
  obtain ⟨a49, e49, h⟩ := h
  refine ⟨a49, e49, ?_⟩
  cases e3.symm.trans e49
  obtain ⟨o50, h⟩ := h
  refine ⟨o50, ?_⟩
  refine cm_X10_air (sp_X10_air2 he h) h (fun xa S1 hp h g => ?_)
  have h := h g
  obtain ⟨-, hS, hxa⟩ := hp
  subst hS
  intro y hy
  have h := h y hy
  rw [hxa] at hy
  obtain ⟨a51, e51, h⟩ := h
  refine ⟨a51, e51, ?_⟩
  cases e3.symm.trans e51
  obtain ⟨o52, h⟩ := h
  refine ⟨o52, ?_⟩
  obtain ⟨a53, e53, h⟩ := h
  refine ⟨a53, e53, ?_⟩
  obtain ⟨o54, h⟩ := h
  refine ⟨o54, ?_⟩
  obtain ⟨o55, h⟩ := h
  refine ⟨o55, ?_⟩
  intro x56 q56
  have h := h x56 q56
  replace q56 := q56.trans (mwk (j := 3) e53)
  refine ⟨fun c => ?_, fun c => ?_⟩
  · have h := h.1 c
    obtain ⟨a57, e57, h⟩ := h
    refine ⟨a57, e57, ?_⟩
    cases e3.symm.trans e57
    obtain ⟨o58, h⟩ := h
    refine ⟨o58, ?_⟩
    obtain ⟨a59, e59, h⟩ := h
    refine ⟨a59, e59, ?_⟩
    obtain ⟨o60, h⟩ := h
    refine ⟨o60, ?_⟩
    obtain ⟨o61, h⟩ := h
    refine ⟨o61, ?_⟩
    intro x62 q62
    have h := h x62 q62
    replace q62 := q62.trans (mwk (j := 3) e59)
    exact f54 y _ hy (by unfold mm2; rw [if_pos (by rw [← q56, ← hxs]; exact c), q62]) _ hxs h
  · exact f54 y _ hy (by unfold mm2; rw [if_neg (by rw [← q56, ← hxs]; exact c), hxs]) _ hxs (h.2 c)
theorem sp_X11_inTime (he : ∀ i, 7 ≤ i → i ≤ 27 → ∃ b, fR S rd i = some b) (e3 : fR S m 3 = some rd) (h6 : 0 ≤ v6.toInt ∧ v6.toInt ≤ 4) (h : P_X11_inTime m v1 v2 v3 v4 v5 v6 v7 v8 Q S) : P_X11_inTime m v1 v2 v3 v4 v5 v6 v7 v8 (fun x T => Q x T ∧ S = T ∧ x = itM (mRn S rd v4.toNatClampNeg) (mRd S rd v2.toNatClampNeg) (mWk S rd v1.toNatClampNeg) v3 v5 v7 v8 v6.toNatClampNeg) S := by
  have hk : ∀ k : Nat, v6.toInt = (k : Int) → v6.toNatClampNeg = k := fun k z => by
    show v6.toInt.toNat = k
    omega
  delta P_X11_inTime P_X11_inTime_0
  obtain ⟨o63, h⟩ := h
  refine ⟨o63, ?_⟩
  obtain ⟨a64, e64, h⟩ := h
  refine ⟨a64, e64, ?_⟩
  cases e3.symm.trans e64
  obtain ⟨o65, h⟩ := h
  refine ⟨o65, ?_⟩
  obtain ⟨a66, e66, h⟩ := h
  refine ⟨a66, e66, ?_⟩
  obtain ⟨o67, h⟩ := h
  refine ⟨o67, ?_⟩
  obtain ⟨o68, h⟩ := h
  refine ⟨o68, ?_⟩
  intro x69 q69
  have h := h x69 q69
  replace q69 := q69.trans (mrn (j := 0) e66)
  obtain ⟨a70, e70, h⟩ := h
  refine ⟨a70, e70, ?_⟩
  cases e3.symm.trans e70
  obtain ⟨o71, h⟩ := h
  refine ⟨o71, ?_⟩
  refine cm_X10_air (sp_X10_air2 he h) h (fun xa S1 hp h g => ?_)
  have h := h g
  obtain ⟨-, hS, hxa⟩ := hp
  subst hS
  intro y hy
  have h := h y hy
  rw [hxa] at hy
  obtain ⟨a72, e72, h⟩ := h
  refine ⟨a72, e72, ?_⟩
  cases e3.symm.trans e72
  obtain ⟨o73, h⟩ := h
  refine ⟨o73, ?_⟩
  refine cm_X10_across (sp_X10_across he h) h (fun xc S1 hp h g => ?_)
  have h := h g
  obtain ⟨-, hS, hxc⟩ := hp
  subst hS
  refine cm_X11_isForward (sp_X11_isForward he e3 h) h (fun xf S1 hp h g bq => ?_)
  have h := h g bq
  obtain ⟨-, hS, hxf⟩ := hp
  subst hS
  obtain ⟨a74, e74, h⟩ := h
  refine ⟨a74, e74, ?_⟩
  cases e3.symm.trans e74
  obtain ⟨o75, h⟩ := h
  refine ⟨o75, ?_⟩
  refine cm_X10_shield (sp_X10_shield h) h (fun xs S1 hp h g => ?_)
  have h := h g
  obtain ⟨-, hS, hxs⟩ := hp
  subst hS
  refine ⟨fun c => ?_, fun c => ?_, fun c => ?_, fun c => ?_, fun c => ?_⟩
  · have h := h.1 c
    have ek := hk 4 (by omega)
    refine ⟨fun c1 => ⟨h.1 c1, rfl, ?_⟩, fun c1 => ?_⟩
    · rw [ek]
      exact (if_pos (by rw [← hxc]; exact c1)).symm
    have h := h.2 c1
    obtain ⟨a76, e76, h⟩ := h
    refine ⟨a76, e76, ?_⟩
    cases e3.symm.trans e76
    obtain ⟨o77, h⟩ := h
    refine ⟨o77, ?_⟩
    obtain ⟨a78, e78, h⟩ := h
    refine ⟨a78, e78, ?_⟩
    obtain ⟨o79, h⟩ := h
    refine ⟨o79, ?_⟩
    obtain ⟨o80, h⟩ := h
    refine ⟨o80, ?_⟩
    intro x81 q81
    have h := h x81 q81
    replace q81 := q81.trans (mwk (j := 4) e78)
    refine ⟨h, rfl, ?_⟩
    rw [ek, q81, q69, hxc]
    exact (if_neg (by rw [← hxc]; exact c1)).symm
  · have h := h.2.1 c
    have ek := hk 0 (by omega)
    obtain ⟨a82, e82, h⟩ := h
    refine ⟨a82, e82, ?_⟩
    cases e3.symm.trans e82
    obtain ⟨o83, h⟩ := h
    refine ⟨o83, ?_⟩
    obtain ⟨a84, e84, h⟩ := h
    refine ⟨a84, e84, ?_⟩
    obtain ⟨o85, h⟩ := h
    refine ⟨o85, ?_⟩
    obtain ⟨o86, h⟩ := h
    refine ⟨o86, ?_⟩
    intro x87 q87
    have h := h x87 q87
    replace q87 := q87.trans (mrn (j := 1) e84)
    obtain ⟨a88, e88, h⟩ := h
    refine ⟨a88, e88, ?_⟩
    cases e3.symm.trans e88
    obtain ⟨o89, h⟩ := h
    refine ⟨o89, ?_⟩
    obtain ⟨a90, e90, h⟩ := h
    refine ⟨a90, e90, ?_⟩
    obtain ⟨o91, h⟩ := h
    refine ⟨o91, ?_⟩
    obtain ⟨o92, h⟩ := h
    refine ⟨o92, ?_⟩
    intro x93 q93
    have h := h x93 q93
    replace q93 := q93.trans (mwk (j := 2) e90)
    refine ⟨fun c1 => ?_, fun c1 => ?_⟩
    · have h := h.1 c1
      have hn := an0 hxf c1
      delta P_X11_inTime_129
      refine cm_X11_less (sp_X11_less h) h (fun z S1 hp h g => ⟨h g, hp.2.1, ?_⟩)
      rw [ek, hp.2.2, q69, q87, q93, hxs]
      show _ = _ * ls2 _ (dc _ _ _)
      rw [dc_n hn]
    · have h := h.2 c1
      have hn := an1 hxf c1
      delta P_X11_inTime_129
      refine cm_X11_less (sp_X11_less h) h (fun z S1 hp h g => ⟨h g, hp.2.1, ?_⟩)
      rw [ek, hp.2.2, q69, q87, q93]
      show _ = _ * ls2 _ (dc _ _ _)
      rw [dc_y hn]
  · have h := h.2.2.1 c
    have ek := hk 1 (by omega)
    refine ⟨fun c1 => ⟨h.1 c1, rfl, ?_⟩, fun c1 => ?_⟩
    · rw [ek]
      exact (if_pos (by rw [← hy]; exact c1)).symm
    have h := h.2 c1
    obtain ⟨a94, e94, h⟩ := h
    refine ⟨a94, e94, ?_⟩
    cases e3.symm.trans e94
    obtain ⟨o95, h⟩ := h
    refine ⟨o95, ?_⟩
    obtain ⟨a96, e96, h⟩ := h
    refine ⟨a96, e96, ?_⟩
    obtain ⟨o97, h⟩ := h
    refine ⟨o97, ?_⟩
    obtain ⟨o98, h⟩ := h
    refine ⟨o98, ?_⟩
    intro x99 q99
    have h := h x99 q99
    replace q99 := q99.trans (mwk (j := 3) e96)
    have e1 : itM (mRn S rd v4.toNatClampNeg) (mRd S rd v2.toNatClampNeg) (mWk S rd v1.toNatClampNeg) v3 v5 v7 v8 1 = (mRn S rd v4.toNatClampNeg) 0 * (v5 - lyA (mRn S rd v4.toNatClampNeg) (mRd S rd v2.toNatClampNeg) v3) * ls2 (ls2 ((mWk S rd v1.toNatClampNeg) 3) (dc (fwM (mRn S rd v4.toNatClampNeg) (mRd S rd v2.toNatClampNeg) (mWk S rd v1.toNatClampNeg) v3 v5) (shO (mWk S rd v1.toNatClampNeg)) 0)) v7 := if_neg (by rw [← hy]; exact c1)
    refine ⟨fun c2 => ?_, fun c2 => ?_⟩
    · have h := h.1 c2
      have hn := an0 hxf c2
      delta P_X11_inTime_164
      refine cm_X11_less (sp_X11_less h) h (fun z S1 hp h g => ?_)
      have h := h g
      obtain ⟨-, hS, hz⟩ := hp
      subst hS
      refine cm_X11_less (sp_X11_less h) h (fun z2 S1 hp h g => ⟨h g, hp.2.1, ?_⟩)
      rw [ek, e1, hp.2.2, hz, q69, q99, hy, dc_n hn]
    · have h := h.2 c2
      have hn := an1 hxf c2
      delta P_X11_inTime_164
      refine cm_X11_less (sp_X11_less h) h (fun z S1 hp h g => ?_)
      have h := h g
      obtain ⟨-, hS, hz⟩ := hp
      subst hS
      refine cm_X11_less (sp_X11_less h) h (fun z2 S1 hp h g => ⟨h g, hp.2.1, ?_⟩)
      rw [ek, e1, hp.2.2, hz, q69, q99, hy, hxs, dc_y hn]
  · have h := h.2.2.2.1 c
    have ek := hk 2 (by omega)
    refine ⟨fun c1 => ⟨h.1 c1, rfl, ?_⟩, fun c1 => ?_⟩
    · rw [ek]
      exact (if_pos (by rw [← hy]; exact c1)).symm
    have h := h.2 c1
    obtain ⟨a100, e100, h⟩ := h
    refine ⟨a100, e100, ?_⟩
    cases e3.symm.trans e100
    obtain ⟨o101, h⟩ := h
    refine ⟨o101, ?_⟩
    obtain ⟨a102, e102, h⟩ := h
    refine ⟨a102, e102, ?_⟩
    obtain ⟨o103, h⟩ := h
    refine ⟨o103, ?_⟩
    obtain ⟨o104, h⟩ := h
    refine ⟨o104, ?_⟩
    intro x105 q105
    have h := h x105 q105
    replace q105 := q105.trans (mwk (j := 3) e102)
    refine cm_X11_less (sp_X11_less h) h (fun z S1 hp h g => ⟨h g, hp.2.1, ?_⟩)
    rw [ek, hp.2.2, q69, q105, hy]
    exact (if_neg (by rw [← hy]; exact c1)).symm
  · have h := h.2.2.2.2 c
    have ek := hk 3 (by omega)
    refine ⟨fun c1 => ⟨h.1 c1, rfl, ?_⟩, fun c1 => ?_⟩
    · rw [ek]
      exact (if_pos (by rw [← hxc]; exact c1)).symm
    have h := h.2 c1
    obtain ⟨a106, e106, h⟩ := h
    refine ⟨a106, e106, ?_⟩
    cases e3.symm.trans e106
    obtain ⟨o107, h⟩ := h
    refine ⟨o107, ?_⟩
    obtain ⟨a108, e108, h⟩ := h
    refine ⟨a108, e108, ?_⟩
    obtain ⟨o109, h⟩ := h
    refine ⟨o109, ?_⟩
    obtain ⟨o110, h⟩ := h
    refine ⟨o110, ?_⟩
    intro x111 q111
    have h := h x111 q111
    replace q111 := q111.trans (mwk (j := 4) e108)
    refine ⟨h, rfl, ?_⟩
    rw [ek, q111, q69, hxc]
    exact (if_neg (by rw [← hxc]; exact c1)).symm
theorem sp_X11_partsOf (he : ∀ i, 7 ≤ i → i ≤ 27 → ∃ b, fR S rd i = some b) (e3 : fR S m 3 = some rd) (h6 : 0 ≤ v6.toInt ∧ v6.toInt ≤ 4) (h : P_X11_partsOf m v1 v2 v3 v4 v5 v6 QJ S) : P_X11_partsOf m v1 v2 v3 v4 v5 v6 (fun x T => QJ x T ∧ S = T ∧ x = ptM (mRn S rd v4.toNatClampNeg) (mRd S rd v2.toNatClampNeg) (mWk S rd v1.toNatClampNeg) v3 v5 v6.toNatClampNeg) S := by
  delta P_X11_partsOf P_X11_partsOf_0
  obtain ⟨o112, h⟩ := h
  refine ⟨o112, ?_⟩
  refine cm_X11_inTime (sp_X11_inTime he e3 h6 h) h (fun xi S1 hp h g => ?_)
  have h := h g
  obtain ⟨-, hS, hxi⟩ := hp
  subst hS
  obtain ⟨a113, e113, h⟩ := h
  refine ⟨a113, e113, ?_⟩
  cases e3.symm.trans e113
  obtain ⟨o114, h⟩ := h
  refine ⟨o114, ?_⟩
  obtain ⟨a115, e115, h⟩ := h
  refine ⟨a115, e115, ?_⟩
  obtain ⟨o116, h⟩ := h
  refine ⟨o116, ?_⟩
  obtain ⟨o117, h⟩ := h
  refine ⟨o117, ?_⟩
  intro x118 q118
  have h := h x118 q118
  replace q118 := q118.trans (mrd (j := 3) e115)
  obtain ⟨a119, e119, h⟩ := h
  refine ⟨a119, e119, ?_⟩
  cases e3.symm.trans e119
  obtain ⟨o120, h⟩ := h
  refine ⟨o120, ?_⟩
  obtain ⟨a121, e121, h⟩ := h
  refine ⟨a121, e121, ?_⟩
  obtain ⟨o122, h⟩ := h
  refine ⟨o122, ?_⟩
  obtain ⟨o123, h⟩ := h
  refine ⟨o123, ?_⟩
  intro x124 q124
  have h := h x124 q124
  replace q124 := q124.trans (mrd (j := 4) e121)
  obtain ⟨o125, h⟩ := h
  refine ⟨o125, ?_⟩
  intro x5 q5
  have h := h x5 q5
  refine ⟨h, rfl, ?_⟩
  rw [hxi, q118, q124, q5]
  rfl
theorem sp_X11_wetOf (he : ∀ i, 7 ≤ i → i ≤ 27 → ∃ b, fR S rd i = some b) (e3 : fR S m 3 = some rd) (h : P_X11_wetOf m v1 v2 v3 v4 v5 QJ S) : P_X11_wetOf m v1 v2 v3 v4 v5 (fun x T => QJ x T ∧ S = T ∧ x = psum (ptM (mRn S rd v4.toNatClampNeg) (mRd S rd v2.toNatClampNeg) (mWk S rd v1.toNatClampNeg) v3 v5) 5) S := by
  delta P_X11_wetOf P_X11_wetOf_0
  intro X hX
  refine h (fun a0 a1 a2 a3 a4 a5 a6 a8 T => (a0 = m ∧ a1 = v1 ∧ a2 = v2 ∧ a3 = v3 ∧ a4 = v4 ∧ a5 = v5 ∧ T = S ∧ ∃ k, k ≤ 5 ∧ a8 = nI k ∧ a6 = psum (ptM (mRn S rd v4.toNatClampNeg) (mRd S rd v2.toNatClampNeg) (mWk S rd v1.toNatClampNeg) v3 v5) k) → X a0 a1 a2 a3 a4 a5 a6 a8 T) ?_ ⟨rfl, rfl, rfl, rfl, rfl, rfl, rfl, 0, by decide, by decide, rfl⟩
  rintro a0 a1 a2 a3 a4 a5 a6 a8 T h ⟨rfl, rfl, rfl, rfl, rfl, rfl, rfl, k, hk, e8, e6⟩
  apply hX
  have n5 : (5 : Int32).toInt = 5 := by decide
  have nk : a8.toInt = (k : Int) := by rw [e8, nI_i (by omega)]
  refine ⟨fun c => ⟨h.1 c, rfl, ?_⟩, fun c => ?_⟩
  · have := le_i c
    have q : k = 5 := by omega
    rw [e6, q]
  have h := h.2 c
  have lt := nle_i c
  have hk8 : a8.toNatClampNeg = k := by
    show a8.toInt.toNat = k
    omega
  obtain ⟨o1, h⟩ := h
  refine ⟨o1, ?_⟩
  refine cm_X11_partsOf (sp_X11_partsOf he e3 ⟨by omega, by omega⟩ h) h (fun z S1 hp h g => ?_)
  have h := h g
  obtain ⟨-, hS, hz⟩ := hp
  subst hS
  intro x5 q5
  have h := h x5 q5
  intro x6 q6
  have h := h x6 q6
  refine h ⟨rfl, rfl, rfl, rfl, rfl, rfl, rfl, k + 1, by omega, ?_, ?_⟩
  · rw [q6, e8]
    exact nI_add k 1
  · rw [q5, e6, hz, hk8]
    rfl
end C28
end
section
/-! legs: both sides reckon the same -/
def bJ (x : Int64) (a B : Int) : Prop := x.toInt = a ∧ 0 ≤ a ∧ a ≤ B
def bI (x : Int32) (a B : Int) : Prop := x.toInt = a ∧ 0 ≤ a ∧ a ≤ B
section C29
theorem bJ_mul {x y : Int64} {a b B C : Int} (h : bJ x a B) (g : bJ y b C) (hB : B * C ≤ 4611686018427387904) : bJ (x * y) (a * b) (B * C) := by
  obtain ⟨h1, h2, h3⟩ := h
  obtain ⟨g1, g2, g3⟩ := g
  have p := Int.mul_nonneg h2 g2
  have u : a * b ≤ B * C := Int.mul_le_mul h3 g3 g2 (by omega)
  refine ⟨?_, p, u⟩
  rw [Int64.toInt_mul, h1, g1, Int.bmod_eq_of_le (by omega) (by omega)]
theorem bI_mul {x y : Int32} {a b B C : Int} (h : bI x a B) (g : bI y b C) (hB : B * C ≤ 1073741824) : bI (x * y) (a * b) (B * C) := by
  obtain ⟨h1, h2, h3⟩ := h
  obtain ⟨g1, g2, g3⟩ := g
  have p := Int.mul_nonneg h2 g2
  have u : a * b ≤ B * C := Int.mul_le_mul h3 g3 g2 (by omega)
  refine ⟨?_, p, u⟩
  rw [Int32.toInt_mul, h1, g1, Int.bmod_eq_of_le (by omega) (by omega)]
theorem bJ_of {x : Int32} {a B : Int} (h : bI x a B) : bJ x.toInt64 a B := ⟨(Int32.toInt_toInt64 _).trans h.1, h.2⟩
theorem bI_of {x : Int32} {lo hi : Int} (h : inI lo hi x) (h0 : 0 ≤ lo) : bI x x.toInt hi := ⟨rfl, by have := h.1; omega, h.2⟩
theorem bI_sub {x y : Int32} {a b B C : Int} (h : bI x a B) (g : bI y b C) (hB : B ≤ 100000) (hC : C ≤ 100000) : (x - y).toInt = a - b := by
  obtain ⟨h1, h2, h3⟩ := h
  obtain ⟨g1, g2, g3⟩ := g
  rw [Int32.toInt_sub, h1, g1, Int.bmod_eq_of_le (by omega) (by omega)]
theorem bI_mx {x : Int32} {a B : Int} (h : x.toInt = a) (hb : a ≤ B) (h0 : 0 ≤ B) : bI (mx0 x) (max a 0) B := by
  have e0 : (0 : Int32).toInt = 0 := by decide
  unfold mx0
  by_cases c : x < 0
  · rw [if_pos c]
    have := lt_i c
    exact ⟨by rw [e0]; omega, by omega, by omega⟩
  · rw [if_neg c]
    have := nlt_i c
    exact ⟨by rw [h]; omega, by omega, by omega⟩
theorem bI_mn {x y : Int32} {a b B C : Int} (h : bI x a B) (g : bI y b C) : bI (mn2 x y) (min a b) B := by
  obtain ⟨h1, h2, h3⟩ := h
  obtain ⟨g1, g2, g3⟩ := g
  unfold mn2
  by_cases c : x < y
  · rw [if_pos c]
    have := lt_i c
    exact ⟨by omega, by omega, by omega⟩
  · rw [if_neg c]
    have := nlt_i c
    exact ⟨by omega, by omega, by omega⟩
theorem bI_mm {x y : Int32} {a b B C : Int} (h : bI x a B) (g : bI y b C) : bI (mm2 x y) (min a b) B := by
  obtain ⟨h1, h2, h3⟩ := h
  obtain ⟨g1, g2, g3⟩ := g
  unfold mm2
  by_cases c : x ≤ y
  · rw [if_pos c]
    have := le_i c
    exact ⟨by omega, by omega, by omega⟩
  · rw [if_neg c]
    have := nle_i c
    exact ⟨by omega, by omega, by omega⟩
theorem bI_ls {x y : Int32} {a b B C : Int} (h : bI x a B) (g : bI y b C) (hB : B ≤ 100000) (hC : C ≤ 100000) : bI (ls2 x y) (max (a - b) 0) B := by
  have e0 : (0 : Int32).toInt = 0 := by decide
  have s := bI_sub h g hB hC
  obtain ⟨h1, h2, h3⟩ := h
  obtain ⟨g1, g2, g3⟩ := g
  unfold ls2
  by_cases c : x ≤ y
  · rw [if_pos c]
    have := le_i c
    exact ⟨by omega, by omega, by omega⟩
  · rw [if_neg c]
    have := nle_i c
    exact ⟨by omega, by omega, by omega⟩
theorem lgc {x y : Int64} : (¬ lg_cmp x y ≤ 0) ↔ y.toInt < x.toInt := by
  unfold lg_cmp
  by_cases c : x > y
  · rw [if_pos c]
    exact ⟨fun _ => Int64.lt_iff_toInt_lt.mp c, fun _ => by decide⟩
  · rw [if_neg c]
    have n := Int64.le_iff_toInt_le.mp (Int64.not_lt.mp c)
    by_cases d : x = y
    · rw [if_pos d]
      exact ⟨fun z => absurd (by decide) z, fun z => by omega⟩
    · rw [if_neg d]
      exact ⟨fun z => absurd (by decide) z, fun z => by omega⟩
theorem q_v {v : Int32} (h1 : 1 ≤ v.toInt) (h2 : v.toInt ≤ 9) : 280 ≤ ((2520 : Int32) / v).toInt ∧ ((2520 : Int32) / v).toInt ≤ 2520 := by
  have ofv : ∀ k : Int32, v.toInt = k.toInt → v = k := fun k z => Int32.toInt_inj.mp z
  rcases (by omega : v.toInt = 1 ∨ v.toInt = 2 ∨ v.toInt = 3 ∨ v.toInt = 4 ∨ v.toInt = 5 ∨ v.toInt = 6 ∨ v.toInt = 7 ∨ v.toInt = 8 ∨ v.toInt = 9) with q | q | q | q | q | q | q | q | q
  · rw [ofv 1 (q.trans (by decide))]; decide
  · rw [ofv 2 (q.trans (by decide))]; decide
  · rw [ofv 3 (q.trans (by decide))]; decide
  · rw [ofv 4 (q.trans (by decide))]; decide
  · rw [ofv 5 (q.trans (by decide))]; decide
  · rw [ofv 6 (q.trans (by decide))]; decide
  · rw [ofv 7 (q.trans (by decide))]; decide
  · rw [ofv 8 (q.trans (by decide))]; decide
  · rw [ofv 9 (q.trans (by decide))]; decide
end C29
section C29b
variable {rn rd wk : Nat → Int32} {u v x y : Int32}
def iD (rn : Nat → Int32) : Int := (rn 0).toInt
def iT (rd : Nat → Int32) (v : Int32) : Int := ((rd 3).toInt - (rd 4).toInt) * ((2520 : Int32) / v).toInt
def iA (rn rd : Nat → Int32) (u v : Int32) : Int := v.toInt - (lyA rn rd u).toInt
def iS (wk : Nat → Int32) : Int := (shO wk).toInt
def iFw (rn rd wk : Nat → Int32) (u v : Int32) : Prop := (rd 4).toInt < (rd 3).toInt ∧ 0 < iA rn rd u v ∧ iD rn * (rn 1).toInt * min (wk 2).toInt (iS wk) < iD rn * iA rn rd u v * min (wk 3).toInt (iS wk)
noncomputable def iE (rn rd wk : Nat → Int32) (u v : Int32) (x y : Int) : Nat → Int
  | 0 => iD rn * (rn 1).toInt * max ((wk 2).toInt - dc (iFw rn rd wk u v) 0 (iS wk)) 0
  | 1 => iD rn * max (iA rn rd u v) 0 * max ((wk 3).toInt - dc (iFw rn rd wk u v) (iS wk) 0 - x) 0
  | 2 => iD rn * max (-iA rn rd u v) 0 * max ((wk 3).toInt - y) 0
  | 3 => iD rn * (if lyO rn rd u = 1 then (rn 3).toInt else 0) * (wk 4).toInt
  | _ => iD rn * (if lyO rn rd u = 3 then (rn 3).toInt else 0) * (wk 4).toInt
theorem sh_b (b : WkB wk) : bI (shO wk) (iS wk) 999 := by
  unfold iS shO
  by_cases c : wk 0 = 3
  · rw [if_pos c]
    exact bI_of b.2.1 (by decide)
  · rw [if_neg c]
    exact ⟨rfl, by decide, by decide⟩
theorem air_b (b : RnB rn) : -9 ≤ (lyA rn rd u).toInt ∧ (lyA rn rd u).toInt ≤ 9 := by
  have h := b.2.2.2.1
  have h1 := h.1
  have h2 := h.2
  unfold lyA airOf
  by_cases c : lyO rn rd u = 0
  · rw [if_pos c]
    omega
  · rw [if_neg c]
    by_cases d : lyO rn rd u = 2
    · rw [if_pos d]
      have e : (-rn 3).toInt = -(rn 3).toInt := by
        rw [Int32.toInt_neg, Int.bmod_eq_of_le (by omega) (by omega)]
      omega
    · rw [if_neg d]
      decide
theorem off_b (b : RnB rn) (h1 : 1 ≤ v.toInt) (h2 : v.toInt ≤ 9) : (v - lyA rn rd u).toInt = iA rn rd u v ∧ (lyA rn rd u - v).toInt = -iA rn rd u v ∧ -8 ≤ iA rn rd u v ∧ iA rn rd u v ≤ 18 := by
  have a := air_b (rd := rd) (u := u) b
  unfold iA
  refine ⟨?_, ?_, by omega, by omega⟩
  · rw [Int32.toInt_sub, Int.bmod_eq_of_le (by omega) (by omega)]
  · rw [Int32.toInt_sub, Int.bmod_eq_of_le (by omega) (by omega)]
    omega
theorem len_b (b : RoB rd) : bI (rd 3 - rd 4) ((rd 3).toInt - (rd 4).toInt) 60 := by
  obtain ⟨-, -, -, b3, b4, b5⟩ := b
  have := b3.1
  have := b3.2
  refine ⟨?_, by omega, by omega⟩
  rw [Int32.toInt_sub, Int.bmod_eq_of_le (by omega) (by omega)]
theorem q_b (h1 : 1 ≤ v.toInt) (h2 : v.toInt ≤ 9) : bI ((2520 : Int32) / v) ((2520 : Int32) / v).toInt 2520 := ⟨rfl, by have := q_v h1 h2; omega, (q_v h1 h2).2⟩
theorem T_b (b : RoB rd) (h1 : 1 ≤ v.toInt) (h2 : v.toInt ≤ 9) : bJ (lyT rd v) (iT rd v) 151200 := bJ_mul (bJ_of (len_b b)) (bJ_of (q_b h1 h2)) (by decide)
theorem F_b (a : RnB rn) (b : RoB rd) (h1 : 1 ≤ v.toInt) (h2 : v.toInt ≤ 9) : bJ (lyF rn rd v) (iD rn * iT rd v) 1360800 := bJ_mul (bJ_of (bI_of a.1 (by decide))) (T_b b h1 h2) (by decide)
theorem T_pos (b : RoB rd) (h1 : 1 ≤ v.toInt) (h2 : v.toInt ≤ 9) : (0 < iT rd v ↔ (rd 4).toInt < (rd 3).toInt) ∧ 0 ≤ iT rd v := by
  have q := q_v h1 h2
  have := b.2.2.2.2.2
  refine ⟨⟨fun z => ?_, fun z => ?_⟩, (T_b b h1 h2).2.1⟩
  · by_cases c : (rd 4).toInt < (rd 3).toInt
    · exact c
    · have e : (rd 3).toInt - (rd 4).toInt = 0 := by omega
      unfold iT at z
      rw [e, Int.zero_mul] at z
      omega
  · exact Int.mul_pos (by omega) (by omega)
/-- the strengths -/
theorem ly_b (a : RnB rn) (b : RoB rd) (h1 : 1 ≤ v.toInt) (h2 : v.toInt ≤ 9) : bJ (lyS rn rd u v 0) (iD rn * iT rd v * (rn 1).toInt) 24494400 ∧ bJ (lyS rn rd u v 1) (iD rn * iT rd v * max (iA rn rd u v) 0) 24494400 ∧ bJ (lyS rn rd u v 2) (iD rn * iT rd v * max (-iA rn rd u v) 0) 24494400 ∧ bJ (lyS rn rd u v 3) (iD rn * iT rd v * (if lyO rn rd u = 1 then (rn 3).toInt else 0)) 24494400 ∧ bJ (lyS rn rd u v 4) (iD rn * iT rd v * (if lyO rn rd u = 3 then (rn 3).toInt else 0)) 24494400 := by
  have F := F_b a b h1 h2
  obtain ⟨e1, e2, e3, e4⟩ := off_b (rd := rd) (u := u) a h1 h2
  have w1 : ∀ {z : Int32} {k B : Int}, B ≤ 18 → bI z k B → bJ (lyF rn rd v * z.toInt64) (iD rn * iT rd v * k) 24494400 := fun {z k B} hB h => bJ_mul F (bJ_of ⟨h.1, h.2.1, Int.le_trans h.2.2 hB⟩) (by decide)
  have dr : ∀ j : Int32, bJ (if lyO rn rd u = j then lyF rn rd v * (rn 3).toInt64 else 0) (iD rn * iT rd v * (if lyO rn rd u = j then (rn 3).toInt else 0)) 24494400 := fun j => by
    by_cases c : lyO rn rd u = j
    · rw [if_pos c, if_pos c]
      exact w1 (by decide) (bI_of a.2.2.2.1 (by decide))
    · rw [if_neg c, if_neg c, Int.mul_zero]
      exact ⟨by decide, by decide, by decide⟩
  exact ⟨w1 (by decide) (bI_of a.2.1 (by decide)), w1 (by decide) (bI_mx e1 e4 (by decide)), w1 (B := 8) (by decide) (bI_mx (B := 8) e2 (by omega) (by decide)), dr 1, dr 3⟩
theorem fwJ_iff (a : RnB rn) (b : RoB rd) (w : WkB wk) (h1 : 1 ≤ v.toInt) (h2 : v.toInt ≤ 9) : fwJ (lyS rn rd u v) wk ↔ iFw rn rd wk u v := by
  obtain ⟨s0, s1, -⟩ := ly_b (u := u) a b h1 h2
  have sh := sh_b w
  have m1 := bJ_mul s1 (bJ_of (bI_mn (bI_of w.2.2.2.1 (by decide)) sh)) (by decide)
  have m0 := bJ_mul s0 (bJ_of (bI_mn (bI_of w.2.2.1 (by decide)) sh)) (by decide)
  obtain ⟨tp, t0⟩ := T_pos b h1 h2
  have e1 : iD rn * iT rd v * max (iA rn rd u v) 0 * min (wk 3).toInt (iS wk) = iT rd v * (iD rn * max (iA rn rd u v) 0 * min (wk 3).toInt (iS wk)) := by ac_rfl
  have e0 : iD rn * iT rd v * (rn 1).toInt * min (wk 2).toInt (iS wk) = iT rd v * (iD rn * (rn 1).toInt * min (wk 2).toInt (iS wk)) := by ac_rfl
  unfold fwJ
  rw [lgc, m1.1, m0.1, e1, e0]
  have d0 : 0 ≤ iD rn := a.1.1
  have y0 : 0 ≤ iD rn * (rn 1).toInt * min (wk 2).toInt (iS wk) := Int.mul_nonneg (Int.mul_nonneg d0 (by have := a.2.1.1; omega)) (by have := w.2.2.1.1; have := sh.2.1; omega)
  constructor
  · intro h
    have tpos : 0 < iT rd v := by
      rcases Int.lt_or_eq_of_le t0 with z | z
      · exact z
      · rw [← z, Int.zero_mul, Int.zero_mul] at h
        omega
    have h := Int.lt_of_mul_lt_mul_left h t0
    have ap : 0 < iA rn rd u v := by
      by_cases c : 0 < iA rn rd u v
      · exact c
      · have e : max (iA rn rd u v) 0 = 0 := by omega
        rw [e, Int.mul_zero, Int.zero_mul] at h
        omega
    have e : max (iA rn rd u v) 0 = iA rn rd u v := by omega
    rw [e] at h
    exact ⟨tp.mp tpos, ap, h⟩
  · rintro ⟨p1, p2, p3⟩
    have e : max (iA rn rd u v) 0 = iA rn rd u v := by omega
    rw [e]
    exact Int.mul_lt_mul_of_pos_left p3 (tp.mpr p1)
theorem fwM_iff (a : RnB rn) (b : RoB rd) (w : WkB wk) (h1 : 1 ≤ v.toInt) (h2 : v.toInt ≤ 9) : fwM rn rd wk u v ↔ iFw rn rd wk u v := by
  have e0 : (0 : Int32).toInt = 0 := by decide
  obtain ⟨e1, -, -, e4⟩ := off_b (rd := rd) (u := u) a h1 h2
  have sh := sh_b w
  have rr : bI (rn 0) (iD rn) 9 := bI_of a.1 (by decide)
  have m0 := bI_mul (bI_mul rr (bI_of a.2.1 (by decide)) (by decide)) (bI_mm (bI_of w.2.2.1 (by decide)) sh) (by decide)
  have key : ∀ h : 0 < iA rn rd u v, (rn 0 * (v - lyA rn rd u) * mm2 (wk 3) (shO wk)).toInt = iD rn * iA rn rd u v * min (wk 3).toInt (iS wk) := fun h =>
    (bI_mul (bI_mul rr (⟨e1, by omega, e4⟩ : bI _ _ 18) (by decide)) (bI_mm (bI_of w.2.2.2.1 (by decide)) sh) (by decide)).1
  constructor
  · rintro ⟨p1, p2, p3⟩
    have q1 := nle_i p1
    have q2 := nle_i p2
    have q3 := nle_i p3
    rw [e1, e0] at q2
    rw [key q2, m0.1] at q3
    exact ⟨q1, q2, q3⟩
  · rintro ⟨p1, p2, p3⟩
    refine ⟨fun z => ?_, fun z => ?_, fun z => ?_⟩
    · have := le_i z
      omega
    · have := le_i z
      omega
    · have := le_i z
      rw [key p2, m0.1] at this
      omega
end C29b
/-! legs: the faces of both sides are the same -/
section C30
variable {rn rd wk : Nat → Int32} {u v x y : Int32} {ix iy : Int}
theorem dc_bI {P P' : Prop} (hP : P ↔ P') {x y : Int32} {a b B : Int} (h : bI x a B) (g : bI y b B) : bI (dc P x y) (dc P' a b) B := by
  by_cases c : P
  · rw [dc_y c, dc_y (hP.mp c)]
    exact h
  · rw [dc_n c, dc_n (fun z => c (hP.mpr z))]
    exact g
theorem z_bI : bI 0 0 999 := ⟨by decide, by decide, by decide⟩
theorem mx_sub {p q r : Int32} {a b c : Int} (h : bI p a 153) (g : bI q b 999) (k : bI r c 999) : bI (mx0 (p - q)) (max (a - b) 0) 153 ∧ bI (mx0 (p - q - r)) (max (a - b - c) 0) 153 := by
  have e := bI_sub h g (by decide) (by decide)
  refine ⟨bI_mx e (by have := h.2.2; have := g.2.1; omega) (by decide), ?_⟩
  have e2 : (p - q - r).toInt = a - b - c := by
    have := h.2; have := g.2; have := k.2
    rw [Int32.toInt_sub, e, k.1, Int.bmod_eq_of_le (by omega) (by omega)]
  exact bI_mx e2 (by have := h.2.2; have := g.2.1; have := k.2.1; omega) (by decide)
theorem wt_b (a : RnB rn) (b : RoB rd) (w : WkB wk) (h1 : 1 ≤ v.toInt) (h2 : v.toInt ≤ 9) (hx : bI x ix 999) (hy : bI y iy 999) (k : Nat) (hk : k < 5) : bJ (wtJ wk rd rn u v x y k) (iE rn rd wk u v ix iy k * iT rd v) 3747643200 := by
  obtain ⟨s0, s1, s2, s3, s4⟩ := ly_b (u := u) a b h1 h2
  have sh := sh_b w
  have fw := fwJ_iff (u := u) a b w h1 h2
  have wd : ∀ {p : Int32} {n : Int}, bI p n 81 → bI p n 153 := fun h => ⟨h.1, h.2.1, by have := h.2.2; omega⟩
  have sw : ∀ d t p q : Int, d * t * p * q = d * p * q * t := fun d t p q => by ac_rfl
  match k, hk with
  | 0, _ =>
    show bJ (lyS rn rd u v 0 * (mx0 (wk 2 - dc (fwJ (lyS rn rd u v) wk) 0 (shO wk))).toInt64) (iD rn * (rn 1).toInt * max ((wk 2).toInt - dc (iFw rn rd wk u v) 0 (iS wk)) 0 * iT rd v) _
    rw [← sw]
    exact bJ_mul s0 (bJ_of (mx_sub (bI_of w.2.2.1 (by decide)) (dc_bI fw z_bI sh) z_bI).1) (by decide)
  | 1, _ =>
    show bJ (lyS rn rd u v 1 * (mx0 (wk 3 - dc (fwJ (lyS rn rd u v) wk) (shO wk) 0 - x)).toInt64) (iD rn * max (iA rn rd u v) 0 * max ((wk 3).toInt - dc (iFw rn rd wk u v) (iS wk) 0 - ix) 0 * iT rd v) _
    rw [← sw]
    exact bJ_mul s1 (bJ_of (mx_sub (wd (bI_of w.2.2.2.1 (by decide))) (dc_bI fw sh z_bI) hx).2) (by decide)
  | 2, _ =>
    show bJ (lyS rn rd u v 2 * (mx0 (wk 3 - y)).toInt64) (iD rn * max (-iA rn rd u v) 0 * max ((wk 3).toInt - iy) 0 * iT rd v) _
    rw [← sw]
    exact bJ_mul s2 (bJ_of (mx_sub (wd (bI_of w.2.2.2.1 (by decide))) hy z_bI).1) (by decide)
  | 3, _ =>
    show bJ (lyS rn rd u v 3 * (wk 4).toInt64) (iD rn * (if lyO rn rd u = 1 then (rn 3).toInt else 0) * (wk 4).toInt * iT rd v) _
    rw [← sw]
    exact bJ_mul s3 (bJ_of (bI_of w.2.2.2.2.1 (by decide))) (by decide)
  | 4, _ =>
    show bJ (lyS rn rd u v 4 * (wk 4).toInt64) (iD rn * (if lyO rn rd u = 3 then (rn 3).toInt else 0) * (wk 4).toInt * iT rd v) _
    rw [← sw]
    exact bJ_mul s4 (bJ_of (bI_of w.2.2.2.2.1 (by decide))) (by decide)
  | k + 5, hk => exact absurd hk (by omega)
theorem neg_i {z : Int32} (h : -1000 ≤ z.toInt) : (-z).toInt = -z.toInt := by
  have := z.toInt_lt
  rw [Int32.toInt_neg, Int.bmod_eq_of_le (by omega) (by omega)]
theorem ac_b (a : RnB rn) : ((lyC rn rd u).toInt = if lyO rn rd u = 1 then (rn 3).toInt else if lyO rn rd u = 3 then -(rn 3).toInt else 0) := by
  unfold lyC acO
  by_cases c : lyO rn rd u = 1
  · rw [if_pos c, if_pos c]
  · rw [if_neg c, if_neg c]
    by_cases d : lyO rn rd u = 3
    · rw [if_pos d, if_pos d]
      exact neg_i (by have := a.2.2.2.1.1; omega)
    · rw [if_neg d, if_neg d]
      decide
theorem it_b (a : RnB rn) (b : RoB rd) (w : WkB wk) (h1 : 1 ≤ v.toInt) (h2 : v.toInt ≤ 9) (hx : bI x ix 999) (hy : bI y iy 999) (k : Nat) (hk : k < 5) : bI (itM rn rd wk u v x y k) (iE rn rd wk u v ix iy k) 24786 := by
  have e0 : (0 : Int32).toInt = 0 := by decide
  obtain ⟨e1, -, e3, e4⟩ := off_b (rd := rd) (u := u) a h1 h2
  have sh := sh_b w
  have fw := fwM_iff (u := u) a b w h1 h2
  have rr : bI (rn 0) (iD rn) 9 := bI_of a.1 (by decide)
  have wd : ∀ {p : Int32} {n : Int}, bI p n 81 → bI p n 153 := fun h => ⟨h.1, h.2.1, by have := h.2.2; omega⟩
  have w18 : ∀ {p : Int32} {n B : Int}, B ≤ 18 → bI p n B → bI p n 18 := fun hB h => ⟨h.1, h.2.1, Int.le_trans h.2.2 hB⟩
  have wi := a.2.2.2.1
  have ac := ac_b (rd := rd) (u := u) a
  have m3 : ∀ {p q : Int32} {n t : Int}, bI p n 18 → bI q t 153 → bI (rn 0 * p * q) (iD rn * n * t) 24786 := fun h g => bI_mul (bI_mul rr h (by decide)) g (by decide)
  have zz : ∀ n t : Int, n = 0 → bI 0 (iD rn * n * t) 24786 := fun n t z => by
    rw [z, Int.mul_zero, Int.zero_mul]
    exact ⟨by decide, by decide, by decide⟩
  match k, hk with
  | 0, _ => exact m3 (w18 (by decide) (bI_of a.2.1 (by decide))) (bI_ls (bI_of w.2.2.1 (by decide)) (dc_bI fw z_bI sh) (by decide) (by decide))
  | 1, _ =>
    show bI (if v - lyA rn rd u ≤ 0 then 0 else rn 0 * (v - lyA rn rd u) * ls2 (ls2 (wk 3) (dc (fwM rn rd wk u v) (shO wk) 0)) x) (iD rn * max (iA rn rd u v) 0 * max ((wk 3).toInt - dc (iFw rn rd wk u v) (iS wk) 0 - ix) 0) _
    by_cases c : v - lyA rn rd u ≤ 0
    · rw [if_pos c]
      have := le_i c
      exact zz _ _ (by omega)
    · rw [if_neg c]
      have := nle_i c
      have l1 := bI_ls (wd (bI_of w.2.2.2.1 (by decide))) (dc_bI fw sh z_bI) (by decide) (by decide)
      have l2 := bI_ls l1 hx (by decide) (by decide)
      have hx0 := hx.2.1
      have eq : max (max ((wk 3).toInt - dc (iFw rn rd wk u v) (iS wk) 0) 0 - ix) 0 = max ((wk 3).toInt - dc (iFw rn rd wk u v) (iS wk) 0 - ix) 0 := by omega
      rw [eq] at l2
      exact m3 ⟨by omega, by omega, by omega⟩ l2
  | 2, _ =>
    show bI (if 0 ≤ v - lyA rn rd u then 0 else rn 0 * (-(v - lyA rn rd u)) * ls2 (wk 3) y) (iD rn * max (-iA rn rd u v) 0 * max ((wk 3).toInt - iy) 0) _
    by_cases c : 0 ≤ v - lyA rn rd u
    · rw [if_pos c]
      have := le_i c
      exact zz _ _ (by omega)
    · rw [if_neg c]
      have := nle_i c
      have ne := neg_i (z := v - lyA rn rd u) (by omega)
      exact m3 ⟨by omega, by omega, by omega⟩ (bI_ls (wd (bI_of w.2.2.2.1 (by decide))) hy (by decide) (by decide))
  | 3, _ =>
    show bI (if lyC rn rd u ≤ 0 then 0 else rn 0 * lyC rn rd u * wk 4) (iD rn * (if lyO rn rd u = 1 then (rn 3).toInt else 0) * (wk 4).toInt) _
    have w0 := wi.1
    have w9 := wi.2
    by_cases c : lyC rn rd u ≤ 0
    · rw [if_pos c]
      have := le_i c
      refine zz _ _ ?_
      by_cases d : lyO rn rd u = 1
      · rw [if_pos d] at ac ⊢
        omega
      · rw [if_neg d]
    · rw [if_neg c]
      have := nle_i c
      by_cases d : lyO rn rd u = 1
      · rw [if_pos d] at ac ⊢
        exact m3 ⟨ac, by omega, by omega⟩ (bI_of w.2.2.2.2.1 (by decide))
      · rw [if_neg d] at ac
        by_cases f : lyO rn rd u = 3
        · rw [if_pos f] at ac
          omega
        · rw [if_neg f] at ac
          omega
  | 4, _ =>
    show bI (if 0 ≤ lyC rn rd u then 0 else rn 0 * (-lyC rn rd u) * wk 4) (iD rn * (if lyO rn rd u = 3 then (rn 3).toInt else 0) * (wk 4).toInt) _
    have w0 := wi.1
    have w9 := wi.2
    have d13 : lyO rn rd u = 3 → ¬ lyO rn rd u = 1 := fun z y => absurd (z.symm.trans y) (by decide)
    by_cases c : 0 ≤ lyC rn rd u
    · rw [if_pos c]
      have := le_i c
      refine zz _ _ ?_
      by_cases d : lyO rn rd u = 3
      · rw [if_neg (d13 d), if_pos d] at ac
        rw [if_pos d]
        omega
      · rw [if_neg d]
    · rw [if_neg c]
      have := nle_i c
      by_cases d : lyO rn rd u = 3
      · rw [if_neg (d13 d), if_pos d] at ac
        rw [if_pos d]
        have ne := neg_i (z := lyC rn rd u) (by omega)
        exact m3 ⟨by omega, by omega, by omega⟩ (bI_of w.2.2.2.2.1 (by decide))
      · rw [if_neg d] at ac
        by_cases f : lyO rn rd u = 1
        · rw [if_pos f] at ac
          omega
        · rw [if_neg f] at ac
          omega
  | k + 5, hk => exact absurd hk (by omega)
theorem pt_b (a : RnB rn) (b : RoB rd) (w : WkB wk) (h1 : 1 ≤ v.toInt) (h2 : v.toInt ≤ 9) (k : Nat) (hk : k < 5) : bJ (ptM rn rd wk u v k) (iE rn rd wk u v 0 0 k * iT rd v) 3747643200 := by
  have z := bJ_mul (bJ_mul (bJ_of (it_b (u := u) a b w h1 h2 z_bI z_bI k hk)) (bJ_of (len_b b)) (by decide)) (bJ_of (q_b h1 h2)) (by decide)
  refine ⟨?_, (wt_b (u := u) a b w h1 h2 z_bI z_bI k hk).2⟩
  have e := z.1
  rw [Int.mul_assoc] at e
  exact e
/-- the class's faces are the reference's -/
theorem wt_pt (a : RnB rn) (b : RoB rd) (w : WkB wk) (h1 : 1 ≤ v.toInt) (h2 : v.toInt ≤ 9) (k : Nat) (hk : k < 5) : wtJ wk rd rn u v 0 0 k = ptM rn rd wk u v k := Int64.toInt_inj.mp ((wt_b a b w h1 h2 z_bI z_bI k hk).1.trans (pt_b a b w h1 h2 k hk).1.symm)
theorem bJ_add {x y : Int64} {a b B C : Int} (h : bJ x a B) (g : bJ y b C) (hB : B + C ≤ 4611686018427387904) : bJ (x + y) (a + b) (B + C) := by
  obtain ⟨h1, h2, h3⟩ := h
  obtain ⟨g1, g2, g3⟩ := g
  refine ⟨?_, by omega, by omega⟩
  rw [Int64.toInt_add, h1, g1, Int.bmod_eq_of_le (by omega) (by omega)]
theorem wet_eq (a : RnB rn) (b : RoB rd) (w : WkB wk) (h1 : 1 ≤ v.toInt) (h2 : v.toInt ≤ 9) : sumJ (wtJ wk rd rn u v 0 0) = psum (ptM rn rd wk u v) 5 ∧ ∃ n, bJ (psum (ptM rn rd wk u v) 5) n 18738216000 := by
  have p := fun k hk => pt_b (u := u) a b w h1 h2 k hk
  refine ⟨?_, _, bJ_add (bJ_add (bJ_add (bJ_add (bJ_add (⟨by decide, by decide, by decide⟩ : bJ 0 0 0) (p 0 (by decide)) (by decide)) (p 1 (by decide)) (by decide)) (p 2 (by decide)) (by decide)) (p 3 (by decide)) (by decide)) (p 4 (by decide)) (by decide)⟩
  unfold sumJ
  rw [wt_pt a b w h1 h2 0 (by decide), wt_pt a b w h1 h2 1 (by decide), wt_pt a b w h1 h2 2 (by decide), wt_pt a b w h1 h2 3 (by decide), wt_pt a b w h1 h2 4 (by decide)]
  show _ = 0 + _ + _ + _ + _ + _
  rw [Int64.zero_add]
end C30
/-! told in lowest terms -/
def gcJ (a b : Int64) : Int64 := Int64.ofInt ((a.toInt.toNat.gcd b.toInt.toNat : Nat) : Int)
def tdJ (a b : Int64) (l : Int32) : Int64 := (if l = 0 then a else b) / gcJ a b
section C31
variable {S T : HS} {a b d : Int64} {n k m : Nat} {l : Int32} {Q : Int64 → HS → Prop}
theorem rem_n (ha : a.toInt = (n : Int)) (hb : b.toInt = (k : Int)) (h : ¬ b = 0) : (a - a / b * b).toInt = ((n % k : Nat) : Int) := by
  have hb0 : b.toInt ≠ 0 := fun z => h (Int64.toInt_inj.mp (by simpa using z))
  have h1 : (a.toInt.tmod b.toInt).natAbs < b.toInt.natAbs := by
    rw [Int.natAbs_tmod]
    exact Nat.mod_lt _ (by omega)
  have l1 := b.le_toInt
  have l2 := b.toInt_lt
  have e : (a - a / b * b).toInt = a.toInt.tmod b.toInt := by
    rw [Int64.toInt_sub, Int64.toInt_mul, Int64.toInt_div, Int.bmod_mul_bmod, Int.sub_bmod_bmod, Int.mul_comm, ← Int.tmod_def]
    exact Int.bmod_eq_of_le (by omega) (by omega)
  rw [e, ha, hb]
  exact (Int.ofNat_tmod n k).symm
theorem lc0 {x : Int64} : lg_cmp x 0 = 0 ↔ x = 0 := by
  constructor
  · intro h
    unfold lg_cmp at h
    by_cases c : x > 0
    · rw [if_pos c] at h
      exact absurd h (by decide)
    · rw [if_neg c] at h
      by_cases e : x = 0
      · exact e
      · rw [if_neg e] at h
        exact absurd h (by decide)
  · intro h
    rw [h]
    decide
theorem gc_of (h : d.toInt = ((a.toInt.toNat.gcd b.toInt.toNat : Nat) : Int)) : d = gcJ a b := by
  unfold gcJ
  rw [← h, Int64.ofInt_toInt]
theorem nn_of (h : 0 ≤ a.toInt) : ∃ n : Nat, a.toInt = (n : Int) ∧ a.toInt.toNat = n := ⟨a.toInt.toNat, by omega, rfl⟩
theorem sp_X11_told {v0 : Nat} (ha : 0 ≤ a.toInt) (hb : 0 ≤ b.toInt) (h : P_X11_told v0 a b l Q S) : P_X11_told v0 a b l (fun x T => Q x T ∧ x = tdJ a b l) S := by
  delta P_X11_told P_X11_told_0
  obtain ⟨o1, h⟩ := h
  refine ⟨o1, ?_⟩
  refine cm_X11_good (sp_X11_good h) h (fun x S1 hp h g => ?_)
  have h := h g
  intro X hX
  refine h (fun v1 v3 v5 v6 v8 T => (v1 = a ∧ v3 = b ∧ v5 = l ∧ ∃ n k : Nat, v6.toInt = (n : Int) ∧ v8.toInt = (k : Int) ∧ n.gcd k = a.toInt.toNat.gcd b.toInt.toNat) → X v1 v3 v5 v6 v8 T) ?_ ⟨rfl, rfl, rfl, a.toInt.toNat, b.toInt.toNat, by omega, by omega, rfl⟩
  rintro v1 v3 v5 v6 v8 T h ⟨rfl, rfl, rfl, n, k, hn, hk, hg⟩
  apply hX
  refine ⟨fun c => ?_, fun c => ?_⟩
  · have h := h.1 c
    have z : v8 = 0 := lc0.mp c
    have k0 : k = 0 := by
      rw [z] at hk
      have : (0 : Int64).toInt = 0 := by decide
      omega
    have e : v6 = gcJ v1 v3 := gc_of (by rw [hn, ← hg, k0, Nat.gcd_zero_right])
    refine ⟨fun c1 => ⟨(h.1 c1).1, fun x ex => ⟨(h.1 c1).2 x ex, ?_⟩⟩, fun c1 => ⟨(h.2 c1).1, fun x ex => ⟨(h.2 c1).2 x ex, ?_⟩⟩⟩
    · unfold tdJ
      rw [if_pos c1, ex, e]
    · unfold tdJ
      rw [if_neg c1, ex, e]
  · have h := h.2 c
    refine ⟨h.1, fun x ex => ?_⟩
    have hr := rem_n hn hk h.1
    refine h.2 x ex ⟨rfl, rfl, rfl, k, n % k, hk, by rw [ex]; exact hr, ?_⟩
    rw [← hg, Nat.gcd_comm n k, Nat.gcd_rec k n, Nat.gcd_comm]
/-- no more than 200 steps -/
def gPot (i n k : Nat) : Prop := i = 0 ∨ (k < n ∧ (n + k) * 3 ^ (i - 1) ≤ 2 ^ (i - 1) * 18446744073709551616)
theorem gpot_end (h : gPot 200 n k) : False := by
  rcases h with h | ⟨h1, h2⟩
  · exact absurd h (by decide)
  · have e : (2 : Nat) ^ (200 - 1) * 18446744073709551616 < 3 ^ (200 - 1) := by decide
    have : 1 * 3 ^ (200 - 1) ≤ (n + k) * 3 ^ (200 - 1) := Nat.mul_le_mul_right _ (by omega)
    omega
theorem gpot_step {i : Nat} (hn : n < 9223372036854775808) (hk : k < 9223372036854775808) (h0 : 0 < k) (h : gPot i n k) : gPot (i + 1) k (n % k) := by
  refine Or.inr ⟨Nat.mod_lt _ h0, ?_⟩
  have r := Nat.mod_lt n h0
  rw [Nat.add_sub_cancel]
  rcases h with h | ⟨h1, h2⟩
  · rw [h]
    show (k + n % k) * 1 ≤ 1 * _
    omega
  · have dm := Nat.div_add_mod n k
    have dv : 1 ≤ n / k := (Nat.one_le_div_iff h0).mpr (Nat.le_of_lt h1)
    have km : k * 1 ≤ k * (n / k) := Nat.mul_le_mul_left _ dv
    have s : 3 * (k + n % k) ≤ 2 * (n + k) := by omega
    cases i with
    | zero => show (k + n % k) * 1 ≤ 1 * _; omega
    | succ j =>
      rw [Nat.add_sub_cancel] at h2
      have m1 : 3 * (k + n % k) * 3 ^ j ≤ 2 * (n + k) * 3 ^ j := Nat.mul_le_mul_right _ s
      have m2 : 2 * ((n + k) * 3 ^ j) ≤ 2 * (2 ^ j * 18446744073709551616) := Nat.mul_le_mul_left _ h2
      have e1 : (k + n % k) * 3 ^ (j + 1) = 3 * (k + n % k) * 3 ^ j := by rw [Nat.pow_succ]; ac_rfl
      have e2 : 2 ^ (j + 1) * 18446744073709551616 = 2 * (2 ^ j * 18446744073709551616) := by rw [Nat.pow_succ]; ac_rfl
      have e3 : 2 * (n + k) * 3 ^ j = 2 * ((n + k) * 3 ^ j) := Nat.mul_assoc _ _ _
      rw [e1, e2]
      omega
theorem sp_X9_commonDivisor (ha : 0 ≤ a.toInt) (hb : 0 ≤ b.toInt) (h : P_X9_commonDivisor a b Q S) : P_X9_commonDivisor a b (fun x T => Q x T ∧ S = T ∧ x.toInt = ((a.toInt.toNat.gcd b.toInt.toNat : Nat) : Int)) S := by
  delta P_X9_commonDivisor P_X9_commonDivisor_0
  intro X hX
  refine h (fun v4 v6 v8 T => (T = S ∧ ∃ n k i : Nat, i ≤ 200 ∧ v8 = nI i ∧ v4.toInt = (n : Int) ∧ v6.toInt = (k : Int) ∧ gPot i n k ∧ n.gcd k = a.toInt.toNat.gcd b.toInt.toNat) → X v4 v6 v8 T) ?_ ⟨rfl, a.toInt.toNat, b.toInt.toNat, 0, by decide, by decide, by omega, by omega, Or.inl rfl, rfl⟩
  rintro v4 v6 v8 T h ⟨rfl, n, k, i, hi, h8, hn, hk, hp, hg⟩
  apply hX
  have n2 : (200 : Int32).toInt = 200 := by decide
  have ni : v8.toInt = (i : Int) := by rw [h8, nI_i (by omega)]
  have l1 := v4.toInt_lt
  have l2 := v6.toInt_lt
  refine ⟨fun c => ?_, fun c => ?_⟩
  · have := le_i c
    have q : i = 200 := by omega
    rw [q] at hp
    exact absurd hp gpot_end
  have h := h.2 c
  have lt := nle_i c
  refine ⟨fun c1 => ⟨h.1 c1, rfl, ?_⟩, fun c1 => ?_⟩
  · have z : v6 = 0 := lc0.mp c1
    have k0 : k = 0 := by
      rw [z] at hk
      have : (0 : Int64).toInt = 0 := by decide
      omega
    rw [hn, ← hg, k0, Nat.gcd_zero_right]
  have h := h.2 c1
  refine ⟨h.1, fun x ex y ey => ?_⟩
  have hr := rem_n hn hk h.1
  have kp : 0 < k := by
    rcases Nat.eq_zero_or_pos k with z | z
    · exact absurd (Int64.toInt_inj.mp (by rw [hk, z]; rfl)) h.1
    · exact z
  refine h.2 x ex y ey ⟨rfl, k, n % k, i + 1, by omega, ?_, hk, by rw [ex]; exact hr, gpot_step (by omega) (by omega) kp hp, ?_⟩
  · rw [ey, h8]
    exact nI_add i 1
  · rw [← hg, Nat.gcd_comm n k, Nat.gcd_rec k n, Nat.gcd_comm]
theorem sp_X9_fraction (ha : 0 ≤ a.toInt) (hb : 0 < b.toInt) (h : P_X9_fraction a b l Q S) : P_X9_fraction a b l (fun x T => Q x T ∧ S = T ∧ x = tdJ a b l) S := by
  delta P_X9_fraction P_X9_fraction_0
  refine cm_X9_commonDivisor (sp_X9_commonDivisor ha (by omega) h) h (fun x S1 hp h g => ?_)
  have h := h g
  obtain ⟨-, hS, hx⟩ := hp
  subst hS
  have e : x = gcJ a b := gc_of hx
  have gp : 0 < a.toInt.toNat.gcd b.toInt.toNat := Nat.gcd_pos_of_pos_right _ (by omega)
  have c : 0 < lg_cmp x 0 := by
    have q : x > 0 := Int64.lt_iff_toInt_lt.mpr (by
      have : (0 : Int64).toInt = 0 := by decide
      omega)
    unfold lg_cmp
    rw [if_pos q]
    decide
  refine ⟨fun c => ?_, fun z => absurd c z⟩
  have h := h.1 c
  refine ⟨fun c1 => ⟨(h.1 c1).1, fun y ey => ⟨(h.1 c1).2 y ey, rfl, ?_⟩⟩, fun c1 => ⟨(h.2 c1).1, fun y ey => ⟨(h.2 c1).2 y ey, rfl, ?_⟩⟩⟩
  · unfold tdJ
    rw [if_pos c1, ey, e]
  · unfold tdJ
    rw [if_neg c1, ey, e]
end C31
/-! legs: rows told, and troubles -/
def trOK (A : AS) (v1 v2 v3 v4 : Int32) : Prop := (¬ v1 < 0 ∧ v1 < nI (aW A)) ∧ (¬ v2 < 0 ∧ v2 < nI (aR A)) ∧ (v3 = 0 ∨ v3 = 1) ∧ (¬ v4 < 0 ∧ v4 < nI (aHs A))
def spOK (G : GC) (v1 v5 : Int32) : Prop := ¬ (v5 < gWk G v1.toNatClampNeg 5 ∨ gWk G v1.toNatClampNeg 6 < v5)
noncomputable def trN (A : AS) (v1 v2 v3 v4 : Int32) : Int32 := dc (trOK A v1 v2 v3 v4) 0 1
noncomputable def lgN (A : AS) (G : GC) (v1 v2 v3 v4 v5 : Int32) : Int32 := dc (trOK A v1 v2 v3 v4) (dc (spOK G v1 v5) 0 2) 1
/-- the class's leg: its two rows are two -/
def LG (c l b0 b1 : Nat) (S : HS) : Prop := fR S c 4 = some l ∧ ob S l 1 ∧ fR S l 0 = some b0 ∧ fR S l 1 = some b1 ∧ b1 ≠ b0
section C32c
variable {rn rn' rd rd' wk wk' : Nat → Int32} {u v x y : Int32} {st : Nat → Int64}
theorem lyT_c (b : ∀ j, j < 5 → rd j = rd' j) : lyT rd v = lyT rd' v := by unfold lyT; rw [b 3 (by decide), b 4 (by decide)]
theorem lyF_c (a : ∀ j, j < 5 → rn j = rn' j) (b : ∀ j, j < 5 → rd j = rd' j) : lyF rn rd v = lyF rn' rd' v := by unfold lyF; rw [lyT_c b, a 0 (by decide)]
theorem lyO_c (a : ∀ j, j < 5 → rn j = rn' j) (b : ∀ j, j < 5 → rd j = rd' j) : lyO rn rd u = lyO rn' rd' u := by unfold lyO; rw [a 2 (by decide), b 2 (by decide)]
theorem lyA_c (a : ∀ j, j < 5 → rn j = rn' j) (b : ∀ j, j < 5 → rd j = rd' j) : lyA rn rd u = lyA rn' rd' u := by unfold lyA; rw [lyO_c a b, a 3 (by decide)]
theorem lyC_c (a : ∀ j, j < 5 → rn j = rn' j) (b : ∀ j, j < 5 → rd j = rd' j) : lyC rn rd u = lyC rn' rd' u := by unfold lyC; rw [lyO_c a b, a 3 (by decide)]
theorem lyS_c (a : ∀ j, j < 5 → rn j = rn' j) (b : ∀ j, j < 5 → rd j = rd' j) : lyS rn rd u v = lyS rn' rd' u v := by
  funext k
  have f := lyF_c (v := v) a b
  have p := lyO_c (u := u) a b
  have q := lyA_c (u := u) a b
  have a1 := a 1 (by decide)
  have a3 := a 3 (by decide)
  match k with
  | 0 => show lyF rn rd v * (rn 1).toInt64 = lyF rn' rd' v * (rn' 1).toInt64; rw [f, a1]
  | 1 => show lyF rn rd v * (mx0 (v - lyA rn rd u)).toInt64 = lyF rn' rd' v * (mx0 (v - lyA rn' rd' u)).toInt64; rw [f, q]
  | 2 => show lyF rn rd v * (mx0 (lyA rn rd u - v)).toInt64 = lyF rn' rd' v * (mx0 (lyA rn' rd' u - v)).toInt64; rw [f, q]
  | 3 => show (if lyO rn rd u = 1 then lyF rn rd v * (rn 3).toInt64 else 0) = (if lyO rn' rd' u = 1 then lyF rn' rd' v * (rn' 3).toInt64 else 0); rw [f, p, a3]
  | k + 4 => show (if lyO rn rd u = 3 then lyF rn rd v * (rn 3).toInt64 else 0) = (if lyO rn' rd' u = 3 then lyF rn' rd' v * (rn' 3).toInt64 else 0); rw [f, p, a3]
theorem shO_c (w : ∀ j, j < 7 → wk j = wk' j) : shO wk = shO wk' := by unfold shO; rw [w 0 (by decide), w 1 (by decide)]
theorem fwJ_c (w : ∀ j, j < 7 → wk j = wk' j) : fwJ st wk = fwJ st wk' := by unfold fwJ; rw [shO_c w, w 2 (by decide), w 3 (by decide)]
theorem skJ_c (w : ∀ j, j < 7 → wk j = wk' j) : skJ st wk x y = skJ st wk' x y := by
  funext k
  have f := fwJ_c (st := st) w
  have s := shO_c w
  have w2 := w 2 (by decide)
  have w3 := w 3 (by decide)
  have w4 := w 4 (by decide)
  match k with
  | 0 => show st 0 * (mx0 (wk 2 - dc (fwJ st wk) 0 (shO wk))).toInt64 = st 0 * (mx0 (wk' 2 - dc (fwJ st wk') 0 (shO wk'))).toInt64; rw [f, s, w2]
  | 1 => show st 1 * (mx0 (wk 3 - dc (fwJ st wk) (shO wk) 0 - x)).toInt64 = st 1 * (mx0 (wk' 3 - dc (fwJ st wk') (shO wk') 0 - x)).toInt64; rw [f, s, w3]
  | 2 => show st 2 * (mx0 (wk 3 - y)).toInt64 = st 2 * (mx0 (wk' 3 - y)).toInt64; rw [w3]
  | 3 => show st 3 * (wk 4).toInt64 = st 3 * (wk' 4).toInt64; rw [w4]
  | k + 4 => show st 4 * (wk 4).toInt64 = st 4 * (wk' 4).toInt64; rw [w4]
theorem wtJ_c (a : ∀ j, j < 5 → rn j = rn' j) (b : ∀ j, j < 5 → rd j = rd' j) (w : ∀ j, j < 7 → wk j = wk' j) : wtJ wk rd rn u v x y = wtJ wk' rd' rn' u v x y := by unfold wtJ; rw [skJ_c w, lyS_c a b]
theorem fwM_c (a : ∀ j, j < 5 → rn j = rn' j) (b : ∀ j, j < 5 → rd j = rd' j) (w : ∀ j, j < 7 → wk j = wk' j) : fwM rn rd wk u v = fwM rn' rd' wk' u v := by unfold fwM; rw [lyA_c a b, shO_c w, a 0 (by decide), a 1 (by decide), b 3 (by decide), b 4 (by decide), w 2 (by decide), w 3 (by decide)]
theorem itM_c (a : ∀ j, j < 5 → rn j = rn' j) (b : ∀ j, j < 5 → rd j = rd' j) (w : ∀ j, j < 7 → wk j = wk' j) : itM rn rd wk u v x y = itM rn' rd' wk' u v x y := by
  funext k
  have f := fwM_c (u := u) (v := v) a b w
  have s := shO_c w
  have q := lyA_c (u := u) a b
  have r := lyC_c (u := u) a b
  have a0 := a 0 (by decide)
  have a1 := a 1 (by decide)
  have w2 := w 2 (by decide)
  have w3 := w 3 (by decide)
  have w4 := w 4 (by decide)
  match k with
  | 0 => show rn 0 * rn 1 * ls2 (wk 2) (dc (fwM rn rd wk u v) 0 (shO wk)) = rn' 0 * rn' 1 * ls2 (wk' 2) (dc (fwM rn' rd' wk' u v) 0 (shO wk')); rw [f, s, a0, a1, w2]
  | 1 => show (if v - lyA rn rd u ≤ 0 then 0 else rn 0 * (v - lyA rn rd u) * ls2 (ls2 (wk 3) (dc (fwM rn rd wk u v) (shO wk) 0)) x) = (if v - lyA rn' rd' u ≤ 0 then 0 else rn' 0 * (v - lyA rn' rd' u) * ls2 (ls2 (wk' 3) (dc (fwM rn' rd' wk' u v) (shO wk') 0)) x); rw [f, s, q, a0, w3]
  | 2 => show (if 0 ≤ v - lyA rn rd u then 0 else rn 0 * (-(v - lyA rn rd u)) * ls2 (wk 3) y) = (if 0 ≤ v - lyA rn' rd' u then 0 else rn' 0 * (-(v - lyA rn' rd' u)) * ls2 (wk' 3) y); rw [q, a0, w3]
  | 3 => show (if lyC rn rd u ≤ 0 then 0 else rn 0 * lyC rn rd u * wk 4) = (if lyC rn' rd' u ≤ 0 then 0 else rn' 0 * lyC rn' rd' u * wk' 4); rw [r, a0, w4]
  | k + 4 => show (if 0 ≤ lyC rn rd u then 0 else rn 0 * (-lyC rn rd u) * wk 4) = (if 0 ≤ lyC rn' rd' u then 0 else rn' 0 * (-lyC rn' rd' u) * wk' 4); rw [r, a0, w4]
theorem ptM_c (a : ∀ j, j < 5 → rn j = rn' j) (b : ∀ j, j < 5 → rd j = rd' j) (w : ∀ j, j < 7 → wk j = wk' j) : ptM rn rd wk u v = ptM rn' rd' wk' u v := by
  funext k
  unfold ptM
  rw [itM_c a b w, b 3 (by decide), b 4 (by decide)]
end C32c
section C32
variable {c m w l b0 b1 a o rd : Nat} {A : AS} {G : GC} {S T : HS} {v1 v2 v3 v4 v5 z : Int32} {Q : Int32 → HS → Prop}

theorem wk_at (hI : IV S) (ow : ob S w 8) (oc : ob S c 9) (ct : CtB w A G S S) (ab : ABd A) (e : fR S w 9 = some a) (hv : v1.toNatClampNeg < aW A) (eo : fR S a v1.toNatClampNeg = some o) : ob S o 6 ∧ (∀ j, j < 7 → fI S o j = gWk G v1.toNatClampNeg j) ∧ ∀ j, j < 7 → fI (sI S c 9 z) o j = gWk G v1.toNatClampNeg j := by
  obtain ⟨o', e', h'⟩ := ct.2.2.2.1 a e v1.toNatClampNeg hv
  cases e'.symm.trans eo
  obtain ⟨ra, e2, -, -, k3⟩ := el_ex hI ow (q := (9, 6, 4)) (by decide)
  cases e2.symm.trans e
  have oo := k3 v1.toNatClampNeg o (by have := ab.2.2.2.2.1; show _ < 4; omega) eo
  refine ⟨oo, h', fun j hj => ?_⟩
  rw [row_o (T := sI S c 9 z) rfl (ob_ne oo oc (by decide))]
  exact h' j hj
theorem rd_at (hI : IV S) (ow : ob S w 8) (oc : ob S c 9) (ct : CtB w A G S S) (ab : ABd A) (e : fR S w 8 = some a) (hv : v1.toNatClampNeg < aR A) (eo : fR S a v1.toNatClampNeg = some o) : ob S o 5 ∧ (∀ j, j < 5 → fI S o j = gRd G v1.toNatClampNeg j) ∧ ∀ j, j < 5 → fI (sI S c 9 z) o j = gRd G v1.toNatClampNeg j := by
  obtain ⟨o', e', h'⟩ := ct.2.2.1 a e v1.toNatClampNeg hv
  cases e'.symm.trans eo
  obtain ⟨ra, e2, -, -, k3⟩ := el_ex hI ow (q := (8, 5, 12)) (by decide)
  cases e2.symm.trans e
  have oo := k3 v1.toNatClampNeg o (by have := ab.2.2.2.1; show _ < 12; omega) eo
  refine ⟨oo, h', fun j hj => ?_⟩
  rw [row_o (T := sI S c 9 z) rfl (ob_ne oo oc (by decide))]
  exact h' j hj
theorem rn_at (hI : IV S) (ow : ob S w 8) (oc : ob S c 9) (ct : CtB w A G S S) (ab : ABd A) (e : fR S w 6 = some a) (hv : v1.toNatClampNeg < aHs A) (eo : fR S a v1.toNatClampNeg = some o) : ob S o 3 ∧ (∀ j, j < 5 → fI S o j = gRn G v1.toNatClampNeg j) ∧ ∀ j, j < 5 → fI (sI S c 9 z) o j = gRn G v1.toNatClampNeg j := by
  obtain ⟨o', e', h'⟩ := ct.1 a e v1.toNatClampNeg hv
  cases e'.symm.trans eo
  obtain ⟨ra, e2, -, -, k3⟩ := el_ex hI ow (q := (6, 3, 6)) (by decide)
  cases e2.symm.trans e
  have oo := k3 v1.toNatClampNeg o (by have := ab.2.1; show _ < 6; omega) eo
  refine ⟨oo, h', fun j hj => ?_⟩
  rw [row_o (T := sI S c 9 z) rfl (ob_ne oo oc (by decide))]
  exact h' j hj
theorem sp_X9_tripTrouble {r w1 w2 : Nat} (hI : IV S) (J : CJ c r w1 w2 S) (hc : Cnt w1 A S) (ab : ABd A) (h : P_X9_tripTrouble c v1 v2 v3 v4 Q S) : P_X9_tripTrouble c v1 v2 v3 v4 (fun x T => Q x T ∧ S = T ∧ x = trN A v1 v2 v3 v4) S := by
  have o1 := J.2.2.2.2.2.1
  have no : ¬ trOK A v1 v2 v3 v4 → P_X9_tripTrouble_45 Q S → P_X9_tripTrouble_45 (fun x T => Q x T ∧ S = T ∧ x = trN A v1 v2 v3 v4) S := fun hn h => by
    delta P_X9_tripTrouble_45 P_X9_tripTrouble_46
    exact ⟨fun q => ⟨h.1 q, rfl, by unfold trN; rw [dc_n hn]⟩, fun q => absurd rfl q⟩
  delta P_X9_tripTrouble P_X9_tripTrouble_0
  obtain ⟨o2, h⟩ := h
  refine ⟨o2, ?_⟩
  obtain ⟨a1, e1, h⟩ := h
  refine ⟨a1, e1, ?_⟩
  cases J.1.symm.trans e1
  obtain ⟨o3, h⟩ := h
  refine ⟨o3, ?_⟩
  refine cm_X8_hasWalker (sp_X8_hasWalker hI o1 ab hc h) h (fun x4 S2 hp h g b => ?_)
  have h := h g b
  obtain ⟨-, hS, hx⟩ := hp
  subst hS
  refine ⟨fun c1 => no (fun z => an0 hx c1 z.1) (h.1 c1), fun c1 => ?_⟩
  have h := h.2 c1
  have hx := an1 hx c1
  obtain ⟨a6, e6, h⟩ := h
  refine ⟨a6, e6, ?_⟩
  cases J.1.symm.trans e6
  obtain ⟨o6, h⟩ := h
  refine ⟨o6, ?_⟩
  refine cm_X8_hasRoad (sp_X8_hasRoad hI o1 ab hc h) h (fun x9 S7 hp h g b => ?_)
  have h := h g b
  obtain ⟨-, hS, hx2⟩ := hp
  subst hS
  refine ⟨fun c2 => no (fun z => an0 hx2 c2 z.2.1) (h.1 c2), fun c2 => ?_⟩
  have h := h.2 c2
  have hx2 := an1 hx2 c2
  refine cm_X9_isWay (sp_X9_isWay h) h (fun x9 S7 hp h g b => ?_)
  have h := h g b
  obtain ⟨-, hS, hx3⟩ := hp
  subst hS
  refine ⟨fun c3 => no (fun z => an0 hx3 c3 z.2.2.1) (h.1 c3), fun c3 => ?_⟩
  have h := h.2 c3
  have hx3 := an1 hx3 c3
  obtain ⟨a12, e12, h⟩ := h
  refine ⟨a12, e12, ?_⟩
  cases J.1.symm.trans e12
  obtain ⟨o12, h⟩ := h
  refine ⟨o12, ?_⟩
  refine cm_X8_hasHour (sp_X8_hasHour hI o1 ab hc h) h (fun x15 S13 hp h g b => ?_)
  have h := h g b
  obtain ⟨-, hS, hx4⟩ := hp
  subst hS
  refine ⟨fun c4 => no (fun z => an0 hx4 c4 z.2.2.2) (h.1 c4), fun c4 => ?_⟩
  have h := h.2 c4
  have hx4 := an1 hx4 c4
  delta P_X9_tripTrouble_46
  exact ⟨fun q => absurd q (by decide), fun q => ⟨h.2 q, rfl, by unfold trN; rw [dc_y ⟨hx, hx2, hx3, hx4⟩]⟩⟩
theorem sp_X9_legTrouble {r w1 w2 : Nat} (hI : IV S) (J : CJ c r w1 w2 S) (hc : Cnt w1 A S) (ct : CtB w1 A G S S) (ab : ABd A) (gb : GBd A G) (h : P_X9_legTrouble c v1 v2 v3 v4 v5 Q S) : P_X9_legTrouble c v1 v2 v3 v4 v5 (fun x T => Q x T ∧ S = T ∧ x = lgN A G v1 v2 v3 v4 v5) S := by
  have o1 := J.2.2.2.2.2.1
  delta P_X9_legTrouble P_X9_legTrouble_0
  obtain ⟨o2, h⟩ := h
  refine ⟨o2, ?_⟩
  refine cm_X9_tripTrouble (sp_X9_tripTrouble hI J hc ab h) h (fun x3 S1 hp h g => ?_)
  have h := h g
  obtain ⟨-, hS, hx⟩ := hp
  subst hS
  refine ⟨fun c1 => ?_, fun c1 => ⟨h.2 c1, rfl, ?_⟩⟩
  · have h := h.1 c1
    have ok : trOK A v1 v2 v3 v4 := Classical.byContradiction (fun q => by
      rw [hx] at c1
      unfold trN at c1
      rw [dc_n q] at c1
      exact absurd c1 (by decide))
    obtain ⟨a5, e5, h⟩ := h
    refine ⟨a5, e5, ?_⟩
    cases J.1.symm.trans e5
    obtain ⟨o5, h⟩ := h
    refine ⟨o5, ?_⟩
    obtain ⟨a6, e6, h⟩ := h
    refine ⟨a6, e6, ?_⟩
    obtain ⟨o6, h⟩ := h
    refine ⟨o6, ?_⟩
    obtain ⟨o7, h⟩ := h
    refine ⟨o7, ?_⟩
    obtain ⟨a8, e8, h⟩ := h
    refine ⟨a8, e8, ?_⟩
    obtain ⟨o8, h⟩ := h
    refine ⟨o8, ?_⟩
    have hv1 := ix_lt (by have := ab.2.2.2.2.1; omega) ok.1
    obtain ⟨-, ho, -⟩ := wk_at (z := 0) hI o1 o2 ct ab e6 hv1 e8
    have hb := gb.2.2.2 _ hv1
    have w5 := ho 5 (by decide)
    have w6 := ho 6 (by decide)
    refine cm_X6_canGo (sp_X6_canGo (by rw [w5]; exact hb.2.2.2.2.2.1.1) (by rw [w6]; exact hb.2.2.2.2.2.2.2) h) h (fun x17 S15 hp h g b => ?_)
    have h := h g b
    obtain ⟨-, hS, hx3⟩ := hp
    subst hS
    rw [w5, w6] at hx3
    unfold lgN
    rw [dc_y ok]
    exact ⟨fun c2 => ⟨h.1 c2, rfl, by rw [dc_n (P := spOK G v1 v5) (an0 hx3 c2)]⟩, fun c2 => ⟨h.2 c2, rfl, by rw [dc_y (P := spOK G v1 v5) (an1 hx3 c2)]⟩⟩
  · unfold trN at hx
    unfold lgN
    by_cases ok : trOK A v1 v2 v3 v4
    · rw [dc_y ok] at hx
      exact absurd hx c1
    · rw [dc_n ok] at hx ⊢
      exact hx
theorem lgN_0 (h : lgN A G v1 v2 v3 v4 v5 = 0) : trOK A v1 v2 v3 v4 ∧ spOK G v1 v5 := by
  unfold lgN at h
  by_cases ok : trOK A v1 v2 v3 v4
  · rw [dc_y ok] at h
    by_cases ok2 : spOK G v1 v5
    · exact ⟨ok, ok2⟩
    · rw [dc_n ok2] at h
      exact absurd h (by decide)
  · rw [dc_n ok] at h
    exact absurd h (by decide)
theorem lgN_3 : lgN A G v1 v2 v3 v4 v5 = 0 ∨ lgN A G v1 v2 v3 v4 v5 = 1 ∨ lgN A G v1 v2 v3 v4 v5 = 2 := by
  unfold lgN
  by_cases ok : trOK A v1 v2 v3 v4
  · rw [dc_y ok]
    by_cases ok2 : spOK G v1 v5
    · rw [dc_y ok2]
      exact Or.inl rfl
    · rw [dc_n ok2]
      exact Or.inr (Or.inr rfl)
  · rw [dc_n ok]
    exact Or.inr (Or.inl rfl)
theorem sp_X9_refusedBy (h : P_X9_refusedBy c v1 Q S) : P_X9_refusedBy c v1 (fun x T => Q x T ∧ T = sI S c 9 v1 ∧ ans (¬ v1 = 0) x) S := by
  delta P_X9_refusedBy P_X9_refusedBy_0
  obtain ⟨o, h⟩ := h
  refine ⟨o, fun S1 e => ?_⟩
  have h := h S1 e
  exact ⟨fun q => ⟨h.1 q, e, Or.inr ⟨fun z => z q, rfl⟩⟩, fun q => ⟨h.2 q, e, Or.inl ⟨q, rfl⟩⟩⟩
theorem sp_X11_refuses (hm : (fR S m 3 = none ∧ A = A00) ∨ ∃ rd, WRm m rd A G S) (ab : ABd A) (hE : ∀ rd i, ob S rd 10 → 7 ≤ i → i ≤ 27 → ∃ b, fR S rd i = some b) (h : P_X11_refuses m v1 v2 v3 v4 v5 Q S) : P_X11_refuses m v1 v2 v3 v4 v5 (fun x T => Q x T ∧ S = T ∧ x = lgN A G v1 v2 v3 v4 v5) S := by
  have nt : ¬ trOK A v1 v2 v3 v4 → (1 : Int32) = lgN A G v1 v2 v3 v4 v5 := fun q => by
    unfold lgN
    rw [dc_n q]
  delta P_X11_refuses P_X11_refuses_0
  obtain ⟨o2, h⟩ := h
  refine ⟨o2, ?_⟩
  refine cm_X11_isWalker (sp_X11_isWalker hm h) h (fun x4 S2 hp h g b => ?_)
  have h := h g b
  obtain ⟨-, hS, hx⟩ := hp
  subst hS
  refine ⟨fun c1 => ⟨h.1 c1, rfl, nt (fun z => ?_)⟩, fun c1 => ?_⟩
  · rcases hm with ⟨n, hA⟩ | hm1
    · exact zero_n (by rw [hA]; rfl) z.1
    · exact an0 hx c1 ⟨hm1, z.1⟩
  have h := h.2 c1
  obtain ⟨⟨rd, hr⟩, hx⟩ := an1 hx c1
  refine cm_X11_isRoad (sp_X11_isRoad hm h) h (fun x8 S6 hp h g b => ?_)
  have h := h g b
  obtain ⟨-, hS, hx2⟩ := hp
  subst hS
  refine ⟨fun c2 => ⟨h.1 c2, rfl, nt (fun z => an0 hx2 c2 ⟨⟨rd, hr⟩, z.2.1⟩)⟩, fun c2 => ?_⟩
  have h := h.2 c2
  obtain ⟨-, hx2⟩ := an1 hx2 c2
  refine cm_X11_in (sp_X11_in h) h (fun x8 S6 hp h g b => ?_)
  have h := h g b
  obtain ⟨-, hS, hx3⟩ := hp
  subst hS
  refine ⟨fun c3 => ⟨h.1 c3, rfl, nt (fun z => an0 hx3 c3 (way_in.mpr z.2.2.1))⟩, fun c3 => ?_⟩
  have h := h.2 c3
  have hx3 := way_in.mp (an1 hx3 c3)
  refine cm_X11_isHour (sp_X11_isHour hm h) h (fun x12 S10 hp h g b => ?_)
  have h := h g b
  obtain ⟨-, hS, hx4⟩ := hp
  subst hS
  refine Iff.mp and_comm ⟨fun c4 => ⟨h.2 c4, rfl, nt (fun z => an0 hx4 c4 ⟨⟨rd, hr⟩, z.2.2.2⟩)⟩, fun c4 => ?_⟩
  have h := h.1 c4
  obtain ⟨-, hx4⟩ := an1 hx4 c4
  obtain ⟨b24, q24⟩ := hE rd 24 hr.2.1 (by decide) (by decide)
  obtain ⟨b25, q25⟩ := hE rd 25 hr.2.1 (by decide) (by decide)
  have hv1 := ix_lt (by have := ab.2.2.2.2.1; omega) hx
  have c24 : fI S b24 v1.toNatClampNeg = gWk G v1.toNatClampNeg 5 := hr.2.2.2.1 24 b24 (by decide) (by decide) q24 v1.toNatClampNeg hv1
  have c25 : fI S b25 v1.toNatClampNeg = gWk G v1.toNatClampNeg 6 := hr.2.2.2.1 25 b25 (by decide) (by decide) q25 v1.toNatClampNeg hv1
  refine cm_X11_isSpeed (sp_X11_isSpeed hr.1 q24 q25 h) h (fun x12 S10 hp h g b => ?_)
  have h := h g b
  obtain ⟨-, hS, hx5⟩ := hp
  subst hS
  rw [c24, c25] at hx5
  unfold lgN
  rw [dc_y ⟨hx, hx2, hx3, hx4⟩]
  exact ⟨fun q => ⟨h.1 q, rfl, by rw [dc_n (P := spOK G v1 v5) (an0 hx5 q)]⟩, fun q => ⟨h.2 q, rfl, by rw [dc_y (P := spOK G v1 v5) (an1 hx5 q)]⟩⟩
/-- the reference's rows are what was told -/
theorem m_rows (hE : ∀ i, 7 ≤ i → i ≤ 27 → ∃ b, fR S rd i = some b) (hr : WRm m rd A G S) (h1 : v1.toNatClampNeg < aW A) (h2 : v2.toNatClampNeg < aR A) (h4 : v4.toNatClampNeg < aHs A) : (∀ j, j < 5 → mRn S rd v4.toNatClampNeg j = gRn G v4.toNatClampNeg j) ∧ (∀ j, j < 5 → mRd S rd v2.toNatClampNeg j = gRd G v2.toNatClampNeg j) ∧ ∀ j, j < 7 → mWk S rd v1.toNatClampNeg j = gWk G v1.toNatClampNeg j := by
  refine ⟨fun j hj => ?_, fun j hj => ?_, fun j hj => ?_⟩
  · obtain ⟨b, e⟩ := hE (7 + j) (by omega) (by omega)
    rw [← mrn e]
    match j, hj with
    | 0, _ => exact hr.2.2.2.1 7 b (by decide) (by decide) e v4.toNatClampNeg h4
    | 1, _ => exact hr.2.2.2.1 8 b (by decide) (by decide) e v4.toNatClampNeg h4
    | 2, _ => exact hr.2.2.2.1 9 b (by decide) (by decide) e v4.toNatClampNeg h4
    | 3, _ => exact hr.2.2.2.1 10 b (by decide) (by decide) e v4.toNatClampNeg h4
    | 4, _ => exact hr.2.2.2.1 11 b (by decide) (by decide) e v4.toNatClampNeg h4
    | j + 5, hj => exact absurd hj (by omega)
  · obtain ⟨b, e⟩ := hE (13 + j) (by omega) (by omega)
    rw [← mrd e]
    match j, hj with
    | 0, _ => exact hr.2.2.2.1 13 b (by decide) (by decide) e v2.toNatClampNeg h2
    | 1, _ => exact hr.2.2.2.1 14 b (by decide) (by decide) e v2.toNatClampNeg h2
    | 2, _ => exact hr.2.2.2.1 15 b (by decide) (by decide) e v2.toNatClampNeg h2
    | 3, _ => exact hr.2.2.2.1 16 b (by decide) (by decide) e v2.toNatClampNeg h2
    | 4, _ => exact hr.2.2.2.1 17 b (by decide) (by decide) e v2.toNatClampNeg h2
    | j + 5, hj => exact absurd hj (by omega)
  · obtain ⟨b, e⟩ := hE (19 + j) (by omega) (by omega)
    rw [← mwk e]
    match j, hj with
    | 0, _ => exact hr.2.2.2.1 19 b (by decide) (by decide) e v1.toNatClampNeg h1
    | 1, _ => exact hr.2.2.2.1 20 b (by decide) (by decide) e v1.toNatClampNeg h1
    | 2, _ => exact hr.2.2.2.1 21 b (by decide) (by decide) e v1.toNatClampNeg h1
    | 3, _ => exact hr.2.2.2.1 22 b (by decide) (by decide) e v1.toNatClampNeg h1
    | 4, _ => exact hr.2.2.2.1 23 b (by decide) (by decide) e v1.toNatClampNeg h1
    | 5, _ => exact hr.2.2.2.1 24 b (by decide) (by decide) e v1.toNatClampNeg h1
    | 6, _ => exact hr.2.2.2.1 25 b (by decide) (by decide) e v1.toNatClampNeg h1
    | j + 7, hj => exact absurd hj (by omega)
end C32
end
section
/-! what face, wet, mean, held tell -/
noncomputable def gPt (G : GC) (v1 v2 v3 v4 v5 : Int32) : Nat → Int64 := ptM (gRn G v4.toNatClampNeg) (gRd G v2.toNatClampNeg) (gWk G v1.toNatClampNeg) v3 v5
noncomputable def gWet (G : GC) (v1 v2 v3 v4 v5 : Int32) : Int64 := psum (gPt G v1 v2 v3 v4 v5) 5
noncomputable def tellwet (A : AS) (G : GC) (v1 v2 v3 v4 v5 v6 : Int32) : Int64 := dc (lgN A G v1 v2 v3 v4 v5 = 0) (tdJ (gWet G v1 v2 v3 v4 v5) 2520 v6) (-1)
noncomputable def tellmean (A : AS) (G : GC) (v1 v2 v3 v4 v5 v6 : Int32) : Int64 := dc (lgN A G v1 v2 v3 v4 v5 = 0) (tdJ (gWet G v1 v2 v3 v4 v5 * (gRn G v4.toNatClampNeg 4).toInt64) 252000 v6) (-1)
def fcOK (v6 : Int32) : Prop := ¬ (v6 < 0 ∨ 4 < v6)
noncomputable def tellface (A : AS) (G : GC) (v1 v2 v3 v4 v5 v6 v7 : Int32) : Int64 := dc (fcOK v6 ∧ lgN A G v1 v2 v3 v4 v5 = 0) (tdJ (gPt G v1 v2 v3 v4 v5 v6.toNatClampNeg) 2520 v7) (-1)
noncomputable def tellheld (A : AS) (G : GC) (v1 v2 v3 v4 v5 : Int32) : Int32 := dc (lgN A G v1 v2 v3 v4 v5 = 0) (dc (gWk G v1.toNatClampNeg 0 = 3) (dc (fwM (gRn G v4.toNatClampNeg) (gRd G v2.toNatClampNeg) (gWk G v1.toNatClampNeg) v3 v5) 1 0) (-2)) (-1)
section C33
variable {c m : Nat} {A : AS} {G : GC} {S T : HS} {v1 v2 v3 v4 v5 v6 v7 : Int32} {Q : Int32 → HS → Prop} {QJ : Int64 → HS → Prop}
theorem ok_ix (ab : ABd A) (gb : GBd A G) (h : trOK A v1 v2 v3 v4) : v1.toNatClampNeg < aW A ∧ v2.toNatClampNeg < aR A ∧ v4.toNatClampNeg < aHs A ∧ RnB (gRn G v4.toNatClampNeg) ∧ RoB (gRd G v2.toNatClampNeg) ∧ WkB (gWk G v1.toNatClampNeg) := by
  have h1 := ix_lt (by have := ab.2.2.2.2.1; omega) h.1
  have h2 := ix_lt (by have := ab.2.2.2.1; omega) h.2.1
  have h4 := ix_lt (by have := ab.2.1; omega) h.2.2.2
  exact ⟨h1, h2, h4, gb.1 _ h4, gb.2.2.1 _ h2, gb.2.2.2 _ h1⟩
theorem ok_v (w : WkB (gWk G v1.toNatClampNeg)) (h : spOK G v1 v5) : 1 ≤ v5.toInt ∧ v5.toInt ≤ 9 ∧ ¬ v5 ≤ 0 := by
  have q1 := nlt_i (fun z => h (Or.inl z))
  have q2 := nlt_i (fun z => h (Or.inr z))
  have w5 := w.2.2.2.2.2.1.1
  have w6 := w.2.2.2.2.2.2.2
  refine ⟨by omega, by omega, fun z => ?_⟩
  have := le_i z
  have e0 : (0 : Int32).toInt = 0 := by decide
  omega
theorem fc_k (h : fcOK v6) : 0 ≤ v6.toInt ∧ v6.toInt ≤ 4 ∧ v6.toNatClampNeg < 5 := by
  have q1 := nlt_i (fun z => h (Or.inl z))
  have q2 := nlt_i (fun z => h (Or.inr z))
  have e0 : (0 : Int32).toInt = 0 := by decide
  have e4 : (4 : Int32).toInt = 4 := by decide
  refine ⟨by omega, by omega, ?_⟩
  show v6.toInt.toNat < 5
  omega
theorem sp_X9_isFace (h : P_X9_isFace v6 Q S) : P_X9_isFace v6 (fun x T => Q x T ∧ S = T ∧ ans (fcOK v6) x) S := by
  have e5 : (5 : Int32).toInt = 5 := by decide
  have e4 : (4 : Int32).toInt = 4 := by decide
  delta P_X9_isFace P_X9_isFace_0
  refine ⟨fun c1 => ⟨h.1 c1, rfl, Or.inr ⟨fun z => z (Or.inl c1), rfl⟩⟩, fun c1 => ⟨fun c2 => ⟨(h.2 c1).1 c2, rfl, Or.inr ⟨fun z => ?_, rfl⟩⟩, fun c2 => ⟨(h.2 c1).2 c2, rfl, Or.inl ⟨fun z => ?_, rfl⟩⟩⟩⟩
  · have := le_i c2
    have := nlt_i (fun q => z (Or.inr q))
    omega
  · rcases z with z | z
    · exact c1 z
    · have := lt_i z
      have := nle_i c2
      omega
theorem tl_X9_wet {r w1 w2 l b0 b1 : Nat} (hI : IV S) (J : CJ c r w1 w2 S) (hc : Cnt w1 A S) (ct : CtB w1 A G S S) (ab : ABd A) (gb : GBd A G) (lg : LG c l b0 b1 S) (h : P_X9_wet c v1 v2 v3 v4 v5 v6 QJ S) : P_X9_wet c v1 v2 v3 v4 v5 v6 (fun x T => QJ x T ∧ x = tellwet A G v1 v2 v3 v4 v5 v6) S := by
  have ow1 := J.2.2.2.2.2.1
  have oc := J.2.2.2.1
  unfold tellwet
  delta P_X9_wet P_X9_wet_0
  obtain ⟨o1, h⟩ := h
  refine ⟨o1, ?_⟩
  refine cm_X9_legTrouble (sp_X9_legTrouble hI J hc ct ab gb h) h (fun xt S1 hp h g => ?_)
  have h := h g
  obtain ⟨-, hS, ht⟩ := hp
  subst hS
  refine cm_X9_refusedBy (sp_X9_refusedBy h) h (fun xr S1 hp h g bq => ?_)
  have h := h g bq
  obtain ⟨-, hS, hr⟩ := hp
  subst hS
  refine Iff.mp and_comm ⟨fun cn => ⟨h.2 cn, ?_⟩, fun cn => ?_⟩
  · rw [dc_n (fun z => an1 hr cn (ht.trans z))]
  have h0 : lgN A G v1 v2 v3 v4 v5 = 0 := Classical.byContradiction (fun z => an0 hr cn (by rw [ht]; exact z))
  have h := h.1 cn
  rw [dc_y h0]
  rw [ht, h0] at h
  rw [ht, h0]
  obtain ⟨ok, sp⟩ := lgN_0 h0
  obtain ⟨i1, i2, i4, bn, bd, bw⟩ := ok_ix ab gb ok
  obtain ⟨s1, s9, sv⟩ := ok_v bw sp
  obtain ⟨a2, e2, h⟩ := h
  refine ⟨a2, e2, ?_⟩
  cases (lg.1).symm.trans e2
  obtain ⟨a3, e3, h⟩ := h
  refine ⟨a3, e3, ?_⟩
  cases (J.1).symm.trans e3
  obtain ⟨o4, h⟩ := h
  refine ⟨o4, ?_⟩
  obtain ⟨a5, e5, h⟩ := h
  refine ⟨a5, e5, ?_⟩
  obtain ⟨o6, h⟩ := h
  refine ⟨o6, ?_⟩
  obtain ⟨o7, h⟩ := h
  refine ⟨o7, ?_⟩
  obtain ⟨a8, e8, h⟩ := h
  refine ⟨a8, e8, ?_⟩
  obtain ⟨kwk, rwk, twk⟩ := wk_at (z := 0) hI ow1 oc ct ab e5 i1 e8
  obtain ⟨a9, e9, h⟩ := h
  refine ⟨a9, e9, ?_⟩
  cases (J.1).symm.trans e9
  obtain ⟨o10, h⟩ := h
  refine ⟨o10, ?_⟩
  obtain ⟨a11, e11, h⟩ := h
  refine ⟨a11, e11, ?_⟩
  obtain ⟨o12, h⟩ := h
  refine ⟨o12, ?_⟩
  obtain ⟨o13, h⟩ := h
  refine ⟨o13, ?_⟩
  obtain ⟨a14, e14, h⟩ := h
  refine ⟨a14, e14, ?_⟩
  obtain ⟨krd, rrd, trd⟩ := rd_at (z := 0) hI ow1 oc ct ab e11 i2 e14
  obtain ⟨a15, e15, h⟩ := h
  refine ⟨a15, e15, ?_⟩
  cases (J.1).symm.trans e15
  obtain ⟨o16, h⟩ := h
  refine ⟨o16, ?_⟩
  obtain ⟨a17, e17, h⟩ := h
  refine ⟨a17, e17, ?_⟩
  obtain ⟨o18, h⟩ := h
  refine ⟨o18, ?_⟩
  obtain ⟨o19, h⟩ := h
  refine ⟨o19, ?_⟩
  obtain ⟨a20, e20, h⟩ := h
  refine ⟨a20, e20, ?_⟩
  obtain ⟨krn, rrn, trn⟩ := rn_at (z := 0) hI ow1 oc ct ab e17 i4 e20
  obtain ⟨o21, h⟩ := h
  refine ⟨o21, ?_⟩
  have cg := wtJ_c (u := v3) (v := v5) (x := 0) (y := 0) trn trd twk
  refine cm_X1_wetOf (sp_X1_wetOf (S := sI S c 9 0) sv lg.2.2.1 lg.2.2.2.1 lg.2.2.2.2 h) h (fun zz S1 hp h g => ?_)
  have h := h g
  obtain ⟨-, ff, hS, -, hf, hz⟩ := hp
  subst hS
  rw [cg] at hz
  have we := wet_eq (u := v3) bn bd bw s1 s9
  rw [we.1] at hz
  replace hz : zz = gWet G v1 v2 v3 v4 v5 := hz
  obtain ⟨nb, we⟩ := we.2
  replace we : bJ (gWet G v1 v2 v3 v4 v5) nb 18738216000 := we
  rw [hz] at h
  rw [hz]
  exact cm_X9_fraction (sp_X9_fraction (by rw [we.1]; exact we.2.1) (by decide) h) h (fun x U hp h g => ⟨h g, hp.2.2⟩)
theorem tl_X9_mean {r w1 w2 l b0 b1 : Nat} (hI : IV S) (J : CJ c r w1 w2 S) (hc : Cnt w1 A S) (ct : CtB w1 A G S S) (ab : ABd A) (gb : GBd A G) (lg : LG c l b0 b1 S) (h : P_X9_mean c v1 v2 v3 v4 v5 v6 QJ S) : P_X9_mean c v1 v2 v3 v4 v5 v6 (fun x T => QJ x T ∧ x = tellmean A G v1 v2 v3 v4 v5 v6) S := by
  have ow1 := J.2.2.2.2.2.1
  have oc := J.2.2.2.1
  unfold tellmean
  delta P_X9_mean P_X9_mean_0
  obtain ⟨o22, h⟩ := h
  refine ⟨o22, ?_⟩
  refine cm_X9_legTrouble (sp_X9_legTrouble hI J hc ct ab gb h) h (fun xt S1 hp h g => ?_)
  have h := h g
  obtain ⟨-, hS, ht⟩ := hp
  subst hS
  refine cm_X9_refusedBy (sp_X9_refusedBy h) h (fun xr S1 hp h g bq => ?_)
  have h := h g bq
  obtain ⟨-, hS, hr⟩ := hp
  subst hS
  refine Iff.mp and_comm ⟨fun cn => ⟨h.2 cn, ?_⟩, fun cn => ?_⟩
  · rw [dc_n (fun z => an1 hr cn (ht.trans z))]
  have h0 : lgN A G v1 v2 v3 v4 v5 = 0 := Classical.byContradiction (fun z => an0 hr cn (by rw [ht]; exact z))
  have h := h.1 cn
  rw [dc_y h0]
  rw [ht, h0] at h
  rw [ht, h0]
  obtain ⟨ok, sp⟩ := lgN_0 h0
  obtain ⟨i1, i2, i4, bn, bd, bw⟩ := ok_ix ab gb ok
  obtain ⟨s1, s9, sv⟩ := ok_v bw sp
  obtain ⟨a23, e23, h⟩ := h
  refine ⟨a23, e23, ?_⟩
  cases (lg.1).symm.trans e23
  obtain ⟨a24, e24, h⟩ := h
  refine ⟨a24, e24, ?_⟩
  cases (J.1).symm.trans e24
  obtain ⟨o25, h⟩ := h
  refine ⟨o25, ?_⟩
  obtain ⟨a26, e26, h⟩ := h
  refine ⟨a26, e26, ?_⟩
  obtain ⟨o27, h⟩ := h
  refine ⟨o27, ?_⟩
  obtain ⟨o28, h⟩ := h
  refine ⟨o28, ?_⟩
  obtain ⟨a29, e29, h⟩ := h
  refine ⟨a29, e29, ?_⟩
  obtain ⟨kwk, rwk, twk⟩ := wk_at (z := 0) hI ow1 oc ct ab e26 i1 e29
  obtain ⟨a30, e30, h⟩ := h
  refine ⟨a30, e30, ?_⟩
  cases (J.1).symm.trans e30
  obtain ⟨o31, h⟩ := h
  refine ⟨o31, ?_⟩
  obtain ⟨a32, e32, h⟩ := h
  refine ⟨a32, e32, ?_⟩
  obtain ⟨o33, h⟩ := h
  refine ⟨o33, ?_⟩
  obtain ⟨o34, h⟩ := h
  refine ⟨o34, ?_⟩
  obtain ⟨a35, e35, h⟩ := h
  refine ⟨a35, e35, ?_⟩
  obtain ⟨krd, rrd, trd⟩ := rd_at (z := 0) hI ow1 oc ct ab e32 i2 e35
  obtain ⟨a36, e36, h⟩ := h
  refine ⟨a36, e36, ?_⟩
  cases (J.1).symm.trans e36
  obtain ⟨o37, h⟩ := h
  refine ⟨o37, ?_⟩
  obtain ⟨a38, e38, h⟩ := h
  refine ⟨a38, e38, ?_⟩
  obtain ⟨o39, h⟩ := h
  refine ⟨o39, ?_⟩
  obtain ⟨o40, h⟩ := h
  refine ⟨o40, ?_⟩
  obtain ⟨a41, e41, h⟩ := h
  refine ⟨a41, e41, ?_⟩
  obtain ⟨krn, rrn, trn⟩ := rn_at (z := 0) hI ow1 oc ct ab e38 i4 e41
  obtain ⟨o42, h⟩ := h
  refine ⟨o42, ?_⟩
  have cg := wtJ_c (u := v3) (v := v5) (x := 0) (y := 0) trn trd twk
  refine cm_X1_wetOf (sp_X1_wetOf (S := sI S c 9 0) sv lg.2.2.1 lg.2.2.2.1 lg.2.2.2.2 h) h (fun zz S1 hp h g => ?_)
  have h := h g
  obtain ⟨-, ff, hS, -, hf, hz⟩ := hp
  subst hS
  rw [cg] at hz
  have we := wet_eq (u := v3) bn bd bw s1 s9
  rw [we.1] at hz
  replace hz : zz = gWet G v1 v2 v3 v4 v5 := hz
  obtain ⟨nb, we⟩ := we.2
  replace we : bJ (gWet G v1 v2 v3 v4 v5) nb 18738216000 := we
  obtain ⟨a43, e43, h⟩ := h
  refine ⟨a43, e43, ?_⟩
  cases (J.1).symm.trans e43
  obtain ⟨o44, h⟩ := h
  refine ⟨o44, ?_⟩
  obtain ⟨a45, e45, h⟩ := h
  refine ⟨a45, e45, ?_⟩
  obtain ⟨o46, h⟩ := h
  refine ⟨o46, ?_⟩
  obtain ⟨o47, h⟩ := h
  refine ⟨o47, ?_⟩
  obtain ⟨a48, e48, h⟩ := h
  refine ⟨a48, e48, ?_⟩
  obtain ⟨-, -, tq⟩ := rn_at (z := 0) hI ow1 oc ct ab e45 i4 e48
  obtain ⟨o49, h⟩ := h
  refine ⟨o49, ?_⟩
  intro x50 q50
  have h := h x50 q50
  have eq : x50 = gRn G v4.toNatClampNeg 4 := q50.trans (tq 4 (by decide))
  rw [eq, hz] at h
  rw [eq, hz]
  have mb := bJ_mul we (bJ_of (bI_of bn.2.2.2.2 (by decide))) (by decide)
  exact cm_X9_fraction (sp_X9_fraction (by rw [mb.1]; exact mb.2.1) (by decide) h) h (fun x U hp h g => ⟨h g, hp.2.2⟩)
theorem tl_X9_face {r w1 w2 l b0 b1 : Nat} (hI : IV S) (J : CJ c r w1 w2 S) (hc : Cnt w1 A S) (ct : CtB w1 A G S S) (ab : ABd A) (gb : GBd A G) (lg : LG c l b0 b1 S) (h : P_X9_face c v1 v2 v3 v4 v5 v6 v7 QJ S) : P_X9_face c v1 v2 v3 v4 v5 v6 v7 (fun x T => QJ x T ∧ x = tellface A G v1 v2 v3 v4 v5 v6 v7) S := by
  have ow1 := J.2.2.2.2.2.1
  have oc := J.2.2.2.1
  unfold tellface
  delta P_X9_face P_X9_face_0 at h ⊢
  refine cm_X9_isFace (sp_X9_isFace h) h (fun xf S1 hp h g bq => ?_)
  have h := h g bq
  obtain ⟨-, hS, hf⟩ := hp
  subst hS
  refine ⟨fun c1 => ?_, fun c1 => ?_⟩
  · have h := h.1 c1
    delta P_X9_face_23
    obtain ⟨o51, h⟩ := h
    refine ⟨o51, ?_⟩
    refine cm_X9_refusedBy (sp_X9_refusedBy h) h (fun xr S1 hp h g bq => ?_)
    have h := h g bq
    obtain ⟨-, hS, hr⟩ := hp
    subst hS
    refine ⟨fun cn => absurd (by decide) (an0 hr cn), fun cn => ⟨h.2 cn, ?_⟩⟩
    rw [dc_n (fun z => an0 hf c1 z.1)]
  have h := h.2 c1
  have fc := an1 hf c1
  obtain ⟨o52, h⟩ := h
  refine ⟨o52, ?_⟩
  refine cm_X9_legTrouble (sp_X9_legTrouble hI J hc ct ab gb h) h (fun xt S1 hp h g => ?_)
  have h := h g
  obtain ⟨-, hS, ht⟩ := hp
  subst hS
  delta P_X9_face_23
  obtain ⟨o53, h⟩ := h
  refine ⟨o53, ?_⟩
  refine cm_X9_refusedBy (sp_X9_refusedBy h) h (fun xr S1 hp h g bq => ?_)
  have h := h g bq
  obtain ⟨-, hS, hr⟩ := hp
  subst hS
  refine Iff.mp and_comm ⟨fun cn => ⟨h.2 cn, ?_⟩, fun cn => ?_⟩
  · rw [dc_n (fun z => an1 hr cn (ht.trans z.2))]
  have h0 : lgN A G v1 v2 v3 v4 v5 = 0 := Classical.byContradiction (fun z => an0 hr cn (by rw [ht]; exact z))
  have h := h.1 cn
  rw [dc_y ⟨fc, h0⟩]
  rw [ht, h0] at h
  rw [ht, h0]
  obtain ⟨ok, sp⟩ := lgN_0 h0
  obtain ⟨i1, i2, i4, bn, bd, bw⟩ := ok_ix ab gb ok
  obtain ⟨s1, s9, sv⟩ := ok_v bw sp
  obtain ⟨a54, e54, h⟩ := h
  refine ⟨a54, e54, ?_⟩
  cases (lg.1).symm.trans e54
  obtain ⟨a55, e55, h⟩ := h
  refine ⟨a55, e55, ?_⟩
  cases (J.1).symm.trans e55
  obtain ⟨o56, h⟩ := h
  refine ⟨o56, ?_⟩
  obtain ⟨a57, e57, h⟩ := h
  refine ⟨a57, e57, ?_⟩
  obtain ⟨o58, h⟩ := h
  refine ⟨o58, ?_⟩
  obtain ⟨o59, h⟩ := h
  refine ⟨o59, ?_⟩
  obtain ⟨a60, e60, h⟩ := h
  refine ⟨a60, e60, ?_⟩
  obtain ⟨kwk, rwk, twk⟩ := wk_at (z := 0) hI ow1 oc ct ab e57 i1 e60
  obtain ⟨a61, e61, h⟩ := h
  refine ⟨a61, e61, ?_⟩
  cases (J.1).symm.trans e61
  obtain ⟨o62, h⟩ := h
  refine ⟨o62, ?_⟩
  obtain ⟨a63, e63, h⟩ := h
  refine ⟨a63, e63, ?_⟩
  obtain ⟨o64, h⟩ := h
  refine ⟨o64, ?_⟩
  obtain ⟨o65, h⟩ := h
  refine ⟨o65, ?_⟩
  obtain ⟨a66, e66, h⟩ := h
  refine ⟨a66, e66, ?_⟩
  obtain ⟨krd, rrd, trd⟩ := rd_at (z := 0) hI ow1 oc ct ab e63 i2 e66
  obtain ⟨a67, e67, h⟩ := h
  refine ⟨a67, e67, ?_⟩
  cases (J.1).symm.trans e67
  obtain ⟨o68, h⟩ := h
  refine ⟨o68, ?_⟩
  obtain ⟨a69, e69, h⟩ := h
  refine ⟨a69, e69, ?_⟩
  obtain ⟨o70, h⟩ := h
  refine ⟨o70, ?_⟩
  obtain ⟨o71, h⟩ := h
  refine ⟨o71, ?_⟩
  obtain ⟨a72, e72, h⟩ := h
  refine ⟨a72, e72, ?_⟩
  obtain ⟨krn, rrn, trn⟩ := rn_at (z := 0) hI ow1 oc ct ab e69 i4 e72
  obtain ⟨o73, h⟩ := h
  refine ⟨o73, ?_⟩
  have cg := wtJ_c (u := v3) (v := v5) (x := 0) (y := 0) trn trd twk
  refine cm_X1_wetOf (sp_X1_wetOf (S := sI S c 9 0) sv lg.2.2.1 lg.2.2.2.1 lg.2.2.2.2 h) h (fun zz S1 hp h g => ?_)
  have h := h g
  obtain ⟨-, ff, hS, -, hf, hz⟩ := hp
  subst hS
  rw [cg] at hz
  have we := wet_eq (u := v3) bn bd bw s1 s9
  rw [we.1] at hz
  replace hz : zz = gWet G v1 v2 v3 v4 v5 := hz
  obtain ⟨nb, we⟩ := we.2
  replace we : bJ (gWet G v1 v2 v3 v4 v5) nb 18738216000 := we
  obtain ⟨a74, e74, h⟩ := h
  refine ⟨a74, e74, ?_⟩
  cases (lg.1).symm.trans e74
  obtain ⟨o75, h⟩ := h
  refine ⟨o75, ?_⟩
  obtain ⟨a76, e76, h⟩ := h
  refine ⟨a76, e76, ?_⟩
  cases (lg.2.2.1).symm.trans e76
  obtain ⟨o77, h⟩ := h
  refine ⟨o77, ?_⟩
  obtain ⟨o78, h⟩ := h
  refine ⟨o78, ?_⟩
  intro x79 q79
  have h := h x79 q79
  obtain ⟨f0, f4, f5⟩ := fc_k fc
  have eq : x79 = gPt G v1 v2 v3 v4 v5 v6.toNatClampNeg := by
    have e2 := q79.trans (hf _ f5)
    rw [cg, wt_pt bn bd bw s1 s9 _ f5] at e2
    exact e2
  rw [eq] at h
  rw [eq]
  have pb := pt_b (u := v3) bn bd bw s1 s9 _ f5
  exact cm_X9_fraction (sp_X9_fraction (a := gPt G v1 v2 v3 v4 v5 v6.toNatClampNeg) (by show 0 ≤ (ptM _ _ _ _ _ _).toInt; rw [pb.1]; exact pb.2.1) (by decide) h) h (fun x U hp h g => ⟨h g, hp.2.2⟩)
theorem tl_X9_held {r w1 w2 l b0 b1 : Nat} (hI : IV S) (J : CJ c r w1 w2 S) (hc : Cnt w1 A S) (ct : CtB w1 A G S S) (ab : ABd A) (gb : GBd A G) (lg : LG c l b0 b1 S) (h : P_X9_held c v1 v2 v3 v4 v5 Q S) : P_X9_held c v1 v2 v3 v4 v5 (fun x T => Q x T ∧ x = tellheld A G v1 v2 v3 v4 v5) S := by
  have ow1 := J.2.2.2.2.2.1
  have oc := J.2.2.2.1
  unfold tellheld
  delta P_X9_held P_X9_held_0
  obtain ⟨o80, h⟩ := h
  refine ⟨o80, ?_⟩
  refine cm_X9_legTrouble (sp_X9_legTrouble hI J hc ct ab gb h) h (fun xt S1 hp h g => ?_)
  have h := h g
  obtain ⟨-, hS, ht⟩ := hp
  subst hS
  refine cm_X9_refusedBy (sp_X9_refusedBy h) h (fun xr S1 hp h g bq => ?_)
  have h := h g bq
  obtain ⟨-, hS, hr⟩ := hp
  subst hS
  refine Iff.mp and_comm ⟨fun cn => ⟨h.2 cn, ?_⟩, fun cn => ?_⟩
  · rw [dc_n (fun z => an1 hr cn (ht.trans z))]
  have h0 : lgN A G v1 v2 v3 v4 v5 = 0 := Classical.byContradiction (fun z => an0 hr cn (by rw [ht]; exact z))
  have h := h.1 cn
  rw [dc_y h0]
  rw [ht, h0] at h
  rw [ht, h0]
  obtain ⟨ok, sp⟩ := lgN_0 h0
  obtain ⟨i1, i2, i4, bn, bd, bw⟩ := ok_ix ab gb ok
  obtain ⟨s1, s9, sv⟩ := ok_v bw sp
  obtain ⟨a81, e81, h⟩ := h
  refine ⟨a81, e81, ?_⟩
  cases (J.1).symm.trans e81
  obtain ⟨o82, h⟩ := h
  refine ⟨o82, ?_⟩
  obtain ⟨a83, e83, h⟩ := h
  refine ⟨a83, e83, ?_⟩
  obtain ⟨o84, h⟩ := h
  refine ⟨o84, ?_⟩
  obtain ⟨o85, h⟩ := h
  refine ⟨o85, ?_⟩
  obtain ⟨a86, e86, h⟩ := h
  refine ⟨a86, e86, ?_⟩
  obtain ⟨kwk, rwk, twk⟩ := wk_at (z := 0) hI ow1 oc ct ab e83 i1 e86
  obtain ⟨o87, h⟩ := h
  refine ⟨o87, ?_⟩
  intro x88 q88
  have h := h x88 q88
  replace q88 := q88.trans (twk 0 (by decide))
  refine Iff.mp and_comm ⟨fun c2 => ⟨h.2 c2, ?_⟩, fun c2 => ?_⟩
  · rw [dc_n (fun z => c2 (q88.trans z))]
  have h := h.1 c2
  rw [dc_y (q88.symm.trans c2)]
  obtain ⟨a89, e89, h⟩ := h
  refine ⟨a89, e89, ?_⟩
  cases (lg.1).symm.trans e89
  obtain ⟨a90, e90, h⟩ := h
  refine ⟨a90, e90, ?_⟩
  cases (J.1).symm.trans e90
  obtain ⟨o91, h⟩ := h
  refine ⟨o91, ?_⟩
  obtain ⟨a92, e92, h⟩ := h
  refine ⟨a92, e92, ?_⟩
  obtain ⟨o93, h⟩ := h
  refine ⟨o93, ?_⟩
  obtain ⟨o94, h⟩ := h
  refine ⟨o94, ?_⟩
  obtain ⟨a95, e95, h⟩ := h
  refine ⟨a95, e95, ?_⟩
  obtain ⟨krd, rrd, trd⟩ := rd_at (z := 0) hI ow1 oc ct ab e92 i2 e95
  obtain ⟨a96, e96, h⟩ := h
  refine ⟨a96, e96, ?_⟩
  cases (J.1).symm.trans e96
  obtain ⟨o97, h⟩ := h
  refine ⟨o97, ?_⟩
  obtain ⟨a98, e98, h⟩ := h
  refine ⟨a98, e98, ?_⟩
  obtain ⟨o99, h⟩ := h
  refine ⟨o99, ?_⟩
  obtain ⟨o100, h⟩ := h
  refine ⟨o100, ?_⟩
  obtain ⟨a101, e101, h⟩ := h
  refine ⟨a101, e101, ?_⟩
  obtain ⟨krn, rrn, trn⟩ := rn_at (z := 0) hI ow1 oc ct ab e98 i4 e101
  obtain ⟨o102, h⟩ := h
  refine ⟨o102, ?_⟩
  refine cm_X1_lay (sp_X1_lay (S := sI S c 9 0) sv lg.2.2.2.1 h) h (fun S1 hp h g => ?_)
  have h := h g
  obtain ⟨-, ff, hS, -, hf⟩ := hp
  subst hS
  obtain ⟨a103, e103, h⟩ := h
  refine ⟨a103, e103, ?_⟩
  cases (lg.1).symm.trans e103
  obtain ⟨a104, e104, h⟩ := h
  refine ⟨a104, e104, ?_⟩
  cases (J.1).symm.trans e104
  obtain ⟨o105, h⟩ := h
  refine ⟨o105, ?_⟩
  obtain ⟨a106, e106, h⟩ := h
  refine ⟨a106, e106, ?_⟩
  obtain ⟨o107, h⟩ := h
  refine ⟨o107, ?_⟩
  obtain ⟨o108, h⟩ := h
  refine ⟨o108, ?_⟩
  obtain ⟨a109, e109, h⟩ := h
  refine ⟨a109, e109, ?_⟩
  obtain ⟨-, -, tq⟩ := wk_at (z := 0) hI ow1 oc ct ab e106 i1 e109
  obtain ⟨o110, h⟩ := h
  refine ⟨o110, ?_⟩
  refine cm_X1_isForward (sp_X1_isForward (S := wJ (sI S c 9 0) ff) lg.2.2.2.1 h) h (fun xx S1 hp h g bq => ?_)
  have h := h g bq
  obtain ⟨-, hS, ha⟩ := hp
  subst hS
  have ef : fwJ (fJ (wJ (sI S c 9 0) ff) b1) (fI (wJ (sI S c 9 0) ff) a109) ↔ fwM (gRn G v4.toNatClampNeg) (gRd G v2.toNatClampNeg) (gWk G v1.toNatClampNeg) v3 v5 := by
    have p1 : fwJ (fJ (wJ (sI S c 9 0) ff) b1) (fI (wJ (sI S c 9 0) ff) a109) = fwJ (lyS (gRn G v4.toNatClampNeg) (gRd G v2.toNatClampNeg) v3 v5) (gWk G v1.toNatClampNeg) := by
      show fwJ (fJ (wJ (sI S c 9 0) ff) b1) (fI (sI S c 9 0) a109) = _
      rw [fwJ_c tq, ← lyS_c trn trd]
      unfold fwJ
      rw [show fJ (wJ (sI S c 9 0) ff) b1 1 = _ from hf 1 (by decide), show fJ (wJ (sI S c 9 0) ff) b1 0 = _ from hf 0 (by decide)]
    rw [p1]
    exact (fwJ_iff bn bd bw s1 s9).trans (fwM_iff bn bd bw s1 s9).symm
  exact ⟨fun c3 => ⟨h.1 c3, by rw [dc_n (fun z => an0 ha c3 (ef.mpr z))]⟩, fun c3 => ⟨h.2 c3, by rw [dc_y (ef.mp (an1 ha c3))]⟩⟩
theorem m_start {S1 : HS} (hI : IV S) (eS1 : S1 = sI S m 0 0) : ∀ rd i, ob S1 rd 10 → 7 ≤ i → i ≤ 27 → ∃ b, fR S1 rd i = some b := fun rd i o10 h1 h2 => by
  have hs : ∀ i, i < 28 → 7 ≤ i → ∃ s ∈ shT, s.1 = 10 ∧ s.2.1 = i := by decide
  obtain ⟨s, hs, q1, q2⟩ := hs i (by omega) h1
  have fr : fR S1 = fR S := by rw [eS1]; rfl
  have oo : ob S rd 10 := by
    rw [eS1] at o10
    exact o10
  obtain ⟨d, e1, -, -⟩ := hI.1 s hs rd (by rw [q1]; exact oo)
  rw [q2] at e1
  exact ⟨d, by rw [fr]; exact e1⟩
theorem hm_ok (hm : (fR S m 3 = none ∧ A = A00) ∨ ∃ rd, WRm m rd A G S) (h : trOK A v1 v2 v3 v4) : ∃ rd, WRm m rd A G S := by
  rcases hm with ⟨n, hA⟩ | hm
  · exact absurd (zero_n (by rw [hA]; rfl) h.1) id
  · exact hm
theorem lg_le (h : lgN A G v1 v2 v3 v4 v5 ≤ 0) : lgN A G v1 v2 v3 v4 v5 = 0 := by
  rcases lgN_3 (A := A) (G := G) (v1 := v1) (v2 := v2) (v3 := v3) (v4 := v4) (v5 := v5) with q | q | q
  · exact q
  · rw [q] at h
    exact absurd h (by decide)
  · rw [q] at h
    exact absurd h (by decide)
theorem tl_X11_wet (hI : IV S) (hm : (fR S m 3 = none ∧ A = A00) ∨ ∃ rd, WRm m rd A G S) (ab : ABd A) (gb : GBd A G) (h : P_X11_wet m v1 v2 v3 v4 v5 v6 QJ S) : P_X11_wet m v1 v2 v3 v4 v5 v6 (fun x T => QJ x T ∧ x = tellwet A G v1 v2 v3 v4 v5 v6) S := by
  unfold tellwet
  delta P_X11_wet P_X11_wet_0
  obtain ⟨om, h⟩ := h
  refine ⟨om, ?_⟩
  intro S1 eS1
  have h := h S1 eS1
  have hm1 := hm_0 hm om eS1
  have hE := m_start hI eS1
  refine cm_X11_refuses (sp_X11_refuses hm1 ab hE h) h (fun xt S2 hp h g => ?_)
  have h := h g
  obtain ⟨-, hS, ht⟩ := hp
  subst hS
  refine Iff.mp and_comm ⟨fun cn => ?_, fun cn => ?_⟩
  · rw [dc_n (fun z => cn (by rw [ht, z]; decide))]
    have h := h.2 cn
    exact cm_X11_refused (sp_X11_refused h) h (fun x U hp h g => ⟨h g, by rw [hp.2.1]; rfl⟩)
  have h := h.1 cn
  have h0 := lg_le (by rw [← ht]; exact cn)
  rw [dc_y h0]
  obtain ⟨ok, sp⟩ := lgN_0 h0
  obtain ⟨i1, i2, i4, bn, bd, bw⟩ := ok_ix ab gb ok
  obtain ⟨s1, s9, sv⟩ := ok_v bw sp
  obtain ⟨rd, hr⟩ := hm_ok hm1 ok
  have he := fun i => hE rd i hr.2.1
  obtain ⟨mn, md, mw⟩ := m_rows he hr i1 i2 i4
  have pc := ptM_c (u := v3) (v := v5) mn md mw
  refine cm_X11_wetOf (sp_X11_wetOf he hr.1 h) h (fun zz S2 hp h g => ?_)
  have h := h g
  obtain ⟨-, hS, hz⟩ := hp
  subst hS
  rw [pc] at hz
  replace hz : zz = gWet G v1 v2 v3 v4 v5 := hz
  obtain ⟨nb, we⟩ := (wet_eq (u := v3) bn bd bw s1 s9).2
  replace we : bJ (gWet G v1 v2 v3 v4 v5) nb 18738216000 := we
  rw [hz] at h
  rw [hz]
  exact cm_X11_told (sp_X11_told (by rw [we.1]; exact we.2.1) (by decide) h) h (fun x U hp h g => ⟨h g, hp.2⟩)
theorem tl_X11_mean (hI : IV S) (hm : (fR S m 3 = none ∧ A = A00) ∨ ∃ rd, WRm m rd A G S) (ab : ABd A) (gb : GBd A G) (h : P_X11_mean m v1 v2 v3 v4 v5 v6 QJ S) : P_X11_mean m v1 v2 v3 v4 v5 v6 (fun x T => QJ x T ∧ x = tellmean A G v1 v2 v3 v4 v5 v6) S := by
  unfold tellmean
  delta P_X11_mean P_X11_mean_0
  obtain ⟨om, h⟩ := h
  refine ⟨om, ?_⟩
  intro S1 eS1
  have h := h S1 eS1
  have hm1 := hm_0 hm om eS1
  have hE := m_start hI eS1
  refine cm_X11_refuses (sp_X11_refuses hm1 ab hE h) h (fun xt S2 hp h g => ?_)
  have h := h g
  obtain ⟨-, hS, ht⟩ := hp
  subst hS
  refine Iff.mp and_comm ⟨fun cn => ?_, fun cn => ?_⟩
  · rw [dc_n (fun z => cn (by rw [ht, z]; decide))]
    have h := h.2 cn
    exact cm_X11_refused (sp_X11_refused h) h (fun x U hp h g => ⟨h g, by rw [hp.2.1]; rfl⟩)
  have h := h.1 cn
  have h0 := lg_le (by rw [← ht]; exact cn)
  rw [dc_y h0]
  obtain ⟨ok, sp⟩ := lgN_0 h0
  obtain ⟨i1, i2, i4, bn, bd, bw⟩ := ok_ix ab gb ok
  obtain ⟨s1, s9, sv⟩ := ok_v bw sp
  obtain ⟨rd, hr⟩ := hm_ok hm1 ok
  have he := fun i => hE rd i hr.2.1
  obtain ⟨mn, md, mw⟩ := m_rows he hr i1 i2 i4
  have pc := ptM_c (u := v3) (v := v5) mn md mw
  refine cm_X11_wetOf (sp_X11_wetOf he hr.1 h) h (fun zz S2 hp h g => ?_)
  have h := h g
  obtain ⟨-, hS, hz⟩ := hp
  subst hS
  rw [pc] at hz
  replace hz : zz = gWet G v1 v2 v3 v4 v5 := hz
  obtain ⟨nb, we⟩ := (wet_eq (u := v3) bn bd bw s1 s9).2
  replace we : bJ (gWet G v1 v2 v3 v4 v5) nb 18738216000 := we
  obtain ⟨a111, e111, h⟩ := h
  refine ⟨a111, e111, ?_⟩
  cases (hr.1).symm.trans e111
  obtain ⟨o112, h⟩ := h
  refine ⟨o112, ?_⟩
  obtain ⟨a113, e113, h⟩ := h
  refine ⟨a113, e113, ?_⟩
  obtain ⟨o114, h⟩ := h
  refine ⟨o114, ?_⟩
  obtain ⟨o115, h⟩ := h
  refine ⟨o115, ?_⟩
  intro x116 q116
  have h := h x116 q116
  replace q116 := q116.trans (mrn (j := 4) e113)
  replace q116 := q116.trans (mn 4 (by decide))
  rw [q116, hz] at h
  rw [q116, hz]
  have mb := bJ_mul we (bJ_of (bI_of bn.2.2.2.2 (by decide))) (by decide)
  exact cm_X11_told (sp_X11_told (by rw [mb.1]; exact mb.2.1) (by decide) h) h (fun x U hp h g => ⟨h g, hp.2⟩)
theorem tl_X11_face (hI : IV S) (hm : (fR S m 3 = none ∧ A = A00) ∨ ∃ rd, WRm m rd A G S) (ab : ABd A) (gb : GBd A G) (h : P_X11_face m v1 v2 v3 v4 v5 v6 v7 QJ S) : P_X11_face m v1 v2 v3 v4 v5 v6 v7 (fun x T => QJ x T ∧ x = tellface A G v1 v2 v3 v4 v5 v6 v7) S := by
  unfold tellface
  delta P_X11_face P_X11_face_0
  obtain ⟨om, h⟩ := h
  refine ⟨om, ?_⟩
  intro S1 eS1
  have h := h S1 eS1
  have hm1 := hm_0 hm om eS1
  have hE := m_start hI eS1
  refine cm_X11_in (sp_X11_in h) h (fun xf S2 hp h g bq => ?_)
  have h := h g bq
  obtain ⟨-, hS, hf⟩ := hp
  subst hS
  replace hf : ans (fcOK v6) xf := hf
  refine ⟨fun c1 => ?_, fun c1 => ?_⟩
  · have h := h.1 c1
    delta P_X11_face_30
    refine ⟨fun q => absurd q (by decide), fun q => ?_⟩
    have h := h.2 q
    obtain ⟨o117, h⟩ := h
    refine ⟨o117, ?_⟩
    rw [dc_n (fun z => an0 hf c1 z.1)]
    exact cm_X11_refused (sp_X11_refused h) h (fun x U hp h g => ⟨h g, by rw [hp.2.1]; rfl⟩)
  have h := h.2 c1
  have fc := an1 hf c1
  refine cm_X11_refuses (sp_X11_refuses hm1 ab hE h) h (fun xt S2 hp h g => ?_)
  have h := h g
  obtain ⟨-, hS, ht⟩ := hp
  subst hS
  delta P_X11_face_30
  refine Iff.mp and_comm ⟨fun cn => ?_, fun cn => ?_⟩
  · rw [dc_n (fun z => cn (by rw [ht, z.2]; decide))]
    have h := h.2 cn
    obtain ⟨o118, h⟩ := h
    refine ⟨o118, ?_⟩
    exact cm_X11_refused (sp_X11_refused h) h (fun x U hp h g => ⟨h g, by rw [hp.2.1]; rfl⟩)
  have h := h.1 cn
  have h0 := lg_le (by rw [← ht]; exact cn)
  rw [dc_y ⟨fc, h0⟩]
  obtain ⟨ok, sp⟩ := lgN_0 h0
  obtain ⟨i1, i2, i4, bn, bd, bw⟩ := ok_ix ab gb ok
  obtain ⟨s1, s9, sv⟩ := ok_v bw sp
  obtain ⟨rd, hr⟩ := hm_ok hm1 ok
  have he := fun i => hE rd i hr.2.1
  obtain ⟨mn, md, mw⟩ := m_rows he hr i1 i2 i4
  have pc := ptM_c (u := v3) (v := v5) mn md mw
  obtain ⟨o119, h⟩ := h
  refine ⟨o119, ?_⟩
  obtain ⟨f0, f4, f5⟩ := fc_k fc
  refine cm_X11_partsOf (sp_X11_partsOf he hr.1 ⟨f0, f4⟩ h) h (fun zz S2 hp h g => ?_)
  have h := h g
  obtain ⟨-, hS, hz⟩ := hp
  subst hS
  rw [pc] at hz
  replace hz : zz = gPt G v1 v2 v3 v4 v5 v6.toNatClampNeg := hz
  rw [hz] at h
  rw [hz]
  have pb := pt_b (u := v3) bn bd bw s1 s9 _ f5
  exact cm_X11_told (sp_X11_told (a := gPt G v1 v2 v3 v4 v5 v6.toNatClampNeg) (by show 0 ≤ (ptM _ _ _ _ _ _).toInt; rw [pb.1]; exact pb.2.1) (by decide) h) h (fun x U hp h g => ⟨h g, hp.2⟩)
theorem tl_X11_held (hI : IV S) (hm : (fR S m 3 = none ∧ A = A00) ∨ ∃ rd, WRm m rd A G S) (ab : ABd A) (gb : GBd A G) (h : P_X11_held m v1 v2 v3 v4 v5 Q S) : P_X11_held m v1 v2 v3 v4 v5 (fun x T => Q x T ∧ x = tellheld A G v1 v2 v3 v4 v5) S := by
  have gd : ∀ s z T, tellheld A G v1 v2 v3 v4 v5 = s → P_X11_held_68 Q z s T → P_X11_held_68 (fun x T => Q x T ∧ x = tellheld A G v1 v2 v3 v4 v5) z s T := fun s z T e h => by
    delta P_X11_held_68
    obtain ⟨o120, h⟩ := h
    refine ⟨o120, ?_⟩
    exact cm_X11_good (sp_X11_good h) h (fun x U hp h g => ⟨h g, by rw [hp.2.1, e]⟩)
  delta P_X11_held P_X11_held_0
  obtain ⟨om, h⟩ := h
  refine ⟨om, ?_⟩
  intro S1 eS1
  have h := h S1 eS1
  have hm1 := hm_0 hm om eS1
  have hE := m_start hI eS1
  refine cm_X11_refuses (sp_X11_refuses hm1 ab hE h) h (fun xt S2 hp h g => ?_)
  have h := h g
  obtain ⟨-, hS, ht⟩ := hp
  subst hS
  refine Iff.mp and_comm ⟨fun cn => ?_, fun cn => ?_⟩
  · have h := h.2 cn
    exact cm_X11_refused (sp_X11_refused h) h (fun x U hp h g => ⟨h g, by unfold tellheld; rw [dc_n (fun z => cn (by rw [ht, z]; decide)), hp.2.1]⟩)
  have h := h.1 cn
  have h0 := lg_le (by rw [← ht]; exact cn)
  obtain ⟨ok, sp⟩ := lgN_0 h0
  obtain ⟨i1, i2, i4, bn, bd, bw⟩ := ok_ix ab gb ok
  obtain ⟨s1, s9, sv⟩ := ok_v bw sp
  obtain ⟨rd, hr⟩ := hm_ok hm1 ok
  have he := fun i => hE rd i hr.2.1
  obtain ⟨mn, md, mw⟩ := m_rows he hr i1 i2 i4
  have pc := ptM_c (u := v3) (v := v5) mn md mw
  obtain ⟨a121, e121, h⟩ := h
  refine ⟨a121, e121, ?_⟩
  cases (hr.1).symm.trans e121
  obtain ⟨o122, h⟩ := h
  refine ⟨o122, ?_⟩
  obtain ⟨a123, e123, h⟩ := h
  refine ⟨a123, e123, ?_⟩
  obtain ⟨o124, h⟩ := h
  refine ⟨o124, ?_⟩
  obtain ⟨o125, h⟩ := h
  refine ⟨o125, ?_⟩
  intro x126 q126
  have h := h x126 q126
  replace q126 := q126.trans (mwk (j := 0) e123)
  replace q126 := q126.trans (mw 0 (by decide))
  refine Iff.mp and_comm ⟨fun c2 => gd _ _ _ (by unfold tellheld; rw [dc_y h0, dc_n (fun z => c2 (q126.trans z))]) (h.2 c2), fun c2 => ?_⟩
  have h := h.1 c2
  refine cm_X11_isForward (sp_X11_isForward he hr.1 h) h (fun xx S2 hp h g bq => ?_)
  have h := h g bq
  obtain ⟨-, hS, ha⟩ := hp
  subst hS
  rw [fwM_c mn md mw] at ha
  exact ⟨fun c3 => gd _ _ _ (by unfold tellheld; rw [dc_y h0, dc_y (q126.symm.trans c2), dc_n (an0 ha c3)]) (h.1 c3), fun c3 => gd _ _ _ (by unfold tellheld; rw [dc_y h0, dc_y (q126.symm.trans c2), dc_y (an1 ha c3)]) (h.2 c3)⟩
end C33
/-! the best and the worst speed -/
def bst (W : Nat → Int64) (s : Nat) : Nat → Nat
  | 0 => s
  | n + 1 => if (W (s + n + 1)).toInt < (W (bst W s n)).toInt then s + n + 1 else bst W s n
def wst (W : Nat → Int64) (s : Nat) : Nat → Nat
  | 0 => s
  | n + 1 => if (W (wst W s n)).toInt < (W (s + n + 1)).toInt then s + n + 1 else wst W s n
section C34p
variable {W W' : Nat → Int64} {s n f : Nat}
theorem bst_r : ∀ n, s ≤ bst W s n ∧ bst W s n ≤ s + n := by
  intro n
  induction n with
  | zero => exact ⟨Nat.le_refl _, Nat.le_refl _⟩
  | succ n ih =>
    have e : bst W s (n + 1) = if (W (s + n + 1)).toInt < (W (bst W s n)).toInt then s + n + 1 else bst W s n := rfl
    rw [e]
    split <;> omega
theorem wst_r : ∀ n, s ≤ wst W s n ∧ wst W s n ≤ s + n := by
  intro n
  induction n with
  | zero => exact ⟨Nat.le_refl _, Nat.le_refl _⟩
  | succ n ih =>
    have e : wst W s (n + 1) = if (W (wst W s n)).toInt < (W (s + n + 1)).toInt then s + n + 1 else wst W s n := rfl
    rw [e]
    split <;> omega
theorem bst_min : ∀ n k, k ≤ n → (W (bst W s n)).toInt ≤ (W (s + k)).toInt := by
  intro n
  induction n with
  | zero => intro k hk; rw [Nat.le_zero.mp hk]; exact Int.le_refl _
  | succ n ih =>
    intro k hk
    have e : bst W s (n + 1) = if (W (s + n + 1)).toInt < (W (bst W s n)).toInt then s + n + 1 else bst W s n := rfl
    rw [e]
    by_cases z : k = n + 1
    · rw [z]
      show _ ≤ (W (s + n + 1)).toInt
      split
      · exact Int.le_refl _
      · omega
    · have := ih k (by omega)
      split
      · omega
      · exact this
theorem wst_max : ∀ n k, k ≤ n → (W (s + k)).toInt ≤ (W (wst W s n)).toInt := by
  intro n
  induction n with
  | zero => intro k hk; rw [Nat.le_zero.mp hk]; exact Int.le_refl _
  | succ n ih =>
    intro k hk
    have e : wst W s (n + 1) = if (W (wst W s n)).toInt < (W (s + n + 1)).toInt then s + n + 1 else wst W s n := rfl
    rw [e]
    by_cases z : k = n + 1
    · rw [z]
      show (W (s + n + 1)).toInt ≤ _
      split
      · exact Int.le_refl _
      · omega
    · have := ih k (by omega)
      split
      · omega
      · exact this
theorem bst_c : ∀ n, (∀ k, k ≤ n → W (s + k) = W' (s + k)) → bst W s n = bst W' s n := by
  intro n
  induction n with
  | zero => intro _; rfl
  | succ n ih =>
    intro h
    have e := ih (fun k hk => h k (by omega))
    have r := bst_r (W := W) (s := s) n
    have e1 : W (bst W s n) = W' (bst W' s n) := by
      rw [← e]
      have := h (bst W s n - s) (by omega)
      rw [show s + (bst W s n - s) = bst W s n by omega] at this
      exact this
    show (if _ then _ else _) = (if _ then _ else _)
    rw [e1, e, show W (s + n + 1) = W' (s + n + 1) from h (n + 1) (Nat.le_refl _)]
theorem lgc_ge {x y : Int64} : (¬ 0 ≤ lg_cmp x y) ↔ x.toInt < y.toInt := by
  unfold lg_cmp
  by_cases c : x > y
  · rw [if_pos c]
    have := Int64.lt_iff_toInt_lt.mp c
    exact ⟨fun z => absurd (by decide) z, fun z => by omega⟩
  · rw [if_neg c]
    have n := Int64.le_iff_toInt_le.mp (Int64.not_lt.mp c)
    by_cases d : x = y
    · rw [if_pos d, d]
      exact ⟨fun z => absurd (by decide) z, fun z => by omega⟩
    · rw [if_neg d]
      refine ⟨fun _ => ?_, fun _ => by decide⟩
      rcases Int.lt_or_eq_of_le n with q | q
      · exact q
      · exact absurd (Int64.toInt_inj.mp q) d
theorem lgc_eq {x y : Int64} : lg_cmp x y = 0 ↔ x = y := by
  unfold lg_cmp
  by_cases c : x > y
  · rw [if_pos c]
    have := Int64.lt_iff_toInt_lt.mp c
    exact ⟨fun z => absurd z (by decide), fun z => by rw [z] at this; omega⟩
  · rw [if_neg c]
    by_cases d : x = y
    · rw [if_pos d]
      exact ⟨fun _ => d, fun _ => rfl⟩
    · rw [if_neg d]
      exact ⟨fun z => absurd z (by decide), fun z => absurd z d⟩
theorem lgc_lt {x y : Int64} : lg_cmp x y < 0 ↔ x.toInt < y.toInt := by
  unfold lg_cmp
  by_cases c : x > y
  · rw [if_pos c]
    have := Int64.lt_iff_toInt_lt.mp c
    exact ⟨fun z => absurd z (by decide), fun z => by omega⟩
  · rw [if_neg c]
    have n := Int64.le_iff_toInt_le.mp (Int64.not_lt.mp c)
    by_cases d : x = y
    · rw [if_pos d, d]
      exact ⟨fun z => absurd z (by decide), fun z => by omega⟩
    · rw [if_neg d]
      refine ⟨fun _ => ?_, fun _ => by decide⟩
      rcases Int.lt_or_eq_of_le n with q | q
      · exact q
      · exact absurd (Int64.toInt_inj.mp q) d
end C34p
section C34
variable {m rd v0 v1 v2 v4 b0 b1 s f : Nat} {S T : HS} {u : Int32} {w1 w2 w3 w4 : Int32} {W : Nat → Int64} {Q : Int32 → HS → Prop} {QJ : Int64 → HS → Prop}
def SpF (wk : Nat → Int32) (s f : Nat) : Prop := wk 5 = nI s ∧ wk 6 = nI f ∧ 1 ≤ s ∧ s ≤ f ∧ f ≤ 9
theorem sp_X1_bestSpeed (sf : SpF (fI S v1) s f) (hW : ∀ k, s ≤ k → k ≤ f → sumJ (wtJ (fI S v1) (fI S v2) (fI S v4) u (nI k) 0 0) = W k ∧ 0 ≤ (W k).toInt ∧ (W k).toInt < 4611686018427387904) (e0 : fR S v0 0 = some b0) (e1 : fR S v0 1 = some b1) (ne : b1 ≠ b0) (h : P_X1_bestSpeed v0 v1 v2 u v4 Q S) : P_X1_bestSpeed v0 v1 v2 u v4 (fun x T => Q x T ∧ ∃ g, T = wJ S g ∧ x = nI (bst W s (f - s))) S := by
  obtain ⟨s5, s6, s1, sl, f9⟩ := sf
  delta P_X1_bestSpeed P_X1_bestSpeed_0
  obtain ⟨o1, h⟩ := h
  refine ⟨o1, fun x1 q1 x2 q2 => ?_⟩
  have h := h x1 q1 x2 q2
  intro X hX
  refine h (fun a0 a1 a2 a3 a4 a5 a6 a8 T => (a0 = v0 ∧ a1 = v1 ∧ a2 = v2 ∧ a3 = u ∧ a4 = v4 ∧ ∃ g i, T = wJ S g ∧ i ≤ f - s + 1 ∧ a8 = nI (s + i) ∧ ((i = 0 ∧ a5 = nI s ∧ a6 = 4611686018427387904) ∨ ∃ j, i = j + 1 ∧ a5 = nI (bst W s j) ∧ a6 = W (bst W s j))) → X a0 a1 a2 a3 a4 a5 a6 a8 T) ?_ ⟨rfl, rfl, rfl, rfl, rfl, fJ S, 0, rfl, by omega, by rw [q2, s5]; rfl, Or.inl ⟨rfl, by rw [q1, s5], rfl⟩⟩
  rintro a0 a1 a2 a3 a4 a5 a6 a8 T h ⟨rfl, rfl, rfl, rfl, rfl, g, i, rfl, hi, h8, hc⟩
  apply hX
  obtain ⟨o2, h⟩ := h
  refine ⟨o2, fun x3 q3 => ?_⟩
  have h := h x3 q3
  have q3 : x3 = nI f := q3.trans s6
  have nf : x3.toInt = (f : Int) := by rw [q3, nI_i (by omega)]
  have n8 : a8.toInt = ((s + i : Nat) : Int) := by rw [h8, nI_i (by omega)]
  refine ⟨fun c => ⟨h.1 c, g, rfl, ?_⟩, fun c => ?_⟩
  · have := lt_i c
    rcases hc with ⟨z, -⟩ | ⟨j, hj, h5, -⟩
    · omega
    · rw [h5, show j = f - s by omega]
  have h := h.2 c
  have lt := nlt_i c
  obtain ⟨o3, h⟩ := h
  refine ⟨o3, ?_⟩
  have e00 : (0 : Int32).toInt = 0 := by decide
  refine cm_X1_wetOf (sp_X1_wetOf (S := wJ S g) (fun z => by have := le_i z; omega) e0 e1 ne h) h (fun x5 S1 hp h gg => ?_)
  have h := h gg
  obtain ⟨-, g2, hS, -, -, hz⟩ := hp
  subst hS
  obtain ⟨w1, w2, w3⟩ := hW (s + i) (by omega) (by omega)
  replace hz : x5 = W (s + i) := by
    rw [hz, h8]
    exact w1
  have es : (4611686018427387904 : Int64).toInt = 4611686018427387904 := by decide
  have em : (-1 : Int64).toInt = -1 := by decide
  have nx : a8 + 1 = nI (s + (i + 1)) := by
    rw [h8]
    exact nI_add (s + i) 1
  refine ⟨fun c1 => ?_, fun c1 => ?_⟩
  · have h := h.1 c1
    delta P_X1_bestSpeed_55
    intro x6 q6
    have h := h x6 q6
    have nc : ¬ (x5.toInt < a6.toInt) := fun z => (lgc_ge.mpr z) c1
    rcases hc with ⟨z, h5, h6⟩ | ⟨j, hj, h5, h6⟩
    · rw [hz, h6] at nc
      omega
    · rw [hz, h6] at nc
      refine h ⟨rfl, rfl, rfl, rfl, rfl, g2, i + 1, rfl, by omega, by rw [q6, nx], Or.inr ⟨j + 1, by omega, ?_, ?_⟩⟩
      · rw [h5]
        show _ = nI (if _ then _ else _)
        rw [show s + j + 1 = s + i by omega, if_neg nc]
      · rw [h6]
        show _ = W (if _ then _ else _)
        rw [show s + j + 1 = s + i by omega, if_neg nc]
  · have h := h.2 c1
    delta P_X1_bestSpeed_55
    intro x6 q6
    have h := h x6 q6
    have nc : x5.toInt < a6.toInt := lgc_ge.mp c1
    rcases hc with ⟨z, h5, h6⟩ | ⟨j, hj, h5, h6⟩
    · refine h ⟨rfl, rfl, rfl, rfl, rfl, g2, i + 1, rfl, by omega, by rw [q6, nx], Or.inr ⟨0, by omega, ?_, ?_⟩⟩
      · rw [h8, z]
        rfl
      · rw [hz, z]
        rfl
    · rw [hz, h6] at nc
      refine h ⟨rfl, rfl, rfl, rfl, rfl, g2, i + 1, rfl, by omega, by rw [q6, nx], Or.inr ⟨j + 1, by omega, ?_, ?_⟩⟩
      · rw [h8]
        show _ = nI (if _ then _ else _)
        rw [show s + j + 1 = s + i by omega, if_pos nc]
      · rw [hz]
        show _ = W (if _ then _ else _)
        rw [show s + j + 1 = s + i by omega, if_pos nc]
theorem sp_X1_worstSpeed (sf : SpF (fI S v1) s f) (hW : ∀ k, s ≤ k → k ≤ f → sumJ (wtJ (fI S v1) (fI S v2) (fI S v4) u (nI k) 0 0) = W k ∧ 0 ≤ (W k).toInt ∧ (W k).toInt < 4611686018427387904) (e0 : fR S v0 0 = some b0) (e1 : fR S v0 1 = some b1) (ne : b1 ≠ b0) (h : P_X1_worstSpeed v0 v1 v2 u v4 Q S) : P_X1_worstSpeed v0 v1 v2 u v4 (fun x T => Q x T ∧ ∃ g, T = wJ S g ∧ x = nI (wst W s (f - s))) S := by
  obtain ⟨s5, s6, s1, sl, f9⟩ := sf
  delta P_X1_worstSpeed P_X1_worstSpeed_0
  obtain ⟨o1, h⟩ := h
  refine ⟨o1, fun x1 q1 x2 q2 => ?_⟩
  have h := h x1 q1 x2 q2
  intro X hX
  refine h (fun a0 a1 a2 a3 a4 a5 a6 a8 T => (a0 = v0 ∧ a1 = v1 ∧ a2 = v2 ∧ a3 = u ∧ a4 = v4 ∧ ∃ g i, T = wJ S g ∧ i ≤ f - s + 1 ∧ a8 = nI (s + i) ∧ ((i = 0 ∧ a5 = nI s ∧ a6 = -1) ∨ ∃ j, i = j + 1 ∧ a5 = nI (wst W s j) ∧ a6 = W (wst W s j))) → X a0 a1 a2 a3 a4 a5 a6 a8 T) ?_ ⟨rfl, rfl, rfl, rfl, rfl, fJ S, 0, rfl, by omega, by rw [q2, s5]; rfl, Or.inl ⟨rfl, by rw [q1, s5], rfl⟩⟩
  rintro a0 a1 a2 a3 a4 a5 a6 a8 T h ⟨rfl, rfl, rfl, rfl, rfl, g, i, rfl, hi, h8, hc⟩
  apply hX
  obtain ⟨o2, h⟩ := h
  refine ⟨o2, fun x3 q3 => ?_⟩
  have h := h x3 q3
  have q3 : x3 = nI f := q3.trans s6
  have nf : x3.toInt = (f : Int) := by rw [q3, nI_i (by omega)]
  have n8 : a8.toInt = ((s + i : Nat) : Int) := by rw [h8, nI_i (by omega)]
  refine ⟨fun c => ⟨h.1 c, g, rfl, ?_⟩, fun c => ?_⟩
  · have := lt_i c
    rcases hc with ⟨z, -⟩ | ⟨j, hj, h5, -⟩
    · omega
    · rw [h5, show j = f - s by omega]
  have h := h.2 c
  have lt := nlt_i c
  obtain ⟨o3, h⟩ := h
  refine ⟨o3, ?_⟩
  have e00 : (0 : Int32).toInt = 0 := by decide
  refine cm_X1_wetOf (sp_X1_wetOf (S := wJ S g) (fun z => by have := le_i z; omega) e0 e1 ne h) h (fun x5 S1 hp h gg => ?_)
  have h := h gg
  obtain ⟨-, g2, hS, -, -, hz⟩ := hp
  subst hS
  obtain ⟨w1, w2, w3⟩ := hW (s + i) (by omega) (by omega)
  replace hz : x5 = W (s + i) := by
    rw [hz, h8]
    exact w1
  have es : (4611686018427387904 : Int64).toInt = 4611686018427387904 := by decide
  have em : (-1 : Int64).toInt = -1 := by decide
  have nx : a8 + 1 = nI (s + (i + 1)) := by
    rw [h8]
    exact nI_add (s + i) 1
  refine ⟨fun c1 => ?_, fun c1 => ?_⟩
  · have h := h.1 c1
    delta P_X1_worstSpeed_55
    intro x6 q6
    have h := h x6 q6
    have nc : ¬ (a6.toInt < x5.toInt) := fun z => (lgc.mpr z) c1
    rcases hc with ⟨z, h5, h6⟩ | ⟨j, hj, h5, h6⟩
    · rw [hz, h6] at nc
      omega
    · rw [hz, h6] at nc
      refine h ⟨rfl, rfl, rfl, rfl, rfl, g2, i + 1, rfl, by omega, by rw [q6, nx], Or.inr ⟨j + 1, by omega, ?_, ?_⟩⟩
      · rw [h5]
        show _ = nI (if _ then _ else _)
        rw [show s + j + 1 = s + i by omega, if_neg nc]
      · rw [h6]
        show _ = W (if _ then _ else _)
        rw [show s + j + 1 = s + i by omega, if_neg nc]
  · have h := h.2 c1
    delta P_X1_worstSpeed_55
    intro x6 q6
    have h := h x6 q6
    have nc : a6.toInt < x5.toInt := lgc.mp c1
    rcases hc with ⟨z, h5, h6⟩ | ⟨j, hj, h5, h6⟩
    · refine h ⟨rfl, rfl, rfl, rfl, rfl, g2, i + 1, rfl, by omega, by rw [q6, nx], Or.inr ⟨0, by omega, ?_, ?_⟩⟩
      · rw [h8, z]
        rfl
      · rw [hz, z]
        rfl
    · rw [hz, h6] at nc
      refine h ⟨rfl, rfl, rfl, rfl, rfl, g2, i + 1, rfl, by omega, by rw [q6, nx], Or.inr ⟨j + 1, by omega, ?_, ?_⟩⟩
      · rw [h8]
        show _ = nI (if _ then _ else _)
        rw [show s + j + 1 = s + i by omega, if_pos nc]
      · rw [hz]
        show _ = W (if _ then _ else _)
        rw [show s + j + 1 = s + i by omega, if_pos nc]
theorem sp_X1_leastWet (sf : SpF (fI S v1) s f) (hW : ∀ k, s ≤ k → k ≤ f → sumJ (wtJ (fI S v1) (fI S v2) (fI S v4) u (nI k) 0 0) = W k ∧ 0 ≤ (W k).toInt ∧ (W k).toInt < 4611686018427387904) (e0 : fR S v0 0 = some b0) (e1 : fR S v0 1 = some b1) (ne : b1 ≠ b0) (h : P_X1_leastWet v0 v1 v2 u v4 QJ S) : P_X1_leastWet v0 v1 v2 u v4 (fun x T => QJ x T ∧ ∃ g, T = wJ S g ∧ x = W (bst W s (f - s))) S := by
  delta P_X1_leastWet P_X1_leastWet_0
  obtain ⟨o1, h⟩ := h
  refine ⟨o1, ?_⟩
  refine cm_X1_bestSpeed (sp_X1_bestSpeed sf hW e0 e1 ne h) h (fun x3 S1 hp h gg => ?_)
  have h := h gg
  obtain ⟨-, g1, hS, hx⟩ := hp
  subst hS
  have r := bst_r (W := W) (s := s) (f - s)
  have e00 : (0 : Int32).toInt = 0 := by decide
  have sl := sf.2.2
  refine cm_X1_wetOf (sp_X1_wetOf (S := wJ S g1) (fun z => by have := le_i z; rw [hx, nI_i (by omega)] at this; omega) e0 e1 ne h) h (fun x5 S1 hp h gg => ⟨h gg, ?_⟩)
  obtain ⟨-, g2, hS, -, -, hz⟩ := hp
  refine ⟨g2, hS, ?_⟩
  rw [hz, hx]
  exact (hW _ r.1 (by omega)).1
theorem sp_X11_bestOf (he : ∀ i, 7 ≤ i → i ≤ 27 → ∃ b, fR S rd i = some b) (e3 : fR S m 3 = some rd) (sf : SpF (mWk S rd w1.toNatClampNeg) s f) (hW : ∀ k, s ≤ k → k ≤ f → psum (ptM (mRn S rd w4.toNatClampNeg) (mRd S rd w2.toNatClampNeg) (mWk S rd w1.toNatClampNeg) w3 (nI k)) 5 = W k) (h : P_X11_bestOf m w1 w2 w3 w4 Q S) : P_X11_bestOf m w1 w2 w3 w4 (fun x T => Q x T ∧ S = T ∧ x = nI (bst W s (f - s))) S := by
  obtain ⟨s5, s6, s1, sl, f9⟩ := sf
  delta P_X11_bestOf P_X11_bestOf_0
  obtain ⟨o1, h⟩ := h
  refine ⟨o1, ?_⟩
  obtain ⟨a1, g1, h⟩ := h
  refine ⟨a1, g1, ?_⟩
  cases e3.symm.trans g1
  obtain ⟨o2, h⟩ := h
  refine ⟨o2, ?_⟩
  obtain ⟨a2, g2, h⟩ := h
  refine ⟨a2, g2, ?_⟩
  obtain ⟨o3, h⟩ := h
  refine ⟨o3, ?_⟩
  obtain ⟨o4, h⟩ := h
  refine ⟨o4, fun x4 q4 x5 q5 => ?_⟩
  have h := h x4 q4 x5 q5
  replace q4 := (q4.trans (mwk (j := 5) g2)).trans s5
  intro X hX
  refine h (fun a0 a1 a2 a3 a4 a5 a6 T => (a0 = m ∧ a1 = w1 ∧ a2 = w2 ∧ a3 = w3 ∧ a4 = w4 ∧ T = S ∧ ∃ i, i ≤ f - s ∧ a6 = nI (s + i + 1) ∧ a5 = nI (bst W s i)) → X a0 a1 a2 a3 a4 a5 a6 T) ?_ ⟨rfl, rfl, rfl, rfl, rfl, rfl, 0, by omega, by rw [q5, q4]; exact nI_add s 1, q4⟩
  rintro a0 a1 a2 a3 a4 a5 a6 T h ⟨rfl, rfl, rfl, rfl, rfl, rfl, i, hi, h6, h5⟩
  apply hX
  obtain ⟨p1, h⟩ := h
  refine ⟨p1, ?_⟩
  obtain ⟨b1, k1, h⟩ := h
  refine ⟨b1, k1, ?_⟩
  cases e3.symm.trans k1
  obtain ⟨p2, h⟩ := h
  refine ⟨p2, ?_⟩
  obtain ⟨b2, k2, h⟩ := h
  refine ⟨b2, k2, ?_⟩
  obtain ⟨p3, h⟩ := h
  refine ⟨p3, ?_⟩
  obtain ⟨p4, h⟩ := h
  refine ⟨p4, fun x7 q7 => ?_⟩
  have h := h x7 q7
  replace q7 := (q7.trans (mwk (j := 6) k2)).trans s6
  have nf : x7.toInt = (f : Int) := by rw [q7, nI_i (by omega)]
  have n6 : a6.toInt = ((s + i + 1 : Nat) : Int) := by rw [h6, nI_i (by omega)]
  refine ⟨fun c => ⟨h.1 c, rfl, ?_⟩, fun c => ?_⟩
  · have := lt_i c
    rw [h5, show i = f - s by omega]
  have h := h.2 c
  have lt := nlt_i c
  have r := bst_r (W := W) (s := s) i
  refine cm_X11_wetOf (sp_X11_wetOf he e3 h) h (fun x8 S1 hp h gg => ?_)
  have h := h gg
  obtain ⟨-, hS, hz⟩ := hp
  subst hS
  refine cm_X11_wetOf (sp_X11_wetOf he e3 h) h (fun x9 S1 hp h gg => ?_)
  have h := h gg
  obtain ⟨-, hS, hy⟩ := hp
  subst hS
  rw [h6, hW (s + i + 1) (by omega) (by omega)] at hz
  rw [h5, hW _ r.1 (by omega)] at hy
  have nx : a6 + 1 = nI (s + (i + 1) + 1) := by
    rw [h6]
    exact nI_add (s + i + 1) 1
  refine ⟨fun c1 => ?_, fun c1 => ?_⟩
  · have h := h.1 c1
    delta P_X11_bestOf_61
    intro x6 q6
    have h := h x6 q6
    have nc : ¬ x8.toInt < x9.toInt := fun z => (lgc_ge.mpr z) c1
    rw [hz, hy] at nc
    refine h ⟨rfl, rfl, rfl, rfl, rfl, rfl, i + 1, by omega, by rw [q6, nx], ?_⟩
    rw [h5]
    show _ = nI (if _ then _ else _)
    rw [if_neg nc]
  · have h := h.2 c1
    delta P_X11_bestOf_61
    intro x6 q6
    have h := h x6 q6
    have nc : x8.toInt < x9.toInt := lgc_ge.mp c1
    rw [hz, hy] at nc
    refine h ⟨rfl, rfl, rfl, rfl, rfl, rfl, i + 1, by omega, by rw [q6, nx], ?_⟩
    rw [h6]
    show _ = nI (if _ then _ else _)
    rw [if_pos nc]
end C34
end
section
/-! what best, saves, worst, even, round tell -/
noncomputable def rW (rn rd wk : Nat → Int32) (u : Int32) (k : Nat) : Int64 := psum (ptM rn rd wk u (nI k)) 5
noncomputable def gW (G : GC) (v1 v2 v3 v4 : Int32) (k : Nat) : Int64 := rW (gRn G v4.toNatClampNeg) (gRd G v2.toNatClampNeg) (gWk G v1.toNatClampNeg) v3 k
def gS (G : GC) (v1 : Int32) : Nat := (gWk G v1.toNatClampNeg 5).toNatClampNeg
def gF (G : GC) (v1 : Int32) : Nat := (gWk G v1.toNatClampNeg 6).toNatClampNeg
noncomputable def gB (G : GC) (v1 v2 v3 v4 : Int32) : Nat := bst (gW G v1 v2 v3 v4) (gS G v1) (gF G v1 - gS G v1)
noncomputable def gM (G : GC) (v1 v2 v3 v4 : Int32) : Nat := wst (gW G v1 v2 v3 v4) (gS G v1) (gF G v1 - gS G v1)
noncomputable def gL (G : GC) (v1 v2 v3 v4 : Int32) : Int64 := gW G v1 v2 v3 v4 (gB G v1 v2 v3 v4)
noncomputable def tellbest (A : AS) (G : GC) (v1 v2 v3 v4 : Int32) : Int32 := dc (trOK A v1 v2 v3 v4) (nI (gB G v1 v2 v3 v4)) (-1)
noncomputable def tellworst (A : AS) (G : GC) (v1 v2 v3 v4 : Int32) : Int32 := dc (trOK A v1 v2 v3 v4) (nI (gM G v1 v2 v3 v4)) (-1)
noncomputable def tellsaves (A : AS) (G : GC) (v1 v2 v3 v4 v5 : Int32) : Int64 := dc (trOK A v1 v2 v3 v4) (tdJ (gW G v1 v2 v3 v4 (gS G v1) - gL G v1 v2 v3 v4) 2520 v5) (-1)
noncomputable def telleven (A : AS) (G : GC) (v1 v2 v3 v4 : Int32) : Int32 := dc (trOK A v1 v2 v3 v4) (dc (gW G v1 v2 v3 v4 (gM G v1 v2 v3 v4) = gL G v1 v2 v3 v4) 1 0) (-1)
noncomputable def tellround (A : AS) (G : GC) (v1 v2 v3 v4 : Int32) : Int64 := dc (trOK A v1 v2 0 v3) (tdJ (gL G v1 v2 0 v3 + gL G v1 v2 1 v3) 2520 v4) (-1)
section C35
variable {c m rd : Nat} {A : AS} {G : GC} {S T : HS} {v1 v2 v3 v4 v5 : Int32} {Q : Int32 → HS → Prop} {QJ : Int64 → HS → Prop} {rn rn' rd' rd2 wk wk' : Nat → Int32} {u : Int32} {s f : Nat} {W : Nat → Int64}
theorem trN_0 (h : trN A v1 v2 v3 v4 = 0) : trOK A v1 v2 v3 v4 := Classical.byContradiction (fun q => by
  unfold trN at h
  rw [dc_n q] at h
  exact absurd h (by decide))
theorem trN_y (h : trOK A v1 v2 v3 v4) : trN A v1 v2 v3 v4 = 0 := by
  unfold trN
  rw [dc_y h]
theorem rW_b (a : RnB rn) (b : RoB rd2) (w : WkB wk) {k : Nat} (h1 : 1 ≤ k) (h9 : k ≤ 9) : 0 ≤ (rW rn rd2 wk u k).toInt ∧ (rW rn rd2 wk u k).toInt ≤ 18738216000 := by
  have e : (nI k).toInt = (k : Int) := nI_i (by omega)
  obtain ⟨n, z⟩ := (wet_eq (u := u) (v := nI k) a b w (by omega) (by omega)).2
  replace z : bJ (rW rn rd2 wk u k) n 18738216000 := z
  rw [z.1]
  exact z.2
theorem cls_W (a : RnB rn) (b : RoB rd2) (w : WkB wk) (tn : ∀ j, j < 5 → rn' j = rn j) (td : ∀ j, j < 5 → rd' j = rd2 j) (tw : ∀ j, j < 7 → wk' j = wk j) (h1 : 1 ≤ s) (h9 : f ≤ 9) : ∀ k, s ≤ k → k ≤ f → sumJ (wtJ wk' rd' rn' u (nI k) 0 0) = rW rn rd2 wk u k ∧ 0 ≤ (rW rn rd2 wk u k).toInt ∧ (rW rn rd2 wk u k).toInt < 4611686018427387904 := by
  intro k hs hf
  have e : (nI k).toInt = (k : Int) := nI_i (by omega)
  have p := rW_b (u := u) (k := k) a b w (by omega) (by omega)
  refine ⟨?_, p.1, by omega⟩
  rw [wtJ_c tn td tw]
  exact (wet_eq a b w (by omega) (by omega)).1
theorem gSF (w : WkB (gWk G v1.toNatClampNeg)) : SpF (gWk G v1.toNatClampNeg) (gS G v1) (gF G v1) := by
  have w5 := w.2.2.2.2.2.1
  have w6 := w.2.2.2.2.2.2
  have a := w5.1
  have b := w5.2
  have e : ∀ x : Int32, 0 ≤ x.toInt → x.toInt ≤ 9 → x = nI x.toNatClampNeg ∧ (x.toNatClampNeg : Int) = x.toInt := fun x h0 h9 => by
    have q : (x.toNatClampNeg : Int) = x.toInt := by
      show (x.toInt.toNat : Int) = _
      omega
    exact ⟨Int32.toInt_inj.mp (by rw [nI_i (by omega), q]), q⟩
  obtain ⟨e5, n5⟩ := e (gWk G v1.toNatClampNeg 5) (by omega) (by omega)
  obtain ⟨e6, n6⟩ := e (gWk G v1.toNatClampNeg 6) (by omega) (by omega)
  refine ⟨e5, e6, ?_, ?_, ?_⟩
  · unfold gS; omega
  · unfold gS gF; omega
  · unfold gF; omega
theorem SpF_c (tw : ∀ j, j < 7 → wk' j = wk j) (h : SpF wk s f) : SpF wk' s f := ⟨(tw 5 (by decide)).trans h.1, (tw 6 (by decide)).trans h.2.1, h.2.2⟩
/-- even: all are alike just where the most is the least -/
theorem ev_iff {n : Nat} : (W (wst W s n) = W (bst W s n)) ↔ ∀ j, j < n → W (s + j) = W (s + j + 1) := by
  constructor
  · intro h j hj
    have a1 := bst_min (W := W) (s := s) n j (by omega)
    have a2 := bst_min (W := W) (s := s) n (j + 1) (by omega)
    have b1 := wst_max (W := W) (s := s) n j (by omega)
    have b2 := wst_max (W := W) (s := s) n (j + 1) (by omega)
    rw [h] at b1 b2
    refine Int64.toInt_inj.mp ?_
    have e : s + j + 1 = s + (j + 1) := by omega
    rw [e]
    omega
  · intro h
    have all : ∀ k, k ≤ n → W (s + k) = W s := by
      intro k
      induction k with
      | zero => intro _; rfl
      | succ k ih =>
        intro hk
        have e : s + (k + 1) = s + k + 1 := by omega
        rw [e, ← h k (by omega)]
        exact ih (by omega)
    have r1 := bst_r (W := W) (s := s) n
    have r2 := wst_r (W := W) (s := s) n
    have e1 := all (bst W s n - s) (by omega)
    have e2 := all (wst W s n - s) (by omega)
    rw [show s + (bst W s n - s) = bst W s n by omega] at e1
    rw [show s + (wst W s n - s) = wst W s n by omega] at e2
    rw [e1, e2]
theorem sp_X11_wetAtBest (he : ∀ i, 7 ≤ i → i ≤ 27 → ∃ b, fR S rd i = some b) (e3 : fR S m 3 = some rd) (sf : SpF (mWk S rd v1.toNatClampNeg) s f) (hW : ∀ k, s ≤ k → k ≤ f → psum (ptM (mRn S rd v4.toNatClampNeg) (mRd S rd v2.toNatClampNeg) (mWk S rd v1.toNatClampNeg) v3 (nI k)) 5 = W k) (h : P_X11_wetAtBest m v1 v2 v3 v4 QJ S) : P_X11_wetAtBest m v1 v2 v3 v4 (fun x T => QJ x T ∧ S = T ∧ x = W (bst W s (f - s))) S := by
  delta P_X11_wetAtBest P_X11_wetAtBest_0
  obtain ⟨o1, h⟩ := h
  refine ⟨o1, ?_⟩
  refine cm_X11_bestOf (sp_X11_bestOf he e3 sf hW h) h (fun x3 S1 hp h gg => ?_)
  have h := h gg
  obtain ⟨-, hS, hx⟩ := hp
  subst hS
  refine cm_X11_wetOf (sp_X11_wetOf he e3 h) h (fun x5 S1 hp h gg => ⟨h gg, hp.2.1, ?_⟩)
  have r := bst_r (W := W) (s := s) (f - s)
  have sl := sf.2.2
  rw [hp.2.2, hx]
  exact hW _ r.1 (by omega)
theorem tl_X9_best {r w1 w2 l b0 b1 : Nat} (hI : IV S) (J : CJ c r w1 w2 S) (hc : Cnt w1 A S) (ct : CtB w1 A G S S) (ab : ABd A) (gb : GBd A G) (lg : LG c l b0 b1 S) (h : P_X9_best c v1 v2 v3 v4 Q S) : P_X9_best c v1 v2 v3 v4 (fun x T => Q x T ∧ x = tellbest A G v1 v2 v3 v4) S := by
  have ow1 := J.2.2.2.2.2.1
  have oc := J.2.2.2.1
  unfold tellbest
  delta P_X9_best P_X9_best_0
  obtain ⟨o1, h⟩ := h
  refine ⟨o1, ?_⟩
  refine cm_X9_tripTrouble (sp_X9_tripTrouble hI J hc ab h) h (fun xt S1 hp h g => ?_)
  have h := h g
  obtain ⟨-, hS, ht⟩ := hp
  subst hS
  refine cm_X9_refusedBy (sp_X9_refusedBy h) h (fun xr S1 hp h g bq => ?_)
  have h := h g bq
  obtain ⟨-, hS, hr⟩ := hp
  subst hS
  refine Iff.mp and_comm ⟨fun cn => ⟨h.2 cn, ?_⟩, fun cn => ?_⟩
  · rw [dc_n (fun z => an1 hr cn (ht.trans (trN_y z)))]
  have h0 : trN A v1 v2 v3 v4 = 0 := Classical.byContradiction (fun z => an0 hr cn (by rw [ht]; exact z))
  have h := h.1 cn
  have ok := trN_0 h0
  rw [dc_y ok]
  rw [ht, h0] at h
  rw [ht, h0]
  obtain ⟨i1, i2, i4, bn, bd, bw⟩ := ok_ix ab gb ok
  have sf := gSF bw
  obtain ⟨a2, e2, h⟩ := h
  refine ⟨a2, e2, ?_⟩
  cases (lg.1).symm.trans e2
  obtain ⟨a3, e3, h⟩ := h
  refine ⟨a3, e3, ?_⟩
  cases (J.1).symm.trans e3
  obtain ⟨o4, h⟩ := h
  refine ⟨o4, ?_⟩
  obtain ⟨a5, e5, h⟩ := h
  refine ⟨a5, e5, ?_⟩
  obtain ⟨o6, h⟩ := h
  refine ⟨o6, ?_⟩
  obtain ⟨o7, h⟩ := h
  refine ⟨o7, ?_⟩
  obtain ⟨a8, e8, h⟩ := h
  refine ⟨a8, e8, ?_⟩
  obtain ⟨kwk, rwk, twk⟩ := wk_at (z := 0) hI ow1 oc ct ab e5 i1 e8
  obtain ⟨a9, e9, h⟩ := h
  refine ⟨a9, e9, ?_⟩
  cases (J.1).symm.trans e9
  obtain ⟨o10, h⟩ := h
  refine ⟨o10, ?_⟩
  obtain ⟨a11, e11, h⟩ := h
  refine ⟨a11, e11, ?_⟩
  obtain ⟨o12, h⟩ := h
  refine ⟨o12, ?_⟩
  obtain ⟨o13, h⟩ := h
  refine ⟨o13, ?_⟩
  obtain ⟨a14, e14, h⟩ := h
  refine ⟨a14, e14, ?_⟩
  obtain ⟨krd, rrd, trd⟩ := rd_at (z := 0) hI ow1 oc ct ab e11 i2 e14
  obtain ⟨a15, e15, h⟩ := h
  refine ⟨a15, e15, ?_⟩
  cases (J.1).symm.trans e15
  obtain ⟨o16, h⟩ := h
  refine ⟨o16, ?_⟩
  obtain ⟨a17, e17, h⟩ := h
  refine ⟨a17, e17, ?_⟩
  obtain ⟨o18, h⟩ := h
  refine ⟨o18, ?_⟩
  obtain ⟨o19, h⟩ := h
  refine ⟨o19, ?_⟩
  obtain ⟨a20, e20, h⟩ := h
  refine ⟨a20, e20, ?_⟩
  obtain ⟨krn, rrn, trn⟩ := rn_at (z := 0) hI ow1 oc ct ab e17 i4 e20
  obtain ⟨o21, h⟩ := h
  refine ⟨o21, ?_⟩
  have sc := SpF_c twk sf
  have hW := fun u => cls_W (u := u) (s := gS G v1) (f := gF G v1) bn bd bw trn trd twk sf.2.2.1 sf.2.2.2.2
  refine cm_X1_bestSpeed (sp_X1_bestSpeed (S := sI S c 9 0) sc (hW v3) lg.2.2.1 lg.2.2.2.1 lg.2.2.2.2 h) h (fun xx S1 hp h g => ⟨h g, ?_⟩)
  obtain ⟨-, ff, hS, hx⟩ := hp
  rw [hx]
  rfl
theorem tl_X9_worst {r w1 w2 l b0 b1 : Nat} (hI : IV S) (J : CJ c r w1 w2 S) (hc : Cnt w1 A S) (ct : CtB w1 A G S S) (ab : ABd A) (gb : GBd A G) (lg : LG c l b0 b1 S) (h : P_X9_worst c v1 v2 v3 v4 Q S) : P_X9_worst c v1 v2 v3 v4 (fun x T => Q x T ∧ x = tellworst A G v1 v2 v3 v4) S := by
  have ow1 := J.2.2.2.2.2.1
  have oc := J.2.2.2.1
  unfold tellworst
  delta P_X9_worst P_X9_worst_0
  obtain ⟨o22, h⟩ := h
  refine ⟨o22, ?_⟩
  refine cm_X9_tripTrouble (sp_X9_tripTrouble hI J hc ab h) h (fun xt S1 hp h g => ?_)
  have h := h g
  obtain ⟨-, hS, ht⟩ := hp
  subst hS
  refine cm_X9_refusedBy (sp_X9_refusedBy h) h (fun xr S1 hp h g bq => ?_)
  have h := h g bq
  obtain ⟨-, hS, hr⟩ := hp
  subst hS
  refine Iff.mp and_comm ⟨fun cn => ⟨h.2 cn, ?_⟩, fun cn => ?_⟩
  · rw [dc_n (fun z => an1 hr cn (ht.trans (trN_y z)))]
  have h0 : trN A v1 v2 v3 v4 = 0 := Classical.byContradiction (fun z => an0 hr cn (by rw [ht]; exact z))
  have h := h.1 cn
  have ok := trN_0 h0
  rw [dc_y ok]
  rw [ht, h0] at h
  rw [ht, h0]
  obtain ⟨i1, i2, i4, bn, bd, bw⟩ := ok_ix ab gb ok
  have sf := gSF bw
  obtain ⟨a23, e23, h⟩ := h
  refine ⟨a23, e23, ?_⟩
  cases (lg.1).symm.trans e23
  obtain ⟨a24, e24, h⟩ := h
  refine ⟨a24, e24, ?_⟩
  cases (J.1).symm.trans e24
  obtain ⟨o25, h⟩ := h
  refine ⟨o25, ?_⟩
  obtain ⟨a26, e26, h⟩ := h
  refine ⟨a26, e26, ?_⟩
  obtain ⟨o27, h⟩ := h
  refine ⟨o27, ?_⟩
  obtain ⟨o28, h⟩ := h
  refine ⟨o28, ?_⟩
  obtain ⟨a29, e29, h⟩ := h
  refine ⟨a29, e29, ?_⟩
  obtain ⟨kwk, rwk, twk⟩ := wk_at (z := 0) hI ow1 oc ct ab e26 i1 e29
  obtain ⟨a30, e30, h⟩ := h
  refine ⟨a30, e30, ?_⟩
  cases (J.1).symm.trans e30
  obtain ⟨o31, h⟩ := h
  refine ⟨o31, ?_⟩
  obtain ⟨a32, e32, h⟩ := h
  refine ⟨a32, e32, ?_⟩
  obtain ⟨o33, h⟩ := h
  refine ⟨o33, ?_⟩
  obtain ⟨o34, h⟩ := h
  refine ⟨o34, ?_⟩
  obtain ⟨a35, e35, h⟩ := h
  refine ⟨a35, e35, ?_⟩
  obtain ⟨krd, rrd, trd⟩ := rd_at (z := 0) hI ow1 oc ct ab e32 i2 e35
  obtain ⟨a36, e36, h⟩ := h
  refine ⟨a36, e36, ?_⟩
  cases (J.1).symm.trans e36
  obtain ⟨o37, h⟩ := h
  refine ⟨o37, ?_⟩
  obtain ⟨a38, e38, h⟩ := h
  refine ⟨a38, e38, ?_⟩
  obtain ⟨o39, h⟩ := h
  refine ⟨o39, ?_⟩
  obtain ⟨o40, h⟩ := h
  refine ⟨o40, ?_⟩
  obtain ⟨a41, e41, h⟩ := h
  refine ⟨a41, e41, ?_⟩
  obtain ⟨krn, rrn, trn⟩ := rn_at (z := 0) hI ow1 oc ct ab e38 i4 e41
  obtain ⟨o42, h⟩ := h
  refine ⟨o42, ?_⟩
  have sc := SpF_c twk sf
  have hW := fun u => cls_W (u := u) (s := gS G v1) (f := gF G v1) bn bd bw trn trd twk sf.2.2.1 sf.2.2.2.2
  refine cm_X1_worstSpeed (sp_X1_worstSpeed (S := sI S c 9 0) sc (hW v3) lg.2.2.1 lg.2.2.2.1 lg.2.2.2.2 h) h (fun xx S1 hp h g => ⟨h g, ?_⟩)
  obtain ⟨-, ff, hS, hx⟩ := hp
  rw [hx]
  rfl
theorem tl_X9_saves {r w1 w2 l b0 b1 : Nat} (hI : IV S) (J : CJ c r w1 w2 S) (hc : Cnt w1 A S) (ct : CtB w1 A G S S) (ab : ABd A) (gb : GBd A G) (lg : LG c l b0 b1 S) (h : P_X9_saves c v1 v2 v3 v4 v5 QJ S) : P_X9_saves c v1 v2 v3 v4 v5 (fun x T => QJ x T ∧ x = tellsaves A G v1 v2 v3 v4 v5) S := by
  have ow1 := J.2.2.2.2.2.1
  have oc := J.2.2.2.1
  unfold tellsaves
  delta P_X9_saves P_X9_saves_0
  obtain ⟨o43, h⟩ := h
  refine ⟨o43, ?_⟩
  refine cm_X9_tripTrouble (sp_X9_tripTrouble hI J hc ab h) h (fun xt S1 hp h g => ?_)
  have h := h g
  obtain ⟨-, hS, ht⟩ := hp
  subst hS
  refine cm_X9_refusedBy (sp_X9_refusedBy h) h (fun xr S1 hp h g bq => ?_)
  have h := h g bq
  obtain ⟨-, hS, hr⟩ := hp
  subst hS
  refine Iff.mp and_comm ⟨fun cn => ⟨h.2 cn, ?_⟩, fun cn => ?_⟩
  · rw [dc_n (fun z => an1 hr cn (ht.trans (trN_y z)))]
  have h0 : trN A v1 v2 v3 v4 = 0 := Classical.byContradiction (fun z => an0 hr cn (by rw [ht]; exact z))
  have h := h.1 cn
  have ok := trN_0 h0
  rw [dc_y ok]
  rw [ht, h0] at h
  rw [ht, h0]
  obtain ⟨i1, i2, i4, bn, bd, bw⟩ := ok_ix ab gb ok
  have sf := gSF bw
  obtain ⟨a44, e44, h⟩ := h
  refine ⟨a44, e44, ?_⟩
  cases (J.1).symm.trans e44
  obtain ⟨o45, h⟩ := h
  refine ⟨o45, ?_⟩
  obtain ⟨a46, e46, h⟩ := h
  refine ⟨a46, e46, ?_⟩
  obtain ⟨o47, h⟩ := h
  refine ⟨o47, ?_⟩
  obtain ⟨o48, h⟩ := h
  refine ⟨o48, ?_⟩
  obtain ⟨a49, e49, h⟩ := h
  refine ⟨a49, e49, ?_⟩
  obtain ⟨kwk, rwk, twk⟩ := wk_at (z := 0) hI ow1 oc ct ab e46 i1 e49
  obtain ⟨a50, e50, h⟩ := h
  refine ⟨a50, e50, ?_⟩
  cases (lg.1).symm.trans e50
  obtain ⟨a51, e51, h⟩ := h
  refine ⟨a51, e51, ?_⟩
  cases (J.1).symm.trans e51
  obtain ⟨o52, h⟩ := h
  refine ⟨o52, ?_⟩
  obtain ⟨a53, e53, h⟩ := h
  refine ⟨a53, e53, ?_⟩
  obtain ⟨o54, h⟩ := h
  refine ⟨o54, ?_⟩
  obtain ⟨o55, h⟩ := h
  refine ⟨o55, ?_⟩
  obtain ⟨a56, e56, h⟩ := h
  refine ⟨a56, e56, ?_⟩
  obtain ⟨krd, rrd, trd⟩ := rd_at (z := 0) hI ow1 oc ct ab e53 i2 e56
  obtain ⟨a57, e57, h⟩ := h
  refine ⟨a57, e57, ?_⟩
  cases (J.1).symm.trans e57
  obtain ⟨o58, h⟩ := h
  refine ⟨o58, ?_⟩
  obtain ⟨a59, e59, h⟩ := h
  refine ⟨a59, e59, ?_⟩
  obtain ⟨o60, h⟩ := h
  refine ⟨o60, ?_⟩
  obtain ⟨o61, h⟩ := h
  refine ⟨o61, ?_⟩
  obtain ⟨a62, e62, h⟩ := h
  refine ⟨a62, e62, ?_⟩
  obtain ⟨krn, rrn, trn⟩ := rn_at (z := 0) hI ow1 oc ct ab e59 i4 e62
  obtain ⟨o63, h⟩ := h
  refine ⟨o63, ?_⟩
  intro x64 q64
  have h := h x64 q64
  obtain ⟨o65, h⟩ := h
  refine ⟨o65, ?_⟩
  have sc := SpF_c twk sf
  have hW := fun u => cls_W (u := u) (s := gS G v1) (f := gF G v1) bn bd bw trn trd twk sf.2.2.1 sf.2.2.2.2
  replace q64 := (q64.trans (twk 5 (by decide))).trans sf.1
  have e00 : (0 : Int32).toInt = 0 := by decide
  have s1 := sf.2.2
  refine cm_X1_wetOf (sp_X1_wetOf (S := sI S c 9 0) (fun z => by have := le_i z; rw [q64, nI_i (by omega)] at this; omega) lg.2.2.1 lg.2.2.2.1 lg.2.2.2.2 h) h (fun zz S1 hp h g => ?_)
  have h := h g
  obtain ⟨-, ff, hS, -, -, hz⟩ := hp
  subst hS
  rw [q64, (hW v3 _ (Nat.le_refl _) s1.2.1).1] at hz
  obtain ⟨a66, e66, h⟩ := h
  refine ⟨a66, e66, ?_⟩
  cases (lg.1).symm.trans e66
  obtain ⟨a67, e67, h⟩ := h
  refine ⟨a67, e67, ?_⟩
  cases (J.1).symm.trans e67
  obtain ⟨o68, h⟩ := h
  refine ⟨o68, ?_⟩
  obtain ⟨a69, e69, h⟩ := h
  refine ⟨a69, e69, ?_⟩
  cases (e53).symm.trans e69
  obtain ⟨o70, h⟩ := h
  refine ⟨o70, ?_⟩
  obtain ⟨o71, h⟩ := h
  refine ⟨o71, ?_⟩
  obtain ⟨a72, e72, h⟩ := h
  refine ⟨a72, e72, ?_⟩
  cases (e56).symm.trans e72
  obtain ⟨a73, e73, h⟩ := h
  refine ⟨a73, e73, ?_⟩
  cases (J.1).symm.trans e73
  obtain ⟨o74, h⟩ := h
  refine ⟨o74, ?_⟩
  obtain ⟨a75, e75, h⟩ := h
  refine ⟨a75, e75, ?_⟩
  cases (e59).symm.trans e75
  obtain ⟨o76, h⟩ := h
  refine ⟨o76, ?_⟩
  obtain ⟨o77, h⟩ := h
  refine ⟨o77, ?_⟩
  obtain ⟨a78, e78, h⟩ := h
  refine ⟨a78, e78, ?_⟩
  cases (e62).symm.trans e78
  obtain ⟨o79, h⟩ := h
  refine ⟨o79, ?_⟩
  refine cm_X1_leastWet (sp_X1_leastWet (S := wJ (sI S c 9 0) ff) sc (hW v3) lg.2.2.1 lg.2.2.2.1 lg.2.2.2.2 h) h (fun yy S1 hp h g => ?_)
  have h := h g
  obtain ⟨-, f2, hS, hy⟩ := hp
  subst hS
  have hb := bst_min (W := gW G v1 v2 v3 v4) (s := gS G v1) (gF G v1 - gS G v1) 0 (by omega)
  have r := bst_r (W := gW G v1 v2 v3 v4) (s := gS G v1) (gF G v1 - gS G v1)
  have p1 := rW_b (u := v3) (k := gS G v1) bn bd bw s1.1 (by omega)
  have p2 := rW_b (u := v3) (k := gB G v1 v2 v3 v4) bn bd bw (by unfold gB; omega) (by unfold gB; omega)
  replace hz : zz = gW G v1 v2 v3 v4 (gS G v1) := hz
  replace hy : yy = gL G v1 v2 v3 v4 := hy
  have p1 : 0 ≤ (gW G v1 v2 v3 v4 (gS G v1)).toInt ∧ (gW G v1 v2 v3 v4 (gS G v1)).toInt ≤ 18738216000 := p1
  have p2 : 0 ≤ (gL G v1 v2 v3 v4).toInt ∧ (gL G v1 v2 v3 v4).toInt ≤ 18738216000 := p2
  have hb : (gL G v1 v2 v3 v4).toInt ≤ (gW G v1 v2 v3 v4 (gS G v1)).toInt := hb
  have ed : (gW G v1 v2 v3 v4 (gS G v1) - gL G v1 v2 v3 v4).toInt = (gW G v1 v2 v3 v4 (gS G v1)).toInt - (gL G v1 v2 v3 v4).toInt := by
    rw [Int64.toInt_sub, Int.bmod_eq_of_le (by omega) (by omega)]
  rw [hz, hy] at h
  rw [hz, hy]
  exact cm_X9_fraction (sp_X9_fraction (by omega) (by decide) h) h (fun x U hp h g => ⟨h g, hp.2.2⟩)
theorem tl_X9_even {r w1 w2 l b0 b1 : Nat} (hI : IV S) (J : CJ c r w1 w2 S) (hc : Cnt w1 A S) (ct : CtB w1 A G S S) (ab : ABd A) (gb : GBd A G) (lg : LG c l b0 b1 S) (h : P_X9_even c v1 v2 v3 v4 Q S) : P_X9_even c v1 v2 v3 v4 (fun x T => Q x T ∧ x = telleven A G v1 v2 v3 v4) S := by
  have ow1 := J.2.2.2.2.2.1
  have oc := J.2.2.2.1
  unfold telleven
  delta P_X9_even P_X9_even_0
  obtain ⟨o80, h⟩ := h
  refine ⟨o80, ?_⟩
  refine cm_X9_tripTrouble (sp_X9_tripTrouble hI J hc ab h) h (fun xt S1 hp h g => ?_)
  have h := h g
  obtain ⟨-, hS, ht⟩ := hp
  subst hS
  refine cm_X9_refusedBy (sp_X9_refusedBy h) h (fun xr S1 hp h g bq => ?_)
  have h := h g bq
  obtain ⟨-, hS, hr⟩ := hp
  subst hS
  refine Iff.mp and_comm ⟨fun cn => ⟨h.2 cn, ?_⟩, fun cn => ?_⟩
  · rw [dc_n (fun z => an1 hr cn (ht.trans (trN_y z)))]
  have h0 : trN A v1 v2 v3 v4 = 0 := Classical.byContradiction (fun z => an0 hr cn (by rw [ht]; exact z))
  have h := h.1 cn
  have ok := trN_0 h0
  rw [dc_y ok]
  rw [ht, h0] at h
  rw [ht, h0]
  obtain ⟨i1, i2, i4, bn, bd, bw⟩ := ok_ix ab gb ok
  have sf := gSF bw
  obtain ⟨a81, e81, h⟩ := h
  refine ⟨a81, e81, ?_⟩
  cases (J.1).symm.trans e81
  obtain ⟨o82, h⟩ := h
  refine ⟨o82, ?_⟩
  obtain ⟨a83, e83, h⟩ := h
  refine ⟨a83, e83, ?_⟩
  obtain ⟨o84, h⟩ := h
  refine ⟨o84, ?_⟩
  obtain ⟨o85, h⟩ := h
  refine ⟨o85, ?_⟩
  obtain ⟨a86, e86, h⟩ := h
  refine ⟨a86, e86, ?_⟩
  obtain ⟨kwk, rwk, twk⟩ := wk_at (z := 0) hI ow1 oc ct ab e83 i1 e86
  obtain ⟨a87, e87, h⟩ := h
  refine ⟨a87, e87, ?_⟩
  cases (lg.1).symm.trans e87
  obtain ⟨a88, e88, h⟩ := h
  refine ⟨a88, e88, ?_⟩
  cases (J.1).symm.trans e88
  obtain ⟨o89, h⟩ := h
  refine ⟨o89, ?_⟩
  obtain ⟨a90, e90, h⟩ := h
  refine ⟨a90, e90, ?_⟩
  obtain ⟨o91, h⟩ := h
  refine ⟨o91, ?_⟩
  obtain ⟨o92, h⟩ := h
  refine ⟨o92, ?_⟩
  obtain ⟨a93, e93, h⟩ := h
  refine ⟨a93, e93, ?_⟩
  obtain ⟨krd, rrd, trd⟩ := rd_at (z := 0) hI ow1 oc ct ab e90 i2 e93
  obtain ⟨a94, e94, h⟩ := h
  refine ⟨a94, e94, ?_⟩
  cases (J.1).symm.trans e94
  obtain ⟨o95, h⟩ := h
  refine ⟨o95, ?_⟩
  obtain ⟨a96, e96, h⟩ := h
  refine ⟨a96, e96, ?_⟩
  obtain ⟨o97, h⟩ := h
  refine ⟨o97, ?_⟩
  obtain ⟨o98, h⟩ := h
  refine ⟨o98, ?_⟩
  obtain ⟨a99, e99, h⟩ := h
  refine ⟨a99, e99, ?_⟩
  obtain ⟨krn, rrn, trn⟩ := rn_at (z := 0) hI ow1 oc ct ab e96 i4 e99
  obtain ⟨o100, h⟩ := h
  refine ⟨o100, ?_⟩
  have sc := SpF_c twk sf
  have hW := fun u => cls_W (u := u) (s := gS G v1) (f := gF G v1) bn bd bw trn trd twk sf.2.2.1 sf.2.2.2.2
  refine cm_X1_worstSpeed (sp_X1_worstSpeed (S := sI S c 9 0) sc (hW v3) lg.2.2.1 lg.2.2.2.1 lg.2.2.2.2 h) h (fun xx S1 hp h g => ?_)
  have h := h g
  obtain ⟨-, f1, hS, hx⟩ := hp
  subst hS
  obtain ⟨a101, e101, h⟩ := h
  refine ⟨a101, e101, ?_⟩
  cases (lg.1).symm.trans e101
  obtain ⟨a102, e102, h⟩ := h
  refine ⟨a102, e102, ?_⟩
  cases (J.1).symm.trans e102
  obtain ⟨o103, h⟩ := h
  refine ⟨o103, ?_⟩
  obtain ⟨a104, e104, h⟩ := h
  refine ⟨a104, e104, ?_⟩
  cases (e90).symm.trans e104
  obtain ⟨o105, h⟩ := h
  refine ⟨o105, ?_⟩
  obtain ⟨o106, h⟩ := h
  refine ⟨o106, ?_⟩
  obtain ⟨a107, e107, h⟩ := h
  refine ⟨a107, e107, ?_⟩
  cases (e93).symm.trans e107
  obtain ⟨a108, e108, h⟩ := h
  refine ⟨a108, e108, ?_⟩
  cases (J.1).symm.trans e108
  obtain ⟨o109, h⟩ := h
  refine ⟨o109, ?_⟩
  obtain ⟨a110, e110, h⟩ := h
  refine ⟨a110, e110, ?_⟩
  cases (e96).symm.trans e110
  obtain ⟨o111, h⟩ := h
  refine ⟨o111, ?_⟩
  obtain ⟨o112, h⟩ := h
  refine ⟨o112, ?_⟩
  obtain ⟨a113, e113, h⟩ := h
  refine ⟨a113, e113, ?_⟩
  cases (e99).symm.trans e113
  obtain ⟨o114, h⟩ := h
  refine ⟨o114, ?_⟩
  refine cm_X1_leastWet (sp_X1_leastWet (S := wJ (sI S c 9 0) f1) sc (hW v3) lg.2.2.1 lg.2.2.2.1 lg.2.2.2.2 h) h (fun yy S1 hp h g => ?_)
  have h := h g
  obtain ⟨-, f2, hS, hy⟩ := hp
  subst hS
  obtain ⟨a115, e115, h⟩ := h
  refine ⟨a115, e115, ?_⟩
  cases (lg.1).symm.trans e115
  obtain ⟨a116, e116, h⟩ := h
  refine ⟨a116, e116, ?_⟩
  cases (J.1).symm.trans e116
  obtain ⟨o117, h⟩ := h
  refine ⟨o117, ?_⟩
  obtain ⟨a118, e118, h⟩ := h
  refine ⟨a118, e118, ?_⟩
  cases (e90).symm.trans e118
  obtain ⟨o119, h⟩ := h
  refine ⟨o119, ?_⟩
  obtain ⟨o120, h⟩ := h
  refine ⟨o120, ?_⟩
  obtain ⟨a121, e121, h⟩ := h
  refine ⟨a121, e121, ?_⟩
  cases (e93).symm.trans e121
  obtain ⟨a122, e122, h⟩ := h
  refine ⟨a122, e122, ?_⟩
  cases (J.1).symm.trans e122
  obtain ⟨o123, h⟩ := h
  refine ⟨o123, ?_⟩
  obtain ⟨a124, e124, h⟩ := h
  refine ⟨a124, e124, ?_⟩
  cases (e96).symm.trans e124
  obtain ⟨o125, h⟩ := h
  refine ⟨o125, ?_⟩
  obtain ⟨o126, h⟩ := h
  refine ⟨o126, ?_⟩
  obtain ⟨a127, e127, h⟩ := h
  refine ⟨a127, e127, ?_⟩
  cases (e99).symm.trans e127
  obtain ⟨o128, h⟩ := h
  refine ⟨o128, ?_⟩
  have e00 : (0 : Int32).toInt = 0 := by decide
  have s1 := sf.2.2
  have r := wst_r (W := gW G v1 v2 v3 v4) (s := gS G v1) (gF G v1 - gS G v1)
  replace hx : xx = nI (gM G v1 v2 v3 v4) := hx
  replace hy : yy = gL G v1 v2 v3 v4 := hy
  have r1 : gS G v1 ≤ gM G v1 v2 v3 v4 := r.1
  have r2 : gM G v1 v2 v3 v4 ≤ gF G v1 := Nat.le_trans r.2 (by omega)
  refine cm_X1_wetOf (sp_X1_wetOf (S := wJ (sI S c 9 0) f2) (fun z => by have := le_i z; rw [hx, nI_i (by omega)] at this; omega) lg.2.2.1 lg.2.2.2.1 lg.2.2.2.2 h) h (fun zz S1 hp h g => ?_)
  have h := h g
  obtain ⟨-, f3, hS, -, -, hz⟩ := hp
  subst hS
  replace hz : zz = gW G v1 v2 v3 v4 (gM G v1 v2 v3 v4) := by
    rw [hz, hx]
    exact (hW v3 _ r1 r2).1
  rw [hz, hy] at h
  rw [hz, hy]
  exact ⟨fun c3 => ⟨h.1 c3, by rw [dc_n (fun z => c3 (lgc_eq.mpr z))]⟩, fun c3 => ⟨h.2 c3, by rw [dc_y (lgc_eq.mp c3)]⟩⟩
theorem tl_X9_round {r w1 w2 l b0 b1 : Nat} (hI : IV S) (J : CJ c r w1 w2 S) (hc : Cnt w1 A S) (ct : CtB w1 A G S S) (ab : ABd A) (gb : GBd A G) (lg : LG c l b0 b1 S) (h : P_X9_round c v1 v2 v3 v4 QJ S) : P_X9_round c v1 v2 v3 v4 (fun x T => QJ x T ∧ x = tellround A G v1 v2 v3 v4) S := by
  have ow1 := J.2.2.2.2.2.1
  have oc := J.2.2.2.1
  unfold tellround
  delta P_X9_round P_X9_round_0
  obtain ⟨o129, h⟩ := h
  refine ⟨o129, ?_⟩
  refine cm_X9_tripTrouble (sp_X9_tripTrouble hI J hc ab h) h (fun xt S1 hp h g => ?_)
  have h := h g
  obtain ⟨-, hS, ht⟩ := hp
  subst hS
  refine cm_X9_refusedBy (sp_X9_refusedBy h) h (fun xr S1 hp h g bq => ?_)
  have h := h g bq
  obtain ⟨-, hS, hr⟩ := hp
  subst hS
  refine Iff.mp and_comm ⟨fun cn => ⟨h.2 cn, ?_⟩, fun cn => ?_⟩
  · rw [dc_n (fun z => an1 hr cn (ht.trans (trN_y z)))]
  have h0 : trN A v1 v2 0 v3 = 0 := Classical.byContradiction (fun z => an0 hr cn (by rw [ht]; exact z))
  have h := h.1 cn
  have ok := trN_0 h0
  rw [dc_y ok]
  rw [ht, h0] at h
  rw [ht, h0]
  obtain ⟨i1, i2, i4, bn, bd, bw⟩ := ok_ix ab gb ok
  have sf := gSF bw
  obtain ⟨a130, e130, h⟩ := h
  refine ⟨a130, e130, ?_⟩
  cases (lg.1).symm.trans e130
  obtain ⟨a131, e131, h⟩ := h
  refine ⟨a131, e131, ?_⟩
  cases (J.1).symm.trans e131
  obtain ⟨o132, h⟩ := h
  refine ⟨o132, ?_⟩
  obtain ⟨a133, e133, h⟩ := h
  refine ⟨a133, e133, ?_⟩
  obtain ⟨o134, h⟩ := h
  refine ⟨o134, ?_⟩
  obtain ⟨o135, h⟩ := h
  refine ⟨o135, ?_⟩
  obtain ⟨a136, e136, h⟩ := h
  refine ⟨a136, e136, ?_⟩
  obtain ⟨kwk, rwk, twk⟩ := wk_at (z := 0) hI ow1 oc ct ab e133 i1 e136
  obtain ⟨a137, e137, h⟩ := h
  refine ⟨a137, e137, ?_⟩
  cases (J.1).symm.trans e137
  obtain ⟨o138, h⟩ := h
  refine ⟨o138, ?_⟩
  obtain ⟨a139, e139, h⟩ := h
  refine ⟨a139, e139, ?_⟩
  obtain ⟨o140, h⟩ := h
  refine ⟨o140, ?_⟩
  obtain ⟨o141, h⟩ := h
  refine ⟨o141, ?_⟩
  obtain ⟨a142, e142, h⟩ := h
  refine ⟨a142, e142, ?_⟩
  obtain ⟨krd, rrd, trd⟩ := rd_at (z := 0) hI ow1 oc ct ab e139 i2 e142
  obtain ⟨a143, e143, h⟩ := h
  refine ⟨a143, e143, ?_⟩
  cases (J.1).symm.trans e143
  obtain ⟨o144, h⟩ := h
  refine ⟨o144, ?_⟩
  obtain ⟨a145, e145, h⟩ := h
  refine ⟨a145, e145, ?_⟩
  obtain ⟨o146, h⟩ := h
  refine ⟨o146, ?_⟩
  obtain ⟨o147, h⟩ := h
  refine ⟨o147, ?_⟩
  obtain ⟨a148, e148, h⟩ := h
  refine ⟨a148, e148, ?_⟩
  obtain ⟨krn, rrn, trn⟩ := rn_at (z := 0) hI ow1 oc ct ab e145 i4 e148
  obtain ⟨o149, h⟩ := h
  refine ⟨o149, ?_⟩
  have sc := SpF_c twk sf
  have hW := fun u => cls_W (u := u) (s := gS G v1) (f := gF G v1) bn bd bw trn trd twk sf.2.2.1 sf.2.2.2.2
  refine cm_X1_leastWet (sp_X1_leastWet (S := sI S c 9 0) sc (hW 0) lg.2.2.1 lg.2.2.2.1 lg.2.2.2.2 h) h (fun yy S1 hp h g => ?_)
  have h := h g
  obtain ⟨-, f1, hS, hy⟩ := hp
  subst hS
  obtain ⟨a150, e150, h⟩ := h
  refine ⟨a150, e150, ?_⟩
  cases (lg.1).symm.trans e150
  obtain ⟨a151, e151, h⟩ := h
  refine ⟨a151, e151, ?_⟩
  cases (J.1).symm.trans e151
  obtain ⟨o152, h⟩ := h
  refine ⟨o152, ?_⟩
  obtain ⟨a153, e153, h⟩ := h
  refine ⟨a153, e153, ?_⟩
  cases (e133).symm.trans e153
  obtain ⟨o154, h⟩ := h
  refine ⟨o154, ?_⟩
  obtain ⟨o155, h⟩ := h
  refine ⟨o155, ?_⟩
  obtain ⟨a156, e156, h⟩ := h
  refine ⟨a156, e156, ?_⟩
  cases (e136).symm.trans e156
  obtain ⟨a157, e157, h⟩ := h
  refine ⟨a157, e157, ?_⟩
  cases (J.1).symm.trans e157
  obtain ⟨o158, h⟩ := h
  refine ⟨o158, ?_⟩
  obtain ⟨a159, e159, h⟩ := h
  refine ⟨a159, e159, ?_⟩
  cases (e139).symm.trans e159
  obtain ⟨o160, h⟩ := h
  refine ⟨o160, ?_⟩
  obtain ⟨o161, h⟩ := h
  refine ⟨o161, ?_⟩
  obtain ⟨a162, e162, h⟩ := h
  refine ⟨a162, e162, ?_⟩
  cases (e142).symm.trans e162
  obtain ⟨a163, e163, h⟩ := h
  refine ⟨a163, e163, ?_⟩
  cases (J.1).symm.trans e163
  obtain ⟨o164, h⟩ := h
  refine ⟨o164, ?_⟩
  obtain ⟨a165, e165, h⟩ := h
  refine ⟨a165, e165, ?_⟩
  cases (e145).symm.trans e165
  obtain ⟨o166, h⟩ := h
  refine ⟨o166, ?_⟩
  obtain ⟨o167, h⟩ := h
  refine ⟨o167, ?_⟩
  obtain ⟨a168, e168, h⟩ := h
  refine ⟨a168, e168, ?_⟩
  cases (e148).symm.trans e168
  obtain ⟨o169, h⟩ := h
  refine ⟨o169, ?_⟩
  refine cm_X1_leastWet (sp_X1_leastWet (S := wJ (sI S c 9 0) f1) sc (hW 1) lg.2.2.1 lg.2.2.2.1 lg.2.2.2.2 h) h (fun zz S1 hp h g => ?_)
  have h := h g
  obtain ⟨-, f2, hS, hz⟩ := hp
  subst hS
  replace hy : yy = gL G v1 v2 0 v3 := hy
  replace hz : zz = gL G v1 v2 1 v3 := hz
  have s1 := sf.2.2
  have r1 := bst_r (W := gW G v1 v2 0 v3) (s := gS G v1) (gF G v1 - gS G v1)
  have r2 := bst_r (W := gW G v1 v2 1 v3) (s := gS G v1) (gF G v1 - gS G v1)
  have p1 : 0 ≤ (gL G v1 v2 0 v3).toInt ∧ (gL G v1 v2 0 v3).toInt ≤ 18738216000 := rW_b (u := 0) (k := gB G v1 v2 0 v3) bn bd bw (by unfold gB; omega) (by unfold gB; omega)
  have p2 : 0 ≤ (gL G v1 v2 1 v3).toInt ∧ (gL G v1 v2 1 v3).toInt ≤ 18738216000 := rW_b (u := 1) (k := gB G v1 v2 1 v3) bn bd bw (by unfold gB; omega) (by unfold gB; omega)
  have ed := (bJ_add (x := gL G v1 v2 0 v3) (y := gL G v1 v2 1 v3) ⟨rfl, p1⟩ ⟨rfl, p2⟩ (by decide)).1
  rw [hy, hz] at h
  rw [hy, hz]
  exact cm_X9_fraction (sp_X9_fraction (by omega) (by decide) h) h (fun x U hp h g => ⟨h g, hp.2.2⟩)
theorem tl_X11_best (hI : IV S) (hm : (fR S m 3 = none ∧ A = A00) ∨ ∃ rd, WRm m rd A G S) (ab : ABd A) (gb : GBd A G) (h : P_X11_best m v1 v2 v3 v4 Q S) : P_X11_best m v1 v2 v3 v4 (fun x T => Q x T ∧ x = tellbest A G v1 v2 v3 v4) S := by
  have no : ∀ T, ¬ trOK A v1 v2 v3 v4 → P_X11_best_39 Q m T → P_X11_best_39 (fun x T => Q x T ∧ x = tellbest A G v1 v2 v3 v4) m T := by
    intro T hn h
    delta P_X11_best_39
    obtain ⟨o170, h⟩ := h
    refine ⟨o170, ?_⟩
    refine cm_X11_refused (sp_X11_refused h) h (fun x U hp h g => ⟨h g, ?_⟩)
    unfold tellbest
    rw [dc_n hn, hp.2.1]
  delta P_X11_best P_X11_best_0
  obtain ⟨om, h⟩ := h
  refine ⟨om, ?_⟩
  intro S1 eS1
  have h := h S1 eS1
  have hm1 := hm_0 hm om eS1
  have hE := m_start hI eS1
  refine cm_X11_isWalker (sp_X11_isWalker hm1 h) h (fun x1 S2 hp h g b => ?_)
  have h := h g b
  obtain ⟨-, hS, hx1⟩ := hp
  subst hS
  refine ⟨fun cc => no _ (fun z => (hm1.elim (fun q => zero_n (by rw [q.2]; rfl) z.1) (fun q => an0 hx1 cc ⟨q, z.1⟩))) (h.1 cc), fun cc => ?_⟩
  have h := h.2 cc
  obtain ⟨⟨rd, hr⟩, k1⟩ := an1 hx1 cc
  refine cm_X11_isRoad (sp_X11_isRoad hm1 h) h (fun x2 S2 hp h g b => ?_)
  have h := h g b
  obtain ⟨-, hS, hx2⟩ := hp
  subst hS
  refine ⟨fun cc => no _ (fun z => an0 hx2 cc ⟨⟨rd, hr⟩, z.2.1⟩) (h.1 cc), fun cc => ?_⟩
  have h := h.2 cc
  obtain ⟨-, k2⟩ := an1 hx2 cc
  refine cm_X11_in (sp_X11_in h) h (fun x3 S2 hp h g b => ?_)
  have h := h g b
  obtain ⟨-, hS, hx3⟩ := hp
  subst hS
  refine ⟨fun cc => no _ (fun z => an0 hx3 cc (way_in.mpr z.2.2.1)) (h.1 cc), fun cc => ?_⟩
  have h := h.2 cc
  have k3 := way_in.mp (an1 hx3 cc)
  refine cm_X11_isHour (sp_X11_isHour hm1 h) h (fun x4 S2 hp h g b => ?_)
  have h := h g b
  obtain ⟨-, hS, hx4⟩ := hp
  subst hS
  refine Iff.mp and_comm ⟨fun cc => no _ (fun z => an0 hx4 cc ⟨⟨rd, hr⟩, z.2.2.2⟩) (h.2 cc), fun cc => ?_⟩
  have h := h.1 cc
  obtain ⟨-, k4⟩ := an1 hx4 cc
  have ok : trOK A v1 v2 v3 v4 := ⟨k1, k2, k3, k4⟩
  obtain ⟨i1, i2, i4, bn, bd, bw⟩ := ok_ix ab gb ok
  have sf := gSF bw
  have he := fun i => hE rd i hr.2.1
  obtain ⟨mn, md, mw⟩ := m_rows he hr i1 i2 i4
  have sc := SpF_c mw sf
  have hW : ∀ u k, gS G v1 ≤ k → k ≤ gF G v1 → psum (ptM (mRn S1 rd v4.toNatClampNeg) (mRd S1 rd v2.toNatClampNeg) (mWk S1 rd v1.toNatClampNeg) u (nI k)) 5 = gW G v1 v2 u v4 k := fun u k _ _ => by rw [ptM_c mn md mw]; rfl
  have s1 := sf.2.2
  refine cm_X11_bestOf (sp_X11_bestOf he hr.1 sc (hW v3) h) h (fun xx S2 hp h g => ?_)
  have h := h g
  obtain ⟨-, hS, hx⟩ := hp
  subst hS
  refine cm_X11_good (sp_X11_good h) h (fun y U hp h g => ⟨h g, ?_⟩)
  unfold tellbest
  rw [dc_y ok, hp.2.1, hx]
  rfl
theorem tl_X11_saves (hI : IV S) (hm : (fR S m 3 = none ∧ A = A00) ∨ ∃ rd, WRm m rd A G S) (ab : ABd A) (gb : GBd A G) (h : P_X11_saves m v1 v2 v3 v4 v5 QJ S) : P_X11_saves m v1 v2 v3 v4 v5 (fun x T => QJ x T ∧ x = tellsaves A G v1 v2 v3 v4 v5) S := by
  have no : ∀ T, ¬ trOK A v1 v2 v3 v4 → P_X11_saves_39 QJ m T → P_X11_saves_39 (fun x T => QJ x T ∧ x = tellsaves A G v1 v2 v3 v4 v5) m T := by
    intro T hn h
    delta P_X11_saves_39
    obtain ⟨o171, h⟩ := h
    refine ⟨o171, ?_⟩
    refine cm_X11_refused (sp_X11_refused h) h (fun x U hp h g => ⟨h g, ?_⟩)
    unfold tellsaves
    rw [dc_n hn, hp.2.1]
    rfl
  delta P_X11_saves P_X11_saves_0
  obtain ⟨om, h⟩ := h
  refine ⟨om, ?_⟩
  intro S1 eS1
  have h := h S1 eS1
  have hm1 := hm_0 hm om eS1
  have hE := m_start hI eS1
  refine cm_X11_isWalker (sp_X11_isWalker hm1 h) h (fun x1 S2 hp h g b => ?_)
  have h := h g b
  obtain ⟨-, hS, hx1⟩ := hp
  subst hS
  refine ⟨fun cc => no _ (fun z => (hm1.elim (fun q => zero_n (by rw [q.2]; rfl) z.1) (fun q => an0 hx1 cc ⟨q, z.1⟩))) (h.1 cc), fun cc => ?_⟩
  have h := h.2 cc
  obtain ⟨⟨rd, hr⟩, k1⟩ := an1 hx1 cc
  refine cm_X11_isRoad (sp_X11_isRoad hm1 h) h (fun x2 S2 hp h g b => ?_)
  have h := h g b
  obtain ⟨-, hS, hx2⟩ := hp
  subst hS
  refine ⟨fun cc => no _ (fun z => an0 hx2 cc ⟨⟨rd, hr⟩, z.2.1⟩) (h.1 cc), fun cc => ?_⟩
  have h := h.2 cc
  obtain ⟨-, k2⟩ := an1 hx2 cc
  refine cm_X11_in (sp_X11_in h) h (fun x3 S2 hp h g b => ?_)
  have h := h g b
  obtain ⟨-, hS, hx3⟩ := hp
  subst hS
  refine ⟨fun cc => no _ (fun z => an0 hx3 cc (way_in.mpr z.2.2.1)) (h.1 cc), fun cc => ?_⟩
  have h := h.2 cc
  have k3 := way_in.mp (an1 hx3 cc)
  refine cm_X11_isHour (sp_X11_isHour hm1 h) h (fun x4 S2 hp h g b => ?_)
  have h := h g b
  obtain ⟨-, hS, hx4⟩ := hp
  subst hS
  refine Iff.mp and_comm ⟨fun cc => no _ (fun z => an0 hx4 cc ⟨⟨rd, hr⟩, z.2.2.2⟩) (h.2 cc), fun cc => ?_⟩
  have h := h.1 cc
  obtain ⟨-, k4⟩ := an1 hx4 cc
  have ok : trOK A v1 v2 v3 v4 := ⟨k1, k2, k3, k4⟩
  obtain ⟨i1, i2, i4, bn, bd, bw⟩ := ok_ix ab gb ok
  have sf := gSF bw
  have he := fun i => hE rd i hr.2.1
  obtain ⟨mn, md, mw⟩ := m_rows he hr i1 i2 i4
  have sc := SpF_c mw sf
  have hW : ∀ u k, gS G v1 ≤ k → k ≤ gF G v1 → psum (ptM (mRn S1 rd v4.toNatClampNeg) (mRd S1 rd v2.toNatClampNeg) (mWk S1 rd v1.toNatClampNeg) u (nI k)) 5 = gW G v1 v2 u v4 k := fun u k _ _ => by rw [ptM_c mn md mw]; rfl
  have s1 := sf.2.2
  obtain ⟨a172, e172, h⟩ := h
  refine ⟨a172, e172, ?_⟩
  cases (hr.1).symm.trans e172
  obtain ⟨o173, h⟩ := h
  refine ⟨o173, ?_⟩
  obtain ⟨a174, e174, h⟩ := h
  refine ⟨a174, e174, ?_⟩
  obtain ⟨o175, h⟩ := h
  refine ⟨o175, ?_⟩
  obtain ⟨o176, h⟩ := h
  refine ⟨o176, ?_⟩
  intro x177 q177
  have h := h x177 q177
  replace q177 := q177.trans (mwk (j := 5) e174)
  replace q177 := q177.trans sc.1
  refine cm_X11_wetOf (sp_X11_wetOf he hr.1 h) h (fun zz S2 hp h g => ?_)
  have h := h g
  obtain ⟨-, hS, hz⟩ := hp
  subst hS
  rw [q177, hW v3 _ (Nat.le_refl _) s1.2.1] at hz
  refine cm_X11_bestOf (sp_X11_bestOf he hr.1 sc (hW v3) h) h (fun xx S2 hp h g => ?_)
  have h := h g
  obtain ⟨-, hS, hx⟩ := hp
  subst hS
  refine cm_X11_wetOf (sp_X11_wetOf he hr.1 h) h (fun yy S2 hp h g => ?_)
  have h := h g
  obtain ⟨-, hS, hy⟩ := hp
  subst hS
  have hb := bst_min (W := gW G v1 v2 v3 v4) (s := gS G v1) (gF G v1 - gS G v1) 0 (by omega)
  have r := bst_r (W := gW G v1 v2 v3 v4) (s := gS G v1) (gF G v1 - gS G v1)
  rw [hx, hW v3 _ r.1 (by omega)] at hy
  have p1 : 0 ≤ (gW G v1 v2 v3 v4 (gS G v1)).toInt ∧ (gW G v1 v2 v3 v4 (gS G v1)).toInt ≤ 18738216000 := rW_b (u := v3) (k := gS G v1) bn bd bw s1.1 (by omega)
  have p2 : 0 ≤ (gL G v1 v2 v3 v4).toInt ∧ (gL G v1 v2 v3 v4).toInt ≤ 18738216000 := rW_b (u := v3) (k := gB G v1 v2 v3 v4) bn bd bw (by unfold gB; omega) (by unfold gB; omega)
  replace hy : yy = gL G v1 v2 v3 v4 := hy
  have hb : (gL G v1 v2 v3 v4).toInt ≤ (gW G v1 v2 v3 v4 (gS G v1)).toInt := hb
  have ed : (gW G v1 v2 v3 v4 (gS G v1) - gL G v1 v2 v3 v4).toInt = (gW G v1 v2 v3 v4 (gS G v1)).toInt - (gL G v1 v2 v3 v4).toInt := by
    rw [Int64.toInt_sub, Int.bmod_eq_of_le (by omega) (by omega)]
  rw [hz, hy] at h
  rw [hz, hy]
  refine cm_X11_told (sp_X11_told (by omega) (by decide) h) h (fun x U hp h g => ⟨h g, ?_⟩)
  unfold tellsaves
  rw [dc_y ok]
  exact hp.2
theorem tl_X11_round (hI : IV S) (hm : (fR S m 3 = none ∧ A = A00) ∨ ∃ rd, WRm m rd A G S) (ab : ABd A) (gb : GBd A G) (h : P_X11_round m v1 v2 v3 v4 QJ S) : P_X11_round m v1 v2 v3 v4 (fun x T => QJ x T ∧ x = tellround A G v1 v2 v3 v4) S := by
  have no : ∀ T, ¬ trOK A v1 v2 0 v3 → P_X11_round_29 QJ m T → P_X11_round_29 (fun x T => QJ x T ∧ x = tellround A G v1 v2 v3 v4) m T := by
    intro T hn h
    delta P_X11_round_29
    obtain ⟨o178, h⟩ := h
    refine ⟨o178, ?_⟩
    refine cm_X11_refused (sp_X11_refused h) h (fun x U hp h g => ⟨h g, ?_⟩)
    unfold tellround
    rw [dc_n hn, hp.2.1]
    rfl
  delta P_X11_round P_X11_round_0
  obtain ⟨om, h⟩ := h
  refine ⟨om, ?_⟩
  intro S1 eS1
  have h := h S1 eS1
  have hm1 := hm_0 hm om eS1
  have hE := m_start hI eS1
  refine cm_X11_isWalker (sp_X11_isWalker hm1 h) h (fun x1 S2 hp h g b => ?_)
  have h := h g b
  obtain ⟨-, hS, hx1⟩ := hp
  subst hS
  refine ⟨fun cc => no _ (fun z => (hm1.elim (fun q => zero_n (by rw [q.2]; rfl) z.1) (fun q => an0 hx1 cc ⟨q, z.1⟩))) (h.1 cc), fun cc => ?_⟩
  have h := h.2 cc
  obtain ⟨⟨rd, hr⟩, k1⟩ := an1 hx1 cc
  refine cm_X11_isRoad (sp_X11_isRoad hm1 h) h (fun x2 S2 hp h g b => ?_)
  have h := h g b
  obtain ⟨-, hS, hx2⟩ := hp
  subst hS
  refine ⟨fun cc => no _ (fun z => an0 hx2 cc ⟨⟨rd, hr⟩, z.2.1⟩) (h.1 cc), fun cc => ?_⟩
  have h := h.2 cc
  obtain ⟨-, k2⟩ := an1 hx2 cc
  refine cm_X11_isHour (sp_X11_isHour hm1 h) h (fun x4 S2 hp h g b => ?_)
  have h := h g b
  obtain ⟨-, hS, hx4⟩ := hp
  subst hS
  refine Iff.mp and_comm ⟨fun cc => no _ (fun z => an0 hx4 cc ⟨⟨rd, hr⟩, z.2.2.2⟩) (h.2 cc), fun cc => ?_⟩
  have h := h.1 cc
  obtain ⟨-, k4⟩ := an1 hx4 cc
  have ok : trOK A v1 v2 0 v3 := ⟨k1, k2, Or.inl rfl, k4⟩
  obtain ⟨i1, i2, i4, bn, bd, bw⟩ := ok_ix ab gb ok
  have sf := gSF bw
  have he := fun i => hE rd i hr.2.1
  obtain ⟨mn, md, mw⟩ := m_rows he hr i1 i2 i4
  have sc := SpF_c mw sf
  have hW : ∀ u k, gS G v1 ≤ k → k ≤ gF G v1 → psum (ptM (mRn S1 rd v3.toNatClampNeg) (mRd S1 rd v2.toNatClampNeg) (mWk S1 rd v1.toNatClampNeg) u (nI k)) 5 = gW G v1 v2 u v3 k := fun u k _ _ => by rw [ptM_c mn md mw]; rfl
  have s1 := sf.2.2
  refine cm_X11_wetAtBest (sp_X11_wetAtBest he hr.1 sc (hW 0) h) h (fun yy S2 hp h g => ?_)
  have h := h g
  obtain ⟨-, hS, hy⟩ := hp
  subst hS
  refine cm_X11_wetAtBest (sp_X11_wetAtBest he hr.1 sc (hW 1) h) h (fun zz S2 hp h g => ?_)
  have h := h g
  obtain ⟨-, hS, hz⟩ := hp
  subst hS
  replace hy : yy = gL G v1 v2 0 v3 := hy
  replace hz : zz = gL G v1 v2 1 v3 := hz
  have s1 := sf.2.2
  have r1 := bst_r (W := gW G v1 v2 0 v3) (s := gS G v1) (gF G v1 - gS G v1)
  have r2 := bst_r (W := gW G v1 v2 1 v3) (s := gS G v1) (gF G v1 - gS G v1)
  have p1 : 0 ≤ (gL G v1 v2 0 v3).toInt ∧ (gL G v1 v2 0 v3).toInt ≤ 18738216000 := rW_b (u := 0) (k := gB G v1 v2 0 v3) bn bd bw (by unfold gB; omega) (by unfold gB; omega)
  have p2 : 0 ≤ (gL G v1 v2 1 v3).toInt ∧ (gL G v1 v2 1 v3).toInt ≤ 18738216000 := rW_b (u := 1) (k := gB G v1 v2 1 v3) bn bd bw (by unfold gB; omega) (by unfold gB; omega)
  have ed := (bJ_add (x := gL G v1 v2 0 v3) (y := gL G v1 v2 1 v3) ⟨rfl, p1⟩ ⟨rfl, p2⟩ (by decide)).1
  rw [hy, hz] at h
  rw [hy, hz]
  refine cm_X11_told (sp_X11_told (by omega) (by decide) h) h (fun x U hp h g => ⟨h g, ?_⟩)
  unfold tellround
  rw [dc_y ok]
  exact hp.2
theorem tl_X11_worst (hI : IV S) (hm : (fR S m 3 = none ∧ A = A00) ∨ ∃ rd, WRm m rd A G S) (ab : ABd A) (gb : GBd A G) (h : P_X11_worst m v1 v2 v3 v4 Q S) : P_X11_worst m v1 v2 v3 v4 (fun x T => Q x T ∧ x = tellworst A G v1 v2 v3 v4) S := by
  have no : ∀ T, ¬ trOK A v1 v2 v3 v4 → P_X11_worst_39 Q m T → P_X11_worst_39 (fun x T => Q x T ∧ x = tellworst A G v1 v2 v3 v4) m T := by
    intro T hn h
    delta P_X11_worst_39
    obtain ⟨o179, h⟩ := h
    refine ⟨o179, ?_⟩
    refine cm_X11_refused (sp_X11_refused h) h (fun x U hp h g => ⟨h g, ?_⟩)
    unfold tellworst
    rw [dc_n hn, hp.2.1]
  delta P_X11_worst P_X11_worst_0
  obtain ⟨om, h⟩ := h
  refine ⟨om, ?_⟩
  intro S1 eS1
  have h := h S1 eS1
  have hm1 := hm_0 hm om eS1
  have hE := m_start hI eS1
  refine cm_X11_isWalker (sp_X11_isWalker hm1 h) h (fun x1 S2 hp h g b => ?_)
  have h := h g b
  obtain ⟨-, hS, hx1⟩ := hp
  subst hS
  refine ⟨fun cc => no _ (fun z => (hm1.elim (fun q => zero_n (by rw [q.2]; rfl) z.1) (fun q => an0 hx1 cc ⟨q, z.1⟩))) (h.1 cc), fun cc => ?_⟩
  have h := h.2 cc
  obtain ⟨⟨rd, hr⟩, k1⟩ := an1 hx1 cc
  refine cm_X11_isRoad (sp_X11_isRoad hm1 h) h (fun x2 S2 hp h g b => ?_)
  have h := h g b
  obtain ⟨-, hS, hx2⟩ := hp
  subst hS
  refine ⟨fun cc => no _ (fun z => an0 hx2 cc ⟨⟨rd, hr⟩, z.2.1⟩) (h.1 cc), fun cc => ?_⟩
  have h := h.2 cc
  obtain ⟨-, k2⟩ := an1 hx2 cc
  refine cm_X11_in (sp_X11_in h) h (fun x3 S2 hp h g b => ?_)
  have h := h g b
  obtain ⟨-, hS, hx3⟩ := hp
  subst hS
  refine ⟨fun cc => no _ (fun z => an0 hx3 cc (way_in.mpr z.2.2.1)) (h.1 cc), fun cc => ?_⟩
  have h := h.2 cc
  have k3 := way_in.mp (an1 hx3 cc)
  refine cm_X11_isHour (sp_X11_isHour hm1 h) h (fun x4 S2 hp h g b => ?_)
  have h := h g b
  obtain ⟨-, hS, hx4⟩ := hp
  subst hS
  refine Iff.mp and_comm ⟨fun cc => no _ (fun z => an0 hx4 cc ⟨⟨rd, hr⟩, z.2.2.2⟩) (h.2 cc), fun cc => ?_⟩
  have h := h.1 cc
  obtain ⟨-, k4⟩ := an1 hx4 cc
  have ok : trOK A v1 v2 v3 v4 := ⟨k1, k2, k3, k4⟩
  obtain ⟨i1, i2, i4, bn, bd, bw⟩ := ok_ix ab gb ok
  have sf := gSF bw
  have he := fun i => hE rd i hr.2.1
  obtain ⟨mn, md, mw⟩ := m_rows he hr i1 i2 i4
  have sc := SpF_c mw sf
  have hW : ∀ u k, gS G v1 ≤ k → k ≤ gF G v1 → psum (ptM (mRn S1 rd v4.toNatClampNeg) (mRd S1 rd v2.toNatClampNeg) (mWk S1 rd v1.toNatClampNeg) u (nI k)) 5 = gW G v1 v2 u v4 k := fun u k _ _ => by rw [ptM_c mn md mw]; rfl
  have s1 := sf.2.2
  obtain ⟨a180, e180, h⟩ := h
  refine ⟨a180, e180, ?_⟩
  cases (hr.1).symm.trans e180
  obtain ⟨o181, h⟩ := h
  refine ⟨o181, ?_⟩
  obtain ⟨a182, e182, h⟩ := h
  refine ⟨a182, e182, ?_⟩
  obtain ⟨o183, h⟩ := h
  refine ⟨o183, ?_⟩
  obtain ⟨o184, h⟩ := h
  refine ⟨o184, ?_⟩
  intro x185 q185
  have h := h x185 q185
  replace q185 := q185.trans (mwk (j := 5) e182)
  intro x186 q186
  have h := h x186 q186
  replace q185 := q185.trans sc.1
  intro X hX
  refine h (fun a0 a1 a2 a3 a4 a5 a6 T => (a0 = m ∧ a1 = v1 ∧ a2 = v2 ∧ a3 = v3 ∧ a4 = v4 ∧ T = S1 ∧ ∃ i, i ≤ gF G v1 - gS G v1 ∧ a6 = nI (gS G v1 + i + 1) ∧ a5 = nI (wst (gW G v1 v2 v3 v4) (gS G v1) i)) → X a0 a1 a2 a3 a4 a5 a6 T) ?_ ⟨rfl, rfl, rfl, rfl, rfl, rfl, 0, by omega, by rw [q186, q185]; exact nI_add _ 1, q185⟩
  rintro a0 a1 a2 a3 a4 a5 a6 T h ⟨rfl, rfl, rfl, rfl, rfl, rfl, i, hi, h6, h5⟩
  apply hX
  obtain ⟨p1, h⟩ := h
  refine ⟨p1, ?_⟩
  obtain ⟨b1, j1, h⟩ := h
  refine ⟨b1, j1, ?_⟩
  cases hr.1.symm.trans j1
  obtain ⟨p2, h⟩ := h
  refine ⟨p2, ?_⟩
  obtain ⟨b2, j2, h⟩ := h
  refine ⟨b2, j2, ?_⟩
  obtain ⟨p3, h⟩ := h
  refine ⟨p3, ?_⟩
  obtain ⟨p4, h⟩ := h
  refine ⟨p4, fun x7 q7 => ?_⟩
  have h := h x7 q7
  replace q7 := (q7.trans (mwk (j := 6) j2)).trans sc.2.1
  have nf : x7.toInt = (gF G a1 : Int) := by rw [q7, nI_i (by omega)]
  have n6 : a6.toInt = ((gS G a1 + i + 1 : Nat) : Int) := by rw [h6, nI_i (by omega)]
  refine ⟨fun cc => ?_, fun cc => ?_⟩
  · have h := h.1 cc
    have := lt_i cc
    refine cm_X11_good (sp_X11_good h) h (fun y U hp h g => ⟨h g, ?_⟩)
    unfold tellworst
    rw [dc_y ok, hp.2.1, h5, show i = gF G a1 - gS G a1 by omega]
    rfl
  have h := h.2 cc
  have lt := nlt_i cc
  have r := wst_r (W := gW G a1 a2 a3 a4) (s := gS G a1) i
  refine cm_X11_wetOf (sp_X11_wetOf he hr.1 h) h (fun x8 S2 hp h gg => ?_)
  have h := h gg
  obtain ⟨-, hS, hz⟩ := hp
  subst hS
  refine cm_X11_wetOf (sp_X11_wetOf he hr.1 h) h (fun x9 S2 hp h gg => ?_)
  have h := h gg
  obtain ⟨-, hS, hy⟩ := hp
  subst hS
  rw [h6, hW a3 _ (by omega) (by omega)] at hz
  rw [h5, hW a3 _ r.1 (by omega)] at hy
  have nx : a6 + 1 = nI (gS G a1 + (i + 1) + 1) := by
    rw [h6]
    exact nI_add (gS G a1 + i + 1) 1
  refine ⟨fun c1 => ?_, fun c1 => ?_⟩
  · have h := h.1 c1
    delta P_X11_worst_106
    intro x6 q6
    have h := h x6 q6
    have nc : ¬ x9.toInt < x8.toInt := fun z => (lgc.mpr z) c1
    rw [hz, hy] at nc
    refine h ⟨rfl, rfl, rfl, rfl, rfl, rfl, i + 1, by omega, by rw [q6, nx], ?_⟩
    rw [h5]
    show _ = nI (if _ then _ else _)
    rw [if_neg nc]
  · have h := h.2 c1
    delta P_X11_worst_106
    intro x6 q6
    have h := h x6 q6
    have nc : x9.toInt < x8.toInt := lgc.mp c1
    rw [hz, hy] at nc
    refine h ⟨rfl, rfl, rfl, rfl, rfl, rfl, i + 1, by omega, by rw [q6, nx], ?_⟩
    rw [h6]
    show _ = nI (if _ then _ else _)
    rw [if_pos nc]
theorem tl_X11_even (hI : IV S) (hm : (fR S m 3 = none ∧ A = A00) ∨ ∃ rd, WRm m rd A G S) (ab : ABd A) (gb : GBd A G) (h : P_X11_even m v1 v2 v3 v4 Q S) : P_X11_even m v1 v2 v3 v4 (fun x T => Q x T ∧ x = telleven A G v1 v2 v3 v4) S := by
  have no : ∀ T, ¬ trOK A v1 v2 v3 v4 → P_X11_even_39 Q m T → P_X11_even_39 (fun x T => Q x T ∧ x = telleven A G v1 v2 v3 v4) m T := by
    intro T hn h
    delta P_X11_even_39
    obtain ⟨o187, h⟩ := h
    refine ⟨o187, ?_⟩
    refine cm_X11_refused (sp_X11_refused h) h (fun x U hp h g => ⟨h g, ?_⟩)
    unfold telleven
    rw [dc_n hn, hp.2.1]
  delta P_X11_even P_X11_even_0
  obtain ⟨om, h⟩ := h
  refine ⟨om, ?_⟩
  intro S1 eS1
  have h := h S1 eS1
  have hm1 := hm_0 hm om eS1
  have hE := m_start hI eS1
  refine cm_X11_isWalker (sp_X11_isWalker hm1 h) h (fun x1 S2 hp h g b => ?_)
  have h := h g b
  obtain ⟨-, hS, hx1⟩ := hp
  subst hS
  refine ⟨fun cc => no _ (fun z => (hm1.elim (fun q => zero_n (by rw [q.2]; rfl) z.1) (fun q => an0 hx1 cc ⟨q, z.1⟩))) (h.1 cc), fun cc => ?_⟩
  have h := h.2 cc
  obtain ⟨⟨rd, hr⟩, k1⟩ := an1 hx1 cc
  refine cm_X11_isRoad (sp_X11_isRoad hm1 h) h (fun x2 S2 hp h g b => ?_)
  have h := h g b
  obtain ⟨-, hS, hx2⟩ := hp
  subst hS
  refine ⟨fun cc => no _ (fun z => an0 hx2 cc ⟨⟨rd, hr⟩, z.2.1⟩) (h.1 cc), fun cc => ?_⟩
  have h := h.2 cc
  obtain ⟨-, k2⟩ := an1 hx2 cc
  refine cm_X11_in (sp_X11_in h) h (fun x3 S2 hp h g b => ?_)
  have h := h g b
  obtain ⟨-, hS, hx3⟩ := hp
  subst hS
  refine ⟨fun cc => no _ (fun z => an0 hx3 cc (way_in.mpr z.2.2.1)) (h.1 cc), fun cc => ?_⟩
  have h := h.2 cc
  have k3 := way_in.mp (an1 hx3 cc)
  refine cm_X11_isHour (sp_X11_isHour hm1 h) h (fun x4 S2 hp h g b => ?_)
  have h := h g b
  obtain ⟨-, hS, hx4⟩ := hp
  subst hS
  refine Iff.mp and_comm ⟨fun cc => no _ (fun z => an0 hx4 cc ⟨⟨rd, hr⟩, z.2.2.2⟩) (h.2 cc), fun cc => ?_⟩
  have h := h.1 cc
  obtain ⟨-, k4⟩ := an1 hx4 cc
  have ok : trOK A v1 v2 v3 v4 := ⟨k1, k2, k3, k4⟩
  obtain ⟨i1, i2, i4, bn, bd, bw⟩ := ok_ix ab gb ok
  have sf := gSF bw
  have he := fun i => hE rd i hr.2.1
  obtain ⟨mn, md, mw⟩ := m_rows he hr i1 i2 i4
  have sc := SpF_c mw sf
  have hW : ∀ u k, gS G v1 ≤ k → k ≤ gF G v1 → psum (ptM (mRn S1 rd v4.toNatClampNeg) (mRd S1 rd v2.toNatClampNeg) (mWk S1 rd v1.toNatClampNeg) u (nI k)) 5 = gW G v1 v2 u v4 k := fun u k _ _ => by rw [ptM_c mn md mw]; rfl
  have s1 := sf.2.2
  obtain ⟨a188, e188, h⟩ := h
  refine ⟨a188, e188, ?_⟩
  cases (hr.1).symm.trans e188
  obtain ⟨o189, h⟩ := h
  refine ⟨o189, ?_⟩
  obtain ⟨a190, e190, h⟩ := h
  refine ⟨a190, e190, ?_⟩
  obtain ⟨o191, h⟩ := h
  refine ⟨o191, ?_⟩
  obtain ⟨o192, h⟩ := h
  refine ⟨o192, ?_⟩
  intro x193 q193
  have h := h x193 q193
  replace q193 := q193.trans (mwk (j := 5) e190)
  replace q193 := q193.trans sc.1
  have gd : ∀ z e T, telleven A G v1 v2 v3 v4 = e → P_X11_even_130 Q z e T → P_X11_even_130 (fun x T => Q x T ∧ x = telleven A G v1 v2 v3 v4) z e T := fun z e T ee h => by
    delta P_X11_even_130
    obtain ⟨o194, h⟩ := h
    refine ⟨o194, ?_⟩
    exact cm_X11_good (sp_X11_good h) h (fun x U hp h g => ⟨h g, by rw [hp.2.1, ee]⟩)
  intro X hX
  refine h (fun a0 a1 a2 a3 a4 a5 a6 T => (a0 = m ∧ a1 = v1 ∧ a2 = v2 ∧ a3 = v3 ∧ a4 = v4 ∧ T = S1 ∧ ∃ i, i ≤ gF G v1 - gS G v1 ∧ a6 = nI (gS G v1 + i) ∧ ans (∀ j, j < i → gW G v1 v2 v3 v4 (gS G v1 + j) = gW G v1 v2 v3 v4 (gS G v1 + j + 1)) a5) → X a0 a1 a2 a3 a4 a5 a6 T) ?_ ⟨rfl, rfl, rfl, rfl, rfl, rfl, 0, by omega, q193, Or.inl ⟨fun j hj => absurd hj (Nat.not_lt_zero j), rfl⟩⟩
  rintro a0 a1 a2 a3 a4 a5 a6 T h ⟨rfl, rfl, rfl, rfl, rfl, rfl, i, hi, h6, h5⟩
  apply hX
  obtain ⟨p1, h⟩ := h
  refine ⟨p1, ?_⟩
  obtain ⟨b1, j1, h⟩ := h
  refine ⟨b1, j1, ?_⟩
  cases hr.1.symm.trans j1
  obtain ⟨p2, h⟩ := h
  refine ⟨p2, ?_⟩
  obtain ⟨b2, j2, h⟩ := h
  refine ⟨b2, j2, ?_⟩
  obtain ⟨p3, h⟩ := h
  refine ⟨p3, ?_⟩
  obtain ⟨p4, h⟩ := h
  refine ⟨p4, fun x7 q7 => ?_⟩
  have h := h x7 q7
  replace q7 := (q7.trans (mwk (j := 6) j2)).trans sc.2.1
  have nf : x7.toInt = (gF G a1 : Int) := by rw [q7, nI_i (by omega)]
  have n6 : a6.toInt = ((gS G a1 + i : Nat) : Int) := by rw [h6, nI_i (by omega)]
  refine ⟨fun cc => ?_, fun cc => ?_⟩
  · have h := h.1 cc
    have := le_i cc
    have ei : i = gF G a1 - gS G a1 := by omega
    rw [ei] at h5
    have ev : (gW G a1 a2 a3 a4 (gM G a1 a2 a3 a4) = gL G a1 a2 a3 a4) ↔ _ := ev_iff (W := gW G a1 a2 a3 a4) (s := gS G a1) (n := gF G a1 - gS G a1)
    refine ⟨fun c1 => gd _ _ _ ?_ (h.1 c1), fun c1 => gd _ _ _ ?_ (h.2 c1)⟩
    · unfold telleven
      rw [dc_y ok, dc_n (fun z => an0 h5 c1 (ev.mp z))]
    · unfold telleven
      rw [dc_y ok, dc_y (ev.mpr (an1 h5 c1))]
  have h := h.2 cc
  have lt := nle_i cc
  have nx : a6 + 1 = nI (gS G a1 + (i + 1)) := by
    rw [h6]
    exact nI_add (gS G a1 + i) 1
  refine ⟨fun c1 => ?_, fun c1 => ?_⟩
  · have h := h.1 c1
    delta P_X11_even_110 P_X11_even_111
    intro x6 q6
    have h := h x6 q6
    exact h ⟨rfl, rfl, rfl, rfl, rfl, rfl, i + 1, by omega, by rw [q6, nx], Or.inr ⟨fun z => an0 h5 c1 (fun j hj => z j (by omega)), rfl⟩⟩
  have h := h.2 c1
  have al := an1 h5 c1
  refine cm_X11_wetOf (sp_X11_wetOf he hr.1 h) h (fun x8 S2 hp h gg => ?_)
  have h := h gg
  obtain ⟨-, hS, hz⟩ := hp
  subst hS
  refine cm_X11_wetOf (sp_X11_wetOf he hr.1 h) h (fun x9 S2 hp h gg => ?_)
  have h := h gg
  obtain ⟨-, hS, hy⟩ := hp
  subst hS
  rw [h6, hW a3 _ (by omega) (by omega)] at hz
  rw [nx, hW a3 _ (by omega) (by omega)] at hy
  refine ⟨fun c2 => ?_, fun c2 => ?_⟩
  · have h := h.1 c2
    delta P_X11_even_110 P_X11_even_111
    intro x6 q6
    have h := h x6 q6
    refine h ⟨rfl, rfl, rfl, rfl, rfl, rfl, i + 1, by omega, by rw [q6, nx], Or.inr ⟨fun z => c2 (lgc_eq.mpr ?_), rfl⟩⟩
    rw [hz, hy]
    exact z i (by omega)
  · have h := h.2 c2
    delta P_X11_even_111
    intro x6 q6
    have h := h x6 q6
    refine h ⟨rfl, rfl, rfl, rfl, rfl, rfl, i + 1, by omega, by rw [q6, nx], Or.inl ⟨fun j hj => ?_, rfl⟩⟩
    have ee := lgc_eq.mp c2
    rw [hz, hy] at ee
    by_cases z : j = i
    · rw [z]
      exact ee
    · exact al j (by omega)
end C35
/-! what driest tells -/
def dyOK (A : AS) (v1 v2 v3 : Int32) : Prop := (¬ v1 < 0 ∧ v1 < nI (aW A)) ∧ (¬ v2 < 0 ∧ v2 < nI (aR A)) ∧ (v3 = 0 ∨ v3 = 1)
noncomputable def gD (G : GC) (v1 v2 v3 : Int32) (h : Nat) : Int64 := gL G v1 v2 v3 (nI h) * (gRn G h 4).toInt64
noncomputable def telldriest (A : AS) (G : GC) (v1 v2 v3 : Int32) : Int32 := dc (dyOK A v1 v2 v3 ∧ aHs A ≠ 0) (nI (bst (gD G v1 v2 v3) 0 (aHs A - 1))) (-1)
section C36
variable {c m : Nat} {A : AS} {G : GC} {S T : HS} {v1 v2 v3 : Int32} {Q : Int32 → HS → Prop}
theorem bst_s (W : Nat → Int64) (s n : Nat) : bst W s (n + 1) = if (W (s + n + 1)).toInt < (W (bst W s n)).toInt then s + n + 1 else bst W s n := rfl
theorem hr_in (ab : ABd A) {i : Nat} (h : i < aHs A) : ¬ nI i < 0 ∧ nI i < nI (aHs A) := by
  have e0 : (0 : Int32).toInt = 0 := by decide
  have := ab.2.1
  refine ⟨fun z => ?_, Int32.lt_iff_toInt_lt.mpr (by rw [nI_i (by omega), nI_i (by omega)]; omega)⟩
  have := lt_i z
  rw [nI_i (by omega)] at this
  omega
theorem gD_b (ab : ABd A) (gb : GBd A G) (ok : dyOK A v1 v2 v3) {i : Nat} (h : i < aHs A) : 0 ≤ (gD G v1 v2 v3 i).toInt ∧ (gD G v1 v2 v3 i).toInt < 4611686018427387904 := by
  obtain ⟨i1, i2, i4, bn, bd, bw⟩ := ok_ix (v4 := nI i) ab gb ⟨ok.1, ok.2.1, ok.2.2, hr_in ab h⟩
  have sf := (gSF bw).2.2
  have r := bst_r (W := gW G v1 v2 v3 (nI i)) (s := gS G v1) (gF G v1 - gS G v1)
  have p2 : 0 ≤ (gL G v1 v2 v3 (nI i)).toInt ∧ (gL G v1 v2 v3 (nI i)).toInt ≤ 18738216000 := rW_b (u := v3) (k := gB G v1 v2 v3 (nI i)) bn bd bw (by unfold gB; omega) (by unfold gB; omega)
  have hb := ab.2.1
  rw [nI_cl (by omega)] at bn
  have q := bJ_mul (x := gL G v1 v2 v3 (nI i)) ⟨rfl, p2⟩ (bJ_of (bI_of bn.2.2.2.2 (by decide))) (by decide)
  have e : (gD G v1 v2 v3 i).toInt = _ := q.1
  rw [e]
  exact ⟨q.2.1, by have := q.2.2; omega⟩
theorem tl_X9_driest {r w1 w2 l b0 b1 : Nat} (hI : IV S) (J : CJ c r w1 w2 S) (hc : Cnt w1 A S) (ct : CtB w1 A G S S) (ab : ABd A) (gb : GBd A G) (lg : LG c l b0 b1 S) (h : P_X9_driest c v1 v2 v3 Q S) : P_X9_driest c v1 v2 v3 (fun x T => Q x T ∧ x = telldriest A G v1 v2 v3) S := by
  have ow1 := J.2.2.2.2.2.1
  have oc := J.2.2.2.1
  have no : ¬ dyOK A v1 v2 v3 → P_X9_driest_29 Q c S → P_X9_driest_29 (fun x T => Q x T ∧ x = telldriest A G v1 v2 v3) c S := by
    intro hn h
    delta P_X9_driest_29
    obtain ⟨o1, h⟩ := h
    refine ⟨o1, ?_⟩
    refine cm_X9_refuse (sp_X9_refuse h) h (fun x U hp h g => ⟨h g, ?_⟩)
    unfold telldriest
    rw [dc_n (fun z => hn z.1), hp.2.1]
  delta P_X9_driest P_X9_driest_0
  obtain ⟨o2, h⟩ := h
  refine ⟨o2, ?_⟩
  obtain ⟨a3, e3, h⟩ := h
  refine ⟨a3, e3, ?_⟩
  cases (J.1).symm.trans e3
  obtain ⟨o4, h⟩ := h
  refine ⟨o4, ?_⟩
  refine cm_X8_hasWalker (sp_X8_hasWalker hI ow1 ab hc h) h (fun x1 S2 hp h g b => ?_)
  have h := h g b
  obtain ⟨-, hS, hx1⟩ := hp
  subst hS
  refine ⟨fun cc => no (fun z => an0 hx1 cc z.1) (h.1 cc), fun cc => ?_⟩
  have h := h.2 cc
  have kx1 := an1 hx1 cc
  obtain ⟨a5, e5, h⟩ := h
  refine ⟨a5, e5, ?_⟩
  cases (J.1).symm.trans e5
  obtain ⟨o6, h⟩ := h
  refine ⟨o6, ?_⟩
  refine cm_X8_hasRoad (sp_X8_hasRoad hI ow1 ab hc h) h (fun x2 S2 hp h g b => ?_)
  have h := h g b
  obtain ⟨-, hS, hx2⟩ := hp
  subst hS
  refine ⟨fun cc => no (fun z => an0 hx2 cc z.2.1) (h.1 cc), fun cc => ?_⟩
  have h := h.2 cc
  have kx2 := an1 hx2 cc
  refine cm_X9_isWay (sp_X9_isWay h) h (fun x3 S2 hp h g b => ?_)
  have h := h g b
  obtain ⟨-, hS, hx3⟩ := hp
  subst hS
  refine Iff.mp and_comm ⟨fun cc => no (fun z => an0 hx3 cc z.2.2) (h.2 cc), fun cc => ?_⟩
  have h := h.1 cc
  have kx3 := an1 hx3 cc
  obtain ⟨a7, e7, h⟩ := h
  refine ⟨a7, e7, ?_⟩
  cases (J.1).symm.trans e7
  obtain ⟨o8, h⟩ := h
  refine ⟨o8, ?_⟩
  intro x9 q9
  have h := h x9 q9
  replace q9 := q9.trans hc.2.1
  have hb := ab.2.1
  have ok : dyOK A v1 v2 v3 := ⟨kx1, kx2, kx3⟩
  refine Iff.mp and_comm ⟨fun c2 => ?_, fun c2 => ?_⟩
  · have h := h.2 c2
    refine cm_X9_refuse (sp_X9_refuse h) h (fun x U hp h g => ⟨h g, ?_⟩)
    unfold telldriest
    rw [dc_n (fun z => z.2 (nI_inj (by omega) (by decide) (q9.symm.trans c2))), hp.2.1]
  have h := h.1 c2
  have hz : aHs A ≠ 0 := fun z => c2 (by rw [q9, z]; rfl)
  have hv1 := ix_lt (by have := ab.2.2.2.2.1; omega) ok.1
  have hv2 := ix_lt (by have := ab.2.2.2.1; omega) ok.2.1
  intro X hX
  refine h (fun a0 a1 a2 a3 a4 a5 a7 T => (a0 = c ∧ a1 = v1 ∧ a2 = v2 ∧ a3 = v3 ∧ ∃ g i, T = wJ S g ∧ i ≤ aHs A ∧ a7 = nI i ∧ ((i = 0 ∧ a4 = 0 ∧ a5 = 4611686018427387904) ∨ ∃ j, i = j + 1 ∧ a4 = nI (bst (gD G v1 v2 v3) 0 j) ∧ a5 = gD G v1 v2 v3 (bst (gD G v1 v2 v3) 0 j))) → X a0 a1 a2 a3 a4 a5 a7 T) ?_ ⟨rfl, rfl, rfl, rfl, fJ S, 0, rfl, by omega, rfl, Or.inl ⟨rfl, rfl, rfl⟩⟩
  rintro a0 a1 a2 a3 a4 a5 a7 T h ⟨rfl, rfl, rfl, rfl, gg, i, rfl, hi, h7, hcs⟩
  apply hX
  obtain ⟨o10, h⟩ := h
  refine ⟨o10, ?_⟩
  obtain ⟨a11, e11, h⟩ := h
  refine ⟨a11, e11, ?_⟩
  cases (J.1).symm.trans e11
  obtain ⟨o12, h⟩ := h
  refine ⟨o12, ?_⟩
  intro x13 q13
  have h := h x13 q13
  replace q13 := q13.trans hc.2.1
  have n2 : x13.toInt = (aHs A : Int) := by rw [q13, nI_i (by omega)]
  have n7 : a7.toInt = (i : Int) := by rw [h7, nI_i (by omega)]
  refine ⟨fun cc => ?_, fun cc => ?_⟩
  · have h := h.1 cc
    have := le_i cc
    refine cm_X9_grant (sp_X9_grant h) h (fun x U hp h g => ⟨h g, ?_⟩)
    unfold telldriest
    rcases hcs with ⟨z, -⟩ | ⟨j, hj, h4, -⟩
    · omega
    · rw [dc_y ⟨ok, hz⟩, hp.2.1, h4, show j = aHs A - 1 by omega]
  have h := h.2 cc
  have lt := nle_i cc
  have c7 : a7.toNatClampNeg = i := by rw [h7, nI_cl (by omega)]
  have hi2 : i < aHs A := by omega
  have i7 : a7.toNatClampNeg < aHs A := by rw [c7]; exact hi2
  obtain ⟨a14, e14, h⟩ := h
  refine ⟨a14, e14, ?_⟩
  cases (J.1).symm.trans e14
  obtain ⟨o15, h⟩ := h
  refine ⟨o15, ?_⟩
  obtain ⟨a16, e16, h⟩ := h
  refine ⟨a16, e16, ?_⟩
  obtain ⟨o17, h⟩ := h
  refine ⟨o17, ?_⟩
  obtain ⟨o18, h⟩ := h
  refine ⟨o18, ?_⟩
  obtain ⟨a19, e19, h⟩ := h
  refine ⟨a19, e19, ?_⟩
  obtain ⟨krn, rrn, trn⟩ := rn_at (z := 0) hI ow1 oc ct ab e16 i7 e19
  obtain ⟨a20, e20, h⟩ := h
  refine ⟨a20, e20, ?_⟩
  cases (lg.1).symm.trans e20
  obtain ⟨a21, e21, h⟩ := h
  refine ⟨a21, e21, ?_⟩
  cases (J.1).symm.trans e21
  obtain ⟨o22, h⟩ := h
  refine ⟨o22, ?_⟩
  obtain ⟨a23, e23, h⟩ := h
  refine ⟨a23, e23, ?_⟩
  obtain ⟨o24, h⟩ := h
  refine ⟨o24, ?_⟩
  obtain ⟨o25, h⟩ := h
  refine ⟨o25, ?_⟩
  obtain ⟨a26, e26, h⟩ := h
  refine ⟨a26, e26, ?_⟩
  obtain ⟨kwk, rwk, twk⟩ := wk_at (z := 0) hI ow1 oc ct ab e23 hv1 e26
  obtain ⟨a27, e27, h⟩ := h
  refine ⟨a27, e27, ?_⟩
  cases (J.1).symm.trans e27
  obtain ⟨o28, h⟩ := h
  refine ⟨o28, ?_⟩
  obtain ⟨a29, e29, h⟩ := h
  refine ⟨a29, e29, ?_⟩
  obtain ⟨o30, h⟩ := h
  refine ⟨o30, ?_⟩
  obtain ⟨o31, h⟩ := h
  refine ⟨o31, ?_⟩
  obtain ⟨a32, e32, h⟩ := h
  refine ⟨a32, e32, ?_⟩
  obtain ⟨krd, rrd, trd⟩ := rd_at (z := 0) hI ow1 oc ct ab e29 hv2 e32
  obtain ⟨o33, h⟩ := h
  refine ⟨o33, ?_⟩
  obtain ⟨-, -, -, bn, bd, bw⟩ := ok_ix (v4 := a7) ab gb ⟨ok.1, ok.2.1, ok.2.2, by rw [h7]; exact hr_in ab hi2⟩
  have sf := gSF bw
  have sc := SpF_c rwk sf
  have hW := cls_W (u := a3) (s := gS G a1) (f := gF G a1) bn bd bw rrn rrd rwk sf.2.2.1 sf.2.2.2.2
  refine cm_X1_leastWet (sp_X1_leastWet (S := wJ S gg) sc hW lg.2.2.1 lg.2.2.2.1 lg.2.2.2.2 h) h (fun yy S1 hp h g => ?_)
  have h := h g
  obtain ⟨-, g2, hS, hy⟩ := hp
  subst hS
  replace hy : yy = gL G a1 a2 a3 a7 := hy
  obtain ⟨o34, h⟩ := h
  refine ⟨o34, ?_⟩
  intro x35 q35
  have h := h x35 q35
  intro x36 q36
  have h := h x36 q36
  replace q35 := q35.trans (rrn 4 (by decide))
  rw [c7] at q35
  have ey : x36 = gD G a1 a2 a3 i := by
    rw [q36, q35, hy, h7]
    rfl
  have db := gD_b ab gb ok hi2
  have es : (4611686018427387904 : Int64).toInt = 4611686018427387904 := by decide
  have nx : a7 + 1 = nI (i + 1) := by
    rw [h7]
    exact nI_add i 1
  refine ⟨fun c1 => ?_, fun c1 => ?_⟩
  · have h := h.1 c1
    delta P_X9_driest_140
    intro x6 q6
    have h := h x6 q6
    have nc : ¬ x36.toInt < a5.toInt := fun z => (lgc_ge.mpr z) c1
    rcases hcs with ⟨z, h4, h5⟩ | ⟨j, hj, h4, h5⟩
    · rw [ey, h5] at nc
      omega
    · rw [ey, h5] at nc
      refine h ⟨rfl, rfl, rfl, rfl, g2, i + 1, rfl, by omega, by rw [q6, nx], Or.inr ⟨j + 1, by omega, ?_, ?_⟩⟩
      · rw [h4]
        rw [bst_s, show 0 + j + 1 = i by omega, if_neg nc]
      · rw [h5]
        rw [bst_s, show 0 + j + 1 = i by omega, if_neg nc]
  · have h := h.2 c1
    delta P_X9_driest_140
    intro x6 q6
    have h := h x6 q6
    have nc : x36.toInt < a5.toInt := lgc_ge.mp c1
    rcases hcs with ⟨z, h4, h5⟩ | ⟨j, hj, h4, h5⟩
    · refine h ⟨rfl, rfl, rfl, rfl, g2, i + 1, rfl, by omega, by rw [q6, nx], Or.inr ⟨0, by omega, ?_, ?_⟩⟩
      · rw [h7, z]
        rfl
      · rw [ey, z]
        rfl
    · rw [ey, h5] at nc
      refine h ⟨rfl, rfl, rfl, rfl, g2, i + 1, rfl, by omega, by rw [q6, nx], Or.inr ⟨j + 1, by omega, ?_, ?_⟩⟩
      · rw [h7]
        rw [bst_s, show 0 + j + 1 = i by omega, if_pos nc]
      · rw [ey]
        rw [bst_s, show 0 + j + 1 = i by omega, if_pos nc]
theorem tl_X11_driest (hI : IV S) (hm : (fR S m 3 = none ∧ A = A00) ∨ ∃ rd, WRm m rd A G S) (ab : ABd A) (gb : GBd A G) (h : P_X11_driest m v1 v2 v3 Q S) : P_X11_driest m v1 v2 v3 (fun x T => Q x T ∧ x = telldriest A G v1 v2 v3) S := by
  have no : ∀ T, ¬ dyOK A v1 v2 v3 → P_X11_driest_30 Q m T → P_X11_driest_30 (fun x T => Q x T ∧ x = telldriest A G v1 v2 v3) m T := by
    intro T hn h
    delta P_X11_driest_30
    obtain ⟨o37, h⟩ := h
    refine ⟨o37, ?_⟩
    refine cm_X11_refused (sp_X11_refused h) h (fun x U hp h g => ⟨h g, ?_⟩)
    unfold telldriest
    rw [dc_n (fun z => hn z.1), hp.2.1]
  delta P_X11_driest P_X11_driest_0
  obtain ⟨om, h⟩ := h
  refine ⟨om, ?_⟩
  intro S1 eS1
  have h := h S1 eS1
  have hm1 := hm_0 hm om eS1
  have hE := m_start hI eS1
  refine cm_X11_isWalker (sp_X11_isWalker hm1 h) h (fun x1 S2 hp h g b => ?_)
  have h := h g b
  obtain ⟨-, hS, hx1⟩ := hp
  subst hS
  refine ⟨fun cc => no _ (fun z => (hm1.elim (fun q => zero_n (by rw [q.2]; rfl) z.1) (fun q => an0 hx1 cc ⟨q, z.1⟩))) (h.1 cc), fun cc => ?_⟩
  have h := h.2 cc
  obtain ⟨⟨rd, hr⟩, k1⟩ := an1 hx1 cc
  refine cm_X11_isRoad (sp_X11_isRoad hm1 h) h (fun x2 S2 hp h g b => ?_)
  have h := h g b
  obtain ⟨-, hS, hx2⟩ := hp
  subst hS
  refine ⟨fun cc => no _ (fun z => an0 hx2 cc ⟨⟨rd, hr⟩, z.2.1⟩) (h.1 cc), fun cc => ?_⟩
  have h := h.2 cc
  obtain ⟨-, k2⟩ := an1 hx2 cc
  refine cm_X11_in (sp_X11_in h) h (fun x3 S2 hp h g b => ?_)
  have h := h g b
  obtain ⟨-, hS, hx3⟩ := hp
  subst hS
  refine Iff.mp and_comm ⟨fun cc => no _ (fun z => an0 hx3 cc (way_in.mpr z.2.2)) (h.2 cc), fun cc => ?_⟩
  have h := h.1 cc
  have k3 := way_in.mp (an1 hx3 cc)
  have ok : dyOK A v1 v2 v3 := ⟨k1, k2, k3⟩
  have hb := ab.2.1
  have he := fun i => hE rd i hr.2.1
  have hc := hr.2.2.1
  intro X hX
  refine h (fun a0 a1 a2 a3 a4 a5 a7 T => (a0 = m ∧ a1 = v1 ∧ a2 = v2 ∧ a3 = v3 ∧ T = S1 ∧ ∃ i, i ≤ aHs A ∧ a7 = nI i ∧ ((i = 0 ∧ a4 = -1) ∨ ∃ j, i = j + 1 ∧ a4 = nI (bst (gD G v1 v2 v3) 0 j) ∧ a5 = gD G v1 v2 v3 (bst (gD G v1 v2 v3) 0 j))) → X a0 a1 a2 a3 a4 a5 a7 T) ?_ ⟨rfl, rfl, rfl, rfl, rfl, 0, by omega, rfl, Or.inl ⟨rfl, rfl⟩⟩
  rintro a0 a1 a2 a3 a4 a5 a7 T h ⟨rfl, rfl, rfl, rfl, rfl, i, hi, h7, hcs⟩
  apply hX
  have nm : ∀ k : Nat, k < 100 → ¬ nI k = -1 := fun k hk z => by
    have e : (nI k).toInt = (k : Int) := nI_i (by omega)
    rw [z] at e
    have : (-1 : Int32).toInt = -1 := by decide
    omega
  have bj : ∀ j, i = j + 1 → bst (gD G a1 a2 a3) 0 j < 100 := fun j hj => by
    have := (bst_r (W := gD G a1 a2 a3) (s := 0) j).2
    omega
  obtain ⟨o38, h⟩ := h
  refine ⟨o38, ?_⟩
  obtain ⟨a39, e39, h⟩ := h
  refine ⟨a39, e39, ?_⟩
  cases (hr.1).symm.trans e39
  obtain ⟨o40, h⟩ := h
  refine ⟨o40, ?_⟩
  intro x41 q41
  have h := h x41 q41
  replace q41 := q41.trans hc.2.1
  have n2 : x41.toInt = (aHs A : Int) := by rw [q41, nI_i (by omega)]
  have n7 : a7.toInt = (i : Int) := by rw [h7, nI_i (by omega)]
  refine ⟨fun cc => ?_, fun cc => ?_⟩
  · have h := h.1 cc
    have := le_i cc
    refine ⟨fun c1 => ?_, fun c1 => ?_⟩
    · have h := h.1 c1
      refine cm_X11_good (sp_X11_good h) h (fun x U hp h g => ⟨h g, ?_⟩)
      unfold telldriest
      rcases hcs with ⟨z, h4⟩ | ⟨j, hj, h4, -⟩
      · exact absurd h4 c1
      · rw [dc_y ⟨ok, by omega⟩, hp.2.1, h4, show j = aHs A - 1 by omega]
    · have h := h.2 c1
      refine cm_X11_refused (sp_X11_refused h) h (fun x U hp h g => ⟨h g, ?_⟩)
      unfold telldriest
      rcases hcs with ⟨z, h4⟩ | ⟨j, hj, h4, -⟩
      · rw [dc_n (fun q => q.2 (by omega)), hp.2.1]
      · exact absurd (h4.symm.trans c1) (nm _ (bj j hj))
  have h := h.2 cc
  have lt := nle_i cc
  have c7 : a7.toNatClampNeg = i := by rw [h7, nI_cl (by omega)]
  have hi2 : i < aHs A := by omega
  obtain ⟨i1, i2, i4, bn, bd, bw⟩ := ok_ix (v4 := a7) ab gb ⟨ok.1, ok.2.1, ok.2.2, by rw [h7]; exact hr_in ab hi2⟩
  obtain ⟨mn, md, mw⟩ := m_rows he hr i1 i2 i4
  have sf := gSF bw
  have sc := SpF_c mw sf
  refine cm_X11_wetAtBest (sp_X11_wetAtBest (W := gW G a1 a2 a3 a7) he hr.1 sc (fun k _ _ => by rw [ptM_c mn md mw]; rfl) h) h (fun yy S2 hp h g => ?_)
  have h := h g
  obtain ⟨-, hS, hy⟩ := hp
  subst hS
  replace hy : yy = gL G a1 a2 a3 a7 := hy
  obtain ⟨a42, e42, h⟩ := h
  refine ⟨a42, e42, ?_⟩
  cases (hr.1).symm.trans e42
  obtain ⟨o43, h⟩ := h
  refine ⟨o43, ?_⟩
  obtain ⟨a44, e44, h⟩ := h
  refine ⟨a44, e44, ?_⟩
  obtain ⟨o45, h⟩ := h
  refine ⟨o45, ?_⟩
  obtain ⟨o46, h⟩ := h
  refine ⟨o46, ?_⟩
  intro x47 q47
  have h := h x47 q47
  replace q47 := q47.trans (mrn (j := 4) e44)
  intro x48 q48
  have h := h x48 q48
  replace q47 := q47.trans (mn 4 (by decide))
  rw [c7] at q47
  have ey : x48 = gD G a1 a2 a3 i := by
    rw [q48, q47, hy, h7]
    rfl
  have nx : a7 + 1 = nI (i + 1) := by
    rw [h7]
    exact nI_add i 1
  refine ⟨fun c1 => ?_, fun c1 => ?_⟩
  · have h := h.1 c1
    delta P_X11_driest_97 P_X11_driest_105
    intro x6 q6
    have h := h x6 q6
    rcases hcs with ⟨z, h4⟩ | ⟨j, hj, h4, h5⟩
    · refine h ⟨rfl, rfl, rfl, rfl, rfl, i + 1, by omega, by rw [q6, nx], Or.inr ⟨0, by omega, ?_, ?_⟩⟩
      · rw [h7, z]
        rfl
      · rw [ey, z]
        rfl
    · exact absurd (h4.symm.trans c1) (nm _ (bj j hj))
  have h := h.2 c1
  rcases hcs with ⟨z, h4⟩ | ⟨j, hj, h4, h5⟩
  · exact absurd h4 c1
  refine ⟨fun c2 => ?_, fun c2 => ?_⟩
  · have h := h.1 c2
    delta P_X11_driest_97 P_X11_driest_105
    intro x6 q6
    have h := h x6 q6
    have nc := lgc_lt.mp c2
    rw [ey, h5] at nc
    refine h ⟨rfl, rfl, rfl, rfl, rfl, i + 1, by omega, by rw [q6, nx], Or.inr ⟨j + 1, by omega, ?_, ?_⟩⟩
    · rw [h7]
      rw [bst_s, show 0 + j + 1 = i by omega, if_pos nc]
    · rw [ey]
      rw [bst_s, show 0 + j + 1 = i by omega, if_pos nc]
  · have h := h.2 c2
    delta P_X11_driest_105
    intro x6 q6
    have h := h x6 q6
    have nc := fun z => c2 (lgc_lt.mpr z)
    rw [ey, h5] at nc
    refine h ⟨rfl, rfl, rfl, rfl, rfl, i + 1, by omega, by rw [q6, nx], Or.inr ⟨j + 1, by omega, ?_, ?_⟩⟩
    · rw [h4]
      rw [bst_s, show 0 + j + 1 = i by omega, if_neg nc]
    · rw [h5]
      rw [bst_s, show 0 + j + 1 = i by omega, if_neg nc]
end C36
end
section
/-! what lee and first tell -/
def tsum (f h : Nat → Int64) : Nat → Int64
  | 0 => 0
  | n + 1 => tsum f h n + f n + h n
noncomputable def tgM (rn rd wa wb : Nat → Int32) (u v : Int32) : Int64 := tsum (fun k => (itM rn rd wa u v 0 (wb 3) k).toInt64) (fun k => (itM rn rd wb u v (wa 3) 0 k).toInt64) 5 * (rd 3 - rd 4).toInt64 * ((2520 : Int32) / v).toInt64
noncomputable def ljJ (st : Nat → Int64) (wa wb : Nat → Int32) : Int64 := sumJ (skJ st wa 0 (wb 3)) + sumJ (skJ st wb (wa 3) 0)
noncomputable def gT (G : GC) (v1 v2 v3 v4 v5 v6 : Int32) : Int64 := tgM (gRn G v5.toNatClampNeg) (gRd G v3.toNatClampNeg) (gWk G v1.toNatClampNeg) (gWk G v2.toNatClampNeg) v4 v6
noncomputable def leN (A : AS) (G : GC) (v1 v2 v3 v4 v5 v6 : Int32) : Int32 := dc (¬ v1 = v2 ∧ (¬ v2 < 0 ∧ v2 < nI (aW A))) (dc (lgN A G v1 v3 v4 v5 v6 = 0) (dc (spOK G v2 v6) 0 2) (lgN A G v1 v3 v4 v5 v6)) 1
noncomputable def telllee (A : AS) (G : GC) (v1 v2 v3 v4 v5 v6 v7 : Int32) : Int64 := dc (leN A G v1 v2 v3 v4 v5 v6 = 0) (tdJ (gT G v1 v2 v3 v4 v5 v6) 2520 v7) (-1)
noncomputable def tellfirst (A : AS) (G : GC) (v1 v2 v3 v4 v5 v6 : Int32) : Int32 := dc (leN A G v1 v2 v3 v4 v5 v6 = 0) (dc (gT G v1 v2 v3 v4 v5 v6 = gT G v2 v1 v3 v4 v5 v6) (-2) (dc ((gT G v1 v2 v3 v4 v5 v6).toInt < (gT G v2 v1 v3 v4 v5 v6).toInt) 0 1)) (-1)
section C37p
variable {rn rn' rd rd' wa wa' wb wb' : Nat → Int32} {u v : Int32} {st : Nat → Int64}
theorem tgM_c (a : ∀ j, j < 5 → rn j = rn' j) (b : ∀ j, j < 5 → rd j = rd' j) (w : ∀ j, j < 7 → wa j = wa' j) (x : ∀ j, j < 7 → wb j = wb' j) : tgM rn rd wa wb u v = tgM rn' rd' wa' wb' u v := by
  unfold tgM
  rw [itM_c (u := u) (v := v) a b w, itM_c (u := u) (v := v) a b x, b 3 (by decide), b 4 (by decide), w 3 (by decide), x 3 (by decide)]
theorem ljJ_c (s : ∀ k, k < 5 → st k = lyS rn rd u v k) (w : ∀ j, j < 7 → wa j = wa' j) (x : ∀ j, j < 7 → wb j = wb' j) : ljJ st wa wb = sumJ (wtJ wa' rd rn u v 0 (wb' 3)) + sumJ (wtJ wb' rd rn u v (wa' 3) 0) := by
  unfold ljJ wtJ
  rw [skJ_c w, skJ_c x, w 3 (by decide), x 3 (by decide)]
  have p : ∀ wk y z, sumJ (skJ st wk y z) = sumJ (skJ (lyS rn rd u v) wk y z) := fun wk y z => by
    unfold sumJ
    rw [skJ_congr s 0, skJ_congr s 1, skJ_congr s 2, skJ_congr s 3, skJ_congr s 4]
  rw [p, p]
theorem sum_b {f : Nat → Int64} {e : Nat → Int} {B : Int} (h : ∀ k, k < 5 → bJ (f k) (e k) B) (hB : B * 10 ≤ 4611686018427387904) : bJ (sumJ f) (e 0 + e 1 + e 2 + e 3 + e 4) (B + B + B + B + B) := by
  have := (h 0 (by decide)).2
  exact bJ_add (bJ_add (bJ_add (bJ_add (h 0 (by decide)) (h 1 (by decide)) (by omega)) (h 2 (by decide)) (by omega)) (h 3 (by decide)) (by omega)) (h 4 (by decide)) (by omega)
theorem ts_b {f h : Nat → Int64} {e d : Nat → Int} (p : ∀ k, k < 5 → bJ (f k) (e k) 24786) (q : ∀ k, k < 5 → bJ (h k) (d k) 24786) : bJ (tsum f h 5) (0 + e 0 + d 0 + e 1 + d 1 + e 2 + d 2 + e 3 + d 3 + e 4 + d 4) 247860 := by
  have z : bJ (0 : Int64) 0 0 := ⟨by decide, by decide, by decide⟩
  exact bJ_add (bJ_add (bJ_add (bJ_add (bJ_add (bJ_add (bJ_add (bJ_add (bJ_add (bJ_add z (p 0 (by decide)) (by decide)) (q 0 (by decide)) (by decide)) (p 1 (by decide)) (by decide)) (q 1 (by decide)) (by decide)) (p 2 (by decide)) (by decide)) (q 2 (by decide)) (by decide)) (p 3 (by decide)) (by decide)) (q 3 (by decide)) (by decide)) (p 4 (by decide)) (by decide)) (q 4 (by decide)) (by decide)
/-- one in the other's lee: both sides reckon the same -/
theorem lee_eq (a : RnB rn) (b : RoB rd) (w : WkB wa) (x : WkB wb) (h1 : 1 ≤ v.toInt) (h2 : v.toInt ≤ 9) : sumJ (wtJ wa rd rn u v 0 (wb 3)) + sumJ (wtJ wb rd rn u v (wa 3) 0) = tgM rn rd wa wb u v ∧ ∃ n, bJ (tgM rn rd wa wb u v) n 37476432000 := by
  have f3 : ∀ {wk : Nat → Int32}, WkB wk → bI (wk 3) (wk 3).toInt 999 := fun w => ⟨rfl, by have := w.2.2.2.1.1; omega, by have := w.2.2.2.1.2; omega⟩
  have c1 := sum_b (fun k hk => wt_b (u := u) a b w h1 h2 z_bI (f3 x) k hk) (by decide)
  have c2 := sum_b (fun k hk => wt_b (u := u) a b x h1 h2 (f3 w) z_bI k hk) (by decide)
  have cs := bJ_add c1 c2 (by decide)
  have t := ts_b (fun k hk => bJ_of (it_b (u := u) a b w h1 h2 z_bI (f3 x) k hk)) (fun k hk => bJ_of (it_b (u := u) a b x h1 h2 (f3 w) z_bI k hk))
  have m := bJ_mul (bJ_mul t (bJ_of (len_b b)) (by decide)) (bJ_of (q_b h1 h2)) (by decide)
  have e : (tgM rn rd wa wb u v).toInt = _ := m.1
  refine ⟨Int64.toInt_inj.mp ?_, _, m⟩
  rw [cs.1, e, Int.mul_assoc]
  show _ = _ * iT rd v
  rw [Int.add_mul, Int.add_mul, Int.add_mul, Int.add_mul, Int.add_mul, Int.add_mul, Int.add_mul, Int.add_mul, Int.add_mul, Int.add_mul, Int.zero_mul]
  omega
end C37p
section C37
variable {c m rd v0 a1 a2 b0 b1 : Nat} {A : AS} {G : GC} {S T : HS} {v1 v2 v3 v4 v5 v6 v7 : Int32} {Q : Int32 → HS → Prop} {QJ : Int64 → HS → Prop}
theorem sp_X1_wetInLee (e0 : fR S v0 0 = some b0) (e1 : fR S v0 1 = some b1) (ne : b1 ≠ b0) (h : P_X1_wetInLee v0 a1 a2 QJ S) : P_X1_wetInLee v0 a1 a2 (fun z T => QJ z T ∧ ∃ f, T = wJ S f ∧ f b1 = fJ S b1 ∧ z = ljJ (fJ S b1) (fI S a1) (fI S a2)) S := by
  delta P_X1_wetInLee P_X1_wetInLee_0
  obtain ⟨o1, h⟩ := h
  refine ⟨o1, fun x1 q1 => ?_⟩
  have h := h x1 q1
  obtain ⟨o2, h⟩ := h
  refine ⟨o2, ?_⟩
  refine cm_X1_soak (sp_X1_soak e0 e1 ne h) h (fun z S1 hp h g => ?_)
  have h := h g
  obtain ⟨-, f1, hS, go, -, hz⟩ := hp
  subst hS
  obtain ⟨o3, h⟩ := h
  refine ⟨o3, fun x2 q2 => ?_⟩
  have h := h x2 q2
  have k1 : f1 b1 = fJ S b1 := go b1 ne
  refine cm_X1_soak (sp_X1_soak (S := wJ S f1) e0 e1 ne h) h (fun y S1 hp h g => ⟨h g, ?_⟩)
  obtain ⟨-, f2, hS, go2, -, hy⟩ := hp
  refine ⟨f2, hS, (go2 b1 ne).trans k1, ?_⟩
  have hy : y = sumJ (skJ (f1 b1) (fI S a2) x2 0) := hy
  have q2 : x2 = fI S a1 3 := q2
  rw [hz, hy, k1, q1, q2]
  rfl
theorem sp_X9_leeTrouble {r w1 w2 : Nat} (hI : IV S) (J : CJ c r w1 w2 S) (hc : Cnt w1 A S) (ct : CtB w1 A G S S) (ab : ABd A) (gb : GBd A G) (h : P_X9_leeTrouble c v1 v2 v3 v4 v5 v6 Q S) : P_X9_leeTrouble c v1 v2 v3 v4 v5 v6 (fun x T => Q x T ∧ S = T ∧ x = leN A G v1 v2 v3 v4 v5 v6) S := by
  have ow1 := J.2.2.2.2.2.1
  have oc := J.2.2.2.1
  have no : ¬ (¬ v1 = v2 ∧ (¬ v2 < 0 ∧ v2 < nI (aW A))) → (1 : Int32) = leN A G v1 v2 v3 v4 v5 v6 := fun q => by
    unfold leN
    rw [dc_n q]
  delta P_X9_leeTrouble P_X9_leeTrouble_0
  refine ⟨fun ce => ⟨h.1 ce, rfl, no (fun z => z.1 ce)⟩, fun ce => ?_⟩
  have h := h.2 ce
  obtain ⟨o1, h⟩ := h
  refine ⟨o1, ?_⟩
  obtain ⟨a2, e2, h⟩ := h
  refine ⟨a2, e2, ?_⟩
  cases (J.1).symm.trans e2
  obtain ⟨o3, h⟩ := h
  refine ⟨o3, ?_⟩
  refine cm_X8_hasWalker (sp_X8_hasWalker hI ow1 ab hc h) h (fun x1 S2 hp h g b => ?_)
  have h := h g b
  obtain ⟨-, hS, hx1⟩ := hp
  subst hS
  refine ⟨fun cc => ⟨h.1 cc, rfl, ?_⟩, fun cc => ?_⟩
  · have hn := an0 hx1 cc
    have e1 : lgN A G v1 v3 v4 v5 v6 = 1 := by
      unfold lgN
      rw [dc_n (fun z => hn z.1)]
    by_cases q : ¬ v1 = v2 ∧ (¬ v2 < 0 ∧ v2 < nI (aW A))
    · unfold leN
      rw [dc_y q, e1, dc_n (by decide)]
    · exact no q
  have h := h.2 cc
  have k1 := an1 hx1 cc
  obtain ⟨a4, e4, h⟩ := h
  refine ⟨a4, e4, ?_⟩
  cases (J.1).symm.trans e4
  obtain ⟨o5, h⟩ := h
  refine ⟨o5, ?_⟩
  refine cm_X8_hasWalker (sp_X8_hasWalker hI ow1 ab hc h) h (fun x2 S2 hp h g b => ?_)
  have h := h g b
  obtain ⟨-, hS, hx2⟩ := hp
  subst hS
  refine Iff.mp and_comm ⟨fun cc => ⟨h.2 cc, rfl, no (fun z => an0 hx2 cc z.2)⟩, fun cc => ?_⟩
  have h := h.1 cc
  have k2 := an1 hx2 cc
  refine cm_X9_legTrouble (sp_X9_legTrouble hI J hc ct ab gb h) h (fun xt S2 hp h g => ?_)
  have h := h g
  obtain ⟨-, hS, ht⟩ := hp
  subst hS
  unfold leN
  rw [dc_y ⟨ce, k2⟩]
  refine Iff.mp and_comm ⟨fun c1 => ⟨h.2 c1, rfl, by rw [dc_n (fun z => c1 (ht.trans z)), ht]⟩, fun c1 => ?_⟩
  have h := h.1 c1
  rw [dc_y (ht.symm.trans c1)]
  have hv2 := ix_lt (by have := ab.2.2.2.2.1; omega) k2
  obtain ⟨a6, e6, h⟩ := h
  refine ⟨a6, e6, ?_⟩
  cases (J.1).symm.trans e6
  obtain ⟨o7, h⟩ := h
  refine ⟨o7, ?_⟩
  obtain ⟨a8, e8, h⟩ := h
  refine ⟨a8, e8, ?_⟩
  obtain ⟨o9, h⟩ := h
  refine ⟨o9, ?_⟩
  obtain ⟨o10, h⟩ := h
  refine ⟨o10, ?_⟩
  obtain ⟨a11, e11, h⟩ := h
  refine ⟨a11, e11, ?_⟩
  obtain ⟨kwk, rwk, twk⟩ := wk_at (z := 0) hI ow1 oc ct ab e8 hv2 e11
  obtain ⟨o12, h⟩ := h
  refine ⟨o12, ?_⟩
  have hb := gb.2.2.2 _ hv2
  have w5 := rwk 5 (by decide)
  have w6 := rwk 6 (by decide)
  refine cm_X6_canGo (sp_X6_canGo (by rw [w5]; exact hb.2.2.2.2.2.1.1) (by rw [w6]; exact hb.2.2.2.2.2.2.2) h) h (fun x17 S15 hp h g b => ?_)
  have h := h g b
  obtain ⟨-, hS, hx3⟩ := hp
  subst hS
  rw [w5, w6] at hx3
  exact ⟨fun c2 => ⟨h.1 c2, rfl, by rw [dc_n (P := spOK G v2 v6) (an0 hx3 c2)]⟩, fun c2 => ⟨h.2 c2, rfl, by rw [dc_y (P := spOK G v2 v6) (an1 hx3 c2)]⟩⟩
theorem leN_0 (h : leN A G v1 v2 v3 v4 v5 v6 = 0) : (¬ v2 < 0 ∧ v2 < nI (aW A)) ∧ lgN A G v1 v3 v4 v5 v6 = 0 ∧ spOK G v2 v6 := by
  unfold leN at h
  by_cases q : ¬ v1 = v2 ∧ (¬ v2 < 0 ∧ v2 < nI (aW A))
  · rw [dc_y q] at h
    by_cases r : lgN A G v1 v3 v4 v5 v6 = 0
    · rw [dc_y r] at h
      by_cases t : spOK G v2 v6
      · exact ⟨q.2, r, t⟩
      · rw [dc_n t] at h
        exact absurd h (by decide)
    · rw [dc_n r] at h
      exact absurd h r
  · rw [dc_n q] at h
    exact absurd h (by decide)
theorem leN_3 : leN A G v1 v2 v3 v4 v5 v6 = 0 ∨ leN A G v1 v2 v3 v4 v5 v6 = 1 ∨ leN A G v1 v2 v3 v4 v5 v6 = 2 := by
  unfold leN
  by_cases q : ¬ v1 = v2 ∧ (¬ v2 < 0 ∧ v2 < nI (aW A))
  · rw [dc_y q]
    by_cases r : lgN A G v1 v3 v4 v5 v6 = 0
    · rw [dc_y r]
      by_cases t : spOK G v2 v6
      · rw [dc_y t]
        exact Or.inl rfl
      · rw [dc_n t]
        exact Or.inr (Or.inr rfl)
    · rw [dc_n r]
      exact lgN_3
  · rw [dc_n q]
    exact Or.inr (Or.inl rfl)
theorem le_le (h : leN A G v1 v2 v3 v4 v5 v6 ≤ 0) : leN A G v1 v2 v3 v4 v5 v6 = 0 := by
  rcases leN_3 (A := A) (G := G) (v1 := v1) (v2 := v2) (v3 := v3) (v4 := v4) (v5 := v5) (v6 := v6) with q | q | q
  · exact q
  · rw [q] at h
    exact absurd h (by decide)
  · rw [q] at h
    exact absurd h (by decide)
theorem sp_X11_refusesTwo (hm : (fR S m 3 = none ∧ A = A00) ∨ ∃ rd, WRm m rd A G S) (ab : ABd A) (hE : ∀ rd i, ob S rd 10 → 7 ≤ i → i ≤ 27 → ∃ b, fR S rd i = some b) (h : P_X11_refusesTwo m v1 v2 v3 v4 v5 v6 Q S) : P_X11_refusesTwo m v1 v2 v3 v4 v5 v6 (fun x T => Q x T ∧ S = T ∧ x = leN A G v1 v2 v3 v4 v5 v6) S := by
  have no : ¬ (¬ v1 = v2 ∧ (¬ v2 < 0 ∧ v2 < nI (aW A))) → (1 : Int32) = leN A G v1 v2 v3 v4 v5 v6 := fun q => by
    unfold leN
    rw [dc_n q]
  delta P_X11_refusesTwo P_X11_refusesTwo_0
  refine ⟨fun ce => ⟨h.1 ce, rfl, no (fun z => z.1 ce)⟩, fun ce => ?_⟩
  have h := h.2 ce
  obtain ⟨o1, h⟩ := h
  refine ⟨o1, ?_⟩
  refine cm_X11_isWalker (sp_X11_isWalker hm h) h (fun x1 S2 hp h g b => ?_)
  have h := h g b
  obtain ⟨-, hS, hx⟩ := hp
  subst hS
  refine Iff.mp and_comm ⟨fun c1 => ⟨h.2 c1, rfl, no (fun z => hm.elim (fun q => zero_n (by rw [q.2]; rfl) z.2) (fun q => an0 hx c1 ⟨q, z.2⟩))⟩, fun c1 => ?_⟩
  have h := h.1 c1
  obtain ⟨⟨rd, hr⟩, k2⟩ := an1 hx c1
  refine cm_X11_refuses (sp_X11_refuses hm ab hE h) h (fun xt S2 hp h g => ?_)
  have h := h g
  obtain ⟨-, hS, ht⟩ := hp
  subst hS
  unfold leN
  rw [dc_y ⟨ce, k2⟩]
  refine Iff.mp and_comm ⟨fun c2 => ⟨h.2 c2, rfl, by rw [dc_n (fun z => c2 (by rw [ht, z]; decide)), ht]⟩, fun c2 => ?_⟩
  have h := h.1 c2
  rw [dc_y (lg_le (by rw [← ht]; exact c2))]
  obtain ⟨b24, q24⟩ := hE rd 24 hr.2.1 (by decide) (by decide)
  obtain ⟨b25, q25⟩ := hE rd 25 hr.2.1 (by decide) (by decide)
  have hv1 := ix_lt (by have := ab.2.2.2.2.1; omega) k2
  have c24 : fI S b24 v2.toNatClampNeg = gWk G v2.toNatClampNeg 5 := hr.2.2.2.1 24 b24 (by decide) (by decide) q24 v2.toNatClampNeg hv1
  have c25 : fI S b25 v2.toNatClampNeg = gWk G v2.toNatClampNeg 6 := hr.2.2.2.1 25 b25 (by decide) (by decide) q25 v2.toNatClampNeg hv1
  refine cm_X11_isSpeed (sp_X11_isSpeed hr.1 q24 q25 h) h (fun x12 S10 hp h g b => ?_)
  have h := h g b
  obtain ⟨-, hS, hx5⟩ := hp
  subst hS
  rw [c24, c25] at hx5
  exact ⟨fun q => ⟨h.1 q, rfl, by rw [dc_n (P := spOK G v2 v6) (an0 hx5 q)]⟩, fun q => ⟨h.2 q, rfl, by rw [dc_y (P := spOK G v2 v6) (an1 hx5 q)]⟩⟩
theorem sp_X11_together (he : ∀ i, 7 ≤ i → i ≤ 27 → ∃ b, fR S rd i = some b) (e3 : fR S m 3 = some rd) (h : P_X11_together m v1 v2 v3 v4 v5 v6 QJ S) : P_X11_together m v1 v2 v3 v4 v5 v6 (fun x T => QJ x T ∧ S = T ∧ x = tgM (mRn S rd v5.toNatClampNeg) (mRd S rd v3.toNatClampNeg) (mWk S rd v1.toNatClampNeg) (mWk S rd v2.toNatClampNeg) v4 v6) S := by
  delta P_X11_together P_X11_together_0
  intro X hX
  refine h (fun a0 a1 a2 a3 a4 a5 a6 a7 a9 T => (a0 = m ∧ a1 = v1 ∧ a2 = v2 ∧ a3 = v3 ∧ a4 = v4 ∧ a5 = v5 ∧ a6 = v6 ∧ T = S ∧ ∃ k, k ≤ 5 ∧ a9 = nI k ∧ a7 = tsum (fun k => (itM (mRn S rd v5.toNatClampNeg) (mRd S rd v3.toNatClampNeg) (mWk S rd v1.toNatClampNeg) v4 v6 0 ((mWk S rd v2.toNatClampNeg) 3) k).toInt64) (fun k => (itM (mRn S rd v5.toNatClampNeg) (mRd S rd v3.toNatClampNeg) (mWk S rd v2.toNatClampNeg) v4 v6 ((mWk S rd v1.toNatClampNeg) 3) 0 k).toInt64) k) → X a0 a1 a2 a3 a4 a5 a6 a7 a9 T) ?_ ⟨rfl, rfl, rfl, rfl, rfl, rfl, rfl, rfl, 0, by decide, by decide, rfl⟩
  rintro a0 v1 v2 v3 v4 v5 v6 a7 a9 T h ⟨rfl, rfl, rfl, rfl, rfl, rfl, rfl, rfl, k, hk, e9, e7⟩
  apply hX
  have n5 : (5 : Int32).toInt = 5 := by decide
  have nk : a9.toInt = (k : Int) := by rw [e9, nI_i (by omega)]
  refine ⟨fun c => ?_, fun c => ?_⟩
  · have h := h.1 c
    have := le_i c
    have q : k = 5 := by omega
    obtain ⟨o13, h⟩ := h
    refine ⟨o13, ?_⟩
    obtain ⟨a14, e14, h⟩ := h
    refine ⟨a14, e14, ?_⟩
    cases (e3).symm.trans e14
    obtain ⟨o15, h⟩ := h
    refine ⟨o15, ?_⟩
    obtain ⟨a16, e16, h⟩ := h
    refine ⟨a16, e16, ?_⟩
    obtain ⟨o17, h⟩ := h
    refine ⟨o17, ?_⟩
    obtain ⟨o18, h⟩ := h
    refine ⟨o18, ?_⟩
    intro x19 q19
    have h := h x19 q19
    replace q19 := q19.trans (mrd (j := 3) e16)
    obtain ⟨a20, e20, h⟩ := h
    refine ⟨a20, e20, ?_⟩
    cases (e3).symm.trans e20
    obtain ⟨o21, h⟩ := h
    refine ⟨o21, ?_⟩
    obtain ⟨a22, e22, h⟩ := h
    refine ⟨a22, e22, ?_⟩
    obtain ⟨o23, h⟩ := h
    refine ⟨o23, ?_⟩
    obtain ⟨o24, h⟩ := h
    refine ⟨o24, ?_⟩
    intro x25 q25
    have h := h x25 q25
    replace q25 := q25.trans (mrd (j := 4) e22)
    obtain ⟨o26, h⟩ := h
    refine ⟨o26, ?_⟩
    intro x27 q27
    have h := h x27 q27
    refine ⟨h, rfl, ?_⟩
    rw [e7, q, q19, q25, q27]
    rfl
  have h := h.2 c
  have lt := nle_i c
  have hk9 : a9.toNatClampNeg = k := by rw [e9, nI_cl (by omega)]
  obtain ⟨o28, h⟩ := h
  refine ⟨o28, ?_⟩
  obtain ⟨a29, e29, h⟩ := h
  refine ⟨a29, e29, ?_⟩
  cases (e3).symm.trans e29
  obtain ⟨o30, h⟩ := h
  refine ⟨o30, ?_⟩
  obtain ⟨a31, e31, h⟩ := h
  refine ⟨a31, e31, ?_⟩
  obtain ⟨o32, h⟩ := h
  refine ⟨o32, ?_⟩
  obtain ⟨o33, h⟩ := h
  refine ⟨o33, ?_⟩
  intro x34 q34
  have h := h x34 q34
  replace q34 := q34.trans (mwk (j := 3) e31)
  refine cm_X11_inTime (sp_X11_inTime he e3 ⟨by omega, by omega⟩ h) h (fun zz S1 hp h g => ?_)
  have h := h g
  obtain ⟨-, hS, hz⟩ := hp
  subst hS
  intro x35 q35
  have h := h x35 q35
  obtain ⟨a36, e36, h⟩ := h
  refine ⟨a36, e36, ?_⟩
  cases (e3).symm.trans e36
  obtain ⟨o37, h⟩ := h
  refine ⟨o37, ?_⟩
  obtain ⟨a38, e38, h⟩ := h
  refine ⟨a38, e38, ?_⟩
  obtain ⟨o39, h⟩ := h
  refine ⟨o39, ?_⟩
  obtain ⟨o40, h⟩ := h
  refine ⟨o40, ?_⟩
  intro x41 q41
  have h := h x41 q41
  replace q41 := q41.trans (mwk (j := 3) e38)
  refine cm_X11_inTime (sp_X11_inTime he e3 ⟨by omega, by omega⟩ h) h (fun yy S1 hp h g => ?_)
  have h := h g
  obtain ⟨-, hS, hy⟩ := hp
  subst hS
  intro x42 q42
  have h := h x42 q42
  intro x43 q43
  have h := h x43 q43
  refine h ⟨rfl, rfl, rfl, rfl, rfl, rfl, rfl, rfl, k + 1, by omega, ?_, ?_⟩
  · rw [q43, e9]
    exact nI_add k 1
  · rw [q42, q35, e7, hz, hy, q34, q41, hk9]
    rfl
theorem tl_X9_lee {r w1 w2 l b0 b1 : Nat} (hI : IV S) (J : CJ c r w1 w2 S) (hc : Cnt w1 A S) (ct : CtB w1 A G S S) (ab : ABd A) (gb : GBd A G) (lg : LG c l b0 b1 S) (h : P_X9_lee c v1 v2 v3 v4 v5 v6 v7 QJ S) : P_X9_lee c v1 v2 v3 v4 v5 v6 v7 (fun x T => QJ x T ∧ x = telllee A G v1 v2 v3 v4 v5 v6 v7) S := by
  have ow1 := J.2.2.2.2.2.1
  have oc := J.2.2.2.1
  unfold telllee
  delta P_X9_lee P_X9_lee_0
  obtain ⟨o44, h⟩ := h
  refine ⟨o44, ?_⟩
  refine cm_X9_leeTrouble (sp_X9_leeTrouble hI J hc ct ab gb h) h (fun xt S1 hp h g => ?_)
  have h := h g
  obtain ⟨-, hS, ht⟩ := hp
  subst hS
  refine cm_X9_refusedBy (sp_X9_refusedBy h) h (fun xr S1 hp h g bq => ?_)
  have h := h g bq
  obtain ⟨-, hS, hr⟩ := hp
  subst hS
  refine Iff.mp and_comm ⟨fun cn => ⟨h.2 cn, ?_⟩, fun cn => ?_⟩
  · rw [dc_n (fun z => an1 hr cn (ht.trans z))]
  have h0 : leN A G v1 v2 v3 v4 v5 v6 = 0 := Classical.byContradiction (fun z => an0 hr cn (by rw [ht]; exact z))
  have h := h.1 cn
  rw [dc_y h0]
  rw [ht, h0] at h
  rw [ht, h0]
  obtain ⟨okb, okl, spb⟩ := leN_0 h0
  obtain ⟨ok, sp⟩ := lgN_0 okl
  obtain ⟨i1, i2, i4, bn, bd, bw⟩ := ok_ix ab gb ok
  obtain ⟨s1, s9, sv⟩ := ok_v bw sp
  have j1 := ix_lt (by have := ab.2.2.2.2.1; omega) okb
  have bw2 := gb.2.2.2 _ j1
  obtain ⟨a45, e45, h⟩ := h
  refine ⟨a45, e45, ?_⟩
  cases (lg.1).symm.trans e45
  obtain ⟨a46, e46, h⟩ := h
  refine ⟨a46, e46, ?_⟩
  cases (J.1).symm.trans e46
  obtain ⟨o47, h⟩ := h
  refine ⟨o47, ?_⟩
  obtain ⟨a48, e48, h⟩ := h
  refine ⟨a48, e48, ?_⟩
  obtain ⟨o49, h⟩ := h
  refine ⟨o49, ?_⟩
  obtain ⟨o50, h⟩ := h
  refine ⟨o50, ?_⟩
  obtain ⟨a51, e51, h⟩ := h
  refine ⟨a51, e51, ?_⟩
  obtain ⟨krd, rrd, trd⟩ := rd_at (z := 0) hI ow1 oc ct ab e48 i2 e51
  obtain ⟨a52, e52, h⟩ := h
  refine ⟨a52, e52, ?_⟩
  cases (J.1).symm.trans e52
  obtain ⟨o53, h⟩ := h
  refine ⟨o53, ?_⟩
  obtain ⟨a54, e54, h⟩ := h
  refine ⟨a54, e54, ?_⟩
  obtain ⟨o55, h⟩ := h
  refine ⟨o55, ?_⟩
  obtain ⟨o56, h⟩ := h
  refine ⟨o56, ?_⟩
  obtain ⟨a57, e57, h⟩ := h
  refine ⟨a57, e57, ?_⟩
  obtain ⟨krn, rrn, trn⟩ := rn_at (z := 0) hI ow1 oc ct ab e54 i4 e57
  obtain ⟨o58, h⟩ := h
  refine ⟨o58, ?_⟩
  refine cm_X1_lay (sp_X1_lay (S := sI S c 9 0) sv lg.2.2.2.1 h) h (fun S1 hp h g => ?_)
  have h := h g
  obtain ⟨-, ff, hS, -, hf⟩ := hp
  subst hS
  have hly : ∀ k, k < 5 → ff b1 k = lyS (gRn G v5.toNatClampNeg) (gRd G v3.toNatClampNeg) v4 v6 k := fun k hk => by rw [hf k hk, lyS_c trn trd]
  obtain ⟨a59, e59, h⟩ := h
  refine ⟨a59, e59, ?_⟩
  cases (lg.1).symm.trans e59
  obtain ⟨a60, e60, h⟩ := h
  refine ⟨a60, e60, ?_⟩
  cases (J.1).symm.trans e60
  obtain ⟨o61, h⟩ := h
  refine ⟨o61, ?_⟩
  obtain ⟨a62, e62, h⟩ := h
  refine ⟨a62, e62, ?_⟩
  obtain ⟨o63, h⟩ := h
  refine ⟨o63, ?_⟩
  obtain ⟨o64, h⟩ := h
  refine ⟨o64, ?_⟩
  obtain ⟨a65, e65, h⟩ := h
  refine ⟨a65, e65, ?_⟩
  obtain ⟨-, -, twa⟩ := wk_at (z := 0) hI ow1 oc ct ab e62 i1 e65
  obtain ⟨a66, e66, h⟩ := h
  refine ⟨a66, e66, ?_⟩
  cases (J.1).symm.trans e66
  obtain ⟨o67, h⟩ := h
  refine ⟨o67, ?_⟩
  obtain ⟨a68, e68, h⟩ := h
  refine ⟨a68, e68, ?_⟩
  obtain ⟨o69, h⟩ := h
  refine ⟨o69, ?_⟩
  obtain ⟨o70, h⟩ := h
  refine ⟨o70, ?_⟩
  obtain ⟨a71, e71, h⟩ := h
  refine ⟨a71, e71, ?_⟩
  obtain ⟨-, -, twb⟩ := wk_at (z := 0) hI ow1 oc ct ab e68 j1 e71
  obtain ⟨o72, h⟩ := h
  refine ⟨o72, ?_⟩
  refine cm_X1_wetInLee (sp_X1_wetInLee (S := wJ (sI S c 9 0) ff) lg.2.2.1 lg.2.2.2.1 lg.2.2.2.2 h) h (fun zz S1 hp h g => ?_)
  have h := h g
  obtain ⟨-, f2, hS, -, hz⟩ := hp
  subst hS
  obtain ⟨le, nb, lb⟩ := lee_eq (u := v4) bn bd bw bw2 s1 s9
  have hz : zz = gT G v1 v2 v3 v4 v5 v6 := hz.trans ((ljJ_c (st := ff b1) hly twa twb).trans le)
  have lb : bJ (gT G v1 v2 v3 v4 v5 v6) nb 37476432000 := lb
  rw [hz] at h
  rw [hz]
  exact cm_X9_fraction (sp_X9_fraction (by rw [lb.1]; exact lb.2.1) (by decide) h) h (fun x U hp h g => ⟨h g, hp.2.2⟩)
theorem tl_X9_first {r w1 w2 l b0 b1 : Nat} (hI : IV S) (J : CJ c r w1 w2 S) (hc : Cnt w1 A S) (ct : CtB w1 A G S S) (ab : ABd A) (gb : GBd A G) (lg : LG c l b0 b1 S) (h : P_X9_first c v1 v2 v3 v4 v5 v6 Q S) : P_X9_first c v1 v2 v3 v4 v5 v6 (fun x T => Q x T ∧ x = tellfirst A G v1 v2 v3 v4 v5 v6) S := by
  have ow1 := J.2.2.2.2.2.1
  have oc := J.2.2.2.1
  unfold tellfirst
  delta P_X9_first P_X9_first_0
  obtain ⟨o73, h⟩ := h
  refine ⟨o73, ?_⟩
  refine cm_X9_leeTrouble (sp_X9_leeTrouble hI J hc ct ab gb h) h (fun xt S1 hp h g => ?_)
  have h := h g
  obtain ⟨-, hS, ht⟩ := hp
  subst hS
  refine cm_X9_refusedBy (sp_X9_refusedBy h) h (fun xr S1 hp h g bq => ?_)
  have h := h g bq
  obtain ⟨-, hS, hr⟩ := hp
  subst hS
  refine Iff.mp and_comm ⟨fun cn => ⟨h.2 cn, ?_⟩, fun cn => ?_⟩
  · rw [dc_n (fun z => an1 hr cn (ht.trans z))]
  have h0 : leN A G v1 v2 v3 v4 v5 v6 = 0 := Classical.byContradiction (fun z => an0 hr cn (by rw [ht]; exact z))
  have h := h.1 cn
  rw [dc_y h0]
  rw [ht, h0] at h
  rw [ht, h0]
  obtain ⟨okb, okl, spb⟩ := leN_0 h0
  obtain ⟨ok, sp⟩ := lgN_0 okl
  obtain ⟨i1, i2, i4, bn, bd, bw⟩ := ok_ix ab gb ok
  obtain ⟨s1, s9, sv⟩ := ok_v bw sp
  have j1 := ix_lt (by have := ab.2.2.2.2.1; omega) okb
  have bw2 := gb.2.2.2 _ j1
  obtain ⟨a74, e74, h⟩ := h
  refine ⟨a74, e74, ?_⟩
  cases (lg.1).symm.trans e74
  obtain ⟨a75, e75, h⟩ := h
  refine ⟨a75, e75, ?_⟩
  cases (J.1).symm.trans e75
  obtain ⟨o76, h⟩ := h
  refine ⟨o76, ?_⟩
  obtain ⟨a77, e77, h⟩ := h
  refine ⟨a77, e77, ?_⟩
  obtain ⟨o78, h⟩ := h
  refine ⟨o78, ?_⟩
  obtain ⟨o79, h⟩ := h
  refine ⟨o79, ?_⟩
  obtain ⟨a80, e80, h⟩ := h
  refine ⟨a80, e80, ?_⟩
  obtain ⟨krd, rrd, trd⟩ := rd_at (z := 0) hI ow1 oc ct ab e77 i2 e80
  obtain ⟨a81, e81, h⟩ := h
  refine ⟨a81, e81, ?_⟩
  cases (J.1).symm.trans e81
  obtain ⟨o82, h⟩ := h
  refine ⟨o82, ?_⟩
  obtain ⟨a83, e83, h⟩ := h
  refine ⟨a83, e83, ?_⟩
  obtain ⟨o84, h⟩ := h
  refine ⟨o84, ?_⟩
  obtain ⟨o85, h⟩ := h
  refine ⟨o85, ?_⟩
  obtain ⟨a86, e86, h⟩ := h
  refine ⟨a86, e86, ?_⟩
  obtain ⟨krn, rrn, trn⟩ := rn_at (z := 0) hI ow1 oc ct ab e83 i4 e86
  obtain ⟨o87, h⟩ := h
  refine ⟨o87, ?_⟩
  refine cm_X1_lay (sp_X1_lay (S := sI S c 9 0) sv lg.2.2.2.1 h) h (fun S1 hp h g => ?_)
  have h := h g
  obtain ⟨-, ff, hS, -, hf⟩ := hp
  subst hS
  have hly : ∀ k, k < 5 → ff b1 k = lyS (gRn G v5.toNatClampNeg) (gRd G v3.toNatClampNeg) v4 v6 k := fun k hk => by rw [hf k hk, lyS_c trn trd]
  obtain ⟨a88, e88, h⟩ := h
  refine ⟨a88, e88, ?_⟩
  cases (lg.1).symm.trans e88
  obtain ⟨a89, e89, h⟩ := h
  refine ⟨a89, e89, ?_⟩
  cases (J.1).symm.trans e89
  obtain ⟨o90, h⟩ := h
  refine ⟨o90, ?_⟩
  obtain ⟨a91, e91, h⟩ := h
  refine ⟨a91, e91, ?_⟩
  obtain ⟨o92, h⟩ := h
  refine ⟨o92, ?_⟩
  obtain ⟨o93, h⟩ := h
  refine ⟨o93, ?_⟩
  obtain ⟨a94, e94, h⟩ := h
  refine ⟨a94, e94, ?_⟩
  obtain ⟨-, -, twa⟩ := wk_at (z := 0) hI ow1 oc ct ab e91 i1 e94
  obtain ⟨a95, e95, h⟩ := h
  refine ⟨a95, e95, ?_⟩
  cases (J.1).symm.trans e95
  obtain ⟨o96, h⟩ := h
  refine ⟨o96, ?_⟩
  obtain ⟨a97, e97, h⟩ := h
  refine ⟨a97, e97, ?_⟩
  obtain ⟨o98, h⟩ := h
  refine ⟨o98, ?_⟩
  obtain ⟨o99, h⟩ := h
  refine ⟨o99, ?_⟩
  obtain ⟨a100, e100, h⟩ := h
  refine ⟨a100, e100, ?_⟩
  obtain ⟨-, -, twb⟩ := wk_at (z := 0) hI ow1 oc ct ab e97 j1 e100
  obtain ⟨o101, h⟩ := h
  refine ⟨o101, ?_⟩
  refine cm_X1_wetInLee (sp_X1_wetInLee (S := wJ (sI S c 9 0) ff) lg.2.2.1 lg.2.2.2.1 lg.2.2.2.2 h) h (fun zz S1 hp h g => ?_)
  have h := h g
  obtain ⟨-, f2, hS, h2, hz⟩ := hp
  subst hS
  have hz : zz = gT G v1 v2 v3 v4 v5 v6 := hz.trans ((ljJ_c (st := ff b1) hly twa twb).trans (lee_eq (u := v4) bn bd bw bw2 s1 s9).1)
  replace h2 : f2 b1 = ff b1 := h2
  obtain ⟨a102, e102, h⟩ := h
  refine ⟨a102, e102, ?_⟩
  cases (lg.1).symm.trans e102
  obtain ⟨a103, e103, h⟩ := h
  refine ⟨a103, e103, ?_⟩
  cases (J.1).symm.trans e103
  obtain ⟨o104, h⟩ := h
  refine ⟨o104, ?_⟩
  obtain ⟨a105, e105, h⟩ := h
  refine ⟨a105, e105, ?_⟩
  cases (e97).symm.trans e105
  obtain ⟨o106, h⟩ := h
  refine ⟨o106, ?_⟩
  obtain ⟨o107, h⟩ := h
  refine ⟨o107, ?_⟩
  obtain ⟨a108, e108, h⟩ := h
  refine ⟨a108, e108, ?_⟩
  cases (e100).symm.trans e108
  obtain ⟨a109, e109, h⟩ := h
  refine ⟨a109, e109, ?_⟩
  cases (J.1).symm.trans e109
  obtain ⟨o110, h⟩ := h
  refine ⟨o110, ?_⟩
  obtain ⟨a111, e111, h⟩ := h
  refine ⟨a111, e111, ?_⟩
  cases (e91).symm.trans e111
  obtain ⟨o112, h⟩ := h
  refine ⟨o112, ?_⟩
  obtain ⟨o113, h⟩ := h
  refine ⟨o113, ?_⟩
  obtain ⟨a114, e114, h⟩ := h
  refine ⟨a114, e114, ?_⟩
  cases (e94).symm.trans e114
  obtain ⟨o115, h⟩ := h
  refine ⟨o115, ?_⟩
  refine cm_X1_wetInLee (sp_X1_wetInLee (S := wJ (sI S c 9 0) f2) lg.2.2.1 lg.2.2.2.1 lg.2.2.2.2 h) h (fun yy S1 hp h g => ?_)
  have h := h g
  obtain ⟨-, f3, hS, -, hy⟩ := hp
  subst hS
  have hy : yy = gT G v2 v1 v3 v4 v5 v6 := hy.trans ((ljJ_c (st := f2 b1) (fun k hk => by rw [h2]; exact hly k hk) twb twa).trans (lee_eq (u := v4) bn bd bw2 bw s1 s9).1)
  rw [hz, hy] at h
  rw [hz, hy]
  refine Iff.mp and_comm ⟨fun c1 => ⟨h.2 c1, by rw [dc_y (lgc_eq.mp c1)]⟩, fun c1 => ?_⟩
  have h := h.1 c1
  rw [dc_n (fun z => c1 (lgc_eq.mpr z))]
  exact ⟨fun c2 => ⟨h.1 c2, by rw [dc_n (fun z => (lgc_ge.mpr z) c2)]⟩, fun c2 => ⟨h.2 c2, by rw [dc_y (lgc_ge.mp c2)]⟩⟩
theorem tl_X11_lee (hI : IV S) (hm : (fR S m 3 = none ∧ A = A00) ∨ ∃ rd, WRm m rd A G S) (ab : ABd A) (gb : GBd A G) (h : P_X11_lee m v1 v2 v3 v4 v5 v6 v7 QJ S) : P_X11_lee m v1 v2 v3 v4 v5 v6 v7 (fun x T => QJ x T ∧ x = telllee A G v1 v2 v3 v4 v5 v6 v7) S := by
  delta P_X11_lee P_X11_lee_0
  obtain ⟨om, h⟩ := h
  refine ⟨om, ?_⟩
  intro S1 eS1
  have h := h S1 eS1
  have hm1 := hm_0 hm om eS1
  have hE := m_start hI eS1
  refine cm_X11_refusesTwo (sp_X11_refusesTwo hm1 ab hE h) h (fun xt S2 hp h g => ?_)
  have h := h g
  obtain ⟨-, hS, ht⟩ := hp
  subst hS
  refine Iff.mp and_comm ⟨fun cn => ?_, fun cn => ?_⟩
  · have h := h.2 cn
    exact cm_X11_refused (sp_X11_refused h) h (fun x U hp h g => ⟨h g, by unfold telllee; rw [dc_n (fun z => cn (by rw [ht, z]; decide)), hp.2.1]; rfl⟩)
  have h := h.1 cn
  have h0 := le_le (by rw [← ht]; exact cn)
  obtain ⟨okb, okl, spb⟩ := leN_0 h0
  obtain ⟨ok, sp⟩ := lgN_0 okl
  obtain ⟨i1, i2, i4, bn, bd, bw⟩ := ok_ix ab gb ok
  obtain ⟨s1, s9, sv⟩ := ok_v bw sp
  have j1 := ix_lt (by have := ab.2.2.2.2.1; omega) okb
  have bw2 := gb.2.2.2 _ j1
  obtain ⟨rd, hr⟩ := hm_ok hm1 ok
  have he := fun i => hE rd i hr.2.1
  obtain ⟨mn, md, mw⟩ := m_rows he hr i1 i2 i4
  have mw2 := (m_rows he hr j1 i2 i4).2.2
  refine cm_X11_together (sp_X11_together he hr.1 h) h (fun zz S2 hp h g => ?_)
  have h := h g
  obtain ⟨-, hS, hz⟩ := hp
  subst hS
  rw [tgM_c mn md mw mw2] at hz
  replace hz : zz = gT G v1 v2 v3 v4 v5 v6 := hz
  obtain ⟨le, nb, lb⟩ := lee_eq (u := v4) bn bd bw bw2 s1 s9
  have lb : bJ (gT G v1 v2 v3 v4 v5 v6) nb 37476432000 := lb
  rw [hz] at h
  rw [hz]
  refine cm_X11_told (sp_X11_told (by rw [lb.1]; exact lb.2.1) (by decide) h) h (fun x U hp h g => ⟨h g, ?_⟩)
  unfold telllee
  rw [dc_y h0]
  exact hp.2
theorem tl_X11_first (hI : IV S) (hm : (fR S m 3 = none ∧ A = A00) ∨ ∃ rd, WRm m rd A G S) (ab : ABd A) (gb : GBd A G) (h : P_X11_first m v1 v2 v3 v4 v5 v6 Q S) : P_X11_first m v1 v2 v3 v4 v5 v6 (fun x T => Q x T ∧ x = tellfirst A G v1 v2 v3 v4 v5 v6) S := by
  have gd : ∀ z e T, tellfirst A G v1 v2 v3 v4 v5 v6 = e → P_X11_first_89 Q z e T → P_X11_first_89 (fun x T => Q x T ∧ x = tellfirst A G v1 v2 v3 v4 v5 v6) z e T := fun z e T ee h => by
    delta P_X11_first_89
    obtain ⟨o116, h⟩ := h
    refine ⟨o116, ?_⟩
    exact cm_X11_good (sp_X11_good h) h (fun x U hp h g => ⟨h g, by rw [hp.2.1, ee]⟩)
  delta P_X11_first P_X11_first_0
  obtain ⟨om, h⟩ := h
  refine ⟨om, ?_⟩
  intro S1 eS1
  have h := h S1 eS1
  have hm1 := hm_0 hm om eS1
  have hE := m_start hI eS1
  refine cm_X11_refusesTwo (sp_X11_refusesTwo hm1 ab hE h) h (fun xt S2 hp h g => ?_)
  have h := h g
  obtain ⟨-, hS, ht⟩ := hp
  subst hS
  refine Iff.mp and_comm ⟨fun cn => ?_, fun cn => ?_⟩
  · have h := h.2 cn
    exact cm_X11_refused (sp_X11_refused h) h (fun x U hp h g => ⟨h g, by unfold tellfirst; rw [dc_n (fun z => cn (by rw [ht, z]; decide)), hp.2.1]⟩)
  have h := h.1 cn
  have h0 := le_le (by rw [← ht]; exact cn)
  obtain ⟨okb, okl, spb⟩ := leN_0 h0
  obtain ⟨ok, sp⟩ := lgN_0 okl
  obtain ⟨i1, i2, i4, bn, bd, bw⟩ := ok_ix ab gb ok
  obtain ⟨s1, s9, sv⟩ := ok_v bw sp
  have j1 := ix_lt (by have := ab.2.2.2.2.1; omega) okb
  have bw2 := gb.2.2.2 _ j1
  obtain ⟨rd, hr⟩ := hm_ok hm1 ok
  have he := fun i => hE rd i hr.2.1
  obtain ⟨mn, md, mw⟩ := m_rows he hr i1 i2 i4
  have mw2 := (m_rows he hr j1 i2 i4).2.2
  refine cm_X11_together (sp_X11_together he hr.1 h) h (fun zz S2 hp h g => ?_)
  have h := h g
  obtain ⟨-, hS, hz⟩ := hp
  subst hS
  rw [tgM_c mn md mw mw2] at hz
  replace hz : zz = gT G v1 v2 v3 v4 v5 v6 := hz
  refine cm_X11_together (sp_X11_together he hr.1 h) h (fun yy S2 hp h g => ?_)
  have h := h g
  obtain ⟨-, hS, hy⟩ := hp
  subst hS
  rw [tgM_c mn md mw2 mw] at hy
  replace hy : yy = gT G v2 v1 v3 v4 v5 v6 := hy
  rw [hz, hy] at h
  rw [hz, hy]
  refine ⟨fun c1 => ?_, fun c1 => gd _ _ _ ?_ (h.2 c1)⟩
  · have h := h.1 c1
    have n1 : ¬ (gT G v1 v2 v3 v4 v5 v6).toInt < (gT G v2 v1 v3 v4 v5 v6).toInt := fun z => (lgc_ge.mpr z) c1
    refine ⟨fun c2 => gd _ _ _ ?_ (h.1 c2), fun c2 => gd _ _ _ ?_ (h.2 c2)⟩
    · have n2 : ¬ (gT G v2 v1 v3 v4 v5 v6).toInt < (gT G v1 v2 v3 v4 v5 v6).toInt := fun z => (lgc_ge.mpr z) c2
      unfold tellfirst
      rw [dc_y h0, dc_y (Int64.toInt_inj.mp (by omega))]
    · have n2 := lgc_ge.mp c2
      unfold tellfirst
      rw [dc_y h0, dc_n (fun z => by have := congrArg Int64.toInt z; omega), dc_n n1]
  · have n1 := lgc_ge.mp c1
    unfold tellfirst
    rw [dc_y h0, dc_n (fun z => by have := congrArg Int64.toInt z; omega), dc_y n1]
end C37
/-! the class's leg keeps its two rows -/
def LGx (c : Nat) (S : HS) : Prop := ∃ l b0 b1, LG c l b0 b1 S
section C38
variable {c m a3 : Nat} {S T U : HS} {wi wr : List (Nat × Nat)}
theorem lg_keep (oc : ob S c 9) (h : LGx c S) (g : Gr S T) (F : FRI wi wr S T) (h4 : (9, 4) ∉ wr) (h0 : (1, 0) ∉ wr) (h1 : (1, 1) ∉ wr) : LGx c T := by
  obtain ⟨l, b0, b1, e1, e2, e3, e4, e5⟩ := h
  exact ⟨l, b0, b1, (F.2 9 4 (by decide) h4 c oc).trans e1, gr_ob g e2, (F.2 1 0 (by decide) h0 l e2).trans e3, (F.2 1 1 (by decide) h1 l e2).trans e4, e5⟩
theorem lg_start {F : List (Nat × Nat × Nat)} {g : Nat → Int32} (hI : IV S) (oc : ob S c 9) (u : UZ S) (hf : m ∉ hL S) (bx : BX (nW S m 11 0) T m F g) (ha : a3 ∉ hL T) (e5 : U = nW T a3 14 1) : LGx c U := by
  have gn : Gr S (nW S m 11 0) := gr_of_new rfl hf
  have gT : Gr S T := gr_tr gn bx.1
  have gU : Gr T U := gr_of_new e5 ha
  have g : Gr S U := gr_tr gT gU
  have row : ∀ x, x ∈ hL S → fR U x = fR S x := fun x hx => by
    have xm : x ≠ m := fun z => hf (z ▸ hx)
    have xa : x ≠ a3 := fun z => ha (z ▸ (gT x hx).1)
    have q := bx.2.1 x (gn x hx).1 xm
    rw [e5]
    exact (va_up_ne _ _ xa).trans (q.2.2.trans (va_up_ne _ _ xm))
  obtain ⟨l, e1, o1, -⟩ := hI.1 (9, 4, 1, 0) (by decide) c oc
  obtain ⟨b0, k0, -, -⟩ := hI.1 (1, 0, 14, 5) (by decide) l o1
  obtain ⟨b1, k1, -, -⟩ := hI.1 (1, 1, 14, 5) (by decide) l o1
  refine ⟨l, b0, b1, by rw [row c oc.1]; exact e1, gr_ob g o1, by rw [row l o1.1]; exact k0, by rw [row l o1.1]; exact k1, fun z => ?_⟩
  exact absurd (u.1.2 l 0 l 1 b0 k0 (z ▸ k1)).2 (by decide)
end C38
end
section
/-! more bounds: names, ends of roads, who was seen, the hour -/
def NMd (A : AS) : Prop := aP A ≤ 8 ∧ aW A ≤ 4 ∧ ∀ i, i < aM A → aI A i < aP A ∨ (8 ≤ aI A i ∧ aI A i < 8 + aW A)
def GBe (A : AS) (G : GC) : Prop := NMd A ∧ (∀ i, i < aR A → (gRd G i 0).toInt < (aP A : Int) ∧ (gRd G i 1).toInt < (aP A : Int)) ∧ ∀ i, i < aS A → inI 0 ((aW A : Int) - 1) (gSn G i 0)
def Tld (m : Nat) (A : AS) (S : HS) : Prop := fR S m 3 = none ∨ 0 < aH A
/-- both worlds tell the same, within bounds -/
def WRz (c m : Nat) (S : HS) : Prop := ∃ A G, WRa c m A G S ∧ GBd A G ∧ GBe A G ∧ Tld m A S
section C39
variable {f : Nat → Int32} {n p q : Nat} {A : AS} {G : GC}
theorem lkr_ex {nv : Nat → Int64} {ni : Nat → Nat} {v : Int64} : ∀ (k i q : Nat), lkr nv ni v k i = some q → ∃ j, i ≤ j ∧ j < i + k ∧ q = ni j
  | 0, _, q, h => by cases h
  | k + 1, i, q, h => by
    simp only [lkr] at h
    split at h
    · cases h
      exact ⟨i, by omega, by omega, rfl⟩
    · obtain ⟨j, a, b, c⟩ := lkr_ex k (i + 1) q h
      exact ⟨j, by omega, by omega, c⟩
theorem nm_lk {v : Int64} {q : Nat} (h : NMd A) (e : lkr (aV A) (aI A) v (aM A) 0 = some q) : q < aP A ∨ (8 ≤ q ∧ q < 8 + aW A) := by
  obtain ⟨j, -, b, c⟩ := lkr_ex _ _ _ e
  rw [c]
  exact h.2.2 j (by omega)
theorem gz_road (nm : NMd A) (h : sRoad f n p A = .inl q) : (rdC f n p A 0).toInt < (aP A : Int) ∧ (rdC f n p A 1).toInt < (aP A : Int) := by
  unfold sRoad at h
  obtain ⟨p1, h1, h⟩ := rb_inl h
  obtain ⟨p2, h2, h⟩ := rb_inl h
  obtain ⟨p3, h3, h⟩ := rb_inl h
  obtain ⟨p4, h4, h⟩ := rb_inl h
  obtain ⟨e1, k1, g1, l1⟩ := sPB_inl h1
  obtain ⟨e4, k4, g4, l4⟩ := sPB_inl h4
  have e2 := sSide_inl h2
  have e3 := sWhole_inl h3
  subst e1
  subst e2
  subst e3
  subst e4
  have q1 := nm_lk nm g1
  have q4 := nm_lk nm g4
  refine ⟨?_, ?_⟩
  · show (nI (lkV A (tV f n p))).toInt < _
    rw [lkV_of g1, nI_i (by omega)]
    omega
  · show (nI (lkV A _)).toInt < _
    rw [show lkV A (tV f n (tEn f n (e2 f n p))) = k4 from lkV_of g4, nI_i (by omega)]
    omega
theorem gz_seen (nm : NMd A) (h : sSeen f n p A = .inl q) : inI 0 ((aW A : Int) - 1) (snC f n p A 0) := by
  unfold sSeen at h
  obtain ⟨p1, h1, h⟩ := rb_inl h
  have ex : ∃ k, lkr (aV A) (aI A) (tV f n p) (aM A) 0 = some k ∧ ¬ k < 8 := by
    by_cases ok : nmOk f n p
    · cases hl : lkr (aV A) (aI A) (tV f n p) (aM A) 0 with
      | none =>
        unfold sSW at h1
        rw [dc_y ok, hl] at h1
        cases h1
      | some k =>
        refine ⟨k, rfl, fun z => ?_⟩
        rw [sSW_some ok hl, if_pos z] at h1
        cases h1
    · unfold sSW at h1
      rw [dc_n ok] at h1
      cases h1
  obtain ⟨k, g, k8⟩ := ex
  have w := nm_lk nm g
  have p8 := nm.1
  have w4 := nm.2.1
  show inI 0 _ (nI (lkV A (tV f n p) - 8))
  rw [lkV_of g]
  unfold inI
  rw [nI_i (by omega)]
  omega
theorem gz_ln (h : sLn f n p A = .inl q) (b : GBe A G) : GBe (aLn f n p A) (gLn f n p A G) := by
  obtain ⟨⟨b8, b4, bn⟩, b1, b2⟩ := b
  have nm : NMd A := ⟨b8, b4, bn⟩
  unfold sLn at h
  unfold aLn gLn
  by_cases w0 : isW f n p 0
  · rw [dc_y w0, dc_y w0]
    exact ⟨⟨b8, b4, bn⟩, b1, b2⟩
  rw [dc_n w0] at h
  rw [dc_n w0, dc_n w0]
  by_cases w2 : isW f n p 2
  · rw [dc_y w2, dc_y w2]
    exact ⟨⟨b8, b4, bn⟩, b1, b2⟩
  rw [dc_n w2] at h
  rw [dc_n w2, dc_n w2]
  by_cases w11 : isW f n p 11
  · rw [dc_y w11] at h
    rw [dc_y w11, dc_y w11]
    obtain ⟨p1, h1, h⟩ := rb_inl h
    have r := (sRoom_inl h1).2.1
    refine ⟨⟨r, b4, fun i hi => ?_⟩, fun i hi => ?_, b2⟩
    · have hi : i < aM A + 1 := hi
      show va_up (aI A) (aM A) (aP A) i < aP A + 1 ∨ (8 ≤ va_up (aI A) (aM A) (aP A) i ∧ va_up (aI A) (aM A) (aP A) i < 8 + aW A)
      by_cases z : i = aM A
      · rw [z, va_up_self]
        exact Or.inl (by omega)
      · rw [va_up_ne _ _ z]
        have := bn i (by omega)
        omega
    · have q := b1 i hi
      have q1 := q.1
      have q2 := q.2
      show (gRd G i 0).toInt < ((aP A + 1 : Nat) : Int) ∧ (gRd G i 1).toInt < ((aP A + 1 : Nat) : Int)
      omega
  rw [dc_n w11] at h
  rw [dc_n w11, dc_n w11]
  by_cases w12 : isW f n p 12
  · rw [dc_y w12] at h
    rw [dc_y w12, dc_y w12]
    obtain ⟨p1, h1, h⟩ := rb_inl h
    rw [(sRoom_inl h1).1] at h
    exact ⟨⟨b8, b4, bn⟩, up_lt (P := fun g => (g 0).toInt < (aP A : Int) ∧ (g 1).toInt < (aP A : Int)) b1 (gz_road nm h), b2⟩
  rw [dc_n w12] at h
  rw [dc_n w12, dc_n w12]
  by_cases w13 : isW f n p 13
  · rw [dc_y w13] at h
    rw [dc_y w13, dc_y w13]
    obtain ⟨p1, h1, h⟩ := rb_inl h
    have r := (sRoom_inl h1).2.1
    refine ⟨⟨b8, r, fun i hi => ?_⟩, b1, fun i hi => ?_⟩
    · have hi : i < aM A + 1 := hi
      show va_up (aI A) (aM A) (8 + aW A) i < aP A ∨ (8 ≤ va_up (aI A) (aM A) (8 + aW A) i ∧ va_up (aI A) (aM A) (8 + aW A) i < 8 + (aW A + 1))
      by_cases z : i = aM A
      · rw [z, va_up_self]
        exact Or.inr (by omega)
      · rw [va_up_ne _ _ z]
        have := bn i (by omega)
        omega
    · have q := b2 i hi
      have q1 := q.1
      have q2 := q.2
      show 0 ≤ (gSn G i 0).toInt ∧ (gSn G i 0).toInt ≤ ((aW A + 1 : Nat) : Int) - 1
      omega
  rw [dc_n w13] at h
  rw [dc_n w13, dc_n w13]
  by_cases w14 : isW f n p 14
  · rw [dc_y w14] at h
    obtain ⟨p1, h1, h⟩ := rb_inl h
    rw [(sRoom_inl h1).1] at h
    exact ⟨⟨b8, b4, bn⟩, b1, up_lt (P := fun g => inI 0 ((aW A : Int) - 1) (g 0)) b2 (gz_seen nm h)⟩
  · rw [dc_n w14] at h
    cases h
theorem gz_hr (h : sLn f n p A = .inl q) : 0 < aH (aLn f n p A) := by
  unfold sLn at h
  unfold aLn
  by_cases w0 : isW f n p 0
  · rw [dc_y w0] at h
    rw [dc_y w0]
    unfold sWorld at h
    split at h
    · have b := (t32 (part_in h) (lo := 5) (hi := 60) rfl rfl (by decide) (by decide)).1
      have b1 := b.1
      show 0 < (tV f n (tEn f n (tEn f n p))).toInt32.toInt.toNat
      omega
    · cases h
  rw [dc_n w0] at h
  rw [dc_n w0]
  by_cases w2 : isW f n p 2
  · rw [dc_y w2] at h
    rw [dc_y w2]
    obtain ⟨p1, h1, h⟩ := rb_inl h
    exact (sRoom_inl h1).2.2
  rw [dc_n w2] at h
  rw [dc_n w2]
  by_cases w11 : isW f n p 11
  · rw [dc_y w11] at h
    rw [dc_y w11]
    obtain ⟨p1, h1, h⟩ := rb_inl h
    exact (sRoom_inl h1).2.2
  rw [dc_n w11] at h
  rw [dc_n w11]
  by_cases w12 : isW f n p 12
  · rw [dc_y w12] at h
    rw [dc_y w12]
    obtain ⟨p1, h1, h⟩ := rb_inl h
    exact (sRoom_inl h1).2.2
  rw [dc_n w12] at h
  rw [dc_n w12]
  by_cases w13 : isW f n p 13
  · rw [dc_y w13] at h
    rw [dc_y w13]
    obtain ⟨p1, h1, h⟩ := rb_inl h
    exact (sRoom_inl h1).2.2
  rw [dc_n w13] at h
  rw [dc_n w13]
  by_cases w14 : isW f n p 14
  · rw [dc_y w14] at h
    obtain ⟨p1, h1, h⟩ := rb_inl h
    exact (sRoom_inl h1).2.2
  · rw [dc_n w14] at h
    cases h
theorem gz_all : ∀ (k p : Nat) (A A' : AS) (G : GC), sAll f n k p A = .inl A' → GBe A G → GBe A' (gAll f n k p A G) ∧ 0 < aH A' := by
  intro k
  induction k with
  | zero => intro p A A' G h b; cases h
  | succ k ih =>
    intro p A A' G h b
    have h : aft f n (aLn f n p A) (fun p2 => sAll f n k p2 (aLn f n p A)) (sLn f n p A) = .inl A' := h
    show GBe A' (gAft f n G (gLn f n p A G) (fun p2 => gAll f n k p2 (aLn f n p A) (gLn f n p A G)) (sLn f n p A)) ∧ 0 < aH A'
    cases hL : sLn f n p A with
    | inr e => rw [hL] at h; cases h
    | inl p1 =>
      rw [hL] at h
      have b := gz_ln hL b
      have hh := gz_hr hL
      unfold aft at h
      unfold gAft
      by_cases c0 : tS f n p1 = 0
      · simp only [if_pos c0] at h ⊢
        split at h
        · cases h
          exact ⟨b, hh⟩
        · cases h
      · simp only [if_neg c0] at h ⊢
        cases hS : sSign f n p1 3 with
        | inr e => rw [hS] at h; cases h
        | inl p2 =>
          rw [hS] at h
          exact ih p2 _ _ _ h b
theorem gz_00 : GBe A00 G00 := ⟨⟨by decide, by decide, fun h hh => absurd hh (Nat.not_lt_zero h)⟩, fun h hh => absurd hh (Nat.not_lt_zero h), fun h hh => absurd hh (Nat.not_lt_zero h)⟩
theorem rw_gz {t : Nat} {v1 : Int32} {pr : AS × GC} (h : RWo f t v1 = some pr) : GBe pr.1 pr.2 ∧ 0 < aH pr.1 := by
  unfold RWo at h
  by_cases c : v1 < 0 ∨ nI t < v1
  · rw [dc_y c] at h
    cases h
  · rw [dc_n c] at h
    unfold RWs at h
    cases hR : sAll f v1.toNatClampNeg 1000 0 A00 with
    | inr e => rw [hR] at h; cases h
    | inl A =>
      rw [hR] at h
      cases h
      exact gz_all 1000 0 A00 A G00 hR gz_00
end C39
section C39b
variable {c r w w1 w2 m rd a t : Nat} {A : AS} {G : GC} {S T U : HS} {wi wr : List (Nat × Nat)} {R : Option (AS × GC)}
theorem td_keep (om : ob S m 11) (h : Tld m A S) (F : FRI wi wr S T) (h3 : (11, 3) ∉ wr) : Tld m A T := by
  unfold Tld
  rw [F.2 11 3 (by decide) h3 m om]
  exact h
theorem wr_wz (hI : IV S) (hT : IV T) (hU : IV U) (om : ob S m 11) (J : CJ c r w1 w2 S) (h1 : Cnt w1 A S) (h2 : CtB w1 A G S S) (h3 : ABd A) (h4 : (fR S m 3 = none ∧ A = A00) ∨ ∃ rd, WRm m rd A G S) (g : Gr S T) (K' : K8 S T) (F : FRI wi wr S T) (hR : (11, 3) ∉ wr) (h10 : ∀ i, i < 31 → (10, i) ∉ wr) (h10i : ∀ j, j < 6 → (10, j) ∉ wi) (hW8 : ∀ j ∈ ([6, 7, 8, 9, 10, 11] : List Nat), (8, j) ∉ wr) (g' : Gr T U) (e : WCe c r w1 w2 S R T) (e' : WMe m T R U) (gb : GBd A G) (ge : GBe A G) (td : Tld m A S) (hG : ∀ p, R = some p → GBd p.1 p.2) (hE : ∀ p, R = some p → GBe p.1 p.2 ∧ 0 < aH p.1) : WRz c m U := by
  obtain ⟨A', G', h, q⟩ := wr_worldz hI hT hU om J h1 h2 h3 h4 g K' F hR h10 h10i hW8 g' e e'
  rcases q with ⟨q0, q1, q2⟩ | q
  · subst q0
    have e3 : fR U m 3 = fR S m 3 := e'.2.2.2.trans (F.2 11 3 (by decide) hR m om)
    refine ⟨A', G', h, by rw [q1, q2]; exact gb, by rw [q1, q2]; exact ge, ?_⟩
    unfold Tld
    rw [e3, q1]
    exact td
  · exact ⟨A', G', h, hG _ q, (hE _ q).1, Or.inr (hE _ q).2⟩
theorem td_start {a3 : Nat} {F : List (Nat × Nat × Nat)} {g : Nat → Int32} (hf : m ∉ hL S) (bx : BX (nW S m 11 0) T m F g) (h3 : ∀ e ∈ F, e.1 ≠ 3) (ha : a3 ∉ hL T) (e5 : U = nW T a3 14 1) : fR U m 3 = none := by
  have mi : m ∈ hL (nW S m 11 0) := by
    show m ∈ hL S ++ [m]
    simp
  have ma : m ≠ a3 := fun z => ha (z ▸ (bx.1 m mi).1)
  have rowm : fR U m = fR T m := by rw [e5]; exact va_up_ne _ _ ma
  rw [rowm, bx.2.2.2.2.2.2.2.2 3 h3]
  exact congrFun (va_up_self (fR S) m (fun _ => none)) 3
end C39b
/-! what was seen: legs by number, those that fit -/
def NL (A : AS) : Nat := aR A * 2 * aHs A * 9
def fxV (i : Nat) : Nat := i % 9 + 1
def fxH (A : AS) (i : Nat) : Nat := i / 9 % aHs A
def fxT (A : AS) (i : Nat) : Nat := i / 9 / aHs A
def fmP (G : GC) (s : Nat) (pt : Nat → Int64) (k : Nat) : Prop := pt k = (gSn G s (k + 1)).toInt64 * 2520
noncomputable def fxP (A : AS) (G : GC) (s i : Nat) : Nat → Int64 := gPt G (gSn G s 0) (nI (fxT A i / 2)) (nI (fxT A i % 2)) (nI (fxH A i)) (nI (fxV i))
def fitP (A : AS) (G : GC) (s i : Nat) : Prop := spOK G (gSn G s 0) (nI (fxV i)) ∧ ∀ k, k < 5 → fmP G s (fxP A G s i) k
def fitC (A : AS) (i : Nat) : Int32 := nI (1000 * (fxT A i / 2) + 100 * (fxT A i % 2) + 10 * fxH A i + fxV i)
noncomputable def cntP (P : Nat → Prop) : Nat → Nat
  | 0 => 0
  | k + 1 => dc (P k) (cntP P k + 1) (cntP P k)
noncomputable def fndI (P : Nat → Prop) (cd : Nat → Int32) (v : Int32) : Nat → Int32
  | 0 => -1
  | k + 1 => dc (P k ∧ nI (cntP P k) = v) (cd k) (fndI P cd v k)
/-- gone through as far as a: so many fitted, none was the one wanted -/
def SoF (P : Nat → Prop) (v : Int32) (a : Nat) (x : Int32) : Prop := x = nI (cntP P a) ∧ ∀ k, k < a → P k → ¬ nI (cntP P k) = v
noncomputable def tellfits (A : AS) (G : GC) (v1 : Int32) : Int32 := dc (¬ v1 < 0 ∧ v1 < nI (aS A)) (nI (cntP (fitP A G v1.toNatClampNeg) (NL A))) (-1)
noncomputable def tellfit (A : AS) (G : GC) (v1 v2 : Int32) : Int32 := dc ((¬ v1 < 0 ∧ v1 < nI (aS A)) ∧ ¬ v2 < 0) (fndI (fitP A G v1.toNatClampNeg) (fitC A) v2 (NL A)) (-1)
noncomputable def lieB (A : AS) (G : GC) : Nat → Int32
  | 0 => 0
  | s + 1 => dc (cntP (fitP A G s) (NL A) = 0) (lieB A G s ||| ((1 : Int32) <<< (nI s &&& 31))) (lieB A G s)
noncomputable def telllies (A : AS) (G : GC) : Int32 := dc (0 < aH A) (lieB A G (aS A)) (-1)
section C40a
variable {P : Nat → Prop} {cd : Nat → Int32} {v x : Int32} {a b k N : Nat}
theorem nJ_mul (a b : Nat) : nI a * nI b = nI (a * b) := (Int32.ofNat_mul a b).symm
theorem nJ_of (hk : k < 100000) (h : x.toInt = (k : Int)) : x = nI k := Int32.toInt_inj.mp (by rw [h, nI_i hk])
theorem nJ_div (ha : a < 100000) (hb : b < 100000) : nI a / nI b = nI (a / b) := by
  have q : a / b ≤ a := Nat.div_le_self a b
  refine nJ_of (by omega) ?_
  rw [Int32.toInt_div, nI_i ha, nI_i hb]
  have e : (a : Int).tdiv (b : Int) = ((a / b : Nat) : Int) := (Int.ofNat_tdiv a b).symm
  rw [e]
  generalize a / b = z at q
  exact Int.bmod_eq_of_le (by omega) (by omega)
theorem nJ_sub (ha : a < 100000) (hb : b ≤ a) : nI a - nI b = nI (a - b) := by
  refine nJ_of (by omega) ?_
  rw [Int32.toInt_sub, nI_i ha, nI_i (by omega), Int.bmod_eq_of_le (by omega) (by omega)]
  omega
theorem nJ_mod (ha : a < 100000) (hb : b < 100000) : nI a - nI a / nI b * nI b = nI (a % b) := by
  have q : a / b * b ≤ a := Nat.div_mul_le_self a b
  rw [nJ_div ha hb, nJ_mul, nJ_sub ha q]
  have := Nat.div_add_mod a b
  rw [Nat.mul_comm] at this
  rw [show a - a / b * b = a % b by omega]
theorem nJ_neg (hk : k < 100000) : ¬ nI k < 0 := fun z => by
  have := lt_i z
  rw [nI_i hk] at this
  have e0 : (0 : Int32).toInt = 0 := by decide
  omega
theorem nJ_lt (ha : a < b) (hb : b < 100000) : nI a < nI b := Int32.lt_iff_toInt_lt.mpr (by rw [nI_i (by omega), nI_i hb]; omega)
theorem nJ_m1 (hk : k < 100000) : ¬ nI k = -1 := fun z => by
  have e : (nI k).toInt = (k : Int) := nI_i hk
  rw [z] at e
  have : (-1 : Int32).toInt = -1 := by decide
  omega
theorem cnt_s : cntP P (k + 1) = dc (P k) (cntP P k + 1) (cntP P k) := rfl
theorem cnt_y (h : P k) : cntP P (k + 1) = cntP P k + 1 := cnt_s.trans (dc_y h)
theorem cnt_n (h : ¬ P k) : cntP P (k + 1) = cntP P k := cnt_s.trans (dc_n h)
theorem cnt_le : ∀ k, cntP P k ≤ k
  | 0 => Nat.le_refl 0
  | k + 1 => by
    have := cnt_le k
    by_cases h : P k
    · rw [cnt_y h]; omega
    · rw [cnt_n h]; omega
theorem cnt_mono (a : Nat) : ∀ d, cntP P a ≤ cntP P (a + d)
  | 0 => Nat.le_refl _
  | d + 1 => by
    have := cnt_mono a d
    show cntP P a ≤ cntP P (a + d + 1)
    by_cases h : P (a + d)
    · rw [cnt_y h]; omega
    · rw [cnt_n h]; omega
theorem cnt_lt (h : P a) (hb : a < b) : cntP P a < cntP P b := by
  have := cnt_mono (P := P) (a + 1) (b - (a + 1))
  rw [cnt_y h, show a + 1 + (b - (a + 1)) = b by omega] at this
  omega
theorem cnt_0 (h : ∀ k, k < N → ¬ P k) : cntP P N = 0 := by
  induction N with
  | zero => rfl
  | succ N ih => rw [cnt_n (h N (by omega))]; exact ih (fun k hk => h k (by omega))
theorem sof_0 : SoF P v 0 0 := ⟨rfl, fun k hk => absurd hk (Nat.not_lt_zero k)⟩
theorem sof_n (h : SoF P v a x) (hn : ¬ P a) : SoF P v (a + 1) x := ⟨by rw [cnt_n hn]; exact h.1, fun k hk hp => by
  by_cases z : k = a
  · exact absurd (z ▸ hp) hn
  · exact h.2 k (by omega) hp⟩
theorem sof_y (h : SoF P v a x) (hp : P a) (hv : ¬ x = v) : SoF P v (a + 1) (x + 1) := ⟨by rw [cnt_y hp, h.1]; exact nI_add _ 1, fun k hk hq => by
  by_cases z : k = a
  · rw [z, ← h.1]; exact hv
  · exact h.2 k (by omega) hq⟩
theorem sof_d (h : SoF P v a x) : ∀ d, (∀ k, a ≤ k → k < a + d → ¬ P k) → SoF P v (a + d) x
  | 0, _ => h
  | d + 1, hn => sof_n (sof_d h d (fun k h1 h2 => hn k h1 (by omega))) (hn (a + d) (by omega) (by omega))
theorem sof_to (h : SoF P v a x) (hb : a ≤ b) (hn : ∀ k, a ≤ k → k < b → ¬ P k) : SoF P v b x := by
  have := sof_d h (b - a) (fun k h1 h2 => hn k h1 (by omega))
  rw [show a + (b - a) = b by omega] at this
  exact this
theorem fnd_n (h : ∀ k, k < N → P k → ¬ nI (cntP P k) = v) : fndI P cd v N = -1 := by
  induction N with
  | zero => rfl
  | succ N ih =>
    show dc _ _ _ = _
    rw [dc_n (fun z => h N (by omega) z.1 z.2)]
    exact ih (fun k hk => h k (by omega))
theorem fnd_y (hN : N < 100000) (hk : k < N) (hp : P k) (hv : nI (cntP P k) = v) : fndI P cd v N = cd k := by
  induction N with
  | zero => omega
  | succ N ih =>
    show dc _ _ _ = _
    by_cases z : k = N
    · subst z
      rw [dc_y ⟨hp, hv⟩]
    · rw [dc_n (fun q => ?_)]
      · exact ih (by omega) (by omega)
      · have l := cnt_lt hp (show k < N by omega)
        have := cnt_le (P := P) N
        have e := nI_inj (by omega) (by omega) (hv.trans q.2.symm)
        omega
end C40a
section C40b
variable {A : AS} {i ro y hh vv : Nat}
theorem NL_le (ab : ABd A) : NL A ≤ 1296 := Nat.mul_le_mul (Nat.mul_le_mul (Nat.mul_le_mul ab.2.2.2.1 (Nat.le_refl 2)) ab.2.1) (Nat.le_refl 9)
theorem fx_in (hi : i < NL A) : 0 < aHs A ∧ fxT A i < aR A * 2 ∧ fxT A i / 2 < aR A ∧ fxH A i < aHs A ∧ 1 ≤ fxV i ∧ fxV i ≤ 9 := by
  unfold NL at hi
  have h0 : 0 < aHs A := Nat.pos_of_ne_zero (fun z => by rw [z] at hi; omega)
  have h1 : i / 9 < aR A * 2 * aHs A := Nat.div_lt_of_lt_mul (by rw [Nat.mul_comm]; exact hi)
  have h2 : i / 9 / aHs A < aR A * 2 := Nat.div_lt_of_lt_mul (by rw [Nat.mul_comm]; exact h1)
  refine ⟨h0, h2, ?_, Nat.mod_lt _ h0, ?_, ?_⟩
  · unfold fxT
    omega
  · unfold fxV
    omega
  · unfold fxV
    omega
/-- the number of a leg -/
def ixL (A : AS) (ro y hh : Nat) : Nat := ((ro * 2 + y) * aHs A + hh) * 9
theorem ix_d (h0 : hh < aHs A) (hy : y < 2) (v1 : 1 ≤ vv) (v9 : vv ≤ 9) : fxV (ixL A ro y hh + (vv - 1)) = vv ∧ fxH A (ixL A ro y hh + (vv - 1)) = hh ∧ fxT A (ixL A ro y hh + (vv - 1)) / 2 = ro ∧ fxT A (ixL A ro y hh + (vv - 1)) % 2 = y := by
  have e9 : (ixL A ro y hh + (vv - 1)) / 9 = hh + (ro * 2 + y) * aHs A := by unfold ixL; omega
  have em : (ixL A ro y hh + (vv - 1)) % 9 = vv - 1 := by unfold ixL; omega
  have eT : fxT A (ixL A ro y hh + (vv - 1)) = ro * 2 + y := by
    unfold fxT
    rw [e9, Nat.add_mul_div_right _ _ (by omega), Nat.div_eq_of_lt h0]
    omega
  refine ⟨?_, ?_, ?_, ?_⟩
  · unfold fxV
    rw [em]
    omega
  · unfold fxH
    rw [e9, Nat.add_mul_mod_self_right]
    exact Nat.mod_eq_of_lt h0
  · rw [eT]
    omega
  · rw [eT]
    omega
theorem ix_h : ixL A ro y (hh + 1) = ixL A ro y hh + 9 := by unfold ixL; omega
theorem ix_y : ixL A ro y (aHs A) = ixL A ro (y + 1) 0 := by
  unfold ixL
  rw [show ro * 2 + (y + 1) = ro * 2 + y + 1 by omega, Nat.succ_mul]
  omega
theorem ix_r : ixL A ro 2 0 = ixL A (ro + 1) 0 0 := by
  unfold ixL
  rw [show (ro + 1) * 2 + 0 = ro * 2 + 2 by omega]
theorem ix_0 : ixL A 0 0 0 = 0 := by unfold ixL; simp
theorem ix_N : ixL A (aR A) 0 0 = NL A := by unfold ixL NL; simp
end C40b
/-! the class: which legs fit -/
section C40c
variable {c m w r w1 w2 l b0 b1 : Nat} {A : AS} {G : GC} {S T : HS} {v1 v2 v3 v4 v5 v6 : Int32} {Q : Int32 → HS → Prop} {gg ff : Nat → Nat → Int64}
theorem sJ_X8_hasWalker (hI : IV S) (ow : ob S w 8) (ab : ABd A) (hc : Cnt w A S) (h : P_X8_hasWalker w v1 Q (wJ S gg)) : P_X8_hasWalker w v1 (fun x T => Q x T ∧ wJ S gg = T ∧ ans (¬ v1 < 0 ∧ v1 < nI (aW A)) x) (wJ S gg) := by
  delta P_X8_hasWalker P_X8_hasWalker_0
  refine ⟨fun c1 => ⟨h.1 c1, rfl, Or.inr ⟨fun z => z.1 c1, rfl⟩⟩, fun c1 => ?_⟩
  have h := h.2 c1
  obtain ⟨o, h⟩ := h
  refine ⟨o, fun x2 e2 => ?_⟩
  have h := h x2 e2
  have e2 := e2.trans hc.2.2.2.2.1
  refine ⟨fun c2 => ⟨h.1 c2, rfl, Or.inr ⟨fun z => ?_, rfl⟩⟩, fun c2 => ?_⟩
  · rw [e2] at c2
    exact absurd z.2 (Int32.not_lt.mpr c2)
  have h := h.2 c2
  obtain ⟨a4, e4, h⟩ := h
  refine ⟨a4, e4, ?_⟩
  obtain ⟨o4, h⟩ := h
  refine ⟨o4, ?_⟩
  rw [e2] at c2
  have c2 := Int32.not_le.mp c2
  obtain ⟨a5, e5, -, n5⟩ := hI.1 (8, 9, 19, 4) (by decide) w ow
  cases e5.symm.trans e4
  have n5 : hN (wJ S gg) a4 = 4 := n5.resolve_left (by decide)
  refine ⟨fun c3 => ?_, fun c3 => ⟨h.2 c3, rfl, Or.inl ⟨⟨c1, c2⟩, rfl⟩⟩⟩
  rw [n5] at c3
  have q1 := le_i c3
  have q2 := lt_i c2
  have hb := ab.2.2.2.2.1
  rw [nI_i (by omega)] at q1 q2
  omega
theorem sJ_X8_hasRoad (hI : IV S) (ow : ob S w 8) (ab : ABd A) (hc : Cnt w A S) (h : P_X8_hasRoad w v1 Q (wJ S gg)) : P_X8_hasRoad w v1 (fun x T => Q x T ∧ wJ S gg = T ∧ ans (¬ v1 < 0 ∧ v1 < nI (aR A)) x) (wJ S gg) := by
  delta P_X8_hasRoad P_X8_hasRoad_0
  refine ⟨fun c1 => ⟨h.1 c1, rfl, Or.inr ⟨fun z => z.1 c1, rfl⟩⟩, fun c1 => ?_⟩
  have h := h.2 c1
  obtain ⟨o, h⟩ := h
  refine ⟨o, fun x2 e2 => ?_⟩
  have h := h x2 e2
  have e2 := e2.trans hc.2.2.2.1
  refine ⟨fun c2 => ⟨h.1 c2, rfl, Or.inr ⟨fun z => ?_, rfl⟩⟩, fun c2 => ?_⟩
  · rw [e2] at c2
    exact absurd z.2 (Int32.not_lt.mpr c2)
  have h := h.2 c2
  obtain ⟨a4, e4, h⟩ := h
  refine ⟨a4, e4, ?_⟩
  obtain ⟨o4, h⟩ := h
  refine ⟨o4, ?_⟩
  rw [e2] at c2
  have c2 := Int32.not_le.mp c2
  obtain ⟨a5, e5, -, n5⟩ := hI.1 (8, 8, 18, 12) (by decide) w ow
  cases e5.symm.trans e4
  have n5 : hN (wJ S gg) a4 = 12 := n5.resolve_left (by decide)
  refine ⟨fun c3 => ?_, fun c3 => ⟨h.2 c3, rfl, Or.inl ⟨⟨c1, c2⟩, rfl⟩⟩⟩
  rw [n5] at c3
  have q1 := le_i c3
  have q2 := lt_i c2
  have hb := ab.2.2.2.1
  rw [nI_i (by omega)] at q1 q2
  omega
theorem sJ_X8_hasSeen (hI : IV S) (ow : ob S w 8) (ab : ABd A) (hc : Cnt w A S) (h : P_X8_hasSeen w v1 Q (wJ S gg)) : P_X8_hasSeen w v1 (fun x T => Q x T ∧ wJ S gg = T ∧ ans (¬ v1 < 0 ∧ v1 < nI (aS A)) x) (wJ S gg) := by
  delta P_X8_hasSeen P_X8_hasSeen_0
  refine ⟨fun c1 => ⟨h.1 c1, rfl, Or.inr ⟨fun z => z.1 c1, rfl⟩⟩, fun c1 => ?_⟩
  have h := h.2 c1
  obtain ⟨o, h⟩ := h
  refine ⟨o, fun x2 e2 => ?_⟩
  have h := h x2 e2
  have e2 := e2.trans hc.2.2.2.2.2
  refine ⟨fun c2 => ⟨h.1 c2, rfl, Or.inr ⟨fun z => ?_, rfl⟩⟩, fun c2 => ?_⟩
  · rw [e2] at c2
    exact absurd z.2 (Int32.not_lt.mpr c2)
  have h := h.2 c2
  obtain ⟨a4, e4, h⟩ := h
  refine ⟨a4, e4, ?_⟩
  obtain ⟨o4, h⟩ := h
  refine ⟨o4, ?_⟩
  rw [e2] at c2
  have c2 := Int32.not_le.mp c2
  obtain ⟨a5, e5, -, n5⟩ := hI.1 (8, 10, 13, 4) (by decide) w ow
  cases e5.symm.trans e4
  have n5 : hN (wJ S gg) a4 = 4 := n5.resolve_left (by decide)
  refine ⟨fun c3 => ?_, fun c3 => ⟨h.2 c3, rfl, Or.inl ⟨⟨c1, c2⟩, rfl⟩⟩⟩
  rw [n5] at c3
  have q1 := le_i c3
  have q2 := lt_i c2
  have hb := ab.2.2.2.2.2
  rw [nI_i (by omega)] at q1 q2
  omega
theorem sq_X8_isTold (hc : Cnt w A S) (ab : ABd A) (h : P_X8_isTold w Q S) : P_X8_isTold w (fun x T => Q x T ∧ S = T ∧ ans (0 < aH A) x) S := by
  have e0 : (0 : Int32).toInt = 0 := by decide
  have hb := ab.1
  delta P_X8_isTold P_X8_isTold_0
  obtain ⟨o, h⟩ := h
  refine ⟨o, fun x1 e1 => ?_⟩
  have h := h x1 e1
  replace e1 := e1.trans hc.1
  have n1 : x1.toInt = (aH A : Int) := by rw [e1, nI_i (by omega)]
  refine ⟨fun cc => ⟨h.1 cc, rfl, Or.inr ⟨fun z => ?_, rfl⟩⟩, fun cc => ⟨h.2 cc, rfl, Or.inl ⟨?_, rfl⟩⟩⟩
  · have := le_i cc
    omega
  · have := nle_i cc
    omega
theorem sp_X1_legsOf (hc : Cnt w A S) (h : P_X1_legsOf w Q S) : P_X1_legsOf w (fun x T => Q x T ∧ S = T ∧ x = nI (NL A)) S := by
  delta P_X1_legsOf P_X1_legsOf_0
  obtain ⟨o, h⟩ := h
  refine ⟨o, fun x1 e1 x2 e2 => ⟨h x1 e1 x2 e2, rfl, ?_⟩⟩
  rw [e1, e2, hc.2.2.2.1, hc.2.1]
  show nI (aR A) * nI 2 * nI (aHs A) * nI 9 = _
  rw [nJ_mul, nJ_mul, nJ_mul]
  rfl
theorem lp_X1_fitCode {pt : Nat → Int64} {cd R : Int32} {P : Prop} {s sw : Nat} (ct : CtB w1 A G S S) (esw : fR S w1 10 = some sw) (lg : LG c l b0 b1 S) (hs : s < aS A) (hs4 : aS A ≤ 4) (hf : ∀ k, k < 5 → ff b0 k = pt k) (hP : P ↔ ∀ k, k < 5 → fmP G s pt k) (hR : R = dc P cd (-1)) (ecd : ∀ x2 x3 : Int32, x2 = v6 / (2 : Int32) → x3 = v6 - v6 / (2 : Int32) * (2 : Int32) → (((1000 : Int32) * x2) + ((100 : Int32) * x3)) + ((10 : Int32) * v5) + v4 = cd) (h : P_X1_fitCode_141 Q l w1 (nI s) v4 v5 v6 0 (wJ S ff)) : P_X1_fitCode_141 (fun x T => Q x T ∧ (∃ g, T = wJ S g) ∧ x = R) l w1 (nI s) v4 v5 v6 0 (wJ S ff) := by
  intro X hX
  refine h (fun a0 a1 a2 a4 a5 a6 a8 T => (a0 = l ∧ a1 = w1 ∧ a2 = nI s ∧ a4 = v4 ∧ a5 = v5 ∧ a6 = v6 ∧ T = wJ S ff ∧ ∃ k, k ≤ 5 ∧ a8 = nI k ∧ ∀ j, j < k → fmP G s pt j) → X a0 a1 a2 a4 a5 a6 a8 T) ?_ ⟨rfl, rfl, rfl, rfl, rfl, rfl, rfl, 0, by decide, rfl, fun j hj => absurd hj (Nat.not_lt_zero j)⟩
  rintro a0 a1 a2 a4 a5 a6 a8 T h ⟨rfl, rfl, rfl, rfl, rfl, rfl, rfl, k, hk, h8, hj⟩
  apply hX
  have n8 : a8.toInt = (k : Int) := by rw [h8, nI_i (by omega)]
  have e5 : (5 : Int32).toInt = 5 := by decide
  refine ⟨fun cc => ?_, fun cc => ?_⟩
  · have h := h.1 cc
    have := le_i cc
    have p : P := hP.mpr (fun j h5 => hj j (by omega))
    intro x2 q2
    have h := h x2 q2
    intro x3 q3
    have h := h x3 q3
    refine ⟨h, ⟨ff, rfl⟩, ?_⟩
    rw [hR, dc_y p]
    exact ecd x2 x3 q2 q3
  have h := h.2 cc
  have lt := nle_i cc
  have c8 : a8.toNatClampNeg = k := by rw [h8, nI_cl (by omega)]
  obtain ⟨o1, h⟩ := h
  refine ⟨o1, ?_⟩
  obtain ⟨a9, e9, h⟩ := h
  refine ⟨a9, e9, ?_⟩
  cases (lg.2.2.1).symm.trans e9
  obtain ⟨o2, h⟩ := h
  refine ⟨o2, ?_⟩
  obtain ⟨i1, h⟩ := h
  refine ⟨i1, ?_⟩
  intro x6 q6
  have h := h x6 q6
  obtain ⟨o3, h⟩ := h
  refine ⟨o3, ?_⟩
  obtain ⟨a7, e7, h⟩ := h
  refine ⟨a7, e7, ?_⟩
  obtain ⟨o4, h⟩ := h
  refine ⟨o4, ?_⟩
  intro x9 q9
  have h := h x9 q9
  obtain ⟨i2, h⟩ := h
  refine ⟨i2, ?_⟩
  intro x10 q10
  have h := h x10 q10
  have y9 : x9 = nI (5 * s + k) := by
    rw [q9, h8]
    show nI s * nI 5 + nI k = _
    rw [nJ_mul, nI_add, Nat.mul_comm]
  have c9 : x9.toNatClampNeg = 5 * s + k := by rw [y9, nI_cl (by omega)]
  have e10 : x10 = gSn G s (k + 1) := by
    rw [q10, c9]
    exact (ct.2.2.2.2 sw a7 esw e7 s hs).2 k (by omega)
  have e6 : x6 = pt k := by
    rw [q6, c8]
    exact hf k (by omega)
  refine ⟨fun cz => ?_, fun cz => ?_⟩
  · have h := h.1 cz
    intro x12 q12
    have h := h x12 q12
    have eq := lgc_eq.mp cz
    refine h ⟨rfl, rfl, rfl, rfl, rfl, rfl, rfl, k + 1, by omega, by rw [q12, h8]; exact nI_add k 1, fun j hj2 => ?_⟩
    by_cases z : j = k
    · rw [z]
      unfold fmP
      rw [← e6, ← e10]
      exact eq
    · exact hj j (by omega)
  · refine ⟨h.2 cz, ⟨ff, rfl⟩, ?_⟩
    rw [hR, dc_n (fun p => cz (lgc_eq.mpr (by rw [e6, e10]; exact hP.mp p k (by omega))))]
set_option maxHeartbeats 1000000 in
theorem sp_X1_fitCode {i s : Nat} (hI : IV S) (J : CJ c r w1 w2 S) (hc : Cnt w1 A S) (ct : CtB w1 A G S S) (ab : ABd A) (gb : GBd A G) (ge : GBe A G) (lg : LG c l b0 b1 S) (hs : s < aS A) (hi : i < NL A) (h : P_X1_fitCode l w1 (nI s) (nI i) Q (wJ S gg)) : P_X1_fitCode l w1 (nI s) (nI i) (fun x T => Q x T ∧ (∃ g, T = wJ S g) ∧ x = dc (fitP A G s i) (fitC A i) (-1)) (wJ S gg) := by
  have ow1 := J.2.2.2.2.2.1
  have oc := J.2.2.2.1
  have N6 := NL_le ab
  have b4 := ab.2.2.2.2.2
  have bW := ab.2.2.2.2.1
  have bR := ab.2.2.2.1
  have bH := ab.2.1
  obtain ⟨f0, fT, fR2, fH, fV1, fV9⟩ := fx_in hi
  have eT : i / 9 / aHs A < 24 := by unfold fxT at fT; omega
  have e0 : (0 : Int32).toInt = 0 := by decide
  delta P_X1_fitCode P_X1_fitCode_0
  refine ⟨fun cc => absurd cc (nJ_neg (by omega)), fun cc => ?_⟩
  have h := h.2 cc
  refine cm_X1_legsOf (sp_X1_legsOf (S := wJ S gg) hc h) h (fun x4 S2 hp h g => ?_)
  have h := h g
  obtain ⟨-, hS, hx4⟩ := hp
  subst hS
  refine ⟨fun cc => ?_, fun cc => ?_⟩
  · rw [hx4] at cc
    have := le_i cc
    rw [nI_i (by omega), nI_i (by omega)] at this
    omega
  have h := h.2 cc
  obtain ⟨o1, h⟩ := h
  refine ⟨o1, ?_⟩
  refine cm_X8_hasSeen (sJ_X8_hasSeen hI ow1 ab hc h) h (fun x8 S2 hp h g b => ?_)
  have h := h g b
  obtain ⟨-, hS, hx8⟩ := hp
  subst hS
  refine ⟨fun cc => absurd ⟨nJ_neg (by omega), nJ_lt hs (by omega)⟩ (an0 hx8 cc), fun cc => ?_⟩
  have h := h.2 cc
  intro x10 q10
  have h := h x10 q10
  replace q10 : x10 = nI (aHs A) := q10.trans hc.2.1
  have n10 : x10.toInt = (aHs A : Int) := by rw [q10, nI_i (by omega)]
  refine Iff.mp and_comm ⟨fun cc => ?_, fun cc => ?_⟩
  · have := nlt_i cc
    omega
  have h := h.1 cc
  intro x12 q12
  have h := h x12 q12
  intro x13 q13
  have h := h x13 q13
  intro x14 q14
  have h := h x14 q14
  intro x15 q15
  have h := h x15 q15
  obtain ⟨z15, h⟩ := h
  refine ⟨z15, ?_⟩
  intro x17 q17
  have h := h x17 q17
  intro x18 q18
  have h := h x18 q18
  intro x19 q19
  have h := h x19 q19
  obtain ⟨z19, h⟩ := h
  refine ⟨z19, ?_⟩
  intro x21 q21
  have h := h x21 q21
  replace q15 : x15 = nI (aHs A) := q15.trans hc.2.1
  replace q19 : x19 = nI (aHs A) := q19.trans hc.2.1
  have d9 : i / 9 ≤ i := Nat.div_le_self i 9
  have y13 : x13 = nI (fxV i) := by
    rw [q13, q12, show (nI i - nI i / (9 : Int32) * (9 : Int32)) = nI (i % 9) from nJ_mod (b := 9) (by omega) (by decide)]
    exact nI_add (i % 9) 1
  have y14 : x14 = nI (i / 9) := q14.trans (nJ_div (b := 9) (by omega) (by decide))
  have y18 : x18 = nI (i / 9) := q18.trans (nJ_div (b := 9) (by omega) (by decide))
  have y17 : x17 = nI (fxH A i) := by
    rw [q17, y14, q15, nJ_mod (by omega) (by omega)]
    rfl
  have y21 : x21 = nI (fxT A i) := by
    rw [q21, y18, q19, nJ_div (by omega) (by omega)]
    rfl
  obtain ⟨a22, e22, h⟩ := h
  refine ⟨a22, e22, ?_⟩
  obtain ⟨o2, h⟩ := h
  refine ⟨o2, ?_⟩
  obtain ⟨i2, h⟩ := h
  refine ⟨i2, ?_⟩
  intro x24 q24
  have h := h x24 q24
  obtain ⟨sf, esf, -, -⟩ := hI.1 (8, 11, 13, 20) (by decide) w1 ow1
  rw [nI_cl (by omega)] at q24
  replace q24 : x24 = gSn G s 0 := q24.trans (ct.2.2.2.2 a22 sf e22 esf s hs).1
  have gs := ge.2.2 s hs
  have g1 := gs.1
  have g2 := gs.2
  have k24 : ¬ x24 < 0 ∧ x24 < nI (aW A) := by
    rw [q24]
    refine ⟨fun z => ?_, Int32.lt_iff_toInt_lt.mpr ?_⟩
    · have := lt_i z
      omega
    · rw [nI_i (by omega)]
      omega
  refine cm_X8_hasWalker (sJ_X8_hasWalker hI ow1 ab hc h) h (fun x27 S2 hp h g b => ?_)
  have h := h g b
  obtain ⟨-, hS, hx27⟩ := hp
  subst hS
  refine ⟨fun cc => absurd k24 (an0 hx27 cc), fun cc => ?_⟩
  have h := h.2 cc
  intro x29 q29
  have h := h x29 q29
  have y29 : x29 = nI (fxT A i / 2) := by
    rw [q29, y21]
    exact nJ_div (b := 2) (by unfold fxT; omega) (by decide)
  refine cm_X8_hasRoad (sJ_X8_hasRoad hI ow1 ab hc h) h (fun x32 S2 hp h g b => ?_)
  have h := h g b
  obtain ⟨-, hS, hx32⟩ := hp
  subst hS
  refine ⟨fun cc => absurd (by rw [y29]; exact ⟨nJ_neg (by omega), nJ_lt fR2 (by omega)⟩) (an0 hx32 cc), fun cc => ?_⟩
  have h := h.2 cc
  have i1 : x24.toNatClampNeg < aW A := ix_lt (by omega) k24
  obtain ⟨a34, e34, h⟩ := h
  refine ⟨a34, e34, ?_⟩
  obtain ⟨o3, h⟩ := h
  refine ⟨o3, ?_⟩
  obtain ⟨o4, h⟩ := h
  refine ⟨o4, ?_⟩
  obtain ⟨a36, e36, h⟩ := h
  refine ⟨a36, e36, ?_⟩
  obtain ⟨o5, h⟩ := h
  refine ⟨o5, ?_⟩
  obtain ⟨kwk, rwk, twk⟩ := wk_at (z := 0) hI ow1 oc ct ab e34 i1 e36
  have bw := gb.2.2.2 _ i1
  refine cm_X6_canGo (sp_X6_canGo (S := wJ S gg) (by rw [show fI (wJ S gg) a36 5 = _ from rwk 5 (by decide)]; exact bw.2.2.2.2.2.1.1) (by rw [show fI (wJ S gg) a36 6 = _ from rwk 6 (by decide)]; exact bw.2.2.2.2.2.2.2) h) h (fun x39 S2 hp h g b => ?_)
  have h := h g b
  obtain ⟨-, hS, hx39⟩ := hp
  subst hS
  rw [show fI (wJ S gg) a36 5 = _ from rwk 5 (by decide), show fI (wJ S gg) a36 6 = _ from rwk 6 (by decide), y13, q24] at hx39
  replace hx39 : ans (spOK G (gSn G s 0) (nI (fxV i))) x39 := hx39
  refine Iff.mp and_comm ⟨fun cc => ⟨h.2 cc, ⟨gg, rfl⟩, ?_⟩, fun cc => ?_⟩
  · rw [dc_n (fun z => an0 hx39 cc z.1)]
  have h := h.1 cc
  have sp := an1 hx39 cc
  obtain ⟨a41, e41, h⟩ := h
  refine ⟨a41, e41, ?_⟩
  obtain ⟨o6, h⟩ := h
  refine ⟨o6, ?_⟩
  obtain ⟨o7, h⟩ := h
  refine ⟨o7, ?_⟩
  obtain ⟨a43, e43, h⟩ := h
  refine ⟨a43, e43, ?_⟩
  cases e34.symm.trans e41
  cases e36.symm.trans e43
  obtain ⟨a44, e44, h⟩ := h
  refine ⟨a44, e44, ?_⟩
  intro x45 q45
  have h := h x45 q45
  have y45 : x45 = nI (fxT A i / 2) := q45.trans (q29.symm.trans y29)
  obtain ⟨o8, h⟩ := h
  refine ⟨o8, ?_⟩
  obtain ⟨o9, h⟩ := h
  refine ⟨o9, ?_⟩
  obtain ⟨a47, e47, h⟩ := h
  refine ⟨a47, e47, ?_⟩
  have i2 : x45.toNatClampNeg < aR A := by rw [y45, nI_cl (by omega)]; exact fR2
  obtain ⟨krd, rrd, trd⟩ := rd_at (z := 0) hI ow1 oc ct ab e44 i2 e47
  intro x48 q48
  have h := h x48 q48
  have y48 : x48 = nI (fxT A i % 2) := by
    rw [q48, y21]
    exact nJ_mod (b := 2) (by unfold fxT; omega) (by decide)
  obtain ⟨a49, e49, h⟩ := h
  refine ⟨a49, e49, ?_⟩
  obtain ⟨o10, h⟩ := h
  refine ⟨o10, ?_⟩
  obtain ⟨o11, h⟩ := h
  refine ⟨o11, ?_⟩
  obtain ⟨a51, e51, h⟩ := h
  refine ⟨a51, e51, ?_⟩
  have i4 : x17.toNatClampNeg < aHs A := by rw [y17, nI_cl (by omega)]; exact fH
  obtain ⟨krn, rrn, trn⟩ := rn_at (z := 0) hI ow1 oc ct ab e49 i4 e51
  obtain ⟨o12, h⟩ := h
  refine ⟨o12, ?_⟩
  have bn := gb.1 _ i4
  have bd := gb.2.2.1 _ i2
  have s13 : x13.toInt = (fxV i : Int) := by rw [y13, nI_i (by omega)]
  have sv : ¬ x13 ≤ 0 := fun z => by
    have := le_i z
    omega
  have cg := wtJ_c (u := x48) (v := x13) (x := 0) (y := 0) rrn rrd rwk
  refine cm_X1_wetOf (sp_X1_wetOf (S := wJ S gg) sv lg.2.2.1 lg.2.2.2.1 lg.2.2.2.2 h) h (fun zz S1 hp h g => ?_)
  have h := h g
  obtain ⟨-, ff, hS, -, hf, -⟩ := hp
  subst hS
  have hf2 : ∀ k, k < 5 → ff b0 k = fxP A G s i k := fun k hk => by
    refine (hf k hk).trans ?_
    show wtJ (fI S a36) (fI S a47) (fI S a51) x48 x13 0 0 k = _
    rw [cg, wt_pt bn bd bw (by omega) (by omega) k hk, y13, y45, y48, y17, q24]
    rfl
  refine lp_X1_fitCode (S := S) (ff := ff) (P := fitP A G s i) (cd := fitC A i) ct e22 lg hs b4 hf2 ⟨fun z => z.2, fun z => ⟨sp, z⟩⟩ rfl ?_ h
  intro x2 x3 q2 q3
  rw [q2.trans (q29.symm.trans y29), q3.trans (q48.symm.trans y48), y17, y13]
  show nI 1000 * nI _ + nI 100 * nI _ + nI 10 * nI _ + nI _ = _
  rw [nJ_mul, nJ_mul, nJ_mul, nI_add, nI_add, nI_add]
  rfl
end C40c
end
section
/-! the class: what fits, fit and lies tell -/
section C41a
variable {P : Nat → Prop} {cd : Nat → Int32} {v v1 : Int32} {k N : Nat} {A : AS}
theorem nJ_ex (hk : k ≤ 900) (h : ¬ v1 < 0 ∧ v1 < nI k) : ∃ s, s < k ∧ v1 = nI s ∧ v1.toNatClampNeg = s := by
  have e0 : (0 : Int32).toInt = 0 := by decide
  have q1 := nlt_i h.1
  have q2 := lt_i h.2
  rw [nI_i (by omega)] at q2
  refine ⟨v1.toNatClampNeg, ix_lt hk h, nJ_of ?_ ?_, rfl⟩
  · have := ix_lt hk h
    omega
  · show v1.toInt = (v1.toInt.toNat : Int)
    omega
theorem cnt_ex (h : ¬ cntP P N = 0) : ∃ k, k < N ∧ P k ∧ cntP P k = 0 := by
  induction N with
  | zero => exact absurd rfl h
  | succ N ih =>
    by_cases z : cntP P N = 0
    · by_cases p : P N
      · exact ⟨N, by omega, p, z⟩
      · rw [cnt_n p] at h
        exact absurd z h
    · obtain ⟨k, a, b, d⟩ := ih z
      exact ⟨k, by omega, b, d⟩
theorem cnt_no (h : cntP P N = 0) : ∀ k, k < N → ¬ P k := fun k hk hp => by
  have := cnt_lt hp hk
  omega
theorem fnd_0 (hN : N < 100000) (hc : ∀ k, k < N → ¬ cd k = -1) : fndI P cd 0 N = -1 ↔ cntP P N = 0 := by
  refine ⟨fun h => Classical.byContradiction fun z => ?_, fun h => fnd_n (fun k hk hp => absurd hp (cnt_no h k hk))⟩
  obtain ⟨k, a, b, d⟩ := cnt_ex z
  rw [fnd_y hN a b (by rw [d]; rfl)] at h
  exact hc k a h
theorem fitC_m (ab : ABd A) {i : Nat} (hi : i < NL A) : ¬ fitC A i = -1 := by
  obtain ⟨f0, fT, fR2, fH, fV1, fV9⟩ := fx_in hi
  have b2 := ab.2.1
  have b4 := ab.2.2.2.1
  have m2 : fxT A i % 2 < 2 := Nat.mod_lt _ (by decide)
  exact nJ_m1 (by omega)
end C41a
section C41
variable {c m w r w1 w2 l b0 b1 : Nat} {A : AS} {G : GC} {S T : HS} {v1 v2 v3 v4 v5 v6 : Int32} {Q : Int32 → HS → Prop} {gg ff : Nat → Nat → Int64}
theorem sp_X8_hasSeen (hI : IV S) (ow : ob S w 8) (ab : ABd A) (hc : Cnt w A S) (h : P_X8_hasSeen w v1 Q S) : P_X8_hasSeen w v1 (fun x T => Q x T ∧ S = T ∧ ans (¬ v1 < 0 ∧ v1 < nI (aS A)) x) S := by
  delta P_X8_hasSeen P_X8_hasSeen_0
  refine ⟨fun c1 => ⟨h.1 c1, rfl, Or.inr ⟨fun z => z.1 c1, rfl⟩⟩, fun c1 => ?_⟩
  have h := h.2 c1
  obtain ⟨o, h⟩ := h
  refine ⟨o, fun x2 e2 => ?_⟩
  have h := h x2 e2
  have e2 := e2.trans hc.2.2.2.2.2
  refine ⟨fun c2 => ⟨h.1 c2, rfl, Or.inr ⟨fun z => ?_, rfl⟩⟩, fun c2 => ?_⟩
  · rw [e2] at c2
    exact absurd z.2 (Int32.not_lt.mpr c2)
  have h := h.2 c2
  obtain ⟨a4, e4, h⟩ := h
  refine ⟨a4, e4, ?_⟩
  obtain ⟨o4, h⟩ := h
  refine ⟨o4, ?_⟩
  rw [e2] at c2
  have c2 := Int32.not_le.mp c2
  obtain ⟨a5, e5, -, n5⟩ := hI.1 (8, 10, 13, 4) (by decide) w ow
  cases e5.symm.trans e4
  have n5 : hN S a4 = 4 := n5.resolve_left (by decide)
  refine ⟨fun c3 => ?_, fun c3 => ⟨h.2 c3, rfl, Or.inl ⟨⟨c1, c2⟩, rfl⟩⟩⟩
  rw [n5] at c3
  have q1 := le_i c3
  have q2 := lt_i c2
  have hb := ab.2.2.2.2.2
  rw [nI_i (by omega)] at q1 q2
  omega
theorem sp_X1_countFits {s : Nat} (hI : IV S) (J : CJ c r w1 w2 S) (hc : Cnt w1 A S) (ct : CtB w1 A G S S) (ab : ABd A) (gb : GBd A G) (ge : GBe A G) (lg : LG c l b0 b1 S) (hs : s < aS A) (h : P_X1_countFits l w1 (nI s) Q (wJ S gg)) : P_X1_countFits l w1 (nI s) (fun x T => Q x T ∧ (∃ g, T = wJ S g) ∧ x = nI (cntP (fitP A G s) (NL A))) (wJ S gg) := by
  have N6 := NL_le ab
  delta P_X1_countFits P_X1_countFits_0
  intro X hX
  refine h (fun a0 a1 a2 a3 a4 T => (a0 = l ∧ a1 = w1 ∧ a2 = nI s ∧ ∃ g i, T = wJ S g ∧ i ≤ NL A ∧ a4 = nI i ∧ a3 = nI (cntP (fitP A G s) i)) → X a0 a1 a2 a3 a4 T) ?_ ⟨rfl, rfl, rfl, gg, 0, rfl, Nat.zero_le _, rfl, rfl⟩
  rintro a0 a1 a2 a3 a4 T h ⟨rfl, rfl, rfl, g0, i, rfl, hi, rfl, h3⟩
  apply hX
  delta B_X1_countFits_5 at h ⊢
  refine cm_X1_legsOf (sp_X1_legsOf (S := wJ S g0) hc h) h (fun x3 S1 hp h g => ?_)
  have h := h g
  obtain ⟨-, hS, hx3⟩ := hp
  subst hS
  have n4 : (nI i).toInt = (i : Int) := nI_i (by omega)
  have n3 : x3.toInt = (NL A : Int) := by rw [hx3, nI_i (by omega)]
  refine ⟨fun cc => ?_, fun cc => ?_⟩
  · have := le_i cc
    exact ⟨h.1 cc, ⟨g0, rfl⟩, by rw [h3, show i = NL A by omega]⟩
  have h := h.2 cc
  have lt := nle_i cc
  obtain ⟨o1, h⟩ := h
  refine ⟨o1, ?_⟩
  have hi2 : i < NL A := by omega
  refine cm_X1_fitCode (sp_X1_fitCode hI J hc ct ab gb ge lg hs hi2 h) h (fun x7 S5 hp h g => ?_)
  have h := h g
  obtain ⟨-, ⟨g1, hS⟩, hx7⟩ := hp
  subst hS
  delta P_X1_countFits_29
  by_cases pf : fitP A G s i
  · rw [dc_y pf] at hx7
    refine ⟨fun cz => absurd (hx7.symm.trans cz) (fitC_m ab hi2), fun cz => ?_⟩
    have h := h.2 cz
    intro x9 q9
    have h := h x9 q9
    intro x1 q1
    exact h x1 q1 ⟨rfl, rfl, rfl, g1, i + 1, rfl, by omega, by rw [q1]; exact nI_add i 1, by rw [q9, h3, cnt_y pf]; exact nI_add _ 1⟩
  · rw [dc_n pf] at hx7
    refine ⟨fun cz => ?_, fun cz => absurd hx7 cz⟩
    have h := h.1 cz
    intro x1 q1
    exact h x1 q1 ⟨rfl, rfl, rfl, g1, i + 1, rfl, by omega, by rw [q1]; exact nI_add i 1, by rw [h3, cnt_n pf]⟩
theorem sp_X1_findFit {s : Nat} (hI : IV S) (J : CJ c r w1 w2 S) (hc : Cnt w1 A S) (ct : CtB w1 A G S S) (ab : ABd A) (gb : GBd A G) (ge : GBe A G) (lg : LG c l b0 b1 S) (hs : s < aS A) (hv : ¬ v3 < 0) (h : P_X1_findFit l w1 (nI s) v3 Q (wJ S gg)) : P_X1_findFit l w1 (nI s) v3 (fun x T => Q x T ∧ (∃ g, T = wJ S g) ∧ x = fndI (fitP A G s) (fitC A) v3 (NL A)) (wJ S gg) := by
  have N6 := NL_le ab
  have e0 : (0 : Int32).toInt = 0 := by decide
  have e1 : (-1 : Int32).toInt = -1 := by decide
  have hv0 := nlt_i hv
  have hv9 : v3.toInt < 2147483648 := v3.toInt_lt
  delta P_X1_findFit P_X1_findFit_0
  intro X hX
  refine h (fun a0 a1 a2 a4 a5 T => (a0 = l ∧ a1 = w1 ∧ a2 = nI s ∧ ∃ g i, T = wJ S g ∧ i ≤ NL A ∧ a5 = nI i ∧ a4.toInt = v3.toInt - (cntP (fitP A G s) i : Int) ∧ 0 ≤ a4.toInt ∧ ∀ k, k < i → fitP A G s k → ¬ nI (cntP (fitP A G s) k) = v3) → X a0 a1 a2 a4 a5 T) ?_ ⟨rfl, rfl, rfl, gg, 0, rfl, Nat.zero_le _, rfl, by show v3.toInt = v3.toInt - ((0 : Nat) : Int); omega, by omega, fun k hk => absurd hk (Nat.not_lt_zero k)⟩
  rintro a0 a1 a2 a4 a5 T h ⟨rfl, rfl, rfl, g0, i, rfl, hi, rfl, h4, h40, hno⟩
  apply hX
  delta B_X1_findFit_6 at h ⊢
  refine cm_X1_legsOf (sp_X1_legsOf (S := wJ S g0) hc h) h (fun x3 S1 hp h g => ?_)
  have h := h g
  obtain ⟨-, hS, hx3⟩ := hp
  subst hS
  have n4 : (nI i).toInt = (i : Int) := nI_i (by omega)
  have n3 : x3.toInt = (NL A : Int) := by rw [hx3, nI_i (by omega)]
  refine ⟨fun cc => ?_, fun cc => ?_⟩
  · have := le_i cc
    refine ⟨h.1 cc, ⟨g0, rfl⟩, ?_⟩
    rw [fnd_n (fun k hk => hno k (by omega))]
  have h := h.2 cc
  have lt := nle_i cc
  obtain ⟨o1, h⟩ := h
  refine ⟨o1, ?_⟩
  have hi2 : i < NL A := by omega
  refine cm_X1_fitCode (sp_X1_fitCode hI J hc ct ab gb ge lg hs hi2 h) h (fun x7 S5 hp h g => ?_)
  have h := h g
  obtain ⟨-, ⟨g1, hS⟩, hx7⟩ := hp
  subst hS
  have cl := cnt_le (P := fitP A G s) i
  have nc : (nI (cntP (fitP A G s) i)).toInt = (cntP (fitP A G s) i : Int) := nI_i (by omega)
  delta P_X1_findFit_39 P_X1_findFit_48
  by_cases pf : fitP A G s i
  · rw [dc_y pf] at hx7
    have m1 := fitC_m ab hi2
    refine ⟨fun cz => absurd (hx7.symm.trans cz) m1, fun cz => ?_⟩
    have h := h.2 cz
    refine ⟨fun c4 => ?_, fun c4 => ?_⟩
    · have h := h.1 c4
      have n0 : ¬ a4.toInt = 0 := fun z => c4 (Int32.toInt_inj.mp (z.trans e0.symm))
      refine ⟨fun cz2 => absurd cz2 cz, fun cz2 => ?_⟩
      have h := h.2 cz2
      intro x2 q2
      have h := h x2 q2
      intro x1 q1
      have n2 : x2.toInt = a4.toInt - 1 := by
        rw [q2, Int32.toInt_add, e1, Int.bmod_eq_of_le (by omega) (by omega)]
        omega
      refine h x1 q1 ⟨rfl, rfl, rfl, g1, i + 1, rfl, by omega, by rw [q1]; exact nI_add i 1, by rw [n2, cnt_y pf]; omega, by omega, fun k hk hp => ?_⟩
      by_cases z : k = i
      · rw [z]
        intro zz
        rw [zz] at nc
        omega
      · exact hno k (by omega) hp
    · have h := h.2 c4
      refine ⟨h, ⟨g1, rfl⟩, ?_⟩
      rw [c4, e0] at h4
      rw [hx7, fnd_y (by omega) hi2 pf (Int32.toInt_inj.mp (by omega))]
  · rw [dc_n pf] at hx7
    refine ⟨fun cz => ?_, fun cz => absurd hx7 cz⟩
    have h := h.1 cz
    refine ⟨fun cz2 => ?_, fun cz2 => absurd cz cz2⟩
    have h := h.1 cz2
    intro x1 q1
    refine h x1 q1 ⟨rfl, rfl, rfl, g1, i + 1, rfl, by omega, by rw [q1]; exact nI_add i 1, by rw [cnt_n pf]; exact h4, h40, fun k hk hp => ?_⟩
    by_cases z : k = i
    · exact absurd (z ▸ hp) pf
    · exact hno k (by omega) hp
theorem tl_X9_fits (hI : IV S) (J : CJ c r w1 w2 S) (hc : Cnt w1 A S) (ct : CtB w1 A G S S) (ab : ABd A) (gb : GBd A G) (ge : GBe A G) (lg : LG c l b0 b1 S) (h : P_X9_fits c v1 Q S) : P_X9_fits c v1 (fun x T => Q x T ∧ x = tellfits A G v1) S := by
  have ow1 := J.2.2.2.2.2.1
  unfold tellfits
  delta P_X9_fits P_X9_fits_0
  obtain ⟨o2, h⟩ := h
  refine ⟨o2, ?_⟩
  obtain ⟨a3, e3, h⟩ := h
  refine ⟨a3, e3, ?_⟩
  cases (J.1).symm.trans e3
  obtain ⟨o4, h⟩ := h
  refine ⟨o4, ?_⟩
  refine cm_X8_hasSeen (sp_X8_hasSeen hI ow1 ab hc h) h (fun x1 S2 hp h g b => ?_)
  have h := h g b
  obtain ⟨-, hS, hx1⟩ := hp
  subst hS
  refine Iff.mp and_comm ⟨fun cc => ?_, fun cc => ?_⟩
  · have h := h.2 cc
    refine cm_X9_refuse (sp_X9_refuse h) h (fun x U hp h g => ⟨h g, ?_⟩)
    rw [dc_n (an0 hx1 cc), hp.2.1]
  have h := h.1 cc
  have k1 := an1 hx1 cc
  rw [dc_y k1]
  obtain ⟨s, hs, rfl, hcl⟩ := nJ_ex (by have := ab.2.2.2.2.2; omega) k1
  rw [hcl]
  obtain ⟨a5, e5, h⟩ := h
  refine ⟨a5, e5, ?_⟩
  cases (lg.1).symm.trans e5
  obtain ⟨a6, e6, h⟩ := h
  refine ⟨a6, e6, ?_⟩
  cases (J.1).symm.trans e6
  obtain ⟨o7, h⟩ := h
  refine ⟨o7, ?_⟩
  refine cm_X1_countFits (sp_X1_countFits (gg := fJ S) hI J hc ct ab gb ge lg hs h) h (fun x2 S2 hp h g => ?_)
  have h := h g
  obtain ⟨-, -, hx2⟩ := hp
  refine cm_X9_grant (sp_X9_grant h) h (fun x U hp h g => ⟨h g, ?_⟩)
  rw [hp.2.1, hx2]
theorem tl_X9_fit (hI : IV S) (J : CJ c r w1 w2 S) (hc : Cnt w1 A S) (ct : CtB w1 A G S S) (ab : ABd A) (gb : GBd A G) (ge : GBe A G) (lg : LG c l b0 b1 S) (h : P_X9_fit c v1 v2 Q S) : P_X9_fit c v1 v2 (fun x T => Q x T ∧ x = tellfit A G v1 v2) S := by
  have ow1 := J.2.2.2.2.2.1
  have no : ¬ ((¬ v1 < 0 ∧ v1 < nI (aS A)) ∧ ¬ v2 < 0) → P_X9_fit_15 Q c S → P_X9_fit_15 (fun x T => Q x T ∧ x = tellfit A G v1 v2) c S := by
    intro hn h
    delta P_X9_fit_15
    obtain ⟨o2, h⟩ := h
    refine ⟨o2, ?_⟩
    refine cm_X9_refuse (sp_X9_refuse h) h (fun x U hp h g => ⟨h g, ?_⟩)
    unfold tellfit
    rw [dc_n hn, hp.2.1]
  delta P_X9_fit P_X9_fit_0
  obtain ⟨o2, h⟩ := h
  refine ⟨o2, ?_⟩
  obtain ⟨a3, e3, h⟩ := h
  refine ⟨a3, e3, ?_⟩
  cases (J.1).symm.trans e3
  obtain ⟨o4, h⟩ := h
  refine ⟨o4, ?_⟩
  refine cm_X8_hasSeen (sp_X8_hasSeen hI ow1 ab hc h) h (fun x1 S2 hp h g b => ?_)
  have h := h g b
  obtain ⟨-, hS, hx1⟩ := hp
  subst hS
  refine ⟨fun cc => no (fun z => an0 hx1 cc z.1) (h.1 cc), fun cc => ?_⟩
  have h := h.2 cc
  have k1 := an1 hx1 cc
  refine Iff.mp and_comm ⟨fun c2 => no (fun z => c2 (Int32.not_lt.mp z.2)) (h.2 c2), fun c2 => ?_⟩
  have h := h.1 c2
  have k2 : ¬ v2 < 0 := Int32.not_lt.mpr c2
  unfold tellfit
  rw [dc_y ⟨k1, k2⟩]
  obtain ⟨s, hs, rfl, hcl⟩ := nJ_ex (by have := ab.2.2.2.2.2; omega) k1
  rw [hcl]
  obtain ⟨a5, e5, h⟩ := h
  refine ⟨a5, e5, ?_⟩
  cases (lg.1).symm.trans e5
  obtain ⟨a6, e6, h⟩ := h
  refine ⟨a6, e6, ?_⟩
  cases (J.1).symm.trans e6
  obtain ⟨o7, h⟩ := h
  refine ⟨o7, ?_⟩
  refine cm_X1_findFit (sp_X1_findFit (gg := fJ S) hI J hc ct ab gb ge lg hs k2 h) h (fun x2 S2 hp h g => ?_)
  have h := h g
  obtain ⟨-, -, hx2⟩ := hp
  refine ⟨fun c3 => ?_, fun c3 => ?_⟩
  · have h := h.1 c3
    refine cm_X9_grant (sp_X9_grant h) h (fun x U hp h g => ⟨h g, ?_⟩)
    rw [hp.2.1, hx2]
  · have h := h.2 c3
    refine cm_X9_refuse (sp_X9_refuse h) h (fun x U hp h g => ⟨h g, ?_⟩)
    rw [hp.2.1, ← hx2, c3]
theorem tl_X9_lies (hI : IV S) (J : CJ c r w1 w2 S) (hc : Cnt w1 A S) (ct : CtB w1 A G S S) (ab : ABd A) (gb : GBd A G) (ge : GBe A G) (lg : LG c l b0 b1 S) (h : P_X9_lies c Q S) : P_X9_lies c (fun x T => Q x T ∧ x = telllies A G) S := by
  have ow1 := J.2.2.2.2.2.1
  have b4 := ab.2.2.2.2.2
  have N6 := NL_le ab
  unfold telllies
  delta P_X9_lies P_X9_lies_0
  obtain ⟨o2, h⟩ := h
  refine ⟨o2, ?_⟩
  obtain ⟨a3, e3, h⟩ := h
  refine ⟨a3, e3, ?_⟩
  cases (J.1).symm.trans e3
  obtain ⟨o4, h⟩ := h
  refine ⟨o4, ?_⟩
  refine cm_X8_isTold (sq_X8_isTold hc ab h) h (fun x1 S2 hp h g b => ?_)
  have h := h g b
  obtain ⟨-, hS, hx1⟩ := hp
  subst hS
  refine Iff.mp and_comm ⟨fun cc => ?_, fun cc => ?_⟩
  · have h := h.2 cc
    refine cm_X9_refuse (sp_X9_refuse h) h (fun x U hp h g => ⟨h g, ?_⟩)
    rw [dc_n (an0 hx1 cc), hp.2.1]
  have h := h.1 cc
  rw [dc_y (an1 hx1 cc)]
  intro X hX
  refine h (fun a0 a1 a2 T => (a0 = c ∧ ∃ g s, T = wJ S g ∧ s ≤ aS A ∧ a2 = nI s ∧ a1 = lieB A G s) → X a0 a1 a2 T) ?_ ⟨rfl, fJ S, 0, rfl, Nat.zero_le _, rfl, rfl⟩
  rintro a0 a1 a2 T h ⟨rfl, g0, s, rfl, hs, rfl, h1⟩
  apply hX
  obtain ⟨o5, h⟩ := h
  refine ⟨o5, ?_⟩
  obtain ⟨a6, e6, h⟩ := h
  refine ⟨a6, e6, ?_⟩
  cases (J.1).symm.trans e6
  obtain ⟨o7, h⟩ := h
  refine ⟨o7, ?_⟩
  intro x8 q8
  have h := h x8 q8
  replace q8 : x8 = nI (aS A) := q8.trans hc.2.2.2.2.2
  have n8 : x8.toInt = (aS A : Int) := by rw [q8, nI_i (by omega)]
  have ns : (nI s).toInt = (s : Int) := nI_i (by omega)
  refine ⟨fun cc => ?_, fun cc => ?_⟩
  · have h := h.1 cc
    have := le_i cc
    refine cm_X9_grant (sp_X9_grant h) h (fun x U hp h g => ⟨h g, ?_⟩)
    rw [hp.2.1, h1, show s = aS A by omega]
  have h := h.2 cc
  have lt := nle_i cc
  have hs2 : s < aS A := by omega
  obtain ⟨a9, e9, h⟩ := h
  refine ⟨a9, e9, ?_⟩
  cases (lg.1).symm.trans e9
  obtain ⟨a10, e10, h⟩ := h
  refine ⟨a10, e10, ?_⟩
  cases (J.1).symm.trans e10
  obtain ⟨o11, h⟩ := h
  refine ⟨o11, ?_⟩
  refine cm_X1_findFit (sp_X1_findFit (gg := g0) hI J hc ct ab gb ge lg hs2 (by decide) h) h (fun x2 S2 hp h g => ?_)
  have h := h g
  obtain ⟨-, ⟨g1, hS⟩, hx2⟩ := hp
  subst hS
  have f0 := fnd_0 (P := fitP A G s) (cd := fitC A) (N := NL A) (by omega) (fun k hk => fitC_m ab hk)
  rw [← hx2] at f0
  delta P_X9_lies_54
  refine ⟨fun c3 => ?_, fun c3 => ?_⟩
  · have h := h.1 c3
    intro x3 q3
    refine h x3 q3 ⟨rfl, g1, s + 1, rfl, by omega, by rw [q3]; exact nI_add s 1, ?_⟩
    show _ = dc _ _ _
    rw [dc_n (fun z => c3 (f0.mpr z)), h1]
  · have h := h.2 c3
    intro x4 q4
    have h := h x4 q4
    intro x3 q3
    refine h x3 q3 ⟨rfl, g1, s + 1, rfl, by omega, by rw [q3]; exact nI_add s 1, ?_⟩
    show _ = dc _ _ _
    rw [dc_y (f0.mp c3), q4, h1]
end C41
/-! the reference: what fits, fit and lies tell -/
/-- the end of fitOf -/
noncomputable def fitE (A : AS) (G : GC) (s : Nat) (v2 : Int32) : Int32 := dc (v2 < 0) (nI (cntP (fitP A G s) (NL A))) (fndI (fitP A G s) (fitC A) v2 (NL A))
section C42
variable {m rd : Nat} {A : AS} {G : GC} {S T : HS} {v1 v2 v3 v4 : Int32} {Q : Int32 → HS → Prop}
theorem sp_X11_isSeen (hm : (fR S m 3 = none ∧ A = A00) ∨ ∃ rd, WRm m rd A G S) (h : P_X11_isSeen m v1 Q S) : P_X11_isSeen m v1 (fun x T => Q x T ∧ S = T ∧ ans ((∃ rd, WRm m rd A G S) ∧ ¬ v1 < 0 ∧ v1 < nI (aS A)) x) S := by
  delta P_X11_isSeen P_X11_isSeen_0
  obtain ⟨o, h⟩ := h
  refine ⟨o, fun n => ⟨h.1 n, rfl, Or.inr ⟨fun z => ?_, rfl⟩⟩, fun a1 e1 => ?_⟩
  · obtain ⟨⟨rd, q⟩, -⟩ := z
    cases n.symm.trans q.1
  have h := h.2 a1 e1
  rcases hm with ⟨n, -⟩ | ⟨rd, hm⟩
  · cases n.symm.trans e1
  refine ⟨fun c1 => ⟨h.1 c1, rfl, Or.inr ⟨fun z => z.2.1 c1, rfl⟩⟩, fun c1 => ?_⟩
  have h := h.2 c1
  obtain ⟨a4, e4, h⟩ := h
  refine ⟨a4, e4, ?_⟩
  cases hm.1.symm.trans e4
  obtain ⟨o4, h⟩ := h
  refine ⟨o4, fun x5 e5 => ?_⟩
  have h := h x5 e5
  have e5 := e5.trans hm.2.2.1.2.2.2.2.2
  refine ⟨fun c2 => ⟨h.1 c2, rfl, Or.inr ⟨fun z => ?_, rfl⟩⟩, fun c2 => ⟨h.2 c2, rfl, Or.inl ⟨⟨⟨rd, hm⟩, c1, ?_⟩, rfl⟩⟩⟩
  · rw [e5] at c2
    exact absurd z.2.2 (Int32.not_lt.mpr c2)
  · rw [e5] at c2
    exact Int32.not_le.mp c2
theorem ix_u {ro y hh vv : Nat} (hr : ro < aR A) (hy : y < 2) (hh1 : hh < aHs A) (v9 : vv ≤ 9) (v1 : 1 ≤ vv) : ixL A ro y hh + (vv - 1) < NL A := by
  have a : (ro * 2 + y + 1) * aHs A ≤ aR A * 2 * aHs A := Nat.mul_le_mul_right _ (by omega)
  rw [Nat.succ_mul] at a
  unfold ixL NL
  omega
set_option maxHeartbeats 4000000 in
theorem sp_X11_fitOf {s : Nat} (he : ∀ i, 7 ≤ i → i ≤ 27 → ∃ b, fR S rd i = some b) (hr : WRm m rd A G S) (ab : ABd A) (gb : GBd A G) (ge : GBe A G) (hs : s < aS A) (h : P_X11_fitOf m (nI s) v2 Q S) : P_X11_fitOf m (nI s) v2 (fun x T => Q x T ∧ S = T ∧ x = fitE A G s v2) S := by
  have N6 := NL_le ab
  have b4 := ab.2.2.2.2.2
  have bW := ab.2.2.2.2.1
  have bR := ab.2.2.2.1
  have bH := ab.2.1
  have e0 : (0 : Int32).toInt = 0 := by decide
  have z2 : (2 : Int32).toInt = 2 := by decide
  have z5 : (5 : Int32).toInt = 5 := by decide
  have hc := hr.2.2.1
  have gs := ge.2.2 s hs
  have g1 := gs.1
  have g2 := gs.2
  delta P_X11_fitOf P_X11_fitOf_0
  obtain ⟨om, h⟩ := h
  refine ⟨om, ?_⟩
  obtain ⟨a1, e1, h⟩ := h
  refine ⟨a1, e1, ?_⟩
  cases (hr.1).symm.trans e1
  obtain ⟨o10, h⟩ := h
  refine ⟨o10, ?_⟩
  obtain ⟨a3, e3, h⟩ := h
  refine ⟨a3, e3, ?_⟩
  obtain ⟨o3, h⟩ := h
  refine ⟨o3, ?_⟩
  obtain ⟨i3, h⟩ := h
  refine ⟨i3, ?_⟩
  intro x4 q4
  have h := h x4 q4
  rw [nI_cl (by omega)] at q4
  replace q4 : x4 = gSn G s 0 := q4.trans ((hr.2.2.2.1 26 a3 (by decide) (by decide) e3 s (by show s < aS A; exact hs)).trans rfl)
  have k4 : x4.toNatClampNeg < aW A := by
    show x4.toInt.toNat < _
    rw [q4]
    omega
  have bw := gb.2.2.2 _ k4
  obtain ⟨sl, fa, hsl, hfa, w1, w2, w3⟩ : ∃ sl fa : Nat, gWk G x4.toNatClampNeg 5 = nI sl ∧ gWk G x4.toNatClampNeg 6 = nI fa ∧ 1 ≤ sl ∧ sl ≤ fa ∧ fa ≤ 9 := by
    have u1 := bw.2.2.2.2.2.1.1
    have u2 := bw.2.2.2.2.2.2.1
    have u3 := bw.2.2.2.2.2.2.2
    exact ⟨(gWk G x4.toNatClampNeg 5).toInt.toNat, (gWk G x4.toNatClampNeg 6).toInt.toNat, nJ_of (by omega) (by omega), nJ_of (by omega) (by omega), by omega, by omega, by omega⟩
  have sp : ∀ vv : Nat, vv < 100 → (spOK G (gSn G s 0) (nI vv) ↔ sl ≤ vv ∧ vv ≤ fa) := fun vv hvv => by
    unfold spOK
    rw [← q4, hsl, hfa]
    refine ⟨fun z => ?_, fun z q => ?_⟩
    · have z1 := nlt_i (fun q => z (Or.inl q))
      have z2 := nlt_i (fun q => z (Or.inr q))
      rw [nI_i (by omega), nI_i (by omega)] at z1 z2
      omega
    · rcases q with q | q
      · have := lt_i q
        rw [nI_i (by omega), nI_i (by omega)] at this
        omega
      · have := lt_i q
        rw [nI_i (by omega), nI_i (by omega)] at this
        omega
  have noP : ∀ ro y hh, hh < aHs A → y < 2 → ∀ k, ixL A ro y hh ≤ k → k < ixL A ro y hh + 9 → (k < ixL A ro y hh + (sl - 1) ∨ ixL A ro y hh + fa ≤ k) → ¬ fitP A G s k := fun ro y hh h0 hy k k1 k2 k3 hp => by
    have u4 := (ix_d (ro := ro) (vv := k - ixL A ro y hh + 1) h0 hy (by omega) (by omega)).1
    rw [show ixL A ro y hh + (k - ixL A ro y hh + 1 - 1) = k by omega] at u4
    have q := hp.1
    rw [u4, sp _ (by omega)] at q
    omega
  intro X16 hX16
  refine h (fun a0 a1 a2 a3 a4 a5 T => (m = a0 ∧ nI s = a1 ∧ v2 = a2 ∧ x4 = a3 ∧ S = T ∧ ∃ ro, ro ≤ aR A ∧ nI ro = a5 ∧ SoF (fitP A G s) v2 (ixL A ro 0 0) a4) → X16 a0 a1 a2 a3 a4 a5 T) ?_ ⟨rfl, rfl, rfl, rfl, rfl, 0, Nat.zero_le _, rfl, by rw [ix_0]; exact sof_0⟩
  rintro a0 a1 a2 a3 v4 a5 T h ⟨rfl, rfl, rfl, rfl, rfl, ro, hro, rfl, so⟩
  apply hX16
  obtain ⟨o5, h⟩ := h
  refine ⟨o5, ?_⟩
  obtain ⟨a6, e6, h⟩ := h
  refine ⟨a6, e6, ?_⟩
  cases (hr.1).symm.trans e6
  obtain ⟨o7, h⟩ := h
  refine ⟨o7, ?_⟩
  intro x8 q8
  have h := h x8 q8
  replace q8 : x8 = nI (aR A) := q8.trans hc.2.2.2.1
  have n8 : x8.toInt = (aR A : Int) := by rw [q8, nI_i (by omega)]
  have nro : (nI ro).toInt = (ro : Int) := nI_i (by omega)
  refine ⟨fun cc => ?_, fun cc => ?_⟩
  · have h := h.1 cc
    have := le_i cc
    have er : ro = aR A := by omega
    rw [er, ix_N] at so
    refine ⟨fun c2 => ⟨h.1 c2, rfl, ?_⟩, fun c2 => ⟨h.2 c2, rfl, ?_⟩⟩
    · unfold fitE
      rw [dc_n (Int32.not_lt.mpr c2), fnd_n so.2]
    · unfold fitE
      rw [dc_y (Int32.not_le.mp c2), so.1]
  have h := h.2 cc
  have ltr := nle_i cc
  have hr2 : ro < aR A := by omega
  intro X31 hX31
  refine h (fun a0 a1 a2 a3 a4 a5 a6 T => (m = a0 ∧ nI s = a1 ∧ v2 = a2 ∧ x4 = a3 ∧ nI ro = a5 ∧ S = T ∧ ∃ y, y ≤ 2 ∧ nI y = a6 ∧ SoF (fitP A G s) v2 (ixL A ro y 0) a4) → X31 a0 a1 a2 a3 a4 a5 a6 T) ?_ ⟨rfl, rfl, rfl, rfl, rfl, rfl, 0, by decide, rfl, so⟩
  clear so
  rintro a0 a1 a2 a3 v4 a5 a6 T h ⟨rfl, rfl, rfl, rfl, rfl, rfl, y, hy, rfl, so⟩
  apply hX31
  have ny : (nI y).toInt = (y : Int) := nI_i (by omega)
  refine ⟨fun cc => ?_, fun cc => ?_⟩
  · have h := h.1 cc
    have := le_i cc
    intro x9 q9
    refine h x9 q9 ⟨rfl, rfl, rfl, rfl, rfl, ro + 1, by omega, by rw [q9]; exact (nI_add ro 1).symm, ?_⟩
    rw [← ix_r, show (2 : Nat) = y by omega]
    exact so
  have h := h.2 cc
  have lty := nle_i cc
  have hy2 : y < 2 := by omega
  intro X40 hX40
  refine h (fun a0 a1 a2 a3 a4 a5 a6 a7 T => (m = a0 ∧ nI s = a1 ∧ v2 = a2 ∧ x4 = a3 ∧ nI ro = a5 ∧ nI y = a6 ∧ S = T ∧ ∃ hh, hh ≤ aHs A ∧ nI hh = a7 ∧ SoF (fitP A G s) v2 (ixL A ro y hh) a4) → X40 a0 a1 a2 a3 a4 a5 a6 a7 T) ?_ ⟨rfl, rfl, rfl, rfl, rfl, rfl, rfl, 0, Nat.zero_le _, rfl, so⟩
  clear so
  rintro a0 a1 a2 a3 v4 a5 a6 a7 T h ⟨rfl, rfl, rfl, rfl, rfl, rfl, rfl, hh, hhH, rfl, so⟩
  apply hX40
  have nh : (nI hh).toInt = (hh : Int) := nI_i (by omega)
  obtain ⟨o11, h⟩ := h
  refine ⟨o11, ?_⟩
  obtain ⟨a12, e12, h⟩ := h
  refine ⟨a12, e12, ?_⟩
  cases (hr.1).symm.trans e12
  obtain ⟨o13, h⟩ := h
  refine ⟨o13, ?_⟩
  intro x14 q14
  have h := h x14 q14
  replace q14 : x14 = nI (aHs A) := q14.trans hc.2.1
  have n14 : x14.toInt = (aHs A : Int) := by rw [q14, nI_i (by omega)]
  refine ⟨fun cc => ?_, fun cc => ?_⟩
  · have h := h.1 cc
    have := le_i cc
    intro x9 q9
    refine h x9 q9 ⟨rfl, rfl, rfl, rfl, rfl, rfl, y + 1, by omega, by rw [q9]; exact (nI_add y 1).symm, ?_⟩
    rw [← ix_y, show aHs A = hh by omega]
    exact so
  have h := h.2 cc
  have lth := nle_i cc
  have hh2 : hh < aHs A := by omega
  obtain ⟨a15, e15, h⟩ := h
  refine ⟨a15, e15, ?_⟩
  cases (hr.1).symm.trans e15
  obtain ⟨o16, h⟩ := h
  refine ⟨o16, ?_⟩
  obtain ⟨a17, e17, h⟩ := h
  refine ⟨a17, e17, ?_⟩
  obtain ⟨o18, h⟩ := h
  refine ⟨o18, ?_⟩
  obtain ⟨i18, h⟩ := h
  refine ⟨i18, ?_⟩
  intro x19 q19
  have h := h x19 q19
  obtain ⟨mn, md, mw⟩ := m_rows (v1 := x4) (v2 := nI ro) (v4 := nI hh) he hr k4 (by rw [nI_cl (by omega)]; exact hr2) (by rw [nI_cl (by omega)]; exact hh2)
  replace q19 : x19 = nI sl := (q19.trans (mwk (j := 5) e17)).trans ((mw 5 (by decide)).trans hsl)
  have s0 : SoF (fitP A G s) v2 (ixL A ro y hh + (sl - 1)) v4 := sof_to so (by omega) (fun k k1 k2 => noP ro y hh hh2 hy2 k k1 (by omega) (Or.inl k2))
  clear so
  intro X63 hX63
  refine h (fun a0 a1 a2 a3 a4 a5 a6 a7 a8 T => (m = a0 ∧ nI s = a1 ∧ v2 = a2 ∧ x4 = a3 ∧ nI ro = a5 ∧ nI y = a6 ∧ nI hh = a7 ∧ S = T ∧ ∃ vv, sl ≤ vv ∧ vv ≤ fa + 1 ∧ nI vv = a8 ∧ SoF (fitP A G s) v2 (ixL A ro y hh + (vv - 1)) a4) → X63 a0 a1 a2 a3 a4 a5 a6 a7 a8 T) ?_ ⟨rfl, rfl, rfl, rfl, rfl, rfl, rfl, rfl, sl, Nat.le_refl _, by omega, q19.symm, s0⟩
  clear s0
  rintro a0 a1 a2 a3 v4 a5 a6 a7 a8 T h ⟨rfl, rfl, rfl, rfl, rfl, rfl, rfl, rfl, vv, hv1, hv2, rfl, so⟩
  apply hX63
  have nv : (nI vv).toInt = (vv : Int) := nI_i (by omega)
  obtain ⟨o20, h⟩ := h
  refine ⟨o20, ?_⟩
  obtain ⟨a21, e21, h⟩ := h
  refine ⟨a21, e21, ?_⟩
  cases (hr.1).symm.trans e21
  obtain ⟨o22, h⟩ := h
  refine ⟨o22, ?_⟩
  obtain ⟨a23, e23, h⟩ := h
  refine ⟨a23, e23, ?_⟩
  obtain ⟨o24, h⟩ := h
  refine ⟨o24, ?_⟩
  obtain ⟨i24, h⟩ := h
  refine ⟨i24, ?_⟩
  intro x25 q25
  have h := h x25 q25
  replace q25 : x25 = nI fa := (q25.trans (mwk (j := 6) e23)).trans ((mw 6 (by decide)).trans hfa)
  have n25 : x25.toInt = (fa : Int) := by rw [q25, nI_i (by omega)]
  refine ⟨fun cc => ?_, fun cc => ?_⟩
  · have h := h.1 cc
    have := lt_i cc
    intro x9 q9
    refine h x9 q9 ⟨rfl, rfl, rfl, rfl, rfl, rfl, rfl, hh + 1, by omega, by rw [q9]; exact (nI_add hh 1).symm, ?_⟩
    rw [ix_h]
    exact sof_to so (by omega) (fun k k1 k2 => noP ro y hh hh2 hy2 k (by omega) k2 (Or.inr (by omega)))
  have h := h.2 cc
  have ltv := nlt_i cc
  obtain ⟨d1, d2, d3, d4⟩ := ix_d (A := A) (ro := ro) (vv := vv) hh2 hy2 (by omega) (by omega)
  have hpt : fxP A G s (ixL A ro y hh + (vv - 1)) = gPt G x4 (nI ro) (nI y) (nI hh) (nI vv) := by
    unfold fxP
    rw [d1, d2, d3, d4, ← q4]
  have hiff : fitP A G s (ixL A ro y hh + (vv - 1)) ↔ ∀ k, k < 5 → fmP G s (gPt G x4 (nI ro) (nI y) (nI hh) (nI vv)) k := by
    unfold fitP
    rw [hpt, d1, sp vv (by omega)]
    exact ⟨fun z => z.2, fun z => ⟨by omega, z⟩⟩
  have hC : fitC A (ixL A ro y hh + (vv - 1)) = nI (1000 * ro + 100 * y + 10 * hh + vv) := by
    unfold fitC
    rw [d1, d2, d3, d4]
  have hu := ix_u (A := A) (ro := ro) (y := y) (hh := hh) (vv := vv) hr2 hy2 hh2 (by omega) (by omega)
  intro X83 hX83
  refine h (fun a0 a1 a2 a3 a4 a5 a6 a7 a8 a9 a10 T => (m = a0 ∧ nI s = a1 ∧ v2 = a2 ∧ x4 = a3 ∧ v4 = a4 ∧ nI ro = a5 ∧ nI y = a6 ∧ nI hh = a7 ∧ nI vv = a8 ∧ S = T ∧ ∃ k, k ≤ 5 ∧ nI k = a10 ∧ ((a9 = 1 ∧ ∀ j, j < k → fmP G s (gPt G x4 (nI ro) (nI y) (nI hh) (nI vv)) j) ∨ (a9 = 0 ∧ ∃ j, j < 5 ∧ ¬ fmP G s (gPt G x4 (nI ro) (nI y) (nI hh) (nI vv)) j))) → X83 a0 a1 a2 a3 a4 a5 a6 a7 a8 a9 a10 T) ?_ ⟨rfl, rfl, rfl, rfl, rfl, rfl, rfl, rfl, rfl, rfl, 0, by decide, rfl, Or.inl ⟨rfl, fun j hj => absurd hj (Nat.not_lt_zero j)⟩⟩
  rintro a0 a1 a2 a3 a4 a5 a6 a7 a8 v9 a10 T h ⟨rfl, rfl, rfl, rfl, rfl, rfl, rfl, rfl, rfl, rfl, k, hk, rfl, hcs⟩
  apply hX83
  have nk : (nI k).toInt = (k : Int) := nI_i (by omega)
  refine ⟨fun cc => ?_, fun cc => ?_⟩
  · have h := h.1 cc
    have := le_i cc
    refine ⟨fun c9 => ?_, fun c9 => ?_⟩
    · have h := h.1 c9
      have pf : fitP A G s (ixL A ro y hh + (vv - 1)) := by
        rcases hcs with ⟨-, q⟩ | ⟨z, -⟩
        · exact hiff.mpr (fun j hj => q j (by omega))
        · exact absurd z c9
      refine ⟨fun c4 => ?_, fun c4 => ?_⟩
      · have h := h.1 c4
        intro x26 q26
        have h := h x26 q26
        intro x27 q27
        refine h x27 q27 ⟨rfl, rfl, rfl, rfl, rfl, rfl, rfl, rfl, vv + 1, by omega, by omega, by rw [q27]; exact (nI_add vv 1).symm, ?_⟩
        rw [q26, show ixL A ro y hh + (vv + 1 - 1) = ixL A ro y hh + (vv - 1) + 1 by omega]
        exact sof_y so pf c4
      · have h := h.2 c4
        refine ⟨h, rfl, ?_⟩
        unfold fitE
        have ec : v2 = nI (cntP (fitP A G s) (ixL A ro y hh + (vv - 1))) := c4.symm.trans so.1
        have cl := cnt_le (P := fitP A G s) (ixL A ro y hh + (vv - 1))
        rw [dc_n (by rw [ec]; exact nJ_neg (by omega)), fnd_y (by omega) hu pf ec.symm, hC]
        show nI 1000 * nI _ + nI 100 * nI _ + nI 10 * nI _ + nI _ = _
        rw [nJ_mul, nJ_mul, nJ_mul, nI_add, nI_add, nI_add]
    · have h := h.2 c9
      have pf : ¬ fitP A G s (ixL A ro y hh + (vv - 1)) := by
        rcases hcs with ⟨z, -⟩ | ⟨-, j, j5, q⟩
        · rw [z] at c9
          exact absurd c9 (by decide)
        · exact fun z => q (hiff.mp z j j5)
      intro x27 q27
      refine h x27 q27 ⟨rfl, rfl, rfl, rfl, rfl, rfl, rfl, rfl, vv + 1, by omega, by omega, by rw [q27]; exact (nI_add vv 1).symm, ?_⟩
      rw [show ixL A ro y hh + (vv + 1 - 1) = ixL A ro y hh + (vv - 1) + 1 by omega]
      exact sof_n so pf
  have h := h.2 cc
  have ltk := nle_i cc
  refine ⟨fun c9 => ?_, fun c9 => ?_⟩
  · have h := h.1 c9
    intro x27 q27
    refine h x27 q27 ⟨rfl, rfl, rfl, rfl, rfl, rfl, rfl, rfl, rfl, rfl, k + 1, by omega, by rw [q27]; exact (nI_add k 1).symm, Or.inr ⟨rfl, ?_⟩⟩
    rcases hcs with ⟨z, -⟩ | ⟨-, q⟩
    · rw [z] at c9
      exact absurd c9 (by decide)
    · exact q
  have h := h.2 c9
  have ha : ∀ j, j < k → fmP G s (gPt G x4 (nI ro) (nI y) (nI hh) (nI vv)) j := by
    rcases hcs with ⟨-, q⟩ | ⟨z, -⟩
    · exact q
    · exact absurd z c9
  obtain ⟨o28, h⟩ := h
  refine ⟨o28, ?_⟩
  refine cm_X11_partsOf (sp_X11_partsOf he hr.1 (by rw [nk]; omega) h) h (fun x29 S2 hp h g => ?_)
  have h := h g
  obtain ⟨-, hS, hx⟩ := hp
  subst hS
  rw [ptM_c mn md mw, nI_cl (show k < 100000 by omega)] at hx
  replace hx : x29 = gPt G x4 (nI ro) (nI y) (nI hh) (nI vv) k := hx
  obtain ⟨a30, e30, h⟩ := h
  refine ⟨a30, e30, ?_⟩
  cases (hr.1).symm.trans e30
  obtain ⟨o31, h⟩ := h
  refine ⟨o31, ?_⟩
  obtain ⟨a32, e32, h⟩ := h
  refine ⟨a32, e32, ?_⟩
  obtain ⟨o33, h⟩ := h
  refine ⟨o33, ?_⟩
  intro x34 q34
  have h := h x34 q34
  obtain ⟨i34, h⟩ := h
  refine ⟨i34, ?_⟩
  intro x35 q35
  have h := h x35 q35
  have y34 : x34 = nI (5 * s + k) := by
    rw [q34]
    show nI 5 * nI s + nI k = _
    rw [nJ_mul, nI_add]
  rw [y34, nI_cl (by omega)] at q35
  have y35 : x35 = gSn G s (k + 1) := by
    refine q35.trans ((hr.2.2.2.1 27 a32 (by decide) (by decide) e32 (5 * s + k) (by show 5 * s + k < 5 * aS A; omega)).trans ?_)
    show gSn G ((5 * s + k) / 5) ((5 * s + k) % 5 + 1) = _
    rw [show (5 * s + k) / 5 = s by omega, show (5 * s + k) % 5 = k by omega]
  refine ⟨fun c1 => ?_, fun c1 => ?_⟩
  · have h := h.1 c1
    intro x27 q27
    refine h x27 q27 ⟨rfl, rfl, rfl, rfl, rfl, rfl, rfl, rfl, rfl, rfl, k + 1, by omega, by rw [q27]; exact (nI_add k 1).symm, Or.inr ⟨rfl, k, by omega, fun z => c1 (lgc_eq.mpr ?_)⟩⟩
    unfold fmP at z
    rw [hx, y35, z, Int64.mul_comm]
  · have h := h.2 c1
    have eq := lgc_eq.mp c1
    intro x27 q27
    refine h x27 q27 ⟨rfl, rfl, rfl, rfl, rfl, rfl, rfl, rfl, rfl, rfl, k + 1, by omega, by rw [q27]; exact (nI_add k 1).symm, Or.inl ⟨rfl, fun j hj => ?_⟩⟩
    by_cases z : j = k
    · rw [z]
      unfold fmP
      rw [← hx, eq, y35, Int64.mul_comm]
    · exact ha j (by omega)
theorem fitE_n {s : Nat} : fitE A G s (-1) = nI (cntP (fitP A G s) (NL A)) := dc_y (by decide)
theorem tl_X11_fits (hI : IV S) (hm : (fR S m 3 = none ∧ A = A00) ∨ ∃ rd, WRm m rd A G S) (ab : ABd A) (gb : GBd A G) (ge : GBe A G) (td : Tld m A S) (h : P_X11_fits m v1 Q S) : P_X11_fits m v1 (fun x T => Q x T ∧ x = tellfits A G v1) S := by
  unfold tellfits
  delta P_X11_fits P_X11_fits_0
  obtain ⟨om, h⟩ := h
  refine ⟨om, ?_⟩
  intro S1 eS1
  have h := h S1 eS1
  have hm1 := hm_0 hm om eS1
  have hE := m_start hI eS1
  refine cm_X11_isSeen (sp_X11_isSeen hm1 h) h (fun x1 S2 hp h g b => ?_)
  have h := h g b
  obtain ⟨-, hS, hx1⟩ := hp
  subst hS
  refine ⟨fun cc => ?_, fun cc => ?_⟩
  · have h := h.1 cc
    refine cm_X11_refused (sp_X11_refused h) h (fun x U hp h g => ⟨h g, ?_⟩)
    rw [dc_n (fun z => (hm1.elim (fun q => zero_n (by rw [q.2]; rfl) z) (fun q => an0 hx1 cc ⟨q, z⟩))), hp.2.1]
  have h := h.2 cc
  obtain ⟨⟨rd, hr⟩, k1⟩ := an1 hx1 cc
  rw [dc_y k1]
  obtain ⟨s, hs, rfl, hcl⟩ := nJ_ex (by have := ab.2.2.2.2.2; omega) k1
  rw [hcl]
  refine cm_X11_fitOf (sp_X11_fitOf (fun i => hE rd i hr.2.1) hr ab gb ge hs h) h (fun x2 S2 hp h g => ?_)
  have h := h g
  obtain ⟨-, hS, hx2⟩ := hp
  subst hS
  refine cm_X11_good (sp_X11_good h) h (fun x U hp h g => ⟨h g, ?_⟩)
  rw [hp.2.1, hx2, fitE_n]
theorem tl_X11_fit (hI : IV S) (hm : (fR S m 3 = none ∧ A = A00) ∨ ∃ rd, WRm m rd A G S) (ab : ABd A) (gb : GBd A G) (ge : GBe A G) (td : Tld m A S) (h : P_X11_fit m v1 v2 Q S) : P_X11_fit m v1 v2 (fun x T => Q x T ∧ x = tellfit A G v1 v2) S := by
  have no : ∀ T, ¬ ((¬ v1 < 0 ∧ v1 < nI (aS A)) ∧ ¬ v2 < 0) → P_X11_fit_26 Q m T → P_X11_fit_26 (fun x T => Q x T ∧ x = tellfit A G v1 v2) m T := by
    intro T hn h
    delta P_X11_fit_26 P_X11_fit_27
    refine ⟨fun z => absurd rfl z, fun z => ?_⟩
    obtain ⟨o2, h⟩ := h.2 z
    refine ⟨o2, ?_⟩
    refine cm_X11_refused (sp_X11_refused h) h (fun x U hp h g => ⟨h g, ?_⟩)
    unfold tellfit
    rw [dc_n hn, hp.2.1]
  delta P_X11_fit P_X11_fit_0
  obtain ⟨om, h⟩ := h
  refine ⟨om, ?_⟩
  intro S1 eS1
  have h := h S1 eS1
  have hm1 := hm_0 hm om eS1
  have hE := m_start hI eS1
  refine cm_X11_isSeen (sp_X11_isSeen hm1 h) h (fun x1 S2 hp h g b => ?_)
  have h := h g b
  obtain ⟨-, hS, hx1⟩ := hp
  subst hS
  refine ⟨fun cc => no _ (fun z => (hm1.elim (fun q => zero_n (by rw [q.2]; rfl) z.1) (fun q => an0 hx1 cc ⟨q, z.1⟩))) (h.1 cc), fun cc => ?_⟩
  have h := h.2 cc
  obtain ⟨⟨rd, hr⟩, k1⟩ := an1 hx1 cc
  refine ⟨fun c2 => no _ (fun z => z.2 c2) (h.1 c2), fun c2 => ?_⟩
  have h := h.2 c2
  unfold tellfit
  rw [dc_y ⟨k1, c2⟩]
  obtain ⟨s, hs, rfl, hcl⟩ := nJ_ex (by have := ab.2.2.2.2.2; omega) k1
  rw [hcl]
  refine cm_X11_fitOf (sp_X11_fitOf (fun i => hE rd i hr.2.1) hr ab gb ge hs h) h (fun x2 S2 hp h g => ?_)
  have h := h g
  obtain ⟨-, hS, hx2⟩ := hp
  subst hS
  unfold fitE at hx2
  rw [dc_n c2] at hx2
  delta P_X11_fit_27
  refine ⟨fun c3 => ?_, fun c3 => ?_⟩
  · obtain ⟨o2, h⟩ := h.1 c3
    refine ⟨o2, ?_⟩
    refine cm_X11_good (sp_X11_good h) h (fun x U hp h g => ⟨h g, ?_⟩)
    rw [hp.2.1, hx2]
  · obtain ⟨o2, h⟩ := h.2 c3
    refine ⟨o2, ?_⟩
    refine cm_X11_refused (sp_X11_refused h) h (fun x U hp h g => ⟨h g, ?_⟩)
    rw [hp.2.1, ← hx2, c3]
theorem tl_X11_lies (hI : IV S) (hm : (fR S m 3 = none ∧ A = A00) ∨ ∃ rd, WRm m rd A G S) (ab : ABd A) (gb : GBd A G) (ge : GBe A G) (td : Tld m A S) (h : P_X11_lies m Q S) : P_X11_lies m (fun x T => Q x T ∧ x = telllies A G) S := by
  have b4 := ab.2.2.2.2.2
  have N6 := NL_le ab
  unfold telllies
  delta P_X11_lies P_X11_lies_0
  obtain ⟨om, h⟩ := h
  refine ⟨om, ?_⟩
  intro S1 eS1
  have h := h S1 eS1
  have hm1 := hm_0 hm om eS1
  have hE := m_start hI eS1
  refine ⟨fun n => ?_, fun a2 e2 => ?_⟩
  · have h := h.1 n
    refine cm_X11_refused (sp_X11_refused h) h (fun x U hp h g => ⟨h g, ?_⟩)
    rcases hm1 with ⟨-, z⟩ | ⟨rd, hr⟩
    · rw [dc_n (by rw [z]; decide), hp.2.1]
    · cases n.symm.trans hr.1
  have h := h.2 a2 e2
  rcases hm1 with ⟨n, -⟩ | ⟨rd, hr⟩
  · cases n.symm.trans e2
  have hh : 0 < aH A := by
    rcases td with z | z
    · rw [eS1] at e2
      cases z.symm.trans e2
    · exact z
  rw [dc_y hh]
  have hc := hr.2.2.1
  intro X hX
  refine h (fun a0 a1 a2 T => (m = a0 ∧ S1 = T ∧ ∃ s, s ≤ aS A ∧ nI s = a2 ∧ a1 = lieB A G s) → X a0 a1 a2 T) ?_ ⟨rfl, rfl, 0, Nat.zero_le _, rfl, rfl⟩
  rintro a0 a1 a3 T h ⟨rfl, rfl, s, hs, rfl, h1⟩
  apply hX
  obtain ⟨o5, h⟩ := h
  refine ⟨o5, ?_⟩
  obtain ⟨a6, e6, h⟩ := h
  refine ⟨a6, e6, ?_⟩
  cases (hr.1).symm.trans e6
  obtain ⟨o7, h⟩ := h
  refine ⟨o7, ?_⟩
  intro x8 q8
  have h := h x8 q8
  replace q8 : x8 = nI (aS A) := q8.trans hc.2.2.2.2.2
  have n8 : x8.toInt = (aS A : Int) := by rw [q8, nI_i (by omega)]
  have ns : (nI s).toInt = (s : Int) := nI_i (by omega)
  refine ⟨fun cc => ?_, fun cc => ?_⟩
  · have h := h.1 cc
    have := le_i cc
    refine cm_X11_good (sp_X11_good h) h (fun x U hp h g => ⟨h g, ?_⟩)
    rw [hp.2.1, h1, show s = aS A by omega]
  have h := h.2 cc
  have lt := nle_i cc
  have hs2 : s < aS A := by omega
  refine cm_X11_fitOf (sp_X11_fitOf (fun i => hE rd i hr.2.1) hr ab gb ge hs2 h) h (fun x2 S2 hp h g => ?_)
  have h := h g
  obtain ⟨-, hS, hx2⟩ := hp
  subst hS
  rw [fitE_n] at hx2
  have cl := cnt_le (P := fitP A G s) (NL A)
  delta P_X11_lies_50
  refine ⟨fun c3 => ?_, fun c3 => ?_⟩
  · have h := h.1 c3
    intro x3 q3
    have h := h x3 q3
    intro x4 q4
    refine h x4 q4 ⟨rfl, rfl, s + 1, by omega, by rw [q4]; exact (nI_add s 1).symm, ?_⟩
    show _ = dc _ _ _
    rw [dc_n (fun z => c3 (by rw [hx2, z]; rfl)), q3, h1]
    exact Int32.or_zero
  · have h := h.2 c3
    intro x3 q3
    have h := h x3 q3
    intro x4 q4
    refine h x4 q4 ⟨rfl, rfl, s + 1, by omega, by rw [q4]; exact (nI_add s 1).symm, ?_⟩
    show _ = dc _ _ _
    rw [dc_y (nI_inj (by omega) (by decide) (hx2.symm.trans c3)), q3, h1]
end C42
end
