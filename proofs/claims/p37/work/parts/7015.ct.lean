/-! what walker and road tell -/
noncomputable def tellwalker (A : AS) (G : GC) (v1 v2 : Int32) : Int32 := dc (¬ v1 < 0 ∧ v1 < nI (aW A) ∧ ¬ v2 < 0 ∧ v2 ≤ 6) (gWk G v1.toNatClampNeg v2.toNatClampNeg) (-1)
noncomputable def tellroad (A : AS) (G : GC) (v1 v2 : Int32) : Int32 := dc (¬ v1 < 0 ∧ v1 < nI (aR A) ∧ ¬ v2 < 0 ∧ v2 ≤ 4) (gRd G v1.toNatClampNeg v2.toNatClampNeg) (-1)
section C20
variable {c m w : Nat} {A : AS} {G : GC} {S T : HS} {v1 v2 : Int32} {Q : Int32 → HS → Prop}
theorem nat_of {k : Nat} (h : v1.toInt = (k : Int)) : v1.toNatClampNeg = k := by
  show v1.toInt.toNat = k
  omega
theorem sp_X6_tell {o : Nat} (h : P_X6_tell o v1 Q S) (h0 : ¬ v1 < 0) (h6 : v1 ≤ 6) : P_X6_tell o v1 (fun x T => Q x T ∧ S = T ∧ x = fI S o v1.toNatClampNeg) S := by
  have e0 : (0 : Int32).toInt = 0 := by decide
  have e6 : (6 : Int32).toInt = 6 := by decide
  have a0 := nlt_i h0
  have a6 := le_i h6
  delta P_X6_tell P_X6_tell_0
  have h : _ ∧ _ := h
  exact ⟨fun c => ⟨(h.1 c).1, fun x e => ⟨(h.1 c).2 x e, rfl, e.trans (by rw [nat_of (k := 6) (by omega)])⟩⟩,
    fun c => ⟨(h.2.1 c).1, fun x e => ⟨(h.2.1 c).2 x e, rfl, e.trans (by rw [nat_of (k := 0) (by omega)])⟩⟩,
    fun c => ⟨(h.2.2.1 c).1, fun x e => ⟨(h.2.2.1 c).2 x e, rfl, e.trans (by rw [nat_of (k := 1) (by omega)])⟩⟩,
    fun c => ⟨(h.2.2.2.1 c).1, fun x e => ⟨(h.2.2.2.1 c).2 x e, rfl, e.trans (by rw [nat_of (k := 2) (by omega)])⟩⟩,
    fun c => ⟨(h.2.2.2.2.1 c).1, fun x e => ⟨(h.2.2.2.2.1 c).2 x e, rfl, e.trans (by rw [nat_of (k := 3) (by omega)])⟩⟩,
    fun c => ⟨(h.2.2.2.2.2.1 c).1, fun x e => ⟨(h.2.2.2.2.2.1 c).2 x e, rfl, e.trans (by rw [nat_of (k := 4) (by omega)])⟩⟩,
    fun c => ⟨(h.2.2.2.2.2.2 c).1, fun x e => ⟨(h.2.2.2.2.2.2 c).2 x e, rfl, e.trans (by rw [nat_of (k := 5) (by omega)])⟩⟩⟩
theorem sp_X5_tell {o : Nat} (h : P_X5_tell o v1 Q S) (h0 : ¬ v1 < 0) (h6 : v1 ≤ 4) : P_X5_tell o v1 (fun x T => Q x T ∧ S = T ∧ x = fI S o v1.toNatClampNeg) S := by
  have e0 : (0 : Int32).toInt = 0 := by decide
  have e6 : (4 : Int32).toInt = 4 := by decide
  have a0 := nlt_i h0
  have a6 := le_i h6
  delta P_X5_tell P_X5_tell_0
  have h : _ ∧ _ := h
  exact ⟨fun c => ⟨(h.1 c).1, fun x e => ⟨(h.1 c).2 x e, rfl, e.trans (by rw [nat_of (k := 4) (by omega)])⟩⟩,
    fun c => ⟨(h.2.1 c).1, fun x e => ⟨(h.2.1 c).2 x e, rfl, e.trans (by rw [nat_of (k := 0) (by omega)])⟩⟩,
    fun c => ⟨(h.2.2.1 c).1, fun x e => ⟨(h.2.2.1 c).2 x e, rfl, e.trans (by rw [nat_of (k := 1) (by omega)])⟩⟩,
    fun c => ⟨(h.2.2.2.1 c).1, fun x e => ⟨(h.2.2.2.1 c).2 x e, rfl, e.trans (by rw [nat_of (k := 2) (by omega)])⟩⟩,
    fun c => ⟨(h.2.2.2.2 c).1, fun x e => ⟨(h.2.2.2.2 c).2 x e, rfl, e.trans (by rw [nat_of (k := 3) (by omega)])⟩⟩⟩
theorem sp_X8_hasWalker (hI : IV S) (ow : ob S w 8) (ab : ABd A) (hc : Cnt w A S) (h : P_X8_hasWalker w v1 Q S) : P_X8_hasWalker w v1 (fun x T => Q x T ∧ S = T ∧ ans (¬ v1 < 0 ∧ v1 < nI (aW A)) x) S := by
  delta P_X8_hasWalker P_X8_hasWalker_0
  refine ⟨fun c1 => ⟨h.1 c1, rfl, Or.inr ⟨fun z => z.1 c1, rfl⟩⟩, fun c1 => ?_⟩
  have h := h.2 c1
  obtain ⟨o, h⟩ := h
  refine ⟨o, fun x2 e2 => ?_⟩
  have h := h x2 e2
  have e2 := e2.trans hc.2.2.2.2.1
  refine ⟨fun c2 => ⟨h.1 c2, rfl, Or.inr ⟨fun z => ?_, rfl⟩⟩, fun c2 => ?_⟩
  · rw [e2] at c2
    exact absurd z.2 (Int32.not_lt.mpr c2)
  have h := h.2 c2
  obtain ⟨a4, e4, h⟩ := h
  refine ⟨a4, e4, ?_⟩
  obtain ⟨o4, h⟩ := h
  refine ⟨o4, ?_⟩
  rw [e2] at c2
  have c2 := Int32.not_le.mp c2
  obtain ⟨a5, e5, -, n5⟩ := hI.1 (8, 9, 19, 4) (by decide) w ow
  cases e5.symm.trans e4
  have n5 : hN S a4 = 4 := n5.resolve_left (by decide)
  refine ⟨fun c3 => ?_, fun c3 => ⟨h.2 c3, rfl, Or.inl ⟨⟨c1, c2⟩, rfl⟩⟩⟩
  rw [n5] at c3
  have q1 := le_i c3
  have q2 := lt_i c2
  have hb := ab.2.2.2.2.1
  rw [nI_i (by omega)] at q1 q2
  omega
theorem sp_X8_hasRoad (hI : IV S) (ow : ob S w 8) (ab : ABd A) (hc : Cnt w A S) (h : P_X8_hasRoad w v1 Q S) : P_X8_hasRoad w v1 (fun x T => Q x T ∧ S = T ∧ ans (¬ v1 < 0 ∧ v1 < nI (aR A)) x) S := by
  delta P_X8_hasRoad P_X8_hasRoad_0
  refine ⟨fun c1 => ⟨h.1 c1, rfl, Or.inr ⟨fun z => z.1 c1, rfl⟩⟩, fun c1 => ?_⟩
  have h := h.2 c1
  obtain ⟨o, h⟩ := h
  refine ⟨o, fun x2 e2 => ?_⟩
  have h := h x2 e2
  have e2 := e2.trans hc.2.2.2.1
  refine ⟨fun c2 => ⟨h.1 c2, rfl, Or.inr ⟨fun z => ?_, rfl⟩⟩, fun c2 => ?_⟩
  · rw [e2] at c2
    exact absurd z.2 (Int32.not_lt.mpr c2)
  have h := h.2 c2
  obtain ⟨a4, e4, h⟩ := h
  refine ⟨a4, e4, ?_⟩
  obtain ⟨o4, h⟩ := h
  refine ⟨o4, ?_⟩
  rw [e2] at c2
  have c2 := Int32.not_le.mp c2
  obtain ⟨a5, e5, -, n5⟩ := hI.1 (8, 8, 18, 12) (by decide) w ow
  cases e5.symm.trans e4
  have n5 : hN S a4 = 12 := n5.resolve_left (by decide)
  refine ⟨fun c3 => ?_, fun c3 => ⟨h.2 c3, rfl, Or.inl ⟨⟨c1, c2⟩, rfl⟩⟩⟩
  rw [n5] at c3
  have q1 := le_i c3
  have q2 := lt_i c2
  have hb := ab.2.2.2.1
  rw [nI_i (by omega)] at q1 q2
  omega
theorem sp_X11_isWalker (hm : (fR S m 3 = none ∧ A = A00) ∨ ∃ rd, WRm m rd A G S) (h : P_X11_isWalker m v1 Q S) : P_X11_isWalker m v1 (fun x T => Q x T ∧ S = T ∧ ans ((∃ rd, WRm m rd A G S) ∧ ¬ v1 < 0 ∧ v1 < nI (aW A)) x) S := by
  delta P_X11_isWalker P_X11_isWalker_0
  obtain ⟨o, h⟩ := h
  refine ⟨o, fun n => ⟨h.1 n, rfl, Or.inr ⟨fun z => ?_, rfl⟩⟩, fun a1 e1 => ?_⟩
  · obtain ⟨⟨rd, q⟩, -⟩ := z
    cases n.symm.trans q.1
  have h := h.2 a1 e1
  rcases hm with ⟨n, -⟩ | ⟨rd, hm⟩
  · cases n.symm.trans e1
  refine ⟨fun c1 => ⟨h.1 c1, rfl, Or.inr ⟨fun z => z.2.1 c1, rfl⟩⟩, fun c1 => ?_⟩
  have h := h.2 c1
  obtain ⟨a4, e4, h⟩ := h
  refine ⟨a4, e4, ?_⟩
  cases hm.1.symm.trans e4
  obtain ⟨o4, h⟩ := h
  refine ⟨o4, fun x5 e5 => ?_⟩
  have h := h x5 e5
  have e5 := e5.trans hm.2.2.1.2.2.2.2.1
  refine ⟨fun c2 => ⟨h.1 c2, rfl, Or.inr ⟨fun z => ?_, rfl⟩⟩, fun c2 => ⟨h.2 c2, rfl, Or.inl ⟨⟨⟨rd, hm⟩, c1, ?_⟩, rfl⟩⟩⟩
  · rw [e5] at c2
    exact absurd z.2.2 (Int32.not_lt.mpr c2)
  · rw [e5] at c2
    exact Int32.not_le.mp c2
theorem sp_X11_isRoad (hm : (fR S m 3 = none ∧ A = A00) ∨ ∃ rd, WRm m rd A G S) (h : P_X11_isRoad m v1 Q S) : P_X11_isRoad m v1 (fun x T => Q x T ∧ S = T ∧ ans ((∃ rd, WRm m rd A G S) ∧ ¬ v1 < 0 ∧ v1 < nI (aR A)) x) S := by
  delta P_X11_isRoad P_X11_isRoad_0
  obtain ⟨o, h⟩ := h
  refine ⟨o, fun n => ⟨h.1 n, rfl, Or.inr ⟨fun z => ?_, rfl⟩⟩, fun a1 e1 => ?_⟩
  · obtain ⟨⟨rd, q⟩, -⟩ := z
    cases n.symm.trans q.1
  have h := h.2 a1 e1
  rcases hm with ⟨n, -⟩ | ⟨rd, hm⟩
  · cases n.symm.trans e1
  refine ⟨fun c1 => ⟨h.1 c1, rfl, Or.inr ⟨fun z => z.2.1 c1, rfl⟩⟩, fun c1 => ?_⟩
  have h := h.2 c1
  obtain ⟨a4, e4, h⟩ := h
  refine ⟨a4, e4, ?_⟩
  cases hm.1.symm.trans e4
  obtain ⟨o4, h⟩ := h
  refine ⟨o4, fun x5 e5 => ?_⟩
  have h := h x5 e5
  have e5 := e5.trans hm.2.2.1.2.2.2.1
  refine ⟨fun c2 => ⟨h.1 c2, rfl, Or.inr ⟨fun z => ?_, rfl⟩⟩, fun c2 => ⟨h.2 c2, rfl, Or.inl ⟨⟨⟨rd, hm⟩, c1, ?_⟩, rfl⟩⟩⟩
  · rw [e5] at c2
    exact absurd z.2.2 (Int32.not_lt.mpr c2)
  · rw [e5] at c2
    exact Int32.not_le.mp c2
theorem tl_X9_walker {r w1 w2 : Nat} (hI : IV S) (J : CJ c r w1 w2 S) (hc : Cnt w1 A S) (ct : CtB w1 A G S S) (ab : ABd A) (h : P_X9_walker c v1 v2 Q S) : P_X9_walker c v1 v2 (fun x T => Q x T ∧ x = tellwalker A G v1 v2) S := by
  have o1 := J.2.2.2.2.2.1
  have no : ∀ T, ¬ (¬ v1 < 0 ∧ v1 < nI (aW A) ∧ ¬ v2 < 0 ∧ v2 ≤ 6) → P_X9_walker_21 Q c T → P_X9_walker_21 (fun x T => Q x T ∧ x = tellwalker A G v1 v2) c T := by
    intro T hn h
    delta P_X9_walker_21
    obtain ⟨o2, h⟩ := h
    refine ⟨o2, cm_X9_refuse (sp_X9_refuse h) h (fun x U hp h g => ⟨h g, ?_⟩)⟩
    unfold tellwalker
    rw [dc_n hn]
    exact hp.2.1
  delta P_X9_walker P_X9_walker_0
  obtain ⟨o2, h⟩ := h
  refine ⟨o2, ?_⟩
  obtain ⟨a1, e1, h⟩ := h
  refine ⟨a1, e1, ?_⟩
  cases J.1.symm.trans e1
  obtain ⟨o3, h⟩ := h
  refine ⟨o3, ?_⟩
  refine cm_X8_hasWalker (sp_X8_hasWalker hI o1 ab hc h) h (fun x4 S2 hp h g b => ?_)
  have h := h g b
  obtain ⟨-, hS, hx⟩ := hp
  subst hS
  refine ⟨fun c1 => no _ (fun z => an0 hx c1 ⟨z.1, z.2.1⟩) (h.1 c1), fun c1 => ?_⟩
  have h := h.2 c1
  have hx := an1 hx c1
  refine ⟨fun c2 => no _ (fun z => z.2.2.1 c2) (h.1 c2), fun c2 => ?_⟩
  have h := h.2 c2
  refine ⟨fun c3 => ?_, fun c3 => no _ (fun z => c3 z.2.2.2) (h.2 c3)⟩
  have h := h.1 c3
  obtain ⟨a8, e8, h⟩ := h
  refine ⟨a8, e8, ?_⟩
  cases J.1.symm.trans e8
  obtain ⟨o8, h⟩ := h
  refine ⟨o8, ?_⟩
  obtain ⟨a9, e9, h⟩ := h
  refine ⟨a9, e9, ?_⟩
  obtain ⟨o9, h⟩ := h
  refine ⟨o9, ?_⟩
  obtain ⟨o10, h⟩ := h
  refine ⟨o10, ?_⟩
  obtain ⟨a11, e11, h⟩ := h
  refine ⟨a11, e11, ?_⟩
  obtain ⟨o11, h⟩ := h
  refine ⟨o11, ?_⟩
  have e0 : (0 : Int32).toInt = 0 := by decide
  have hb := ab.2.2.2.2.1
  have q1 := nlt_i hx.1
  have q2 := lt_i hx.2
  rw [nI_i (by omega)] at q2
  have hv1 : v1.toNatClampNeg < aW A := by
    show v1.toInt.toNat < _
    omega
  have eN : (6 : Int32).toInt = 6 := by decide
  have q3 := nlt_i c2
  have q4 := le_i c3
  have hv2 : v2.toNatClampNeg < 7 := by
    show v2.toInt.toNat < _
    omega
  obtain ⟨o, eo, ho⟩ := ct.2.2.2.1 a9 e9 v1.toNatClampNeg hv1
  cases eo.symm.trans e11
  refine cm_X6_tell (sp_X6_tell h c2 c3) h (fun x14 S12 hp h g => ?_)
  have h := h g
  obtain ⟨-, hS, hx14⟩ := hp
  subst hS
  refine cm_X9_grant (sp_X9_grant h) h (fun x17 S15 hp h g => ⟨h g, ?_⟩)
  unfold tellwalker
  rw [dc_y ⟨hx.1, hx.2, c2, c3⟩, hp.2.1, hx14]
  exact ho _ hv2
theorem tl_X9_road {r w1 w2 : Nat} (hI : IV S) (J : CJ c r w1 w2 S) (hc : Cnt w1 A S) (ct : CtB w1 A G S S) (ab : ABd A) (h : P_X9_road c v1 v2 Q S) : P_X9_road c v1 v2 (fun x T => Q x T ∧ x = tellroad A G v1 v2) S := by
  have o1 := J.2.2.2.2.2.1
  have no : ∀ T, ¬ (¬ v1 < 0 ∧ v1 < nI (aR A) ∧ ¬ v2 < 0 ∧ v2 ≤ 4) → P_X9_road_20 Q c T → P_X9_road_20 (fun x T => Q x T ∧ x = tellroad A G v1 v2) c T := by
    intro T hn h
    delta P_X9_road_20
    obtain ⟨o2, h⟩ := h
    refine ⟨o2, cm_X9_refuse (sp_X9_refuse h) h (fun x U hp h g => ⟨h g, ?_⟩)⟩
    unfold tellroad
    rw [dc_n hn]
    exact hp.2.1
  delta P_X9_road P_X9_road_0
  obtain ⟨o2, h⟩ := h
  refine ⟨o2, ?_⟩
  obtain ⟨a1, e1, h⟩ := h
  refine ⟨a1, e1, ?_⟩
  cases J.1.symm.trans e1
  obtain ⟨o3, h⟩ := h
  refine ⟨o3, ?_⟩
  refine cm_X8_hasRoad (sp_X8_hasRoad hI o1 ab hc h) h (fun x4 S2 hp h g b => ?_)
  have h := h g b
  obtain ⟨-, hS, hx⟩ := hp
  subst hS
  refine ⟨fun c1 => no _ (fun z => an0 hx c1 ⟨z.1, z.2.1⟩) (h.1 c1), fun c1 => ?_⟩
  have h := h.2 c1
  have hx := an1 hx c1
  refine ⟨fun c2 => no _ (fun z => z.2.2.1 c2) (h.1 c2), fun c2 => ?_⟩
  have h := h.2 c2
  refine ⟨fun c3 => ?_, fun c3 => no _ (fun z => c3 z.2.2.2) (h.2 c3)⟩
  have h := h.1 c3
  obtain ⟨a8, e8, h⟩ := h
  refine ⟨a8, e8, ?_⟩
  cases J.1.symm.trans e8
  obtain ⟨o8, h⟩ := h
  refine ⟨o8, ?_⟩
  obtain ⟨a9, e9, h⟩ := h
  refine ⟨a9, e9, ?_⟩
  obtain ⟨o9, h⟩ := h
  refine ⟨o9, ?_⟩
  obtain ⟨o10, h⟩ := h
  refine ⟨o10, ?_⟩
  obtain ⟨a11, e11, h⟩ := h
  refine ⟨a11, e11, ?_⟩
  obtain ⟨o11, h⟩ := h
  refine ⟨o11, ?_⟩
  have e0 : (0 : Int32).toInt = 0 := by decide
  have hb := ab.2.2.2.1
  have q1 := nlt_i hx.1
  have q2 := lt_i hx.2
  rw [nI_i (by omega)] at q2
  have hv1 : v1.toNatClampNeg < aR A := by
    show v1.toInt.toNat < _
    omega
  have eN : (4 : Int32).toInt = 4 := by decide
  have q3 := nlt_i c2
  have q4 := le_i c3
  have hv2 : v2.toNatClampNeg < 5 := by
    show v2.toInt.toNat < _
    omega
  obtain ⟨o, eo, ho⟩ := ct.2.2.1 a9 e9 v1.toNatClampNeg hv1
  cases eo.symm.trans e11
  refine cm_X5_tell (sp_X5_tell h c2 c3) h (fun x14 S12 hp h g => ?_)
  have h := h g
  obtain ⟨-, hS, hx14⟩ := hp
  subst hS
  refine cm_X9_grant (sp_X9_grant h) h (fun x17 S15 hp h g => ⟨h g, ?_⟩)
  unfold tellroad
  rw [dc_y ⟨hx.1, hx.2, c2, c3⟩, hp.2.1, hx14]
  exact ho _ hv2
theorem tl_X11_walker (hm : (fR S m 3 = none ∧ A = A00) ∨ ∃ rd, WRm m rd A G S) (ab : ABd A) (h : P_X11_walker m v1 v2 Q S) : P_X11_walker m v1 v2 (fun x T => Q x T ∧ x = tellwalker A G v1 v2) S := by
  have no : ∀ T, ¬ (¬ v1 < 0 ∧ v1 < nI (aW A) ∧ ¬ v2 < 0 ∧ v2 ≤ 6) → P_X11_walker_23 Q m T → P_X11_walker_23 (fun x T => Q x T ∧ x = tellwalker A G v1 v2) m T := by
    intro T hn h
    delta P_X11_walker_23
    obtain ⟨o2, h⟩ := h
    refine ⟨o2, cm_X11_refused (sp_X11_refused h) h (fun x U hp h g => ⟨h g, ?_⟩)⟩
    unfold tellwalker
    rw [dc_n hn]
    exact hp.2.1
  delta P_X11_walker P_X11_walker_0
  obtain ⟨o2, h⟩ := h
  refine ⟨o2, fun S1 eS1 => ?_⟩
  have h := h S1 eS1
  have hm1 : (fR S1 m 3 = none ∧ A = A00) ∨ ∃ rd, WRm m rd A G S1 := by
    have fr : fR S1 = fR S := by rw [eS1]; rfl
    rcases hm with ⟨n, hA⟩ | ⟨rd, hm⟩
    · exact Or.inl ⟨by rw [fr]; exact n, hA⟩
    · refine Or.inr ⟨rd, wrm_mv (by rw [eS1]; exact gr_rf S) hm (by rw [fr]) (fun i _ => by rw [fr]) (fun j _ => by rw [row_o eS1 (ob_ne hm.2.1 o2 (by decide))]) (fun b o n => ⟨row_o eS1 (o.elim (fun o => ob_ne o o2 (by decide)) (fun o => ob_ne o o2 (by decide))), by rw [eS1]; exact n⟩)⟩
  refine cm_X11_isWalker (sp_X11_isWalker hm1 h) h (fun x4 S2 hp h g b => ?_)
  have h := h g b
  obtain ⟨-, hS, hx⟩ := hp
  subst hS
  refine ⟨fun c1 => no _ (fun z => ?_) (h.1 c1), fun c1 => ?_⟩
  · rcases hm1 with ⟨n, hA⟩ | hm1
    · have q1 := nlt_i z.1
      have q2 := lt_i z.2.1
      have e0 : (0 : Int32).toInt = 0 := by decide
      have e1 : (nI (aW A)).toInt = 0 := by rw [hA]; decide
      omega
    · exact an0 hx c1 ⟨hm1, z.1, z.2.1⟩
  have h := h.2 c1
  obtain ⟨⟨rd, hr⟩, hx⟩ := an1 hx c1
  refine cm_X11_in (sp_X11_in h) h (fun x8 S6 hp h g b => ?_)
  have h := h g b
  obtain ⟨-, hS, hx2⟩ := hp
  subst hS
  refine Iff.mp and_comm ⟨fun c2 => no _ (fun z => an0 hx2 c2 (fun y => y.elim z.2.2.1 (fun y => absurd z.2.2.2 (Int32.not_le.mpr y)))) (h.2 c2), fun c2 => ?_⟩
  have h := h.1 c2
  have hx2 := an1 hx2 c2
  have c3 : ¬ v2 < 0 := fun z => hx2 (Or.inl z)
  have c4 : v2 ≤ 6 := Int32.not_lt.mp (fun z => hx2 (Or.inr z))
  have e0 : (0 : Int32).toInt = 0 := by decide
  have hb := ab.2.2.2.2.1
  have q1 := nlt_i hx.1
  have q2 := lt_i hx.2
  rw [nI_i (by omega)] at q2
  have hv1 : v1.toNatClampNeg < aW A := by
    show v1.toInt.toNat < _
    omega
  have eN : (6 : Int32).toInt = 6 := by decide
  have q3 := nlt_i c3
  have q4 := le_i c4
  have fin : ∀ a11 a12 i k, fR S1 m 3 = some a11 → fR S1 a11 i = some a12 → (7 ≤ i ∧ i ≤ 27) → (∀ z, valM G i z = gWk G z k) ∧ cntM A i = aW A → v2.toNatClampNeg = k → fI S1 a12 v1.toNatClampNeg = tellwalker A G v1 v2 := by
    intro a11 a12 i k e11 e12 hi hv hk
    cases hr.1.symm.trans e11
    have q := hr.2.2.2.1 i a12 hi.1 hi.2 e12 v1.toNatClampNeg (by rw [hv.2]; exact hv1)
    unfold tellwalker
    rw [dc_y ⟨hx.1, hx.2, c3, c4⟩, q, hv.1, hk]
  refine ⟨?_, ?_, ?_, ?_, ?_, ?_, ?_⟩
  · intro c5
    have h := h.1 c5
    obtain ⟨a11, e11, h⟩ := h
    refine ⟨a11, e11, ?_⟩
    obtain ⟨o11, h⟩ := h
    refine ⟨o11, ?_⟩
    obtain ⟨a12, e12, h⟩ := h
    refine ⟨a12, e12, ?_⟩
    obtain ⟨o12, h⟩ := h
    refine ⟨o12, ?_⟩
    obtain ⟨o13, h⟩ := h
    refine ⟨o13, fun x14 e14 => ?_⟩
    have h := h x14 e14
    refine cm_X11_good (sp_X11_good h) h (fun x17 S15 hp h g => ⟨h g, ?_⟩)
    rw [hp.2.1, e14]
    exact fin a11 a12 25 6 e11 e12 (by decide) ⟨fun _ => rfl, rfl⟩ (by show v2.toInt.toNat = 6; omega)
  · intro c5
    have h := h.2.1 c5
    obtain ⟨a11, e11, h⟩ := h
    refine ⟨a11, e11, ?_⟩
    obtain ⟨o11, h⟩ := h
    refine ⟨o11, ?_⟩
    obtain ⟨a12, e12, h⟩ := h
    refine ⟨a12, e12, ?_⟩
    obtain ⟨o12, h⟩ := h
    refine ⟨o12, ?_⟩
    obtain ⟨o13, h⟩ := h
    refine ⟨o13, fun x14 e14 => ?_⟩
    have h := h x14 e14
    refine cm_X11_good (sp_X11_good h) h (fun x17 S15 hp h g => ⟨h g, ?_⟩)
    rw [hp.2.1, e14]
    exact fin a11 a12 19 0 e11 e12 (by decide) ⟨fun _ => rfl, rfl⟩ (by show v2.toInt.toNat = 0; omega)
  · intro c5
    have h := h.2.2.1 c5
    obtain ⟨a11, e11, h⟩ := h
    refine ⟨a11, e11, ?_⟩
    obtain ⟨o11, h⟩ := h
    refine ⟨o11, ?_⟩
    obtain ⟨a12, e12, h⟩ := h
    refine ⟨a12, e12, ?_⟩
    obtain ⟨o12, h⟩ := h
    refine ⟨o12, ?_⟩
    obtain ⟨o13, h⟩ := h
    refine ⟨o13, fun x14 e14 => ?_⟩
    have h := h x14 e14
    refine cm_X11_good (sp_X11_good h) h (fun x17 S15 hp h g => ⟨h g, ?_⟩)
    rw [hp.2.1, e14]
    exact fin a11 a12 20 1 e11 e12 (by decide) ⟨fun _ => rfl, rfl⟩ (by show v2.toInt.toNat = 1; omega)
  · intro c5
    have h := h.2.2.2.1 c5
    obtain ⟨a11, e11, h⟩ := h
    refine ⟨a11, e11, ?_⟩
    obtain ⟨o11, h⟩ := h
    refine ⟨o11, ?_⟩
    obtain ⟨a12, e12, h⟩ := h
    refine ⟨a12, e12, ?_⟩
    obtain ⟨o12, h⟩ := h
    refine ⟨o12, ?_⟩
    obtain ⟨o13, h⟩ := h
    refine ⟨o13, fun x14 e14 => ?_⟩
    have h := h x14 e14
    refine cm_X11_good (sp_X11_good h) h (fun x17 S15 hp h g => ⟨h g, ?_⟩)
    rw [hp.2.1, e14]
    exact fin a11 a12 21 2 e11 e12 (by decide) ⟨fun _ => rfl, rfl⟩ (by show v2.toInt.toNat = 2; omega)
  · intro c5
    have h := h.2.2.2.2.1 c5
    obtain ⟨a11, e11, h⟩ := h
    refine ⟨a11, e11, ?_⟩
    obtain ⟨o11, h⟩ := h
    refine ⟨o11, ?_⟩
    obtain ⟨a12, e12, h⟩ := h
    refine ⟨a12, e12, ?_⟩
    obtain ⟨o12, h⟩ := h
    refine ⟨o12, ?_⟩
    obtain ⟨o13, h⟩ := h
    refine ⟨o13, fun x14 e14 => ?_⟩
    have h := h x14 e14
    refine cm_X11_good (sp_X11_good h) h (fun x17 S15 hp h g => ⟨h g, ?_⟩)
    rw [hp.2.1, e14]
    exact fin a11 a12 22 3 e11 e12 (by decide) ⟨fun _ => rfl, rfl⟩ (by show v2.toInt.toNat = 3; omega)
  · intro c5
    have h := h.2.2.2.2.2.1 c5
    obtain ⟨a11, e11, h⟩ := h
    refine ⟨a11, e11, ?_⟩
    obtain ⟨o11, h⟩ := h
    refine ⟨o11, ?_⟩
    obtain ⟨a12, e12, h⟩ := h
    refine ⟨a12, e12, ?_⟩
    obtain ⟨o12, h⟩ := h
    refine ⟨o12, ?_⟩
    obtain ⟨o13, h⟩ := h
    refine ⟨o13, fun x14 e14 => ?_⟩
    have h := h x14 e14
    refine cm_X11_good (sp_X11_good h) h (fun x17 S15 hp h g => ⟨h g, ?_⟩)
    rw [hp.2.1, e14]
    exact fin a11 a12 23 4 e11 e12 (by decide) ⟨fun _ => rfl, rfl⟩ (by show v2.toInt.toNat = 4; omega)
  · intro c5
    have h := h.2.2.2.2.2.2 c5
    obtain ⟨a11, e11, h⟩ := h
    refine ⟨a11, e11, ?_⟩
    obtain ⟨o11, h⟩ := h
    refine ⟨o11, ?_⟩
    obtain ⟨a12, e12, h⟩ := h
    refine ⟨a12, e12, ?_⟩
    obtain ⟨o12, h⟩ := h
    refine ⟨o12, ?_⟩
    obtain ⟨o13, h⟩ := h
    refine ⟨o13, fun x14 e14 => ?_⟩
    have h := h x14 e14
    refine cm_X11_good (sp_X11_good h) h (fun x17 S15 hp h g => ⟨h g, ?_⟩)
    rw [hp.2.1, e14]
    exact fin a11 a12 24 5 e11 e12 (by decide) ⟨fun _ => rfl, rfl⟩ (by show v2.toInt.toNat = 5; omega)
theorem tl_X11_road (hm : (fR S m 3 = none ∧ A = A00) ∨ ∃ rd, WRm m rd A G S) (ab : ABd A) (h : P_X11_road m v1 v2 Q S) : P_X11_road m v1 v2 (fun x T => Q x T ∧ x = tellroad A G v1 v2) S := by
  have no : ∀ T, ¬ (¬ v1 < 0 ∧ v1 < nI (aR A) ∧ ¬ v2 < 0 ∧ v2 ≤ 4) → P_X11_road_22 Q m T → P_X11_road_22 (fun x T => Q x T ∧ x = tellroad A G v1 v2) m T := by
    intro T hn h
    delta P_X11_road_22
    obtain ⟨o2, h⟩ := h
    refine ⟨o2, cm_X11_refused (sp_X11_refused h) h (fun x U hp h g => ⟨h g, ?_⟩)⟩
    unfold tellroad
    rw [dc_n hn]
    exact hp.2.1
  delta P_X11_road P_X11_road_0
  obtain ⟨o2, h⟩ := h
  refine ⟨o2, fun S1 eS1 => ?_⟩
  have h := h S1 eS1
  have hm1 : (fR S1 m 3 = none ∧ A = A00) ∨ ∃ rd, WRm m rd A G S1 := by
    have fr : fR S1 = fR S := by rw [eS1]; rfl
    rcases hm with ⟨n, hA⟩ | ⟨rd, hm⟩
    · exact Or.inl ⟨by rw [fr]; exact n, hA⟩
    · refine Or.inr ⟨rd, wrm_mv (by rw [eS1]; exact gr_rf S) hm (by rw [fr]) (fun i _ => by rw [fr]) (fun j _ => by rw [row_o eS1 (ob_ne hm.2.1 o2 (by decide))]) (fun b o n => ⟨row_o eS1 (o.elim (fun o => ob_ne o o2 (by decide)) (fun o => ob_ne o o2 (by decide))), by rw [eS1]; exact n⟩)⟩
  refine cm_X11_isRoad (sp_X11_isRoad hm1 h) h (fun x4 S2 hp h g b => ?_)
  have h := h g b
  obtain ⟨-, hS, hx⟩ := hp
  subst hS
  refine ⟨fun c1 => no _ (fun z => ?_) (h.1 c1), fun c1 => ?_⟩
  · rcases hm1 with ⟨n, hA⟩ | hm1
    · have q1 := nlt_i z.1
      have q2 := lt_i z.2.1
      have e0 : (0 : Int32).toInt = 0 := by decide
      have e1 : (nI (aR A)).toInt = 0 := by rw [hA]; decide
      omega
    · exact an0 hx c1 ⟨hm1, z.1, z.2.1⟩
  have h := h.2 c1
  obtain ⟨⟨rd, hr⟩, hx⟩ := an1 hx c1
  refine cm_X11_in (sp_X11_in h) h (fun x8 S6 hp h g b => ?_)
  have h := h g b
  obtain ⟨-, hS, hx2⟩ := hp
  subst hS
  refine Iff.mp and_comm ⟨fun c2 => no _ (fun z => an0 hx2 c2 (fun y => y.elim z.2.2.1 (fun y => absurd z.2.2.2 (Int32.not_le.mpr y)))) (h.2 c2), fun c2 => ?_⟩
  have h := h.1 c2
  have hx2 := an1 hx2 c2
  have c3 : ¬ v2 < 0 := fun z => hx2 (Or.inl z)
  have c4 : v2 ≤ 4 := Int32.not_lt.mp (fun z => hx2 (Or.inr z))
  have e0 : (0 : Int32).toInt = 0 := by decide
  have hb := ab.2.2.2.1
  have q1 := nlt_i hx.1
  have q2 := lt_i hx.2
  rw [nI_i (by omega)] at q2
  have hv1 : v1.toNatClampNeg < aR A := by
    show v1.toInt.toNat < _
    omega
  have eN : (4 : Int32).toInt = 4 := by decide
  have q3 := nlt_i c3
  have q4 := le_i c4
  have fin : ∀ a11 a12 i k, fR S1 m 3 = some a11 → fR S1 a11 i = some a12 → (7 ≤ i ∧ i ≤ 27) → (∀ z, valM G i z = gRd G z k) ∧ cntM A i = aR A → v2.toNatClampNeg = k → fI S1 a12 v1.toNatClampNeg = tellroad A G v1 v2 := by
    intro a11 a12 i k e11 e12 hi hv hk
    cases hr.1.symm.trans e11
    have q := hr.2.2.2.1 i a12 hi.1 hi.2 e12 v1.toNatClampNeg (by rw [hv.2]; exact hv1)
    unfold tellroad
    rw [dc_y ⟨hx.1, hx.2, c3, c4⟩, q, hv.1, hk]
  refine ⟨?_, ?_, ?_, ?_, ?_⟩
  · intro c5
    have h := h.1 c5
    obtain ⟨a11, e11, h⟩ := h
    refine ⟨a11, e11, ?_⟩
    obtain ⟨o11, h⟩ := h
    refine ⟨o11, ?_⟩
    obtain ⟨a12, e12, h⟩ := h
    refine ⟨a12, e12, ?_⟩
    obtain ⟨o12, h⟩ := h
    refine ⟨o12, ?_⟩
    obtain ⟨o13, h⟩ := h
    refine ⟨o13, fun x14 e14 => ?_⟩
    have h := h x14 e14
    refine cm_X11_good (sp_X11_good h) h (fun x17 S15 hp h g => ⟨h g, ?_⟩)
    rw [hp.2.1, e14]
    exact fin a11 a12 17 4 e11 e12 (by decide) ⟨fun _ => rfl, rfl⟩ (by show v2.toInt.toNat = 4; omega)
  · intro c5
    have h := h.2.1 c5
    obtain ⟨a11, e11, h⟩ := h
    refine ⟨a11, e11, ?_⟩
    obtain ⟨o11, h⟩ := h
    refine ⟨o11, ?_⟩
    obtain ⟨a12, e12, h⟩ := h
    refine ⟨a12, e12, ?_⟩
    obtain ⟨o12, h⟩ := h
    refine ⟨o12, ?_⟩
    obtain ⟨o13, h⟩ := h
    refine ⟨o13, fun x14 e14 => ?_⟩
    have h := h x14 e14
    refine cm_X11_good (sp_X11_good h) h (fun x17 S15 hp h g => ⟨h g, ?_⟩)
    rw [hp.2.1, e14]
    exact fin a11 a12 13 0 e11 e12 (by decide) ⟨fun _ => rfl, rfl⟩ (by show v2.toInt.toNat = 0; omega)
  · intro c5
    have h := h.2.2.1 c5
    obtain ⟨a11, e11, h⟩ := h
    refine ⟨a11, e11, ?_⟩
    obtain ⟨o11, h⟩ := h
    refine ⟨o11, ?_⟩
    obtain ⟨a12, e12, h⟩ := h
    refine ⟨a12, e12, ?_⟩
    obtain ⟨o12, h⟩ := h
    refine ⟨o12, ?_⟩
    obtain ⟨o13, h⟩ := h
    refine ⟨o13, fun x14 e14 => ?_⟩
    have h := h x14 e14
    refine cm_X11_good (sp_X11_good h) h (fun x17 S15 hp h g => ⟨h g, ?_⟩)
    rw [hp.2.1, e14]
    exact fin a11 a12 14 1 e11 e12 (by decide) ⟨fun _ => rfl, rfl⟩ (by show v2.toInt.toNat = 1; omega)
  · intro c5
    have h := h.2.2.2.1 c5
    obtain ⟨a11, e11, h⟩ := h
    refine ⟨a11, e11, ?_⟩
    obtain ⟨o11, h⟩ := h
    refine ⟨o11, ?_⟩
    obtain ⟨a12, e12, h⟩ := h
    refine ⟨a12, e12, ?_⟩
    obtain ⟨o12, h⟩ := h
    refine ⟨o12, ?_⟩
    obtain ⟨o13, h⟩ := h
    refine ⟨o13, fun x14 e14 => ?_⟩
    have h := h x14 e14
    refine cm_X11_good (sp_X11_good h) h (fun x17 S15 hp h g => ⟨h g, ?_⟩)
    rw [hp.2.1, e14]
    exact fin a11 a12 15 2 e11 e12 (by decide) ⟨fun _ => rfl, rfl⟩ (by show v2.toInt.toNat = 2; omega)
  · intro c5
    have h := h.2.2.2.2 c5
    obtain ⟨a11, e11, h⟩ := h
    refine ⟨a11, e11, ?_⟩
    obtain ⟨o11, h⟩ := h
    refine ⟨o11, ?_⟩
    obtain ⟨a12, e12, h⟩ := h
    refine ⟨a12, e12, ?_⟩
    obtain ⟨o12, h⟩ := h
    refine ⟨o12, ?_⟩
    obtain ⟨o13, h⟩ := h
    refine ⟨o13, fun x14 e14 => ?_⟩
    have h := h x14 e14
    refine cm_X11_good (sp_X11_good h) h (fun x17 S15 hp h g => ⟨h g, ?_⟩)
    rw [hp.2.1, e14]
    exact fin a11 a12 16 3 e11 e12 (by decide) ⟨fun _ => rfl, rfl⟩ (by show v2.toInt.toNat = 3; omega)
end C20
/-! the start -/
section C21a
variable {S S0 T : HS} {c m v0 : Nat} {QU : HS → Prop}
theorem sq_X11_init (h : P_X11_init v0 QU S) (E : S = nW S0 v0 11 0) : P_X11_init v0 (fun T => QU T ∧ ∃ F g, BX S T v0 F g ∧ (5, 12, 900) ∈ F ∧ g 6 = 0 ∧ g 13 = 0 ∧ g 2 = -1 ∧ g 1 = 0 ∧ ∀ e ∈ F, e.1 ≠ 3) S := by
  have hv : v0 ∈ hL S := by rw [E]; exact List.mem_append_right _ (List.mem_singleton.mpr rfl)
  have hz : fI S v0 = fun _ => 0 := by rw [E]; exact zero_new.2
  have b0 := bx_rf (S0 := S) (v := v0) (fun j b e => by rw [E, zero_new.1 j] at e; exact absurd e (by simp))
  rw [hz] at b0
  delta P_X11_init P_X11_init_0
  obtain ⟨oq1, h⟩ := h
  refine ⟨oq1, ?_⟩
  intro Sq2 eSq2
  have h := h Sq2 eSq2
  have b1 := bx_I b0 hv eSq2
  intro aq3 eaq3
  have h := h aq3 eaq3
  intro Sq4 eSq4
  have h := h Sq4 eSq4
  intro Sq5 eSq5
  have h := h Sq5 eSq5
  have b2 := bx_arr b1 hv eaq3 eSq4 eSq5 (by decide) (by decide)
  intro aq6 eaq6
  have h := h aq6 eaq6
  intro Sq7 eSq7
  have h := h Sq7 eSq7
  intro Sq8 eSq8
  have h := h Sq8 eSq8
  have b3 := bx_arr b2 hv eaq6 eSq7 eSq8 (by decide) (by decide)
  intro aq9 eaq9
  have h := h aq9 eaq9
  intro Sq10 eSq10
  have h := h Sq10 eSq10
  intro Sq11 eSq11
  have h := h Sq11 eSq11
  have b4 := bx_arr b3 hv eaq9 eSq10 eSq11 (by decide) (by decide)
  intro aq12 eaq12
  have h := h aq12 eaq12
  intro Sq13 eSq13
  have h := h Sq13 eSq13
  intro Sq14 eSq14
  have h := h Sq14 eSq14
  have b5 := bx_arr b4 hv eaq12 eSq13 eSq14 (by decide) (by decide)
  intro Sq15 eSq15
  have h := h Sq15 eSq15
  have b6 := bx_I b5 hv eSq15
  intro aq16 eaq16
  have h := h aq16 eaq16
  intro Sq17 eSq17
  have h := h Sq17 eSq17
  intro Sq18 eSq18
  have h := h Sq18 eSq18
  have b7 := bx_arr b6 hv eaq16 eSq17 eSq18 (by decide) (by decide)
  intro aq19 eaq19
  have h := h aq19 eaq19
  intro Sq20 eSq20
  have h := h Sq20 eSq20
  intro Sq21 eSq21
  have h := h Sq21 eSq21
  have b8 := bx_arr b7 hv eaq19 eSq20 eSq21 (by decide) (by decide)
  intro aq22 eaq22
  have h := h aq22 eaq22
  intro Sq23 eSq23
  have h := h Sq23 eSq23
  intro Sq24 eSq24
  have h := h Sq24 eSq24
  have b9 := bx_arr b8 hv eaq22 eSq23 eSq24 (by decide) (by decide)
  exact ⟨h, _, _, b9, by simp, by decide, by decide, by decide, by decide, by decide⟩
end C21a
section C21
variable {c r w w1 w2 m a3 : Nat} {S T U : HS}
theorem woi_wob {b : Nat} (h : WOi w S b) : WOb w S b := by
  rcases h with h | h | ⟨q, hq, ra, i, e, -, eb⟩
  · exact Or.inl h
  · exact Or.inr (Or.inl h)
  · exact Or.inr (Or.inr ⟨q.1, by
      simp only [List.mem_cons, List.not_mem_nil, or_false] at hq
      rcases hq with rfl | rfl | rfl <;> decide, ra, i, e, eb⟩)
theorem dj_of (u : UV S) (r1 : WKr w1 S) (r2 : WKr w2 S) (oc : ob S c 9) (orr : ob S r 4) (o1 : ob S w1 8) (o2 : ob S w2 8) (e1 : fR S c 2 = some w1) (e2 : fR S r 5 = some w2) (b : Nat) (h : WOb w1 S b) (g : WOb w2 S b) : False := by
  have ne : w1 ≠ w2 := fun z => by
    have := (u.2 c 2 r 5 w1 e1 (z ▸ e2)).1
    exact ob_ne oc orr (by decide) this
  have nk : ∀ x ra k, ob S x k → k < 17 → 17 ≤ hK S ra → x ≠ ra := fun x ra k ox hk hr z => by
    rw [← z, ox.2] at hr
    omega
  rcases h with h | ⟨j, hj, h⟩ | ⟨j, hj, ra, i, h, hb⟩
  · rcases g with g | ⟨j', hj', g⟩ | ⟨j', hj', ra', i', g, gb⟩
    · exact ne (h.symm.trans g)
    · exact ob_ne oc o2 (by decide) (u.2 c 2 w2 j' b (h ▸ e1) g).1
    · exact nk c ra' 9 oc (by decide) (r2 j' hj' ra' g).1 (u.2 c 2 ra' i' b (h ▸ e1) gb).1
  · rcases g with g | ⟨j', hj', g⟩ | ⟨j', hj', ra', i', g, gb⟩
    · exact ob_ne orr o1 (by decide) (u.2 r 5 w1 j b (g ▸ e2) h).1
    · exact ne (u.2 w1 j w2 j' b h g).1
    · exact nk w1 ra' 8 o1 (by decide) (r2 j' hj' ra' g).1 (u.2 w1 j ra' i' b h gb).1
  · rcases g with g | ⟨j', hj', g⟩ | ⟨j', hj', ra', i', g, gb⟩
    · exact nk r ra 4 orr (by decide) (r1 j hj ra h).1 (u.2 r 5 ra i b (g ▸ e2) hb).1
    · exact nk w2 ra 8 o2 (by decide) (r1 j hj ra h).1 (u.2 w2 j' ra i b g hb).1
    · have q := (u.2 ra i ra' i' b hb gb).1
      subst q
      exact ne (u.2 w1 j w2 j' ra h g).1
theorem cj_start (hI : IV S) (oc : ob S c 9) (u : UV S) : ∃ r w1 w2, CJ c r w1 w2 S := by
  obtain ⟨w1, e1, o1, -⟩ := hI.1 (9, 2, 8, 0) (by decide) c oc
  obtain ⟨r, er, orr, -⟩ := hI.1 (9, 3, 4, 0) (by decide) c oc
  obtain ⟨w2, e2, o2, -⟩ := hI.1 (4, 5, 8, 0) (by decide) r orr
  have inj : ∀ w, INJ w S := fun w q hq ra e i j o _ _ h1 h2 => (u.2 ra i ra j o h1 h2).2
  have nwa : ∀ w, ob S w 8 → NWa w S := fun w ow fl hf d e q hq x ox z => by
    have := (u.2 x q.2 w fl d z e).1
    rw [this] at ox
    have hk : q.1 ≠ 8 := by
      simp only [List.mem_cons, List.not_mem_nil, or_false] at hq
      rcases hq with h | h | h | h | h | h | h | h <;> (rw [h]; decide)
    exact hk (ob_inj ox ow)
  have k1 := (wk_of hI o1 (inj w1)).2
  have k2 := (wk_of hI o2 (inj w2)).2
  exact ⟨r, w1, w2, e1, er, e2, oc, orr, o1, o2, ⟨inj w1, nwa w1 o1⟩, ⟨inj w2, nwa w2 o2⟩, fun b p q => dj_of u k1 k2 oc orr o1 o2 e1 e2 b (woi_wob p) q, fun b p q => dj_of u k1 k2 oc orr o1 o2 e1 e2 b q (woi_wob p)⟩
theorem ctb_00 {B : HS} : CtB w A00 G00 B S := ⟨fun _ _ h hh => absurd hh (Nat.not_lt_zero h), fun _ _ h hh => absurd hh (Nat.not_lt_zero h), fun _ _ h hh => absurd hh (Nat.not_lt_zero h), fun _ _ h hh => absurd hh (Nat.not_lt_zero h), fun _ _ _ _ h hh => absurd hh (Nat.not_lt_zero h)⟩
/-- at the start both worlds tell nothing -/
theorem wr_start {F : List (Nat × Nat × Nat)} {g : Nat → Int32} (hI : IV S) (oc : ob S c 9) (u : UZ S) (hf : m ∉ hL S) (bx : BX (nW S m 11 0) T m F g) (h3 : ∀ e ∈ F, e.1 ≠ 3) (ha : a3 ∉ hL T) (e5 : U = nW T a3 14 1) : WRx c m U := by
  obtain ⟨r, w1, w2, J⟩ := cj_start hI oc u.1
  have gn : Gr S (nW S m 11 0) := gr_of_new rfl hf
  have mi : m ∈ hL (nW S m 11 0) := by
    show m ∈ hL S ++ [m]
    simp
  have gT : Gr S T := gr_tr gn bx.1
  have gU : Gr T U := gr_of_new e5 ha
  have g : Gr S U := gr_tr gT gU
  have row : ∀ x, x ∈ hL S → fI U x = fI S x ∧ fR U x = fR S x := fun x hx => by
    have xm : x ≠ m := fun z => hf (z ▸ hx)
    have xa : x ≠ a3 := fun z => ha (z ▸ (gT x hx).1)
    have q := bx.2.1 x (gn x hx).1 xm
    rw [e5]
    exact ⟨(va_up_ne _ _ xa).trans (q.1.trans (va_up_ne _ _ xm)), (va_up_ne _ _ xa).trans (q.2.2.trans (va_up_ne _ _ xm))⟩
  have ma : m ≠ a3 := fun z => ha (z ▸ (bx.1 m mi).1)
  have rowm : fR U m = fR T m := by rw [e5]; exact va_up_ne _ _ ma
  have kind : ∀ x k, ob U x k → (k = 7 ∨ k = 11) → x ∈ hL S ∨ x = m := fun x k ox hk => by
    rw [e5] at ox
    obtain ⟨o1, o2⟩ := ox
    have o1 : x ∈ hL T ++ [a3] := o1
    have o2 : va_up (hK T) a3 14 x = k := o2
    by_cases xa : x = a3
    · rw [xa, va_up_self] at o2
      omega
    · rw [va_up_ne _ _ xa] at o2
      rcases List.mem_append.mp o1 with z | z
      · rcases bx.2.2.1 x z with q | q
        · have q : x ∈ hL S ++ [m] := q
          rcases List.mem_append.mp q with q | q
          · exact Or.inl q
          · exact Or.inr (List.mem_singleton.mp q)
        · omega
      · exact absurd (List.mem_singleton.mp z) xa
  have J0 := J
  obtain ⟨j1, j2, j3, -, orr, o1, o2, -⟩ := J0
  have FWf : FW S U := ⟨fun x ox j _ => by rw [(row x ox.1).2], fun x hx _ => (row x hx).2⟩
  refine ⟨A00, G00, r, w1, w2, cj_mv hI g FWf (fun d od n q hq x ox z => ?_) J (by rw [(row c oc.1).2]) (by rw [(row c oc.1).2]) (by rw [(row r orr.1).2]), ?_, ctb_00, ⟨by decide, by decide, by decide, by decide, by decide, by decide⟩, Or.inl ⟨?_, rfl⟩⟩
  · have hk : q.1 = 7 ∨ q.1 = 11 := by
      simp only [List.mem_cons, List.not_mem_nil, or_false] at hq
      rcases hq with h | h | h | h | h | h | h | h <;> (rw [h]; decide)
    rcases kind x q.1 ox hk with hx | hx
    · rw [(row x hx).2] at z
      exact n q hq x ⟨hx, (g x hx).2.1.symm.trans ox.2⟩ z
    · rw [hx, rowm] at z
      rcases bx.2.2.2.2.1 q.2 d z with y | y
      · exact y.1 (gn d od.1).1
      · have y : va_up (fR S) m (fun _ => none) m q.2 = some d := y
        rw [va_up_self] at y
        cases y
  · unfold Cnt
    rw [(row w1 o1.1).1, u.2 w1 o1]
    exact ⟨rfl, rfl, rfl, rfl, rfl, rfl⟩
  · rw [rowm, bx.2.2.2.2.2.2.2.2 3 h3]
    exact congrFun (va_up_self (fR S) m (fun _ => none)) 3
end C21
