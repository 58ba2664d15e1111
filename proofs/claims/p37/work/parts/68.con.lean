theorem ms_perm {L L2 : List Nat} {S : HS} (hp : ∀ x, x ∈ L ↔ x ∈ L2) : ms L S = ms L2 S := by
  unfold ms
  have : (fun a => if a ∈ L then 99 else hK S a) = fun a => if a ∈ L2 then 99 else hK S a := by
    funext a
    by_cases h : a ∈ L
    · rw [if_pos h, if_pos ((hp a).mp h)]
    · rw [if_neg h, if_neg (fun z => h ((hp a).mpr z))]
  rw [this]
theorem cs_perm {S0 S : HS} {E L L2 : List Nat} {v k : Nat} {F : List (Nat × Nat × Nat)} {f : Nat → Int32} (h : CS S0 E L S v k F f) (hp : ∀ x, x ∈ L ↔ x ∈ L2) : CS S0 E L2 S v k F f := ⟨ms_perm hp ▸ h.1, h.2.1, fun x hx => h.2.2.1 x ((hp x).mpr hx), (hp v).mp h.2.2.2.1, fun x hx => (hp x).mp (h.2.2.2.2.1 x hx), h.2.2.2.2.2⟩
theorem ms_nil (S : HS) : ms [] S = S := by
  unfold ms
  have : (fun a => if a ∈ ([] : List Nat) then 99 else hK S a) = hK S := by
    funext a
    exact if_neg (by simp)
  rw [this]; rfl
theorem cn_ob {S : HS} {E : List Nat} {v k : Nat} (h : CN k v E S) : ob S v k := ⟨h.2.2.1 v List.mem_cons_self, h.2.2.2.2.1⟩
theorem cs_ob {S0 S : HS} {E L : List Nat} {v k : Nat} {F : List (Nat × Nat × Nat)} {f : Nat → Int32} (h : CS S0 E L S v k F f) : ob S v k := ⟨h.2.2.1 v h.2.2.2.1, h.2.2.2.2.2.2.2.1⟩
theorem fs_fr {S0 S T T2 U : HS} {E L : List Nat} {v k a q j N c w q2 : Nat} {F : List (Nat × Nat × Nat)} {f : Nat → Int32} (h : FS S0 E L S v k F f a q j N c) (hw : w ∉ hL S) (E1 : T = nW S w q2 0) (r : CR q2 w (a :: L) T T2) (E2 : U = sR T2 a c (some w)) : fR U v = fR S v := by
  have hvS := h.1.2.2.1 v h.1.2.2.2.1
  have hwv : v ≠ w := fun z => hw (z ▸ hvS)
  have hx : XP S T2 w := xp_tr (xp_new hw E1) r.2.2.1
  have xa : XP T2 U a := xp_R E2
  rw [((xa v (hx v hvS).1).2.2.2 (Ne.symm h.2.2.2.1)).2.2, ((hx v hvS).2.2.2 hwv).2.2]
theorem fs_of {S0 S : HS} {E L : List Nat} {v k a q j N : Nat} {F : List (Nat × Nat × Nat)} {f : Nat → Int32} (h : CS S0 E (a :: L) S v k F f) (he : (j, q, N) ∈ F) (hr : fR S v j = some a) (ha : a ∉ L) (ha0 : a ∉ hL S0) : FS S0 E L S v k F f a q j N 0 := by
  obtain ⟨b, b1, b2, b3, b4, b5⟩ := h.2.2.2.2.2.2.2.2.1.1 _ he
  obtain rfl : b = a := Option.some.inj (b1.symm.trans hr)
  exact fs_0 ⟨h, ha, ha0, b4, b2.2, b5, hr⟩
theorem st_keep {S T U : HS} {v b q N j j' : Nat} (hb : b ∉ hL S) (E1 : T = nW S b q N) (E2 : U = sR T v j' (some b)) (hv : v ∈ hL S) (hj : j ≠ j') {r : Option Nat} (h : fR S v j = r) : fR U v j = r := by
  rw [E2, show fR (sR T v j' (some b)) v j = fR T v j from u2_ne _ _ (fun z => hj z.2), ((xp_new (v := b) hb E1 v hv).2.2.2 (fun z => hb (z ▸ hv))).2.2]
  exact h
theorem m_X3_init {v0 : Nat} {E : List Nat} {Q : HS → Prop} {S : HS} (h : CN 3 v0 E S) (hq : ∀ T, CR 3 v0 E S T → Q T) : P_X3_init v0 Q S := hq S (cs_end (cs_0 h) (by omega) (by decide) (by decide) (fun z => absurd z (by omega)))
theorem m_X5_init {v0 : Nat} {E : List Nat} {Q : HS → Prop} {S : HS} (h : CN 5 v0 E S) (hq : ∀ T, CR 5 v0 E S T → Q T) : P_X5_init v0 Q S := hq S (cs_end (cs_0 h) (by omega) (by decide) (by decide) (fun z => absurd z (by omega)))
theorem m_X6_init {v0 : Nat} {E : List Nat} {Q : HS → Prop} {S : HS} (h : CN 6 v0 E S) (hq : ∀ T, CR 6 v0 E S T → Q T) : P_X6_init v0 Q S := hq S (cs_end (cs_0 h) (by omega) (by decide) (by decide) (fun z => absurd z (by omega)))
set_option maxRecDepth 20000 in
theorem m_X2_init {v0 : Nat} {E : List Nat} {Q : HS → Prop} {S : HS} (h : CN 2 v0 E S) (hq : ∀ T, CR 2 v0 E S T → Q T) : P_X2_init v0 Q S := by
  show P_X2_init_0 Q v0 S
  unfold P_X2_init_0
  have c0 := cs_0 h
  have ov := cn_ob h
  intro a0 q0 T0 e0
  refine ⟨gr_ob (gr_of_new e0 q0) ov, ?_⟩
  intro U0 g0
  have c1 := cs_arr c0 q0 e0 g0 (by omega) (by decide)
  exact hq _ (cs_end c1 (by omega) (by decide) (by decide) (fun z => absurd z (by omega)))
set_option maxRecDepth 20000 in
theorem m_X1_init {v0 : Nat} {E : List Nat} {Q : HS → Prop} {S : HS} (h : CN 1 v0 E S) (hq : ∀ T, CR 1 v0 E S T → Q T) : P_X1_init v0 Q S := by
  show P_X1_init_0 Q v0 S
  unfold P_X1_init_0
  have c0 := cs_0 h
  have ov := cn_ob h
  intro a0 q0 T0 e0
  refine ⟨gr_ob (gr_of_new e0 q0) ov, ?_⟩
  intro U0 g0
  have c1 := cs_arr c0 q0 e0 g0 (by omega) (by decide)
  intro a1 q1 T1 e1
  intro U1 g1
  have c2 := cs_arr c1 q1 e1 g1 (by omega) (by decide)
  exact hq _ (cs_end c2 (by omega) (by decide) (by decide) (fun z => absurd z (by omega)))
set_option maxRecDepth 20000 in
theorem m_X7_init {v0 : Nat} {E : List Nat} {Q : HS → Prop} {S : HS} (h : CN 7 v0 E S) (hq : ∀ T, CR 7 v0 E S T → Q T) : P_X7_init v0 Q S := by
  show P_X7_init_0 Q v0 S
  unfold P_X7_init_0
  have c0 := cs_0 h
  have ov := cn_ob h
  intro a0 q0 T0 e0
  refine ⟨gr_ob (gr_of_new e0 q0) ov, ?_⟩
  intro U0 g0
  have c1 := cs_arr c0 q0 e0 g0 (by omega) (by decide)
  intro a1 q1 T1 e1
  intro U1 g1
  have c2 := cs_arr c1 q1 e1 g1 (by omega) (by decide)
  intro a2 q2 T2 e2
  intro U2 g2
  have c3 := cs_arr c2 q2 e2 g2 (by omega) (by decide)
  intro a3 q3 T3 e3
  intro U3 g3
  have c4 := cs_arr c3 q3 e3 g3 (by omega) (by decide)
  intro a4 q4 T4 e4
  intro U4 g4
  have c5 := cs_arr c4 q4 e4 g4 (by omega) (by decide)
  intro a5 q5 T5 e5
  intro U5 g5
  have c6 := cs_arr c5 q5 e5 g5 (by omega) (by decide)
  intro a6 q6 T6 e6
  intro U6 g6
  have c7 := cs_arr c6 q6 e6 g6 (by omega) (by decide)
  intro a7 q7 T7 e7
  intro U7 g7
  have c8 := cs_arr c7 q7 e7 g7 (by omega) (by decide)
  intro V0 i0
  have c9 := cs_I c8 i0
  intro V1 i1
  have c10 := cs_I c9 i1
  intro V2 i2
  have c11 := cs_I c10 i2
  intro V3 i3
  have c12 := cs_I c11 i3
  exact hq _ (cs_end c12 (by omega) (by decide) (by decide) (fun _ => by decide))
set_option maxRecDepth 20000 in
theorem lp_X8_init_115 {Q : HS → Prop} {E Lm : List Nat} {S0 : HS} {v0 a : Nat} {F : List (Nat × Nat × Nat)} {f : Nat → Int32} (hvL : v0 ∈ Lm) (hEL : ∀ x, x ∈ E → x ∈ Lm) {r : Nat → Option Nat} (hQ : ∀ S, CS S0 E Lm S v0 8 F f → fR S v0 = r → 28 ≤ rm_X8_init.cells ∧ 172 ≤ rm_X8_init.slots ∧ Q S) : ∀ (d c : Nat), c + d = 4 → ∀ (S : HS), FS S0 E Lm S v0 8 F f a 19 9 4 c → fR S v0 = r → ∀ (kk nn : Nat), kk = 24 + 1 * c → nn = 144 + 7 * c → ∀ X : Nat → Int32 → Nat → Nat → HS → Prop, (∀ (v0 : Nat) (v1 : Int32) (kk nn : Nat) (S : HS), B_X8_init_115 Q X v0 v1 kk nn S → X v0 v1 kk nn S) → X v0 (nI c) kk nn S := by
  intro d
  induction d with
  | zero =>
    intro c hc S fs hr kk nn hk hn X hX
    have hc' : c = 4 := by omega
    subst hc'
    subst hk
    subst hn
    refine hX v0 _ _ _ S ⟨cs_ob fs.1, a, fs.2.2.2.2.2.2.1, ⟨fs.1.2.2.1 a List.mem_cons_self, fs.2.2.2.2.1⟩, fun _ => ?_, fun hn => absurd ?_ hn⟩
    · exact hQ S (fs_end fs (by omega) hvL hEL) hr
    · rw [fs.2.2.2.2.2.1]
      exact nI_le (by omega) (by omega)
  | succ d ih =>
    intro c hc S fs hr kk nn hk hn X hX
    refine hX v0 _ _ _ S ⟨cs_ob fs.1, a, fs.2.2.2.2.2.2.1, ⟨fs.1.2.2.1 a List.mem_cons_self, fs.2.2.2.2.1⟩, fun hn => absurd hn ?_, fun _ => ⟨a, fs.2.2.2.2.2.2.1, ?_, ?_, fun w hw T eT => ⟨?_, ?_, m_X6_init (cn_of fs.1.1 fs.1.2.1 fs.1.2.2.1 hw eT (by omega)) (fun T2 r _ => ?_)⟩⟩⟩
    · rw [fs.2.2.2.2.2.1]
      exact nI_ge (by omega) (by omega)
    · show kk + 1 ≤ 28
      omega
    · show nn + 7 ≤ 172
      omega
    · show kk + 1 ≤ 28
      omega
    · show nn + 7 ≤ 172
      omega
    · have ya := r.2.2.1 a ((xp_new (v := 0) hw eT a (fs.1.2.2.1 a List.mem_cons_self)).1)
      have yk := (xp_new (v := 0) hw eT a (fs.1.2.2.1 a List.mem_cons_self))
      refine ⟨⟨ya.1, (ya.2.1.trans yk.2.1).trans fs.2.2.2.2.1⟩, ?_, fun U eU x ex => ?_⟩
      · rw [(ya.2.2.1.trans yk.2.2.1).trans fs.2.2.2.2.2.1]
        exact nI_in (by omega) (by omega)
      · rw [nI_clamp (by omega)] at eU
        have fs2 := fs_step fs (by omega) hw eT r eU
        rw [ex, nI_1 c]
        exact ih (c + 1) (by omega) U fs2 ((fs_fr fs hw eT r eU).trans hr) _ _ (by omega) (by omega) X hX
set_option maxRecDepth 20000 in
theorem lp_X8_init_85 {Q : HS → Prop} {E Lm : List Nat} {S0 : HS} {v0 a : Nat} {F : List (Nat × Nat × Nat)} {f : Nat → Int32} (hvL : v0 ∈ Lm) (hEL : ∀ x, x ∈ E → x ∈ Lm) {r : Nat → Option Nat} (hQ : ∀ S, CS S0 E Lm S v0 8 F f → fR S v0 = r → P_X8_init_115 Q v0 (0 : Int32) 24 144 S) : ∀ (d c : Nat), c + d = 12 → ∀ (S : HS), FS S0 E Lm S v0 8 F f a 18 8 12 c → fR S v0 = r → ∀ (kk nn : Nat), kk = 12 + 1 * c → nn = 84 + 5 * c → ∀ X : Nat → Int32 → Nat → Nat → HS → Prop, (∀ (v0 : Nat) (v1 : Int32) (kk nn : Nat) (S : HS), B_X8_init_85 Q X v0 v1 kk nn S → X v0 v1 kk nn S) → X v0 (nI c) kk nn S := by
  intro d
  induction d with
  | zero =>
    intro c hc S fs hr kk nn hk hn X hX
    have hc' : c = 12 := by omega
    subst hc'
    subst hk
    subst hn
    refine hX v0 _ _ _ S ⟨cs_ob fs.1, a, fs.2.2.2.2.2.2.1, ⟨fs.1.2.2.1 a List.mem_cons_self, fs.2.2.2.2.1⟩, fun _ => ?_, fun hn => absurd ?_ hn⟩
    · exact hQ S (fs_end fs (by omega) hvL hEL) hr
    · rw [fs.2.2.2.2.2.1]
      exact nI_le (by omega) (by omega)
  | succ d ih =>
    intro c hc S fs hr kk nn hk hn X hX
    refine hX v0 _ _ _ S ⟨cs_ob fs.1, a, fs.2.2.2.2.2.2.1, ⟨fs.1.2.2.1 a List.mem_cons_self, fs.2.2.2.2.1⟩, fun hn => absurd hn ?_, fun _ => ⟨a, fs.2.2.2.2.2.2.1, ?_, ?_, fun w hw T eT => ⟨?_, ?_, m_X5_init (cn_of fs.1.1 fs.1.2.1 fs.1.2.2.1 hw eT (by omega)) (fun T2 r _ => ?_)⟩⟩⟩
    · rw [fs.2.2.2.2.2.1]
      exact nI_ge (by omega) (by omega)
    · show kk + 1 ≤ 28
      omega
    · show nn + 5 ≤ 172
      omega
    · show kk + 1 ≤ 28
      omega
    · show nn + 5 ≤ 172
      omega
    · have ya := r.2.2.1 a ((xp_new (v := 0) hw eT a (fs.1.2.2.1 a List.mem_cons_self)).1)
      have yk := (xp_new (v := 0) hw eT a (fs.1.2.2.1 a List.mem_cons_self))
      refine ⟨⟨ya.1, (ya.2.1.trans yk.2.1).trans fs.2.2.2.2.1⟩, ?_, fun U eU x ex => ?_⟩
      · rw [(ya.2.2.1.trans yk.2.2.1).trans fs.2.2.2.2.2.1]
        exact nI_in (by omega) (by omega)
      · rw [nI_clamp (by omega)] at eU
        have fs2 := fs_step fs (by omega) hw eT r eU
        rw [ex, nI_1 c]
        exact ih (c + 1) (by omega) U fs2 ((fs_fr fs hw eT r eU).trans hr) _ _ (by omega) (by omega) X hX
set_option maxRecDepth 20000 in
theorem lp_X8_init_55 {Q : HS → Prop} {E Lm : List Nat} {S0 : HS} {v0 a : Nat} {F : List (Nat × Nat × Nat)} {f : Nat → Int32} (hvL : v0 ∈ Lm) (hEL : ∀ x, x ∈ E → x ∈ Lm) {r : Nat → Option Nat} (hQ : ∀ S, CS S0 E Lm S v0 8 F f → fR S v0 = r → P_X8_init_85 Q v0 (0 : Int32) 12 84 S) : ∀ (d c : Nat), c + d = 6 → ∀ (S : HS), FS S0 E Lm S v0 8 F f a 17 6 6 c → fR S v0 = r → ∀ (kk nn : Nat), kk = 6 + 1 * c → nn = 54 + 5 * c → ∀ X : Nat → Int32 → Nat → Nat → HS → Prop, (∀ (v0 : Nat) (v1 : Int32) (kk nn : Nat) (S : HS), B_X8_init_55 Q X v0 v1 kk nn S → X v0 v1 kk nn S) → X v0 (nI c) kk nn S := by
  intro d
  induction d with
  | zero =>
    intro c hc S fs hr kk nn hk hn X hX
    have hc' : c = 6 := by omega
    subst hc'
    subst hk
    subst hn
    refine hX v0 _ _ _ S ⟨cs_ob fs.1, a, fs.2.2.2.2.2.2.1, ⟨fs.1.2.2.1 a List.mem_cons_self, fs.2.2.2.2.1⟩, fun _ => ?_, fun hn => absurd ?_ hn⟩
    · exact hQ S (fs_end fs (by omega) hvL hEL) hr
    · rw [fs.2.2.2.2.2.1]
      exact nI_le (by omega) (by omega)
  | succ d ih =>
    intro c hc S fs hr kk nn hk hn X hX
    refine hX v0 _ _ _ S ⟨cs_ob fs.1, a, fs.2.2.2.2.2.2.1, ⟨fs.1.2.2.1 a List.mem_cons_self, fs.2.2.2.2.1⟩, fun hn => absurd hn ?_, fun _ => ⟨a, fs.2.2.2.2.2.2.1, ?_, ?_, fun w hw T eT => ⟨?_, ?_, m_X3_init (cn_of fs.1.1 fs.1.2.1 fs.1.2.2.1 hw eT (by omega)) (fun T2 r _ => ?_)⟩⟩⟩
    · rw [fs.2.2.2.2.2.1]
      exact nI_ge (by omega) (by omega)
    · show kk + 1 ≤ 28
      omega
    · show nn + 5 ≤ 172
      omega
    · show kk + 1 ≤ 28
      omega
    · show nn + 5 ≤ 172
      omega
    · have ya := r.2.2.1 a ((xp_new (v := 0) hw eT a (fs.1.2.2.1 a List.mem_cons_self)).1)
      have yk := (xp_new (v := 0) hw eT a (fs.1.2.2.1 a List.mem_cons_self))
      refine ⟨⟨ya.1, (ya.2.1.trans yk.2.1).trans fs.2.2.2.2.1⟩, ?_, fun U eU x ex => ?_⟩
      · rw [(ya.2.2.1.trans yk.2.2.1).trans fs.2.2.2.2.2.1]
        exact nI_in (by omega) (by omega)
      · rw [nI_clamp (by omega)] at eU
        have fs2 := fs_step fs (by omega) hw eT r eU
        rw [ex, nI_1 c]
        exact ih (c + 1) (by omega) U fs2 ((fs_fr fs hw eT r eU).trans hr) _ _ (by omega) (by omega) X hX
set_option maxRecDepth 20000 in
theorem m_X8_init {v0 : Nat} {E : List Nat} {Q : HS → Prop} {S : HS} (h : CN 8 v0 E S) (hq : ∀ T, CR 8 v0 E S T → Q T) : P_X8_init v0 Q S := by
  show P_X8_init_0 Q v0 0 0 S
  unfold P_X8_init_0
  have c0 := cs_0 h
  have ov := cn_ob h
  refine ⟨by decide, by decide, ?_⟩
  intro a0 q0 T0 e0
  refine ⟨gr_ob (gr_of_new e0 q0) ov, ?_⟩
  intro U0 g0
  have r0 := cs_ref c0 q0 e0 g0 (by omega) (by decide)
  have c1 := r0.1
  refine ⟨by decide, by decide, ?_⟩
  intro a1 q1 T1 e1
  intro U1 g1
  have c2 := cs_arr c1 q1 e1 g1 (by omega) (by decide)
  refine ⟨by decide, by decide, ?_⟩
  intro a2 q2 T2 e2
  intro U2 g2
  have r2 := cs_ref c2 q2 e2 g2 (by omega) (by decide)
  have c3 := r2.1
  refine ⟨by decide, by decide, ?_⟩
  intro a3 q3 T3 e3
  intro U3 g3
  have r3 := cs_ref c3 q3 e3 g3 (by omega) (by decide)
  have c4 := r3.1
  refine ⟨by decide, by decide, ?_⟩
  intro a4 q4 T4 e4
  intro U4 g4
  have c5 := cs_arr c4 q4 e4 g4 (by omega) (by decide)
  refine ⟨by decide, by decide, ?_⟩
  intro a5 q5 T5 e5
  intro U5 g5
  have c6 := cs_arr c5 q5 e5 g5 (by omega) (by decide)
  have hq' : ∀ S', CS S E (v0 :: E) S' v0 8 [(11, 13, 20), (10, 13, 4), (9, 19, 4), (8, 18, 12), (7, 13, 8), (6, 17, 6)] (fun _ => 0) → 28 ≤ rm_X8_init.cells ∧ 172 ≤ rm_X8_init.slots ∧ Q S' := fun S' c => ⟨by decide, by decide, hq S' (cs_end c (by omega) (by decide) (by decide) (fun z => absurd z (by omega)))⟩
  have k6 : fR U5 v0 6 = some a0 := (st_keep q5 e5 g5 (c5.2.2.1 v0 c5.2.2.2.1) (by decide : 6 ≠ 11) (st_keep q4 e4 g4 (c4.2.2.1 v0 c4.2.2.2.1) (by decide : 6 ≠ 10) (st_keep q3 e3 g3 (c3.2.2.1 v0 c3.2.2.2.1) (by decide : 6 ≠ 9) (st_keep q2 e2 g2 (c2.2.2.1 v0 c2.2.2.2.1) (by decide : 6 ≠ 8) (st_keep q1 e1 g1 (c1.2.2.1 v0 c1.2.2.2.1) (by decide : 6 ≠ 7) r0.2.2.2.2.2.2)))))
  have k8 : fR U5 v0 8 = some a2 := (st_keep q5 e5 g5 (c5.2.2.1 v0 c5.2.2.2.1) (by decide : 8 ≠ 11) (st_keep q4 e4 g4 (c4.2.2.1 v0 c4.2.2.2.1) (by decide : 8 ≠ 10) (st_keep q3 e3 g3 (c3.2.2.1 v0 c3.2.2.2.1) (by decide : 8 ≠ 9) r2.2.2.2.2.2.2)))
  have k9 : fR U5 v0 9 = some a3 := (st_keep q5 e5 g5 (c5.2.2.1 v0 c5.2.2.2.1) (by decide : 9 ≠ 11) (st_keep q4 e4 g4 (c4.2.2.1 v0 c4.2.2.2.1) (by decide : 9 ≠ 10) r3.2.2.2.2.2.2))
  have x0 := r0.2.1
  have x2 := r2.2.1
  have x3 := r3.2.1
  have hv3 : ∀ x, x ∈ E → x ∈ v0 :: E := fun x hx => List.mem_cons_of_mem _ hx
  have d0 := cs_perm (L2 := a0 :: a3 :: a2 :: v0 :: E) c6 (fun x => by simp only [List.mem_cons]; exact ⟨fun z => by rcases z with z | z | z | z | z <;> simp [z], fun z => by rcases z with z | z | z | z | z <;> simp [z]⟩)
  simp only [List.mem_cons, not_or] at x0 x2 x3
  have n0 : a0 ∉ a3 :: a2 :: v0 :: E := by simp only [List.mem_cons, not_or]; exact ⟨Ne.symm x3.2.1, Ne.symm x2.1, x0.1, x0.2⟩
  have n2 : a2 ∉ a3 :: v0 :: E := by simp only [List.mem_cons, not_or]; exact ⟨Ne.symm x3.1, x2.2.1, x2.2.2⟩
  have n3 : a3 ∉ v0 :: E := by simp only [List.mem_cons, not_or]; exact ⟨x3.2.2.1, x3.2.2.2⟩
  refine lp_X8_init_55 (a := a0) (Lm := a3 :: a2 :: v0 :: E) (r := fR U5 v0) (by simp) (fun x hx => by simp [hx]) (fun S1 s1 t1 => ?_) 6 0 rfl U5 (fs_of d0 (by decide) k6 n0 r0.2.2.1) rfl 6 54 rfl rfl
  have d1 := cs_perm (L2 := a2 :: a3 :: v0 :: E) s1 (fun x => by simp only [List.mem_cons]; exact ⟨fun z => by rcases z with z | z | z | z <;> simp [z], fun z => by rcases z with z | z | z | z <;> simp [z]⟩)
  refine lp_X8_init_85 (a := a2) (Lm := a3 :: v0 :: E) (r := fR U5 v0) (by simp) (fun x hx => by simp [hx]) (fun S2 s2 t2 => ?_) 12 0 rfl S1 (fs_of d1 (by decide) (by rw [t1]; exact k8) n2 r2.2.2.1) t1 12 84 rfl rfl
  exact lp_X8_init_115 (a := a3) (Lm := v0 :: E) (r := fR U5 v0) (by simp) (fun x hx => by simp [hx]) (fun S3 s3 _ => hq' S3 s3) 4 0 rfl S2 (fs_of s2 (by decide) (by rw [t2]; exact k9) n3 r3.2.2.1) t2 24 144 rfl rfl
set_option maxRecDepth 20000 in
theorem lp_X0_init_69 {Q : HS → Prop} {E Lm : List Nat} {S0 : HS} {v0 a : Nat} {F : List (Nat × Nat × Nat)} {f : Nat → Int32} (hvL : v0 ∈ Lm) (hEL : ∀ x, x ∈ E → x ∈ Lm) {r : Nat → Option Nat} (hQ : ∀ S, CS S0 E Lm S v0 0 F f → fR S v0 = r → 42 ≤ rm_X0_init.cells ∧ 179 ≤ rm_X0_init.slots ∧ Q S) : ∀ (d c : Nat), c + d = 3 → ∀ (S : HS), FS S0 E Lm S v0 0 F f a 16 6 3 c → fR S v0 = r → ∀ (kk nn : Nat), kk = 36 + 2 * c → nn = 155 + 8 * c → ∀ X : Nat → Int32 → Nat → Nat → HS → Prop, (∀ (v0 : Nat) (v1 : Int32) (kk nn : Nat) (S : HS), B_X0_init_69 Q X v0 v1 kk nn S → X v0 v1 kk nn S) → X v0 (nI c) kk nn S := by
  intro d
  induction d with
  | zero =>
    intro c hc S fs hr kk nn hk hn X hX
    have hc' : c = 3 := by omega
    subst hc'
    subst hk
    subst hn
    refine hX v0 _ _ _ S ⟨cs_ob fs.1, a, fs.2.2.2.2.2.2.1, ⟨fs.1.2.2.1 a List.mem_cons_self, fs.2.2.2.2.1⟩, fun _ => ?_, fun hn => absurd ?_ hn⟩
    · exact hQ S (fs_end fs (by omega) hvL hEL) hr
    · rw [fs.2.2.2.2.2.1]
      exact nI_le (by omega) (by omega)
  | succ d ih =>
    intro c hc S fs hr kk nn hk hn X hX
    refine hX v0 _ _ _ S ⟨cs_ob fs.1, a, fs.2.2.2.2.2.2.1, ⟨fs.1.2.2.1 a List.mem_cons_self, fs.2.2.2.2.1⟩, fun hn => absurd hn ?_, fun _ => ⟨a, fs.2.2.2.2.2.2.1, ?_, ?_, fun w hw T eT => ⟨?_, ?_, m_X2_init (cn_of fs.1.1 fs.1.2.1 fs.1.2.2.1 hw eT (by omega)) (fun T2 r _ => ?_)⟩⟩⟩
    · rw [fs.2.2.2.2.2.1]
      exact nI_ge (by omega) (by omega)
    · show kk + 1 ≤ 42
      omega
    · show nn + 3 ≤ 179
      omega
    · show kk + 1 + 1 ≤ 42
      omega
    · show nn + 3 + 5 ≤ 179
      omega
    · have ya := r.2.2.1 a ((xp_new (v := 0) hw eT a (fs.1.2.2.1 a List.mem_cons_self)).1)
      have yk := (xp_new (v := 0) hw eT a (fs.1.2.2.1 a List.mem_cons_self))
      refine ⟨⟨ya.1, (ya.2.1.trans yk.2.1).trans fs.2.2.2.2.1⟩, ?_, fun U eU x ex => ?_⟩
      · rw [(ya.2.2.1.trans yk.2.2.1).trans fs.2.2.2.2.2.1]
        exact nI_in (by omega) (by omega)
      · rw [nI_clamp (by omega)] at eU
        have fs2 := fs_step fs (by omega) hw eT r eU
        rw [ex, nI_1 c]
        exact ih (c + 1) (by omega) U fs2 ((fs_fr fs hw eT r eU).trans hr) _ _ (by omega) (by omega) X hX
set_option maxRecDepth 20000 in
theorem lp_X0_init_39 {Q : HS → Prop} {E Lm : List Nat} {S0 : HS} {v0 a : Nat} {F : List (Nat × Nat × Nat)} {f : Nat → Int32} (hvL : v0 ∈ Lm) (hEL : ∀ x, x ∈ E → x ∈ Lm) {r : Nat → Option Nat} (hQ : ∀ S, CS S0 E Lm S v0 0 F f → fR S v0 = r → P_X0_init_69 Q v0 (0 : Int32) 36 155 S) : ∀ (d c : Nat), c + d = 16 → ∀ (S : HS), FS S0 E Lm S v0 0 F f a 16 5 16 c → fR S v0 = r → ∀ (kk nn : Nat), kk = 4 + 2 * c → nn = 27 + 8 * c → ∀ X : Nat → Int32 → Nat → Nat → HS → Prop, (∀ (v0 : Nat) (v1 : Int32) (kk nn : Nat) (S : HS), B_X0_init_39 Q X v0 v1 kk nn S → X v0 v1 kk nn S) → X v0 (nI c) kk nn S := by
  intro d
  induction d with
  | zero =>
    intro c hc S fs hr kk nn hk hn X hX
    have hc' : c = 16 := by omega
    subst hc'
    subst hk
    subst hn
    refine hX v0 _ _ _ S ⟨cs_ob fs.1, a, fs.2.2.2.2.2.2.1, ⟨fs.1.2.2.1 a List.mem_cons_self, fs.2.2.2.2.1⟩, fun _ => ?_, fun hn => absurd ?_ hn⟩
    · exact hQ S (fs_end fs (by omega) hvL hEL) hr
    · rw [fs.2.2.2.2.2.1]
      exact nI_le (by omega) (by omega)
  | succ d ih =>
    intro c hc S fs hr kk nn hk hn X hX
    refine hX v0 _ _ _ S ⟨cs_ob fs.1, a, fs.2.2.2.2.2.2.1, ⟨fs.1.2.2.1 a List.mem_cons_self, fs.2.2.2.2.1⟩, fun hn => absurd hn ?_, fun _ => ⟨a, fs.2.2.2.2.2.2.1, ?_, ?_, fun w hw T eT => ⟨?_, ?_, m_X2_init (cn_of fs.1.1 fs.1.2.1 fs.1.2.2.1 hw eT (by omega)) (fun T2 r _ => ?_)⟩⟩⟩
    · rw [fs.2.2.2.2.2.1]
      exact nI_ge (by omega) (by omega)
    · show kk + 1 ≤ 42
      omega
    · show nn + 3 ≤ 179
      omega
    · show kk + 1 + 1 ≤ 42
      omega
    · show nn + 3 + 5 ≤ 179
      omega
    · have ya := r.2.2.1 a ((xp_new (v := 0) hw eT a (fs.1.2.2.1 a List.mem_cons_self)).1)
      have yk := (xp_new (v := 0) hw eT a (fs.1.2.2.1 a List.mem_cons_self))
      refine ⟨⟨ya.1, (ya.2.1.trans yk.2.1).trans fs.2.2.2.2.1⟩, ?_, fun U eU x ex => ?_⟩
      · rw [(ya.2.2.1.trans yk.2.2.1).trans fs.2.2.2.2.2.1]
        exact nI_in (by omega) (by omega)
      · rw [nI_clamp (by omega)] at eU
        have fs2 := fs_step fs (by omega) hw eT r eU
        rw [ex, nI_1 c]
        exact ih (c + 1) (by omega) U fs2 ((fs_fr fs hw eT r eU).trans hr) _ _ (by omega) (by omega) X hX
set_option maxRecDepth 20000 in
theorem m_X0_init {v0 : Nat} {E : List Nat} {Q : HS → Prop} {S : HS} (h : CN 0 v0 E S) (hq : ∀ T, CR 0 v0 E S T → Q T) : P_X0_init v0 Q S := by
  show P_X0_init_0 Q v0 0 0 S
  unfold P_X0_init_0
  have c0 := cs_0 h
  have ov := cn_ob h
  refine ⟨ov, ?_⟩
  intro V0 i0
  have c0 := cs_I c0 i0
  refine ⟨by decide, by decide, ?_⟩
  intro a0 q0 T0 e0
  refine ⟨by decide, by decide, m_X2_init (cn_of c0.1 c0.2.1 c0.2.2.1 q0 e0 (by omega)) (fun W0 w0 _ => ?_)⟩
  intro U0 g0
  have c1 := cs_obj c0 q0 e0 w0 g0 (by decide)
  refine ⟨by decide, by decide, ?_⟩
  intro a1 q1 T1 e1
  intro U1 g1
  have r1 := cs_ref c1 q1 e1 g1 (by omega) (by decide)
  have c2 := r1.1
  refine ⟨by decide, by decide, ?_⟩
  intro a2 q2 T2 e2
  intro U2 g2
  have r2 := cs_ref c2 q2 e2 g2 (by omega) (by decide)
  have c3 := r2.1
  have hq' : ∀ S', CS S E (v0 :: E) S' v0 0 [(6, 16, 3), (5, 16, 16), (4, 2, 0)] (upd (fun _ => 0) 0 (-1)) → 42 ≤ rm_X0_init.cells ∧ 179 ≤ rm_X0_init.slots ∧ Q S' := fun S' c => ⟨by decide, by decide, hq S' (cs_end c (by omega) (by decide) (by decide) (fun z => absurd z (by omega)))⟩
  have k5 : fR U2 v0 5 = some a1 := (st_keep q2 e2 g2 (c2.2.2.1 v0 c2.2.2.2.1) (by decide : 5 ≠ 6) r1.2.2.2.2.2.2)
  have k6 : fR U2 v0 6 = some a2 := r2.2.2.2.2.2.2
  have x1 := r1.2.1
  have x2 := r2.2.1
  have d0 := cs_perm (L2 := a1 :: a2 :: v0 :: E) c3 (fun x => by simp only [List.mem_cons]; exact ⟨fun z => by rcases z with z | z | z | z <;> simp [z], fun z => by rcases z with z | z | z | z <;> simp [z]⟩)
  simp only [List.mem_cons, not_or] at x1 x2
  have n1 : a1 ∉ a2 :: v0 :: E := by simp only [List.mem_cons, not_or]; exact ⟨Ne.symm x2.1, x1.1, x1.2⟩
  have n2 : a2 ∉ v0 :: E := by simp only [List.mem_cons, not_or]; exact ⟨x2.2.1, x2.2.2⟩
  refine lp_X0_init_39 (a := a1) (Lm := a2 :: v0 :: E) (r := fR U2 v0) (by simp) (fun x hx => by simp [hx]) (fun S1 s1 t1 => ?_) 16 0 rfl U2 (fs_of d0 (by decide) k5 n1 r1.2.2.1) rfl 4 27 rfl rfl
  exact lp_X0_init_69 (a := a2) (Lm := v0 :: E) (r := fR U2 v0) (by simp) (fun x hx => by simp [hx]) (fun S3 s3 _ => hq' S3 s3) 3 0 rfl S1 (fs_of s1 (by decide) (by rw [t1]; exact k6) n2 r2.2.2.1) t1 36 155 rfl rfl
set_option maxRecDepth 20000 in
theorem m_X4_init {v0 : Nat} {E : List Nat} {Q : HS → Prop} {S : HS} (h : CN 4 v0 E S) (hq : ∀ T, CR 4 v0 E S T → Q T) : P_X4_init v0 Q S := by
  show P_X4_init_0 Q v0 S
  unfold P_X4_init_0
  have c0 := cs_0 h
  have ov := cn_ob h
  intro a0 q0 T0 e0
  refine ⟨gr_ob (gr_of_new e0 q0) ov, ?_⟩
  intro U0 g0
  have c1 := cs_arr c0 q0 e0 g0 (by omega) (by decide)
  intro a1 q1 T1 e1
  refine m_X8_init (cn_of c1.1 c1.2.1 c1.2.2.1 q1 e1 (by omega)) (fun W1 w1 _ => ?_)
  intro U1 g1
  have c2 := cs_obj c1 q1 e1 w1 g1 (by decide)
  intro a2 q2 T2 e2
  intro U2 g2
  have c3 := cs_arr c2 q2 e2 g2 (by omega) (by decide)
  intro a3 q3 T3 e3
  intro U3 g3
  have c4 := cs_arr c3 q3 e3 g3 (by omega) (by decide)
  exact hq _ (cs_end c4 (by omega) (by decide) (by decide) (fun z => absurd z (by omega)))
set_option maxRecDepth 20000 in
theorem m_X9_init {v0 : Nat} {E : List Nat} {Q : HS → Prop} {S : HS} (h : CN 9 v0 E S) (hq : ∀ T, CR 9 v0 E S T → (fI T v0 = fun _ => 0) → Q T) : P_X9_init v0 Q S := by
  show P_X9_init_0 Q v0 S
  unfold P_X9_init_0
  have c0 := cs_0 h
  have ov := cn_ob h
  intro a0 q0 T0 e0
  refine ⟨gr_ob (gr_of_new e0 q0) ov, ?_⟩
  intro U0 g0
  have c1 := cs_arr c0 q0 e0 g0 (by omega) (by decide)
  intro a1 q1 T1 e1
  refine m_X8_init (cn_of c1.1 c1.2.1 c1.2.2.1 q1 e1 (by omega)) (fun W1 w1 _ => ?_)
  intro U1 g1
  have c2 := cs_obj c1 q1 e1 w1 g1 (by decide)
  intro a2 q2 T2 e2
  refine m_X4_init (cn_of c2.1 c2.2.1 c2.2.2.1 q2 e2 (by omega)) (fun W2 w2 _ => ?_)
  intro U2 g2
  have c3 := cs_obj c2 q2 e2 w2 g2 (by decide)
  intro a3 q3 T3 e3
  refine m_X1_init (cn_of c3.1 c3.2.1 c3.2.2.1 q3 e3 (by omega)) (fun W3 w3 _ => ?_)
  intro U3 g3
  have c4 := cs_obj c3 q3 e3 w3 g3 (by decide)
  intro a4 q4 T4 e4
  refine m_X7_init (cn_of c4.1 c4.2.1 c4.2.2.1 q4 e4 (by omega)) (fun W4 w4 _ => ?_)
  intro U4 g4
  have c5 := cs_obj c4 q4 e4 w4 g4 (by decide)
  intro a5 q5 T5 e5
  refine m_X0_init (cn_of c5.1 c5.2.1 c5.2.2.1 q5 e5 (by omega)) (fun W5 w5 _ => ?_)
  intro U5 g5
  have c6 := cs_obj c5 q5 e5 w5 g5 (by decide)
  exact hq _ (cs_end c6 (by omega) (by decide) (by decide) (fun z => absurd z (by omega))) c6.2.2.2.2.2.2.2.2.2.2
/-- the first pool -/
def S00 : HS := ([], fun _ => 0, fun _ => 0, fun _ _ => 0, fun _ _ => 0, fun _ _ => none)
theorem iv_00 : IV S00 := ⟨fun _ _ _ o => absurd o.1 (by simp [S00, hL]), fun _ _ _ _ o => absurd o.1 (by simp [S00, hL]), fun _ o => absurd o.1 (by simp [S00, hL]), fun _ _ _ o => absurd o.1 (by simp [S00, hL]), fun _ _ _ _ _ _ _ o => absurd o.1 (by simp [S00, hL]), fun _ _ _ _ o => absurd o.1 (by simp [S00, hL]), fun _ o => absurd o.1 (by simp [S00, hL])⟩
theorem m_X9_new {v0 : Nat} {Q : HS → Prop} {S : HS} (E1 : S = nW S00 v0 9 0) (hq : ∀ T, IV T → ob T v0 9 → Gr S T → fI T v0 1 = 0 → Q T) : P_X9_init v0 Q S := by
  have hb : v0 ∉ hL S00 := by simp [S00, hL]
  refine m_X9_init (E := []) (cn_of (by rw [ms_nil]; exact iv_00) (fun a ha => absurd ha (by simp [S00, hL])) (fun x hx => absurd hx (by simp)) hb E1 (by omega)) (fun T r hf => ?_)
  have h1 := r.1
  rw [ms_nil] at h1
  have o := ob_of_new E1
  exact hq T h1 ⟨(r.2.2.1 v0 o.1).1, r.2.2.2⟩ (xp_gr r.2.2.1) (by rw [hf])
