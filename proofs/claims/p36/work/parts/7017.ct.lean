section
/-! legs: what both sides reckon, in machine words -/
/-- only rows of longs have changed -/
def wJ (S : HS) (f : Nat → Nat → Int64) : HS := (hL S, hK S, hN S, fI S, f, fR S)
def mx0 (x : Int32) : Int32 := if x < 0 then 0 else x
def mn2 (x y : Int32) : Int32 := if x < y then x else y
def lyT (rd : Nat → Int32) (v : Int32) : Int64 := (rd 3 - rd 4).toInt64 * ((2520 : Int32) / v).toInt64
def lyF (rn rd : Nat → Int32) (v : Int32) : Int64 := (rn 0).toInt64 * lyT rd v
def lyO (rn rd : Nat → Int32) (u : Int32) : Int32 := offOf (rn 2) (rd 2) u
def lyA (rn rd : Nat → Int32) (u : Int32) : Int32 := airOf (lyO rn rd u) (rn 3)
/-- for each unit of a face -/
def lyS (rn rd : Nat → Int32) (u v : Int32) : Nat → Int64
  | 0 => lyF rn rd v * (rn 1).toInt64
  | 1 => lyF rn rd v * (mx0 (v - lyA rn rd u)).toInt64
  | 2 => lyF rn rd v * (mx0 (lyA rn rd u - v)).toInt64
  | 3 => if lyO rn rd u = 1 then lyF rn rd v * (rn 3).toInt64 else 0
  | _ => if lyO rn rd u = 3 then lyF rn rd v * (rn 3).toInt64 else 0
def shO (wk : Nat → Int32) : Int32 := if wk 0 = 3 then wk 1 else 0
def fwJ (st : Nat → Int64) (wk : Nat → Int32) : Prop := ¬ lg_cmp (st 1 * (mn2 (wk 3) (shO wk)).toInt64) (st 0 * (mn2 (wk 2) (shO wk)).toInt64) ≤ 0
noncomputable def skJ (st : Nat → Int64) (wk : Nat → Int32) (x y : Int32) : Nat → Int64
  | 0 => st 0 * (mx0 (wk 2 - dc (fwJ st wk) 0 (shO wk))).toInt64
  | 1 => st 1 * (mx0 (wk 3 - dc (fwJ st wk) (shO wk) 0 - x)).toInt64
  | 2 => st 2 * (mx0 (wk 3 - y)).toInt64
  | 3 => st 3 * (wk 4).toInt64
  | _ => st 4 * (wk 4).toInt64
noncomputable def sumJ (f : Nat → Int64) : Int64 := f 0 + f 1 + f 2 + f 3 + f 4
theorem skJ_congr {st st' : Nat → Int64} {wk : Nat → Int32} {x y : Int32} (h : ∀ k, k < 5 → st k = st' k) (k : Nat) : skJ st wk x y k = skJ st' wk x y k := by
  have e : fwJ st wk = fwJ st' wk := by unfold fwJ; rw [h 0 (by decide), h 1 (by decide)]
  match k with
  | 0 => show st 0 * (mx0 (wk 2 - dc (fwJ st wk) 0 (shO wk))).toInt64 = st' 0 * (mx0 (wk 2 - dc (fwJ st' wk) 0 (shO wk))).toInt64; rw [e, h 0 (by decide)]
  | 1 => show st 1 * (mx0 (wk 3 - dc (fwJ st wk) (shO wk) 0 - x)).toInt64 = st' 1 * (mx0 (wk 3 - dc (fwJ st' wk) (shO wk) 0 - x)).toInt64; rw [e, h 1 (by decide)]
  | 2 => show st 2 * _ = st' 2 * _; rw [h 2 (by decide)]
  | 3 => show st 3 * _ = st' 3 * _; rw [h 3 (by decide)]
  | k + 4 => show st 4 * (wk 4).toInt64 = st' 4 * (wk 4).toInt64; rw [h 4 (by decide)]
theorem u5 (f : Nat → Nat → Int64) (b : Nat) (x0 x1 x2 x3 x4 : Int64) : ∃ g, g = u2 (u2 (u2 (u2 (u2 f b (0 : Int32).toNatClampNeg x0) b (1 : Int32).toNatClampNeg x1) b (2 : Int32).toNatClampNeg x2) b (3 : Int32).toNatClampNeg x3) b (4 : Int32).toNatClampNeg x4 ∧ g b 0 = x0 ∧ g b 1 = x1 ∧ g b 2 = x2 ∧ g b 3 = x3 ∧ g b 4 = x4 ∧ ∀ d, d ≠ b → g d = f d := by
  have j0 : (0 : Int32).toNatClampNeg = 0 := by decide
  have j1 : (1 : Int32).toNatClampNeg = 1 := by decide
  have j2 : (2 : Int32).toNatClampNeg = 2 := by decide
  have j3 : (3 : Int32).toNatClampNeg = 3 := by decide
  have j4 : (4 : Int32).toNatClampNeg = 4 := by decide
  rw [j0, j1, j2, j3, j4]
  refine ⟨_, rfl, ?_, ?_, ?_, ?_, u2_self _ _ _ _, fun d hd => ?_⟩
  · rw [u2_ne _ _ (by omega), u2_ne _ _ (by omega), u2_ne _ _ (by omega), u2_ne _ _ (by omega), u2_self]
  · rw [u2_ne _ _ (by omega), u2_ne _ _ (by omega), u2_ne _ _ (by omega), u2_self]
  · rw [u2_ne _ _ (by omega), u2_ne _ _ (by omega), u2_self]
  · rw [u2_ne _ _ (by omega), u2_self]
  · rw [u2_row _ _ hd, u2_row _ _ hd, u2_row _ _ hd, u2_row _ _ hd, u2_row _ _ hd]
section C26
variable {c m w v0 v1 v3 b0 b1 : Nat} {S T : HS} {v2 v4 x y : Int32} {Q : Int32 → HS → Prop} {QJ : Int64 → HS → Prop} {Q0 : HS → Prop}
theorem sp_X6_shield (h : P_X6_shield v0 Q S) : P_X6_shield v0 (fun x T => Q x T ∧ S = T ∧ x = shO (fI S v0)) S := by
  delta P_X6_shield P_X6_shield_0
  obtain ⟨o1, h⟩ := h
  refine ⟨o1, fun x1 e1 => ?_⟩
  have h := h x1 e1
  subst e1
  unfold shO
  exact ⟨fun c1 => ⟨h.1 c1, rfl, by rw [if_neg c1]⟩, fun c1 x3 e3 => ⟨h.2 c1 x3 e3, rfl, by rw [if_pos c1, e3]⟩⟩
theorem sp_X1_lay (hv : ¬ v4 ≤ 0) (e1 : fR S v0 1 = some b1) (h : P_X1_lay v0 v1 v2 v3 v4 Q0 S) : P_X1_lay v0 v1 v2 v3 v4 (fun T => Q0 T ∧ ∃ f, T = wJ S f ∧ (∀ d, d ≠ b1 → f d = fJ S d) ∧ ∀ k, k < 5 → f b1 k = lyS (fI S v3) (fI S v1) v2 v4 k) S := by
  delta P_X1_lay P_X1_lay_0
  refine ⟨fun c => absurd c hv, fun c => ?_⟩
  have h := h.2 c
  obtain ⟨o2, h⟩ := h
  refine ⟨o2, ?_⟩
  intro x2 ex2
  have h := h x2 ex2
  intro x3 ex3
  have h := h x3 ex3
  obtain ⟨n5, h⟩ := h
  refine ⟨n5, ?_⟩
  intro x5 ex5
  have h := h x5 ex5
  delta P_X1_lay_27
  obtain ⟨o6, h⟩ := h
  refine ⟨o6, ?_⟩
  intro x6 ex6
  have h := h x6 ex6
  intro x7 ex7
  have h := h x7 ex7
  have hF : x7 = lyF (fI S v3) (fI S v1) v4 := by rw [ex7, ex6, ex5, ex3, ex2]; rfl
  clear ex7 ex6 ex5 ex3 ex2
  obtain ⟨o8, h⟩ := h
  refine ⟨o8, ?_⟩
  refine cm_X5_turnOf (sp_X5_turnOf h) h (fun x9 S1 hp h g => ?_)
  have h := h g
  obtain ⟨-, hS, hO⟩ := hp
  subst hS
  have hO : x9 = lyO (fI S v3) (fI S v1) v2 := hO
  refine cm_X5_airAlong (sp_X5_airAlong h) h (fun x10 S1 hp h g => ?_)
  have h := h g
  obtain ⟨-, hS, hA⟩ := hp
  subst hS
  have hA : x10 = lyA (fI S v3) (fI S v1) v2 := hA
  obtain ⟨o11, h⟩ := h
  refine ⟨o11, ?_⟩
  obtain ⟨a12, e12, h⟩ := h
  refine ⟨a12, e12, ?_⟩
  cases e1.symm.trans e12
  intro x13 e13
  have h := h x13 e13
  obtain ⟨o14, h⟩ := h
  refine ⟨o14, ?_⟩
  intro x15 e15
  have h := h x15 e15
  obtain ⟨o16, h⟩ := h
  refine ⟨o16, ?_⟩
  intro S2 e17
  have h := h S2 e17
  subst e17
  obtain ⟨a18, e18, h⟩ := h
  refine ⟨a18, e18, ?_⟩
  cases e1.symm.trans e18
  intro x19 e19
  have h := h x19 e19
  obtain ⟨o20, h⟩ := h
  refine ⟨o20, ?_⟩
  intro x21 e21
  have h := h x21 e21
  obtain ⟨o22, h⟩ := h
  refine ⟨o22, ?_⟩
  intro S3 e23
  have h := h S3 e23
  subst e23
  obtain ⟨a24, e24, h⟩ := h
  refine ⟨a24, e24, ?_⟩
  cases e1.symm.trans e24
  intro x25 e25
  have h := h x25 e25
  obtain ⟨o26, h⟩ := h
  refine ⟨o26, ?_⟩
  intro x27 e27
  have h := h x27 e27
  obtain ⟨o28, h⟩ := h
  refine ⟨o28, ?_⟩
  intro S4 e29
  have h := h S4 e29
  subst e29
  obtain ⟨a30, e30, h⟩ := h
  refine ⟨a30, e30, ?_⟩
  cases e1.symm.trans e30
  have k0 : x15 = lyS (fI S v3) (fI S v1) v2 v4 0 := by rw [e15, e13, hF]; rfl
  have k1 : x21 = lyS (fI S v3) (fI S v1) v2 v4 1 := by rw [e21, e19, hF, hA]; rfl
  have k2 : x27 = lyS (fI S v3) (fI S v1) v2 v4 2 := by rw [e27, e25, hF, hA]; rfl
  clear e15 e13 e21 e19 e27 e25
  have tl : ∀ s2 : Int64, s2 = lyS (fI S v3) (fI S v1) v2 v4 3 → P_X1_lay_130 Q0 v0 v3 x7 x9 b1 3 s2 (sJ (sJ (sJ S b1 (0 : Int32).toNatClampNeg x15) b1 (1 : Int32).toNatClampNeg x21) b1 (2 : Int32).toNatClampNeg x27) → P_X1_lay_130 (fun T => Q0 T ∧ ∃ f, T = wJ S f ∧ (∀ d, d ≠ b1 → f d = fJ S d) ∧ ∀ k, k < 5 → f b1 k = lyS (fI S v3) (fI S v1) v2 v4 k) v0 v3 x7 x9 b1 3 s2 (sJ (sJ (sJ S b1 (0 : Int32).toNatClampNeg x15) b1 (1 : Int32).toNatClampNeg x21) b1 (2 : Int32).toNatClampNeg x27) := by
    intro s2 k3 h
    delta P_X1_lay_130
    have fin : ∀ s4 : Int64, s4 = lyS (fI S v3) (fI S v1) v2 v4 4 → ∃ f, sJ (sJ (sJ (sJ (sJ S b1 (0 : Int32).toNatClampNeg x15) b1 (1 : Int32).toNatClampNeg x21) b1 (2 : Int32).toNatClampNeg x27) b1 (3 : Int32).toNatClampNeg s2) b1 (4 : Int32).toNatClampNeg s4 = wJ S f ∧ (∀ d, d ≠ b1 → f d = fJ S d) ∧ ∀ k, k < 5 → f b1 k = lyS (fI S v3) (fI S v1) v2 v4 k := by
      intro s4 k4
      obtain ⟨gf, eg, g0, g1, g2, g3, g4, g5⟩ := u5 (fJ S) b1 x15 x21 x27 s2 s4
      refine ⟨gf, by rw [eg]; rfl, g5, fun k hk => ?_⟩
      match k, hk with
      | 0, _ => rw [g0, k0]
      | 1, _ => rw [g1, k1]
      | 2, _ => rw [g2, k2]
      | 3, _ => rw [g3, k3]
      | 4, _ => rw [g4, k4]
      | k + 5, hk => exact absurd hk (by omega)
    obtain ⟨p1, h⟩ := h
    refine ⟨p1, ?_⟩
    obtain ⟨p2, h⟩ := h
    refine ⟨p2, ?_⟩
    intro S5 e5
    have h := h S5 e5
    subst e5
    obtain ⟨p3, h⟩ := h
    refine ⟨p3, ?_⟩
    obtain ⟨a31, e31, h⟩ := h
    refine ⟨a31, e31, ?_⟩
    cases e1.symm.trans e31
    refine ⟨fun c3 => ?_, fun c3 => ?_⟩
    · have h := h.1 c3
      obtain ⟨p4, h⟩ := h
      refine ⟨p4, ?_⟩
      obtain ⟨p5, h⟩ := h
      refine ⟨p5, ?_⟩
      intro S6 e6
      have h := h S6 e6
      subst e6
      refine ⟨h, fin 0 ?_⟩
      rw [hO] at c3
      exact (if_neg c3).symm
    · have h := h.2 c3
      obtain ⟨p4, h⟩ := h
      refine ⟨p4, ?_⟩
      intro x32 e32
      have h := h x32 e32
      obtain ⟨p5, h⟩ := h
      refine ⟨p5, ?_⟩
      intro x33 e33
      have h := h x33 e33
      obtain ⟨p6, h⟩ := h
      refine ⟨p6, ?_⟩
      intro S6 e6
      have h := h S6 e6
      subst e6
      refine ⟨h, fin x33 ?_⟩
      rw [hO] at c3
      rw [e33, e32, hF]
      exact (if_pos c3).symm
  refine ⟨fun c2 => ?_, fun c2 => ?_⟩
  · have h := h.1 c2
    refine tl 0 ?_ h
    rw [hO] at c2
    exact (if_neg c2).symm
  · have h := h.2 c2
    intro x34 e34
    have h := h x34 e34
    refine tl _ ?_ h
    rw [hO] at c2
    rw [e34, hF]
    exact (if_pos c2).symm
theorem sp_X1_isForward (e1 : fR S v0 1 = some b1) (h : P_X1_isForward v0 v1 Q S) : P_X1_isForward v0 v1 (fun x T => Q x T ∧ S = T ∧ ans (fwJ (fJ S b1) (fI S v1)) x) S := by
  delta P_X1_isForward P_X1_isForward_0
  obtain ⟨o1, h⟩ := h
  refine ⟨o1, ?_⟩
  obtain ⟨a2, e2, h⟩ := h
  refine ⟨a2, e2, ?_⟩
  cases e1.symm.trans e2
  obtain ⟨o3, h⟩ := h
  refine ⟨o3, ?_⟩
  obtain ⟨o4, h⟩ := h
  refine ⟨o4, ?_⟩
  intro x5 ex5
  have h := h x5 ex5
  obtain ⟨o6, h⟩ := h
  refine ⟨o6, ?_⟩
  refine cm_X6_shield (sp_X6_shield h) h (fun x7 S1 hp h g => ?_)
  have h := h g
  obtain ⟨-, hS, h7⟩ := hp
  subst hS
  intro x8 ex8
  have h := h x8 ex8
  intro x9 ex9
  have h := h x9 ex9
  intro x10 ex10
  have h := h x10 ex10
  obtain ⟨a11, e11, h⟩ := h
  refine ⟨a11, e11, ?_⟩
  cases e1.symm.trans e11
  obtain ⟨o12, h⟩ := h
  refine ⟨o12, ?_⟩
  obtain ⟨o13, h⟩ := h
  refine ⟨o13, ?_⟩
  intro x14 ex14
  have h := h x14 ex14
  refine cm_X6_shield (sp_X6_shield h) h (fun x15 S1 hp h g => ?_)
  have h := h g
  obtain ⟨-, hS, h15⟩ := hp
  subst hS
  intro x16 ex16
  have h := h x16 ex16
  intro x17 ex17
  have h := h x17 ex17
  intro x18 ex18
  have h := h x18 ex18
  have k1 : x18 = fJ S b1 1 * (mn2 (fI S v1 3) (shO (fI S v1))).toInt64 := by rw [ex18, ex17, ex16, ex14, h15]; rfl
  have k0 : x10 = fJ S b1 0 * (mn2 (fI S v1 2) (shO (fI S v1))).toInt64 := by rw [ex10, ex9, ex8, ex5, h7]; rfl
  rw [k1, k0] at h
  rw [k1, k0]
  exact ⟨fun c1 => ⟨h.1 c1, rfl, Or.inr ⟨fun z => z c1, rfl⟩⟩, fun c1 => ⟨h.2 c1, rfl, Or.inl ⟨c1, rfl⟩⟩⟩
end C26
/-! legs: the class's faces -/
section C27
variable {c m w v0 v1 v2 v4 b0 b1 : Nat} {S T : HS} {u v x y : Int32} {Q : Int32 → HS → Prop} {QJ : Int64 → HS → Prop} {Q0 : HS → Prop}
theorem sp_X1_soak35 {r s : Int32} (e0 : fR S v0 0 = some b0) (e1 : fR S v0 1 = some b1) (ne : b1 ≠ b0) (hr : r = dc (fwJ (fJ S b1) (fI S v1)) 0 (shO (fI S v1))) (hs : s = dc (fwJ (fJ S b1) (fI S v1)) (shO (fI S v1)) 0) (h : P_X1_soak_35 QJ v0 v1 x y r s S) : P_X1_soak_35 (fun z T => QJ z T ∧ ∃ f, T = wJ S f ∧ (∀ d, d ≠ b0 → f d = fJ S d) ∧ (∀ k, k < 5 → f b0 k = skJ (fJ S b1) (fI S v1) x y k) ∧ z = sumJ (skJ (fJ S b1) (fI S v1) x y)) v0 v1 x y r s S := by
  delta P_X1_soak_35
  obtain ⟨op, h⟩ := h
  refine ⟨op, ?_⟩
  obtain ⟨af0, ef0, h⟩ := h
  refine ⟨af0, ef0, ?_⟩
  cases e0.symm.trans ef0
  obtain ⟨as0, es0, h⟩ := h
  refine ⟨as0, es0, ?_⟩
  cases e1.symm.trans es0
  obtain ⟨oa0, h⟩ := h
  refine ⟨oa0, ?_⟩
  obtain ⟨ob0, h⟩ := h
  refine ⟨ob0, ?_⟩
  intro xs0 qs0
  have h := h xs0 qs0
  obtain ⟨ow, h⟩ := h
  refine ⟨ow, ?_⟩
  intro xw0 qw0
  have h := h xw0 qw0
  intro xm0 qm0
  have h := h xm0 qm0
  obtain ⟨oc0, h⟩ := h
  refine ⟨oc0, ?_⟩
  intro xv0 qv0
  have h := h xv0 qv0
  obtain ⟨od0, h⟩ := h
  refine ⟨od0, ?_⟩
  have t0 : xs0 = fJ S b1 0 := by
    rw [qs0]
    rfl
  have k0 : xv0 = skJ (fJ S b1) (fI S v1) x y 0 := by
    rw [qv0, qm0, t0, qw0, hr]
    rfl
  intro S0 q0
  have h := h S0 q0
  subst q0
  obtain ⟨af1, ef1, h⟩ := h
  refine ⟨af1, ef1, ?_⟩
  cases e0.symm.trans ef1
  obtain ⟨as1, es1, h⟩ := h
  refine ⟨as1, es1, ?_⟩
  cases e1.symm.trans es1
  obtain ⟨oa1, h⟩ := h
  refine ⟨oa1, ?_⟩
  obtain ⟨ob1, h⟩ := h
  refine ⟨ob1, ?_⟩
  intro xs1 qs1
  have h := h xs1 qs1
  intro xw1 qw1
  have h := h xw1 qw1
  intro xm1 qm1
  have h := h xm1 qm1
  obtain ⟨oc1, h⟩ := h
  refine ⟨oc1, ?_⟩
  intro xv1 qv1
  have h := h xv1 qv1
  obtain ⟨od1, h⟩ := h
  refine ⟨od1, ?_⟩
  have t1 : xs1 = fJ S b1 1 := by
    rw [qs1]
    show (u2 (fJ S) b0 (0 : Int32).toNatClampNeg xv0) b1 (1 : Int32).toNatClampNeg = _
    rw [u2_row _ _ ne]
    rfl
  have k1 : xv1 = skJ (fJ S b1) (fI S v1) x y 1 := by
    rw [qv1, qm1, t1, qw1, hs]
    rfl
  intro S1 q1
  have h := h S1 q1
  subst q1
  obtain ⟨af2, ef2, h⟩ := h
  refine ⟨af2, ef2, ?_⟩
  cases e0.symm.trans ef2
  obtain ⟨as2, es2, h⟩ := h
  refine ⟨as2, es2, ?_⟩
  cases e1.symm.trans es2
  obtain ⟨oa2, h⟩ := h
  refine ⟨oa2, ?_⟩
  obtain ⟨ob2, h⟩ := h
  refine ⟨ob2, ?_⟩
  intro xs2 qs2
  have h := h xs2 qs2
  intro xw2 qw2
  have h := h xw2 qw2
  intro xm2 qm2
  have h := h xm2 qm2
  obtain ⟨oc2, h⟩ := h
  refine ⟨oc2, ?_⟩
  intro xv2 qv2
  have h := h xv2 qv2
  obtain ⟨od2, h⟩ := h
  refine ⟨od2, ?_⟩
  have t2 : xs2 = fJ S b1 2 := by
    rw [qs2]
    show (u2 (u2 (fJ S) b0 (0 : Int32).toNatClampNeg xv0) b0 (1 : Int32).toNatClampNeg xv1) b1 (2 : Int32).toNatClampNeg = _
    rw [u2_row _ _ ne, u2_row _ _ ne]
    rfl
  have k2 : xv2 = skJ (fJ S b1) (fI S v1) x y 2 := by
    rw [qv2, qm2, t2, qw2]
    rfl
  intro S2 q2
  have h := h S2 q2
  subst q2
  obtain ⟨af3, ef3, h⟩ := h
  refine ⟨af3, ef3, ?_⟩
  cases e0.symm.trans ef3
  obtain ⟨as3, es3, h⟩ := h
  refine ⟨as3, es3, ?_⟩
  cases e1.symm.trans es3
  obtain ⟨oa3, h⟩ := h
  refine ⟨oa3, ?_⟩
  obtain ⟨ob3, h⟩ := h
  refine ⟨ob3, ?_⟩
  intro xs3 qs3
  have h := h xs3 qs3
  intro xw3 qw3
  have h := h xw3 qw3
  obtain ⟨oc3, h⟩ := h
  refine ⟨oc3, ?_⟩
  intro xv3 qv3
  have h := h xv3 qv3
  obtain ⟨od3, h⟩ := h
  refine ⟨od3, ?_⟩
  have t3 : xs3 = fJ S b1 3 := by
    rw [qs3]
    show (u2 (u2 (u2 (fJ S) b0 (0 : Int32).toNatClampNeg xv0) b0 (1 : Int32).toNatClampNeg xv1) b0 (2 : Int32).toNatClampNeg xv2) b1 (3 : Int32).toNatClampNeg = _
    rw [u2_row _ _ ne, u2_row _ _ ne, u2_row _ _ ne]
    rfl
  have k3 : xv3 = skJ (fJ S b1) (fI S v1) x y 3 := by
    rw [qv3, t3, qw3]
    rfl
  intro S3 q3
  have h := h S3 q3
  subst q3
  obtain ⟨af4, ef4, h⟩ := h
  refine ⟨af4, ef4, ?_⟩
  cases e0.symm.trans ef4
  obtain ⟨as4, es4, h⟩ := h
  refine ⟨as4, es4, ?_⟩
  cases e1.symm.trans es4
  obtain ⟨oa4, h⟩ := h
  refine ⟨oa4, ?_⟩
  obtain ⟨ob4, h⟩ := h
  refine ⟨ob4, ?_⟩
  intro xs4 qs4
  have h := h xs4 qs4
  intro xw4 qw4
  have h := h xw4 qw4
  obtain ⟨oc4, h⟩ := h
  refine ⟨oc4, ?_⟩
  intro xv4 qv4
  have h := h xv4 qv4
  obtain ⟨od4, h⟩ := h
  refine ⟨od4, ?_⟩
  have t4 : xs4 = fJ S b1 4 := by
    rw [qs4]
    show (u2 (u2 (u2 (u2 (fJ S) b0 (0 : Int32).toNatClampNeg xv0) b0 (1 : Int32).toNatClampNeg xv1) b0 (2 : Int32).toNatClampNeg xv2) b0 (3 : Int32).toNatClampNeg xv3) b1 (4 : Int32).toNatClampNeg = _
    rw [u2_row _ _ ne, u2_row _ _ ne, u2_row _ _ ne, u2_row _ _ ne]
    rfl
  have k4 : xv4 = skJ (fJ S b1) (fI S v1) x y 4 := by
    rw [qv4, t4, qw4]
    rfl
  intro S4 q4
  have h := h S4 q4
  subst q4
  obtain ⟨gf, eg, g0, g1, g2, g3, g4, g5⟩ := u5 (fJ S) b0 xv0 xv1 xv2 xv3 xv4
  have eT : sJ (sJ (sJ (sJ (sJ S b0 (0 : Int32).toNatClampNeg xv0) b0 (1 : Int32).toNatClampNeg xv1) b0 (2 : Int32).toNatClampNeg xv2) b0 (3 : Int32).toNatClampNeg xv3) b0 (4 : Int32).toNatClampNeg xv4 = wJ S gf := by rw [eg]; rfl
  rw [eT] at h
  rw [eT]
  obtain ⟨az0, ez0, h⟩ := h
  refine ⟨az0, ez0, ?_⟩
  cases e0.symm.trans ez0
  obtain ⟨oy0, h⟩ := h
  refine ⟨oy0, ?_⟩
  obtain ⟨oz0, h⟩ := h
  refine ⟨oz0, ?_⟩
  intro xr0 qr0
  have h := h xr0 qr0
  obtain ⟨az1, ez1, h⟩ := h
  refine ⟨az1, ez1, ?_⟩
  cases e0.symm.trans ez1
  obtain ⟨oy1, h⟩ := h
  refine ⟨oy1, ?_⟩
  obtain ⟨oz1, h⟩ := h
  refine ⟨oz1, ?_⟩
  intro xr1 qr1
  have h := h xr1 qr1
  obtain ⟨az2, ez2, h⟩ := h
  refine ⟨az2, ez2, ?_⟩
  cases e0.symm.trans ez2
  obtain ⟨oy2, h⟩ := h
  refine ⟨oy2, ?_⟩
  obtain ⟨oz2, h⟩ := h
  refine ⟨oz2, ?_⟩
  intro xr2 qr2
  have h := h xr2 qr2
  obtain ⟨az3, ez3, h⟩ := h
  refine ⟨az3, ez3, ?_⟩
  cases e0.symm.trans ez3
  obtain ⟨oy3, h⟩ := h
  refine ⟨oy3, ?_⟩
  obtain ⟨oz3, h⟩ := h
  refine ⟨oz3, ?_⟩
  intro xr3 qr3
  have h := h xr3 qr3
  obtain ⟨az4, ez4, h⟩ := h
  refine ⟨az4, ez4, ?_⟩
  cases e0.symm.trans ez4
  obtain ⟨oy4, h⟩ := h
  refine ⟨oy4, ?_⟩
  obtain ⟨oz4, h⟩ := h
  refine ⟨oz4, ?_⟩
  intro xr4 qr4
  have h := h xr4 qr4
  refine ⟨h, gf, rfl, g5, fun k hk => ?_, ?_⟩
  · match k, hk with
    | 0, _ => rw [g0, k0]
    | 1, _ => rw [g1, k1]
    | 2, _ => rw [g2, k2]
    | 3, _ => rw [g3, k3]
    | 4, _ => rw [g4, k4]
    | k + 5, hk => exact absurd hk (by omega)
  · have r0 : xr0 = xv0 := qr0.trans g0
    have r1 : xr1 = xv1 := qr1.trans g1
    have r2 : xr2 = xv2 := qr2.trans g2
    have r3 : xr3 = xv3 := qr3.trans g3
    have r4 : xr4 = xv4 := qr4.trans g4
    rw [r0, r1, r2, r3, r4, k0, k1, k2, k3, k4]
    rfl
theorem sp_X1_soak (e0 : fR S v0 0 = some b0) (e1 : fR S v0 1 = some b1) (ne : b1 ≠ b0) (h : P_X1_soak v0 v1 x y QJ S) : P_X1_soak v0 v1 x y (fun z T => QJ z T ∧ ∃ f, T = wJ S f ∧ (∀ d, d ≠ b0 → f d = fJ S d) ∧ (∀ k, k < 5 → f b0 k = skJ (fJ S b1) (fI S v1) x y k) ∧ z = sumJ (skJ (fJ S b1) (fI S v1) x y)) S := by
  delta P_X1_soak P_X1_soak_0
  obtain ⟨o1, h⟩ := h
  refine ⟨o1, ?_⟩
  refine cm_X1_isForward (sp_X1_isForward e1 h) h (fun x1 S1 hp h g b => ?_)
  have h := h g b
  obtain ⟨-, hS, ha⟩ := hp
  subst hS
  refine ⟨fun c1 => ?_, fun c1 => ?_⟩
  · have h := h.1 c1
    have hn := an0 ha c1
    obtain ⟨o2, h⟩ := h
    refine ⟨o2, ?_⟩
    refine cm_X6_shield (sp_X6_shield h) h (fun x2 S1 hp h g => ?_)
    have h := h g
    obtain ⟨-, hS, h2⟩ := hp
    subst hS
    delta P_X1_soak_20
    refine ⟨fun c2 => ?_, fun c2 => absurd c1 c2⟩
    exact sp_X1_soak35 e0 e1 ne (by rw [dc_n hn, h2]) (by rw [dc_n hn]) (h.1 c2)
  · have h := h.2 c1
    have hn := an1 ha c1
    delta P_X1_soak_20
    refine ⟨fun c2 => absurd c2 c1, fun c2 => ?_⟩
    have h := h.2 c2
    obtain ⟨o2, h⟩ := h
    refine ⟨o2, ?_⟩
    refine cm_X6_shield (sp_X6_shield h) h (fun x2 S1 hp h g => ?_)
    have h := h g
    obtain ⟨-, hS, h2⟩ := hp
    subst hS
    exact sp_X1_soak35 e0 e1 ne (by rw [dc_y hn]) (by rw [dc_y hn, h2]) h
noncomputable def wtJ (wk rd rn : Nat → Int32) (u v x y : Int32) : Nat → Int64 := skJ (lyS rn rd u v) wk x y
theorem sp_X1_wetOf (hv : ¬ v ≤ 0) (e0 : fR S v0 0 = some b0) (e1 : fR S v0 1 = some b1) (ne : b1 ≠ b0) (h : P_X1_wetOf v0 v1 v2 u v4 v QJ S) : P_X1_wetOf v0 v1 v2 u v4 v (fun z T => QJ z T ∧ ∃ f, T = wJ S f ∧ (∀ d, d ≠ b0 → d ≠ b1 → f d = fJ S d) ∧ (∀ k, k < 5 → f b0 k = wtJ (fI S v1) (fI S v2) (fI S v4) u v 0 0 k) ∧ z = sumJ (wtJ (fI S v1) (fI S v2) (fI S v4) u v 0 0)) S := by
  delta P_X1_wetOf P_X1_wetOf_0
  obtain ⟨o1, h⟩ := h
  refine ⟨o1, ?_⟩
  refine cm_X1_lay (sp_X1_lay hv e1 h) h (fun S1 hp h g => ?_)
  have h := h g
  obtain ⟨-, f1, hS, fo, fk⟩ := hp
  subst hS
  refine cm_X1_soak (sp_X1_soak (S := wJ S f1) e0 e1 ne h) h (fun z S1 hp h g => ⟨h g, ?_⟩)
  obtain ⟨-, f2, hS, go, gk, gz⟩ := hp
  have cg : ∀ k, skJ (fJ (wJ S f1) b1) (fI (wJ S f1) v1) 0 0 k = wtJ (fI S v1) (fI S v2) (fI S v4) u v 0 0 k := fun k => skJ_congr fk k
  refine ⟨f2, hS, fun d d0 d1 => (go d d0).trans (fo d d1), fun k hk => (gk k hk).trans (cg k), ?_⟩
  rw [gz]
  unfold sumJ
  rw [cg 0, cg 1, cg 2, cg 3, cg 4]
end C27
/-! legs: the reference's faces, in machine words -/
def mRn (S : HS) (rd h j : Nat) : Int32 := fI S ((fR S rd (7 + j)).getD 0) h
def mRd (S : HS) (rd h j : Nat) : Int32 := fI S ((fR S rd (13 + j)).getD 0) h
def mWk (S : HS) (rd h j : Nat) : Int32 := fI S ((fR S rd (19 + j)).getD 0) h
def mm2 (x y : Int32) : Int32 := if x ≤ y then x else y
def ls2 (x y : Int32) : Int32 := if x ≤ y then 0 else x - y
def acO (o w : Int32) : Int32 := if o = 1 then w else if o = 3 then -w else 0
def lyC (rn rd : Nat → Int32) (u : Int32) : Int32 := acO (lyO rn rd u) (rn 3)
def fwM (rn rd wk : Nat → Int32) (u v : Int32) : Prop := ¬ rd 3 ≤ rd 4 ∧ ¬ v - lyA rn rd u ≤ 0 ∧ ¬ rn 0 * (v - lyA rn rd u) * mm2 (wk 3) (shO wk) ≤ rn 0 * rn 1 * mm2 (wk 2) (shO wk)
noncomputable def itM (rn rd wk : Nat → Int32) (u v x y : Int32) : Nat → Int32
  | 0 => rn 0 * rn 1 * ls2 (wk 2) (dc (fwM rn rd wk u v) 0 (shO wk))
  | 1 => if v - lyA rn rd u ≤ 0 then 0 else rn 0 * (v - lyA rn rd u) * ls2 (ls2 (wk 3) (dc (fwM rn rd wk u v) (shO wk) 0)) x
  | 2 => if 0 ≤ v - lyA rn rd u then 0 else rn 0 * (-(v - lyA rn rd u)) * ls2 (wk 3) y
  | 3 => if lyC rn rd u ≤ 0 then 0 else rn 0 * lyC rn rd u * wk 4
  | _ => if 0 ≤ lyC rn rd u then 0 else rn 0 * (-lyC rn rd u) * wk 4
noncomputable def ptM (rn rd wk : Nat → Int32) (u v : Int32) (k : Nat) : Int64 := (itM rn rd wk u v 0 0 k).toInt64 * (rd 3 - rd 4).toInt64 * ((2520 : Int32) / v).toInt64
section C28
variable {m rd : Nat} {S T : HS} {v1 v2 v3 v4 v5 v6 v7 v8 : Int32} {Q : Int32 → HS → Prop} {QJ : Int64 → HS → Prop}
theorem mrn {j a h : Nat} (e : fR S rd (7 + j) = some a) : fI S a h = mRn S rd h j := by
  unfold mRn
  rw [e]
  rfl
theorem mrd {j a h : Nat} (e : fR S rd (13 + j) = some a) : fI S a h = mRd S rd h j := by
  unfold mRd
  rw [e]
  rfl
theorem mwk {j a h : Nat} (e : fR S rd (19 + j) = some a) : fI S a h = mWk S rd h j := by
  unfold mWk
  rw [e]
  rfl
theorem sp_X10_shield (h : P_X10_shield rd v1 Q S) : P_X10_shield rd v1 (fun x T => Q x T ∧ S = T ∧ x = shO (mWk S rd v1.toNatClampNeg)) S := by
  delta P_X10_shield P_X10_shield_0
  obtain ⟨o1, h⟩ := h
  refine ⟨o1, ?_⟩
  obtain ⟨a2, e2, h⟩ := h
  refine ⟨a2, e2, ?_⟩
  obtain ⟨o3, h⟩ := h
  refine ⟨o3, ?_⟩
  obtain ⟨o4, h⟩ := h
  refine ⟨o4, ?_⟩
  intro x5 e5
  have h := h x5 e5
  have e5 := e5.trans (mwk (j := 0) e2)
  refine ⟨fun c1 => ⟨h.1 c1, rfl, ?_⟩, fun c1 => ?_⟩
  · unfold shO
    rw [if_neg (by rw [← e5]; exact c1)]
  · have h := h.2 c1
    obtain ⟨a6, e6, h⟩ := h
    refine ⟨a6, e6, ?_⟩
    obtain ⟨o7, h⟩ := h
    refine ⟨o7, ?_⟩
    obtain ⟨o8, h⟩ := h
    refine ⟨o8, fun x9 e9 => ⟨h x9 e9, rfl, ?_⟩⟩
    unfold shO
    rw [if_pos (by rw [← e5]; exact c1), e9]
    exact mwk (j := 1) e6
theorem sp_X10_air2 (he : ∀ i, 7 ≤ i → i ≤ 27 → ∃ b, fR S rd i = some b) (h : P_X10_air rd v2 v3 v4 Q S) : P_X10_air rd v2 v3 v4 (fun x T => Q x T ∧ S = T ∧ x = lyA (mRn S rd v4.toNatClampNeg) (mRd S rd v2.toNatClampNeg) v3) S := by
  obtain ⟨a, e15⟩ := he 15 (by decide) (by decide)
  obtain ⟨b, e9⟩ := he 9 (by decide) (by decide)
  obtain ⟨d, e10⟩ := he 10 (by decide) (by decide)
  refine cm_X10_air (sp_X10_air e15 e9 e10 h) h (fun x T hp h => ⟨h, hp.2.1, ?_⟩)
  rw [hp.2.2]
  unfold lyA lyO
  rw [← mrn (j := 2) e9, ← mrn (j := 3) e10, ← mrd (j := 2) e15]
theorem sp_X10_across (he : ∀ i, 7 ≤ i → i ≤ 27 → ∃ b, fR S rd i = some b) (h : P_X10_across rd v2 v3 v4 Q S) : P_X10_across rd v2 v3 v4 (fun x T => Q x T ∧ S = T ∧ x = lyC (mRn S rd v4.toNatClampNeg) (mRd S rd v2.toNatClampNeg) v3) S := by
  obtain ⟨a, e15⟩ := he 15 (by decide) (by decide)
  delta P_X10_across P_X10_across_0
  obtain ⟨o1, h⟩ := h
  refine ⟨o1, ?_⟩
  obtain ⟨a2, e2, h⟩ := h
  refine ⟨a2, e2, ?_⟩
  obtain ⟨o2, h⟩ := h
  refine ⟨o2, ?_⟩
  obtain ⟨o3, h⟩ := h
  refine ⟨o3, fun x3 e3 => ?_⟩
  have h := h x3 e3
  refine cm_X10_facing (sp_X10_facing e15 h) h (fun x6 S4 hp h g => ?_)
  have h := h g
  obtain ⟨-, hS, hx⟩ := hp
  subst hS
  intro x7 e7
  have h := h x7 e7
  have eo : x7 = lyO (mRn S rd v4.toNatClampNeg) (mRd S rd v2.toNatClampNeg) v3 := by
    unfold lyO offOf
    rw [e7, hx, e3, ← mrn (j := 2) e2, ← mrd (j := 2) e15]
    by_cases c1 : v3 = 0
    · rw [if_pos c1, if_pos c1]
    · rw [if_neg c1, if_neg c1]
      exact off_eq _ _
  unfold lyC acO
  rw [← eo]
  refine ⟨fun c1 => ⟨fun c2 => ⟨(h.1 c1).1 c2, rfl, by rw [if_neg c1, if_neg c2]⟩, fun c2 => ?_⟩, fun c1 => ?_⟩
  · have h := (h.1 c1).2 c2
    obtain ⟨a5, e5, h⟩ := h
    refine ⟨a5, e5, ?_⟩
    obtain ⟨o5, h⟩ := h
    refine ⟨o5, ?_⟩
    obtain ⟨o6, h⟩ := h
    exact ⟨o6, fun y ey => ⟨h y ey, rfl, by rw [if_neg c1, if_pos c2, ey, ← mrn (j := 3) e5]⟩⟩
  · have h := h.2 c1
    obtain ⟨a5, e5, h⟩ := h
    refine ⟨a5, e5, ?_⟩
    obtain ⟨o5, h⟩ := h
    refine ⟨o5, ?_⟩
    obtain ⟨o6, h⟩ := h
    exact ⟨o6, fun y ey => ⟨h y ey, rfl, by rw [if_pos c1, ey, ← mrn (j := 3) e5]⟩⟩
theorem sp_X11_less (h : P_X11_less v1 v2 Q S) : P_X11_less v1 v2 (fun x T => Q x T ∧ S = T ∧ x = ls2 v1 v2) S := by
  delta P_X11_less P_X11_less_0
  unfold ls2
  exact ⟨fun c => ⟨h.1 c, rfl, by rw [if_pos c]⟩, fun c => ⟨h.2 c, rfl, by rw [if_neg c]⟩⟩
theorem sp_X11_isForward (he : ∀ i, 7 ≤ i → i ≤ 27 → ∃ b, fR S rd i = some b) (e3 : fR S m 3 = some rd) (h : P_X11_isForward m v1 v2 v3 v4 v5 Q S) : P_X11_isForward m v1 v2 v3 v4 v5 (fun x T => Q x T ∧ S = T ∧ ans (fwM (mRn S rd v4.toNatClampNeg) (mRd S rd v2.toNatClampNeg) (mWk S rd v1.toNatClampNeg) v3 v5) x) S := by
  have f112 : ∀ y z s : Int32, y = v5 - lyA (mRn S rd v4.toNatClampNeg) (mRd S rd v2.toNatClampNeg) v3 → z = mm2 ((mWk S rd v1.toNatClampNeg) 3) (shO (mWk S rd v1.toNatClampNeg)) → ∀ w, w = mm2 ((mWk S rd v1.toNatClampNeg) 2) (shO (mWk S rd v1.toNatClampNeg)) → ans (¬ (mRd S rd v2.toNatClampNeg) 3 ≤ (mRd S rd v2.toNatClampNeg) 4) s → P_X11_isForward_112 Q m v4 y z w s S → P_X11_isForward_112 (fun x T => Q x T ∧ S = T ∧ ans (fwM (mRn S rd v4.toNatClampNeg) (mRd S rd v2.toNatClampNeg) (mWk S rd v1.toNatClampNeg) v3 v5) x) m v4 y z w s S := by
    intro y z s hy hz w hw hs h
    delta P_X11_isForward_112
    refine ⟨fun c1 => ⟨h.1 c1, rfl, Or.inr ⟨fun q => an0 hs c1 q.1, rfl⟩⟩, fun c1 => ?_⟩
    have h := h.2 c1
    have ho := an1 hs c1
    refine ⟨fun c2 => ⟨h.1 c2, rfl, Or.inr ⟨fun q => q.2.1 (by rw [← hy]; exact c2), rfl⟩⟩, fun c2 => ?_⟩
    have h := h.2 c2
    obtain ⟨o1, h⟩ := h
    refine ⟨o1, ?_⟩
    obtain ⟨a2, e2, h⟩ := h
    refine ⟨a2, e2, ?_⟩
    cases e3.symm.trans e2
    obtain ⟨o3, h⟩ := h
    refine ⟨o3, ?_⟩
    obtain ⟨a4, e4, h⟩ := h
    refine ⟨a4, e4, ?_⟩
    obtain ⟨o5, h⟩ := h
    refine ⟨o5, ?_⟩
    obtain ⟨o6, h⟩ := h
    refine ⟨o6, ?_⟩
    intro x7 q7
    have h := h x7 q7
    replace q7 := q7.trans (mrn (j := 0) e4)
    obtain ⟨a8, e8, h⟩ := h
    refine ⟨a8, e8, ?_⟩
    cases e3.symm.trans e8
    obtain ⟨o9, h⟩ := h
    refine ⟨o9, ?_⟩
    obtain ⟨a10, e10, h⟩ := h
    refine ⟨a10, e10, ?_⟩
    obtain ⟨o11, h⟩ := h
    refine ⟨o11, ?_⟩
    obtain ⟨o12, h⟩ := h
    refine ⟨o12, ?_⟩
    intro x13 q13
    have h := h x13 q13
    replace q13 := q13.trans (mrn (j := 0) e10)
    obtain ⟨a14, e14, h⟩ := h
    refine ⟨a14, e14, ?_⟩
    cases e3.symm.trans e14
    obtain ⟨o15, h⟩ := h
    refine ⟨o15, ?_⟩
    obtain ⟨a16, e16, h⟩ := h
    refine ⟨a16, e16, ?_⟩
    obtain ⟨o17, h⟩ := h
    refine ⟨o17, ?_⟩
    obtain ⟨o18, h⟩ := h
    refine ⟨o18, ?_⟩
    intro x19 q19
    have h := h x19 q19
    replace q19 := q19.trans (mrn (j := 1) e16)
    rw [q7, q13, q19, hy, hz, hw] at h
    rw [q7, q13, q19, hy, hz, hw]
    exact ⟨fun c3 => ⟨h.1 c3, rfl, Or.inr ⟨fun q => q.2.2 c3, rfl⟩⟩, fun c3 => ⟨h.2 c3, rfl, Or.inl ⟨⟨ho, by rw [← hy]; exact c2, c3⟩, rfl⟩⟩⟩
  have f84 : ∀ y z : Int32, y = v5 - lyA (mRn S rd v4.toNatClampNeg) (mRd S rd v2.toNatClampNeg) v3 → z = mm2 ((mWk S rd v1.toNatClampNeg) 3) (shO (mWk S rd v1.toNatClampNeg)) → ∀ w, w = mm2 ((mWk S rd v1.toNatClampNeg) 2) (shO (mWk S rd v1.toNatClampNeg)) → P_X11_isForward_84 Q m v2 v4 y z w S → P_X11_isForward_84 (fun x T => Q x T ∧ S = T ∧ ans (fwM (mRn S rd v4.toNatClampNeg) (mRd S rd v2.toNatClampNeg) (mWk S rd v1.toNatClampNeg) v3 v5) x) m v2 v4 y z w S := by
    intro y z hy hz w hw h
    delta P_X11_isForward_84
    obtain ⟨o20, h⟩ := h
    refine ⟨o20, ?_⟩
    obtain ⟨a21, e21, h⟩ := h
    refine ⟨a21, e21, ?_⟩
    cases e3.symm.trans e21
    obtain ⟨o22, h⟩ := h
    refine ⟨o22, ?_⟩
    obtain ⟨a23, e23, h⟩ := h
    refine ⟨a23, e23, ?_⟩
    obtain ⟨o24, h⟩ := h
    refine ⟨o24, ?_⟩
    obtain ⟨o25, h⟩ := h
    refine ⟨o25, ?_⟩
    intro x26 q26
    have h := h x26 q26
    replace q26 := q26.trans (mrd (j := 4) e23)
    obtain ⟨a27, e27, h⟩ := h
    refine ⟨a27, e27, ?_⟩
    cases e3.symm.trans e27
    obtain ⟨o28, h⟩ := h
    refine ⟨o28, ?_⟩
    obtain ⟨a29, e29, h⟩ := h
    refine ⟨a29, e29, ?_⟩
    obtain ⟨o30, h⟩ := h
    refine ⟨o30, ?_⟩
    obtain ⟨o31, h⟩ := h
    refine ⟨o31, ?_⟩
    intro x32 q32
    have h := h x32 q32
    replace q32 := q32.trans (mrd (j := 3) e29)
    refine ⟨fun c => f112 y z 0 hy hz w hw (Or.inr ⟨fun q => q (by rw [← q32, ← q26]; exact c), rfl⟩) (h.1 c), fun c => f112 y z 1 hy hz w hw (Or.inl ⟨by rw [← q32, ← q26]; exact c, rfl⟩) (h.2 c)⟩
  have f54 : ∀ y z : Int32, y = v5 - lyA (mRn S rd v4.toNatClampNeg) (mRd S rd v2.toNatClampNeg) v3 → z = mm2 ((mWk S rd v1.toNatClampNeg) 3) (shO (mWk S rd v1.toNatClampNeg)) → ∀ w, w = shO (mWk S rd v1.toNatClampNeg) → P_X11_isForward_54 Q m v1 v2 v4 w y z S → P_X11_isForward_54 (fun x T => Q x T ∧ S = T ∧ ans (fwM (mRn S rd v4.toNatClampNeg) (mRd S rd v2.toNatClampNeg) (mWk S rd v1.toNatClampNeg) v3 v5) x) m v1 v2 v4 w y z S := by
    intro y z hy hz w hw h
    delta P_X11_isForward_54
    obtain ⟨o33, h⟩ := h
    refine ⟨o33, ?_⟩
    obtain ⟨a34, e34, h⟩ := h
    refine ⟨a34, e34, ?_⟩
    cases e3.symm.trans e34
    obtain ⟨o35, h⟩ := h
    refine ⟨o35, ?_⟩
    obtain ⟨a36, e36, h⟩ := h
    refine ⟨a36, e36, ?_⟩
    obtain ⟨o37, h⟩ := h
    refine ⟨o37, ?_⟩
    obtain ⟨o38, h⟩ := h
    refine ⟨o38, ?_⟩
    intro x39 q39
    have h := h x39 q39
    replace q39 := q39.trans (mwk (j := 2) e36)
    refine ⟨fun c => ?_, fun c => ?_⟩
    · have h := h.1 c
      obtain ⟨a40, e40, h⟩ := h
      refine ⟨a40, e40, ?_⟩
      cases e3.symm.trans e40
      obtain ⟨o41, h⟩ := h
      refine ⟨o41, ?_⟩
      obtain ⟨a42, e42, h⟩ := h
      refine ⟨a42, e42, ?_⟩
      obtain ⟨o43, h⟩ := h
      refine ⟨o43, ?_⟩
      obtain ⟨o44, h⟩ := h
      refine ⟨o44, ?_⟩
      intro x45 q45
      have h := h x45 q45
      replace q45 := q45.trans (mwk (j := 2) e42)
      exact f84 y z hy hz _ (by unfold mm2; rw [if_pos (by rw [← q39, ← hw]; exact c), q45]) h
    · exact f84 y z hy hz _ (by unfold mm2; rw [if_neg (by rw [← q39, ← hw]; exact c), hw]) (h.2 c)
  delta P_X11_isForward P_X11_isForward_0
  obtain ⟨o46, h⟩ := h
  refine ⟨o46, ?_⟩
  obtain ⟨a47, e47, h⟩ := h
  refine ⟨a47, e47, ?_⟩
  cases e3.symm.trans e47
  obtain ⟨o48, h⟩ := h
  refine ⟨o48, ?_⟩
  refine cm_X10_shield (sp_X10_shield h) h (fun xs S1 hp h g => ?_)
  have h := h g
  obtain ⟨-, hS, hxs⟩ := hp
  subst hS
  obtain ⟨a49, e49, h⟩ := h
  refine ⟨a49, e49, ?_⟩
  cases e3.symm.trans e49
  obtain ⟨o50, h⟩ := h
  refine ⟨o50, ?_⟩
  refine cm_X10_air (sp_X10_air2 he h) h (fun xa S1 hp h g => ?_)
  have h := h g
  obtain ⟨-, hS, hxa⟩ := hp
  subst hS
  intro y hy
  have h := h y hy
  rw [hxa] at hy
  obtain ⟨a51, e51, h⟩ := h
  refine ⟨a51, e51, ?_⟩
  cases e3.symm.trans e51
  obtain ⟨o52, h⟩ := h
  refine ⟨o52, ?_⟩
  obtain ⟨a53, e53, h⟩ := h
  refine ⟨a53, e53, ?_⟩
  obtain ⟨o54, h⟩ := h
  refine ⟨o54, ?_⟩
  obtain ⟨o55, h⟩ := h
  refine ⟨o55, ?_⟩
  intro x56 q56
  have h := h x56 q56
  replace q56 := q56.trans (mwk (j := 3) e53)
  refine ⟨fun c => ?_, fun c => ?_⟩
  · have h := h.1 c
    obtain ⟨a57, e57, h⟩ := h
    refine ⟨a57, e57, ?_⟩
    cases e3.symm.trans e57
    obtain ⟨o58, h⟩ := h
    refine ⟨o58, ?_⟩
    obtain ⟨a59, e59, h⟩ := h
    refine ⟨a59, e59, ?_⟩
    obtain ⟨o60, h⟩ := h
    refine ⟨o60, ?_⟩
    obtain ⟨o61, h⟩ := h
    refine ⟨o61, ?_⟩
    intro x62 q62
    have h := h x62 q62
    replace q62 := q62.trans (mwk (j := 3) e59)
    exact f54 y _ hy (by unfold mm2; rw [if_pos (by rw [← q56, ← hxs]; exact c), q62]) _ hxs h
  · exact f54 y _ hy (by unfold mm2; rw [if_neg (by rw [← q56, ← hxs]; exact c), hxs]) _ hxs (h.2 c)
theorem sp_X11_inTime (he : ∀ i, 7 ≤ i → i ≤ 27 → ∃ b, fR S rd i = some b) (e3 : fR S m 3 = some rd) (h6 : 0 ≤ v6.toInt ∧ v6.toInt ≤ 4) (h : P_X11_inTime m v1 v2 v3 v4 v5 v6 v7 v8 Q S) : P_X11_inTime m v1 v2 v3 v4 v5 v6 v7 v8 (fun x T => Q x T ∧ S = T ∧ x = itM (mRn S rd v4.toNatClampNeg) (mRd S rd v2.toNatClampNeg) (mWk S rd v1.toNatClampNeg) v3 v5 v7 v8 v6.toNatClampNeg) S := by
  have hk : ∀ k : Nat, v6.toInt = (k : Int) → v6.toNatClampNeg = k := fun k z => by
    show v6.toInt.toNat = k
    omega
  delta P_X11_inTime P_X11_inTime_0
  obtain ⟨o63, h⟩ := h
  refine ⟨o63, ?_⟩
  obtain ⟨a64, e64, h⟩ := h
  refine ⟨a64, e64, ?_⟩
  cases e3.symm.trans e64
  obtain ⟨o65, h⟩ := h
  refine ⟨o65, ?_⟩
  obtain ⟨a66, e66, h⟩ := h
  refine ⟨a66, e66, ?_⟩
  obtain ⟨o67, h⟩ := h
  refine ⟨o67, ?_⟩
  obtain ⟨o68, h⟩ := h
  refine ⟨o68, ?_⟩
  intro x69 q69
  have h := h x69 q69
  replace q69 := q69.trans (mrn (j := 0) e66)
  obtain ⟨a70, e70, h⟩ := h
  refine ⟨a70, e70, ?_⟩
  cases e3.symm.trans e70
  obtain ⟨o71, h⟩ := h
  refine ⟨o71, ?_⟩
  refine cm_X10_air (sp_X10_air2 he h) h (fun xa S1 hp h g => ?_)
  have h := h g
  obtain ⟨-, hS, hxa⟩ := hp
  subst hS
  intro y hy
  have h := h y hy
  rw [hxa] at hy
  obtain ⟨a72, e72, h⟩ := h
  refine ⟨a72, e72, ?_⟩
  cases e3.symm.trans e72
  obtain ⟨o73, h⟩ := h
  refine ⟨o73, ?_⟩
  refine cm_X10_across (sp_X10_across he h) h (fun xc S1 hp h g => ?_)
  have h := h g
  obtain ⟨-, hS, hxc⟩ := hp
  subst hS
  refine cm_X11_isForward (sp_X11_isForward he e3 h) h (fun xf S1 hp h g bq => ?_)
  have h := h g bq
  obtain ⟨-, hS, hxf⟩ := hp
  subst hS
  obtain ⟨a74, e74, h⟩ := h
  refine ⟨a74, e74, ?_⟩
  cases e3.symm.trans e74
  obtain ⟨o75, h⟩ := h
  refine ⟨o75, ?_⟩
  refine cm_X10_shield (sp_X10_shield h) h (fun xs S1 hp h g => ?_)
  have h := h g
  obtain ⟨-, hS, hxs⟩ := hp
  subst hS
  refine ⟨fun c => ?_, fun c => ?_, fun c => ?_, fun c => ?_, fun c => ?_⟩
  · have h := h.1 c
    have ek := hk 4 (by omega)
    refine ⟨fun c1 => ⟨h.1 c1, rfl, ?_⟩, fun c1 => ?_⟩
    · rw [ek]
      exact (if_pos (by rw [← hxc]; exact c1)).symm
    have h := h.2 c1
    obtain ⟨a76, e76, h⟩ := h
    refine ⟨a76, e76, ?_⟩
    cases e3.symm.trans e76
    obtain ⟨o77, h⟩ := h
    refine ⟨o77, ?_⟩
    obtain ⟨a78, e78, h⟩ := h
    refine ⟨a78, e78, ?_⟩
    obtain ⟨o79, h⟩ := h
    refine ⟨o79, ?_⟩
    obtain ⟨o80, h⟩ := h
    refine ⟨o80, ?_⟩
    intro x81 q81
    have h := h x81 q81
    replace q81 := q81.trans (mwk (j := 4) e78)
    refine ⟨h, rfl, ?_⟩
    rw [ek, q81, q69, hxc]
    exact (if_neg (by rw [← hxc]; exact c1)).symm
  · have h := h.2.1 c
    have ek := hk 0 (by omega)
    obtain ⟨a82, e82, h⟩ := h
    refine ⟨a82, e82, ?_⟩
    cases e3.symm.trans e82
    obtain ⟨o83, h⟩ := h
    refine ⟨o83, ?_⟩
    obtain ⟨a84, e84, h⟩ := h
    refine ⟨a84, e84, ?_⟩
    obtain ⟨o85, h⟩ := h
    refine ⟨o85, ?_⟩
    obtain ⟨o86, h⟩ := h
    refine ⟨o86, ?_⟩
    intro x87 q87
    have h := h x87 q87
    replace q87 := q87.trans (mrn (j := 1) e84)
    obtain ⟨a88, e88, h⟩ := h
    refine ⟨a88, e88, ?_⟩
    cases e3.symm.trans e88
    obtain ⟨o89, h⟩ := h
    refine ⟨o89, ?_⟩
    obtain ⟨a90, e90, h⟩ := h
    refine ⟨a90, e90, ?_⟩
    obtain ⟨o91, h⟩ := h
    refine ⟨o91, ?_⟩
    obtain ⟨o92, h⟩ := h
    refine ⟨o92, ?_⟩
    intro x93 q93
    have h := h x93 q93
    replace q93 := q93.trans (mwk (j := 2) e90)
    refine ⟨fun c1 => ?_, fun c1 => ?_⟩
    · have h := h.1 c1
      have hn := an0 hxf c1
      delta P_X11_inTime_129
      refine cm_X11_less (sp_X11_less h) h (fun z S1 hp h g => ⟨h g, hp.2.1, ?_⟩)
      rw [ek, hp.2.2, q69, q87, q93, hxs]
      show _ = _ * ls2 _ (dc _ _ _)
      rw [dc_n hn]
    · have h := h.2 c1
      have hn := an1 hxf c1
      delta P_X11_inTime_129
      refine cm_X11_less (sp_X11_less h) h (fun z S1 hp h g => ⟨h g, hp.2.1, ?_⟩)
      rw [ek, hp.2.2, q69, q87, q93]
      show _ = _ * ls2 _ (dc _ _ _)
      rw [dc_y hn]
  · have h := h.2.2.1 c
    have ek := hk 1 (by omega)
    refine ⟨fun c1 => ⟨h.1 c1, rfl, ?_⟩, fun c1 => ?_⟩
    · rw [ek]
      exact (if_pos (by rw [← hy]; exact c1)).symm
    have h := h.2 c1
    obtain ⟨a94, e94, h⟩ := h
    refine ⟨a94, e94, ?_⟩
    cases e3.symm.trans e94
    obtain ⟨o95, h⟩ := h
    refine ⟨o95, ?_⟩
    obtain ⟨a96, e96, h⟩ := h
    refine ⟨a96, e96, ?_⟩
    obtain ⟨o97, h⟩ := h
    refine ⟨o97, ?_⟩
    obtain ⟨o98, h⟩ := h
    refine ⟨o98, ?_⟩
    intro x99 q99
    have h := h x99 q99
    replace q99 := q99.trans (mwk (j := 3) e96)
    have e1 : itM (mRn S rd v4.toNatClampNeg) (mRd S rd v2.toNatClampNeg) (mWk S rd v1.toNatClampNeg) v3 v5 v7 v8 1 = (mRn S rd v4.toNatClampNeg) 0 * (v5 - lyA (mRn S rd v4.toNatClampNeg) (mRd S rd v2.toNatClampNeg) v3) * ls2 (ls2 ((mWk S rd v1.toNatClampNeg) 3) (dc (fwM (mRn S rd v4.toNatClampNeg) (mRd S rd v2.toNatClampNeg) (mWk S rd v1.toNatClampNeg) v3 v5) (shO (mWk S rd v1.toNatClampNeg)) 0)) v7 := if_neg (by rw [← hy]; exact c1)
    refine ⟨fun c2 => ?_, fun c2 => ?_⟩
    · have h := h.1 c2
      have hn := an0 hxf c2
      delta P_X11_inTime_164
      refine cm_X11_less (sp_X11_less h) h (fun z S1 hp h g => ?_)
      have h := h g
      obtain ⟨-, hS, hz⟩ := hp
      subst hS
      refine cm_X11_less (sp_X11_less h) h (fun z2 S1 hp h g => ⟨h g, hp.2.1, ?_⟩)
      rw [ek, e1, hp.2.2, hz, q69, q99, hy, dc_n hn]
    · have h := h.2 c2
      have hn := an1 hxf c2
      delta P_X11_inTime_164
      refine cm_X11_less (sp_X11_less h) h (fun z S1 hp h g => ?_)
      have h := h g
      obtain ⟨-, hS, hz⟩ := hp
      subst hS
      refine cm_X11_less (sp_X11_less h) h (fun z2 S1 hp h g => ⟨h g, hp.2.1, ?_⟩)
      rw [ek, e1, hp.2.2, hz, q69, q99, hy, hxs, dc_y hn]
  · have h := h.2.2.2.1 c
    have ek := hk 2 (by omega)
    refine ⟨fun c1 => ⟨h.1 c1, rfl, ?_⟩, fun c1 => ?_⟩
    · rw [ek]
      exact (if_pos (by rw [← hy]; exact c1)).symm
    have h := h.2 c1
    obtain ⟨a100, e100, h⟩ := h
    refine ⟨a100, e100, ?_⟩
    cases e3.symm.trans e100
    obtain ⟨o101, h⟩ := h
    refine ⟨o101, ?_⟩
    obtain ⟨a102, e102, h⟩ := h
    refine ⟨a102, e102, ?_⟩
    obtain ⟨o103, h⟩ := h
    refine ⟨o103, ?_⟩
    obtain ⟨o104, h⟩ := h
    refine ⟨o104, ?_⟩
    intro x105 q105
    have h := h x105 q105
    replace q105 := q105.trans (mwk (j := 3) e102)
    refine cm_X11_less (sp_X11_less h) h (fun z S1 hp h g => ⟨h g, hp.2.1, ?_⟩)
    rw [ek, hp.2.2, q69, q105, hy]
    exact (if_neg (by rw [← hy]; exact c1)).symm
  · have h := h.2.2.2.2 c
    have ek := hk 3 (by omega)
    refine ⟨fun c1 => ⟨h.1 c1, rfl, ?_⟩, fun c1 => ?_⟩
    · rw [ek]
      exact (if_pos (by rw [← hxc]; exact c1)).symm
    have h := h.2 c1
    obtain ⟨a106, e106, h⟩ := h
    refine ⟨a106, e106, ?_⟩
    cases e3.symm.trans e106
    obtain ⟨o107, h⟩ := h
    refine ⟨o107, ?_⟩
    obtain ⟨a108, e108, h⟩ := h
    refine ⟨a108, e108, ?_⟩
    obtain ⟨o109, h⟩ := h
    refine ⟨o109, ?_⟩
    obtain ⟨o110, h⟩ := h
    refine ⟨o110, ?_⟩
    intro x111 q111
    have h := h x111 q111
    replace q111 := q111.trans (mwk (j := 4) e108)
    refine ⟨h, rfl, ?_⟩
    rw [ek, q111, q69, hxc]
    exact (if_neg (by rw [← hxc]; exact c1)).symm
theorem sp_X11_partsOf (he : ∀ i, 7 ≤ i → i ≤ 27 → ∃ b, fR S rd i = some b) (e3 : fR S m 3 = some rd) (h6 : 0 ≤ v6.toInt ∧ v6.toInt ≤ 4) (h : P_X11_partsOf m v1 v2 v3 v4 v5 v6 QJ S) : P_X11_partsOf m v1 v2 v3 v4 v5 v6 (fun x T => QJ x T ∧ S = T ∧ x = ptM (mRn S rd v4.toNatClampNeg) (mRd S rd v2.toNatClampNeg) (mWk S rd v1.toNatClampNeg) v3 v5 v6.toNatClampNeg) S := by
  delta P_X11_partsOf P_X11_partsOf_0
  obtain ⟨o112, h⟩ := h
  refine ⟨o112, ?_⟩
  refine cm_X11_inTime (sp_X11_inTime he e3 h6 h) h (fun xi S1 hp h g => ?_)
  have h := h g
  obtain ⟨-, hS, hxi⟩ := hp
  subst hS
  obtain ⟨a113, e113, h⟩ := h
  refine ⟨a113, e113, ?_⟩
  cases e3.symm.trans e113
  obtain ⟨o114, h⟩ := h
  refine ⟨o114, ?_⟩
  obtain ⟨a115, e115, h⟩ := h
  refine ⟨a115, e115, ?_⟩
  obtain ⟨o116, h⟩ := h
  refine ⟨o116, ?_⟩
  obtain ⟨o117, h⟩ := h
  refine ⟨o117, ?_⟩
  intro x118 q118
  have h := h x118 q118
  replace q118 := q118.trans (mrd (j := 3) e115)
  obtain ⟨a119, e119, h⟩ := h
  refine ⟨a119, e119, ?_⟩
  cases e3.symm.trans e119
  obtain ⟨o120, h⟩ := h
  refine ⟨o120, ?_⟩
  obtain ⟨a121, e121, h⟩ := h
  refine ⟨a121, e121, ?_⟩
  obtain ⟨o122, h⟩ := h
  refine ⟨o122, ?_⟩
  obtain ⟨o123, h⟩ := h
  refine ⟨o123, ?_⟩
  intro x124 q124
  have h := h x124 q124
  replace q124 := q124.trans (mrd (j := 4) e121)
  obtain ⟨o125, h⟩ := h
  refine ⟨o125, ?_⟩
  intro x5 q5
  have h := h x5 q5
  refine ⟨h, rfl, ?_⟩
  rw [hxi, q118, q124, q5]
  rfl
end C28
end
section
/-! legs: both sides reckon the same -/
def bJ (x : Int64) (a B : Int) : Prop := x.toInt = a ∧ 0 ≤ a ∧ a ≤ B
def bI (x : Int32) (a B : Int) : Prop := x.toInt = a ∧ 0 ≤ a ∧ a ≤ B
section C29
theorem bJ_mul {x y : Int64} {a b B C : Int} (h : bJ x a B) (g : bJ y b C) (hB : B * C ≤ 4611686018427387904) : bJ (x * y) (a * b) (B * C) := by
  obtain ⟨h1, h2, h3⟩ := h
  obtain ⟨g1, g2, g3⟩ := g
  have p := Int.mul_nonneg h2 g2
  have u : a * b ≤ B * C := Int.mul_le_mul h3 g3 g2 (by omega)
  refine ⟨?_, p, u⟩
  rw [Int64.toInt_mul, h1, g1, Int.bmod_eq_of_le (by omega) (by omega)]
theorem bI_mul {x y : Int32} {a b B C : Int} (h : bI x a B) (g : bI y b C) (hB : B * C ≤ 1073741824) : bI (x * y) (a * b) (B * C) := by
  obtain ⟨h1, h2, h3⟩ := h
  obtain ⟨g1, g2, g3⟩ := g
  have p := Int.mul_nonneg h2 g2
  have u : a * b ≤ B * C := Int.mul_le_mul h3 g3 g2 (by omega)
  refine ⟨?_, p, u⟩
  rw [Int32.toInt_mul, h1, g1, Int.bmod_eq_of_le (by omega) (by omega)]
theorem bJ_of {x : Int32} {a B : Int} (h : bI x a B) : bJ x.toInt64 a B := ⟨(Int32.toInt_toInt64 _).trans h.1, h.2⟩
theorem bI_of {x : Int32} {lo hi : Int} (h : inI lo hi x) (h0 : 0 ≤ lo) : bI x x.toInt hi := ⟨rfl, by have := h.1; omega, h.2⟩
theorem bI_sub {x y : Int32} {a b B C : Int} (h : bI x a B) (g : bI y b C) (hB : B ≤ 100000) (hC : C ≤ 100000) : (x - y).toInt = a - b := by
  obtain ⟨h1, h2, h3⟩ := h
  obtain ⟨g1, g2, g3⟩ := g
  rw [Int32.toInt_sub, h1, g1, Int.bmod_eq_of_le (by omega) (by omega)]
theorem bI_mx {x : Int32} {a B : Int} (h : x.toInt = a) (hb : a ≤ B) (h0 : 0 ≤ B) : bI (mx0 x) (max a 0) B := by
  have e0 : (0 : Int32).toInt = 0 := by decide
  unfold mx0
  by_cases c : x < 0
  · rw [if_pos c]
    have := lt_i c
    exact ⟨by rw [e0]; omega, by omega, by omega⟩
  · rw [if_neg c]
    have := nlt_i c
    exact ⟨by rw [h]; omega, by omega, by omega⟩
theorem bI_mn {x y : Int32} {a b B C : Int} (h : bI x a B) (g : bI y b C) : bI (mn2 x y) (min a b) B := by
  obtain ⟨h1, h2, h3⟩ := h
  obtain ⟨g1, g2, g3⟩ := g
  unfold mn2
  by_cases c : x < y
  · rw [if_pos c]
    have := lt_i c
    exact ⟨by omega, by omega, by omega⟩
  · rw [if_neg c]
    have := nlt_i c
    exact ⟨by omega, by omega, by omega⟩
theorem bI_mm {x y : Int32} {a b B C : Int} (h : bI x a B) (g : bI y b C) : bI (mm2 x y) (min a b) B := by
  obtain ⟨h1, h2, h3⟩ := h
  obtain ⟨g1, g2, g3⟩ := g
  unfold mm2
  by_cases c : x ≤ y
  · rw [if_pos c]
    have := le_i c
    exact ⟨by omega, by omega, by omega⟩
  · rw [if_neg c]
    have := nle_i c
    exact ⟨by omega, by omega, by omega⟩
theorem bI_ls {x y : Int32} {a b B C : Int} (h : bI x a B) (g : bI y b C) (hB : B ≤ 100000) (hC : C ≤ 100000) : bI (ls2 x y) (max (a - b) 0) B := by
  have e0 : (0 : Int32).toInt = 0 := by decide
  have s := bI_sub h g hB hC
  obtain ⟨h1, h2, h3⟩ := h
  obtain ⟨g1, g2, g3⟩ := g
  unfold ls2
  by_cases c : x ≤ y
  · rw [if_pos c]
    have := le_i c
    exact ⟨by omega, by omega, by omega⟩
  · rw [if_neg c]
    have := nle_i c
    exact ⟨by omega, by omega, by omega⟩
theorem lgc {x y : Int64} : (¬ lg_cmp x y ≤ 0) ↔ y.toInt < x.toInt := by
  unfold lg_cmp
  by_cases c : x > y
  · rw [if_pos c]
    exact ⟨fun _ => Int64.lt_iff_toInt_lt.mp c, fun _ => by decide⟩
  · rw [if_neg c]
    have n := Int64.le_iff_toInt_le.mp (Int64.not_lt.mp c)
    by_cases d : x = y
    · rw [if_pos d]
      exact ⟨fun z => absurd (by decide) z, fun z => by omega⟩
    · rw [if_neg d]
      exact ⟨fun z => absurd (by decide) z, fun z => by omega⟩
theorem q_v {v : Int32} (h1 : 1 ≤ v.toInt) (h2 : v.toInt ≤ 9) : 280 ≤ ((2520 : Int32) / v).toInt ∧ ((2520 : Int32) / v).toInt ≤ 2520 := by
  have ofv : ∀ k : Int32, v.toInt = k.toInt → v = k := fun k z => Int32.toInt_inj.mp z
  rcases (by omega : v.toInt = 1 ∨ v.toInt = 2 ∨ v.toInt = 3 ∨ v.toInt = 4 ∨ v.toInt = 5 ∨ v.toInt = 6 ∨ v.toInt = 7 ∨ v.toInt = 8 ∨ v.toInt = 9) with q | q | q | q | q | q | q | q | q
  · rw [ofv 1 (q.trans (by decide))]; decide
  · rw [ofv 2 (q.trans (by decide))]; decide
  · rw [ofv 3 (q.trans (by decide))]; decide
  · rw [ofv 4 (q.trans (by decide))]; decide
  · rw [ofv 5 (q.trans (by decide))]; decide
  · rw [ofv 6 (q.trans (by decide))]; decide
  · rw [ofv 7 (q.trans (by decide))]; decide
  · rw [ofv 8 (q.trans (by decide))]; decide
  · rw [ofv 9 (q.trans (by decide))]; decide
end C29
section C29b
variable {rn rd wk : Nat → Int32} {u v x y : Int32}
def iD (rn : Nat → Int32) : Int := (rn 0).toInt
def iT (rd : Nat → Int32) (v : Int32) : Int := ((rd 3).toInt - (rd 4).toInt) * ((2520 : Int32) / v).toInt
def iA (rn rd : Nat → Int32) (u v : Int32) : Int := v.toInt - (lyA rn rd u).toInt
def iS (wk : Nat → Int32) : Int := (shO wk).toInt
def iFw (rn rd wk : Nat → Int32) (u v : Int32) : Prop := (rd 4).toInt < (rd 3).toInt ∧ 0 < iA rn rd u v ∧ iD rn * (rn 1).toInt * min (wk 2).toInt (iS wk) < iD rn * iA rn rd u v * min (wk 3).toInt (iS wk)
noncomputable def iE (rn rd wk : Nat → Int32) (u v : Int32) (x y : Int) : Nat → Int
  | 0 => iD rn * (rn 1).toInt * max ((wk 2).toInt - dc (iFw rn rd wk u v) 0 (iS wk)) 0
  | 1 => iD rn * max (iA rn rd u v) 0 * max ((wk 3).toInt - dc (iFw rn rd wk u v) (iS wk) 0 - x) 0
  | 2 => iD rn * max (-iA rn rd u v) 0 * max ((wk 3).toInt - y) 0
  | 3 => iD rn * (if lyO rn rd u = 1 then (rn 3).toInt else 0) * (wk 4).toInt
  | _ => iD rn * (if lyO rn rd u = 3 then (rn 3).toInt else 0) * (wk 4).toInt
theorem sh_b (b : WkB wk) : bI (shO wk) (iS wk) 999 := by
  unfold iS shO
  by_cases c : wk 0 = 3
  · rw [if_pos c]
    exact bI_of b.2.1 (by decide)
  · rw [if_neg c]
    exact ⟨rfl, by decide, by decide⟩
theorem air_b (b : RnB rn) : -9 ≤ (lyA rn rd u).toInt ∧ (lyA rn rd u).toInt ≤ 9 := by
  have h := b.2.2.2.1
  have h1 := h.1
  have h2 := h.2
  unfold lyA airOf
  by_cases c : lyO rn rd u = 0
  · rw [if_pos c]
    omega
  · rw [if_neg c]
    by_cases d : lyO rn rd u = 2
    · rw [if_pos d]
      have e : (-rn 3).toInt = -(rn 3).toInt := by
        rw [Int32.toInt_neg, Int.bmod_eq_of_le (by omega) (by omega)]
      omega
    · rw [if_neg d]
      decide
theorem off_b (b : RnB rn) (h1 : 1 ≤ v.toInt) (h2 : v.toInt ≤ 9) : (v - lyA rn rd u).toInt = iA rn rd u v ∧ (lyA rn rd u - v).toInt = -iA rn rd u v ∧ -8 ≤ iA rn rd u v ∧ iA rn rd u v ≤ 18 := by
  have a := air_b (rd := rd) (u := u) b
  unfold iA
  refine ⟨?_, ?_, by omega, by omega⟩
  · rw [Int32.toInt_sub, Int.bmod_eq_of_le (by omega) (by omega)]
  · rw [Int32.toInt_sub, Int.bmod_eq_of_le (by omega) (by omega)]
    omega
theorem len_b (b : RoB rd) : bI (rd 3 - rd 4) ((rd 3).toInt - (rd 4).toInt) 60 := by
  obtain ⟨-, -, -, b3, b4, b5⟩ := b
  have := b3.1
  have := b3.2
  refine ⟨?_, by omega, by omega⟩
  rw [Int32.toInt_sub, Int.bmod_eq_of_le (by omega) (by omega)]
theorem q_b (h1 : 1 ≤ v.toInt) (h2 : v.toInt ≤ 9) : bI ((2520 : Int32) / v) ((2520 : Int32) / v).toInt 2520 := ⟨rfl, by have := q_v h1 h2; omega, (q_v h1 h2).2⟩
theorem T_b (b : RoB rd) (h1 : 1 ≤ v.toInt) (h2 : v.toInt ≤ 9) : bJ (lyT rd v) (iT rd v) 151200 := bJ_mul (bJ_of (len_b b)) (bJ_of (q_b h1 h2)) (by decide)
theorem F_b (a : RnB rn) (b : RoB rd) (h1 : 1 ≤ v.toInt) (h2 : v.toInt ≤ 9) : bJ (lyF rn rd v) (iD rn * iT rd v) 1360800 := bJ_mul (bJ_of (bI_of a.1 (by decide))) (T_b b h1 h2) (by decide)
theorem T_pos (b : RoB rd) (h1 : 1 ≤ v.toInt) (h2 : v.toInt ≤ 9) : (0 < iT rd v ↔ (rd 4).toInt < (rd 3).toInt) ∧ 0 ≤ iT rd v := by
  have q := q_v h1 h2
  have := b.2.2.2.2.2
  refine ⟨⟨fun z => ?_, fun z => ?_⟩, (T_b b h1 h2).2.1⟩
  · by_cases c : (rd 4).toInt < (rd 3).toInt
    · exact c
    · have e : (rd 3).toInt - (rd 4).toInt = 0 := by omega
      unfold iT at z
      rw [e, Int.zero_mul] at z
      omega
  · exact Int.mul_pos (by omega) (by omega)
/-- the strengths -/
theorem ly_b (a : RnB rn) (b : RoB rd) (h1 : 1 ≤ v.toInt) (h2 : v.toInt ≤ 9) : bJ (lyS rn rd u v 0) (iD rn * iT rd v * (rn 1).toInt) 24494400 ∧ bJ (lyS rn rd u v 1) (iD rn * iT rd v * max (iA rn rd u v) 0) 24494400 ∧ bJ (lyS rn rd u v 2) (iD rn * iT rd v * max (-iA rn rd u v) 0) 24494400 ∧ bJ (lyS rn rd u v 3) (iD rn * iT rd v * (if lyO rn rd u = 1 then (rn 3).toInt else 0)) 24494400 ∧ bJ (lyS rn rd u v 4) (iD rn * iT rd v * (if lyO rn rd u = 3 then (rn 3).toInt else 0)) 24494400 := by
  have F := F_b a b h1 h2
  obtain ⟨e1, e2, e3, e4⟩ := off_b (rd := rd) (u := u) a h1 h2
  have w1 : ∀ {z : Int32} {k B : Int}, B ≤ 18 → bI z k B → bJ (lyF rn rd v * z.toInt64) (iD rn * iT rd v * k) 24494400 := fun {z k B} hB h => bJ_mul F (bJ_of ⟨h.1, h.2.1, Int.le_trans h.2.2 hB⟩) (by decide)
  have dr : ∀ j : Int32, bJ (if lyO rn rd u = j then lyF rn rd v * (rn 3).toInt64 else 0) (iD rn * iT rd v * (if lyO rn rd u = j then (rn 3).toInt else 0)) 24494400 := fun j => by
    by_cases c : lyO rn rd u = j
    · rw [if_pos c, if_pos c]
      exact w1 (by decide) (bI_of a.2.2.2.1 (by decide))
    · rw [if_neg c, if_neg c, Int.mul_zero]
      exact ⟨by decide, by decide, by decide⟩
  exact ⟨w1 (by decide) (bI_of a.2.1 (by decide)), w1 (by decide) (bI_mx e1 e4 (by decide)), w1 (B := 8) (by decide) (bI_mx (B := 8) e2 (by omega) (by decide)), dr 1, dr 3⟩
theorem fwJ_iff (a : RnB rn) (b : RoB rd) (w : WkB wk) (h1 : 1 ≤ v.toInt) (h2 : v.toInt ≤ 9) : fwJ (lyS rn rd u v) wk ↔ iFw rn rd wk u v := by
  obtain ⟨s0, s1, -⟩ := ly_b (u := u) a b h1 h2
  have sh := sh_b w
  have m1 := bJ_mul s1 (bJ_of (bI_mn (bI_of w.2.2.2.1 (by decide)) sh)) (by decide)
  have m0 := bJ_mul s0 (bJ_of (bI_mn (bI_of w.2.2.1 (by decide)) sh)) (by decide)
  obtain ⟨tp, t0⟩ := T_pos b h1 h2
  have e1 : iD rn * iT rd v * max (iA rn rd u v) 0 * min (wk 3).toInt (iS wk) = iT rd v * (iD rn * max (iA rn rd u v) 0 * min (wk 3).toInt (iS wk)) := by ac_rfl
  have e0 : iD rn * iT rd v * (rn 1).toInt * min (wk 2).toInt (iS wk) = iT rd v * (iD rn * (rn 1).toInt * min (wk 2).toInt (iS wk)) := by ac_rfl
  unfold fwJ
  rw [lgc, m1.1, m0.1, e1, e0]
  have d0 : 0 ≤ iD rn := a.1.1
  have y0 : 0 ≤ iD rn * (rn 1).toInt * min (wk 2).toInt (iS wk) := Int.mul_nonneg (Int.mul_nonneg d0 (by have := a.2.1.1; omega)) (by have := w.2.2.1.1; have := sh.2.1; omega)
  constructor
  · intro h
    have tpos : 0 < iT rd v := by
      rcases Int.lt_or_eq_of_le t0 with z | z
      · exact z
      · rw [← z, Int.zero_mul, Int.zero_mul] at h
        omega
    have h := Int.lt_of_mul_lt_mul_left h t0
    have ap : 0 < iA rn rd u v := by
      by_cases c : 0 < iA rn rd u v
      · exact c
      · have e : max (iA rn rd u v) 0 = 0 := by omega
        rw [e, Int.mul_zero, Int.zero_mul] at h
        omega
    have e : max (iA rn rd u v) 0 = iA rn rd u v := by omega
    rw [e] at h
    exact ⟨tp.mp tpos, ap, h⟩
  · rintro ⟨p1, p2, p3⟩
    have e : max (iA rn rd u v) 0 = iA rn rd u v := by omega
    rw [e]
    exact Int.mul_lt_mul_of_pos_left p3 (tp.mpr p1)
theorem fwM_iff (a : RnB rn) (b : RoB rd) (w : WkB wk) (h1 : 1 ≤ v.toInt) (h2 : v.toInt ≤ 9) : fwM rn rd wk u v ↔ iFw rn rd wk u v := by
  have e0 : (0 : Int32).toInt = 0 := by decide
  obtain ⟨e1, -, -, e4⟩ := off_b (rd := rd) (u := u) a h1 h2
  have sh := sh_b w
  have rr : bI (rn 0) (iD rn) 9 := bI_of a.1 (by decide)
  have m0 := bI_mul (bI_mul rr (bI_of a.2.1 (by decide)) (by decide)) (bI_mm (bI_of w.2.2.1 (by decide)) sh) (by decide)
  have key : ∀ h : 0 < iA rn rd u v, (rn 0 * (v - lyA rn rd u) * mm2 (wk 3) (shO wk)).toInt = iD rn * iA rn rd u v * min (wk 3).toInt (iS wk) := fun h =>
    (bI_mul (bI_mul rr (⟨e1, by omega, e4⟩ : bI _ _ 18) (by decide)) (bI_mm (bI_of w.2.2.2.1 (by decide)) sh) (by decide)).1
  constructor
  · rintro ⟨p1, p2, p3⟩
    have q1 := nle_i p1
    have q2 := nle_i p2
    have q3 := nle_i p3
    rw [e1, e0] at q2
    rw [key q2, m0.1] at q3
    exact ⟨q1, q2, q3⟩
  · rintro ⟨p1, p2, p3⟩
    refine ⟨fun z => ?_, fun z => ?_, fun z => ?_⟩
    · have := le_i z
      omega
    · have := le_i z
      omega
    · have := le_i z
      rw [key p2, m0.1] at this
      omega
end C29b
/-! legs: the faces of both sides are the same -/
section C30
variable {rn rd wk : Nat → Int32} {u v x y : Int32} {ix iy : Int}
theorem dc_bI {P P' : Prop} (hP : P ↔ P') {x y : Int32} {a b B : Int} (h : bI x a B) (g : bI y b B) : bI (dc P x y) (dc P' a b) B := by
  by_cases c : P
  · rw [dc_y c, dc_y (hP.mp c)]
    exact h
  · rw [dc_n c, dc_n (fun z => c (hP.mpr z))]
    exact g
theorem z_bI : bI 0 0 999 := ⟨by decide, by decide, by decide⟩
theorem mx_sub {p q r : Int32} {a b c : Int} (h : bI p a 153) (g : bI q b 999) (k : bI r c 999) : bI (mx0 (p - q)) (max (a - b) 0) 153 ∧ bI (mx0 (p - q - r)) (max (a - b - c) 0) 153 := by
  have e := bI_sub h g (by decide) (by decide)
  refine ⟨bI_mx e (by have := h.2.2; have := g.2.1; omega) (by decide), ?_⟩
  have e2 : (p - q - r).toInt = a - b - c := by
    have := h.2; have := g.2; have := k.2
    rw [Int32.toInt_sub, e, k.1, Int.bmod_eq_of_le (by omega) (by omega)]
  exact bI_mx e2 (by have := h.2.2; have := g.2.1; have := k.2.1; omega) (by decide)
theorem wt_b (a : RnB rn) (b : RoB rd) (w : WkB wk) (h1 : 1 ≤ v.toInt) (h2 : v.toInt ≤ 9) (hx : bI x ix 999) (hy : bI y iy 999) (k : Nat) (hk : k < 5) : bJ (wtJ wk rd rn u v x y k) (iE rn rd wk u v ix iy k * iT rd v) 3747643200 := by
  obtain ⟨s0, s1, s2, s3, s4⟩ := ly_b (u := u) a b h1 h2
  have sh := sh_b w
  have fw := fwJ_iff (u := u) a b w h1 h2
  have wd : ∀ {p : Int32} {n : Int}, bI p n 81 → bI p n 153 := fun h => ⟨h.1, h.2.1, by have := h.2.2; omega⟩
  have sw : ∀ d t p q : Int, d * t * p * q = d * p * q * t := fun d t p q => by ac_rfl
  match k, hk with
  | 0, _ =>
    show bJ (lyS rn rd u v 0 * (mx0 (wk 2 - dc (fwJ (lyS rn rd u v) wk) 0 (shO wk))).toInt64) (iD rn * (rn 1).toInt * max ((wk 2).toInt - dc (iFw rn rd wk u v) 0 (iS wk)) 0 * iT rd v) _
    rw [← sw]
    exact bJ_mul s0 (bJ_of (mx_sub (bI_of w.2.2.1 (by decide)) (dc_bI fw z_bI sh) z_bI).1) (by decide)
  | 1, _ =>
    show bJ (lyS rn rd u v 1 * (mx0 (wk 3 - dc (fwJ (lyS rn rd u v) wk) (shO wk) 0 - x)).toInt64) (iD rn * max (iA rn rd u v) 0 * max ((wk 3).toInt - dc (iFw rn rd wk u v) (iS wk) 0 - ix) 0 * iT rd v) _
    rw [← sw]
    exact bJ_mul s1 (bJ_of (mx_sub (wd (bI_of w.2.2.2.1 (by decide))) (dc_bI fw sh z_bI) hx).2) (by decide)
  | 2, _ =>
    show bJ (lyS rn rd u v 2 * (mx0 (wk 3 - y)).toInt64) (iD rn * max (-iA rn rd u v) 0 * max ((wk 3).toInt - iy) 0 * iT rd v) _
    rw [← sw]
    exact bJ_mul s2 (bJ_of (mx_sub (wd (bI_of w.2.2.2.1 (by decide))) hy z_bI).1) (by decide)
  | 3, _ =>
    show bJ (lyS rn rd u v 3 * (wk 4).toInt64) (iD rn * (if lyO rn rd u = 1 then (rn 3).toInt else 0) * (wk 4).toInt * iT rd v) _
    rw [← sw]
    exact bJ_mul s3 (bJ_of (bI_of w.2.2.2.2.1 (by decide))) (by decide)
  | 4, _ =>
    show bJ (lyS rn rd u v 4 * (wk 4).toInt64) (iD rn * (if lyO rn rd u = 3 then (rn 3).toInt else 0) * (wk 4).toInt * iT rd v) _
    rw [← sw]
    exact bJ_mul s4 (bJ_of (bI_of w.2.2.2.2.1 (by decide))) (by decide)
  | k + 5, hk => exact absurd hk (by omega)
theorem neg_i {z : Int32} (h : -1000 ≤ z.toInt) : (-z).toInt = -z.toInt := by
  have := z.toInt_lt
  rw [Int32.toInt_neg, Int.bmod_eq_of_le (by omega) (by omega)]
theorem ac_b (a : RnB rn) : ((lyC rn rd u).toInt = if lyO rn rd u = 1 then (rn 3).toInt else if lyO rn rd u = 3 then -(rn 3).toInt else 0) := by
  unfold lyC acO
  by_cases c : lyO rn rd u = 1
  · rw [if_pos c, if_pos c]
  · rw [if_neg c, if_neg c]
    by_cases d : lyO rn rd u = 3
    · rw [if_pos d, if_pos d]
      exact neg_i (by have := a.2.2.2.1.1; omega)
    · rw [if_neg d, if_neg d]
      decide
theorem it_b (a : RnB rn) (b : RoB rd) (w : WkB wk) (h1 : 1 ≤ v.toInt) (h2 : v.toInt ≤ 9) (hx : bI x ix 999) (hy : bI y iy 999) (k : Nat) (hk : k < 5) : bI (itM rn rd wk u v x y k) (iE rn rd wk u v ix iy k) 24786 := by
  have e0 : (0 : Int32).toInt = 0 := by decide
  obtain ⟨e1, -, e3, e4⟩ := off_b (rd := rd) (u := u) a h1 h2
  have sh := sh_b w
  have fw := fwM_iff (u := u) a b w h1 h2
  have rr : bI (rn 0) (iD rn) 9 := bI_of a.1 (by decide)
  have wd : ∀ {p : Int32} {n : Int}, bI p n 81 → bI p n 153 := fun h => ⟨h.1, h.2.1, by have := h.2.2; omega⟩
  have w18 : ∀ {p : Int32} {n B : Int}, B ≤ 18 → bI p n B → bI p n 18 := fun hB h => ⟨h.1, h.2.1, Int.le_trans h.2.2 hB⟩
  have wi := a.2.2.2.1
  have ac := ac_b (rd := rd) (u := u) a
  have m3 : ∀ {p q : Int32} {n t : Int}, bI p n 18 → bI q t 153 → bI (rn 0 * p * q) (iD rn * n * t) 24786 := fun h g => bI_mul (bI_mul rr h (by decide)) g (by decide)
  have zz : ∀ n t : Int, n = 0 → bI 0 (iD rn * n * t) 24786 := fun n t z => by
    rw [z, Int.mul_zero, Int.zero_mul]
    exact ⟨by decide, by decide, by decide⟩
  match k, hk with
  | 0, _ => exact m3 (w18 (by decide) (bI_of a.2.1 (by decide))) (bI_ls (bI_of w.2.2.1 (by decide)) (dc_bI fw z_bI sh) (by decide) (by decide))
  | 1, _ =>
    show bI (if v - lyA rn rd u ≤ 0 then 0 else rn 0 * (v - lyA rn rd u) * ls2 (ls2 (wk 3) (dc (fwM rn rd wk u v) (shO wk) 0)) x) (iD rn * max (iA rn rd u v) 0 * max ((wk 3).toInt - dc (iFw rn rd wk u v) (iS wk) 0 - ix) 0) _
    by_cases c : v - lyA rn rd u ≤ 0
    · rw [if_pos c]
      have := le_i c
      exact zz _ _ (by omega)
    · rw [if_neg c]
      have := nle_i c
      have l1 := bI_ls (wd (bI_of w.2.2.2.1 (by decide))) (dc_bI fw sh z_bI) (by decide) (by decide)
      have l2 := bI_ls l1 hx (by decide) (by decide)
      have hx0 := hx.2.1
      have eq : max (max ((wk 3).toInt - dc (iFw rn rd wk u v) (iS wk) 0) 0 - ix) 0 = max ((wk 3).toInt - dc (iFw rn rd wk u v) (iS wk) 0 - ix) 0 := by omega
      rw [eq] at l2
      exact m3 ⟨by omega, by omega, by omega⟩ l2
  | 2, _ =>
    show bI (if 0 ≤ v - lyA rn rd u then 0 else rn 0 * (-(v - lyA rn rd u)) * ls2 (wk 3) y) (iD rn * max (-iA rn rd u v) 0 * max ((wk 3).toInt - iy) 0) _
    by_cases c : 0 ≤ v - lyA rn rd u
    · rw [if_pos c]
      have := le_i c
      exact zz _ _ (by omega)
    · rw [if_neg c]
      have := nle_i c
      have ne := neg_i (z := v - lyA rn rd u) (by omega)
      exact m3 ⟨by omega, by omega, by omega⟩ (bI_ls (wd (bI_of w.2.2.2.1 (by decide))) hy (by decide) (by decide))
  | 3, _ =>
    show bI (if lyC rn rd u ≤ 0 then 0 else rn 0 * lyC rn rd u * wk 4) (iD rn * (if lyO rn rd u = 1 then (rn 3).toInt else 0) * (wk 4).toInt) _
    have w0 := wi.1
    have w9 := wi.2
    by_cases c : lyC rn rd u ≤ 0
    · rw [if_pos c]
      have := le_i c
      refine zz _ _ ?_
      by_cases d : lyO rn rd u = 1
      · rw [if_pos d] at ac ⊢
        omega
      · rw [if_neg d]
    · rw [if_neg c]
      have := nle_i c
      by_cases d : lyO rn rd u = 1
      · rw [if_pos d] at ac ⊢
        exact m3 ⟨ac, by omega, by omega⟩ (bI_of w.2.2.2.2.1 (by decide))
      · rw [if_neg d] at ac
        by_cases f : lyO rn rd u = 3
        · rw [if_pos f] at ac
          omega
        · rw [if_neg f] at ac
          omega
  | 4, _ =>
    show bI (if 0 ≤ lyC rn rd u then 0 else rn 0 * (-lyC rn rd u) * wk 4) (iD rn * (if lyO rn rd u = 3 then (rn 3).toInt else 0) * (wk 4).toInt) _
    have w0 := wi.1
    have w9 := wi.2
    have d13 : lyO rn rd u = 3 → ¬ lyO rn rd u = 1 := fun z y => absurd (z.symm.trans y) (by decide)
    by_cases c : 0 ≤ lyC rn rd u
    · rw [if_pos c]
      have := le_i c
      refine zz _ _ ?_
      by_cases d : lyO rn rd u = 3
      · rw [if_neg (d13 d), if_pos d] at ac
        rw [if_pos d]
        omega
      · rw [if_neg d]
    · rw [if_neg c]
      have := nle_i c
      by_cases d : lyO rn rd u = 3
      · rw [if_neg (d13 d), if_pos d] at ac
        rw [if_pos d]
        have ne := neg_i (z := lyC rn rd u) (by omega)
        exact m3 ⟨by omega, by omega, by omega⟩ (bI_of w.2.2.2.2.1 (by decide))
      · rw [if_neg d] at ac
        by_cases f : lyO rn rd u = 1
        · rw [if_pos f] at ac
          omega
        · rw [if_neg f] at ac
          omega
  | k + 5, hk => exact absurd hk (by omega)
theorem pt_b (a : RnB rn) (b : RoB rd) (w : WkB wk) (h1 : 1 ≤ v.toInt) (h2 : v.toInt ≤ 9) (k : Nat) (hk : k < 5) : bJ (ptM rn rd wk u v k) (iE rn rd wk u v 0 0 k * iT rd v) 3747643200 := by
  have z := bJ_mul (bJ_mul (bJ_of (it_b (u := u) a b w h1 h2 z_bI z_bI k hk)) (bJ_of (len_b b)) (by decide)) (bJ_of (q_b h1 h2)) (by decide)
  refine ⟨?_, (wt_b (u := u) a b w h1 h2 z_bI z_bI k hk).2⟩
  have e := z.1
  rw [Int.mul_assoc] at e
  exact e
/-- the class's faces are the reference's -/
theorem wt_pt (a : RnB rn) (b : RoB rd) (w : WkB wk) (h1 : 1 ≤ v.toInt) (h2 : v.toInt ≤ 9) (k : Nat) (hk : k < 5) : wtJ wk rd rn u v 0 0 k = ptM rn rd wk u v k := Int64.toInt_inj.mp ((wt_b a b w h1 h2 z_bI z_bI k hk).1.trans (pt_b a b w h1 h2 k hk).1.symm)
theorem bJ_add {x y : Int64} {a b B C : Int} (h : bJ x a B) (g : bJ y b C) (hB : B + C ≤ 4611686018427387904) : bJ (x + y) (a + b) (B + C) := by
  obtain ⟨h1, h2, h3⟩ := h
  obtain ⟨g1, g2, g3⟩ := g
  refine ⟨?_, by omega, by omega⟩
  rw [Int64.toInt_add, h1, g1, Int.bmod_eq_of_le (by omega) (by omega)]
end C30
/-! told in lowest terms -/
section C31
variable {S T : HS} {a b d : Int64} {n k m : Nat} {l : Int32} {Q : Int64 → HS → Prop}
theorem rem_n (ha : a.toInt = (n : Int)) (hb : b.toInt = (k : Int)) (h : ¬ b = 0) : (a - a / b * b).toInt = ((n % k : Nat) : Int) := by
  have hb0 : b.toInt ≠ 0 := fun z => h (Int64.toInt_inj.mp (by simpa using z))
  have h1 : (a.toInt.tmod b.toInt).natAbs < b.toInt.natAbs := by
    rw [Int.natAbs_tmod]
    exact Nat.mod_lt _ (by omega)
  have l1 := b.le_toInt
  have l2 := b.toInt_lt
  have e : (a - a / b * b).toInt = a.toInt.tmod b.toInt := by
    rw [Int64.toInt_sub, Int64.toInt_mul, Int64.toInt_div, Int.bmod_mul_bmod, Int.sub_bmod_bmod, Int.mul_comm, ← Int.tmod_def]
    exact Int.bmod_eq_of_le (by omega) (by omega)
  rw [e, ha, hb]
  exact (Int.ofNat_tmod n k).symm
end C31
/-! legs: rows told, and troubles -/
def spOK (G : GC) (v1 v5 : Int32) : Prop := ¬ (v5 < gWk G v1.toNatClampNeg 5 ∨ gWk G v1.toNatClampNeg 6 < v5)
/-- the class's leg: its two rows are two -/
def LG (c l b0 b1 : Nat) (S : HS) : Prop := fR S c 4 = some l ∧ ob S l 1 ∧ fR S l 0 = some b0 ∧ fR S l 1 = some b1 ∧ b1 ≠ b0
section C32c
variable {rn rn' rd rd' wk wk' : Nat → Int32} {u v x y : Int32} {st : Nat → Int64}
theorem lyT_c (b : ∀ j, j < 5 → rd j = rd' j) : lyT rd v = lyT rd' v := by unfold lyT; rw [b 3 (by decide), b 4 (by decide)]
theorem lyF_c (a : ∀ j, j < 5 → rn j = rn' j) (b : ∀ j, j < 5 → rd j = rd' j) : lyF rn rd v = lyF rn' rd' v := by unfold lyF; rw [lyT_c b, a 0 (by decide)]
theorem lyO_c (a : ∀ j, j < 5 → rn j = rn' j) (b : ∀ j, j < 5 → rd j = rd' j) : lyO rn rd u = lyO rn' rd' u := by unfold lyO; rw [a 2 (by decide), b 2 (by decide)]
theorem lyA_c (a : ∀ j, j < 5 → rn j = rn' j) (b : ∀ j, j < 5 → rd j = rd' j) : lyA rn rd u = lyA rn' rd' u := by unfold lyA; rw [lyO_c a b, a 3 (by decide)]
theorem lyC_c (a : ∀ j, j < 5 → rn j = rn' j) (b : ∀ j, j < 5 → rd j = rd' j) : lyC rn rd u = lyC rn' rd' u := by unfold lyC; rw [lyO_c a b, a 3 (by decide)]
theorem lyS_c (a : ∀ j, j < 5 → rn j = rn' j) (b : ∀ j, j < 5 → rd j = rd' j) : lyS rn rd u v = lyS rn' rd' u v := by
  funext k
  have f := lyF_c (v := v) a b
  have p := lyO_c (u := u) a b
  have q := lyA_c (u := u) a b
  have a1 := a 1 (by decide)
  have a3 := a 3 (by decide)
  match k with
  | 0 => show lyF rn rd v * (rn 1).toInt64 = lyF rn' rd' v * (rn' 1).toInt64; rw [f, a1]
  | 1 => show lyF rn rd v * (mx0 (v - lyA rn rd u)).toInt64 = lyF rn' rd' v * (mx0 (v - lyA rn' rd' u)).toInt64; rw [f, q]
  | 2 => show lyF rn rd v * (mx0 (lyA rn rd u - v)).toInt64 = lyF rn' rd' v * (mx0 (lyA rn' rd' u - v)).toInt64; rw [f, q]
  | 3 => show (if lyO rn rd u = 1 then lyF rn rd v * (rn 3).toInt64 else 0) = (if lyO rn' rd' u = 1 then lyF rn' rd' v * (rn' 3).toInt64 else 0); rw [f, p, a3]
  | k + 4 => show (if lyO rn rd u = 3 then lyF rn rd v * (rn 3).toInt64 else 0) = (if lyO rn' rd' u = 3 then lyF rn' rd' v * (rn' 3).toInt64 else 0); rw [f, p, a3]
theorem shO_c (w : ∀ j, j < 7 → wk j = wk' j) : shO wk = shO wk' := by unfold shO; rw [w 0 (by decide), w 1 (by decide)]
theorem fwJ_c (w : ∀ j, j < 7 → wk j = wk' j) : fwJ st wk = fwJ st wk' := by unfold fwJ; rw [shO_c w, w 2 (by decide), w 3 (by decide)]
theorem skJ_c (w : ∀ j, j < 7 → wk j = wk' j) : skJ st wk x y = skJ st wk' x y := by
  funext k
  have f := fwJ_c (st := st) w
  have s := shO_c w
  have w2 := w 2 (by decide)
  have w3 := w 3 (by decide)
  have w4 := w 4 (by decide)
  match k with
  | 0 => show st 0 * (mx0 (wk 2 - dc (fwJ st wk) 0 (shO wk))).toInt64 = st 0 * (mx0 (wk' 2 - dc (fwJ st wk') 0 (shO wk'))).toInt64; rw [f, s, w2]
  | 1 => show st 1 * (mx0 (wk 3 - dc (fwJ st wk) (shO wk) 0 - x)).toInt64 = st 1 * (mx0 (wk' 3 - dc (fwJ st wk') (shO wk') 0 - x)).toInt64; rw [f, s, w3]
  | 2 => show st 2 * (mx0 (wk 3 - y)).toInt64 = st 2 * (mx0 (wk' 3 - y)).toInt64; rw [w3]
  | 3 => show st 3 * (wk 4).toInt64 = st 3 * (wk' 4).toInt64; rw [w4]
  | k + 4 => show st 4 * (wk 4).toInt64 = st 4 * (wk' 4).toInt64; rw [w4]
theorem wtJ_c (a : ∀ j, j < 5 → rn j = rn' j) (b : ∀ j, j < 5 → rd j = rd' j) (w : ∀ j, j < 7 → wk j = wk' j) : wtJ wk rd rn u v x y = wtJ wk' rd' rn' u v x y := by unfold wtJ; rw [skJ_c w, lyS_c a b]
theorem fwM_c (a : ∀ j, j < 5 → rn j = rn' j) (b : ∀ j, j < 5 → rd j = rd' j) (w : ∀ j, j < 7 → wk j = wk' j) : fwM rn rd wk u v = fwM rn' rd' wk' u v := by unfold fwM; rw [lyA_c a b, shO_c w, a 0 (by decide), a 1 (by decide), b 3 (by decide), b 4 (by decide), w 2 (by decide), w 3 (by decide)]
theorem itM_c (a : ∀ j, j < 5 → rn j = rn' j) (b : ∀ j, j < 5 → rd j = rd' j) (w : ∀ j, j < 7 → wk j = wk' j) : itM rn rd wk u v x y = itM rn' rd' wk' u v x y := by
  funext k
  have f := fwM_c (u := u) (v := v) a b w
  have s := shO_c w
  have q := lyA_c (u := u) a b
  have r := lyC_c (u := u) a b
  have a0 := a 0 (by decide)
  have a1 := a 1 (by decide)
  have w2 := w 2 (by decide)
  have w3 := w 3 (by decide)
  have w4 := w 4 (by decide)
  match k with
  | 0 => show rn 0 * rn 1 * ls2 (wk 2) (dc (fwM rn rd wk u v) 0 (shO wk)) = rn' 0 * rn' 1 * ls2 (wk' 2) (dc (fwM rn' rd' wk' u v) 0 (shO wk')); rw [f, s, a0, a1, w2]
  | 1 => show (if v - lyA rn rd u ≤ 0 then 0 else rn 0 * (v - lyA rn rd u) * ls2 (ls2 (wk 3) (dc (fwM rn rd wk u v) (shO wk) 0)) x) = (if v - lyA rn' rd' u ≤ 0 then 0 else rn' 0 * (v - lyA rn' rd' u) * ls2 (ls2 (wk' 3) (dc (fwM rn' rd' wk' u v) (shO wk') 0)) x); rw [f, s, q, a0, w3]
  | 2 => show (if 0 ≤ v - lyA rn rd u then 0 else rn 0 * (-(v - lyA rn rd u)) * ls2 (wk 3) y) = (if 0 ≤ v - lyA rn' rd' u then 0 else rn' 0 * (-(v - lyA rn' rd' u)) * ls2 (wk' 3) y); rw [q, a0, w3]
  | 3 => show (if lyC rn rd u ≤ 0 then 0 else rn 0 * lyC rn rd u * wk 4) = (if lyC rn' rd' u ≤ 0 then 0 else rn' 0 * lyC rn' rd' u * wk' 4); rw [r, a0, w4]
  | k + 4 => show (if 0 ≤ lyC rn rd u then 0 else rn 0 * (-lyC rn rd u) * wk 4) = (if 0 ≤ lyC rn' rd' u then 0 else rn' 0 * (-lyC rn' rd' u) * wk' 4); rw [r, a0, w4]
theorem ptM_c (a : ∀ j, j < 5 → rn j = rn' j) (b : ∀ j, j < 5 → rd j = rd' j) (w : ∀ j, j < 7 → wk j = wk' j) : ptM rn rd wk u v = ptM rn' rd' wk' u v := by
  funext k
  unfold ptM
  rw [itM_c a b w, b 3 (by decide), b 4 (by decide)]
end C32c
section C32
variable {c m w l b0 b1 a o rd : Nat} {A : AS} {G : GC} {S T : HS} {v1 v2 v3 v4 v5 z : Int32} {Q : Int32 → HS → Prop}

theorem sp_X9_refusedBy (h : P_X9_refusedBy c v1 Q S) : P_X9_refusedBy c v1 (fun x T => Q x T ∧ T = sI S c 9 v1 ∧ ans (¬ v1 = 0) x) S := by
  delta P_X9_refusedBy P_X9_refusedBy_0
  obtain ⟨o, h⟩ := h
  refine ⟨o, fun S1 e => ?_⟩
  have h := h S1 e
  exact ⟨fun q => ⟨h.1 q, e, Or.inr ⟨fun z => z q, rfl⟩⟩, fun q => ⟨h.2 q, e, Or.inl ⟨q, rfl⟩⟩⟩
/-- the reference's rows are what was told -/
theorem m_rows (hE : ∀ i, 7 ≤ i → i ≤ 27 → ∃ b, fR S rd i = some b) (hr : WRm m rd A G S) (h1 : v1.toNatClampNeg < aW A) (h2 : v2.toNatClampNeg < aR A) (h4 : v4.toNatClampNeg < aHs A) : (∀ j, j < 5 → mRn S rd v4.toNatClampNeg j = gRn G v4.toNatClampNeg j) ∧ (∀ j, j < 5 → mRd S rd v2.toNatClampNeg j = gRd G v2.toNatClampNeg j) ∧ ∀ j, j < 7 → mWk S rd v1.toNatClampNeg j = gWk G v1.toNatClampNeg j := by
  refine ⟨fun j hj => ?_, fun j hj => ?_, fun j hj => ?_⟩
  · obtain ⟨b, e⟩ := hE (7 + j) (by omega) (by omega)
    rw [← mrn e]
    match j, hj with
    | 0, _ => exact hr.2.2.2.1 7 b (by decide) (by decide) e v4.toNatClampNeg h4
    | 1, _ => exact hr.2.2.2.1 8 b (by decide) (by decide) e v4.toNatClampNeg h4
    | 2, _ => exact hr.2.2.2.1 9 b (by decide) (by decide) e v4.toNatClampNeg h4
    | 3, _ => exact hr.2.2.2.1 10 b (by decide) (by decide) e v4.toNatClampNeg h4
    | 4, _ => exact hr.2.2.2.1 11 b (by decide) (by decide) e v4.toNatClampNeg h4
    | j + 5, hj => exact absurd hj (by omega)
  · obtain ⟨b, e⟩ := hE (13 + j) (by omega) (by omega)
    rw [← mrd e]
    match j, hj with
    | 0, _ => exact hr.2.2.2.1 13 b (by decide) (by decide) e v2.toNatClampNeg h2
    | 1, _ => exact hr.2.2.2.1 14 b (by decide) (by decide) e v2.toNatClampNeg h2
    | 2, _ => exact hr.2.2.2.1 15 b (by decide) (by decide) e v2.toNatClampNeg h2
    | 3, _ => exact hr.2.2.2.1 16 b (by decide) (by decide) e v2.toNatClampNeg h2
    | 4, _ => exact hr.2.2.2.1 17 b (by decide) (by decide) e v2.toNatClampNeg h2
    | j + 5, hj => exact absurd hj (by omega)
  · obtain ⟨b, e⟩ := hE (19 + j) (by omega) (by omega)
    rw [← mwk e]
    match j, hj with
    | 0, _ => exact hr.2.2.2.1 19 b (by decide) (by decide) e v1.toNatClampNeg h1
    | 1, _ => exact hr.2.2.2.1 20 b (by decide) (by decide) e v1.toNatClampNeg h1
    | 2, _ => exact hr.2.2.2.1 21 b (by decide) (by decide) e v1.toNatClampNeg h1
    | 3, _ => exact hr.2.2.2.1 22 b (by decide) (by decide) e v1.toNatClampNeg h1
    | 4, _ => exact hr.2.2.2.1 23 b (by decide) (by decide) e v1.toNatClampNeg h1
    | 5, _ => exact hr.2.2.2.1 24 b (by decide) (by decide) e v1.toNatClampNeg h1
    | 6, _ => exact hr.2.2.2.1 25 b (by decide) (by decide) e v1.toNatClampNeg h1
    | j + 7, hj => exact absurd hj (by omega)
end C32
end
section
/-! what face, wet, mean, held tell -/
section C33
variable {c m : Nat} {A : AS} {G : GC} {S T : HS} {v1 v2 v3 v4 v5 v6 v7 : Int32} {Q : Int32 → HS → Prop} {QJ : Int64 → HS → Prop}
theorem ok_v (w : WkB (gWk G v1.toNatClampNeg)) (h : spOK G v1 v5) : 1 ≤ v5.toInt ∧ v5.toInt ≤ 9 ∧ ¬ v5 ≤ 0 := by
  have q1 := nlt_i (fun z => h (Or.inl z))
  have q2 := nlt_i (fun z => h (Or.inr z))
  have w5 := w.2.2.2.2.2.1.1
  have w6 := w.2.2.2.2.2.2.2
  refine ⟨by omega, by omega, fun z => ?_⟩
  have := le_i z
  have e0 : (0 : Int32).toInt = 0 := by decide
  omega
theorem m_start {S1 : HS} (hI : IV S) (eS1 : S1 = sI S m 0 0) : ∀ rd i, ob S1 rd 10 → 7 ≤ i → i ≤ 27 → ∃ b, fR S1 rd i = some b := fun rd i o10 h1 h2 => by
  have hs : ∀ i, i < 28 → 7 ≤ i → ∃ s ∈ shT, s.1 = 10 ∧ s.2.1 = i := by decide
  obtain ⟨s, hs, q1, q2⟩ := hs i (by omega) h1
  have fr : fR S1 = fR S := by rw [eS1]; rfl
  have oo : ob S rd 10 := by
    rw [eS1] at o10
    exact o10
  obtain ⟨d, e1, -, -⟩ := hI.1 s hs rd (by rw [q1]; exact oo)
  rw [q2] at e1
  exact ⟨d, by rw [fr]; exact e1⟩
end C33
/-! the best and the worst speed -/
section C34p
variable {W W' : Nat → Int64} {s n f : Nat}
theorem lgc_eq {x y : Int64} : lg_cmp x y = 0 ↔ x = y := by
  unfold lg_cmp
  by_cases c : x > y
  · rw [if_pos c]
    have := Int64.lt_iff_toInt_lt.mp c
    exact ⟨fun z => absurd z (by decide), fun z => by rw [z] at this; omega⟩
  · rw [if_neg c]
    by_cases d : x = y
    · rw [if_pos d]
      exact ⟨fun _ => d, fun _ => rfl⟩
    · rw [if_neg d]
      exact ⟨fun z => absurd z (by decide), fun z => absurd z d⟩
end C34p
section C34
variable {m rd v0 v1 v2 v4 b0 b1 s f : Nat} {S T : HS} {u : Int32} {w1 w2 w3 w4 : Int32} {W : Nat → Int64} {Q : Int32 → HS → Prop} {QJ : Int64 → HS → Prop}
end C34
end
section
/-! what lee and first tell -/
def tsum (f h : Nat → Int64) : Nat → Int64
  | 0 => 0
  | n + 1 => tsum f h n + f n + h n
noncomputable def tgM (rn rd wa wb : Nat → Int32) (u v : Int32) : Int64 := tsum (fun k => (itM rn rd wa u v 0 (wb 3) k).toInt64) (fun k => (itM rn rd wb u v (wa 3) 0 k).toInt64) 5 * (rd 3 - rd 4).toInt64 * ((2520 : Int32) / v).toInt64
noncomputable def gT (G : GC) (v1 v2 v3 v4 v5 v6 : Int32) : Int64 := tgM (gRn G v5.toNatClampNeg) (gRd G v3.toNatClampNeg) (gWk G v1.toNatClampNeg) (gWk G v2.toNatClampNeg) v4 v6
section C37p
variable {rn rn' rd rd' wa wa' wb wb' : Nat → Int32} {u v : Int32} {st : Nat → Int64}
end C37p
section C37
variable {c m rd v0 a1 a2 b0 b1 : Nat} {A : AS} {G : GC} {S T : HS} {v1 v2 v3 v4 v5 v6 v7 : Int32} {Q : Int32 → HS → Prop} {QJ : Int64 → HS → Prop}
end C37
/-! the class's leg keeps its two rows -/
def LGx (c : Nat) (S : HS) : Prop := ∃ l b0 b1, LG c l b0 b1 S
section C38
variable {c m a3 : Nat} {S T U : HS} {wi wr : List (Nat × Nat)}
theorem lg_keep (oc : ob S c 9) (h : LGx c S) (g : Gr S T) (F : FRI wi wr S T) (h4 : (9, 4) ∉ wr) (h0 : (1, 0) ∉ wr) (h1 : (1, 1) ∉ wr) : LGx c T := by
  obtain ⟨l, b0, b1, e1, e2, e3, e4, e5⟩ := h
  exact ⟨l, b0, b1, (F.2 9 4 (by decide) h4 c oc).trans e1, gr_ob g e2, (F.2 1 0 (by decide) h0 l e2).trans e3, (F.2 1 1 (by decide) h1 l e2).trans e4, e5⟩
theorem lg_start {F : List (Nat × Nat × Nat)} {g : Nat → Int32} (hI : IV S) (oc : ob S c 9) (u : UZ S) (hf : m ∉ hL S) (bx : BX (nW S m 11 0) T m F g) (ha : a3 ∉ hL T) (e5 : U = nW T a3 14 1) : LGx c U := by
  have gn : Gr S (nW S m 11 0) := gr_of_new rfl hf
  have gT : Gr S T := gr_tr gn bx.1
  have gU : Gr T U := gr_of_new e5 ha
  have g : Gr S U := gr_tr gT gU
  have row : ∀ x, x ∈ hL S → fR U x = fR S x := fun x hx => by
    have xm : x ≠ m := fun z => hf (z ▸ hx)
    have xa : x ≠ a3 := fun z => ha (z ▸ (gT x hx).1)
    have q := bx.2.1 x (gn x hx).1 xm
    rw [e5]
    exact (va_up_ne _ _ xa).trans (q.2.2.trans (va_up_ne _ _ xm))
  obtain ⟨l, e1, o1, -⟩ := hI.1 (9, 4, 1, 0) (by decide) c oc
  obtain ⟨b0, k0, -, -⟩ := hI.1 (1, 0, 14, 5) (by decide) l o1
  obtain ⟨b1, k1, -, -⟩ := hI.1 (1, 1, 14, 5) (by decide) l o1
  refine ⟨l, b0, b1, by rw [row c oc.1]; exact e1, gr_ob g o1, by rw [row l o1.1]; exact k0, by rw [row l o1.1]; exact k1, fun z => ?_⟩
  exact absurd (u.1.2 l 0 l 1 b0 k0 (z ▸ k1)).2 (by decide)
end C38
end
section
/-! more bounds: names, ends of roads, who was seen, the hour -/
def NMd (A : AS) : Prop := aP A ≤ 8 ∧ aW A ≤ 4 ∧ ∀ i, i < aM A → aI A i < aP A ∨ (8 ≤ aI A i ∧ aI A i < 8 + aW A)
def GBe (A : AS) (G : GC) : Prop := NMd A ∧ (∀ i, i < aR A → (gRd G i 0).toInt < (aP A : Int) ∧ (gRd G i 1).toInt < (aP A : Int)) ∧ ∀ i, i < aS A → inI 0 ((aW A : Int) - 1) (gSn G i 0)
def Tld (m : Nat) (A : AS) (S : HS) : Prop := fR S m 3 = none ∨ 0 < aH A
section C39
variable {f : Nat → Int32} {n p q : Nat} {A : AS} {G : GC}
theorem lkr_ex {nv : Nat → Int64} {ni : Nat → Nat} {v : Int64} : ∀ (k i q : Nat), lkr nv ni v k i = some q → ∃ j, i ≤ j ∧ j < i + k ∧ q = ni j
  | 0, _, q, h => by cases h
  | k + 1, i, q, h => by
    simp only [lkr] at h
    split at h
    · cases h
      exact ⟨i, by omega, by omega, rfl⟩
    · obtain ⟨j, a, b, c⟩ := lkr_ex k (i + 1) q h
      exact ⟨j, by omega, by omega, c⟩
theorem nm_lk {v : Int64} {q : Nat} (h : NMd A) (e : lkr (aV A) (aI A) v (aM A) 0 = some q) : q < aP A ∨ (8 ≤ q ∧ q < 8 + aW A) := by
  obtain ⟨j, -, b, c⟩ := lkr_ex _ _ _ e
  rw [c]
  exact h.2.2 j (by omega)
theorem gz_road (nm : NMd A) (h : sRoad f n p A = .inl q) : (rdC f n p A 0).toInt < (aP A : Int) ∧ (rdC f n p A 1).toInt < (aP A : Int) := by
  unfold sRoad at h
  obtain ⟨p1, h1, h⟩ := rb_inl h
  obtain ⟨p2, h2, h⟩ := rb_inl h
  obtain ⟨p3, h3, h⟩ := rb_inl h
  obtain ⟨p4, h4, h⟩ := rb_inl h
  obtain ⟨e1, k1, g1, l1⟩ := sPB_inl h1
  obtain ⟨e4, k4, g4, l4⟩ := sPB_inl h4
  have e2 := sSide_inl h2
  have e3 := sWhole_inl h3
  subst e1
  subst e2
  subst e3
  subst e4
  have q1 := nm_lk nm g1
  have q4 := nm_lk nm g4
  refine ⟨?_, ?_⟩
  · show (nI (lkV A (tV f n p))).toInt < _
    rw [lkV_of g1, nI_i (by omega)]
    omega
  · show (nI (lkV A _)).toInt < _
    rw [show lkV A (tV f n (tEn f n (e2 f n p))) = k4 from lkV_of g4, nI_i (by omega)]
    omega
theorem gz_seen (nm : NMd A) (h : sSeen f n p A = .inl q) : inI 0 ((aW A : Int) - 1) (snC f n p A 0) := by
  unfold sSeen at h
  obtain ⟨p1, h1, h⟩ := rb_inl h
  have ex : ∃ k, lkr (aV A) (aI A) (tV f n p) (aM A) 0 = some k ∧ ¬ k < 8 := by
    by_cases ok : nmOk f n p
    · cases hl : lkr (aV A) (aI A) (tV f n p) (aM A) 0 with
      | none =>
        unfold sSW at h1
        rw [dc_y ok, hl] at h1
        cases h1
      | some k =>
        refine ⟨k, rfl, fun z => ?_⟩
        rw [sSW_some ok hl, if_pos z] at h1
        cases h1
    · unfold sSW at h1
      rw [dc_n ok] at h1
      cases h1
  obtain ⟨k, g, k8⟩ := ex
  have w := nm_lk nm g
  have p8 := nm.1
  have w4 := nm.2.1
  show inI 0 _ (nI (lkV A (tV f n p) - 8))
  rw [lkV_of g]
  unfold inI
  rw [nI_i (by omega)]
  omega
theorem gz_ln (h : sLn f n p A = .inl q) (b : GBe A G) : GBe (aLn f n p A) (gLn f n p A G) := by
  obtain ⟨⟨b8, b4, bn⟩, b1, b2⟩ := b
  have nm : NMd A := ⟨b8, b4, bn⟩
  unfold sLn at h
  unfold aLn gLn
  by_cases w0 : isW f n p 0
  · rw [dc_y w0, dc_y w0]
    exact ⟨⟨b8, b4, bn⟩, b1, b2⟩
  rw [dc_n w0] at h
  rw [dc_n w0, dc_n w0]
  by_cases w2 : isW f n p 2
  · rw [dc_y w2, dc_y w2]
    exact ⟨⟨b8, b4, bn⟩, b1, b2⟩
  rw [dc_n w2] at h
  rw [dc_n w2, dc_n w2]
  by_cases w11 : isW f n p 11
  · rw [dc_y w11] at h
    rw [dc_y w11, dc_y w11]
    obtain ⟨p1, h1, h⟩ := rb_inl h
    have r := (sRoom_inl h1).2.1
    refine ⟨⟨r, b4, fun i hi => ?_⟩, fun i hi => ?_, b2⟩
    · have hi : i < aM A + 1 := hi
      show va_up (aI A) (aM A) (aP A) i < aP A + 1 ∨ (8 ≤ va_up (aI A) (aM A) (aP A) i ∧ va_up (aI A) (aM A) (aP A) i < 8 + aW A)
      by_cases z : i = aM A
      · rw [z, va_up_self]
        exact Or.inl (by omega)
      · rw [va_up_ne _ _ z]
        have := bn i (by omega)
        omega
    · have q := b1 i hi
      have q1 := q.1
      have q2 := q.2
      show (gRd G i 0).toInt < ((aP A + 1 : Nat) : Int) ∧ (gRd G i 1).toInt < ((aP A + 1 : Nat) : Int)
      omega
  rw [dc_n w11] at h
  rw [dc_n w11, dc_n w11]
  by_cases w12 : isW f n p 12
  · rw [dc_y w12] at h
    rw [dc_y w12, dc_y w12]
    obtain ⟨p1, h1, h⟩ := rb_inl h
    rw [(sRoom_inl h1).1] at h
    exact ⟨⟨b8, b4, bn⟩, up_lt (P := fun g => (g 0).toInt < (aP A : Int) ∧ (g 1).toInt < (aP A : Int)) b1 (gz_road nm h), b2⟩
  rw [dc_n w12] at h
  rw [dc_n w12, dc_n w12]
  by_cases w13 : isW f n p 13
  · rw [dc_y w13] at h
    rw [dc_y w13, dc_y w13]
    obtain ⟨p1, h1, h⟩ := rb_inl h
    have r := (sRoom_inl h1).2.1
    refine ⟨⟨b8, r, fun i hi => ?_⟩, b1, fun i hi => ?_⟩
    · have hi : i < aM A + 1 := hi
      show va_up (aI A) (aM A) (8 + aW A) i < aP A ∨ (8 ≤ va_up (aI A) (aM A) (8 + aW A) i ∧ va_up (aI A) (aM A) (8 + aW A) i < 8 + (aW A + 1))
      by_cases z : i = aM A
      · rw [z, va_up_self]
        exact Or.inr (by omega)
      · rw [va_up_ne _ _ z]
        have := bn i (by omega)
        omega
    · have q := b2 i hi
      have q1 := q.1
      have q2 := q.2
      show 0 ≤ (gSn G i 0).toInt ∧ (gSn G i 0).toInt ≤ ((aW A + 1 : Nat) : Int) - 1
      omega
  rw [dc_n w13] at h
  rw [dc_n w13, dc_n w13]
  by_cases w14 : isW f n p 14
  · rw [dc_y w14] at h
    obtain ⟨p1, h1, h⟩ := rb_inl h
    rw [(sRoom_inl h1).1] at h
    exact ⟨⟨b8, b4, bn⟩, b1, up_lt (P := fun g => inI 0 ((aW A : Int) - 1) (g 0)) b2 (gz_seen nm h)⟩
  · rw [dc_n w14] at h
    cases h
theorem gz_hr (h : sLn f n p A = .inl q) : 0 < aH (aLn f n p A) := by
  unfold sLn at h
  unfold aLn
  by_cases w0 : isW f n p 0
  · rw [dc_y w0] at h
    rw [dc_y w0]
    unfold sWorld at h
    split at h
    · have b := (t32 (part_in h) (lo := 5) (hi := 60) rfl rfl (by decide) (by decide)).1
      have b1 := b.1
      show 0 < (tV f n (tEn f n (tEn f n p))).toInt32.toInt.toNat
      omega
    · cases h
  rw [dc_n w0] at h
  rw [dc_n w0]
  by_cases w2 : isW f n p 2
  · rw [dc_y w2] at h
    rw [dc_y w2]
    obtain ⟨p1, h1, h⟩ := rb_inl h
    exact (sRoom_inl h1).2.2
  rw [dc_n w2] at h
  rw [dc_n w2]
  by_cases w11 : isW f n p 11
  · rw [dc_y w11] at h
    rw [dc_y w11]
    obtain ⟨p1, h1, h⟩ := rb_inl h
    exact (sRoom_inl h1).2.2
  rw [dc_n w11] at h
  rw [dc_n w11]
  by_cases w12 : isW f n p 12
  · rw [dc_y w12] at h
    rw [dc_y w12]
    obtain ⟨p1, h1, h⟩ := rb_inl h
    exact (sRoom_inl h1).2.2
  rw [dc_n w12] at h
  rw [dc_n w12]
  by_cases w13 : isW f n p 13
  · rw [dc_y w13] at h
    rw [dc_y w13]
    obtain ⟨p1, h1, h⟩ := rb_inl h
    exact (sRoom_inl h1).2.2
  rw [dc_n w13] at h
  rw [dc_n w13]
  by_cases w14 : isW f n p 14
  · rw [dc_y w14] at h
    obtain ⟨p1, h1, h⟩ := rb_inl h
    exact (sRoom_inl h1).2.2
  · rw [dc_n w14] at h
    cases h
theorem gz_all : ∀ (k p : Nat) (A A' : AS) (G : GC), sAll f n k p A = .inl A' → GBe A G → GBe A' (gAll f n k p A G) ∧ 0 < aH A' := by
  intro k
  induction k with
  | zero => intro p A A' G h b; cases h
  | succ k ih =>
    intro p A A' G h b
    have h : aft f n (aLn f n p A) (fun p2 => sAll f n k p2 (aLn f n p A)) (sLn f n p A) = .inl A' := h
    show GBe A' (gAft f n G (gLn f n p A G) (fun p2 => gAll f n k p2 (aLn f n p A) (gLn f n p A G)) (sLn f n p A)) ∧ 0 < aH A'
    cases hL : sLn f n p A with
    | inr e => rw [hL] at h; cases h
    | inl p1 =>
      rw [hL] at h
      have b := gz_ln hL b
      have hh := gz_hr hL
      unfold aft at h
      unfold gAft
      by_cases c0 : tS f n p1 = 0
      · simp only [if_pos c0] at h ⊢
        split at h
        · cases h
          exact ⟨b, hh⟩
        · cases h
      · simp only [if_neg c0] at h ⊢
        cases hS : sSign f n p1 3 with
        | inr e => rw [hS] at h; cases h
        | inl p2 =>
          rw [hS] at h
          exact ih p2 _ _ _ h b
theorem gz_00 : GBe A00 G00 := ⟨⟨by decide, by decide, fun h hh => absurd hh (Nat.not_lt_zero h)⟩, fun h hh => absurd hh (Nat.not_lt_zero h), fun h hh => absurd hh (Nat.not_lt_zero h)⟩
theorem rw_gz {t : Nat} {v1 : Int32} {pr : AS × GC} (h : RWo f t v1 = some pr) : GBe pr.1 pr.2 ∧ 0 < aH pr.1 := by
  unfold RWo at h
  by_cases c : v1 < 0 ∨ nI t < v1
  · rw [dc_y c] at h
    cases h
  · rw [dc_n c] at h
    unfold RWs at h
    cases hR : sAll f v1.toNatClampNeg 1000 0 A00 with
    | inr e => rw [hR] at h; cases h
    | inl A =>
      rw [hR] at h
      cases h
      exact gz_all 1000 0 A00 A G00 hR gz_00
end C39
section C39b
variable {c r w w1 w2 m rd a t : Nat} {A : AS} {G : GC} {S T U : HS} {wi wr : List (Nat × Nat)} {R : Option (AS × GC)}
theorem td_keep (om : ob S m 11) (h : Tld m A S) (F : FRI wi wr S T) (h3 : (11, 3) ∉ wr) : Tld m A T := by
  unfold Tld
  rw [F.2 11 3 (by decide) h3 m om]
  exact h
theorem td_start {a3 : Nat} {F : List (Nat × Nat × Nat)} {g : Nat → Int32} (hf : m ∉ hL S) (bx : BX (nW S m 11 0) T m F g) (h3 : ∀ e ∈ F, e.1 ≠ 3) (ha : a3 ∉ hL T) (e5 : U = nW T a3 14 1) : fR U m 3 = none := by
  have mi : m ∈ hL (nW S m 11 0) := by
    show m ∈ hL S ++ [m]
    simp
  have ma : m ≠ a3 := fun z => ha (z ▸ (bx.1 m mi).1)
  have rowm : fR U m = fR T m := by rw [e5]; exact va_up_ne _ _ ma
  rw [rowm, bx.2.2.2.2.2.2.2.2 3 h3]
  exact congrFun (va_up_self (fR S) m (fun _ => none)) 3
end C39b
/-! what was seen: legs by number, those that fit -/
section C40a
variable {P : Nat → Prop} {cd : Nat → Int32} {v x : Int32} {a b k N : Nat}
theorem nJ_mul (a b : Nat) : nI a * nI b = nI (a * b) := (Int32.ofNat_mul a b).symm
end C40a
section C40b
variable {A : AS} {i ro y hh vv : Nat}
end C40b
/-! the class: which legs fit -/
section C40c
variable {c m w r w1 w2 l b0 b1 : Nat} {A : AS} {G : GC} {S T : HS} {v1 v2 v3 v4 v5 v6 : Int32} {Q : Int32 → HS → Prop} {gg ff : Nat → Nat → Int64}
end C40c
end
section
/-! which rows of longs a run leaves as they were: those that no joint in L holds; and the rows of Moments, unless b is false -/
abbrev nyT : List (Nat × Nat) := [(1, 0), (1, 1), (2, 2), (4, 11), (7, 1), (7, 7), (10, 28), (11, 16), (11, 21), (11, 22), (11, 23)]
def NW9 (L : List (Nat × Nat)) (S : HS) (a : Nat) : Prop := ∀ q ∈ L, ∀ x, ob S x q.1 → fR S x q.2 ≠ some a
def PR9 (L : List (Nat × Nat)) (S : HS) (a : Nat) : Prop := ob S a 14 ∧ NW9 L S a
def K9 (b : Bool) (L : List (Nat × Nat)) (S T : HS) : Prop := Gr S T ∧ (b = true → ∀ a, ob S a 16 → fR T a = fR S a) ∧ ∀ a, PR9 L S a → fJ T a = fJ S a ∧ NW9 L T a
def KN9 (L : List (Nat × Nat)) (S : HS) (x : Nat) : Prop := ∀ a, PR9 L S a → a ≠ x
section K9s
variable {b : Bool} {L : List (Nat × Nat)} {S T U : HS} {a k j x y : Nat}
theorem ny_k (hU : ∀ q ∈ L, q ∈ nyT) {q : Nat × Nat} (h : q ∈ L) : q.1 < 12 := by
  have h := hU q h
  simp only [List.mem_cons, List.not_mem_nil, or_false] at h
  rcases h with rfl | rfl | rfl | rfl | rfl | rfl | rfl | rfl | rfl | rfl | rfl <;> decide
theorem k9_rf (b : Bool) (L : List (Nat × Nat)) (S : HS) : K9 b L S S := ⟨gr_rf S, fun _ _ _ => rfl, fun _ h => ⟨rfl, h.2⟩⟩
theorem k9_tr (h : K9 b L S T) (g : K9 b L T U) : K9 b L S U := ⟨gr_tr h.1 g.1, fun z a o => (g.2.1 z a (gr_ob h.1 o)).trans (h.2.1 z a o), fun a p => by
  have q := h.2.2 a p
  have r := g.2.2 a ⟨gr_ob h.1 p.1, q.2⟩
  exact ⟨r.1.trans q.1, r.2⟩⟩
theorem k9_I {v : Int32} (h : K9 b L S T) (e : U = sI T x j v) : K9 b L S U := by
  rw [e]
  exact h
theorem k9_J {v : Int64} (h : K9 b L S T) (e : U = sJ T x j v) (hx : KN9 L S x) : K9 b L S U := by
  rw [e]
  exact ⟨h.1, h.2.1, fun a p => ⟨(u2_row _ _ (hx a p)).trans (h.2.2 a p).1, (h.2.2 a p).2⟩⟩
theorem k9_rr {v : Option Nat} (e : U = sR T x j v) : (∀ y i, ¬ (y = x ∧ i = j) → fR U y i = fR T y i) ∧ fJ U = fJ T := by
  rw [e]
  exact ⟨fun y i hy => u2_ne _ _ hy, rfl⟩
theorem k9_16 {v : Option Nat} (h : K9 b L S T) (e : U = sR T x j v) (o : ob T x k) (hk : k ≠ 16) : b = true → ∀ a, ob S a 16 → fR U a = fR S a := fun z a oa => by
  have hne : a ≠ x := fun z => hk (ob_inj o (z ▸ gr_ob h.1 oa))
  exact (funext fun i => (k9_rr e).1 a i (fun z => hne z.1)).trans (h.2.1 z a oa)
theorem k9_R {v : Option Nat} (h : K9 b L S T) (hU : ∀ q ∈ L, q ∈ nyT) (e : U = sR T x j v) (o : ob T x k) (hn : (k, j) ∉ nyT) (hk : k ≠ 16) : K9 b L S U := by
  refine ⟨by rw [e]; exact h.1, k9_16 h e o hk, fun a p => ⟨by rw [(k9_rr e).2]; exact (h.2.2 a p).1, fun q hq y oy z => ?_⟩⟩
  have oy : ob T y q.1 := by rw [e] at oy; exact oy
  by_cases c : y = x ∧ q.2 = j
  · have : q.1 = k := ob_inj oy (c.1 ▸ o)
    exact hn (by rw [← this, ← c.2]; exact hU q hq)
  · rw [(k9_rr e).1 y q.2 c] at z
    exact (h.2.2 a p).2 q hq y oy z
theorem k9_A {v : Option Nat} (h : K9 b L S T) (hU : ∀ q ∈ L, q ∈ nyT) (e : U = sR T x j v) (o : ob T x k) (hk : 12 ≤ k) : ∀ a, PR9 L S a → fJ U a = fJ S a ∧ NW9 L U a := fun a p => ⟨by rw [(k9_rr e).2]; exact (h.2.2 a p).1, fun q hq y oy z => by
  have oy : ob T y q.1 := by rw [e] at oy; exact oy
  by_cases c : y = x ∧ q.2 = j
  · have e1 : q.1 = k := ob_inj oy (c.1 ▸ o)
    have := ny_k hU hq
    omega
  · rw [(k9_rr e).1 y q.2 c] at z
    exact (h.2.2 a p).2 q hq y oy z⟩
theorem k9_RB {v : Option Nat} (h : K9 b L S T) (hU : ∀ q ∈ L, q ∈ nyT) (e : U = sR T x j v) (o : ob T x 16) (hb : b = false) : K9 b L S U := ⟨by rw [e]; exact h.1, fun z => absurd (hb.symm.trans z) (by decide), k9_A h hU e o (by decide)⟩
theorem k9_S (h : K9 b L S T) (e : U = sR T x j (some y)) (o : ob T x k) (hy : KN9 L S y) (hk : k ≠ 16) : K9 b L S U := by
  refine ⟨by rw [e]; exact h.1, k9_16 h e o hk, fun a p => ⟨by rw [(k9_rr e).2]; exact (h.2.2 a p).1, fun q hq w ow z => ?_⟩⟩
  have ow : ob T w q.1 := by rw [e] at ow; exact ow
  by_cases c : w = x ∧ q.2 = j
  · rw [c.1, c.2, e] at z
    have z : u2 (fR T) x j (some y) x j = some a := z
    rw [u2_self] at z
    cases z
    exact hy y p rfl
  · rw [(k9_rr e).1 w q.2 c] at z
    exact (h.2.2 a p).2 q hq w ow z
theorem k9_W {n : Nat} (h : K9 b L S T) (ha : x ∉ hL T) (e : U = nW T x k n) : K9 b L S U := by
  have r : ∀ y, y ≠ x → fR U y = fR T y ∧ fJ U y = fJ T y := fun y hy => by rw [e]; exact ⟨va_up_ne _ _ hy, va_up_ne _ _ hy⟩
  have g := gr_of_new e ha
  refine ⟨gr_tr h.1 g, fun z a oa => ?_, fun a p => ?_⟩
  · have : a ≠ x := fun z => ha (z ▸ (gr_ob h.1 oa).1)
    exact (r a this).1.trans (h.2.1 z a oa)
  · have hne : a ≠ x := fun z => ha (z ▸ (gr_ob h.1 p.1).1)
    refine ⟨(r a hne).2.trans (h.2.2 a p).1, fun q hq y oy z => ?_⟩
    by_cases c : y = x
    · rw [c, e] at z
      have z : va_up (fR T) x (fun _ => none) x q.2 = some a := z
      rw [va_up_self] at z
      cases z
    · rw [(r y c).1] at z
      have oy : ob T y q.1 := by
        rw [e] at oy
        obtain ⟨o1, o2⟩ := oy
        refine ⟨?_, ?_⟩
        · have o1 : y ∈ hL T ++ [x] := o1
          rcases List.mem_append.mp o1 with q | q
          · exact q
          · exact absurd (List.mem_singleton.mp q) c
        · have o2 : va_up (hK T) x k y = q.1 := o2
          rw [va_up_ne _ _ c] at o2
          exact o2
      exact (h.2.2 a p).2 q hq y oy z
theorem k9_nf (h : K9 b L S T) (ha : x ∉ hL T) : KN9 L S x := fun a p z => ha (z ▸ (gr_ob h.1 p.1).1)
theorem k9_nk (h : K9 b L S T) (o : ob T x k) (hk : k ≠ 14) : KN9 L S x := fun a p z => hk (ob_inj o (z ▸ gr_ob h.1 p.1))
theorem k9_nr (h : K9 b L S T) (e : fR T x j = some y) (o : ob T x k) (hk : (k, j) ∈ L) : KN9 L S y := fun a p z => (h.2.2 a p).2 (k, j) hk x o (z ▸ e)
end K9s

abbrev kyL_X0_end : List (Nat × Nat) := []
set_option maxRecDepth 20000 in
set_option maxHeartbeats 1000000 in
theorem ky_X0_end_0 {b : Bool} {L : List (Nat × Nat)} (hU : ∀ q ∈ L, q ∈ nyT) (hL : ∀ q ∈ kyL_X0_end, q ∈ L) (hb : False → b = false) {Q : HS → Prop} {v0 : Nat} {S0 S : HS} (h : P_X0_end_0 Q v0 S) (K : K9 b L S0 S) : P_X0_end_0 (fun T => Q T ∧ K9 b L S0 T) v0 S := by
  delta P_X0_end_0 at h ⊢
  obtain ⟨c1, h⟩ := h
  refine ⟨c1, ?_⟩
  intro x3 e2
  have h := h x3 e2
  have K := k9_I K e2
  intro x5 e4
  have h := h x5 e4
  have K := k9_I K e4
  intro x7 e6
  have h := h x7 e6
  have K := k9_I K e6
  exact ⟨h, K⟩
theorem ky_X0_end {b : Bool} {L : List (Nat × Nat)} (hU : ∀ q ∈ L, q ∈ nyT) (hL : ∀ q ∈ kyL_X0_end, q ∈ L) (hb : False → b = false) {Q : HS → Prop} {v0 : Nat} {S : HS} (h : P_X0_end v0 Q S) : P_X0_end v0 (fun T => Q T ∧ K9 b L S T) S := ky_X0_end_0 hU hL hb h (k9_rf b L S)
abbrev kyL_X0_begin : List (Nat × Nat) := [(2, 2)]
set_option maxRecDepth 20000 in
set_option maxHeartbeats 1000000 in
theorem kyB_X0_begin_28 {b : Bool} {L : List (Nat × Nat)} (hU : ∀ q ∈ L, q ∈ nyT) (hL : ∀ q ∈ kyL_X0_begin, q ∈ L) (hb : False → b = false) {Q : HS → Prop} {X28 X28_2 : Nat → Int32 → HS → Prop} {v0 : Nat} {v4 : Int32} {S0 S : HS} (h : B_X0_begin_28 Q X28 v0 v4 S) (K : K9 b L S0 S) (hX28 : ∀ (u0 : Nat) (u1 : Int32) (u2 : HS), X28 u0 u1 u2 → K9 b L S0 u2 → X28_2 u0 u1 u2) : B_X0_begin_28 (fun T => Q T ∧ K9 b L S0 T) X28_2 v0 v4 S := by
  delta B_X0_begin_28 at h ⊢
  refine ⟨?_, ?_⟩
  · intro c1
    have h := h.1 c1
    exact ⟨h, K⟩
  · intro c2
    have h := h.2 c2
    obtain ⟨c3, h⟩ := h
    refine ⟨c3, ?_⟩
    obtain ⟨b4, e5, h⟩ := h
    refine ⟨b4, e5, ?_⟩
    obtain ⟨c6, h⟩ := h
    refine ⟨c6, ?_⟩
    have o7 := c6
    obtain ⟨b8, e9, h⟩ := h
    refine ⟨b8, e9, ?_⟩
    have n10 := k9_nr K e9 o7 (hL _ (by decide))
    obtain ⟨c11, h⟩ := h
    refine ⟨c11, ?_⟩
    obtain ⟨c12, h⟩ := h
    refine ⟨c12, ?_⟩
    intro x14 e13
    have h := h x14 e13
    have K := k9_J K e13 n10
    have o7 := ob_wJ o7 e13
    intro x16 e15
    have h := h x16 e15
    exact hX28 _ _ _ h K
theorem ky_X0_begin_28 {b : Bool} {L : List (Nat × Nat)} (hU : ∀ q ∈ L, q ∈ nyT) (hL : ∀ q ∈ kyL_X0_begin, q ∈ L) (hb : False → b = false) {Q : HS → Prop} {v0 : Nat} {v4 : Int32} {S0 S : HS} (h : P_X0_begin_28 Q v0 v4 S) (K : K9 b L S0 S) : P_X0_begin_28 (fun T => Q T ∧ K9 b L S0 T) v0 v4 S := h (fun v0 v4 S => K9 b L S0 S → P_X0_begin_28 (fun T => Q T ∧ K9 b L S0 T) v0 v4 S) (fun v0 v4 S hB K => fd_X0_begin_28 (kyB_X0_begin_28 hU hL hb hB K (fun _ _ _ hx K => hx K))) K
set_option maxRecDepth 20000 in
set_option maxHeartbeats 1000000 in
theorem ky_X0_begin_0 {b : Bool} {L : List (Nat × Nat)} (hU : ∀ q ∈ L, q ∈ nyT) (hL : ∀ q ∈ kyL_X0_begin, q ∈ L) (hb : False → b = false) {Q : HS → Prop} {v0 : Nat} {v1 : Int32} {v2 : Int32} {v3 : Int32} {S0 S : HS} (h : P_X0_begin_0 Q v0 v1 v2 v3 S) (K : K9 b L S0 S) : P_X0_begin_0 (fun T => Q T ∧ K9 b L S0 T) v0 v1 v2 v3 S := by
  delta P_X0_begin_0 at h ⊢
  obtain ⟨c1, h⟩ := h
  refine ⟨c1, ?_⟩
  refine cm_X0_end (ky_X0_end (b := b) hU (fun q hq => hL q ((by decide : ∀ q ∈ kyL_X0_end, q ∈ kyL_X0_begin) q hq)) (fun z => z.elim) h) h (fun x2 p4 h g3 => ?_)
  have h := h g3
  have K := k9_tr K p4.2
  intro x6 e5
  have h := h x6 e5
  have K := k9_I K e5
  obtain ⟨b7, e8, h⟩ := h
  refine ⟨b7, e8, ?_⟩
  obtain ⟨c9, h⟩ := h
  refine ⟨c9, ?_⟩
  intro x11 e10
  have h := h x11 e10
  have K := k9_I K e10
  obtain ⟨b12, e13, h⟩ := h
  refine ⟨b12, e13, ?_⟩
  obtain ⟨c14, h⟩ := h
  refine ⟨c14, ?_⟩
  intro x16 e15
  have h := h x16 e15
  have K := k9_I K e15
  exact ky_X0_begin_28 hU hL hb h K
theorem ky_X0_begin {b : Bool} {L : List (Nat × Nat)} (hU : ∀ q ∈ L, q ∈ nyT) (hL : ∀ q ∈ kyL_X0_begin, q ∈ L) (hb : False → b = false) {Q : HS → Prop} {v0 : Nat} {v1 : Int32} {v2 : Int32} {v3 : Int32} {S : HS} (h : P_X0_begin v0 v1 v2 v3 Q S) : P_X0_begin v0 v1 v2 v3 (fun T => Q T ∧ K9 b L S T) S := ky_X0_begin_0 hU hL hb h (k9_rf b L S)
abbrev kyL_X0_draw : List (Nat × Nat) := []
set_option maxRecDepth 20000 in
set_option maxHeartbeats 1000000 in
theorem ky_X0_draw_60 {b : Bool} {L : List (Nat × Nat)} (hU : ∀ q ∈ L, q ∈ nyT) (hL : ∀ q ∈ kyL_X0_draw, q ∈ L) (hb : False → b = false) {Q : HS → Prop} {X10 X10_2 : Nat → Nat → Int32 → Int32 → HS → Prop} {v0 : Nat} {v1 : Nat} {v3 : Int32} {v4 : Int32} {S0 S : HS} (h : P_X0_draw_60 Q X10 v0 v1 v3 v4 S) (K : K9 b L S0 S) (hX10 : ∀ (u0 : Nat) (u1 : Nat) (u2 : Int32) (u3 : Int32) (u4 : HS), X10 u0 u1 u2 u3 u4 → K9 b L S0 u4 → X10_2 u0 u1 u2 u3 u4) : P_X0_draw_60 (fun T => Q T ∧ K9 b L S0 T) X10_2 v0 v1 v3 v4 S := by
  delta P_X0_draw_60 at h ⊢
  intro x2 e1
  have h := h x2 e1
  exact hX10 _ _ _ _ _ h K
set_option maxRecDepth 20000 in
set_option maxHeartbeats 1000000 in
theorem kyB_X0_draw_10 {b : Bool} {L : List (Nat × Nat)} (hU : ∀ q ∈ L, q ∈ nyT) (hL : ∀ q ∈ kyL_X0_draw, q ∈ L) (hb : False → b = false) {Q : HS → Prop} {X10 X10_2 : Nat → Nat → Int32 → Int32 → HS → Prop} {v0 : Nat} {v1 : Nat} {v3 : Int32} {v4 : Int32} {S0 S : HS} (h : B_X0_draw_10 Q X10 v0 v1 v3 v4 S) (K : K9 b L S0 S) (hX10 : ∀ (u0 : Nat) (u1 : Nat) (u2 : Int32) (u3 : Int32) (u4 : HS), X10 u0 u1 u2 u3 u4 → K9 b L S0 u4 → X10_2 u0 u1 u2 u3 u4) : B_X0_draw_10 (fun T => Q T ∧ K9 b L S0 T) X10_2 v0 v1 v3 v4 S := by
  delta B_X0_draw_10 at h ⊢
  obtain ⟨c1, h⟩ := h
  refine ⟨c1, ?_⟩
  intro x3 e2
  have h := h x3 e2
  refine ⟨?_, ?_⟩
  · intro c4
    have h := h.1 c4
    exact ⟨h, K⟩
  · intro c5
    have h := h.2 c5
    intro x7 e6
    have h := h x7 e6
    intro x9 e8
    have h := h x9 e8
    obtain ⟨b10, e11, h⟩ := h
    refine ⟨b10, e11, ?_⟩
    obtain ⟨c12, h⟩ := h
    refine ⟨c12, ?_⟩
    obtain ⟨c13, h⟩ := h
    refine ⟨c13, ?_⟩
    obtain ⟨b14, e15, h⟩ := h
    refine ⟨b14, e15, ?_⟩
    obtain ⟨c16, h⟩ := h
    refine ⟨c16, ?_⟩
    intro x18 e17
    have h := h x18 e17
    refine ⟨?_, ?_⟩
    · intro c19
      have h := h.1 c19
      exact ky_X0_draw_60 hU hL hb h K hX10
    · intro c20
      have h := h.2 c20
      obtain ⟨c21, h⟩ := h
      refine ⟨c21, ?_⟩
      intro x23 e22
      have h := h x23 e22
      intro x25 e24
      have h := h x25 e24
      intro x27 e26
      have h := h x27 e26
      have K := k9_I K e26
      exact ky_X0_draw_60 hU hL hb h K hX10
theorem ky_X0_draw_10 {b : Bool} {L : List (Nat × Nat)} (hU : ∀ q ∈ L, q ∈ nyT) (hL : ∀ q ∈ kyL_X0_draw, q ∈ L) (hb : False → b = false) {Q : HS → Prop} {v0 : Nat} {v1 : Nat} {v3 : Int32} {v4 : Int32} {S0 S : HS} (h : P_X0_draw_10 Q v0 v1 v3 v4 S) (K : K9 b L S0 S) : P_X0_draw_10 (fun T => Q T ∧ K9 b L S0 T) v0 v1 v3 v4 S := h (fun v0 v1 v3 v4 S => K9 b L S0 S → P_X0_draw_10 (fun T => Q T ∧ K9 b L S0 T) v0 v1 v3 v4 S) (fun v0 v1 v3 v4 S hB K => fd_X0_draw_10 (kyB_X0_draw_10 hU hL hb hB K (fun _ _ _ _ _ hx K => hx K))) K
set_option maxRecDepth 20000 in
set_option maxHeartbeats 1000000 in
theorem ky_X0_draw_0 {b : Bool} {L : List (Nat × Nat)} (hU : ∀ q ∈ L, q ∈ nyT) (hL : ∀ q ∈ kyL_X0_draw, q ∈ L) (hb : False → b = false) {Q : HS → Prop} {v0 : Nat} {v1 : Nat} {v2 : Int32} {S0 S : HS} (h : P_X0_draw_0 Q v0 v1 v2 S) (K : K9 b L S0 S) : P_X0_draw_0 (fun T => Q T ∧ K9 b L S0 T) v0 v1 v2 S := by
  delta P_X0_draw_0 at h ⊢
  obtain ⟨c1, h⟩ := h
  refine ⟨c1, ?_⟩
  intro x3 e2
  have h := h x3 e2
  have K := k9_I K e2
  exact ky_X0_draw_10 hU hL hb h K
theorem ky_X0_draw {b : Bool} {L : List (Nat × Nat)} (hU : ∀ q ∈ L, q ∈ nyT) (hL : ∀ q ∈ kyL_X0_draw, q ∈ L) (hb : False → b = false) {Q : HS → Prop} {v0 : Nat} {v1 : Nat} {v2 : Int32} {S : HS} (h : P_X0_draw v0 v1 v2 Q S) : P_X0_draw v0 v1 v2 (fun T => Q T ∧ K9 b L S T) S := ky_X0_draw_0 hU hL hb h (k9_rf b L S)
abbrev kyL_X0_isOn : List (Nat × Nat) := []
set_option maxRecDepth 20000 in
set_option maxHeartbeats 1000000 in
theorem ky_X0_isOn_0 {b : Bool} {L : List (Nat × Nat)} (hU : ∀ q ∈ L, q ∈ nyT) (hL : ∀ q ∈ kyL_X0_isOn, q ∈ L) (hb : False → b = false) {Q : Int32 → HS → Prop} {v0 : Nat} {S0 S : HS} (h : P_X0_isOn_0 Q v0 S) (K : K9 b L S0 S) : P_X0_isOn_0 (fun r T => Q r T ∧ K9 b L S0 T) v0 S := by
  delta P_X0_isOn_0 at h ⊢
  obtain ⟨c1, h⟩ := h
  refine ⟨c1, ?_⟩
  intro x3 e2
  have h := h x3 e2
  refine ⟨?_, ?_⟩
  · intro c4
    have h := h.1 c4
    exact ⟨h, K⟩
  · intro c5
    have h := h.2 c5
    exact ⟨h, K⟩
theorem ky_X0_isOn {b : Bool} {L : List (Nat × Nat)} (hU : ∀ q ∈ L, q ∈ nyT) (hL : ∀ q ∈ kyL_X0_isOn, q ∈ L) (hb : False → b = false) {Q : Int32 → HS → Prop} {v0 : Nat} {S : HS} (h : P_X0_isOn v0 Q S) : P_X0_isOn v0 (fun r T => Q r T ∧ K9 b L S T) S := ky_X0_isOn_0 hU hL hb h (k9_rf b L S)
abbrev kyL_X2_copy : List (Nat × Nat) := [(2, 2)]
set_option maxRecDepth 20000 in
set_option maxHeartbeats 1000000 in
theorem kyB_X2_copy_18 {b : Bool} {L : List (Nat × Nat)} (hU : ∀ q ∈ L, q ∈ nyT) (hL : ∀ q ∈ kyL_X2_copy, q ∈ L) (hb : False → b = false) {Q : HS → Prop} {X18 X18_2 : Nat → Nat → Int32 → HS → Prop} {v0 : Nat} {v1 : Nat} {v2 : Int32} {S0 S : HS} (h : B_X2_copy_18 Q X18 v0 v1 v2 S) (K : K9 b L S0 S) (hX18 : ∀ (u0 : Nat) (u1 : Nat) (u2 : Int32) (u3 : HS), X18 u0 u1 u2 u3 → K9 b L S0 u3 → X18_2 u0 u1 u2 u3) : B_X2_copy_18 (fun T => Q T ∧ K9 b L S0 T) X18_2 v0 v1 v2 S := by
  delta B_X2_copy_18 at h ⊢
  refine ⟨?_, ?_⟩
  · intro c1
    have h := h.1 c1
    exact ⟨h, K⟩
  · intro c2
    have h := h.2 c2
    obtain ⟨c3, h⟩ := h
    refine ⟨c3, ?_⟩
    have o4 := c3
    obtain ⟨b5, e6, h⟩ := h
    refine ⟨b5, e6, ?_⟩
    have n7 := k9_nr K e6 o4 (hL _ (by decide))
    obtain ⟨c8, h⟩ := h
    refine ⟨c8, ?_⟩
    have o9 := c8
    obtain ⟨b10, e11, h⟩ := h
    refine ⟨b10, e11, ?_⟩
    obtain ⟨c12, h⟩ := h
    refine ⟨c12, ?_⟩
    obtain ⟨c13, h⟩ := h
    refine ⟨c13, ?_⟩
    intro x15 e14
    have h := h x15 e14
    obtain ⟨c16, h⟩ := h
    refine ⟨c16, ?_⟩
    obtain ⟨c17, h⟩ := h
    refine ⟨c17, ?_⟩
    intro x19 e18
    have h := h x19 e18
    have K := k9_J K e18 n7
    have o4 := ob_wJ o4 e18
    have o9 := ob_wJ o9 e18
    intro x21 e20
    have h := h x21 e20
    exact hX18 _ _ _ _ h K
theorem ky_X2_copy_18 {b : Bool} {L : List (Nat × Nat)} (hU : ∀ q ∈ L, q ∈ nyT) (hL : ∀ q ∈ kyL_X2_copy, q ∈ L) (hb : False → b = false) {Q : HS → Prop} {v0 : Nat} {v1 : Nat} {v2 : Int32} {S0 S : HS} (h : P_X2_copy_18 Q v0 v1 v2 S) (K : K9 b L S0 S) : P_X2_copy_18 (fun T => Q T ∧ K9 b L S0 T) v0 v1 v2 S := h (fun v0 v1 v2 S => K9 b L S0 S → P_X2_copy_18 (fun T => Q T ∧ K9 b L S0 T) v0 v1 v2 S) (fun v0 v1 v2 S hB K => fd_X2_copy_18 (kyB_X2_copy_18 hU hL hb hB K (fun _ _ _ _ hx K => hx K))) K
set_option maxRecDepth 20000 in
set_option maxHeartbeats 1000000 in
theorem ky_X2_copy_0 {b : Bool} {L : List (Nat × Nat)} (hU : ∀ q ∈ L, q ∈ nyT) (hL : ∀ q ∈ kyL_X2_copy, q ∈ L) (hb : False → b = false) {Q : HS → Prop} {v0 : Nat} {v1 : Nat} {S0 S : HS} (h : P_X2_copy_0 Q v0 v1 S) (K : K9 b L S0 S) : P_X2_copy_0 (fun T => Q T ∧ K9 b L S0 T) v0 v1 S := by
  delta P_X2_copy_0 at h ⊢
  obtain ⟨c1, h⟩ := h
  refine ⟨c1, ?_⟩
  intro x3 e2
  have h := h x3 e2
  obtain ⟨c4, h⟩ := h
  refine ⟨c4, ?_⟩
  intro x6 e5
  have h := h x6 e5
  have K := k9_I K e5
  intro x8 e7
  have h := h x8 e7
  intro x10 e9
  have h := h x10 e9
  have K := k9_I K e9
  exact ky_X2_copy_18 hU hL hb h K
theorem ky_X2_copy {b : Bool} {L : List (Nat × Nat)} (hU : ∀ q ∈ L, q ∈ nyT) (hL : ∀ q ∈ kyL_X2_copy, q ∈ L) (hb : False → b = false) {Q : HS → Prop} {v0 : Nat} {v1 : Nat} {S : HS} (h : P_X2_copy v0 v1 Q S) : P_X2_copy v0 v1 (fun T => Q T ∧ K9 b L S T) S := ky_X2_copy_0 hU hL hb h (k9_rf b L S)
abbrev kyL_X0_keepForUndo : List (Nat × Nat) := [(2, 2)]
set_option maxRecDepth 20000 in
set_option maxHeartbeats 1000000 in
theorem ky_X0_keepForUndo_58 {b : Bool} {L : List (Nat × Nat)} (hU : ∀ q ∈ L, q ∈ nyT) (hL : ∀ q ∈ kyL_X0_keepForUndo, q ∈ L) (hb : True → b = false) {Q : HS → Prop} {v0 : Nat} {S0 S : HS} (h : P_X0_keepForUndo_58 Q v0 S) (K : K9 b L S0 S) : P_X0_keepForUndo_58 (fun T => Q T ∧ K9 b L S0 T) v0 S := by
  delta P_X0_keepForUndo_58 at h ⊢
  obtain ⟨c1, h⟩ := h
  refine ⟨c1, ?_⟩
  obtain ⟨b2, e3, h⟩ := h
  refine ⟨b2, e3, ?_⟩
  intro x5 e4
  have h := h x5 e4
  obtain ⟨c6, h⟩ := h
  refine ⟨c6, ?_⟩
  obtain ⟨c7, h⟩ := h
  refine ⟨c7, ?_⟩
  obtain ⟨b8, e9, h⟩ := h
  refine ⟨b8, e9, ?_⟩
  obtain ⟨b10, e11, h⟩ := h
  refine ⟨b10, e11, ?_⟩
  obtain ⟨c12, h⟩ := h
  refine ⟨c12, ?_⟩
  refine cm_X2_copy (ky_X2_copy (b := b) hU (fun q hq => hL q ((by decide : ∀ q ∈ kyL_X2_copy, q ∈ kyL_X0_keepForUndo) q hq)) (fun z => z.elim) h) h (fun x13 p15 h g14 => ?_)
  have h := h g14
  have K := k9_tr K p15.2
  intro x17 e16
  have h := h x17 e16
  intro x19 e18
  have h := h x19 e18
  intro x21 e20
  have h := h x21 e20
  have K := k9_I K e20
  exact ⟨h, K⟩
set_option maxRecDepth 20000 in
set_option maxHeartbeats 1000000 in
theorem kyB_X0_keepForUndo_18 {b : Bool} {L : List (Nat × Nat)} (hU : ∀ q ∈ L, q ∈ nyT) (hL : ∀ q ∈ kyL_X0_keepForUndo, q ∈ L) (hb : True → b = false) {Q : HS → Prop} {X18 X18_2 : Nat → Nat → Int32 → HS → Prop} {v0 : Nat} {v1 : Nat} {v2 : Int32} {S0 S : HS} (h : B_X0_keepForUndo_18 Q X18 v0 v1 v2 S) (K : K9 b L S0 S) (hX18 : ∀ (u0 : Nat) (u1 : Nat) (u2 : Int32) (u3 : HS), X18 u0 u1 u2 u3 → K9 b L S0 u3 → X18_2 u0 u1 u2 u3) : B_X0_keepForUndo_18 (fun T => Q T ∧ K9 b L S0 T) X18_2 v0 v1 v2 S := by
  delta B_X0_keepForUndo_18 at h ⊢
  refine ⟨?_, ?_⟩
  · intro c1
    have h := h.1 c1
    obtain ⟨c2, h⟩ := h
    refine ⟨c2, ?_⟩
    obtain ⟨b3, e4, h⟩ := h
    refine ⟨b3, e4, ?_⟩
    obtain ⟨c5, h⟩ := h
    refine ⟨c5, ?_⟩
    have o6 := c5
    obtain ⟨c7, h⟩ := h
    refine ⟨c7, ?_⟩
    obtain ⟨c8, h⟩ := h
    refine ⟨c8, ?_⟩
    intro x10 e9
    have h := h x10 e9
    have K := k9_RB K hU e9 o6 (hb trivial)
    have o6 := ob_wR o6 e9
    intro x12 e11
    have h := h x12 e11
    have K := k9_I K e11
    have o6 := ob_wI o6 e11
    exact ky_X0_keepForUndo_58 hU hL hb h K
  · intro c13
    have h := h.2 c13
    obtain ⟨c14, h⟩ := h
    refine ⟨c14, ?_⟩
    obtain ⟨b15, e16, h⟩ := h
    refine ⟨b15, e16, ?_⟩
    obtain ⟨b17, e18, h⟩ := h
    refine ⟨b17, e18, ?_⟩
    obtain ⟨c19, h⟩ := h
    refine ⟨c19, ?_⟩
    obtain ⟨c20, h⟩ := h
    refine ⟨c20, ?_⟩
    obtain ⟨b21, e22, h⟩ := h
    refine ⟨b21, e22, ?_⟩
    obtain ⟨c23, h⟩ := h
    refine ⟨c23, ?_⟩
    have o24 := c23
    obtain ⟨c25, h⟩ := h
    refine ⟨c25, ?_⟩
    obtain ⟨c26, h⟩ := h
    refine ⟨c26, ?_⟩
    intro x28 e27
    have h := h x28 e27
    have K := k9_RB K hU e27 o24 (hb trivial)
    have o24 := ob_wR o24 e27
    intro x30 e29
    have h := h x30 e29
    exact hX18 _ _ _ _ h K
theorem ky_X0_keepForUndo_18 {b : Bool} {L : List (Nat × Nat)} (hU : ∀ q ∈ L, q ∈ nyT) (hL : ∀ q ∈ kyL_X0_keepForUndo, q ∈ L) (hb : True → b = false) {Q : HS → Prop} {v0 : Nat} {v1 : Nat} {v2 : Int32} {S0 S : HS} (h : P_X0_keepForUndo_18 Q v0 v1 v2 S) (K : K9 b L S0 S) : P_X0_keepForUndo_18 (fun T => Q T ∧ K9 b L S0 T) v0 v1 v2 S := h (fun v0 v1 v2 S => K9 b L S0 S → P_X0_keepForUndo_18 (fun T => Q T ∧ K9 b L S0 T) v0 v1 v2 S) (fun v0 v1 v2 S hB K => fd_X0_keepForUndo_18 (kyB_X0_keepForUndo_18 hU hL hb hB K (fun _ _ _ _ hx K => hx K))) K
set_option maxRecDepth 20000 in
set_option maxHeartbeats 1000000 in
theorem ky_X0_keepForUndo_0 {b : Bool} {L : List (Nat × Nat)} (hU : ∀ q ∈ L, q ∈ nyT) (hL : ∀ q ∈ kyL_X0_keepForUndo, q ∈ L) (hb : True → b = false) {Q : HS → Prop} {v0 : Nat} {S0 S : HS} (h : P_X0_keepForUndo_0 Q v0 S) (K : K9 b L S0 S) : P_X0_keepForUndo_0 (fun T => Q T ∧ K9 b L S0 T) v0 S := by
  delta P_X0_keepForUndo_0 at h ⊢
  obtain ⟨c1, h⟩ := h
  refine ⟨c1, ?_⟩
  intro x3 e2
  have h := h x3 e2
  refine ⟨?_, ?_⟩
  · intro c4
    have h := h.1 c4
    exact ky_X0_keepForUndo_58 hU hL hb h K
  · intro c5
    have h := h.2 c5
    obtain ⟨b6, e7, h⟩ := h
    refine ⟨b6, e7, ?_⟩
    obtain ⟨c8, h⟩ := h
    refine ⟨c8, ?_⟩
    obtain ⟨c9, h⟩ := h
    refine ⟨c9, ?_⟩
    obtain ⟨b10, e11, h⟩ := h
    refine ⟨b10, e11, ?_⟩
    exact ky_X0_keepForUndo_18 hU hL hb h K
theorem ky_X0_keepForUndo {b : Bool} {L : List (Nat × Nat)} (hU : ∀ q ∈ L, q ∈ nyT) (hL : ∀ q ∈ kyL_X0_keepForUndo, q ∈ L) (hb : True → b = false) {Q : HS → Prop} {v0 : Nat} {S : HS} (h : P_X0_keepForUndo v0 Q S) : P_X0_keepForUndo v0 (fun T => Q T ∧ K9 b L S T) S := ky_X0_keepForUndo_0 hU hL hb h (k9_rf b L S)
abbrev kyL_X0_rainsIn : List (Nat × Nat) := []
set_option maxRecDepth 20000 in
set_option maxHeartbeats 1000000 in
theorem ky_X0_rainsIn_0 {b : Bool} {L : List (Nat × Nat)} (hU : ∀ q ∈ L, q ∈ nyT) (hL : ∀ q ∈ kyL_X0_rainsIn, q ∈ L) (hb : False → b = false) {Q : Int32 → HS → Prop} {v0 : Nat} {v1 : Int32} {S0 S : HS} (h : P_X0_rainsIn_0 Q v0 v1 S) (K : K9 b L S0 S) : P_X0_rainsIn_0 (fun r T => Q r T ∧ K9 b L S0 T) v0 v1 S := by
  delta P_X0_rainsIn_0 at h ⊢
  refine ⟨?_, ?_⟩
  · intro c1
    have h := h.1 c1
    exact ⟨h, K⟩
  · intro c2
    have h := h.2 c2
    refine ⟨?_, ?_⟩
    · intro c3
      have h := h.1 c3
      exact ⟨h, K⟩
    · intro c4
      have h := h.2 c4
      obtain ⟨c5, h⟩ := h
      refine ⟨c5, ?_⟩
      intro x7 e6
      have h := h x7 e6
      refine ⟨?_, ?_⟩
      · intro c8
        have h := h.1 c8
        exact ⟨h, K⟩
      · intro c9
        have h := h.2 c9
        exact ⟨h, K⟩
theorem ky_X0_rainsIn {b : Bool} {L : List (Nat × Nat)} (hU : ∀ q ∈ L, q ∈ nyT) (hL : ∀ q ∈ kyL_X0_rainsIn, q ∈ L) (hb : False → b = false) {Q : Int32 → HS → Prop} {v0 : Nat} {v1 : Int32} {S : HS} (h : P_X0_rainsIn v0 v1 Q S) : P_X0_rainsIn v0 v1 (fun r T => Q r T ∧ K9 b L S T) S := ky_X0_rainsIn_0 hU hL hb h (k9_rf b L S)
abbrev kyL_X0_returnTo : List (Nat × Nat) := [(2, 2)]
set_option maxRecDepth 20000 in
set_option maxHeartbeats 1000000 in
theorem ky_X0_returnTo_0 {b : Bool} {L : List (Nat × Nat)} (hU : ∀ q ∈ L, q ∈ nyT) (hL : ∀ q ∈ kyL_X0_returnTo, q ∈ L) (hb : False → b = false) {Q : Int32 → HS → Prop} {v0 : Nat} {v1 : Int32} {S0 S : HS} (h : P_X0_returnTo_0 Q v0 v1 S) (K : K9 b L S0 S) : P_X0_returnTo_0 (fun r T => Q r T ∧ K9 b L S0 T) v0 v1 S := by
  delta P_X0_returnTo_0 at h ⊢
  refine ⟨?_, ?_⟩
  · intro c1
    have h := h.1 c1
    exact ⟨h, K⟩
  · intro c2
    have h := h.2 c2
    obtain ⟨c3, h⟩ := h
    refine ⟨c3, ?_⟩
    intro x5 e4
    have h := h x5 e4
    refine ⟨?_, ?_⟩
    · intro c6
      have h := h.1 c6
      obtain ⟨b7, e8, h⟩ := h
      refine ⟨b7, e8, ?_⟩
      obtain ⟨b9, e10, h⟩ := h
      refine ⟨b9, e10, ?_⟩
      obtain ⟨c11, h⟩ := h
      refine ⟨c11, ?_⟩
      obtain ⟨c12, h⟩ := h
      refine ⟨c12, ?_⟩
      obtain ⟨b13, e14, h⟩ := h
      refine ⟨b13, e14, ?_⟩
      obtain ⟨c15, h⟩ := h
      refine ⟨c15, ?_⟩
      refine cm_X2_copy (ky_X2_copy (b := b) hU (fun q hq => hL q ((by decide : ∀ q ∈ kyL_X2_copy, q ∈ kyL_X0_returnTo) q hq)) (fun z => z.elim) h) h (fun x16 p18 h g17 => ?_)
      have h := h g17
      have K := k9_tr K p18.2
      intro x20 e19
      have h := h x20 e19
      have K := k9_I K e19
      exact ⟨h, K⟩
    · intro c21
      have h := h.2 c21
      exact ⟨h, K⟩
theorem ky_X0_returnTo {b : Bool} {L : List (Nat × Nat)} (hU : ∀ q ∈ L, q ∈ nyT) (hL : ∀ q ∈ kyL_X0_returnTo, q ∈ L) (hb : False → b = false) {Q : Int32 → HS → Prop} {v0 : Nat} {v1 : Int32} {S : HS} (h : P_X0_returnTo v0 v1 Q S) : P_X0_returnTo v0 v1 (fun r T => Q r T ∧ K9 b L S T) S := ky_X0_returnTo_0 hU hL hb h (k9_rf b L S)
abbrev kyL_X0_setMark : List (Nat × Nat) := [(2, 2)]
set_option maxRecDepth 20000 in
set_option maxHeartbeats 1000000 in
theorem ky_X0_setMark_0 {b : Bool} {L : List (Nat × Nat)} (hU : ∀ q ∈ L, q ∈ nyT) (hL : ∀ q ∈ kyL_X0_setMark, q ∈ L) (hb : False → b = false) {Q : Int32 → HS → Prop} {v0 : Nat} {S0 S : HS} (h : P_X0_setMark_0 Q v0 S) (K : K9 b L S0 S) : P_X0_setMark_0 (fun r T => Q r T ∧ K9 b L S0 T) v0 S := by
  delta P_X0_setMark_0 at h ⊢
  obtain ⟨c1, h⟩ := h
  refine ⟨c1, ?_⟩
  intro x3 e2
  have h := h x3 e2
  refine ⟨?_, ?_⟩
  · intro c4
    have h := h.1 c4
    obtain ⟨b5, e6, h⟩ := h
    refine ⟨b5, e6, ?_⟩
    intro x8 e7
    have h := h x8 e7
    obtain ⟨c9, h⟩ := h
    refine ⟨c9, ?_⟩
    obtain ⟨c10, h⟩ := h
    refine ⟨c10, ?_⟩
    obtain ⟨b11, e12, h⟩ := h
    refine ⟨b11, e12, ?_⟩
    obtain ⟨b13, e14, h⟩ := h
    refine ⟨b13, e14, ?_⟩
    obtain ⟨c15, h⟩ := h
    refine ⟨c15, ?_⟩
    refine cm_X2_copy (ky_X2_copy (b := b) hU (fun q hq => hL q ((by decide : ∀ q ∈ kyL_X2_copy, q ∈ kyL_X0_setMark) q hq)) (fun z => z.elim) h) h (fun x16 p18 h g17 => ?_)
    have h := h g17
    have K := k9_tr K p18.2
    intro x20 e19
    have h := h x20 e19
    intro x22 e21
    have h := h x22 e21
    intro x24 e23
    have h := h x24 e23
    have K := k9_I K e23
    intro x26 e25
    have h := h x26 e25
    exact ⟨h, K⟩
  · intro c27
    have h := h.2 c27
    exact ⟨h, K⟩
theorem ky_X0_setMark {b : Bool} {L : List (Nat × Nat)} (hU : ∀ q ∈ L, q ∈ nyT) (hL : ∀ q ∈ kyL_X0_setMark, q ∈ L) (hb : False → b = false) {Q : Int32 → HS → Prop} {v0 : Nat} {S : HS} (h : P_X0_setMark v0 Q S) : P_X0_setMark v0 (fun r T => Q r T ∧ K9 b L S T) S := ky_X0_setMark_0 hU hL hb h (k9_rf b L S)
abbrev kyL_X0_takeBack : List (Nat × Nat) := [(2, 2)]
set_option maxRecDepth 20000 in
set_option maxHeartbeats 1000000 in
theorem ky_X0_takeBack_0 {b : Bool} {L : List (Nat × Nat)} (hU : ∀ q ∈ L, q ∈ nyT) (hL : ∀ q ∈ kyL_X0_takeBack, q ∈ L) (hb : False → b = false) {Q : Int32 → HS → Prop} {v0 : Nat} {S0 S : HS} (h : P_X0_takeBack_0 Q v0 S) (K : K9 b L S0 S) : P_X0_takeBack_0 (fun r T => Q r T ∧ K9 b L S0 T) v0 S := by
  delta P_X0_takeBack_0 at h ⊢
  obtain ⟨c1, h⟩ := h
  refine ⟨c1, ?_⟩
  intro x3 e2
  have h := h x3 e2
  refine ⟨?_, ?_⟩
  · intro c4
    have h := h.1 c4
    intro x6 e5
    have h := h x6 e5
    intro x8 e7
    have h := h x8 e7
    intro x10 e9
    have h := h x10 e9
    have K := k9_I K e9
    obtain ⟨b11, e12, h⟩ := h
    refine ⟨b11, e12, ?_⟩
    obtain ⟨b13, e14, h⟩ := h
    refine ⟨b13, e14, ?_⟩
    intro x16 e15
    have h := h x16 e15
    obtain ⟨c17, h⟩ := h
    refine ⟨c17, ?_⟩
    obtain ⟨c18, h⟩ := h
    refine ⟨c18, ?_⟩
    obtain ⟨b19, e20, h⟩ := h
    refine ⟨b19, e20, ?_⟩
    obtain ⟨c21, h⟩ := h
    refine ⟨c21, ?_⟩
    refine cm_X2_copy (ky_X2_copy (b := b) hU (fun q hq => hL q ((by decide : ∀ q ∈ kyL_X2_copy, q ∈ kyL_X0_takeBack) q hq)) (fun z => z.elim) h) h (fun x22 p24 h g23 => ?_)
    have h := h g23
    have K := k9_tr K p24.2
    exact ⟨h, K⟩
  · intro c25
    have h := h.2 c25
    exact ⟨h, K⟩
theorem ky_X0_takeBack {b : Bool} {L : List (Nat × Nat)} (hU : ∀ q ∈ L, q ∈ nyT) (hL : ∀ q ∈ kyL_X0_takeBack, q ∈ L) (hb : False → b = false) {Q : Int32 → HS → Prop} {v0 : Nat} {S : HS} (h : P_X0_takeBack v0 Q S) : P_X0_takeBack v0 (fun r T => Q r T ∧ K9 b L S T) S := ky_X0_takeBack_0 hU hL hb h (k9_rf b L S)
abbrev kyL_X10_facing : List (Nat × Nat) := []
set_option maxRecDepth 20000 in
set_option maxHeartbeats 1000000 in
theorem ky_X10_facing_0 {b : Bool} {L : List (Nat × Nat)} (hU : ∀ q ∈ L, q ∈ nyT) (hL : ∀ q ∈ kyL_X10_facing, q ∈ L) (hb : False → b = false) {Q : Int32 → HS → Prop} {v0 : Nat} {v1 : Int32} {v2 : Int32} {S0 S : HS} (h : P_X10_facing_0 Q v0 v1 v2 S) (K : K9 b L S0 S) : P_X10_facing_0 (fun r T => Q r T ∧ K9 b L S0 T) v0 v1 v2 S := by
  delta P_X10_facing_0 at h ⊢
  refine ⟨?_, ?_⟩
  · intro c1
    have h := h.1 c1
    obtain ⟨c2, h⟩ := h
    refine ⟨c2, ?_⟩
    have o3 := c2
    obtain ⟨b4, e5, h⟩ := h
    refine ⟨b4, e5, ?_⟩
    obtain ⟨c6, h⟩ := h
    refine ⟨c6, ?_⟩
    obtain ⟨c7, h⟩ := h
    refine ⟨c7, ?_⟩
    intro x9 e8
    have h := h x9 e8
    exact ⟨h, K⟩
  · intro c10
    have h := h.2 c10
    obtain ⟨c11, h⟩ := h
    refine ⟨c11, ?_⟩
    have o12 := c11
    obtain ⟨b13, e14, h⟩ := h
    refine ⟨b13, e14, ?_⟩
    obtain ⟨c15, h⟩ := h
    refine ⟨c15, ?_⟩
    obtain ⟨c16, h⟩ := h
    refine ⟨c16, ?_⟩
    intro x18 e17
    have h := h x18 e17
    exact ⟨h, K⟩
theorem ky_X10_facing {b : Bool} {L : List (Nat × Nat)} (hU : ∀ q ∈ L, q ∈ nyT) (hL : ∀ q ∈ kyL_X10_facing, q ∈ L) (hb : False → b = false) {Q : Int32 → HS → Prop} {v0 : Nat} {v1 : Int32} {v2 : Int32} {S : HS} (h : P_X10_facing v0 v1 v2 Q S) : P_X10_facing v0 v1 v2 (fun r T => Q r T ∧ K9 b L S T) S := ky_X10_facing_0 hU hL hb h (k9_rf b L S)
abbrev kyL_X10_across : List (Nat × Nat) := []
set_option maxRecDepth 20000 in
set_option maxHeartbeats 1000000 in
theorem ky_X10_across_0 {b : Bool} {L : List (Nat × Nat)} (hU : ∀ q ∈ L, q ∈ nyT) (hL : ∀ q ∈ kyL_X10_across, q ∈ L) (hb : False → b = false) {Q : Int32 → HS → Prop} {v0 : Nat} {v1 : Int32} {v2 : Int32} {v3 : Int32} {S0 S : HS} (h : P_X10_across_0 Q v0 v1 v2 v3 S) (K : K9 b L S0 S) : P_X10_across_0 (fun r T => Q r T ∧ K9 b L S0 T) v0 v1 v2 v3 S := by
  delta P_X10_across_0 at h ⊢
  obtain ⟨c1, h⟩ := h
  refine ⟨c1, ?_⟩
  have o2 := c1
  obtain ⟨b3, e4, h⟩ := h
  refine ⟨b3, e4, ?_⟩
  obtain ⟨c5, h⟩ := h
  refine ⟨c5, ?_⟩
  obtain ⟨c6, h⟩ := h
  refine ⟨c6, ?_⟩
  intro x8 e7
  have h := h x8 e7
  refine cm_X10_facing (ky_X10_facing (b := b) hU (fun q hq => hL q ((by decide : ∀ q ∈ kyL_X10_facing, q ∈ kyL_X10_across) q hq)) (fun z => z.elim) h) h (fun x9 x10 p12 h g11 => ?_)
  have h := h g11
  have K := k9_tr K p12.2
  have o2 := gr_ob p12.2.1 o2
  intro x14 e13
  have h := h x14 e13
  refine ⟨?_, ?_⟩
  · intro c15
    have h := h.1 c15
    refine ⟨?_, ?_⟩
    · intro c16
      have h := h.1 c16
      exact ⟨h, K⟩
    · intro c17
      have h := h.2 c17
      obtain ⟨b18, e19, h⟩ := h
      refine ⟨b18, e19, ?_⟩
      obtain ⟨c20, h⟩ := h
      refine ⟨c20, ?_⟩
      obtain ⟨c21, h⟩ := h
      refine ⟨c21, ?_⟩
      intro x23 e22
      have h := h x23 e22
      exact ⟨h, K⟩
  · intro c24
    have h := h.2 c24
    obtain ⟨b25, e26, h⟩ := h
    refine ⟨b25, e26, ?_⟩
    obtain ⟨c27, h⟩ := h
    refine ⟨c27, ?_⟩
    obtain ⟨c28, h⟩ := h
    refine ⟨c28, ?_⟩
    intro x30 e29
    have h := h x30 e29
    exact ⟨h, K⟩
theorem ky_X10_across {b : Bool} {L : List (Nat × Nat)} (hU : ∀ q ∈ L, q ∈ nyT) (hL : ∀ q ∈ kyL_X10_across, q ∈ L) (hb : False → b = false) {Q : Int32 → HS → Prop} {v0 : Nat} {v1 : Int32} {v2 : Int32} {v3 : Int32} {S : HS} (h : P_X10_across v0 v1 v2 v3 Q S) : P_X10_across v0 v1 v2 v3 (fun r T => Q r T ∧ K9 b L S T) S := ky_X10_across_0 hU hL hb h (k9_rf b L S)
abbrev kyL_X10_air : List (Nat × Nat) := []
set_option maxRecDepth 20000 in
set_option maxHeartbeats 1000000 in
theorem ky_X10_air_0 {b : Bool} {L : List (Nat × Nat)} (hU : ∀ q ∈ L, q ∈ nyT) (hL : ∀ q ∈ kyL_X10_air, q ∈ L) (hb : False → b = false) {Q : Int32 → HS → Prop} {v0 : Nat} {v1 : Int32} {v2 : Int32} {v3 : Int32} {S0 S : HS} (h : P_X10_air_0 Q v0 v1 v2 v3 S) (K : K9 b L S0 S) : P_X10_air_0 (fun r T => Q r T ∧ K9 b L S0 T) v0 v1 v2 v3 S := by
  delta P_X10_air_0 at h ⊢
  obtain ⟨c1, h⟩ := h
  refine ⟨c1, ?_⟩
  have o2 := c1
  obtain ⟨b3, e4, h⟩ := h
  refine ⟨b3, e4, ?_⟩
  obtain ⟨c5, h⟩ := h
  refine ⟨c5, ?_⟩
  obtain ⟨c6, h⟩ := h
  refine ⟨c6, ?_⟩
  intro x8 e7
  have h := h x8 e7
  refine cm_X10_facing (ky_X10_facing (b := b) hU (fun q hq => hL q ((by decide : ∀ q ∈ kyL_X10_facing, q ∈ kyL_X10_air) q hq)) (fun z => z.elim) h) h (fun x9 x10 p12 h g11 => ?_)
  have h := h g11
  have K := k9_tr K p12.2
  have o2 := gr_ob p12.2.1 o2
  intro x14 e13
  have h := h x14 e13
  refine ⟨?_, ?_⟩
  · intro c15
    have h := h.1 c15
    refine ⟨?_, ?_⟩
    · intro c16
      have h := h.1 c16
      exact ⟨h, K⟩
    · intro c17
      have h := h.2 c17
      obtain ⟨b18, e19, h⟩ := h
      refine ⟨b18, e19, ?_⟩
      obtain ⟨c20, h⟩ := h
      refine ⟨c20, ?_⟩
      obtain ⟨c21, h⟩ := h
      refine ⟨c21, ?_⟩
      intro x23 e22
      have h := h x23 e22
      exact ⟨h, K⟩
  · intro c24
    have h := h.2 c24
    obtain ⟨b25, e26, h⟩ := h
    refine ⟨b25, e26, ?_⟩
    obtain ⟨c27, h⟩ := h
    refine ⟨c27, ?_⟩
    obtain ⟨c28, h⟩ := h
    refine ⟨c28, ?_⟩
    intro x30 e29
    have h := h x30 e29
    exact ⟨h, K⟩
theorem ky_X10_air {b : Bool} {L : List (Nat × Nat)} (hU : ∀ q ∈ L, q ∈ nyT) (hL : ∀ q ∈ kyL_X10_air, q ∈ L) (hb : False → b = false) {Q : Int32 → HS → Prop} {v0 : Nat} {v1 : Int32} {v2 : Int32} {v3 : Int32} {S : HS} (h : P_X10_air v0 v1 v2 v3 Q S) : P_X10_air v0 v1 v2 v3 (fun r T => Q r T ∧ K9 b L S T) S := ky_X10_air_0 hU hL hb h (k9_rf b L S)
abbrev kyL_X10_begins : List (Nat × Nat) := []
set_option maxRecDepth 20000 in
set_option maxHeartbeats 1000000 in
theorem ky_X10_begins_0 {b : Bool} {L : List (Nat × Nat)} (hU : ∀ q ∈ L, q ∈ nyT) (hL : ∀ q ∈ kyL_X10_begins, q ∈ L) (hb : False → b = false) {Q : Int32 → HS → Prop} {v0 : Nat} {v1 : Int32} {v2 : Int32} {S0 S : HS} (h : P_X10_begins_0 Q v0 v1 v2 S) (K : K9 b L S0 S) : P_X10_begins_0 (fun r T => Q r T ∧ K9 b L S0 T) v0 v1 v2 S := by
  delta P_X10_begins_0 at h ⊢
  refine ⟨?_, ?_⟩
  · intro c1
    have h := h.1 c1
    obtain ⟨c2, h⟩ := h
    refine ⟨c2, ?_⟩
    have o3 := c2
    obtain ⟨b4, e5, h⟩ := h
    refine ⟨b4, e5, ?_⟩
    obtain ⟨c6, h⟩ := h
    refine ⟨c6, ?_⟩
    obtain ⟨c7, h⟩ := h
    refine ⟨c7, ?_⟩
    intro x9 e8
    have h := h x9 e8
    exact ⟨h, K⟩
  · intro c10
    have h := h.2 c10
    obtain ⟨c11, h⟩ := h
    refine ⟨c11, ?_⟩
    have o12 := c11
    obtain ⟨b13, e14, h⟩ := h
    refine ⟨b13, e14, ?_⟩
    obtain ⟨c15, h⟩ := h
    refine ⟨c15, ?_⟩
    obtain ⟨c16, h⟩ := h
    refine ⟨c16, ?_⟩
    intro x18 e17
    have h := h x18 e17
    exact ⟨h, K⟩
theorem ky_X10_begins {b : Bool} {L : List (Nat × Nat)} (hU : ∀ q ∈ L, q ∈ nyT) (hL : ∀ q ∈ kyL_X10_begins, q ∈ L) (hb : False → b = false) {Q : Int32 → HS → Prop} {v0 : Nat} {v1 : Int32} {v2 : Int32} {S : HS} (h : P_X10_begins v0 v1 v2 Q S) : P_X10_begins v0 v1 v2 (fun r T => Q r T ∧ K9 b L S T) S := ky_X10_begins_0 hU hL hb h (k9_rf b L S)
abbrev kyL_X10_ends : List (Nat × Nat) := []
set_option maxRecDepth 20000 in
set_option maxHeartbeats 1000000 in
theorem ky_X10_ends_0 {b : Bool} {L : List (Nat × Nat)} (hU : ∀ q ∈ L, q ∈ nyT) (hL : ∀ q ∈ kyL_X10_ends, q ∈ L) (hb : False → b = false) {Q : Int32 → HS → Prop} {v0 : Nat} {v1 : Int32} {v2 : Int32} {S0 S : HS} (h : P_X10_ends_0 Q v0 v1 v2 S) (K : K9 b L S0 S) : P_X10_ends_0 (fun r T => Q r T ∧ K9 b L S0 T) v0 v1 v2 S := by
  delta P_X10_ends_0 at h ⊢
  refine ⟨?_, ?_⟩
  · intro c1
    have h := h.1 c1
    obtain ⟨c2, h⟩ := h
    refine ⟨c2, ?_⟩
    have o3 := c2
    obtain ⟨b4, e5, h⟩ := h
    refine ⟨b4, e5, ?_⟩
    obtain ⟨c6, h⟩ := h
    refine ⟨c6, ?_⟩
    obtain ⟨c7, h⟩ := h
    refine ⟨c7, ?_⟩
    intro x9 e8
    have h := h x9 e8
    exact ⟨h, K⟩
  · intro c10
    have h := h.2 c10
    obtain ⟨c11, h⟩ := h
    refine ⟨c11, ?_⟩
    have o12 := c11
    obtain ⟨b13, e14, h⟩ := h
    refine ⟨b13, e14, ?_⟩
    obtain ⟨c15, h⟩ := h
    refine ⟨c15, ?_⟩
    obtain ⟨c16, h⟩ := h
    refine ⟨c16, ?_⟩
    intro x18 e17
    have h := h x18 e17
    exact ⟨h, K⟩
theorem ky_X10_ends {b : Bool} {L : List (Nat × Nat)} (hU : ∀ q ∈ L, q ∈ nyT) (hL : ∀ q ∈ kyL_X10_ends, q ∈ L) (hb : False → b = false) {Q : Int32 → HS → Prop} {v0 : Nat} {v1 : Int32} {v2 : Int32} {S : HS} (h : P_X10_ends v0 v1 v2 Q S) : P_X10_ends v0 v1 v2 (fun r T => Q r T ∧ K9 b L S T) S := ky_X10_ends_0 hU hL hb h (k9_rf b L S)
abbrev kyL_X10_find : List (Nat × Nat) := []
set_option maxRecDepth 20000 in
set_option maxHeartbeats 1000000 in
theorem kyB_X10_find_2 {b : Bool} {L : List (Nat × Nat)} (hU : ∀ q ∈ L, q ∈ nyT) (hL : ∀ q ∈ kyL_X10_find, q ∈ L) (hb : False → b = false) {Q : Int32 → HS → Prop} {X2 X2_2 : Nat → Int64 → Int32 → HS → Prop} {v0 : Nat} {v1 : Int64} {v3 : Int32} {S0 S : HS} (h : B_X10_find_2 Q X2 v0 v1 v3 S) (K : K9 b L S0 S) (hX2 : ∀ (u0 : Nat) (u1 : Int64) (u2 : Int32) (u3 : HS), X2 u0 u1 u2 u3 → K9 b L S0 u3 → X2_2 u0 u1 u2 u3) : B_X10_find_2 (fun r T => Q r T ∧ K9 b L S0 T) X2_2 v0 v1 v3 S := by
  delta B_X10_find_2 at h ⊢
  obtain ⟨c1, h⟩ := h
  refine ⟨c1, ?_⟩
  have o2 := c1
  intro x4 e3
  have h := h x4 e3
  refine ⟨?_, ?_⟩
  · intro c5
    have h := h.1 c5
    exact ⟨h, K⟩
  · intro c6
    have h := h.2 c6
    obtain ⟨b7, e8, h⟩ := h
    refine ⟨b7, e8, ?_⟩
    obtain ⟨c9, h⟩ := h
    refine ⟨c9, ?_⟩
    obtain ⟨c10, h⟩ := h
    refine ⟨c10, ?_⟩
    intro x12 e11
    have h := h x12 e11
    refine ⟨?_, ?_⟩
    · intro c13
      have h := h.1 c13
      intro x15 e14
      have h := h x15 e14
      exact hX2 _ _ _ _ h K
    · intro c16
      have h := h.2 c16
      exact ⟨h, K⟩
theorem ky_X10_find_2 {b : Bool} {L : List (Nat × Nat)} (hU : ∀ q ∈ L, q ∈ nyT) (hL : ∀ q ∈ kyL_X10_find, q ∈ L) (hb : False → b = false) {Q : Int32 → HS → Prop} {v0 : Nat} {v1 : Int64} {v3 : Int32} {S0 S : HS} (h : P_X10_find_2 Q v0 v1 v3 S) (K : K9 b L S0 S) : P_X10_find_2 (fun r T => Q r T ∧ K9 b L S0 T) v0 v1 v3 S := h (fun v0 v1 v3 S => K9 b L S0 S → P_X10_find_2 (fun r T => Q r T ∧ K9 b L S0 T) v0 v1 v3 S) (fun v0 v1 v3 S hB K => fd_X10_find_2 (kyB_X10_find_2 hU hL hb hB K (fun _ _ _ _ hx K => hx K))) K
set_option maxRecDepth 20000 in
set_option maxHeartbeats 1000000 in
theorem ky_X10_find_0 {b : Bool} {L : List (Nat × Nat)} (hU : ∀ q ∈ L, q ∈ nyT) (hL : ∀ q ∈ kyL_X10_find, q ∈ L) (hb : False → b = false) {Q : Int32 → HS → Prop} {v0 : Nat} {v1 : Int64} {S0 S : HS} (h : P_X10_find_0 Q v0 v1 S) (K : K9 b L S0 S) : P_X10_find_0 (fun r T => Q r T ∧ K9 b L S0 T) v0 v1 S := by
  delta P_X10_find_0 at h ⊢
  exact ky_X10_find_2 hU hL hb h K
theorem ky_X10_find {b : Bool} {L : List (Nat × Nat)} (hU : ∀ q ∈ L, q ∈ nyT) (hL : ∀ q ∈ kyL_X10_find, q ∈ L) (hb : False → b = false) {Q : Int32 → HS → Prop} {v0 : Nat} {v1 : Int64} {S : HS} (h : P_X10_find v0 v1 Q S) : P_X10_find v0 v1 (fun r T => Q r T ∧ K9 b L S T) S := ky_X10_find_0 hU hL hb h (k9_rf b L S)
abbrev kyL_X10_init : List (Nat × Nat) := []
set_option maxRecDepth 20000 in
set_option maxHeartbeats 1000000 in
theorem ky_X10_init_0 {b : Bool} {L : List (Nat × Nat)} (hU : ∀ q ∈ L, q ∈ nyT) (hL : ∀ q ∈ kyL_X10_init, q ∈ L) (hb : False → b = false) {Q : HS → Prop} {v0 : Nat} {S0 S : HS} (h : P_X10_init_0 Q v0 S) (K : K9 b L S0 S) : P_X10_init_0 (fun T => Q T ∧ K9 b L S0 T) v0 S := by
  delta P_X10_init_0 at h ⊢
  intro x2 e1
  have h := h x2 e1
  intro x4 e3
  have h := h x4 e3
  have n5 := k9_nf K e1
  have K := k9_W K e1 e3
  have o6 := ob_of_new e3
  obtain ⟨c7, h⟩ := h
  refine ⟨c7, ?_⟩
  have o8 := c7
  intro x10 e9
  have h := h x10 e9
  have K := k9_R K hU e9 o8 (by decide) (by decide)
  have o6 := ob_wR o6 e9
  have o8 := ob_wR o8 e9
  intro x12 e11
  have h := h x12 e11
  intro x14 e13
  have h := h x14 e13
  have n15 := k9_nf K e11
  have K := k9_W K e11 e13
  have o6 := gr_ob (gr_of_new e13 e11) o6
  have o8 := gr_ob (gr_of_new e13 e11) o8
  have o16 := ob_of_new e13
  intro x18 e17
  have h := h x18 e17
  have K := k9_R K hU e17 o8 (by decide) (by decide)
  have o6 := ob_wR o6 e17
  have o8 := ob_wR o8 e17
  have o16 := ob_wR o16 e17
  intro x20 e19
  have h := h x20 e19
  intro x22 e21
  have h := h x22 e21
  have n23 := k9_nf K e19
  have K := k9_W K e19 e21
  have o6 := gr_ob (gr_of_new e21 e19) o6
  have o8 := gr_ob (gr_of_new e21 e19) o8
  have o16 := gr_ob (gr_of_new e21 e19) o16
  have o24 := ob_of_new e21
  intro x26 e25
  have h := h x26 e25
  have K := k9_R K hU e25 o8 (by decide) (by decide)
  have o6 := ob_wR o6 e25
  have o8 := ob_wR o8 e25
  have o16 := ob_wR o16 e25
  have o24 := ob_wR o24 e25
  intro x28 e27
  have h := h x28 e27
  intro x30 e29
  have h := h x30 e29
  have n31 := k9_nf K e27
  have K := k9_W K e27 e29
  have o6 := gr_ob (gr_of_new e29 e27) o6
  have o8 := gr_ob (gr_of_new e29 e27) o8
  have o16 := gr_ob (gr_of_new e29 e27) o16
  have o24 := gr_ob (gr_of_new e29 e27) o24
  have o32 := ob_of_new e29
  intro x34 e33
  have h := h x34 e33
  have K := k9_R K hU e33 o8 (by decide) (by decide)
  have o6 := ob_wR o6 e33
  have o8 := ob_wR o8 e33
  have o16 := ob_wR o16 e33
  have o24 := ob_wR o24 e33
  have o32 := ob_wR o32 e33
  intro x36 e35
  have h := h x36 e35
  intro x38 e37
  have h := h x38 e37
  have n39 := k9_nf K e35
  have K := k9_W K e35 e37
  have o6 := gr_ob (gr_of_new e37 e35) o6
  have o8 := gr_ob (gr_of_new e37 e35) o8
  have o16 := gr_ob (gr_of_new e37 e35) o16
  have o24 := gr_ob (gr_of_new e37 e35) o24
  have o32 := gr_ob (gr_of_new e37 e35) o32
  have o40 := ob_of_new e37
  intro x42 e41
  have h := h x42 e41
  have K := k9_R K hU e41 o8 (by decide) (by decide)
  have o6 := ob_wR o6 e41
  have o8 := ob_wR o8 e41
  have o16 := ob_wR o16 e41
  have o24 := ob_wR o24 e41
  have o32 := ob_wR o32 e41
  have o40 := ob_wR o40 e41
  intro x44 e43
  have h := h x44 e43
  intro x46 e45
  have h := h x46 e45
  have n47 := k9_nf K e43
  have K := k9_W K e43 e45
  have o6 := gr_ob (gr_of_new e45 e43) o6
  have o8 := gr_ob (gr_of_new e45 e43) o8
  have o16 := gr_ob (gr_of_new e45 e43) o16
  have o24 := gr_ob (gr_of_new e45 e43) o24
  have o32 := gr_ob (gr_of_new e45 e43) o32
  have o40 := gr_ob (gr_of_new e45 e43) o40
  have o48 := ob_of_new e45
  intro x50 e49
  have h := h x50 e49
  have K := k9_R K hU e49 o8 (by decide) (by decide)
  have o6 := ob_wR o6 e49
  have o8 := ob_wR o8 e49
  have o16 := ob_wR o16 e49
  have o24 := ob_wR o24 e49
  have o32 := ob_wR o32 e49
  have o40 := ob_wR o40 e49
  have o48 := ob_wR o48 e49
  intro x52 e51
  have h := h x52 e51
  intro x54 e53
  have h := h x54 e53
  have n55 := k9_nf K e51
  have K := k9_W K e51 e53
  have o6 := gr_ob (gr_of_new e53 e51) o6
  have o8 := gr_ob (gr_of_new e53 e51) o8
  have o16 := gr_ob (gr_of_new e53 e51) o16
  have o24 := gr_ob (gr_of_new e53 e51) o24
  have o32 := gr_ob (gr_of_new e53 e51) o32
  have o40 := gr_ob (gr_of_new e53 e51) o40
  have o48 := gr_ob (gr_of_new e53 e51) o48
  have o56 := ob_of_new e53
  intro x58 e57
  have h := h x58 e57
  have K := k9_R K hU e57 o8 (by decide) (by decide)
  have o6 := ob_wR o6 e57
  have o8 := ob_wR o8 e57
  have o16 := ob_wR o16 e57
  have o24 := ob_wR o24 e57
  have o32 := ob_wR o32 e57
  have o40 := ob_wR o40 e57
  have o48 := ob_wR o48 e57
  have o56 := ob_wR o56 e57
  intro x60 e59
  have h := h x60 e59
  intro x62 e61
  have h := h x62 e61
  have n63 := k9_nf K e59
  have K := k9_W K e59 e61
  have o6 := gr_ob (gr_of_new e61 e59) o6
  have o8 := gr_ob (gr_of_new e61 e59) o8
  have o16 := gr_ob (gr_of_new e61 e59) o16
  have o24 := gr_ob (gr_of_new e61 e59) o24
  have o32 := gr_ob (gr_of_new e61 e59) o32
  have o40 := gr_ob (gr_of_new e61 e59) o40
  have o48 := gr_ob (gr_of_new e61 e59) o48
  have o56 := gr_ob (gr_of_new e61 e59) o56
  have o64 := ob_of_new e61
  intro x66 e65
  have h := h x66 e65
  have K := k9_R K hU e65 o8 (by decide) (by decide)
  have o6 := ob_wR o6 e65
  have o8 := ob_wR o8 e65
  have o16 := ob_wR o16 e65
  have o24 := ob_wR o24 e65
  have o32 := ob_wR o32 e65
  have o40 := ob_wR o40 e65
  have o48 := ob_wR o48 e65
  have o56 := ob_wR o56 e65
  have o64 := ob_wR o64 e65
  intro x68 e67
  have h := h x68 e67
  intro x70 e69
  have h := h x70 e69
  have n71 := k9_nf K e67
  have K := k9_W K e67 e69
  have o6 := gr_ob (gr_of_new e69 e67) o6
  have o8 := gr_ob (gr_of_new e69 e67) o8
  have o16 := gr_ob (gr_of_new e69 e67) o16
  have o24 := gr_ob (gr_of_new e69 e67) o24
  have o32 := gr_ob (gr_of_new e69 e67) o32
  have o40 := gr_ob (gr_of_new e69 e67) o40
  have o48 := gr_ob (gr_of_new e69 e67) o48
  have o56 := gr_ob (gr_of_new e69 e67) o56
  have o64 := gr_ob (gr_of_new e69 e67) o64
  have o72 := ob_of_new e69
  intro x74 e73
  have h := h x74 e73
  have K := k9_R K hU e73 o8 (by decide) (by decide)
  have o6 := ob_wR o6 e73
  have o8 := ob_wR o8 e73
  have o16 := ob_wR o16 e73
  have o24 := ob_wR o24 e73
  have o32 := ob_wR o32 e73
  have o40 := ob_wR o40 e73
  have o48 := ob_wR o48 e73
  have o56 := ob_wR o56 e73
  have o64 := ob_wR o64 e73
  have o72 := ob_wR o72 e73
  intro x76 e75
  have h := h x76 e75
  intro x78 e77
  have h := h x78 e77
  have n79 := k9_nf K e75
  have K := k9_W K e75 e77
  have o6 := gr_ob (gr_of_new e77 e75) o6
  have o8 := gr_ob (gr_of_new e77 e75) o8
  have o16 := gr_ob (gr_of_new e77 e75) o16
  have o24 := gr_ob (gr_of_new e77 e75) o24
  have o32 := gr_ob (gr_of_new e77 e75) o32
  have o40 := gr_ob (gr_of_new e77 e75) o40
  have o48 := gr_ob (gr_of_new e77 e75) o48
  have o56 := gr_ob (gr_of_new e77 e75) o56
  have o64 := gr_ob (gr_of_new e77 e75) o64
  have o72 := gr_ob (gr_of_new e77 e75) o72
  have o80 := ob_of_new e77
  intro x82 e81
  have h := h x82 e81
  have K := k9_R K hU e81 o8 (by decide) (by decide)
  have o6 := ob_wR o6 e81
  have o8 := ob_wR o8 e81
  have o16 := ob_wR o16 e81
  have o24 := ob_wR o24 e81
  have o32 := ob_wR o32 e81
  have o40 := ob_wR o40 e81
  have o48 := ob_wR o48 e81
  have o56 := ob_wR o56 e81
  have o64 := ob_wR o64 e81
  have o72 := ob_wR o72 e81
  have o80 := ob_wR o80 e81
  intro x84 e83
  have h := h x84 e83
  intro x86 e85
  have h := h x86 e85
  have n87 := k9_nf K e83
  have K := k9_W K e83 e85
  have o6 := gr_ob (gr_of_new e85 e83) o6
  have o8 := gr_ob (gr_of_new e85 e83) o8
  have o16 := gr_ob (gr_of_new e85 e83) o16
  have o24 := gr_ob (gr_of_new e85 e83) o24
  have o32 := gr_ob (gr_of_new e85 e83) o32
  have o40 := gr_ob (gr_of_new e85 e83) o40
  have o48 := gr_ob (gr_of_new e85 e83) o48
  have o56 := gr_ob (gr_of_new e85 e83) o56
  have o64 := gr_ob (gr_of_new e85 e83) o64
  have o72 := gr_ob (gr_of_new e85 e83) o72
  have o80 := gr_ob (gr_of_new e85 e83) o80
  have o88 := ob_of_new e85
  intro x90 e89
  have h := h x90 e89
  have K := k9_R K hU e89 o8 (by decide) (by decide)
  have o6 := ob_wR o6 e89
  have o8 := ob_wR o8 e89
  have o16 := ob_wR o16 e89
  have o24 := ob_wR o24 e89
  have o32 := ob_wR o32 e89
  have o40 := ob_wR o40 e89
  have o48 := ob_wR o48 e89
  have o56 := ob_wR o56 e89
  have o64 := ob_wR o64 e89
  have o72 := ob_wR o72 e89
  have o80 := ob_wR o80 e89
  have o88 := ob_wR o88 e89
  intro x92 e91
  have h := h x92 e91
  intro x94 e93
  have h := h x94 e93
  have n95 := k9_nf K e91
  have K := k9_W K e91 e93
  have o6 := gr_ob (gr_of_new e93 e91) o6
  have o8 := gr_ob (gr_of_new e93 e91) o8
  have o16 := gr_ob (gr_of_new e93 e91) o16
  have o24 := gr_ob (gr_of_new e93 e91) o24
  have o32 := gr_ob (gr_of_new e93 e91) o32
  have o40 := gr_ob (gr_of_new e93 e91) o40
  have o48 := gr_ob (gr_of_new e93 e91) o48
  have o56 := gr_ob (gr_of_new e93 e91) o56
  have o64 := gr_ob (gr_of_new e93 e91) o64
  have o72 := gr_ob (gr_of_new e93 e91) o72
  have o80 := gr_ob (gr_of_new e93 e91) o80
  have o88 := gr_ob (gr_of_new e93 e91) o88
  have o96 := ob_of_new e93
  intro x98 e97
  have h := h x98 e97
  have K := k9_R K hU e97 o8 (by decide) (by decide)
  have o6 := ob_wR o6 e97
  have o8 := ob_wR o8 e97
  have o16 := ob_wR o16 e97
  have o24 := ob_wR o24 e97
  have o32 := ob_wR o32 e97
  have o40 := ob_wR o40 e97
  have o48 := ob_wR o48 e97
  have o56 := ob_wR o56 e97
  have o64 := ob_wR o64 e97
  have o72 := ob_wR o72 e97
  have o80 := ob_wR o80 e97
  have o88 := ob_wR o88 e97
  have o96 := ob_wR o96 e97
  intro x100 e99
  have h := h x100 e99
  intro x102 e101
  have h := h x102 e101
  have n103 := k9_nf K e99
  have K := k9_W K e99 e101
  have o6 := gr_ob (gr_of_new e101 e99) o6
  have o8 := gr_ob (gr_of_new e101 e99) o8
  have o16 := gr_ob (gr_of_new e101 e99) o16
  have o24 := gr_ob (gr_of_new e101 e99) o24
  have o32 := gr_ob (gr_of_new e101 e99) o32
  have o40 := gr_ob (gr_of_new e101 e99) o40
  have o48 := gr_ob (gr_of_new e101 e99) o48
  have o56 := gr_ob (gr_of_new e101 e99) o56
  have o64 := gr_ob (gr_of_new e101 e99) o64
  have o72 := gr_ob (gr_of_new e101 e99) o72
  have o80 := gr_ob (gr_of_new e101 e99) o80
  have o88 := gr_ob (gr_of_new e101 e99) o88
  have o96 := gr_ob (gr_of_new e101 e99) o96
  have o104 := ob_of_new e101
  intro x106 e105
  have h := h x106 e105
  have K := k9_R K hU e105 o8 (by decide) (by decide)
  have o6 := ob_wR o6 e105
  have o8 := ob_wR o8 e105
  have o16 := ob_wR o16 e105
  have o24 := ob_wR o24 e105
  have o32 := ob_wR o32 e105
  have o40 := ob_wR o40 e105
  have o48 := ob_wR o48 e105
  have o56 := ob_wR o56 e105
  have o64 := ob_wR o64 e105
  have o72 := ob_wR o72 e105
  have o80 := ob_wR o80 e105
  have o88 := ob_wR o88 e105
  have o96 := ob_wR o96 e105
  have o104 := ob_wR o104 e105
  intro x108 e107
  have h := h x108 e107
  intro x110 e109
  have h := h x110 e109
  have n111 := k9_nf K e107
  have K := k9_W K e107 e109
  have o6 := gr_ob (gr_of_new e109 e107) o6
  have o8 := gr_ob (gr_of_new e109 e107) o8
  have o16 := gr_ob (gr_of_new e109 e107) o16
  have o24 := gr_ob (gr_of_new e109 e107) o24
  have o32 := gr_ob (gr_of_new e109 e107) o32
  have o40 := gr_ob (gr_of_new e109 e107) o40
  have o48 := gr_ob (gr_of_new e109 e107) o48
  have o56 := gr_ob (gr_of_new e109 e107) o56
  have o64 := gr_ob (gr_of_new e109 e107) o64
  have o72 := gr_ob (gr_of_new e109 e107) o72
  have o80 := gr_ob (gr_of_new e109 e107) o80
  have o88 := gr_ob (gr_of_new e109 e107) o88
  have o96 := gr_ob (gr_of_new e109 e107) o96
  have o104 := gr_ob (gr_of_new e109 e107) o104
  have o112 := ob_of_new e109
  intro x114 e113
  have h := h x114 e113
  have K := k9_R K hU e113 o8 (by decide) (by decide)
  have o6 := ob_wR o6 e113
  have o8 := ob_wR o8 e113
  have o16 := ob_wR o16 e113
  have o24 := ob_wR o24 e113
  have o32 := ob_wR o32 e113
  have o40 := ob_wR o40 e113
  have o48 := ob_wR o48 e113
  have o56 := ob_wR o56 e113
  have o64 := ob_wR o64 e113
  have o72 := ob_wR o72 e113
  have o80 := ob_wR o80 e113
  have o88 := ob_wR o88 e113
  have o96 := ob_wR o96 e113
  have o104 := ob_wR o104 e113
  have o112 := ob_wR o112 e113
  intro x116 e115
  have h := h x116 e115
  intro x118 e117
  have h := h x118 e117
  have n119 := k9_nf K e115
  have K := k9_W K e115 e117
  have o6 := gr_ob (gr_of_new e117 e115) o6
  have o8 := gr_ob (gr_of_new e117 e115) o8
  have o16 := gr_ob (gr_of_new e117 e115) o16
  have o24 := gr_ob (gr_of_new e117 e115) o24
  have o32 := gr_ob (gr_of_new e117 e115) o32
  have o40 := gr_ob (gr_of_new e117 e115) o40
  have o48 := gr_ob (gr_of_new e117 e115) o48
  have o56 := gr_ob (gr_of_new e117 e115) o56
  have o64 := gr_ob (gr_of_new e117 e115) o64
  have o72 := gr_ob (gr_of_new e117 e115) o72
  have o80 := gr_ob (gr_of_new e117 e115) o80
  have o88 := gr_ob (gr_of_new e117 e115) o88
  have o96 := gr_ob (gr_of_new e117 e115) o96
  have o104 := gr_ob (gr_of_new e117 e115) o104
  have o112 := gr_ob (gr_of_new e117 e115) o112
  have o120 := ob_of_new e117
  intro x122 e121
  have h := h x122 e121
  have K := k9_R K hU e121 o8 (by decide) (by decide)
  have o6 := ob_wR o6 e121
  have o8 := ob_wR o8 e121
  have o16 := ob_wR o16 e121
  have o24 := ob_wR o24 e121
  have o32 := ob_wR o32 e121
  have o40 := ob_wR o40 e121
  have o48 := ob_wR o48 e121
  have o56 := ob_wR o56 e121
  have o64 := ob_wR o64 e121
  have o72 := ob_wR o72 e121
  have o80 := ob_wR o80 e121
  have o88 := ob_wR o88 e121
  have o96 := ob_wR o96 e121
  have o104 := ob_wR o104 e121
  have o112 := ob_wR o112 e121
  have o120 := ob_wR o120 e121
  intro x124 e123
  have h := h x124 e123
  intro x126 e125
  have h := h x126 e125
  have n127 := k9_nf K e123
  have K := k9_W K e123 e125
  have o6 := gr_ob (gr_of_new e125 e123) o6
  have o8 := gr_ob (gr_of_new e125 e123) o8
  have o16 := gr_ob (gr_of_new e125 e123) o16
  have o24 := gr_ob (gr_of_new e125 e123) o24
  have o32 := gr_ob (gr_of_new e125 e123) o32
  have o40 := gr_ob (gr_of_new e125 e123) o40
  have o48 := gr_ob (gr_of_new e125 e123) o48
  have o56 := gr_ob (gr_of_new e125 e123) o56
  have o64 := gr_ob (gr_of_new e125 e123) o64
  have o72 := gr_ob (gr_of_new e125 e123) o72
  have o80 := gr_ob (gr_of_new e125 e123) o80
  have o88 := gr_ob (gr_of_new e125 e123) o88
  have o96 := gr_ob (gr_of_new e125 e123) o96
  have o104 := gr_ob (gr_of_new e125 e123) o104
  have o112 := gr_ob (gr_of_new e125 e123) o112
  have o120 := gr_ob (gr_of_new e125 e123) o120
  have o128 := ob_of_new e125
  intro x130 e129
  have h := h x130 e129
  have K := k9_R K hU e129 o8 (by decide) (by decide)
  have o6 := ob_wR o6 e129
  have o8 := ob_wR o8 e129
  have o16 := ob_wR o16 e129
  have o24 := ob_wR o24 e129
  have o32 := ob_wR o32 e129
  have o40 := ob_wR o40 e129
  have o48 := ob_wR o48 e129
  have o56 := ob_wR o56 e129
  have o64 := ob_wR o64 e129
  have o72 := ob_wR o72 e129
  have o80 := ob_wR o80 e129
  have o88 := ob_wR o88 e129
  have o96 := ob_wR o96 e129
  have o104 := ob_wR o104 e129
  have o112 := ob_wR o112 e129
  have o120 := ob_wR o120 e129
  have o128 := ob_wR o128 e129
  intro x132 e131
  have h := h x132 e131
  intro x134 e133
  have h := h x134 e133
  have n135 := k9_nf K e131
  have K := k9_W K e131 e133
  have o6 := gr_ob (gr_of_new e133 e131) o6
  have o8 := gr_ob (gr_of_new e133 e131) o8
  have o16 := gr_ob (gr_of_new e133 e131) o16
  have o24 := gr_ob (gr_of_new e133 e131) o24
  have o32 := gr_ob (gr_of_new e133 e131) o32
  have o40 := gr_ob (gr_of_new e133 e131) o40
  have o48 := gr_ob (gr_of_new e133 e131) o48
  have o56 := gr_ob (gr_of_new e133 e131) o56
  have o64 := gr_ob (gr_of_new e133 e131) o64
  have o72 := gr_ob (gr_of_new e133 e131) o72
  have o80 := gr_ob (gr_of_new e133 e131) o80
  have o88 := gr_ob (gr_of_new e133 e131) o88
  have o96 := gr_ob (gr_of_new e133 e131) o96
  have o104 := gr_ob (gr_of_new e133 e131) o104
  have o112 := gr_ob (gr_of_new e133 e131) o112
  have o120 := gr_ob (gr_of_new e133 e131) o120
  have o128 := gr_ob (gr_of_new e133 e131) o128
  have o136 := ob_of_new e133
  intro x138 e137
  have h := h x138 e137
  have K := k9_R K hU e137 o8 (by decide) (by decide)
  have o6 := ob_wR o6 e137
  have o8 := ob_wR o8 e137
  have o16 := ob_wR o16 e137
  have o24 := ob_wR o24 e137
  have o32 := ob_wR o32 e137
  have o40 := ob_wR o40 e137
  have o48 := ob_wR o48 e137
  have o56 := ob_wR o56 e137
  have o64 := ob_wR o64 e137
  have o72 := ob_wR o72 e137
  have o80 := ob_wR o80 e137
  have o88 := ob_wR o88 e137
  have o96 := ob_wR o96 e137
  have o104 := ob_wR o104 e137
  have o112 := ob_wR o112 e137
  have o120 := ob_wR o120 e137
  have o128 := ob_wR o128 e137
  have o136 := ob_wR o136 e137
  intro x140 e139
  have h := h x140 e139
  intro x142 e141
  have h := h x142 e141
  have n143 := k9_nf K e139
  have K := k9_W K e139 e141
  have o6 := gr_ob (gr_of_new e141 e139) o6
  have o8 := gr_ob (gr_of_new e141 e139) o8
  have o16 := gr_ob (gr_of_new e141 e139) o16
  have o24 := gr_ob (gr_of_new e141 e139) o24
  have o32 := gr_ob (gr_of_new e141 e139) o32
  have o40 := gr_ob (gr_of_new e141 e139) o40
  have o48 := gr_ob (gr_of_new e141 e139) o48
  have o56 := gr_ob (gr_of_new e141 e139) o56
  have o64 := gr_ob (gr_of_new e141 e139) o64
  have o72 := gr_ob (gr_of_new e141 e139) o72
  have o80 := gr_ob (gr_of_new e141 e139) o80
  have o88 := gr_ob (gr_of_new e141 e139) o88
  have o96 := gr_ob (gr_of_new e141 e139) o96
  have o104 := gr_ob (gr_of_new e141 e139) o104
  have o112 := gr_ob (gr_of_new e141 e139) o112
  have o120 := gr_ob (gr_of_new e141 e139) o120
  have o128 := gr_ob (gr_of_new e141 e139) o128
  have o136 := gr_ob (gr_of_new e141 e139) o136
  have o144 := ob_of_new e141
  intro x146 e145
  have h := h x146 e145
  have K := k9_R K hU e145 o8 (by decide) (by decide)
  have o6 := ob_wR o6 e145
  have o8 := ob_wR o8 e145
  have o16 := ob_wR o16 e145
  have o24 := ob_wR o24 e145
  have o32 := ob_wR o32 e145
  have o40 := ob_wR o40 e145
  have o48 := ob_wR o48 e145
  have o56 := ob_wR o56 e145
  have o64 := ob_wR o64 e145
  have o72 := ob_wR o72 e145
  have o80 := ob_wR o80 e145
  have o88 := ob_wR o88 e145
  have o96 := ob_wR o96 e145
  have o104 := ob_wR o104 e145
  have o112 := ob_wR o112 e145
  have o120 := ob_wR o120 e145
  have o128 := ob_wR o128 e145
  have o136 := ob_wR o136 e145
  have o144 := ob_wR o144 e145
  intro x148 e147
  have h := h x148 e147
  intro x150 e149
  have h := h x150 e149
  have n151 := k9_nf K e147
  have K := k9_W K e147 e149
  have o6 := gr_ob (gr_of_new e149 e147) o6
  have o8 := gr_ob (gr_of_new e149 e147) o8
  have o16 := gr_ob (gr_of_new e149 e147) o16
  have o24 := gr_ob (gr_of_new e149 e147) o24
  have o32 := gr_ob (gr_of_new e149 e147) o32
  have o40 := gr_ob (gr_of_new e149 e147) o40
  have o48 := gr_ob (gr_of_new e149 e147) o48
  have o56 := gr_ob (gr_of_new e149 e147) o56
  have o64 := gr_ob (gr_of_new e149 e147) o64
  have o72 := gr_ob (gr_of_new e149 e147) o72
  have o80 := gr_ob (gr_of_new e149 e147) o80
  have o88 := gr_ob (gr_of_new e149 e147) o88
  have o96 := gr_ob (gr_of_new e149 e147) o96
  have o104 := gr_ob (gr_of_new e149 e147) o104
  have o112 := gr_ob (gr_of_new e149 e147) o112
  have o120 := gr_ob (gr_of_new e149 e147) o120
  have o128 := gr_ob (gr_of_new e149 e147) o128
  have o136 := gr_ob (gr_of_new e149 e147) o136
  have o144 := gr_ob (gr_of_new e149 e147) o144
  have o152 := ob_of_new e149
  intro x154 e153
  have h := h x154 e153
  have K := k9_R K hU e153 o8 (by decide) (by decide)
  have o6 := ob_wR o6 e153
  have o8 := ob_wR o8 e153
  have o16 := ob_wR o16 e153
  have o24 := ob_wR o24 e153
  have o32 := ob_wR o32 e153
  have o40 := ob_wR o40 e153
  have o48 := ob_wR o48 e153
  have o56 := ob_wR o56 e153
  have o64 := ob_wR o64 e153
  have o72 := ob_wR o72 e153
  have o80 := ob_wR o80 e153
  have o88 := ob_wR o88 e153
  have o96 := ob_wR o96 e153
  have o104 := ob_wR o104 e153
  have o112 := ob_wR o112 e153
  have o120 := ob_wR o120 e153
  have o128 := ob_wR o128 e153
  have o136 := ob_wR o136 e153
  have o144 := ob_wR o144 e153
  have o152 := ob_wR o152 e153
  intro x156 e155
  have h := h x156 e155
  intro x158 e157
  have h := h x158 e157
  have n159 := k9_nf K e155
  have K := k9_W K e155 e157
  have o6 := gr_ob (gr_of_new e157 e155) o6
  have o8 := gr_ob (gr_of_new e157 e155) o8
  have o16 := gr_ob (gr_of_new e157 e155) o16
  have o24 := gr_ob (gr_of_new e157 e155) o24
  have o32 := gr_ob (gr_of_new e157 e155) o32
  have o40 := gr_ob (gr_of_new e157 e155) o40
  have o48 := gr_ob (gr_of_new e157 e155) o48
  have o56 := gr_ob (gr_of_new e157 e155) o56
  have o64 := gr_ob (gr_of_new e157 e155) o64
  have o72 := gr_ob (gr_of_new e157 e155) o72
  have o80 := gr_ob (gr_of_new e157 e155) o80
  have o88 := gr_ob (gr_of_new e157 e155) o88
  have o96 := gr_ob (gr_of_new e157 e155) o96
  have o104 := gr_ob (gr_of_new e157 e155) o104
  have o112 := gr_ob (gr_of_new e157 e155) o112
  have o120 := gr_ob (gr_of_new e157 e155) o120
  have o128 := gr_ob (gr_of_new e157 e155) o128
  have o136 := gr_ob (gr_of_new e157 e155) o136
  have o144 := gr_ob (gr_of_new e157 e155) o144
  have o152 := gr_ob (gr_of_new e157 e155) o152
  have o160 := ob_of_new e157
  intro x162 e161
  have h := h x162 e161
  have K := k9_R K hU e161 o8 (by decide) (by decide)
  have o6 := ob_wR o6 e161
  have o8 := ob_wR o8 e161
  have o16 := ob_wR o16 e161
  have o24 := ob_wR o24 e161
  have o32 := ob_wR o32 e161
  have o40 := ob_wR o40 e161
  have o48 := ob_wR o48 e161
  have o56 := ob_wR o56 e161
  have o64 := ob_wR o64 e161
  have o72 := ob_wR o72 e161
  have o80 := ob_wR o80 e161
  have o88 := ob_wR o88 e161
  have o96 := ob_wR o96 e161
  have o104 := ob_wR o104 e161
  have o112 := ob_wR o112 e161
  have o120 := ob_wR o120 e161
  have o128 := ob_wR o128 e161
  have o136 := ob_wR o136 e161
  have o144 := ob_wR o144 e161
  have o152 := ob_wR o152 e161
  have o160 := ob_wR o160 e161
  intro x164 e163
  have h := h x164 e163
  intro x166 e165
  have h := h x166 e165
  have n167 := k9_nf K e163
  have K := k9_W K e163 e165
  have o6 := gr_ob (gr_of_new e165 e163) o6
  have o8 := gr_ob (gr_of_new e165 e163) o8
  have o16 := gr_ob (gr_of_new e165 e163) o16
  have o24 := gr_ob (gr_of_new e165 e163) o24
  have o32 := gr_ob (gr_of_new e165 e163) o32
  have o40 := gr_ob (gr_of_new e165 e163) o40
  have o48 := gr_ob (gr_of_new e165 e163) o48
  have o56 := gr_ob (gr_of_new e165 e163) o56
  have o64 := gr_ob (gr_of_new e165 e163) o64
  have o72 := gr_ob (gr_of_new e165 e163) o72
  have o80 := gr_ob (gr_of_new e165 e163) o80
  have o88 := gr_ob (gr_of_new e165 e163) o88
  have o96 := gr_ob (gr_of_new e165 e163) o96
  have o104 := gr_ob (gr_of_new e165 e163) o104
  have o112 := gr_ob (gr_of_new e165 e163) o112
  have o120 := gr_ob (gr_of_new e165 e163) o120
  have o128 := gr_ob (gr_of_new e165 e163) o128
  have o136 := gr_ob (gr_of_new e165 e163) o136
  have o144 := gr_ob (gr_of_new e165 e163) o144
  have o152 := gr_ob (gr_of_new e165 e163) o152
  have o160 := gr_ob (gr_of_new e165 e163) o160
  have o168 := ob_of_new e165
  intro x170 e169
  have h := h x170 e169
  have K := k9_R K hU e169 o8 (by decide) (by decide)
  have o6 := ob_wR o6 e169
  have o8 := ob_wR o8 e169
  have o16 := ob_wR o16 e169
  have o24 := ob_wR o24 e169
  have o32 := ob_wR o32 e169
  have o40 := ob_wR o40 e169
  have o48 := ob_wR o48 e169
  have o56 := ob_wR o56 e169
  have o64 := ob_wR o64 e169
  have o72 := ob_wR o72 e169
  have o80 := ob_wR o80 e169
  have o88 := ob_wR o88 e169
  have o96 := ob_wR o96 e169
  have o104 := ob_wR o104 e169
  have o112 := ob_wR o112 e169
  have o120 := ob_wR o120 e169
  have o128 := ob_wR o128 e169
  have o136 := ob_wR o136 e169
  have o144 := ob_wR o144 e169
  have o152 := ob_wR o152 e169
  have o160 := ob_wR o160 e169
  have o168 := ob_wR o168 e169
  intro x172 e171
  have h := h x172 e171
  intro x174 e173
  have h := h x174 e173
  have n175 := k9_nf K e171
  have K := k9_W K e171 e173
  have o6 := gr_ob (gr_of_new e173 e171) o6
  have o8 := gr_ob (gr_of_new e173 e171) o8
  have o16 := gr_ob (gr_of_new e173 e171) o16
  have o24 := gr_ob (gr_of_new e173 e171) o24
  have o32 := gr_ob (gr_of_new e173 e171) o32
  have o40 := gr_ob (gr_of_new e173 e171) o40
  have o48 := gr_ob (gr_of_new e173 e171) o48
  have o56 := gr_ob (gr_of_new e173 e171) o56
  have o64 := gr_ob (gr_of_new e173 e171) o64
  have o72 := gr_ob (gr_of_new e173 e171) o72
  have o80 := gr_ob (gr_of_new e173 e171) o80
  have o88 := gr_ob (gr_of_new e173 e171) o88
  have o96 := gr_ob (gr_of_new e173 e171) o96
  have o104 := gr_ob (gr_of_new e173 e171) o104
  have o112 := gr_ob (gr_of_new e173 e171) o112
  have o120 := gr_ob (gr_of_new e173 e171) o120
  have o128 := gr_ob (gr_of_new e173 e171) o128
  have o136 := gr_ob (gr_of_new e173 e171) o136
  have o144 := gr_ob (gr_of_new e173 e171) o144
  have o152 := gr_ob (gr_of_new e173 e171) o152
  have o160 := gr_ob (gr_of_new e173 e171) o160
  have o168 := gr_ob (gr_of_new e173 e171) o168
  have o176 := ob_of_new e173
  intro x178 e177
  have h := h x178 e177
  have K := k9_S K e177 o8 n175 (by decide)
  have o6 := ob_wR o6 e177
  have o8 := ob_wR o8 e177
  have o16 := ob_wR o16 e177
  have o24 := ob_wR o24 e177
  have o32 := ob_wR o32 e177
  have o40 := ob_wR o40 e177
  have o48 := ob_wR o48 e177
  have o56 := ob_wR o56 e177
  have o64 := ob_wR o64 e177
  have o72 := ob_wR o72 e177
  have o80 := ob_wR o80 e177
  have o88 := ob_wR o88 e177
  have o96 := ob_wR o96 e177
  have o104 := ob_wR o104 e177
  have o112 := ob_wR o112 e177
  have o120 := ob_wR o120 e177
  have o128 := ob_wR o128 e177
  have o136 := ob_wR o136 e177
  have o144 := ob_wR o144 e177
  have o152 := ob_wR o152 e177
  have o160 := ob_wR o160 e177
  have o168 := ob_wR o168 e177
  have o176 := ob_wR o176 e177
  intro x180 e179
  have h := h x180 e179
  intro x182 e181
  have h := h x182 e181
  have n183 := k9_nf K e179
  have K := k9_W K e179 e181
  have o6 := gr_ob (gr_of_new e181 e179) o6
  have o8 := gr_ob (gr_of_new e181 e179) o8
  have o16 := gr_ob (gr_of_new e181 e179) o16
  have o24 := gr_ob (gr_of_new e181 e179) o24
  have o32 := gr_ob (gr_of_new e181 e179) o32
  have o40 := gr_ob (gr_of_new e181 e179) o40
  have o48 := gr_ob (gr_of_new e181 e179) o48
  have o56 := gr_ob (gr_of_new e181 e179) o56
  have o64 := gr_ob (gr_of_new e181 e179) o64
  have o72 := gr_ob (gr_of_new e181 e179) o72
  have o80 := gr_ob (gr_of_new e181 e179) o80
  have o88 := gr_ob (gr_of_new e181 e179) o88
  have o96 := gr_ob (gr_of_new e181 e179) o96
  have o104 := gr_ob (gr_of_new e181 e179) o104
  have o112 := gr_ob (gr_of_new e181 e179) o112
  have o120 := gr_ob (gr_of_new e181 e179) o120
  have o128 := gr_ob (gr_of_new e181 e179) o128
  have o136 := gr_ob (gr_of_new e181 e179) o136
  have o144 := gr_ob (gr_of_new e181 e179) o144
  have o152 := gr_ob (gr_of_new e181 e179) o152
  have o160 := gr_ob (gr_of_new e181 e179) o160
  have o168 := gr_ob (gr_of_new e181 e179) o168
  have o176 := gr_ob (gr_of_new e181 e179) o176
  have o184 := ob_of_new e181
  intro x186 e185
  have h := h x186 e185
  have K := k9_R K hU e185 o8 (by decide) (by decide)
  have o6 := ob_wR o6 e185
  have o8 := ob_wR o8 e185
  have o16 := ob_wR o16 e185
  have o24 := ob_wR o24 e185
  have o32 := ob_wR o32 e185
  have o40 := ob_wR o40 e185
  have o48 := ob_wR o48 e185
  have o56 := ob_wR o56 e185
  have o64 := ob_wR o64 e185
  have o72 := ob_wR o72 e185
  have o80 := ob_wR o80 e185
  have o88 := ob_wR o88 e185
  have o96 := ob_wR o96 e185
  have o104 := ob_wR o104 e185
  have o112 := ob_wR o112 e185
  have o120 := ob_wR o120 e185
  have o128 := ob_wR o128 e185
  have o136 := ob_wR o136 e185
  have o144 := ob_wR o144 e185
  have o152 := ob_wR o152 e185
  have o160 := ob_wR o160 e185
  have o168 := ob_wR o168 e185
  have o176 := ob_wR o176 e185
  have o184 := ob_wR o184 e185
  intro x188 e187
  have h := h x188 e187
  intro x190 e189
  have h := h x190 e189
  have n191 := k9_nf K e187
  have K := k9_W K e187 e189
  have o6 := gr_ob (gr_of_new e189 e187) o6
  have o8 := gr_ob (gr_of_new e189 e187) o8
  have o16 := gr_ob (gr_of_new e189 e187) o16
  have o24 := gr_ob (gr_of_new e189 e187) o24
  have o32 := gr_ob (gr_of_new e189 e187) o32
  have o40 := gr_ob (gr_of_new e189 e187) o40
  have o48 := gr_ob (gr_of_new e189 e187) o48
  have o56 := gr_ob (gr_of_new e189 e187) o56
  have o64 := gr_ob (gr_of_new e189 e187) o64
  have o72 := gr_ob (gr_of_new e189 e187) o72
  have o80 := gr_ob (gr_of_new e189 e187) o80
  have o88 := gr_ob (gr_of_new e189 e187) o88
  have o96 := gr_ob (gr_of_new e189 e187) o96
  have o104 := gr_ob (gr_of_new e189 e187) o104
  have o112 := gr_ob (gr_of_new e189 e187) o112
  have o120 := gr_ob (gr_of_new e189 e187) o120
  have o128 := gr_ob (gr_of_new e189 e187) o128
  have o136 := gr_ob (gr_of_new e189 e187) o136
  have o144 := gr_ob (gr_of_new e189 e187) o144
  have o152 := gr_ob (gr_of_new e189 e187) o152
  have o160 := gr_ob (gr_of_new e189 e187) o160
  have o168 := gr_ob (gr_of_new e189 e187) o168
  have o176 := gr_ob (gr_of_new e189 e187) o176
  have o184 := gr_ob (gr_of_new e189 e187) o184
  have o192 := ob_of_new e189
  intro x194 e193
  have h := h x194 e193
  have K := k9_R K hU e193 o8 (by decide) (by decide)
  have o6 := ob_wR o6 e193
  have o8 := ob_wR o8 e193
  have o16 := ob_wR o16 e193
  have o24 := ob_wR o24 e193
  have o32 := ob_wR o32 e193
  have o40 := ob_wR o40 e193
  have o48 := ob_wR o48 e193
  have o56 := ob_wR o56 e193
  have o64 := ob_wR o64 e193
  have o72 := ob_wR o72 e193
  have o80 := ob_wR o80 e193
  have o88 := ob_wR o88 e193
  have o96 := ob_wR o96 e193
  have o104 := ob_wR o104 e193
  have o112 := ob_wR o112 e193
  have o120 := ob_wR o120 e193
  have o128 := ob_wR o128 e193
  have o136 := ob_wR o136 e193
  have o144 := ob_wR o144 e193
  have o152 := ob_wR o152 e193
  have o160 := ob_wR o160 e193
  have o168 := ob_wR o168 e193
  have o176 := ob_wR o176 e193
  have o184 := ob_wR o184 e193
  have o192 := ob_wR o192 e193
  exact ⟨h, K⟩
theorem ky_X10_init {b : Bool} {L : List (Nat × Nat)} (hU : ∀ q ∈ L, q ∈ nyT) (hL : ∀ q ∈ kyL_X10_init, q ∈ L) (hb : False → b = false) {Q : HS → Prop} {v0 : Nat} {S : HS} (h : P_X10_init v0 Q S) : P_X10_init v0 (fun T => Q T ∧ K9 b L S T) S := ky_X10_init_0 hU hL hb h (k9_rf b L S)
abbrev kyL_X10_minutes : List (Nat × Nat) := []
set_option maxRecDepth 20000 in
set_option maxHeartbeats 1000000 in
theorem ky_X10_minutes_0 {b : Bool} {L : List (Nat × Nat)} (hU : ∀ q ∈ L, q ∈ nyT) (hL : ∀ q ∈ kyL_X10_minutes, q ∈ L) (hb : False → b = false) {Q : Int32 → HS → Prop} {v0 : Nat} {v1 : Int32} {v2 : Int32} {S0 S : HS} (h : P_X10_minutes_0 Q v0 v1 v2 S) (K : K9 b L S0 S) : P_X10_minutes_0 (fun r T => Q r T ∧ K9 b L S0 T) v0 v1 v2 S := by
  delta P_X10_minutes_0 at h ⊢
  obtain ⟨c1, h⟩ := h
  refine ⟨c1, ?_⟩
  have o2 := c1
  obtain ⟨b3, e4, h⟩ := h
  refine ⟨b3, e4, ?_⟩
  obtain ⟨c5, h⟩ := h
  refine ⟨c5, ?_⟩
  obtain ⟨c6, h⟩ := h
  refine ⟨c6, ?_⟩
  intro x8 e7
  have h := h x8 e7
  obtain ⟨c9, h⟩ := h
  refine ⟨c9, ?_⟩
  intro x11 e10
  have h := h x11 e10
  exact ⟨h, K⟩
theorem ky_X10_minutes {b : Bool} {L : List (Nat × Nat)} (hU : ∀ q ∈ L, q ∈ nyT) (hL : ∀ q ∈ kyL_X10_minutes, q ∈ L) (hb : False → b = false) {Q : Int32 → HS → Prop} {v0 : Nat} {v1 : Int32} {v2 : Int32} {S : HS} (h : P_X10_minutes v0 v1 v2 Q S) : P_X10_minutes v0 v1 v2 (fun r T => Q r T ∧ K9 b L S T) S := ky_X10_minutes_0 hU hL hb h (k9_rf b L S)
abbrev kyL_X10_shield : List (Nat × Nat) := []
set_option maxRecDepth 20000 in
set_option maxHeartbeats 1000000 in
theorem ky_X10_shield_0 {b : Bool} {L : List (Nat × Nat)} (hU : ∀ q ∈ L, q ∈ nyT) (hL : ∀ q ∈ kyL_X10_shield, q ∈ L) (hb : False → b = false) {Q : Int32 → HS → Prop} {v0 : Nat} {v1 : Int32} {S0 S : HS} (h : P_X10_shield_0 Q v0 v1 S) (K : K9 b L S0 S) : P_X10_shield_0 (fun r T => Q r T ∧ K9 b L S0 T) v0 v1 S := by
  delta P_X10_shield_0 at h ⊢
  obtain ⟨c1, h⟩ := h
  refine ⟨c1, ?_⟩
  have o2 := c1
  obtain ⟨b3, e4, h⟩ := h
  refine ⟨b3, e4, ?_⟩
  obtain ⟨c5, h⟩ := h
  refine ⟨c5, ?_⟩
  obtain ⟨c6, h⟩ := h
  refine ⟨c6, ?_⟩
  intro x8 e7
  have h := h x8 e7
  refine ⟨?_, ?_⟩
  · intro c9
    have h := h.1 c9
    exact ⟨h, K⟩
  · intro c10
    have h := h.2 c10
    obtain ⟨b11, e12, h⟩ := h
    refine ⟨b11, e12, ?_⟩
    obtain ⟨c13, h⟩ := h
    refine ⟨c13, ?_⟩
    obtain ⟨c14, h⟩ := h
    refine ⟨c14, ?_⟩
    intro x16 e15
    have h := h x16 e15
    exact ⟨h, K⟩
theorem ky_X10_shield {b : Bool} {L : List (Nat × Nat)} (hU : ∀ q ∈ L, q ∈ nyT) (hL : ∀ q ∈ kyL_X10_shield, q ∈ L) (hb : False → b = false) {Q : Int32 → HS → Prop} {v0 : Nat} {v1 : Int32} {S : HS} (h : P_X10_shield v0 v1 Q S) : P_X10_shield v0 v1 (fun r T => Q r T ∧ K9 b L S T) S := ky_X10_shield_0 hU hL hb h (k9_rf b L S)
abbrev kyL_X11_good : List (Nat × Nat) := []
set_option maxRecDepth 20000 in
set_option maxHeartbeats 1000000 in
theorem ky_X11_good_0 {b : Bool} {L : List (Nat × Nat)} (hU : ∀ q ∈ L, q ∈ nyT) (hL : ∀ q ∈ kyL_X11_good, q ∈ L) (hb : False → b = false) {Q : Int32 → HS → Prop} {v0 : Nat} {v1 : Int32} {S0 S : HS} (h : P_X11_good_0 Q v0 v1 S) (K : K9 b L S0 S) : P_X11_good_0 (fun r T => Q r T ∧ K9 b L S0 T) v0 v1 S := by
  delta P_X11_good_0 at h ⊢
  obtain ⟨c1, h⟩ := h
  refine ⟨c1, ?_⟩
  intro x3 e2
  have h := h x3 e2
  have K := k9_I K e2
  intro x5 e4
  have h := h x5 e4
  have K := k9_I K e4
  exact ⟨h, K⟩
theorem ky_X11_good {b : Bool} {L : List (Nat × Nat)} (hU : ∀ q ∈ L, q ∈ nyT) (hL : ∀ q ∈ kyL_X11_good, q ∈ L) (hb : False → b = false) {Q : Int32 → HS → Prop} {v0 : Nat} {v1 : Int32} {S : HS} (h : P_X11_good v0 v1 Q S) : P_X11_good v0 v1 (fun r T => Q r T ∧ K9 b L S T) S := ky_X11_good_0 hU hL hb h (k9_rf b L S)
abbrev kyL_X11_in : List (Nat × Nat) := []
set_option maxRecDepth 20000 in
set_option maxHeartbeats 1000000 in
theorem ky_X11_in_0 {b : Bool} {L : List (Nat × Nat)} (hU : ∀ q ∈ L, q ∈ nyT) (hL : ∀ q ∈ kyL_X11_in, q ∈ L) (hb : False → b = false) {Q : Int32 → HS → Prop} {v0 : Int32} {v1 : Int32} {v2 : Int32} {S0 S : HS} (h : P_X11_in_0 Q v0 v1 v2 S) (K : K9 b L S0 S) : P_X11_in_0 (fun r T => Q r T ∧ K9 b L S0 T) v0 v1 v2 S := by
  delta P_X11_in_0 at h ⊢
  refine ⟨?_, ?_⟩
  · intro c1
    have h := h.1 c1
    exact ⟨h, K⟩
  · intro c2
    have h := h.2 c2
    refine ⟨?_, ?_⟩
    · intro c3
      have h := h.1 c3
      exact ⟨h, K⟩
    · intro c4
      have h := h.2 c4
      exact ⟨h, K⟩
theorem ky_X11_in {b : Bool} {L : List (Nat × Nat)} (hU : ∀ q ∈ L, q ∈ nyT) (hL : ∀ q ∈ kyL_X11_in, q ∈ L) (hb : False → b = false) {Q : Int32 → HS → Prop} {v0 : Int32} {v1 : Int32} {v2 : Int32} {S : HS} (h : P_X11_in v0 v1 v2 Q S) : P_X11_in v0 v1 v2 (fun r T => Q r T ∧ K9 b L S T) S := ky_X11_in_0 hU hL hb h (k9_rf b L S)
abbrev kyL_X11_isHour : List (Nat × Nat) := []
set_option maxRecDepth 20000 in
set_option maxHeartbeats 1000000 in
theorem ky_X11_isHour_0 {b : Bool} {L : List (Nat × Nat)} (hU : ∀ q ∈ L, q ∈ nyT) (hL : ∀ q ∈ kyL_X11_isHour, q ∈ L) (hb : False → b = false) {Q : Int32 → HS → Prop} {v0 : Nat} {v1 : Int32} {S0 S : HS} (h : P_X11_isHour_0 Q v0 v1 S) (K : K9 b L S0 S) : P_X11_isHour_0 (fun r T => Q r T ∧ K9 b L S0 T) v0 v1 S := by
  delta P_X11_isHour_0 at h ⊢
  obtain ⟨c1, h⟩ := h
  refine ⟨c1, ?_⟩
  have o2 := c1
  refine ⟨?_, ?_⟩
  · intro c3
    have h := h.1 c3
    exact ⟨h, K⟩
  · intro x4 c5
    have h := h.2 x4 c5
    refine ⟨?_, ?_⟩
    · intro c6
      have h := h.1 c6
      exact ⟨h, K⟩
    · intro c7
      have h := h.2 c7
      obtain ⟨b8, e9, h⟩ := h
      refine ⟨b8, e9, ?_⟩
      obtain ⟨c10, h⟩ := h
      refine ⟨c10, ?_⟩
      intro x12 e11
      have h := h x12 e11
      refine ⟨?_, ?_⟩
      · intro c13
        have h := h.1 c13
        exact ⟨h, K⟩
      · intro c14
        have h := h.2 c14
        exact ⟨h, K⟩
theorem ky_X11_isHour {b : Bool} {L : List (Nat × Nat)} (hU : ∀ q ∈ L, q ∈ nyT) (hL : ∀ q ∈ kyL_X11_isHour, q ∈ L) (hb : False → b = false) {Q : Int32 → HS → Prop} {v0 : Nat} {v1 : Int32} {S : HS} (h : P_X11_isHour v0 v1 Q S) : P_X11_isHour v0 v1 (fun r T => Q r T ∧ K9 b L S T) S := ky_X11_isHour_0 hU hL hb h (k9_rf b L S)
abbrev kyL_X11_isRoad : List (Nat × Nat) := []
set_option maxRecDepth 20000 in
set_option maxHeartbeats 1000000 in
theorem ky_X11_isRoad_0 {b : Bool} {L : List (Nat × Nat)} (hU : ∀ q ∈ L, q ∈ nyT) (hL : ∀ q ∈ kyL_X11_isRoad, q ∈ L) (hb : False → b = false) {Q : Int32 → HS → Prop} {v0 : Nat} {v1 : Int32} {S0 S : HS} (h : P_X11_isRoad_0 Q v0 v1 S) (K : K9 b L S0 S) : P_X11_isRoad_0 (fun r T => Q r T ∧ K9 b L S0 T) v0 v1 S := by
  delta P_X11_isRoad_0 at h ⊢
  obtain ⟨c1, h⟩ := h
  refine ⟨c1, ?_⟩
  have o2 := c1
  refine ⟨?_, ?_⟩
  · intro c3
    have h := h.1 c3
    exact ⟨h, K⟩
  · intro x4 c5
    have h := h.2 x4 c5
    refine ⟨?_, ?_⟩
    · intro c6
      have h := h.1 c6
      exact ⟨h, K⟩
    · intro c7
      have h := h.2 c7
      obtain ⟨b8, e9, h⟩ := h
      refine ⟨b8, e9, ?_⟩
      obtain ⟨c10, h⟩ := h
      refine ⟨c10, ?_⟩
      intro x12 e11
      have h := h x12 e11
      refine ⟨?_, ?_⟩
      · intro c13
        have h := h.1 c13
        exact ⟨h, K⟩
      · intro c14
        have h := h.2 c14
        exact ⟨h, K⟩
theorem ky_X11_isRoad {b : Bool} {L : List (Nat × Nat)} (hU : ∀ q ∈ L, q ∈ nyT) (hL : ∀ q ∈ kyL_X11_isRoad, q ∈ L) (hb : False → b = false) {Q : Int32 → HS → Prop} {v0 : Nat} {v1 : Int32} {S : HS} (h : P_X11_isRoad v0 v1 Q S) : P_X11_isRoad v0 v1 (fun r T => Q r T ∧ K9 b L S T) S := ky_X11_isRoad_0 hU hL hb h (k9_rf b L S)
abbrev kyL_X11_refused : List (Nat × Nat) := []
set_option maxRecDepth 20000 in
set_option maxHeartbeats 1000000 in
theorem ky_X11_refused_0 {b : Bool} {L : List (Nat × Nat)} (hU : ∀ q ∈ L, q ∈ nyT) (hL : ∀ q ∈ kyL_X11_refused, q ∈ L) (hb : False → b = false) {Q : Int32 → HS → Prop} {v0 : Nat} {v1 : Int32} {S0 S : HS} (h : P_X11_refused_0 Q v0 v1 S) (K : K9 b L S0 S) : P_X11_refused_0 (fun r T => Q r T ∧ K9 b L S0 T) v0 v1 S := by
  delta P_X11_refused_0 at h ⊢
  obtain ⟨c1, h⟩ := h
  refine ⟨c1, ?_⟩
  intro x3 e2
  have h := h x3 e2
  have K := k9_I K e2
  intro x5 e4
  have h := h x5 e4
  have K := k9_I K e4
  exact ⟨h, K⟩
theorem ky_X11_refused {b : Bool} {L : List (Nat × Nat)} (hU : ∀ q ∈ L, q ∈ nyT) (hL : ∀ q ∈ kyL_X11_refused, q ∈ L) (hb : False → b = false) {Q : Int32 → HS → Prop} {v0 : Nat} {v1 : Int32} {S : HS} (h : P_X11_refused v0 v1 Q S) : P_X11_refused v0 v1 (fun r T => Q r T ∧ K9 b L S T) S := ky_X11_refused_0 hU hL hb h (k9_rf b L S)
abbrev kyL_X11_lost : List (Nat × Nat) := []
set_option maxRecDepth 20000 in
set_option maxHeartbeats 1000000 in
theorem ky_X11_lost_0 {b : Bool} {L : List (Nat × Nat)} (hU : ∀ q ∈ L, q ∈ nyT) (hL : ∀ q ∈ kyL_X11_lost, q ∈ L) (hb : False → b = false) {Q : Int32 → HS → Prop} {v0 : Nat} {v1 : Int32} {S0 S : HS} (h : P_X11_lost_0 Q v0 v1 S) (K : K9 b L S0 S) : P_X11_lost_0 (fun r T => Q r T ∧ K9 b L S0 T) v0 v1 S := by
  delta P_X11_lost_0 at h ⊢
  obtain ⟨c1, h⟩ := h
  refine ⟨c1, ?_⟩
  refine cm_X11_refused (ky_X11_refused (b := b) hU (fun q hq => hL q ((by decide : ∀ q ∈ kyL_X11_refused, q ∈ kyL_X11_lost) q hq)) (fun z => z.elim) h) h (fun x2 x3 p5 h g4 => ?_)
  have h := h g4
  have K := k9_tr K p5.2
  exact ⟨h, K⟩
theorem ky_X11_lost {b : Bool} {L : List (Nat × Nat)} (hU : ∀ q ∈ L, q ∈ nyT) (hL : ∀ q ∈ kyL_X11_lost, q ∈ L) (hb : False → b = false) {Q : Int32 → HS → Prop} {v0 : Nat} {v1 : Int32} {S : HS} (h : P_X11_lost v0 v1 Q S) : P_X11_lost v0 v1 (fun r T => Q r T ∧ K9 b L S T) S := ky_X11_lost_0 hU hL hb h (k9_rf b L S)
abbrev kyL_X11_air : List (Nat × Nat) := []
set_option maxRecDepth 20000 in
set_option maxHeartbeats 1000000 in
theorem ky_X11_air_30 {b : Bool} {L : List (Nat × Nat)} (hU : ∀ q ∈ L, q ∈ nyT) (hL : ∀ q ∈ kyL_X11_air, q ∈ L) (hb : False → b = false) {Q : Int32 → HS → Prop} {v0 : Nat} {S0 S : HS} (h : P_X11_air_30 Q v0 S) (K : K9 b L S0 S) : P_X11_air_30 (fun r T => Q r T ∧ K9 b L S0 T) v0 S := by
  delta P_X11_air_30 at h ⊢
  obtain ⟨c1, h⟩ := h
  refine ⟨c1, ?_⟩
  refine cm_X11_lost (ky_X11_lost (b := b) hU (fun q hq => hL q ((by decide : ∀ q ∈ kyL_X11_lost, q ∈ kyL_X11_air) q hq)) (fun z => z.elim) h) h (fun x2 x3 p5 h g4 => ?_)
  have h := h g4
  have K := k9_tr K p5.2
  exact ⟨h, K⟩
set_option maxRecDepth 20000 in
set_option maxHeartbeats 1000000 in
theorem ky_X11_air_0 {b : Bool} {L : List (Nat × Nat)} (hU : ∀ q ∈ L, q ∈ nyT) (hL : ∀ q ∈ kyL_X11_air, q ∈ L) (hb : False → b = false) {Q : Int32 → HS → Prop} {v0 : Nat} {v1 : Int32} {v2 : Int32} {v3 : Int32} {S0 S : HS} (h : P_X11_air_0 Q v0 v1 v2 v3 S) (K : K9 b L S0 S) : P_X11_air_0 (fun r T => Q r T ∧ K9 b L S0 T) v0 v1 v2 v3 S := by
  delta P_X11_air_0 at h ⊢
  obtain ⟨c1, h⟩ := h
  refine ⟨c1, ?_⟩
  have o2 := c1
  intro x4 e3
  have h := h x4 e3
  have K := k9_I K e3
  have o2 := ob_wI o2 e3
  refine cm_X11_isRoad (ky_X11_isRoad (b := b) hU (fun q hq => hL q ((by decide : ∀ q ∈ kyL_X11_isRoad, q ∈ kyL_X11_air) q hq)) (fun z => z.elim) h) h (fun x5 x6 p9 h g7 g8 => ?_)
  have h := h g7 g8
  have K := k9_tr K p9.2
  have o2 := gr_ob p9.2.1 o2
  refine ⟨?_, ?_⟩
  · intro c10
    have h := h.1 c10
    exact ky_X11_air_30 hU hL hb h K
  · intro c11
    have h := h.2 c11
    refine cm_X11_in (ky_X11_in (b := b) hU (fun q hq => hL q ((by decide : ∀ q ∈ kyL_X11_in, q ∈ kyL_X11_air) q hq)) (fun z => z.elim) h) h (fun x12 x13 p16 h g14 g15 => ?_)
    have h := h g14 g15
    have K := k9_tr K p16.2
    have o2 := gr_ob p16.2.1 o2
    refine ⟨?_, ?_⟩
    · intro c17
      have h := h.1 c17
      exact ky_X11_air_30 hU hL hb h K
    · intro c18
      have h := h.2 c18
      refine cm_X11_isHour (ky_X11_isHour (b := b) hU (fun q hq => hL q ((by decide : ∀ q ∈ kyL_X11_isHour, q ∈ kyL_X11_air) q hq)) (fun z => z.elim) h) h (fun x19 x20 p23 h g21 g22 => ?_)
      have h := h g21 g22
      have K := k9_tr K p23.2
      have o2 := gr_ob p23.2.1 o2
      refine ⟨?_, ?_⟩
      · intro c24
        have h := h.1 c24
        obtain ⟨b25, e26, h⟩ := h
        refine ⟨b25, e26, ?_⟩
        obtain ⟨c27, h⟩ := h
        refine ⟨c27, ?_⟩
        refine cm_X10_air (ky_X10_air (b := b) hU (fun q hq => hL q ((by decide : ∀ q ∈ kyL_X10_air, q ∈ kyL_X11_air) q hq)) (fun z => z.elim) h) h (fun x28 x29 p31 h g30 => ?_)
        have h := h g30
        have K := k9_tr K p31.2
        have o2 := gr_ob p31.2.1 o2
        refine cm_X11_good (ky_X11_good (b := b) hU (fun q hq => hL q ((by decide : ∀ q ∈ kyL_X11_good, q ∈ kyL_X11_air) q hq)) (fun z => z.elim) h) h (fun x32 x33 p35 h g34 => ?_)
        have h := h g34
        have K := k9_tr K p35.2
        have o2 := gr_ob p35.2.1 o2
        exact ⟨h, K⟩
      · intro c36
        have h := h.2 c36
        exact ky_X11_air_30 hU hL hb h K
theorem ky_X11_air {b : Bool} {L : List (Nat × Nat)} (hU : ∀ q ∈ L, q ∈ nyT) (hL : ∀ q ∈ kyL_X11_air, q ∈ L) (hb : False → b = false) {Q : Int32 → HS → Prop} {v0 : Nat} {v1 : Int32} {v2 : Int32} {v3 : Int32} {S : HS} (h : P_X11_air v0 v1 v2 v3 Q S) : P_X11_air v0 v1 v2 v3 (fun r T => Q r T ∧ K9 b L S T) S := ky_X11_air_0 hU hL hb h (k9_rf b L S)
abbrev kyL_X11_denied : List (Nat × Nat) := []
set_option maxRecDepth 20000 in
set_option maxHeartbeats 1000000 in
theorem ky_X11_denied_0 {b : Bool} {L : List (Nat × Nat)} (hU : ∀ q ∈ L, q ∈ nyT) (hL : ∀ q ∈ kyL_X11_denied, q ∈ L) (hb : False → b = false) {Q : Int32 → HS → Prop} {v0 : Nat} {v1 : Int32} {S0 S : HS} (h : P_X11_denied_0 Q v0 v1 S) (K : K9 b L S0 S) : P_X11_denied_0 (fun r T => Q r T ∧ K9 b L S0 T) v0 v1 S := by
  delta P_X11_denied_0 at h ⊢
  obtain ⟨c1, h⟩ := h
  refine ⟨c1, ?_⟩
  refine cm_X11_refused (ky_X11_refused (b := b) hU (fun q hq => hL q ((by decide : ∀ q ∈ kyL_X11_refused, q ∈ kyL_X11_denied) q hq)) (fun z => z.elim) h) h (fun x2 x3 p5 h g4 => ?_)
  have h := h g4
  have K := k9_tr K p5.2
  exact ⟨h, K⟩
theorem ky_X11_denied {b : Bool} {L : List (Nat × Nat)} (hU : ∀ q ∈ L, q ∈ nyT) (hL : ∀ q ∈ kyL_X11_denied, q ∈ L) (hb : False → b = false) {Q : Int32 → HS → Prop} {v0 : Nat} {v1 : Int32} {S : HS} (h : P_X11_denied v0 v1 Q S) : P_X11_denied v0 v1 (fun r T => Q r T ∧ K9 b L S T) S := ky_X11_denied_0 hU hL hb h (k9_rf b L S)
abbrev kyL_X11_granted : List (Nat × Nat) := []
set_option maxRecDepth 20000 in
set_option maxHeartbeats 1000000 in
theorem ky_X11_granted_0 {b : Bool} {L : List (Nat × Nat)} (hU : ∀ q ∈ L, q ∈ nyT) (hL : ∀ q ∈ kyL_X11_granted, q ∈ L) (hb : False → b = false) {Q : Int32 → HS → Prop} {v0 : Nat} {S0 S : HS} (h : P_X11_granted_0 Q v0 S) (K : K9 b L S0 S) : P_X11_granted_0 (fun r T => Q r T ∧ K9 b L S0 T) v0 S := by
  delta P_X11_granted_0 at h ⊢
  obtain ⟨c1, h⟩ := h
  refine ⟨c1, ?_⟩
  refine cm_X11_good (ky_X11_good (b := b) hU (fun q hq => hL q ((by decide : ∀ q ∈ kyL_X11_good, q ∈ kyL_X11_granted) q hq)) (fun z => z.elim) h) h (fun x2 x3 p5 h g4 => ?_)
  have h := h g4
  have K := k9_tr K p5.2
  exact ⟨h, K⟩
theorem ky_X11_granted {b : Bool} {L : List (Nat × Nat)} (hU : ∀ q ∈ L, q ∈ nyT) (hL : ∀ q ∈ kyL_X11_granted, q ∈ L) (hb : False → b = false) {Q : Int32 → HS → Prop} {v0 : Nat} {S : HS} (h : P_X11_granted v0 Q S) : P_X11_granted v0 (fun r T => Q r T ∧ K9 b L S T) S := ky_X11_granted_0 hU hL hb h (k9_rf b L S)
abbrev kyL_X11_isDay : List (Nat × Nat) := []
set_option maxRecDepth 20000 in
set_option maxHeartbeats 1000000 in
theorem ky_X11_isDay_0 {b : Bool} {L : List (Nat × Nat)} (hU : ∀ q ∈ L, q ∈ nyT) (hL : ∀ q ∈ kyL_X11_isDay, q ∈ L) (hb : False → b = false) {Q : Int32 → HS → Prop} {v0 : Nat} {S0 S : HS} (h : P_X11_isDay_0 Q v0 S) (K : K9 b L S0 S) : P_X11_isDay_0 (fun r T => Q r T ∧ K9 b L S0 T) v0 S := by
  delta P_X11_isDay_0 at h ⊢
  obtain ⟨c1, h⟩ := h
  refine ⟨c1, ?_⟩
  have o2 := c1
  refine ⟨?_, ?_⟩
  · intro c3
    have h := h.1 c3
    exact ⟨h, K⟩
  · intro x4 c5
    have h := h.2 x4 c5
    intro x7 e6
    have h := h x7 e6
    refine ⟨?_, ?_⟩
    · intro c8
      have h := h.1 c8
      exact ⟨h, K⟩
    · intro c9
      have h := h.2 c9
      exact ⟨h, K⟩
theorem ky_X11_isDay {b : Bool} {L : List (Nat × Nat)} (hU : ∀ q ∈ L, q ∈ nyT) (hL : ∀ q ∈ kyL_X11_isDay, q ∈ L) (hb : False → b = false) {Q : Int32 → HS → Prop} {v0 : Nat} {S : HS} (h : P_X11_isDay v0 Q S) : P_X11_isDay v0 (fun r T => Q r T ∧ K9 b L S T) S := ky_X11_isDay_0 hU hL hb h (k9_rf b L S)
abbrev kyL_X11_back : List (Nat × Nat) := [(11, 21)]
set_option maxRecDepth 20000 in
set_option maxHeartbeats 1000000 in
theorem ky_X11_back_24 {b : Bool} {L : List (Nat × Nat)} (hU : ∀ q ∈ L, q ∈ nyT) (hL : ∀ q ∈ kyL_X11_back, q ∈ L) (hb : False → b = false) {Q : Int32 → HS → Prop} {v0 : Nat} {S0 S : HS} (h : P_X11_back_24 Q v0 S) (K : K9 b L S0 S) : P_X11_back_24 (fun r T => Q r T ∧ K9 b L S0 T) v0 S := by
  delta P_X11_back_24 at h ⊢
  obtain ⟨c1, h⟩ := h
  refine ⟨c1, ?_⟩
  refine cm_X11_denied (ky_X11_denied (b := b) hU (fun q hq => hL q ((by decide : ∀ q ∈ kyL_X11_denied, q ∈ kyL_X11_back) q hq)) (fun z => z.elim) h) h (fun x2 x3 p6 h g4 g5 => ?_)
  have h := h g4 g5
  have K := k9_tr K p6.2
  obtain ⟨c7, h⟩ := h
  refine ⟨c7, ?_⟩
  exact ⟨h, K⟩
set_option maxRecDepth 20000 in
set_option maxHeartbeats 1000000 in
theorem kyB_X11_back_32 {b : Bool} {L : List (Nat × Nat)} (hU : ∀ q ∈ L, q ∈ nyT) (hL : ∀ q ∈ kyL_X11_back, q ∈ L) (hb : False → b = false) {Q : Int32 → HS → Prop} {X32 X32_2 : Nat → Int32 → Int32 → HS → Prop} {v0 : Nat} {v1 : Int32} {v2 : Int32} {S0 S : HS} (h : B_X11_back_32 Q X32 v0 v1 v2 S) (K : K9 b L S0 S) (hX32 : ∀ (u0 : Nat) (u1 : Int32) (u2 : Int32) (u3 : HS), X32 u0 u1 u2 u3 → K9 b L S0 u3 → X32_2 u0 u1 u2 u3) : B_X11_back_32 (fun r T => Q r T ∧ K9 b L S0 T) X32_2 v0 v1 v2 S := by
  delta B_X11_back_32 at h ⊢
  refine ⟨?_, ?_⟩
  · intro c1
    have h := h.1 c1
    obtain ⟨c2, h⟩ := h
    refine ⟨c2, ?_⟩
    have o3 := c2
    intro x5 e4
    have h := h x5 e4
    have K := k9_I K e4
    have o3 := ob_wI o3 e4
    refine cm_X11_granted (ky_X11_granted (b := b) hU (fun q hq => hL q ((by decide : ∀ q ∈ kyL_X11_granted, q ∈ kyL_X11_back) q hq)) (fun z => z.elim) h) h (fun x6 x7 p10 h g8 g9 => ?_)
    have h := h g8 g9
    have K := k9_tr K p10.2
    have o3 := gr_ob p10.2.1 o3
    obtain ⟨c11, h⟩ := h
    refine ⟨c11, ?_⟩
    exact ⟨h, K⟩
  · intro c12
    have h := h.2 c12
    obtain ⟨c13, h⟩ := h
    refine ⟨c13, ?_⟩
    have o14 := c13
    obtain ⟨b15, e16, h⟩ := h
    refine ⟨b15, e16, ?_⟩
    have n17 := k9_nr K e16 o14 (hL _ (by decide))
    obtain ⟨b18, e19, h⟩ := h
    refine ⟨b18, e19, ?_⟩
    obtain ⟨c20, h⟩ := h
    refine ⟨c20, ?_⟩
    intro x22 e21
    have h := h x22 e21
    obtain ⟨c23, h⟩ := h
    refine ⟨c23, ?_⟩
    intro x25 e24
    have h := h x25 e24
    obtain ⟨c26, h⟩ := h
    refine ⟨c26, ?_⟩
    obtain ⟨c27, h⟩ := h
    refine ⟨c27, ?_⟩
    intro x29 e28
    have h := h x29 e28
    have K := k9_J K e28 n17
    have o14 := ob_wJ o14 e28
    intro x31 e30
    have h := h x31 e30
    exact hX32 _ _ _ _ h K
theorem ky_X11_back_32 {b : Bool} {L : List (Nat × Nat)} (hU : ∀ q ∈ L, q ∈ nyT) (hL : ∀ q ∈ kyL_X11_back, q ∈ L) (hb : False → b = false) {Q : Int32 → HS → Prop} {v0 : Nat} {v1 : Int32} {v2 : Int32} {S0 S : HS} (h : P_X11_back_32 Q v0 v1 v2 S) (K : K9 b L S0 S) : P_X11_back_32 (fun r T => Q r T ∧ K9 b L S0 T) v0 v1 v2 S := h (fun v0 v1 v2 S => K9 b L S0 S → P_X11_back_32 (fun r T => Q r T ∧ K9 b L S0 T) v0 v1 v2 S) (fun v0 v1 v2 S hB K => fd_X11_back_32 (kyB_X11_back_32 hU hL hb hB K (fun _ _ _ _ hx K => hx K))) K
set_option maxRecDepth 20000 in
set_option maxHeartbeats 1000000 in
theorem ky_X11_back_0 {b : Bool} {L : List (Nat × Nat)} (hU : ∀ q ∈ L, q ∈ nyT) (hL : ∀ q ∈ kyL_X11_back, q ∈ L) (hb : False → b = false) {Q : Int32 → HS → Prop} {v0 : Nat} {v1 : Int32} {S0 S : HS} (h : P_X11_back_0 Q v0 v1 S) (K : K9 b L S0 S) : P_X11_back_0 (fun r T => Q r T ∧ K9 b L S0 T) v0 v1 S := by
  delta P_X11_back_0 at h ⊢
  obtain ⟨c1, h⟩ := h
  refine ⟨c1, ?_⟩
  intro x3 e2
  have h := h x3 e2
  have K := k9_I K e2
  refine cm_X11_isDay (ky_X11_isDay (b := b) hU (fun q hq => hL q ((by decide : ∀ q ∈ kyL_X11_isDay, q ∈ kyL_X11_back) q hq)) (fun z => z.elim) h) h (fun x4 x5 p8 h g6 g7 => ?_)
  have h := h g6 g7
  have K := k9_tr K p8.2
  refine ⟨?_, ?_⟩
  · intro c9
    have h := h.1 c9
    exact ky_X11_back_24 hU hL hb h K
  · intro c10
    have h := h.2 c10
    refine ⟨?_, ?_⟩
    · intro c11
      have h := h.1 c11
      exact ky_X11_back_24 hU hL hb h K
    · intro c12
      have h := h.2 c12
      intro x14 e13
      have h := h x14 e13
      refine ⟨?_, ?_⟩
      · intro c15
        have h := h.1 c15
        exact ky_X11_back_32 hU hL hb h K
      · intro c16
        have h := h.2 c16
        exact ky_X11_back_24 hU hL hb h K
theorem ky_X11_back {b : Bool} {L : List (Nat × Nat)} (hU : ∀ q ∈ L, q ∈ nyT) (hL : ∀ q ∈ kyL_X11_back, q ∈ L) (hb : False → b = false) {Q : Int32 → HS → Prop} {v0 : Nat} {v1 : Int32} {S : HS} (h : P_X11_back v0 v1 Q S) : P_X11_back v0 v1 (fun r T => Q r T ∧ K9 b L S T) S := ky_X11_back_0 hU hL hb h (k9_rf b L S)
abbrev kyL_X11_flaw : List (Nat × Nat) := []
set_option maxRecDepth 20000 in
set_option maxHeartbeats 1000000 in
theorem ky_X11_flaw_0 {b : Bool} {L : List (Nat × Nat)} (hU : ∀ q ∈ L, q ∈ nyT) (hL : ∀ q ∈ kyL_X11_flaw, q ∈ L) (hb : False → b = false) {Q : HS → Prop} {v0 : Nat} {v1 : Int32} {S0 S : HS} (h : P_X11_flaw_0 Q v0 v1 S) (K : K9 b L S0 S) : P_X11_flaw_0 (fun T => Q T ∧ K9 b L S0 T) v0 v1 S := by
  delta P_X11_flaw_0 at h ⊢
  obtain ⟨c1, h⟩ := h
  refine ⟨c1, ?_⟩
  intro x3 e2
  have h := h x3 e2
  refine ⟨?_, ?_⟩
  · intro c4
    have h := h.1 c4
    intro x6 e5
    have h := h x6 e5
    have K := k9_I K e5
    intro x8 e7
    have h := h x8 e7
    intro x10 e9
    have h := h x10 e9
    have K := k9_I K e9
    intro x12 e11
    have h := h x12 e11
    have K := k9_I K e11
    exact ⟨h, K⟩
  · intro c13
    have h := h.2 c13
    exact ⟨h, K⟩
theorem ky_X11_flaw {b : Bool} {L : List (Nat × Nat)} (hU : ∀ q ∈ L, q ∈ nyT) (hL : ∀ q ∈ kyL_X11_flaw, q ∈ L) (hb : False → b = false) {Q : HS → Prop} {v0 : Nat} {v1 : Int32} {S : HS} (h : P_X11_flaw v0 v1 Q S) : P_X11_flaw v0 v1 (fun T => Q T ∧ K9 b L S T) S := ky_X11_flaw_0 hU hL hb h (k9_rf b L S)
abbrev kyL_X11_byteAt : List (Nat × Nat) := []
set_option maxRecDepth 20000 in
set_option maxHeartbeats 1000000 in
theorem ky_X11_byteAt_0 {b : Bool} {L : List (Nat × Nat)} (hU : ∀ q ∈ L, q ∈ nyT) (hL : ∀ q ∈ kyL_X11_byteAt, q ∈ L) (hb : False → b = false) {Q : Int32 → HS → Prop} {v0 : Nat} {v1 : Int32} {S0 S : HS} (h : P_X11_byteAt_0 Q v0 v1 S) (K : K9 b L S0 S) : P_X11_byteAt_0 (fun r T => Q r T ∧ K9 b L S0 T) v0 v1 S := by
  delta P_X11_byteAt_0 at h ⊢
  obtain ⟨c1, h⟩ := h
  refine ⟨c1, ?_⟩
  have o2 := c1
  intro x4 e3
  have h := h x4 e3
  refine ⟨?_, ?_⟩
  · intro c5
    have h := h.1 c5
    exact ⟨h, K⟩
  · intro c6
    have h := h.2 c6
    obtain ⟨b7, e8, h⟩ := h
    refine ⟨b7, e8, ?_⟩
    obtain ⟨c9, h⟩ := h
    refine ⟨c9, ?_⟩
    obtain ⟨c10, h⟩ := h
    refine ⟨c10, ?_⟩
    intro x12 e11
    have h := h x12 e11
    exact ⟨h, K⟩
theorem ky_X11_byteAt {b : Bool} {L : List (Nat × Nat)} (hU : ∀ q ∈ L, q ∈ nyT) (hL : ∀ q ∈ kyL_X11_byteAt, q ∈ L) (hb : False → b = false) {Q : Int32 → HS → Prop} {v0 : Nat} {v1 : Int32} {S : HS} (h : P_X11_byteAt v0 v1 Q S) : P_X11_byteAt v0 v1 (fun r T => Q r T ∧ K9 b L S T) S := ky_X11_byteAt_0 hU hL hb h (k9_rf b L S)
abbrev kyL_X11_isDigit : List (Nat × Nat) := []
set_option maxRecDepth 20000 in
set_option maxHeartbeats 1000000 in
theorem ky_X11_isDigit_0 {b : Bool} {L : List (Nat × Nat)} (hU : ∀ q ∈ L, q ∈ nyT) (hL : ∀ q ∈ kyL_X11_isDigit, q ∈ L) (hb : False → b = false) {Q : Int32 → HS → Prop} {v0 : Int32} {S0 S : HS} (h : P_X11_isDigit_0 Q v0 S) (K : K9 b L S0 S) : P_X11_isDigit_0 (fun r T => Q r T ∧ K9 b L S0 T) v0 S := by
  delta P_X11_isDigit_0 at h ⊢
  refine ⟨?_, ?_⟩
  · intro c1
    have h := h.1 c1
    exact ⟨h, K⟩
  · intro c2
    have h := h.2 c2
    refine ⟨?_, ?_⟩
    · intro c3
      have h := h.1 c3
      exact ⟨h, K⟩
    · intro c4
      have h := h.2 c4
      exact ⟨h, K⟩
theorem ky_X11_isDigit {b : Bool} {L : List (Nat × Nat)} (hU : ∀ q ∈ L, q ∈ nyT) (hL : ∀ q ∈ kyL_X11_isDigit, q ∈ L) (hb : False → b = false) {Q : Int32 → HS → Prop} {v0 : Int32} {S : HS} (h : P_X11_isDigit v0 Q S) : P_X11_isDigit v0 (fun r T => Q r T ∧ K9 b L S T) S := ky_X11_isDigit_0 hU hL hb h (k9_rf b L S)
abbrev kyL_X11_isLetter : List (Nat × Nat) := []
set_option maxRecDepth 20000 in
set_option maxHeartbeats 1000000 in
theorem ky_X11_isLetter_0 {b : Bool} {L : List (Nat × Nat)} (hU : ∀ q ∈ L, q ∈ nyT) (hL : ∀ q ∈ kyL_X11_isLetter, q ∈ L) (hb : False → b = false) {Q : Int32 → HS → Prop} {v0 : Int32} {S0 S : HS} (h : P_X11_isLetter_0 Q v0 S) (K : K9 b L S0 S) : P_X11_isLetter_0 (fun r T => Q r T ∧ K9 b L S0 T) v0 S := by
  delta P_X11_isLetter_0 at h ⊢
  refine ⟨?_, ?_⟩
  · intro c1
    have h := h.1 c1
    exact ⟨h, K⟩
  · intro c2
    have h := h.2 c2
    refine ⟨?_, ?_⟩
    · intro c3
      have h := h.1 c3
      exact ⟨h, K⟩
    · intro c4
      have h := h.2 c4
      exact ⟨h, K⟩
theorem ky_X11_isLetter {b : Bool} {L : List (Nat × Nat)} (hU : ∀ q ∈ L, q ∈ nyT) (hL : ∀ q ∈ kyL_X11_isLetter, q ∈ L) (hb : False → b = false) {Q : Int32 → HS → Prop} {v0 : Int32} {S : HS} (h : P_X11_isLetter v0 Q S) : P_X11_isLetter v0 (fun r T => Q r T ∧ K9 b L S T) S := ky_X11_isLetter_0 hU hL hb h (k9_rf b L S)
abbrev kyL_X11_goesOn : List (Nat × Nat) := []
set_option maxRecDepth 20000 in
set_option maxHeartbeats 1000000 in
theorem ky_X11_goesOn_136 {b : Bool} {L : List (Nat × Nat)} (hU : ∀ q ∈ L, q ∈ nyT) (hL : ∀ q ∈ kyL_X11_goesOn, q ∈ L) (hb : False → b = false) {Q : HS → Prop} {X89 X89_2 : Nat → Int32 → HS → Prop} {v0 : Nat} {v2 : Int32} {S0 S : HS} (h : P_X11_goesOn_136 Q X89 v0 v2 S) (K : K9 b L S0 S) (hX89 : ∀ (u0 : Nat) (u1 : Int32) (u2 : HS), X89 u0 u1 u2 → K9 b L S0 u2 → X89_2 u0 u1 u2) : P_X11_goesOn_136 (fun T => Q T ∧ K9 b L S0 T) X89_2 v0 v2 S := by
  delta P_X11_goesOn_136 at h ⊢
  intro x2 e1
  have h := h x2 e1
  obtain ⟨c3, h⟩ := h
  refine ⟨c3, ?_⟩
  intro x5 e4
  have h := h x5 e4
  intro x7 e6
  have h := h x7 e6
  intro x9 e8
  have h := h x9 e8
  have K := k9_I K e8
  exact hX89 _ _ _ h K
set_option maxRecDepth 20000 in
set_option maxHeartbeats 1000000 in
theorem kyB_X11_goesOn_89 {b : Bool} {L : List (Nat × Nat)} (hU : ∀ q ∈ L, q ∈ nyT) (hL : ∀ q ∈ kyL_X11_goesOn, q ∈ L) (hb : False → b = false) {Q : HS → Prop} {X89 X89_2 : Nat → Int32 → HS → Prop} {v0 : Nat} {v2 : Int32} {S0 S : HS} (h : B_X11_goesOn_89 Q X89 v0 v2 S) (K : K9 b L S0 S) (hX89 : ∀ (u0 : Nat) (u1 : Int32) (u2 : HS), X89 u0 u1 u2 → K9 b L S0 u2 → X89_2 u0 u1 u2) : B_X11_goesOn_89 (fun T => Q T ∧ K9 b L S0 T) X89_2 v0 v2 S := by
  delta B_X11_goesOn_89 at h ⊢
  obtain ⟨c1, h⟩ := h
  refine ⟨c1, ?_⟩
  have n2 := k9_nk K c1 (by decide)
  intro x4 e3
  have h := h x4 e3
  refine cm_X11_byteAt (ky_X11_byteAt (b := b) hU (fun q hq => hL q ((by decide : ∀ q ∈ kyL_X11_byteAt, q ∈ kyL_X11_goesOn) q hq)) (fun z => z.elim) h) h (fun x5 x6 p8 h g7 => ?_)
  have h := h g7
  have K := k9_tr K p8.2
  refine cm_X11_isLetter (ky_X11_isLetter (b := b) hU (fun q hq => hL q ((by decide : ∀ q ∈ kyL_X11_isLetter, q ∈ kyL_X11_goesOn) q hq)) (fun z => z.elim) h) h (fun x9 x10 p13 h g11 g12 => ?_)
  have h := h g11 g12
  have K := k9_tr K p13.2
  refine ⟨?_, ?_⟩
  · intro c14
    have h := h.1 c14
    refine ⟨?_, ?_⟩
    · intro c15
      have h := h.1 c15
      exact ⟨h, K⟩
    · intro c16
      have h := h.2 c16
      intro x18 e17
      have h := h x18 e17
      have K := k9_I K e17
      exact ⟨h, K⟩
  · intro c19
    have h := h.2 c19
    refine ⟨?_, ?_⟩
    · intro c20
      have h := h.1 c20
      exact ky_X11_goesOn_136 hU hL hb h K hX89
    · intro c21
      have h := h.2 c21
      intro x23 e22
      have h := h x23 e22
      intro x25 e24
      have h := h x25 e24
      refine cm_X11_byteAt (ky_X11_byteAt (b := b) hU (fun q hq => hL q ((by decide : ∀ q ∈ kyL_X11_byteAt, q ∈ kyL_X11_goesOn) q hq)) (fun z => z.elim) h) h (fun x26 x27 p29 h g28 => ?_)
      have h := h g28
      have K := k9_tr K p29.2
      intro x31 e30
      have h := h x31 e30
      intro x33 e32
      have h := h x33 e32
      have K := k9_J K e32 n2
      exact ky_X11_goesOn_136 hU hL hb h K hX89
theorem ky_X11_goesOn_89 {b : Bool} {L : List (Nat × Nat)} (hU : ∀ q ∈ L, q ∈ nyT) (hL : ∀ q ∈ kyL_X11_goesOn, q ∈ L) (hb : False → b = false) {Q : HS → Prop} {v0 : Nat} {v2 : Int32} {S0 S : HS} (h : P_X11_goesOn_89 Q v0 v2 S) (K : K9 b L S0 S) : P_X11_goesOn_89 (fun T => Q T ∧ K9 b L S0 T) v0 v2 S := h (fun v0 v2 S => K9 b L S0 S → P_X11_goesOn_89 (fun T => Q T ∧ K9 b L S0 T) v0 v2 S) (fun v0 v2 S hB K => fd_X11_goesOn_89 (kyB_X11_goesOn_89 hU hL hb hB K (fun _ _ _ hx K => hx K))) K
set_option maxRecDepth 20000 in
set_option maxHeartbeats 1000000 in
theorem ky_X11_goesOn_220 {b : Bool} {L : List (Nat × Nat)} (hU : ∀ q ∈ L, q ∈ nyT) (hL : ∀ q ∈ kyL_X11_goesOn, q ∈ L) (hb : False → b = false) {Q : HS → Prop} {X178 X178_2 : Nat → Int32 → HS → Prop} {v0 : Nat} {v2 : Int32} {S0 S : HS} (h : P_X11_goesOn_220 Q X178 v0 v2 S) (K : K9 b L S0 S) (hX178 : ∀ (u0 : Nat) (u1 : Int32) (u2 : HS), X178 u0 u1 u2 → K9 b L S0 u2 → X178_2 u0 u1 u2) : P_X11_goesOn_220 (fun T => Q T ∧ K9 b L S0 T) X178_2 v0 v2 S := by
  delta P_X11_goesOn_220 at h ⊢
  intro x2 e1
  have h := h x2 e1
  obtain ⟨c3, h⟩ := h
  refine ⟨c3, ?_⟩
  intro x5 e4
  have h := h x5 e4
  intro x7 e6
  have h := h x7 e6
  intro x9 e8
  have h := h x9 e8
  have K := k9_I K e8
  exact hX178 _ _ _ h K
set_option maxRecDepth 20000 in
set_option maxHeartbeats 1000000 in
theorem kyB_X11_goesOn_178 {b : Bool} {L : List (Nat × Nat)} (hU : ∀ q ∈ L, q ∈ nyT) (hL : ∀ q ∈ kyL_X11_goesOn, q ∈ L) (hb : False → b = false) {Q : HS → Prop} {X178 X178_2 : Nat → Int32 → HS → Prop} {v0 : Nat} {v2 : Int32} {S0 S : HS} (h : B_X11_goesOn_178 Q X178 v0 v2 S) (K : K9 b L S0 S) (hX178 : ∀ (u0 : Nat) (u1 : Int32) (u2 : HS), X178 u0 u1 u2 → K9 b L S0 u2 → X178_2 u0 u1 u2) : B_X11_goesOn_178 (fun T => Q T ∧ K9 b L S0 T) X178_2 v0 v2 S := by
  delta B_X11_goesOn_178 at h ⊢
  obtain ⟨c1, h⟩ := h
  refine ⟨c1, ?_⟩
  intro x3 e2
  have h := h x3 e2
  refine cm_X11_byteAt (ky_X11_byteAt (b := b) hU (fun q hq => hL q ((by decide : ∀ q ∈ kyL_X11_byteAt, q ∈ kyL_X11_goesOn) q hq)) (fun z => z.elim) h) h (fun x4 x5 p7 h g6 => ?_)
  have h := h g6
  have K := k9_tr K p7.2
  refine cm_X11_isDigit (ky_X11_isDigit (b := b) hU (fun q hq => hL q ((by decide : ∀ q ∈ kyL_X11_isDigit, q ∈ kyL_X11_goesOn) q hq)) (fun z => z.elim) h) h (fun x8 x9 p12 h g10 g11 => ?_)
  have h := h g10 g11
  have K := k9_tr K p12.2
  refine ⟨?_, ?_⟩
  · intro c13
    have h := h.1 c13
    refine ⟨?_, ?_⟩
    · intro c14
      have h := h.1 c14
      exact ⟨h, K⟩
    · intro c15
      have h := h.2 c15
      intro x17 e16
      have h := h x17 e16
      have K := k9_I K e16
      exact ⟨h, K⟩
  · intro c18
    have h := h.2 c18
    refine ⟨?_, ?_⟩
    · intro c19
      have h := h.1 c19
      exact ky_X11_goesOn_220 hU hL hb h K hX178
    · intro c20
      have h := h.2 c20
      intro x22 e21
      have h := h x22 e21
      intro x24 e23
      have h := h x24 e23
      refine cm_X11_byteAt (ky_X11_byteAt (b := b) hU (fun q hq => hL q ((by decide : ∀ q ∈ kyL_X11_byteAt, q ∈ kyL_X11_goesOn) q hq)) (fun z => z.elim) h) h (fun x25 x26 p28 h g27 => ?_)
      have h := h g27
      have K := k9_tr K p28.2
      intro x30 e29
      have h := h x30 e29
      intro x32 e31
      have h := h x32 e31
      have K := k9_I K e31
      exact ky_X11_goesOn_220 hU hL hb h K hX178
theorem ky_X11_goesOn_178 {b : Bool} {L : List (Nat × Nat)} (hU : ∀ q ∈ L, q ∈ nyT) (hL : ∀ q ∈ kyL_X11_goesOn, q ∈ L) (hb : False → b = false) {Q : HS → Prop} {v0 : Nat} {v2 : Int32} {S0 S : HS} (h : P_X11_goesOn_178 Q v0 v2 S) (K : K9 b L S0 S) : P_X11_goesOn_178 (fun T => Q T ∧ K9 b L S0 T) v0 v2 S := h (fun v0 v2 S => K9 b L S0 S → P_X11_goesOn_178 (fun T => Q T ∧ K9 b L S0 T) v0 v2 S) (fun v0 v2 S hB K => fd_X11_goesOn_178 (kyB_X11_goesOn_178 hU hL hb hB K (fun _ _ _ hx K => hx K))) K
set_option maxRecDepth 20000 in
set_option maxHeartbeats 1000000 in
theorem ky_X11_goesOn_261 {b : Bool} {L : List (Nat × Nat)} (hU : ∀ q ∈ L, q ∈ nyT) (hL : ∀ q ∈ kyL_X11_goesOn, q ∈ L) (hb : False → b = false) {Q : HS → Prop} {v0 : Nat} {v1 : Int32} {S0 S : HS} (h : P_X11_goesOn_261 Q v0 v1 S) (K : K9 b L S0 S) : P_X11_goesOn_261 (fun T => Q T ∧ K9 b L S0 T) v0 v1 S := by
  delta P_X11_goesOn_261 at h ⊢
  obtain ⟨c1, h⟩ := h
  refine ⟨c1, ?_⟩
  intro x3 e2
  have h := h x3 e2
  have K := k9_I K e2
  intro x5 e4
  have h := h x5 e4
  have K := k9_I K e4
  intro x7 e6
  have h := h x7 e6
  intro x9 e8
  have h := h x9 e8
  intro x11 e10
  have h := h x11 e10
  have K := k9_I K e10
  exact ⟨h, K⟩
set_option maxRecDepth 20000 in
set_option maxHeartbeats 1000000 in
theorem kyB_X11_goesOn_9 {b : Bool} {L : List (Nat × Nat)} (hU : ∀ q ∈ L, q ∈ nyT) (hL : ∀ q ∈ kyL_X11_goesOn, q ∈ L) (hb : False → b = false) {Q : HS → Prop} {X9 X9_2 : Nat → HS → Prop} {v0 : Nat} {S0 S : HS} (h : B_X11_goesOn_9 Q X9 v0 S) (K : K9 b L S0 S) (hX9 : ∀ (u0 : Nat) (u1 : HS), X9 u0 u1 → K9 b L S0 u1 → X9_2 u0 u1) : B_X11_goesOn_9 (fun T => Q T ∧ K9 b L S0 T) X9_2 v0 S := by
  delta B_X11_goesOn_9 at h ⊢
  obtain ⟨c1, h⟩ := h
  refine ⟨c1, ?_⟩
  have n2 := k9_nk K c1 (by decide)
  intro x4 e3
  have h := h x4 e3
  refine cm_X11_byteAt (ky_X11_byteAt (b := b) hU (fun q hq => hL q ((by decide : ∀ q ∈ kyL_X11_byteAt, q ∈ kyL_X11_goesOn) q hq)) (fun z => z.elim) h) h (fun x5 x6 p8 h g7 => ?_)
  have h := h g7
  have K := k9_tr K p8.2
  refine ⟨?_, ?_⟩
  · intro c9
    have h := h.1 c9
    intro x11 e10
    have h := h x11 e10
    intro x13 e12
    have h := h x13 e12
    have K := k9_I K e12
    intro x15 e14
    have h := h x15 e14
    have K := k9_I K e14
    intro x17 e16
    have h := h x17 e16
    have K := k9_I K e16
    intro x19 e18
    have h := h x19 e18
    refine cm_X11_byteAt (ky_X11_byteAt (b := b) hU (fun q hq => hL q ((by decide : ∀ q ∈ kyL_X11_byteAt, q ∈ kyL_X11_goesOn) q hq)) (fun z => z.elim) h) h (fun x20 x21 p23 h g22 => ?_)
    have h := h g22
    have K := k9_tr K p23.2
    refine ⟨?_, ?_⟩
    · intro c24
      have h := h.1 c24
      refine cm_X11_isLetter (ky_X11_isLetter (b := b) hU (fun q hq => hL q ((by decide : ∀ q ∈ kyL_X11_isLetter, q ∈ kyL_X11_goesOn) q hq)) (fun z => z.elim) h) h (fun x25 x26 p29 h g27 g28 => ?_)
      have h := h g27 g28
      have K := k9_tr K p29.2
      refine ⟨?_, ?_⟩
      · intro c30
        have h := h.1 c30
        refine cm_X11_isDigit (ky_X11_isDigit (b := b) hU (fun q hq => hL q ((by decide : ∀ q ∈ kyL_X11_isDigit, q ∈ kyL_X11_goesOn) q hq)) (fun z => z.elim) h) h (fun x31 x32 p35 h g33 g34 => ?_)
        have h := h g33 g34
        have K := k9_tr K p35.2
        refine ⟨?_, ?_⟩
        · intro c36
          have h := h.1 c36
          refine ⟨?_, ?_⟩
          · intro c37
            have h := h.1 c37
            exact ky_X11_goesOn_261 hU hL hb h K
          · intro c38
            have h := h.2 c38
            refine ⟨?_, ?_⟩
            · intro c39
              have h := h.1 c39
              exact ⟨h, K⟩
            · intro c40
              have h := h.2 c40
              exact ky_X11_goesOn_261 hU hL hb h K
        · intro c41
          have h := h.2 c41
          intro x43 e42
          have h := h x43 e42
          have K := k9_I K e42
          exact ky_X11_goesOn_178 hU hL hb h K
      · intro c44
        have h := h.2 c44
        intro x46 e45
        have h := h x46 e45
        have K := k9_J K e45 n2
        exact ky_X11_goesOn_89 hU hL hb h K
    · intro c47
      have h := h.2 c47
      intro x49 e48
      have h := h x49 e48
      have K := k9_I K e48
      exact ⟨h, K⟩
  · intro c50
    have h := h.2 c50
    intro x52 e51
    have h := h x52 e51
    intro x54 e53
    have h := h x54 e53
    intro x56 e55
    have h := h x56 e55
    have K := k9_I K e55
    exact hX9 _ _ h K
theorem ky_X11_goesOn_9 {b : Bool} {L : List (Nat × Nat)} (hU : ∀ q ∈ L, q ∈ nyT) (hL : ∀ q ∈ kyL_X11_goesOn, q ∈ L) (hb : False → b = false) {Q : HS → Prop} {v0 : Nat} {S0 S : HS} (h : P_X11_goesOn_9 Q v0 S) (K : K9 b L S0 S) : P_X11_goesOn_9 (fun T => Q T ∧ K9 b L S0 T) v0 S := h (fun v0 S => K9 b L S0 S → P_X11_goesOn_9 (fun T => Q T ∧ K9 b L S0 T) v0 S) (fun v0 S hB K => fd_X11_goesOn_9 (kyB_X11_goesOn_9 hU hL hb hB K (fun _ _ hx K => hx K))) K
set_option maxRecDepth 20000 in
set_option maxHeartbeats 1000000 in
theorem ky_X11_goesOn_0 {b : Bool} {L : List (Nat × Nat)} (hU : ∀ q ∈ L, q ∈ nyT) (hL : ∀ q ∈ kyL_X11_goesOn, q ∈ L) (hb : False → b = false) {Q : HS → Prop} {v0 : Nat} {S0 S : HS} (h : P_X11_goesOn_0 Q v0 S) (K : K9 b L S0 S) : P_X11_goesOn_0 (fun T => Q T ∧ K9 b L S0 T) v0 S := by
  delta P_X11_goesOn_0 at h ⊢
  obtain ⟨c1, h⟩ := h
  refine ⟨c1, ?_⟩
  intro x3 e2
  have h := h x3 e2
  refine ⟨?_, ?_⟩
  · intro c4
    have h := h.1 c4
    exact ky_X11_goesOn_9 hU hL hb h K
  · intro c5
    have h := h.2 c5
    exact ⟨h, K⟩
theorem ky_X11_goesOn {b : Bool} {L : List (Nat × Nat)} (hU : ∀ q ∈ L, q ∈ nyT) (hL : ∀ q ∈ kyL_X11_goesOn, q ∈ L) (hb : False → b = false) {Q : HS → Prop} {v0 : Nat} {S : HS} (h : P_X11_goesOn v0 Q S) : P_X11_goesOn v0 (fun T => Q T ∧ K9 b L S T) S := ky_X11_goesOn_0 hU hL hb h (k9_rf b L S)
abbrev kyL_X11_begins : List (Nat × Nat) := []
set_option maxRecDepth 20000 in
set_option maxHeartbeats 1000000 in
theorem ky_X11_begins_26 {b : Bool} {L : List (Nat × Nat)} (hU : ∀ q ∈ L, q ∈ nyT) (hL : ∀ q ∈ kyL_X11_begins, q ∈ L) (hb : False → b = false) {Q : HS → Prop} {v0 : Nat} {S0 S : HS} (h : P_X11_begins_26 Q v0 S) (K : K9 b L S0 S) : P_X11_begins_26 (fun T => Q T ∧ K9 b L S0 T) v0 S := by
  delta P_X11_begins_26 at h ⊢
  obtain ⟨c1, h⟩ := h
  refine ⟨c1, ?_⟩
  refine cm_X11_goesOn (ky_X11_goesOn (b := b) hU (fun q hq => hL q ((by decide : ∀ q ∈ kyL_X11_goesOn, q ∈ kyL_X11_begins) q hq)) (fun z => z.elim) h) h (fun x2 p4 h g3 => ?_)
  have h := h g3
  have K := k9_tr K p4.2
  exact ⟨h, K⟩
set_option maxRecDepth 20000 in
set_option maxHeartbeats 1000000 in
theorem ky_X11_begins_10 {b : Bool} {L : List (Nat × Nat)} (hU : ∀ q ∈ L, q ∈ nyT) (hL : ∀ q ∈ kyL_X11_begins, q ∈ L) (hb : False → b = false) {Q : HS → Prop} {v0 : Nat} {S0 S : HS} (h : P_X11_begins_10 Q v0 S) (K : K9 b L S0 S) : P_X11_begins_10 (fun T => Q T ∧ K9 b L S0 T) v0 S := by
  delta P_X11_begins_10 at h ⊢
  obtain ⟨c1, h⟩ := h
  refine ⟨c1, ?_⟩
  have o2 := c1
  obtain ⟨b3, e4, h⟩ := h
  refine ⟨b3, e4, ?_⟩
  obtain ⟨c5, h⟩ := h
  refine ⟨c5, ?_⟩
  intro x7 e6
  have h := h x7 e6
  refine ⟨?_, ?_⟩
  · intro c8
    have h := h.1 c8
    exact ky_X11_begins_26 hU hL hb h K
  · intro c9
    have h := h.2 c9
    refine cm_X11_flaw (ky_X11_flaw (b := b) hU (fun q hq => hL q ((by decide : ∀ q ∈ kyL_X11_flaw, q ∈ kyL_X11_begins) q hq)) (fun z => z.elim) h) h (fun x10 p12 h g11 => ?_)
    have h := h g11
    have K := k9_tr K p12.2
    have o2 := gr_ob p12.2.1 o2
    exact ky_X11_begins_26 hU hL hb h K
set_option maxRecDepth 20000 in
set_option maxHeartbeats 1000000 in
theorem ky_X11_begins_0 {b : Bool} {L : List (Nat × Nat)} (hU : ∀ q ∈ L, q ∈ nyT) (hL : ∀ q ∈ kyL_X11_begins, q ∈ L) (hb : False → b = false) {Q : HS → Prop} {v0 : Nat} {v1 : Int32} {v2 : Int32} {S0 S : HS} (h : P_X11_begins_0 Q v0 v1 v2 S) (K : K9 b L S0 S) : P_X11_begins_0 (fun T => Q T ∧ K9 b L S0 T) v0 v1 v2 S := by
  delta P_X11_begins_0 at h ⊢
  refine ⟨?_, ?_⟩
  · intro c1
    have h := h.1 c1
    exact ky_X11_begins_10 hU hL hb h K
  · intro c2
    have h := h.2 c2
    obtain ⟨c3, h⟩ := h
    refine ⟨c3, ?_⟩
    refine cm_X11_flaw (ky_X11_flaw (b := b) hU (fun q hq => hL q ((by decide : ∀ q ∈ kyL_X11_flaw, q ∈ kyL_X11_begins) q hq)) (fun z => z.elim) h) h (fun x4 p6 h g5 => ?_)
    have h := h g5
    have K := k9_tr K p6.2
    exact ky_X11_begins_10 hU hL hb h K
theorem ky_X11_begins {b : Bool} {L : List (Nat × Nat)} (hU : ∀ q ∈ L, q ∈ nyT) (hL : ∀ q ∈ kyL_X11_begins, q ∈ L) (hb : False → b = false) {Q : HS → Prop} {v0 : Nat} {v1 : Int32} {v2 : Int32} {S : HS} (h : P_X11_begins v0 v1 v2 Q S) : P_X11_begins v0 v1 v2 (fun T => Q T ∧ K9 b L S T) S := ky_X11_begins_0 hU hL hb h (k9_rf b L S)
abbrev kyL_X11_isForward : List (Nat × Nat) := []
set_option maxRecDepth 20000 in
set_option maxHeartbeats 1000000 in
theorem ky_X11_isForward_112 {b : Bool} {L : List (Nat × Nat)} (hU : ∀ q ∈ L, q ∈ nyT) (hL : ∀ q ∈ kyL_X11_isForward, q ∈ L) (hb : False → b = false) {Q : Int32 → HS → Prop} {v0 : Nat} {v4 : Int32} {v7 : Int32} {v8 : Int32} {v9 : Int32} {s0 : Int32} {S0 S : HS} (h : P_X11_isForward_112 Q v0 v4 v7 v8 v9 s0 S) (K : K9 b L S0 S) : P_X11_isForward_112 (fun r T => Q r T ∧ K9 b L S0 T) v0 v4 v7 v8 v9 s0 S := by
  delta P_X11_isForward_112 at h ⊢
  refine ⟨?_, ?_⟩
  · intro c1
    have h := h.1 c1
    exact ⟨h, K⟩
  · intro c2
    have h := h.2 c2
    refine ⟨?_, ?_⟩
    · intro c3
      have h := h.1 c3
      exact ⟨h, K⟩
    · intro c4
      have h := h.2 c4
      obtain ⟨c5, h⟩ := h
      refine ⟨c5, ?_⟩
      have o6 := c5
      obtain ⟨b7, e8, h⟩ := h
      refine ⟨b7, e8, ?_⟩
      obtain ⟨c9, h⟩ := h
      refine ⟨c9, ?_⟩
      have o10 := c9
      obtain ⟨b11, e12, h⟩ := h
      refine ⟨b11, e12, ?_⟩
      obtain ⟨c13, h⟩ := h
      refine ⟨c13, ?_⟩
      obtain ⟨c14, h⟩ := h
      refine ⟨c14, ?_⟩
      intro x16 e15
      have h := h x16 e15
      obtain ⟨b17, e18, h⟩ := h
      refine ⟨b17, e18, ?_⟩
      obtain ⟨c19, h⟩ := h
      refine ⟨c19, ?_⟩
      have o20 := c19
      obtain ⟨b21, e22, h⟩ := h
      refine ⟨b21, e22, ?_⟩
      obtain ⟨c23, h⟩ := h
      refine ⟨c23, ?_⟩
      obtain ⟨c24, h⟩ := h
      refine ⟨c24, ?_⟩
      intro x26 e25
      have h := h x26 e25
      obtain ⟨b27, e28, h⟩ := h
      refine ⟨b27, e28, ?_⟩
      obtain ⟨c29, h⟩ := h
      refine ⟨c29, ?_⟩
      have o30 := c29
      obtain ⟨b31, e32, h⟩ := h
      refine ⟨b31, e32, ?_⟩
      obtain ⟨c33, h⟩ := h
      refine ⟨c33, ?_⟩
      obtain ⟨c34, h⟩ := h
      refine ⟨c34, ?_⟩
      intro x36 e35
      have h := h x36 e35
      refine ⟨?_, ?_⟩
      · intro c37
        have h := h.1 c37
        exact ⟨h, K⟩
      · intro c38
        have h := h.2 c38
        exact ⟨h, K⟩
set_option maxRecDepth 20000 in
set_option maxHeartbeats 1000000 in
theorem ky_X11_isForward_84 {b : Bool} {L : List (Nat × Nat)} (hU : ∀ q ∈ L, q ∈ nyT) (hL : ∀ q ∈ kyL_X11_isForward, q ∈ L) (hb : False → b = false) {Q : Int32 → HS → Prop} {v0 : Nat} {v2 : Int32} {v4 : Int32} {v7 : Int32} {v8 : Int32} {s0 : Int32} {S0 S : HS} (h : P_X11_isForward_84 Q v0 v2 v4 v7 v8 s0 S) (K : K9 b L S0 S) : P_X11_isForward_84 (fun r T => Q r T ∧ K9 b L S0 T) v0 v2 v4 v7 v8 s0 S := by
  delta P_X11_isForward_84 at h ⊢
  obtain ⟨c1, h⟩ := h
  refine ⟨c1, ?_⟩
  have o2 := c1
  obtain ⟨b3, e4, h⟩ := h
  refine ⟨b3, e4, ?_⟩
  obtain ⟨c5, h⟩ := h
  refine ⟨c5, ?_⟩
  have o6 := c5
  obtain ⟨b7, e8, h⟩ := h
  refine ⟨b7, e8, ?_⟩
  obtain ⟨c9, h⟩ := h
  refine ⟨c9, ?_⟩
  obtain ⟨c10, h⟩ := h
  refine ⟨c10, ?_⟩
  intro x12 e11
  have h := h x12 e11
  obtain ⟨b13, e14, h⟩ := h
  refine ⟨b13, e14, ?_⟩
  obtain ⟨c15, h⟩ := h
  refine ⟨c15, ?_⟩
  have o16 := c15
  obtain ⟨b17, e18, h⟩ := h
  refine ⟨b17, e18, ?_⟩
  obtain ⟨c19, h⟩ := h
  refine ⟨c19, ?_⟩
  obtain ⟨c20, h⟩ := h
  refine ⟨c20, ?_⟩
  intro x22 e21
  have h := h x22 e21
  refine ⟨?_, ?_⟩
  · intro c23
    have h := h.1 c23
    exact ky_X11_isForward_112 hU hL hb h K
  · intro c24
    have h := h.2 c24
    exact ky_X11_isForward_112 hU hL hb h K
set_option maxRecDepth 20000 in
set_option maxHeartbeats 1000000 in
theorem ky_X11_isForward_54 {b : Bool} {L : List (Nat × Nat)} (hU : ∀ q ∈ L, q ∈ nyT) (hL : ∀ q ∈ kyL_X11_isForward, q ∈ L) (hb : False → b = false) {Q : Int32 → HS → Prop} {v0 : Nat} {v1 : Int32} {v2 : Int32} {v4 : Int32} {v6 : Int32} {v7 : Int32} {s0 : Int32} {S0 S : HS} (h : P_X11_isForward_54 Q v0 v1 v2 v4 v6 v7 s0 S) (K : K9 b L S0 S) : P_X11_isForward_54 (fun r T => Q r T ∧ K9 b L S0 T) v0 v1 v2 v4 v6 v7 s0 S := by
  delta P_X11_isForward_54 at h ⊢
  obtain ⟨c1, h⟩ := h
  refine ⟨c1, ?_⟩
  have o2 := c1
  obtain ⟨b3, e4, h⟩ := h
  refine ⟨b3, e4, ?_⟩
  obtain ⟨c5, h⟩ := h
  refine ⟨c5, ?_⟩
  have o6 := c5
  obtain ⟨b7, e8, h⟩ := h
  refine ⟨b7, e8, ?_⟩
  obtain ⟨c9, h⟩ := h
  refine ⟨c9, ?_⟩
  obtain ⟨c10, h⟩ := h
  refine ⟨c10, ?_⟩
  intro x12 e11
  have h := h x12 e11
  refine ⟨?_, ?_⟩
  · intro c13
    have h := h.1 c13
    obtain ⟨b14, e15, h⟩ := h
    refine ⟨b14, e15, ?_⟩
    obtain ⟨c16, h⟩ := h
    refine ⟨c16, ?_⟩
    have o17 := c16
    obtain ⟨b18, e19, h⟩ := h
    refine ⟨b18, e19, ?_⟩
    obtain ⟨c20, h⟩ := h
    refine ⟨c20, ?_⟩
    obtain ⟨c21, h⟩ := h
    refine ⟨c21, ?_⟩
    intro x23 e22
    have h := h x23 e22
    exact ky_X11_isForward_84 hU hL hb h K
  · intro c24
    have h := h.2 c24
    exact ky_X11_isForward_84 hU hL hb h K
set_option maxRecDepth 20000 in
set_option maxHeartbeats 1000000 in
theorem ky_X11_isForward_0 {b : Bool} {L : List (Nat × Nat)} (hU : ∀ q ∈ L, q ∈ nyT) (hL : ∀ q ∈ kyL_X11_isForward, q ∈ L) (hb : False → b = false) {Q : Int32 → HS → Prop} {v0 : Nat} {v1 : Int32} {v2 : Int32} {v3 : Int32} {v4 : Int32} {v5 : Int32} {S0 S : HS} (h : P_X11_isForward_0 Q v0 v1 v2 v3 v4 v5 S) (K : K9 b L S0 S) : P_X11_isForward_0 (fun r T => Q r T ∧ K9 b L S0 T) v0 v1 v2 v3 v4 v5 S := by
  delta P_X11_isForward_0 at h ⊢
  obtain ⟨c1, h⟩ := h
  refine ⟨c1, ?_⟩
  have o2 := c1
  obtain ⟨b3, e4, h⟩ := h
  refine ⟨b3, e4, ?_⟩
  obtain ⟨c5, h⟩ := h
  refine ⟨c5, ?_⟩
  refine cm_X10_shield (ky_X10_shield (b := b) hU (fun q hq => hL q ((by decide : ∀ q ∈ kyL_X10_shield, q ∈ kyL_X11_isForward) q hq)) (fun z => z.elim) h) h (fun x6 x7 p9 h g8 => ?_)
  have h := h g8
  have K := k9_tr K p9.2
  have o2 := gr_ob p9.2.1 o2
  obtain ⟨b10, e11, h⟩ := h
  refine ⟨b10, e11, ?_⟩
  obtain ⟨c12, h⟩ := h
  refine ⟨c12, ?_⟩
  refine cm_X10_air (ky_X10_air (b := b) hU (fun q hq => hL q ((by decide : ∀ q ∈ kyL_X10_air, q ∈ kyL_X11_isForward) q hq)) (fun z => z.elim) h) h (fun x13 x14 p16 h g15 => ?_)
  have h := h g15
  have K := k9_tr K p16.2
  have o2 := gr_ob p16.2.1 o2
  intro x18 e17
  have h := h x18 e17
  obtain ⟨b19, e20, h⟩ := h
  refine ⟨b19, e20, ?_⟩
  obtain ⟨c21, h⟩ := h
  refine ⟨c21, ?_⟩
  have o22 := c21
  obtain ⟨b23, e24, h⟩ := h
  refine ⟨b23, e24, ?_⟩
  obtain ⟨c25, h⟩ := h
  refine ⟨c25, ?_⟩
  obtain ⟨c26, h⟩ := h
  refine ⟨c26, ?_⟩
  intro x28 e27
  have h := h x28 e27
  refine ⟨?_, ?_⟩
  · intro c29
    have h := h.1 c29
    obtain ⟨b30, e31, h⟩ := h
    refine ⟨b30, e31, ?_⟩
    obtain ⟨c32, h⟩ := h
    refine ⟨c32, ?_⟩
    have o33 := c32
    obtain ⟨b34, e35, h⟩ := h
    refine ⟨b34, e35, ?_⟩
    obtain ⟨c36, h⟩ := h
    refine ⟨c36, ?_⟩
    obtain ⟨c37, h⟩ := h
    refine ⟨c37, ?_⟩
    intro x39 e38
    have h := h x39 e38
    exact ky_X11_isForward_54 hU hL hb h K
  · intro c40
    have h := h.2 c40
    exact ky_X11_isForward_54 hU hL hb h K
theorem ky_X11_isForward {b : Bool} {L : List (Nat × Nat)} (hU : ∀ q ∈ L, q ∈ nyT) (hL : ∀ q ∈ kyL_X11_isForward, q ∈ L) (hb : False → b = false) {Q : Int32 → HS → Prop} {v0 : Nat} {v1 : Int32} {v2 : Int32} {v3 : Int32} {v4 : Int32} {v5 : Int32} {S : HS} (h : P_X11_isForward v0 v1 v2 v3 v4 v5 Q S) : P_X11_isForward v0 v1 v2 v3 v4 v5 (fun r T => Q r T ∧ K9 b L S T) S := ky_X11_isForward_0 hU hL hb h (k9_rf b L S)
abbrev kyL_X11_less : List (Nat × Nat) := []
set_option maxRecDepth 20000 in
set_option maxHeartbeats 1000000 in
theorem ky_X11_less_0 {b : Bool} {L : List (Nat × Nat)} (hU : ∀ q ∈ L, q ∈ nyT) (hL : ∀ q ∈ kyL_X11_less, q ∈ L) (hb : False → b = false) {Q : Int32 → HS → Prop} {v0 : Int32} {v1 : Int32} {S0 S : HS} (h : P_X11_less_0 Q v0 v1 S) (K : K9 b L S0 S) : P_X11_less_0 (fun r T => Q r T ∧ K9 b L S0 T) v0 v1 S := by
  delta P_X11_less_0 at h ⊢
  refine ⟨?_, ?_⟩
  · intro c1
    have h := h.1 c1
    exact ⟨h, K⟩
  · intro c2
    have h := h.2 c2
    exact ⟨h, K⟩
theorem ky_X11_less {b : Bool} {L : List (Nat × Nat)} (hU : ∀ q ∈ L, q ∈ nyT) (hL : ∀ q ∈ kyL_X11_less, q ∈ L) (hb : False → b = false) {Q : Int32 → HS → Prop} {v0 : Int32} {v1 : Int32} {S : HS} (h : P_X11_less v0 v1 Q S) : P_X11_less v0 v1 (fun r T => Q r T ∧ K9 b L S T) S := ky_X11_less_0 hU hL hb h (k9_rf b L S)
abbrev kyL_X11_inTime : List (Nat × Nat) := []
set_option maxRecDepth 20000 in
set_option maxHeartbeats 1000000 in
theorem ky_X11_inTime_129 {b : Bool} {L : List (Nat × Nat)} (hU : ∀ q ∈ L, q ∈ nyT) (hL : ∀ q ∈ kyL_X11_inTime, q ∈ L) (hb : False → b = false) {Q : Int32 → HS → Prop} {s0 : Int32} {s1 : Int32} {s2 : Int32} {S0 S : HS} (h : P_X11_inTime_129 Q s0 s1 s2 S) (K : K9 b L S0 S) : P_X11_inTime_129 (fun r T => Q r T ∧ K9 b L S0 T) s0 s1 s2 S := by
  delta P_X11_inTime_129 at h ⊢
  refine cm_X11_less (ky_X11_less (b := b) hU (fun q hq => hL q ((by decide : ∀ q ∈ kyL_X11_less, q ∈ kyL_X11_inTime) q hq)) (fun z => z.elim) h) h (fun x1 x2 p4 h g3 => ?_)
  have h := h g3
  have K := k9_tr K p4.2
  exact ⟨h, K⟩
set_option maxRecDepth 20000 in
set_option maxHeartbeats 1000000 in
theorem ky_X11_inTime_164 {b : Bool} {L : List (Nat × Nat)} (hU : ∀ q ∈ L, q ∈ nyT) (hL : ∀ q ∈ kyL_X11_inTime, q ∈ L) (hb : False → b = false) {Q : Int32 → HS → Prop} {v7 : Int32} {s0 : Int32} {s1 : Int32} {s2 : Int32} {S0 S : HS} (h : P_X11_inTime_164 Q v7 s0 s1 s2 S) (K : K9 b L S0 S) : P_X11_inTime_164 (fun r T => Q r T ∧ K9 b L S0 T) v7 s0 s1 s2 S := by
  delta P_X11_inTime_164 at h ⊢
  refine cm_X11_less (ky_X11_less (b := b) hU (fun q hq => hL q ((by decide : ∀ q ∈ kyL_X11_less, q ∈ kyL_X11_inTime) q hq)) (fun z => z.elim) h) h (fun x1 x2 p4 h g3 => ?_)
  have h := h g3
  have K := k9_tr K p4.2
  refine cm_X11_less (ky_X11_less (b := b) hU (fun q hq => hL q ((by decide : ∀ q ∈ kyL_X11_less, q ∈ kyL_X11_inTime) q hq)) (fun z => z.elim) h) h (fun x5 x6 p8 h g7 => ?_)
  have h := h g7
  have K := k9_tr K p8.2
  exact ⟨h, K⟩
set_option maxRecDepth 20000 in
set_option maxHeartbeats 1000000 in
theorem ky_X11_inTime_0 {b : Bool} {L : List (Nat × Nat)} (hU : ∀ q ∈ L, q ∈ nyT) (hL : ∀ q ∈ kyL_X11_inTime, q ∈ L) (hb : False → b = false) {Q : Int32 → HS → Prop} {v0 : Nat} {v1 : Int32} {v2 : Int32} {v3 : Int32} {v4 : Int32} {v5 : Int32} {v6 : Int32} {v7 : Int32} {v8 : Int32} {S0 S : HS} (h : P_X11_inTime_0 Q v0 v1 v2 v3 v4 v5 v6 v7 v8 S) (K : K9 b L S0 S) : P_X11_inTime_0 (fun r T => Q r T ∧ K9 b L S0 T) v0 v1 v2 v3 v4 v5 v6 v7 v8 S := by
  delta P_X11_inTime_0 at h ⊢
  obtain ⟨c1, h⟩ := h
  refine ⟨c1, ?_⟩
  have o2 := c1
  obtain ⟨b3, e4, h⟩ := h
  refine ⟨b3, e4, ?_⟩
  obtain ⟨c5, h⟩ := h
  refine ⟨c5, ?_⟩
  have o6 := c5
  obtain ⟨b7, e8, h⟩ := h
  refine ⟨b7, e8, ?_⟩
  obtain ⟨c9, h⟩ := h
  refine ⟨c9, ?_⟩
  obtain ⟨c10, h⟩ := h
  refine ⟨c10, ?_⟩
  intro x12 e11
  have h := h x12 e11
  obtain ⟨b13, e14, h⟩ := h
  refine ⟨b13, e14, ?_⟩
  obtain ⟨c15, h⟩ := h
  refine ⟨c15, ?_⟩
  refine cm_X10_air (ky_X10_air (b := b) hU (fun q hq => hL q ((by decide : ∀ q ∈ kyL_X10_air, q ∈ kyL_X11_inTime) q hq)) (fun z => z.elim) h) h (fun x16 x17 p19 h g18 => ?_)
  have h := h g18
  have K := k9_tr K p19.2
  have o2 := gr_ob p19.2.1 o2
  have o6 := gr_ob p19.2.1 o6
  intro x21 e20
  have h := h x21 e20
  obtain ⟨b22, e23, h⟩ := h
  refine ⟨b22, e23, ?_⟩
  obtain ⟨c24, h⟩ := h
  refine ⟨c24, ?_⟩
  refine cm_X10_across (ky_X10_across (b := b) hU (fun q hq => hL q ((by decide : ∀ q ∈ kyL_X10_across, q ∈ kyL_X11_inTime) q hq)) (fun z => z.elim) h) h (fun x25 x26 p28 h g27 => ?_)
  have h := h g27
  have K := k9_tr K p28.2
  have o2 := gr_ob p28.2.1 o2
  have o6 := gr_ob p28.2.1 o6
  refine cm_X11_isForward (ky_X11_isForward (b := b) hU (fun q hq => hL q ((by decide : ∀ q ∈ kyL_X11_isForward, q ∈ kyL_X11_inTime) q hq)) (fun z => z.elim) h) h (fun x29 x30 p33 h g31 g32 => ?_)
  have h := h g31 g32
  have K := k9_tr K p33.2
  have o2 := gr_ob p33.2.1 o2
  have o6 := gr_ob p33.2.1 o6
  obtain ⟨b34, e35, h⟩ := h
  refine ⟨b34, e35, ?_⟩
  obtain ⟨c36, h⟩ := h
  refine ⟨c36, ?_⟩
  refine cm_X10_shield (ky_X10_shield (b := b) hU (fun q hq => hL q ((by decide : ∀ q ∈ kyL_X10_shield, q ∈ kyL_X11_inTime) q hq)) (fun z => z.elim) h) h (fun x37 x38 p40 h g39 => ?_)
  have h := h g39
  have K := k9_tr K p40.2
  have o2 := gr_ob p40.2.1 o2
  have o6 := gr_ob p40.2.1 o6
  refine ⟨?_, ?_, ?_, ?_, ?_⟩
  · intro c41
    have h := h.1 c41
    refine ⟨?_, ?_⟩
    · intro c42
      have h := h.1 c42
      exact ⟨h, K⟩
    · intro c43
      have h := h.2 c43
      obtain ⟨b44, e45, h⟩ := h
      refine ⟨b44, e45, ?_⟩
      obtain ⟨c46, h⟩ := h
      refine ⟨c46, ?_⟩
      have o47 := c46
      obtain ⟨b48, e49, h⟩ := h
      refine ⟨b48, e49, ?_⟩
      obtain ⟨c50, h⟩ := h
      refine ⟨c50, ?_⟩
      obtain ⟨c51, h⟩ := h
      refine ⟨c51, ?_⟩
      intro x53 e52
      have h := h x53 e52
      exact ⟨h, K⟩
  · intro c54
    have h := h.2.1 c54
    obtain ⟨b55, e56, h⟩ := h
    refine ⟨b55, e56, ?_⟩
    obtain ⟨c57, h⟩ := h
    refine ⟨c57, ?_⟩
    have o58 := c57
    obtain ⟨b59, e60, h⟩ := h
    refine ⟨b59, e60, ?_⟩
    obtain ⟨c61, h⟩ := h
    refine ⟨c61, ?_⟩
    obtain ⟨c62, h⟩ := h
    refine ⟨c62, ?_⟩
    intro x64 e63
    have h := h x64 e63
    obtain ⟨b65, e66, h⟩ := h
    refine ⟨b65, e66, ?_⟩
    obtain ⟨c67, h⟩ := h
    refine ⟨c67, ?_⟩
    have o68 := c67
    obtain ⟨b69, e70, h⟩ := h
    refine ⟨b69, e70, ?_⟩
    obtain ⟨c71, h⟩ := h
    refine ⟨c71, ?_⟩
    obtain ⟨c72, h⟩ := h
    refine ⟨c72, ?_⟩
    intro x74 e73
    have h := h x74 e73
    refine ⟨?_, ?_⟩
    · intro c75
      have h := h.1 c75
      exact ky_X11_inTime_129 hU hL hb h K
    · intro c76
      have h := h.2 c76
      exact ky_X11_inTime_129 hU hL hb h K
  · intro c77
    have h := h.2.2.1 c77
    refine ⟨?_, ?_⟩
    · intro c78
      have h := h.1 c78
      exact ⟨h, K⟩
    · intro c79
      have h := h.2 c79
      obtain ⟨b80, e81, h⟩ := h
      refine ⟨b80, e81, ?_⟩
      obtain ⟨c82, h⟩ := h
      refine ⟨c82, ?_⟩
      have o83 := c82
      obtain ⟨b84, e85, h⟩ := h
      refine ⟨b84, e85, ?_⟩
      obtain ⟨c86, h⟩ := h
      refine ⟨c86, ?_⟩
      obtain ⟨c87, h⟩ := h
      refine ⟨c87, ?_⟩
      intro x89 e88
      have h := h x89 e88
      refine ⟨?_, ?_⟩
      · intro c90
        have h := h.1 c90
        exact ky_X11_inTime_164 hU hL hb h K
      · intro c91
        have h := h.2 c91
        exact ky_X11_inTime_164 hU hL hb h K
  · intro c92
    have h := h.2.2.2.1 c92
    refine ⟨?_, ?_⟩
    · intro c93
      have h := h.1 c93
      exact ⟨h, K⟩
    · intro c94
      have h := h.2 c94
      obtain ⟨b95, e96, h⟩ := h
      refine ⟨b95, e96, ?_⟩
      obtain ⟨c97, h⟩ := h
      refine ⟨c97, ?_⟩
      have o98 := c97
      obtain ⟨b99, e100, h⟩ := h
      refine ⟨b99, e100, ?_⟩
      obtain ⟨c101, h⟩ := h
      refine ⟨c101, ?_⟩
      obtain ⟨c102, h⟩ := h
      refine ⟨c102, ?_⟩
      intro x104 e103
      have h := h x104 e103
      refine cm_X11_less (ky_X11_less (b := b) hU (fun q hq => hL q ((by decide : ∀ q ∈ kyL_X11_less, q ∈ kyL_X11_inTime) q hq)) (fun z => z.elim) h) h (fun x105 x106 p108 h g107 => ?_)
      have h := h g107
      have K := k9_tr K p108.2
      have o2 := gr_ob p108.2.1 o2
      have o6 := gr_ob p108.2.1 o6
      have o98 := gr_ob p108.2.1 o98
      exact ⟨h, K⟩
  · intro c109
    have h := h.2.2.2.2 c109
    refine ⟨?_, ?_⟩
    · intro c110
      have h := h.1 c110
      exact ⟨h, K⟩
    · intro c111
      have h := h.2 c111
      obtain ⟨b112, e113, h⟩ := h
      refine ⟨b112, e113, ?_⟩
      obtain ⟨c114, h⟩ := h
      refine ⟨c114, ?_⟩
      have o115 := c114
      obtain ⟨b116, e117, h⟩ := h
      refine ⟨b116, e117, ?_⟩
      obtain ⟨c118, h⟩ := h
      refine ⟨c118, ?_⟩
      obtain ⟨c119, h⟩ := h
      refine ⟨c119, ?_⟩
      intro x121 e120
      have h := h x121 e120
      exact ⟨h, K⟩
theorem ky_X11_inTime {b : Bool} {L : List (Nat × Nat)} (hU : ∀ q ∈ L, q ∈ nyT) (hL : ∀ q ∈ kyL_X11_inTime, q ∈ L) (hb : False → b = false) {Q : Int32 → HS → Prop} {v0 : Nat} {v1 : Int32} {v2 : Int32} {v3 : Int32} {v4 : Int32} {v5 : Int32} {v6 : Int32} {v7 : Int32} {v8 : Int32} {S : HS} (h : P_X11_inTime v0 v1 v2 v3 v4 v5 v6 v7 v8 Q S) : P_X11_inTime v0 v1 v2 v3 v4 v5 v6 v7 v8 (fun r T => Q r T ∧ K9 b L S T) S := ky_X11_inTime_0 hU hL hb h (k9_rf b L S)
abbrev kyL_X11_partsOf : List (Nat × Nat) := []
set_option maxRecDepth 20000 in
set_option maxHeartbeats 1000000 in
theorem ky_X11_partsOf_0 {b : Bool} {L : List (Nat × Nat)} (hU : ∀ q ∈ L, q ∈ nyT) (hL : ∀ q ∈ kyL_X11_partsOf, q ∈ L) (hb : False → b = false) {Q : Int64 → HS → Prop} {v0 : Nat} {v1 : Int32} {v2 : Int32} {v3 : Int32} {v4 : Int32} {v5 : Int32} {v6 : Int32} {S0 S : HS} (h : P_X11_partsOf_0 Q v0 v1 v2 v3 v4 v5 v6 S) (K : K9 b L S0 S) : P_X11_partsOf_0 (fun r T => Q r T ∧ K9 b L S0 T) v0 v1 v2 v3 v4 v5 v6 S := by
  delta P_X11_partsOf_0 at h ⊢
  obtain ⟨c1, h⟩ := h
  refine ⟨c1, ?_⟩
  have o2 := c1
  refine cm_X11_inTime (ky_X11_inTime (b := b) hU (fun q hq => hL q ((by decide : ∀ q ∈ kyL_X11_inTime, q ∈ kyL_X11_partsOf) q hq)) (fun z => z.elim) h) h (fun x3 x4 p6 h g5 => ?_)
  have h := h g5
  have K := k9_tr K p6.2
  have o2 := gr_ob p6.2.1 o2
  obtain ⟨b7, e8, h⟩ := h
  refine ⟨b7, e8, ?_⟩
  obtain ⟨c9, h⟩ := h
  refine ⟨c9, ?_⟩
  have o10 := c9
  obtain ⟨b11, e12, h⟩ := h
  refine ⟨b11, e12, ?_⟩
  obtain ⟨c13, h⟩ := h
  refine ⟨c13, ?_⟩
  obtain ⟨c14, h⟩ := h
  refine ⟨c14, ?_⟩
  intro x16 e15
  have h := h x16 e15
  obtain ⟨b17, e18, h⟩ := h
  refine ⟨b17, e18, ?_⟩
  obtain ⟨c19, h⟩ := h
  refine ⟨c19, ?_⟩
  have o20 := c19
  obtain ⟨b21, e22, h⟩ := h
  refine ⟨b21, e22, ?_⟩
  obtain ⟨c23, h⟩ := h
  refine ⟨c23, ?_⟩
  obtain ⟨c24, h⟩ := h
  refine ⟨c24, ?_⟩
  intro x26 e25
  have h := h x26 e25
  obtain ⟨c27, h⟩ := h
  refine ⟨c27, ?_⟩
  intro x29 e28
  have h := h x29 e28
  exact ⟨h, K⟩
theorem ky_X11_partsOf {b : Bool} {L : List (Nat × Nat)} (hU : ∀ q ∈ L, q ∈ nyT) (hL : ∀ q ∈ kyL_X11_partsOf, q ∈ L) (hb : False → b = false) {Q : Int64 → HS → Prop} {v0 : Nat} {v1 : Int32} {v2 : Int32} {v3 : Int32} {v4 : Int32} {v5 : Int32} {v6 : Int32} {S : HS} (h : P_X11_partsOf v0 v1 v2 v3 v4 v5 v6 Q S) : P_X11_partsOf v0 v1 v2 v3 v4 v5 v6 (fun r T => Q r T ∧ K9 b L S T) S := ky_X11_partsOf_0 hU hL hb h (k9_rf b L S)
abbrev kyL_X11_wetOf : List (Nat × Nat) := []
set_option maxRecDepth 20000 in
set_option maxHeartbeats 1000000 in
theorem kyB_X11_wetOf_6 {b : Bool} {L : List (Nat × Nat)} (hU : ∀ q ∈ L, q ∈ nyT) (hL : ∀ q ∈ kyL_X11_wetOf, q ∈ L) (hb : False → b = false) {Q : Int64 → HS → Prop} {X6 X6_2 : Nat → Int32 → Int32 → Int32 → Int32 → Int32 → Int64 → Int32 → HS → Prop} {v0 : Nat} {v1 : Int32} {v2 : Int32} {v3 : Int32} {v4 : Int32} {v5 : Int32} {v6 : Int64} {v8 : Int32} {S0 S : HS} (h : B_X11_wetOf_6 Q X6 v0 v1 v2 v3 v4 v5 v6 v8 S) (K : K9 b L S0 S) (hX6 : ∀ (u0 : Nat) (u1 : Int32) (u2 : Int32) (u3 : Int32) (u4 : Int32) (u5 : Int32) (u6 : Int64) (u7 : Int32) (u8 : HS), X6 u0 u1 u2 u3 u4 u5 u6 u7 u8 → K9 b L S0 u8 → X6_2 u0 u1 u2 u3 u4 u5 u6 u7 u8) : B_X11_wetOf_6 (fun r T => Q r T ∧ K9 b L S0 T) X6_2 v0 v1 v2 v3 v4 v5 v6 v8 S := by
  delta B_X11_wetOf_6 at h ⊢
  refine ⟨?_, ?_⟩
  · intro c1
    have h := h.1 c1
    exact ⟨h, K⟩
  · intro c2
    have h := h.2 c2
    obtain ⟨c3, h⟩ := h
    refine ⟨c3, ?_⟩
    refine cm_X11_partsOf (ky_X11_partsOf (b := b) hU (fun q hq => hL q ((by decide : ∀ q ∈ kyL_X11_partsOf, q ∈ kyL_X11_wetOf) q hq)) (fun z => z.elim) h) h (fun x4 x5 p7 h g6 => ?_)
    have h := h g6
    have K := k9_tr K p7.2
    intro x9 e8
    have h := h x9 e8
    intro x11 e10
    have h := h x11 e10
    exact hX6 _ _ _ _ _ _ _ _ _ h K
theorem ky_X11_wetOf_6 {b : Bool} {L : List (Nat × Nat)} (hU : ∀ q ∈ L, q ∈ nyT) (hL : ∀ q ∈ kyL_X11_wetOf, q ∈ L) (hb : False → b = false) {Q : Int64 → HS → Prop} {v0 : Nat} {v1 : Int32} {v2 : Int32} {v3 : Int32} {v4 : Int32} {v5 : Int32} {v6 : Int64} {v8 : Int32} {S0 S : HS} (h : P_X11_wetOf_6 Q v0 v1 v2 v3 v4 v5 v6 v8 S) (K : K9 b L S0 S) : P_X11_wetOf_6 (fun r T => Q r T ∧ K9 b L S0 T) v0 v1 v2 v3 v4 v5 v6 v8 S := h (fun v0 v1 v2 v3 v4 v5 v6 v8 S => K9 b L S0 S → P_X11_wetOf_6 (fun r T => Q r T ∧ K9 b L S0 T) v0 v1 v2 v3 v4 v5 v6 v8 S) (fun v0 v1 v2 v3 v4 v5 v6 v8 S hB K => fd_X11_wetOf_6 (kyB_X11_wetOf_6 hU hL hb hB K (fun _ _ _ _ _ _ _ _ _ hx K => hx K))) K
set_option maxRecDepth 20000 in
set_option maxHeartbeats 1000000 in
theorem ky_X11_wetOf_0 {b : Bool} {L : List (Nat × Nat)} (hU : ∀ q ∈ L, q ∈ nyT) (hL : ∀ q ∈ kyL_X11_wetOf, q ∈ L) (hb : False → b = false) {Q : Int64 → HS → Prop} {v0 : Nat} {v1 : Int32} {v2 : Int32} {v3 : Int32} {v4 : Int32} {v5 : Int32} {S0 S : HS} (h : P_X11_wetOf_0 Q v0 v1 v2 v3 v4 v5 S) (K : K9 b L S0 S) : P_X11_wetOf_0 (fun r T => Q r T ∧ K9 b L S0 T) v0 v1 v2 v3 v4 v5 S := by
  delta P_X11_wetOf_0 at h ⊢
  exact ky_X11_wetOf_6 hU hL hb h K
theorem ky_X11_wetOf {b : Bool} {L : List (Nat × Nat)} (hU : ∀ q ∈ L, q ∈ nyT) (hL : ∀ q ∈ kyL_X11_wetOf, q ∈ L) (hb : False → b = false) {Q : Int64 → HS → Prop} {v0 : Nat} {v1 : Int32} {v2 : Int32} {v3 : Int32} {v4 : Int32} {v5 : Int32} {S : HS} (h : P_X11_wetOf v0 v1 v2 v3 v4 v5 Q S) : P_X11_wetOf v0 v1 v2 v3 v4 v5 (fun r T => Q r T ∧ K9 b L S T) S := ky_X11_wetOf_0 hU hL hb h (k9_rf b L S)
abbrev kyL_X11_bestOf : List (Nat × Nat) := []
set_option maxRecDepth 20000 in
set_option maxHeartbeats 1000000 in
theorem ky_X11_bestOf_61 {b : Bool} {L : List (Nat × Nat)} (hU : ∀ q ∈ L, q ∈ nyT) (hL : ∀ q ∈ kyL_X11_bestOf, q ∈ L) (hb : False → b = false) {Q : Int32 → HS → Prop} {X17 X17_2 : Nat → Int32 → Int32 → Int32 → Int32 → Int32 → Int32 → HS → Prop} {v0 : Nat} {v1 : Int32} {v2 : Int32} {v3 : Int32} {v4 : Int32} {v5 : Int32} {v6 : Int32} {S0 S : HS} (h : P_X11_bestOf_61 Q X17 v0 v1 v2 v3 v4 v5 v6 S) (K : K9 b L S0 S) (hX17 : ∀ (u0 : Nat) (u1 : Int32) (u2 : Int32) (u3 : Int32) (u4 : Int32) (u5 : Int32) (u6 : Int32) (u7 : HS), X17 u0 u1 u2 u3 u4 u5 u6 u7 → K9 b L S0 u7 → X17_2 u0 u1 u2 u3 u4 u5 u6 u7) : P_X11_bestOf_61 (fun r T => Q r T ∧ K9 b L S0 T) X17_2 v0 v1 v2 v3 v4 v5 v6 S := by
  delta P_X11_bestOf_61 at h ⊢
  intro x2 e1
  have h := h x2 e1
  exact hX17 _ _ _ _ _ _ _ _ h K
set_option maxRecDepth 20000 in
set_option maxHeartbeats 1000000 in
theorem kyB_X11_bestOf_17 {b : Bool} {L : List (Nat × Nat)} (hU : ∀ q ∈ L, q ∈ nyT) (hL : ∀ q ∈ kyL_X11_bestOf, q ∈ L) (hb : False → b = false) {Q : Int32 → HS → Prop} {X17 X17_2 : Nat → Int32 → Int32 → Int32 → Int32 → Int32 → Int32 → HS → Prop} {v0 : Nat} {v1 : Int32} {v2 : Int32} {v3 : Int32} {v4 : Int32} {v5 : Int32} {v6 : Int32} {S0 S : HS} (h : B_X11_bestOf_17 Q X17 v0 v1 v2 v3 v4 v5 v6 S) (K : K9 b L S0 S) (hX17 : ∀ (u0 : Nat) (u1 : Int32) (u2 : Int32) (u3 : Int32) (u4 : Int32) (u5 : Int32) (u6 : Int32) (u7 : HS), X17 u0 u1 u2 u3 u4 u5 u6 u7 → K9 b L S0 u7 → X17_2 u0 u1 u2 u3 u4 u5 u6 u7) : B_X11_bestOf_17 (fun r T => Q r T ∧ K9 b L S0 T) X17_2 v0 v1 v2 v3 v4 v5 v6 S := by
  delta B_X11_bestOf_17 at h ⊢
  obtain ⟨c1, h⟩ := h
  refine ⟨c1, ?_⟩
  have o2 := c1
  obtain ⟨b3, e4, h⟩ := h
  refine ⟨b3, e4, ?_⟩
  obtain ⟨c5, h⟩ := h
  refine ⟨c5, ?_⟩
  have o6 := c5
  obtain ⟨b7, e8, h⟩ := h
  refine ⟨b7, e8, ?_⟩
  obtain ⟨c9, h⟩ := h
  refine ⟨c9, ?_⟩
  obtain ⟨c10, h⟩ := h
  refine ⟨c10, ?_⟩
  intro x12 e11
  have h := h x12 e11
  refine ⟨?_, ?_⟩
  · intro c13
    have h := h.1 c13
    exact ⟨h, K⟩
  · intro c14
    have h := h.2 c14
    refine cm_X11_wetOf (ky_X11_wetOf (b := b) hU (fun q hq => hL q ((by decide : ∀ q ∈ kyL_X11_wetOf, q ∈ kyL_X11_bestOf) q hq)) (fun z => z.elim) h) h (fun x15 x16 p18 h g17 => ?_)
    have h := h g17
    have K := k9_tr K p18.2
    have o2 := gr_ob p18.2.1 o2
    have o6 := gr_ob p18.2.1 o6
    refine cm_X11_wetOf (ky_X11_wetOf (b := b) hU (fun q hq => hL q ((by decide : ∀ q ∈ kyL_X11_wetOf, q ∈ kyL_X11_bestOf) q hq)) (fun z => z.elim) h) h (fun x19 x20 p22 h g21 => ?_)
    have h := h g21
    have K := k9_tr K p22.2
    have o2 := gr_ob p22.2.1 o2
    have o6 := gr_ob p22.2.1 o6
    refine ⟨?_, ?_⟩
    · intro c23
      have h := h.1 c23
      exact ky_X11_bestOf_61 hU hL hb h K hX17
    · intro c24
      have h := h.2 c24
      exact ky_X11_bestOf_61 hU hL hb h K hX17
theorem ky_X11_bestOf_17 {b : Bool} {L : List (Nat × Nat)} (hU : ∀ q ∈ L, q ∈ nyT) (hL : ∀ q ∈ kyL_X11_bestOf, q ∈ L) (hb : False → b = false) {Q : Int32 → HS → Prop} {v0 : Nat} {v1 : Int32} {v2 : Int32} {v3 : Int32} {v4 : Int32} {v5 : Int32} {v6 : Int32} {S0 S : HS} (h : P_X11_bestOf_17 Q v0 v1 v2 v3 v4 v5 v6 S) (K : K9 b L S0 S) : P_X11_bestOf_17 (fun r T => Q r T ∧ K9 b L S0 T) v0 v1 v2 v3 v4 v5 v6 S := h (fun v0 v1 v2 v3 v4 v5 v6 S => K9 b L S0 S → P_X11_bestOf_17 (fun r T => Q r T ∧ K9 b L S0 T) v0 v1 v2 v3 v4 v5 v6 S) (fun v0 v1 v2 v3 v4 v5 v6 S hB K => fd_X11_bestOf_17 (kyB_X11_bestOf_17 hU hL hb hB K (fun _ _ _ _ _ _ _ _ hx K => hx K))) K
set_option maxRecDepth 20000 in
set_option maxHeartbeats 1000000 in
theorem ky_X11_bestOf_0 {b : Bool} {L : List (Nat × Nat)} (hU : ∀ q ∈ L, q ∈ nyT) (hL : ∀ q ∈ kyL_X11_bestOf, q ∈ L) (hb : False → b = false) {Q : Int32 → HS → Prop} {v0 : Nat} {v1 : Int32} {v2 : Int32} {v3 : Int32} {v4 : Int32} {S0 S : HS} (h : P_X11_bestOf_0 Q v0 v1 v2 v3 v4 S) (K : K9 b L S0 S) : P_X11_bestOf_0 (fun r T => Q r T ∧ K9 b L S0 T) v0 v1 v2 v3 v4 S := by
  delta P_X11_bestOf_0 at h ⊢
  obtain ⟨c1, h⟩ := h
  refine ⟨c1, ?_⟩
  have o2 := c1
  obtain ⟨b3, e4, h⟩ := h
  refine ⟨b3, e4, ?_⟩
  obtain ⟨c5, h⟩ := h
  refine ⟨c5, ?_⟩
  have o6 := c5
  obtain ⟨b7, e8, h⟩ := h
  refine ⟨b7, e8, ?_⟩
  obtain ⟨c9, h⟩ := h
  refine ⟨c9, ?_⟩
  obtain ⟨c10, h⟩ := h
  refine ⟨c10, ?_⟩
  intro x12 e11
  have h := h x12 e11
  intro x14 e13
  have h := h x14 e13
  exact ky_X11_bestOf_17 hU hL hb h K
theorem ky_X11_bestOf {b : Bool} {L : List (Nat × Nat)} (hU : ∀ q ∈ L, q ∈ nyT) (hL : ∀ q ∈ kyL_X11_bestOf, q ∈ L) (hb : False → b = false) {Q : Int32 → HS → Prop} {v0 : Nat} {v1 : Int32} {v2 : Int32} {v3 : Int32} {v4 : Int32} {S : HS} (h : P_X11_bestOf v0 v1 v2 v3 v4 Q S) : P_X11_bestOf v0 v1 v2 v3 v4 (fun r T => Q r T ∧ K9 b L S T) S := ky_X11_bestOf_0 hU hL hb h (k9_rf b L S)
abbrev kyL_X11_isWalker : List (Nat × Nat) := []
set_option maxRecDepth 20000 in
set_option maxHeartbeats 1000000 in
theorem ky_X11_isWalker_0 {b : Bool} {L : List (Nat × Nat)} (hU : ∀ q ∈ L, q ∈ nyT) (hL : ∀ q ∈ kyL_X11_isWalker, q ∈ L) (hb : False → b = false) {Q : Int32 → HS → Prop} {v0 : Nat} {v1 : Int32} {S0 S : HS} (h : P_X11_isWalker_0 Q v0 v1 S) (K : K9 b L S0 S) : P_X11_isWalker_0 (fun r T => Q r T ∧ K9 b L S0 T) v0 v1 S := by
  delta P_X11_isWalker_0 at h ⊢
  obtain ⟨c1, h⟩ := h
  refine ⟨c1, ?_⟩
  have o2 := c1
  refine ⟨?_, ?_⟩
  · intro c3
    have h := h.1 c3
    exact ⟨h, K⟩
  · intro x4 c5
    have h := h.2 x4 c5
    refine ⟨?_, ?_⟩
    · intro c6
      have h := h.1 c6
      exact ⟨h, K⟩
    · intro c7
      have h := h.2 c7
      obtain ⟨b8, e9, h⟩ := h
      refine ⟨b8, e9, ?_⟩
      obtain ⟨c10, h⟩ := h
      refine ⟨c10, ?_⟩
      intro x12 e11
      have h := h x12 e11
      refine ⟨?_, ?_⟩
      · intro c13
        have h := h.1 c13
        exact ⟨h, K⟩
      · intro c14
        have h := h.2 c14
        exact ⟨h, K⟩
theorem ky_X11_isWalker {b : Bool} {L : List (Nat × Nat)} (hU : ∀ q ∈ L, q ∈ nyT) (hL : ∀ q ∈ kyL_X11_isWalker, q ∈ L) (hb : False → b = false) {Q : Int32 → HS → Prop} {v0 : Nat} {v1 : Int32} {S : HS} (h : P_X11_isWalker v0 v1 Q S) : P_X11_isWalker v0 v1 (fun r T => Q r T ∧ K9 b L S T) S := ky_X11_isWalker_0 hU hL hb h (k9_rf b L S)
abbrev kyL_X11_best : List (Nat × Nat) := []
set_option maxRecDepth 20000 in
set_option maxHeartbeats 1000000 in
theorem ky_X11_best_39 {b : Bool} {L : List (Nat × Nat)} (hU : ∀ q ∈ L, q ∈ nyT) (hL : ∀ q ∈ kyL_X11_best, q ∈ L) (hb : False → b = false) {Q : Int32 → HS → Prop} {v0 : Nat} {S0 S : HS} (h : P_X11_best_39 Q v0 S) (K : K9 b L S0 S) : P_X11_best_39 (fun r T => Q r T ∧ K9 b L S0 T) v0 S := by
  delta P_X11_best_39 at h ⊢
  obtain ⟨c1, h⟩ := h
  refine ⟨c1, ?_⟩
  refine cm_X11_refused (ky_X11_refused (b := b) hU (fun q hq => hL q ((by decide : ∀ q ∈ kyL_X11_refused, q ∈ kyL_X11_best) q hq)) (fun z => z.elim) h) h (fun x2 x3 p5 h g4 => ?_)
  have h := h g4
  have K := k9_tr K p5.2
  exact ⟨h, K⟩
set_option maxRecDepth 20000 in
set_option maxHeartbeats 1000000 in
theorem ky_X11_best_0 {b : Bool} {L : List (Nat × Nat)} (hU : ∀ q ∈ L, q ∈ nyT) (hL : ∀ q ∈ kyL_X11_best, q ∈ L) (hb : False → b = false) {Q : Int32 → HS → Prop} {v0 : Nat} {v1 : Int32} {v2 : Int32} {v3 : Int32} {v4 : Int32} {S0 S : HS} (h : P_X11_best_0 Q v0 v1 v2 v3 v4 S) (K : K9 b L S0 S) : P_X11_best_0 (fun r T => Q r T ∧ K9 b L S0 T) v0 v1 v2 v3 v4 S := by
  delta P_X11_best_0 at h ⊢
  obtain ⟨c1, h⟩ := h
  refine ⟨c1, ?_⟩
  intro x3 e2
  have h := h x3 e2
  have K := k9_I K e2
  refine cm_X11_isWalker (ky_X11_isWalker (b := b) hU (fun q hq => hL q ((by decide : ∀ q ∈ kyL_X11_isWalker, q ∈ kyL_X11_best) q hq)) (fun z => z.elim) h) h (fun x4 x5 p8 h g6 g7 => ?_)
  have h := h g6 g7
  have K := k9_tr K p8.2
  refine ⟨?_, ?_⟩
  · intro c9
    have h := h.1 c9
    exact ky_X11_best_39 hU hL hb h K
  · intro c10
    have h := h.2 c10
    refine cm_X11_isRoad (ky_X11_isRoad (b := b) hU (fun q hq => hL q ((by decide : ∀ q ∈ kyL_X11_isRoad, q ∈ kyL_X11_best) q hq)) (fun z => z.elim) h) h (fun x11 x12 p15 h g13 g14 => ?_)
    have h := h g13 g14
    have K := k9_tr K p15.2
    refine ⟨?_, ?_⟩
    · intro c16
      have h := h.1 c16
      exact ky_X11_best_39 hU hL hb h K
    · intro c17
      have h := h.2 c17
      refine cm_X11_in (ky_X11_in (b := b) hU (fun q hq => hL q ((by decide : ∀ q ∈ kyL_X11_in, q ∈ kyL_X11_best) q hq)) (fun z => z.elim) h) h (fun x18 x19 p22 h g20 g21 => ?_)
      have h := h g20 g21
      have K := k9_tr K p22.2
      refine ⟨?_, ?_⟩
      · intro c23
        have h := h.1 c23
        exact ky_X11_best_39 hU hL hb h K
      · intro c24
        have h := h.2 c24
        refine cm_X11_isHour (ky_X11_isHour (b := b) hU (fun q hq => hL q ((by decide : ∀ q ∈ kyL_X11_isHour, q ∈ kyL_X11_best) q hq)) (fun z => z.elim) h) h (fun x25 x26 p29 h g27 g28 => ?_)
        have h := h g27 g28
        have K := k9_tr K p29.2
        refine ⟨?_, ?_⟩
        · intro c30
          have h := h.1 c30
          refine cm_X11_bestOf (ky_X11_bestOf (b := b) hU (fun q hq => hL q ((by decide : ∀ q ∈ kyL_X11_bestOf, q ∈ kyL_X11_best) q hq)) (fun z => z.elim) h) h (fun x31 x32 p34 h g33 => ?_)
          have h := h g33
          have K := k9_tr K p34.2
          refine cm_X11_good (ky_X11_good (b := b) hU (fun q hq => hL q ((by decide : ∀ q ∈ kyL_X11_good, q ∈ kyL_X11_best) q hq)) (fun z => z.elim) h) h (fun x35 x36 p38 h g37 => ?_)
          have h := h g37
          have K := k9_tr K p38.2
          exact ⟨h, K⟩
        · intro c39
          have h := h.2 c39
          exact ky_X11_best_39 hU hL hb h K
theorem ky_X11_best {b : Bool} {L : List (Nat × Nat)} (hU : ∀ q ∈ L, q ∈ nyT) (hL : ∀ q ∈ kyL_X11_best, q ∈ L) (hb : False → b = false) {Q : Int32 → HS → Prop} {v0 : Nat} {v1 : Int32} {v2 : Int32} {v3 : Int32} {v4 : Int32} {S : HS} (h : P_X11_best v0 v1 v2 v3 v4 Q S) : P_X11_best v0 v1 v2 v3 v4 (fun r T => Q r T ∧ K9 b L S T) S := ky_X11_best_0 hU hL hb h (k9_rf b L S)
abbrev kyL_X11_canWait : List (Nat × Nat) := []
set_option maxRecDepth 20000 in
set_option maxHeartbeats 1000000 in
theorem ky_X11_canWait_0 {b : Bool} {L : List (Nat × Nat)} (hU : ∀ q ∈ L, q ∈ nyT) (hL : ∀ q ∈ kyL_X11_canWait, q ∈ L) (hb : False → b = false) {Q : Int32 → HS → Prop} {v0 : Nat} {v1 : Int32} {S0 S : HS} (h : P_X11_canWait_0 Q v0 v1 S) (K : K9 b L S0 S) : P_X11_canWait_0 (fun r T => Q r T ∧ K9 b L S0 T) v0 v1 S := by
  delta P_X11_canWait_0 at h ⊢
  obtain ⟨c1, h⟩ := h
  refine ⟨c1, ?_⟩
  have o2 := c1
  obtain ⟨b3, e4, h⟩ := h
  refine ⟨b3, e4, ?_⟩
  obtain ⟨c5, h⟩ := h
  refine ⟨c5, ?_⟩
  have o6 := c5
  obtain ⟨b7, e8, h⟩ := h
  refine ⟨b7, e8, ?_⟩
  obtain ⟨c9, h⟩ := h
  refine ⟨c9, ?_⟩
  obtain ⟨c10, h⟩ := h
  refine ⟨c10, ?_⟩
  intro x12 e11
  have h := h x12 e11
  refine ⟨?_, ?_⟩
  · intro c13
    have h := h.1 c13
    exact ⟨h, K⟩
  · intro c14
    have h := h.2 c14
    obtain ⟨b15, e16, h⟩ := h
    refine ⟨b15, e16, ?_⟩
    obtain ⟨c17, h⟩ := h
    refine ⟨c17, ?_⟩
    have o18 := c17
    obtain ⟨b19, e20, h⟩ := h
    refine ⟨b19, e20, ?_⟩
    obtain ⟨c21, h⟩ := h
    refine ⟨c21, ?_⟩
    obtain ⟨c22, h⟩ := h
    refine ⟨c22, ?_⟩
    intro x24 e23
    have h := h x24 e23
    refine ⟨?_, ?_⟩
    · intro c25
      have h := h.1 c25
      exact ⟨h, K⟩
    · intro c26
      have h := h.2 c26
      exact ⟨h, K⟩
theorem ky_X11_canWait {b : Bool} {L : List (Nat × Nat)} (hU : ∀ q ∈ L, q ∈ nyT) (hL : ∀ q ∈ kyL_X11_canWait, q ∈ L) (hb : False → b = false) {Q : Int32 → HS → Prop} {v0 : Nat} {v1 : Int32} {S : HS} (h : P_X11_canWait v0 v1 Q S) : P_X11_canWait v0 v1 (fun r T => Q r T ∧ K9 b L S T) S := ky_X11_canWait_0 hU hL hb h (k9_rf b L S)
abbrev kyL_X11_isPlace : List (Nat × Nat) := []
set_option maxRecDepth 20000 in
set_option maxHeartbeats 1000000 in
theorem ky_X11_isPlace_0 {b : Bool} {L : List (Nat × Nat)} (hU : ∀ q ∈ L, q ∈ nyT) (hL : ∀ q ∈ kyL_X11_isPlace, q ∈ L) (hb : False → b = false) {Q : Int32 → HS → Prop} {v0 : Nat} {v1 : Int32} {S0 S : HS} (h : P_X11_isPlace_0 Q v0 v1 S) (K : K9 b L S0 S) : P_X11_isPlace_0 (fun r T => Q r T ∧ K9 b L S0 T) v0 v1 S := by
  delta P_X11_isPlace_0 at h ⊢
  obtain ⟨c1, h⟩ := h
  refine ⟨c1, ?_⟩
  have o2 := c1
  refine ⟨?_, ?_⟩
  · intro c3
    have h := h.1 c3
    exact ⟨h, K⟩
  · intro x4 c5
    have h := h.2 x4 c5
    refine ⟨?_, ?_⟩
    · intro c6
      have h := h.1 c6
      exact ⟨h, K⟩
    · intro c7
      have h := h.2 c7
      obtain ⟨b8, e9, h⟩ := h
      refine ⟨b8, e9, ?_⟩
      obtain ⟨c10, h⟩ := h
      refine ⟨c10, ?_⟩
      intro x12 e11
      have h := h x12 e11
      refine ⟨?_, ?_⟩
      · intro c13
        have h := h.1 c13
        exact ⟨h, K⟩
      · intro c14
        have h := h.2 c14
        exact ⟨h, K⟩
theorem ky_X11_isPlace {b : Bool} {L : List (Nat × Nat)} (hU : ∀ q ∈ L, q ∈ nyT) (hL : ∀ q ∈ kyL_X11_isPlace, q ∈ L) (hb : False → b = false) {Q : Int32 → HS → Prop} {v0 : Nat} {v1 : Int32} {S : HS} (h : P_X11_isPlace v0 v1 Q S) : P_X11_isPlace v0 v1 (fun r T => Q r T ∧ K9 b L S T) S := ky_X11_isPlace_0 hU hL hb h (k9_rf b L S)
abbrev kyL_X11_day : List (Nat × Nat) := [(11, 21)]
set_option maxRecDepth 20000 in
set_option maxHeartbeats 1000000 in
theorem ky_X11_day_21 {b : Bool} {L : List (Nat × Nat)} (hU : ∀ q ∈ L, q ∈ nyT) (hL : ∀ q ∈ kyL_X11_day, q ∈ L) (hb : False → b = false) {Q : Int32 → HS → Prop} {v0 : Nat} {S0 S : HS} (h : P_X11_day_21 Q v0 S) (K : K9 b L S0 S) : P_X11_day_21 (fun r T => Q r T ∧ K9 b L S0 T) v0 S := by
  delta P_X11_day_21 at h ⊢
  obtain ⟨c1, h⟩ := h
  refine ⟨c1, ?_⟩
  refine cm_X11_refused (ky_X11_refused (b := b) hU (fun q hq => hL q ((by decide : ∀ q ∈ kyL_X11_refused, q ∈ kyL_X11_day) q hq)) (fun z => z.elim) h) h (fun x2 x3 p5 h g4 => ?_)
  have h := h g4
  have K := k9_tr K p5.2
  exact ⟨h, K⟩
set_option maxRecDepth 20000 in
set_option maxHeartbeats 1000000 in
theorem ky_X11_day_50 {b : Bool} {L : List (Nat × Nat)} (hU : ∀ q ∈ L, q ∈ nyT) (hL : ∀ q ∈ kyL_X11_day, q ∈ L) (hb : False → b = false) {Q : Int32 → HS → Prop} {v0 : Nat} {S0 S : HS} (h : P_X11_day_50 Q v0 S) (K : K9 b L S0 S) : P_X11_day_50 (fun r T => Q r T ∧ K9 b L S0 T) v0 S := by
  delta P_X11_day_50 at h ⊢
  obtain ⟨c1, h⟩ := h
  refine ⟨c1, ?_⟩
  refine cm_X11_refused (ky_X11_refused (b := b) hU (fun q hq => hL q ((by decide : ∀ q ∈ kyL_X11_refused, q ∈ kyL_X11_day) q hq)) (fun z => z.elim) h) h (fun x2 x3 p5 h g4 => ?_)
  have h := h g4
  have K := k9_tr K p5.2
  exact ⟨h, K⟩
set_option maxRecDepth 20000 in
set_option maxHeartbeats 1000000 in
theorem ky_X11_day_134 {b : Bool} {L : List (Nat × Nat)} (hU : ∀ q ∈ L, q ∈ nyT) (hL : ∀ q ∈ kyL_X11_day, q ∈ L) (hb : False → b = false) {Q : Int32 → HS → Prop} {X73 X73_2 : Nat → Int32 → Int32 → Int32 → Int32 → HS → Prop} {v0 : Nat} {v2 : Int32} {v3 : Int32} {v5 : Int32} {v6 : Int32} {s0 : Nat} {s1 : Int32} {s2 : Int32} {S0 S : HS} (h : P_X11_day_134 Q X73 v0 v2 v3 v5 v6 s0 s1 s2 S) (K : K9 b L S0 S) (hX73 : ∀ (u0 : Nat) (u1 : Int32) (u2 : Int32) (u3 : Int32) (u4 : Int32) (u5 : HS), X73 u0 u1 u2 u3 u4 u5 → K9 b L S0 u5 → X73_2 u0 u1 u2 u3 u4 u5) : P_X11_day_134 (fun r T => Q r T ∧ K9 b L S0 T) X73_2 v0 v2 v3 v5 v6 s0 s1 s2 S := by
  delta P_X11_day_134 at h ⊢
  obtain ⟨c1, h⟩ := h
  refine ⟨c1, ?_⟩
  intro x3 e2
  have h := h x3 e2
  intro x5 e4
  have h := h x5 e4
  have K := k9_I K e4
  intro x7 e6
  have h := h x7 e6
  exact hX73 _ _ _ _ _ _ h K
set_option maxRecDepth 20000 in
set_option maxHeartbeats 1000000 in
theorem kyB_X11_day_147 {b : Bool} {L : List (Nat × Nat)} (hU : ∀ q ∈ L, q ∈ nyT) (hL : ∀ q ∈ kyL_X11_day, q ∈ L) (hb : False → b = false) {Q : Int32 → HS → Prop} {X147 X147_2 : Nat → Int32 → Int32 → Int32 → HS → Prop} {v0 : Nat} {v2 : Int32} {v3 : Int32} {v6 : Int32} {S0 S : HS} (h : B_X11_day_147 Q X147 v0 v2 v3 v6 S) (K : K9 b L S0 S) (hX147 : ∀ (u0 : Nat) (u1 : Int32) (u2 : Int32) (u3 : Int32) (u4 : HS), X147 u0 u1 u2 u3 u4 → K9 b L S0 u4 → X147_2 u0 u1 u2 u3 u4) : B_X11_day_147 (fun r T => Q r T ∧ K9 b L S0 T) X147_2 v0 v2 v3 v6 S := by
  delta B_X11_day_147 at h ⊢
  refine ⟨?_, ?_⟩
  · intro c1
    have h := h.1 c1
    obtain ⟨c2, h⟩ := h
    refine ⟨c2, ?_⟩
    have o3 := c2
    obtain ⟨b4, e5, h⟩ := h
    refine ⟨b4, e5, ?_⟩
    have n6 := k9_nr K e5 o3 (hL _ (by decide))
    obtain ⟨c7, h⟩ := h
    refine ⟨c7, ?_⟩
    intro x9 e8
    have h := h x9 e8
    obtain ⟨c10, h⟩ := h
    refine ⟨c10, ?_⟩
    intro x12 e11
    have h := h x12 e11
    have K := k9_J K e11 n6
    have o3 := ob_wJ o3 e11
    obtain ⟨b13, e14, h⟩ := h
    refine ⟨b13, e14, ?_⟩
    have n15 := k9_nr K e14 o3 (hL _ (by decide))
    obtain ⟨c16, h⟩ := h
    refine ⟨c16, ?_⟩
    intro x18 e17
    have h := h x18 e17
    obtain ⟨c19, h⟩ := h
    refine ⟨c19, ?_⟩
    intro x21 e20
    have h := h x21 e20
    have K := k9_J K e20 n15
    have o3 := ob_wJ o3 e20
    intro x23 e22
    have h := h x23 e22
    have K := k9_I K e22
    have o3 := ob_wI o3 e22
    intro x25 e24
    have h := h x25 e24
    have K := k9_I K e24
    have o3 := ob_wI o3 e24
    intro x27 e26
    have h := h x27 e26
    refine cm_X11_good (ky_X11_good (b := b) hU (fun q hq => hL q ((by decide : ∀ q ∈ kyL_X11_good, q ∈ kyL_X11_day) q hq)) (fun z => z.elim) h) h (fun x28 x29 p31 h g30 => ?_)
    have h := h g30
    have K := k9_tr K p31.2
    have o3 := gr_ob p31.2.1 o3
    exact ⟨h, K⟩
  · intro c32
    have h := h.2 c32
    obtain ⟨c33, h⟩ := h
    refine ⟨c33, ?_⟩
    have o34 := c33
    obtain ⟨b35, e36, h⟩ := h
    refine ⟨b35, e36, ?_⟩
    have n37 := k9_nr K e36 o34 (hL _ (by decide))
    obtain ⟨c38, h⟩ := h
    refine ⟨c38, ?_⟩
    obtain ⟨c39, h⟩ := h
    refine ⟨c39, ?_⟩
    intro x41 e40
    have h := h x41 e40
    have K := k9_J K e40 n37
    have o34 := ob_wJ o34 e40
    intro x43 e42
    have h := h x43 e42
    exact hX147 _ _ _ _ _ h K
theorem ky_X11_day_147 {b : Bool} {L : List (Nat × Nat)} (hU : ∀ q ∈ L, q ∈ nyT) (hL : ∀ q ∈ kyL_X11_day, q ∈ L) (hb : False → b = false) {Q : Int32 → HS → Prop} {v0 : Nat} {v2 : Int32} {v3 : Int32} {v6 : Int32} {S0 S : HS} (h : P_X11_day_147 Q v0 v2 v3 v6 S) (K : K9 b L S0 S) : P_X11_day_147 (fun r T => Q r T ∧ K9 b L S0 T) v0 v2 v3 v6 S := h (fun v0 v2 v3 v6 S => K9 b L S0 S → P_X11_day_147 (fun r T => Q r T ∧ K9 b L S0 T) v0 v2 v3 v6 S) (fun v0 v2 v3 v6 S hB K => fd_X11_day_147 (kyB_X11_day_147 hU hL hb hB K (fun _ _ _ _ _ hx K => hx K))) K
set_option maxRecDepth 20000 in
set_option maxHeartbeats 1000000 in
theorem kyB_X11_day_73 {b : Bool} {L : List (Nat × Nat)} (hU : ∀ q ∈ L, q ∈ nyT) (hL : ∀ q ∈ kyL_X11_day, q ∈ L) (hb : False → b = false) {Q : Int32 → HS → Prop} {X73 X73_2 : Nat → Int32 → Int32 → Int32 → Int32 → HS → Prop} {v0 : Nat} {v2 : Int32} {v3 : Int32} {v5 : Int32} {v6 : Int32} {S0 S : HS} (h : B_X11_day_73 Q X73 v0 v2 v3 v5 v6 S) (K : K9 b L S0 S) (hX73 : ∀ (u0 : Nat) (u1 : Int32) (u2 : Int32) (u3 : Int32) (u4 : Int32) (u5 : HS), X73 u0 u1 u2 u3 u4 u5 → K9 b L S0 u5 → X73_2 u0 u1 u2 u3 u4 u5) : B_X11_day_73 (fun r T => Q r T ∧ K9 b L S0 T) X73_2 v0 v2 v3 v5 v6 S := by
  delta B_X11_day_73 at h ⊢
  obtain ⟨c1, h⟩ := h
  refine ⟨c1, ?_⟩
  have o2 := c1
  obtain ⟨b3, e4, h⟩ := h
  refine ⟨b3, e4, ?_⟩
  obtain ⟨c5, h⟩ := h
  refine ⟨c5, ?_⟩
  intro x7 e6
  have h := h x7 e6
  refine ⟨?_, ?_⟩
  · intro c8
    have h := h.1 c8
    exact ky_X11_day_147 hU hL hb h K
  · intro c9
    have h := h.2 c9
    intro x11 e10
    have h := h x11 e10
    intro x13 e12
    have h := h x13 e12
    intro x15 e14
    have h := h x15 e14
    intro x17 e16
    have h := h x17 e16
    obtain ⟨b18, e19, h⟩ := h
    refine ⟨b18, e19, ?_⟩
    obtain ⟨c20, h⟩ := h
    refine ⟨c20, ?_⟩
    have o21 := c20
    obtain ⟨b22, e23, h⟩ := h
    refine ⟨b22, e23, ?_⟩
    obtain ⟨c24, h⟩ := h
    refine ⟨c24, ?_⟩
    obtain ⟨c25, h⟩ := h
    refine ⟨c25, ?_⟩
    intro x27 e26
    have h := h x27 e26
    refine ⟨?_, ?_⟩
    · intro c28
      have h := h.1 c28
      exact ky_X11_day_134 hU hL hb h K hX73
    · intro c29
      have h := h.2 c29
      exact ky_X11_day_134 hU hL hb h K hX73
theorem ky_X11_day_73 {b : Bool} {L : List (Nat × Nat)} (hU : ∀ q ∈ L, q ∈ nyT) (hL : ∀ q ∈ kyL_X11_day, q ∈ L) (hb : False → b = false) {Q : Int32 → HS → Prop} {v0 : Nat} {v2 : Int32} {v3 : Int32} {v5 : Int32} {v6 : Int32} {S0 S : HS} (h : P_X11_day_73 Q v0 v2 v3 v5 v6 S) (K : K9 b L S0 S) : P_X11_day_73 (fun r T => Q r T ∧ K9 b L S0 T) v0 v2 v3 v5 v6 S := h (fun v0 v2 v3 v5 v6 S => K9 b L S0 S → P_X11_day_73 (fun r T => Q r T ∧ K9 b L S0 T) v0 v2 v3 v5 v6 S) (fun v0 v2 v3 v5 v6 S hB K => fd_X11_day_73 (kyB_X11_day_73 hU hL hb hB K (fun _ _ _ _ _ _ hx K => hx K))) K
set_option maxRecDepth 20000 in
set_option maxHeartbeats 1000000 in
theorem ky_X11_day_0 {b : Bool} {L : List (Nat × Nat)} (hU : ∀ q ∈ L, q ∈ nyT) (hL : ∀ q ∈ kyL_X11_day, q ∈ L) (hb : False → b = false) {Q : Int32 → HS → Prop} {v0 : Nat} {v1 : Int32} {v2 : Int32} {v3 : Int32} {v4 : Int32} {S0 S : HS} (h : P_X11_day_0 Q v0 v1 v2 v3 v4 S) (K : K9 b L S0 S) : P_X11_day_0 (fun r T => Q r T ∧ K9 b L S0 T) v0 v1 v2 v3 v4 S := by
  delta P_X11_day_0 at h ⊢
  obtain ⟨c1, h⟩ := h
  refine ⟨c1, ?_⟩
  intro x3 e2
  have h := h x3 e2
  have K := k9_I K e2
  refine cm_X11_isWalker (ky_X11_isWalker (b := b) hU (fun q hq => hL q ((by decide : ∀ q ∈ kyL_X11_isWalker, q ∈ kyL_X11_day) q hq)) (fun z => z.elim) h) h (fun x4 x5 p8 h g6 g7 => ?_)
  have h := h g6 g7
  have K := k9_tr K p8.2
  refine ⟨?_, ?_⟩
  · intro c9
    have h := h.1 c9
    exact ky_X11_day_21 hU hL hb h K
  · intro c10
    have h := h.2 c10
    refine cm_X11_isPlace (ky_X11_isPlace (b := b) hU (fun q hq => hL q ((by decide : ∀ q ∈ kyL_X11_isPlace, q ∈ kyL_X11_day) q hq)) (fun z => z.elim) h) h (fun x11 x12 p15 h g13 g14 => ?_)
    have h := h g13 g14
    have K := k9_tr K p15.2
    refine ⟨?_, ?_⟩
    · intro c16
      have h := h.1 c16
      refine cm_X11_in (ky_X11_in (b := b) hU (fun q hq => hL q ((by decide : ∀ q ∈ kyL_X11_in, q ∈ kyL_X11_day) q hq)) (fun z => z.elim) h) h (fun x17 x18 p21 h g19 g20 => ?_)
      have h := h g19 g20
      have K := k9_tr K p21.2
      refine ⟨?_, ?_⟩
      · intro c22
        have h := h.1 c22
        exact ky_X11_day_50 hU hL hb h K
      · intro c23
        have h := h.2 c23
        refine cm_X11_in (ky_X11_in (b := b) hU (fun q hq => hL q ((by decide : ∀ q ∈ kyL_X11_in, q ∈ kyL_X11_day) q hq)) (fun z => z.elim) h) h (fun x24 x25 p28 h g26 g27 => ?_)
        have h := h g26 g27
        have K := k9_tr K p28.2
        refine ⟨?_, ?_⟩
        · intro c29
          have h := h.1 c29
          intro x31 e30
          have h := h x31 e30
          have K := k9_I K e30
          intro x33 e32
          have h := h x33 e32
          have K := k9_I K e32
          exact ky_X11_day_73 hU hL hb h K
        · intro c34
          have h := h.2 c34
          exact ky_X11_day_50 hU hL hb h K
    · intro c35
      have h := h.2 c35
      exact ky_X11_day_21 hU hL hb h K
theorem ky_X11_day {b : Bool} {L : List (Nat × Nat)} (hU : ∀ q ∈ L, q ∈ nyT) (hL : ∀ q ∈ kyL_X11_day, q ∈ L) (hb : False → b = false) {Q : Int32 → HS → Prop} {v0 : Nat} {v1 : Int32} {v2 : Int32} {v3 : Int32} {v4 : Int32} {S : HS} (h : P_X11_day v0 v1 v2 v3 v4 Q S) : P_X11_day v0 v1 v2 v3 v4 (fun r T => Q r T ∧ K9 b L S T) S := ky_X11_day_0 hU hL hb h (k9_rf b L S)
end
section
abbrev kyL_X11_wetAtBest : List (Nat × Nat) := []
set_option maxRecDepth 20000 in
set_option maxHeartbeats 1000000 in
theorem ky_X11_wetAtBest_0 {b : Bool} {L : List (Nat × Nat)} (hU : ∀ q ∈ L, q ∈ nyT) (hL : ∀ q ∈ kyL_X11_wetAtBest, q ∈ L) (hb : False → b = false) {Q : Int64 → HS → Prop} {v0 : Nat} {v1 : Int32} {v2 : Int32} {v3 : Int32} {v4 : Int32} {S0 S : HS} (h : P_X11_wetAtBest_0 Q v0 v1 v2 v3 v4 S) (K : K9 b L S0 S) : P_X11_wetAtBest_0 (fun r T => Q r T ∧ K9 b L S0 T) v0 v1 v2 v3 v4 S := by
  delta P_X11_wetAtBest_0 at h ⊢
  obtain ⟨c1, h⟩ := h
  refine ⟨c1, ?_⟩
  refine cm_X11_bestOf (ky_X11_bestOf (b := b) hU (fun q hq => hL q ((by decide : ∀ q ∈ kyL_X11_bestOf, q ∈ kyL_X11_wetAtBest) q hq)) (fun z => z.elim) h) h (fun x2 x3 p5 h g4 => ?_)
  have h := h g4
  have K := k9_tr K p5.2
  refine cm_X11_wetOf (ky_X11_wetOf (b := b) hU (fun q hq => hL q ((by decide : ∀ q ∈ kyL_X11_wetOf, q ∈ kyL_X11_wetAtBest) q hq)) (fun z => z.elim) h) h (fun x6 x7 p9 h g8 => ?_)
  have h := h g8
  have K := k9_tr K p9.2
  exact ⟨h, K⟩
theorem ky_X11_wetAtBest {b : Bool} {L : List (Nat × Nat)} (hU : ∀ q ∈ L, q ∈ nyT) (hL : ∀ q ∈ kyL_X11_wetAtBest, q ∈ L) (hb : False → b = false) {Q : Int64 → HS → Prop} {v0 : Nat} {v1 : Int32} {v2 : Int32} {v3 : Int32} {v4 : Int32} {S : HS} (h : P_X11_wetAtBest v0 v1 v2 v3 v4 Q S) : P_X11_wetAtBest v0 v1 v2 v3 v4 (fun r T => Q r T ∧ K9 b L S T) S := ky_X11_wetAtBest_0 hU hL hb h (k9_rf b L S)
abbrev kyL_X11_driest : List (Nat × Nat) := []
set_option maxRecDepth 20000 in
set_option maxHeartbeats 1000000 in
theorem ky_X11_driest_30 {b : Bool} {L : List (Nat × Nat)} (hU : ∀ q ∈ L, q ∈ nyT) (hL : ∀ q ∈ kyL_X11_driest, q ∈ L) (hb : False → b = false) {Q : Int32 → HS → Prop} {v0 : Nat} {S0 S : HS} (h : P_X11_driest_30 Q v0 S) (K : K9 b L S0 S) : P_X11_driest_30 (fun r T => Q r T ∧ K9 b L S0 T) v0 S := by
  delta P_X11_driest_30 at h ⊢
  obtain ⟨c1, h⟩ := h
  refine ⟨c1, ?_⟩
  refine cm_X11_refused (ky_X11_refused (b := b) hU (fun q hq => hL q ((by decide : ∀ q ∈ kyL_X11_refused, q ∈ kyL_X11_driest) q hq)) (fun z => z.elim) h) h (fun x2 x3 p5 h g4 => ?_)
  have h := h g4
  have K := k9_tr K p5.2
  exact ⟨h, K⟩
set_option maxRecDepth 20000 in
set_option maxHeartbeats 1000000 in
theorem ky_X11_driest_105 {b : Bool} {L : List (Nat × Nat)} (hU : ∀ q ∈ L, q ∈ nyT) (hL : ∀ q ∈ kyL_X11_driest, q ∈ L) (hb : False → b = false) {Q : Int32 → HS → Prop} {X45 X45_2 : Nat → Int32 → Int32 → Int32 → Int32 → Int64 → Int32 → HS → Prop} {v0 : Nat} {v1 : Int32} {v2 : Int32} {v3 : Int32} {v4 : Int32} {v5 : Int64} {v7 : Int32} {S0 S : HS} (h : P_X11_driest_105 Q X45 v0 v1 v2 v3 v4 v5 v7 S) (K : K9 b L S0 S) (hX45 : ∀ (u0 : Nat) (u1 : Int32) (u2 : Int32) (u3 : Int32) (u4 : Int32) (u5 : Int64) (u6 : Int32) (u7 : HS), X45 u0 u1 u2 u3 u4 u5 u6 u7 → K9 b L S0 u7 → X45_2 u0 u1 u2 u3 u4 u5 u6 u7) : P_X11_driest_105 (fun r T => Q r T ∧ K9 b L S0 T) X45_2 v0 v1 v2 v3 v4 v5 v7 S := by
  delta P_X11_driest_105 at h ⊢
  intro x2 e1
  have h := h x2 e1
  exact hX45 _ _ _ _ _ _ _ _ h K
set_option maxRecDepth 20000 in
set_option maxHeartbeats 1000000 in
theorem ky_X11_driest_97 {b : Bool} {L : List (Nat × Nat)} (hU : ∀ q ∈ L, q ∈ nyT) (hL : ∀ q ∈ kyL_X11_driest, q ∈ L) (hb : False → b = false) {Q : Int32 → HS → Prop} {X45 X45_2 : Nat → Int32 → Int32 → Int32 → Int32 → Int64 → Int32 → HS → Prop} {v0 : Nat} {v1 : Int32} {v2 : Int32} {v3 : Int32} {v7 : Int32} {v8 : Int64} {S0 S : HS} (h : P_X11_driest_97 Q X45 v0 v1 v2 v3 v7 v8 S) (K : K9 b L S0 S) (hX45 : ∀ (u0 : Nat) (u1 : Int32) (u2 : Int32) (u3 : Int32) (u4 : Int32) (u5 : Int64) (u6 : Int32) (u7 : HS), X45 u0 u1 u2 u3 u4 u5 u6 u7 → K9 b L S0 u7 → X45_2 u0 u1 u2 u3 u4 u5 u6 u7) : P_X11_driest_97 (fun r T => Q r T ∧ K9 b L S0 T) X45_2 v0 v1 v2 v3 v7 v8 S := by
  delta P_X11_driest_97 at h ⊢
  exact ky_X11_driest_105 hU hL hb h K hX45
set_option maxRecDepth 20000 in
set_option maxHeartbeats 1000000 in
theorem kyB_X11_driest_45 {b : Bool} {L : List (Nat × Nat)} (hU : ∀ q ∈ L, q ∈ nyT) (hL : ∀ q ∈ kyL_X11_driest, q ∈ L) (hb : False → b = false) {Q : Int32 → HS → Prop} {X45 X45_2 : Nat → Int32 → Int32 → Int32 → Int32 → Int64 → Int32 → HS → Prop} {v0 : Nat} {v1 : Int32} {v2 : Int32} {v3 : Int32} {v4 : Int32} {v5 : Int64} {v7 : Int32} {S0 S : HS} (h : B_X11_driest_45 Q X45 v0 v1 v2 v3 v4 v5 v7 S) (K : K9 b L S0 S) (hX45 : ∀ (u0 : Nat) (u1 : Int32) (u2 : Int32) (u3 : Int32) (u4 : Int32) (u5 : Int64) (u6 : Int32) (u7 : HS), X45 u0 u1 u2 u3 u4 u5 u6 u7 → K9 b L S0 u7 → X45_2 u0 u1 u2 u3 u4 u5 u6 u7) : B_X11_driest_45 (fun r T => Q r T ∧ K9 b L S0 T) X45_2 v0 v1 v2 v3 v4 v5 v7 S := by
  delta B_X11_driest_45 at h ⊢
  obtain ⟨c1, h⟩ := h
  refine ⟨c1, ?_⟩
  have o2 := c1
  obtain ⟨b3, e4, h⟩ := h
  refine ⟨b3, e4, ?_⟩
  obtain ⟨c5, h⟩ := h
  refine ⟨c5, ?_⟩
  intro x7 e6
  have h := h x7 e6
  refine ⟨?_, ?_⟩
  · intro c8
    have h := h.1 c8
    refine ⟨?_, ?_⟩
    · intro c9
      have h := h.1 c9
      refine cm_X11_good (ky_X11_good (b := b) hU (fun q hq => hL q ((by decide : ∀ q ∈ kyL_X11_good, q ∈ kyL_X11_driest) q hq)) (fun z => z.elim) h) h (fun x10 x11 p13 h g12 => ?_)
      have h := h g12
      have K := k9_tr K p13.2
      have o2 := gr_ob p13.2.1 o2
      exact ⟨h, K⟩
    · intro c14
      have h := h.2 c14
      refine cm_X11_refused (ky_X11_refused (b := b) hU (fun q hq => hL q ((by decide : ∀ q ∈ kyL_X11_refused, q ∈ kyL_X11_driest) q hq)) (fun z => z.elim) h) h (fun x15 x16 p18 h g17 => ?_)
      have h := h g17
      have K := k9_tr K p18.2
      have o2 := gr_ob p18.2.1 o2
      exact ⟨h, K⟩
  · intro c19
    have h := h.2 c19
    refine cm_X11_wetAtBest (ky_X11_wetAtBest (b := b) hU (fun q hq => hL q ((by decide : ∀ q ∈ kyL_X11_wetAtBest, q ∈ kyL_X11_driest) q hq)) (fun z => z.elim) h) h (fun x20 x21 p23 h g22 => ?_)
    have h := h g22
    have K := k9_tr K p23.2
    have o2 := gr_ob p23.2.1 o2
    obtain ⟨b24, e25, h⟩ := h
    refine ⟨b24, e25, ?_⟩
    obtain ⟨c26, h⟩ := h
    refine ⟨c26, ?_⟩
    have o27 := c26
    obtain ⟨b28, e29, h⟩ := h
    refine ⟨b28, e29, ?_⟩
    obtain ⟨c30, h⟩ := h
    refine ⟨c30, ?_⟩
    obtain ⟨c31, h⟩ := h
    refine ⟨c31, ?_⟩
    intro x33 e32
    have h := h x33 e32
    intro x35 e34
    have h := h x35 e34
    refine ⟨?_, ?_⟩
    · intro c36
      have h := h.1 c36
      exact ky_X11_driest_97 hU hL hb h K hX45
    · intro c37
      have h := h.2 c37
      refine ⟨?_, ?_⟩
      · intro c38
        have h := h.1 c38
        exact ky_X11_driest_97 hU hL hb h K hX45
      · intro c39
        have h := h.2 c39
        exact ky_X11_driest_105 hU hL hb h K hX45
theorem ky_X11_driest_45 {b : Bool} {L : List (Nat × Nat)} (hU : ∀ q ∈ L, q ∈ nyT) (hL : ∀ q ∈ kyL_X11_driest, q ∈ L) (hb : False → b = false) {Q : Int32 → HS → Prop} {v0 : Nat} {v1 : Int32} {v2 : Int32} {v3 : Int32} {v4 : Int32} {v5 : Int64} {v7 : Int32} {S0 S : HS} (h : P_X11_driest_45 Q v0 v1 v2 v3 v4 v5 v7 S) (K : K9 b L S0 S) : P_X11_driest_45 (fun r T => Q r T ∧ K9 b L S0 T) v0 v1 v2 v3 v4 v5 v7 S := h (fun v0 v1 v2 v3 v4 v5 v7 S => K9 b L S0 S → P_X11_driest_45 (fun r T => Q r T ∧ K9 b L S0 T) v0 v1 v2 v3 v4 v5 v7 S) (fun v0 v1 v2 v3 v4 v5 v7 S hB K => fd_X11_driest_45 (kyB_X11_driest_45 hU hL hb hB K (fun _ _ _ _ _ _ _ _ hx K => hx K))) K
set_option maxRecDepth 20000 in
set_option maxHeartbeats 1000000 in
theorem ky_X11_driest_0 {b : Bool} {L : List (Nat × Nat)} (hU : ∀ q ∈ L, q ∈ nyT) (hL : ∀ q ∈ kyL_X11_driest, q ∈ L) (hb : False → b = false) {Q : Int32 → HS → Prop} {v0 : Nat} {v1 : Int32} {v2 : Int32} {v3 : Int32} {S0 S : HS} (h : P_X11_driest_0 Q v0 v1 v2 v3 S) (K : K9 b L S0 S) : P_X11_driest_0 (fun r T => Q r T ∧ K9 b L S0 T) v0 v1 v2 v3 S := by
  delta P_X11_driest_0 at h ⊢
  obtain ⟨c1, h⟩ := h
  refine ⟨c1, ?_⟩
  intro x3 e2
  have h := h x3 e2
  have K := k9_I K e2
  refine cm_X11_isWalker (ky_X11_isWalker (b := b) hU (fun q hq => hL q ((by decide : ∀ q ∈ kyL_X11_isWalker, q ∈ kyL_X11_driest) q hq)) (fun z => z.elim) h) h (fun x4 x5 p8 h g6 g7 => ?_)
  have h := h g6 g7
  have K := k9_tr K p8.2
  refine ⟨?_, ?_⟩
  · intro c9
    have h := h.1 c9
    exact ky_X11_driest_30 hU hL hb h K
  · intro c10
    have h := h.2 c10
    refine cm_X11_isRoad (ky_X11_isRoad (b := b) hU (fun q hq => hL q ((by decide : ∀ q ∈ kyL_X11_isRoad, q ∈ kyL_X11_driest) q hq)) (fun z => z.elim) h) h (fun x11 x12 p15 h g13 g14 => ?_)
    have h := h g13 g14
    have K := k9_tr K p15.2
    refine ⟨?_, ?_⟩
    · intro c16
      have h := h.1 c16
      exact ky_X11_driest_30 hU hL hb h K
    · intro c17
      have h := h.2 c17
      refine cm_X11_in (ky_X11_in (b := b) hU (fun q hq => hL q ((by decide : ∀ q ∈ kyL_X11_in, q ∈ kyL_X11_driest) q hq)) (fun z => z.elim) h) h (fun x18 x19 p22 h g20 g21 => ?_)
      have h := h g20 g21
      have K := k9_tr K p22.2
      refine ⟨?_, ?_⟩
      · intro c23
        have h := h.1 c23
        exact ky_X11_driest_45 hU hL hb h K
      · intro c24
        have h := h.2 c24
        exact ky_X11_driest_30 hU hL hb h K
theorem ky_X11_driest {b : Bool} {L : List (Nat × Nat)} (hU : ∀ q ∈ L, q ∈ nyT) (hL : ∀ q ∈ kyL_X11_driest, q ∈ L) (hb : False → b = false) {Q : Int32 → HS → Prop} {v0 : Nat} {v1 : Int32} {v2 : Int32} {v3 : Int32} {S : HS} (h : P_X11_driest v0 v1 v2 v3 Q S) : P_X11_driest v0 v1 v2 v3 (fun r T => Q r T ∧ K9 b L S T) S := ky_X11_driest_0 hU hL hb h (k9_rf b L S)
abbrev kyL_X11_drips : List (Nat × Nat) := []
set_option maxRecDepth 20000 in
set_option maxHeartbeats 1000000 in
theorem ky_X11_drips_0 {b : Bool} {L : List (Nat × Nat)} (hU : ∀ q ∈ L, q ∈ nyT) (hL : ∀ q ∈ kyL_X11_drips, q ∈ L) (hb : False → b = false) {Q : Int64 → HS → Prop} {v0 : Nat} {v1 : Int32} {v2 : Int32} {S0 S : HS} (h : P_X11_drips_0 Q v0 v1 v2 S) (K : K9 b L S0 S) : P_X11_drips_0 (fun r T => Q r T ∧ K9 b L S0 T) v0 v1 v2 S := by
  delta P_X11_drips_0 at h ⊢
  obtain ⟨c1, h⟩ := h
  refine ⟨c1, ?_⟩
  have o2 := c1
  obtain ⟨b3, e4, h⟩ := h
  refine ⟨b3, e4, ?_⟩
  obtain ⟨c5, h⟩ := h
  refine ⟨c5, ?_⟩
  have o6 := c5
  obtain ⟨b7, e8, h⟩ := h
  refine ⟨b7, e8, ?_⟩
  obtain ⟨c9, h⟩ := h
  refine ⟨c9, ?_⟩
  obtain ⟨c10, h⟩ := h
  refine ⟨c10, ?_⟩
  intro x12 e11
  have h := h x12 e11
  obtain ⟨b13, e14, h⟩ := h
  refine ⟨b13, e14, ?_⟩
  obtain ⟨c15, h⟩ := h
  refine ⟨c15, ?_⟩
  have o16 := c15
  obtain ⟨b17, e18, h⟩ := h
  refine ⟨b17, e18, ?_⟩
  obtain ⟨c19, h⟩ := h
  refine ⟨c19, ?_⟩
  obtain ⟨c20, h⟩ := h
  refine ⟨c20, ?_⟩
  intro x22 e21
  have h := h x22 e21
  obtain ⟨b23, e24, h⟩ := h
  refine ⟨b23, e24, ?_⟩
  obtain ⟨c25, h⟩ := h
  refine ⟨c25, ?_⟩
  refine cm_X10_shield (ky_X10_shield (b := b) hU (fun q hq => hL q ((by decide : ∀ q ∈ kyL_X10_shield, q ∈ kyL_X11_drips) q hq)) (fun z => z.elim) h) h (fun x26 x27 p29 h g28 => ?_)
  have h := h g28
  have K := k9_tr K p29.2
  have o2 := gr_ob p29.2.1 o2
  have o6 := gr_ob p29.2.1 o6
  have o16 := gr_ob p29.2.1 o16
  refine cm_X11_less (ky_X11_less (b := b) hU (fun q hq => hL q ((by decide : ∀ q ∈ kyL_X11_less, q ∈ kyL_X11_drips) q hq)) (fun z => z.elim) h) h (fun x30 x31 p33 h g32 => ?_)
  have h := h g32
  have K := k9_tr K p33.2
  have o2 := gr_ob p33.2.1 o2
  have o6 := gr_ob p33.2.1 o6
  have o16 := gr_ob p33.2.1 o16
  exact ⟨h, K⟩
theorem ky_X11_drips {b : Bool} {L : List (Nat × Nat)} (hU : ∀ q ∈ L, q ∈ nyT) (hL : ∀ q ∈ kyL_X11_drips, q ∈ L) (hb : False → b = false) {Q : Int64 → HS → Prop} {v0 : Nat} {v1 : Int32} {v2 : Int32} {S : HS} (h : P_X11_drips v0 v1 v2 Q S) : P_X11_drips v0 v1 v2 (fun r T => Q r T ∧ K9 b L S T) S := ky_X11_drips_0 hU hL hb h (k9_rf b L S)
abbrev kyL_X11_eatsSign : List (Nat × Nat) := []
set_option maxRecDepth 20000 in
set_option maxHeartbeats 1000000 in
theorem ky_X11_eatsSign_21 {b : Bool} {L : List (Nat × Nat)} (hU : ∀ q ∈ L, q ∈ nyT) (hL : ∀ q ∈ kyL_X11_eatsSign, q ∈ L) (hb : False → b = false) {Q : Int32 → HS → Prop} {v0 : Nat} {s0 : Int32} {S0 S : HS} (h : P_X11_eatsSign_21 Q v0 s0 S) (K : K9 b L S0 S) : P_X11_eatsSign_21 (fun r T => Q r T ∧ K9 b L S0 T) v0 s0 S := by
  delta P_X11_eatsSign_21 at h ⊢
  refine ⟨?_, ?_⟩
  · intro c1
    have h := h.1 c1
    obtain ⟨c2, h⟩ := h
    refine ⟨c2, ?_⟩
    exact ⟨h, K⟩
  · intro c3
    have h := h.2 c3
    obtain ⟨c4, h⟩ := h
    refine ⟨c4, ?_⟩
    refine cm_X11_goesOn (ky_X11_goesOn (b := b) hU (fun q hq => hL q ((by decide : ∀ q ∈ kyL_X11_goesOn, q ∈ kyL_X11_eatsSign) q hq)) (fun z => z.elim) h) h (fun x5 p7 h g6 => ?_)
    have h := h g6
    have K := k9_tr K p7.2
    obtain ⟨c8, h⟩ := h
    refine ⟨c8, ?_⟩
    exact ⟨h, K⟩
set_option maxRecDepth 20000 in
set_option maxHeartbeats 1000000 in
theorem ky_X11_eatsSign_20 {b : Bool} {L : List (Nat × Nat)} (hU : ∀ q ∈ L, q ∈ nyT) (hL : ∀ q ∈ kyL_X11_eatsSign, q ∈ L) (hb : False → b = false) {Q : Int32 → HS → Prop} {v0 : Nat} {S0 S : HS} (h : P_X11_eatsSign_20 Q v0 S) (K : K9 b L S0 S) : P_X11_eatsSign_20 (fun r T => Q r T ∧ K9 b L S0 T) v0 S := by
  delta P_X11_eatsSign_20 at h ⊢
  exact ky_X11_eatsSign_21 hU hL hb h K
set_option maxRecDepth 20000 in
set_option maxHeartbeats 1000000 in
theorem ky_X11_eatsSign_0 {b : Bool} {L : List (Nat × Nat)} (hU : ∀ q ∈ L, q ∈ nyT) (hL : ∀ q ∈ kyL_X11_eatsSign, q ∈ L) (hb : False → b = false) {Q : Int32 → HS → Prop} {v0 : Nat} {v1 : Int32} {S0 S : HS} (h : P_X11_eatsSign_0 Q v0 v1 S) (K : K9 b L S0 S) : P_X11_eatsSign_0 (fun r T => Q r T ∧ K9 b L S0 T) v0 v1 S := by
  delta P_X11_eatsSign_0 at h ⊢
  obtain ⟨c1, h⟩ := h
  refine ⟨c1, ?_⟩
  intro x3 e2
  have h := h x3 e2
  refine ⟨?_, ?_⟩
  · intro c4
    have h := h.1 c4
    exact ky_X11_eatsSign_20 hU hL hb h K
  · intro c5
    have h := h.2 c5
    intro x7 e6
    have h := h x7 e6
    refine ⟨?_, ?_⟩
    · intro c8
      have h := h.1 c8
      exact ky_X11_eatsSign_20 hU hL hb h K
    · intro c9
      have h := h.2 c9
      exact ky_X11_eatsSign_21 hU hL hb h K
theorem ky_X11_eatsSign {b : Bool} {L : List (Nat × Nat)} (hU : ∀ q ∈ L, q ∈ nyT) (hL : ∀ q ∈ kyL_X11_eatsSign, q ∈ L) (hb : False → b = false) {Q : Int32 → HS → Prop} {v0 : Nat} {v1 : Int32} {S : HS} (h : P_X11_eatsSign v0 v1 Q S) : P_X11_eatsSign v0 v1 (fun r T => Q r T ∧ K9 b L S T) S := ky_X11_eatsSign_0 hU hL hb h (k9_rf b L S)
abbrev kyL_X11_wordOf : List (Nat × Nat) := []
set_option maxRecDepth 20000 in
set_option maxHeartbeats 1000000 in
theorem kyB_X11_wordOf_4 {b : Bool} {L : List (Nat × Nat)} (hU : ∀ q ∈ L, q ∈ nyT) (hL : ∀ q ∈ kyL_X11_wordOf, q ∈ L) (hb : False → b = false) {Q : Int64 → HS → Prop} {X4 X4_2 : Nat → Int64 → Int32 → HS → Prop} {v0 : Nat} {v1 : Int64} {v3 : Int32} {S0 S : HS} (h : B_X11_wordOf_4 Q X4 v0 v1 v3 S) (K : K9 b L S0 S) (hX4 : ∀ (u0 : Nat) (u1 : Int64) (u2 : Int32) (u3 : HS), X4 u0 u1 u2 u3 → K9 b L S0 u3 → X4_2 u0 u1 u2 u3) : B_X11_wordOf_4 (fun r T => Q r T ∧ K9 b L S0 T) X4_2 v0 v1 v3 S := by
  delta B_X11_wordOf_4 at h ⊢
  obtain ⟨c1, h⟩ := h
  refine ⟨c1, ?_⟩
  intro x3 e2
  have h := h x3 e2
  refine ⟨?_, ?_⟩
  · intro c4
    have h := h.1 c4
    exact ⟨h, K⟩
  · intro c5
    have h := h.2 c5
    obtain ⟨c6, h⟩ := h
    refine ⟨c6, ?_⟩
    obtain ⟨c7, h⟩ := h
    refine ⟨c7, ?_⟩
    intro x9 e8
    have h := h x9 e8
    intro x11 e10
    have h := h x11 e10
    intro x13 e12
    have h := h x13 e12
    exact hX4 _ _ _ _ h K
theorem ky_X11_wordOf_4 {b : Bool} {L : List (Nat × Nat)} (hU : ∀ q ∈ L, q ∈ nyT) (hL : ∀ q ∈ kyL_X11_wordOf, q ∈ L) (hb : False → b = false) {Q : Int64 → HS → Prop} {v0 : Nat} {v1 : Int64} {v3 : Int32} {S0 S : HS} (h : P_X11_wordOf_4 Q v0 v1 v3 S) (K : K9 b L S0 S) : P_X11_wordOf_4 (fun r T => Q r T ∧ K9 b L S0 T) v0 v1 v3 S := h (fun v0 v1 v3 S => K9 b L S0 S → P_X11_wordOf_4 (fun r T => Q r T ∧ K9 b L S0 T) v0 v1 v3 S) (fun v0 v1 v3 S hB K => fd_X11_wordOf_4 (kyB_X11_wordOf_4 hU hL hb hB K (fun _ _ _ _ hx K => hx K))) K
set_option maxRecDepth 20000 in
set_option maxHeartbeats 1000000 in
theorem ky_X11_wordOf_0 {b : Bool} {L : List (Nat × Nat)} (hU : ∀ q ∈ L, q ∈ nyT) (hL : ∀ q ∈ kyL_X11_wordOf, q ∈ L) (hb : False → b = false) {Q : Int64 → HS → Prop} {v0 : Nat} {S0 S : HS} (h : P_X11_wordOf_0 Q v0 S) (K : K9 b L S0 S) : P_X11_wordOf_0 (fun r T => Q r T ∧ K9 b L S0 T) v0 S := by
  delta P_X11_wordOf_0 at h ⊢
  exact ky_X11_wordOf_4 hU hL hb h K
theorem ky_X11_wordOf {b : Bool} {L : List (Nat × Nat)} (hU : ∀ q ∈ L, q ∈ nyT) (hL : ∀ q ∈ kyL_X11_wordOf, q ∈ L) (hb : False → b = false) {Q : Int64 → HS → Prop} {v0 : Nat} {S : HS} (h : P_X11_wordOf v0 Q S) : P_X11_wordOf v0 (fun r T => Q r T ∧ K9 b L S T) S := ky_X11_wordOf_0 hU hL hb h (k9_rf b L S)
abbrev kyL_X11_isWord : List (Nat × Nat) := []
set_option maxRecDepth 20000 in
set_option maxHeartbeats 1000000 in
theorem ky_X11_isWord_0 {b : Bool} {L : List (Nat × Nat)} (hU : ∀ q ∈ L, q ∈ nyT) (hL : ∀ q ∈ kyL_X11_isWord, q ∈ L) (hb : False → b = false) {Q : Int32 → HS → Prop} {v0 : Nat} {v1 : Nat} {S0 S : HS} (h : P_X11_isWord_0 Q v0 v1 S) (K : K9 b L S0 S) : P_X11_isWord_0 (fun r T => Q r T ∧ K9 b L S0 T) v0 v1 S := by
  delta P_X11_isWord_0 at h ⊢
  obtain ⟨c1, h⟩ := h
  refine ⟨c1, ?_⟩
  intro x3 e2
  have h := h x3 e2
  refine ⟨?_, ?_⟩
  · intro c4
    have h := h.1 c4
    exact ⟨h, K⟩
  · intro c5
    have h := h.2 c5
    intro x7 e6
    have h := h x7 e6
    refine cm_X11_wordOf (ky_X11_wordOf (b := b) hU (fun q hq => hL q ((by decide : ∀ q ∈ kyL_X11_wordOf, q ∈ kyL_X11_isWord) q hq)) (fun z => z.elim) h) h (fun x8 x9 p11 h g10 => ?_)
    have h := h g10
    have K := k9_tr K p11.2
    refine ⟨?_, ?_⟩
    · intro c12
      have h := h.1 c12
      exact ⟨h, K⟩
    · intro c13
      have h := h.2 c13
      exact ⟨h, K⟩
theorem ky_X11_isWord {b : Bool} {L : List (Nat × Nat)} (hU : ∀ q ∈ L, q ∈ nyT) (hL : ∀ q ∈ kyL_X11_isWord, q ∈ L) (hb : False → b = false) {Q : Int32 → HS → Prop} {v0 : Nat} {v1 : Nat} {S : HS} (h : P_X11_isWord v0 v1 Q S) : P_X11_isWord v0 v1 (fun r T => Q r T ∧ K9 b L S T) S := ky_X11_isWord_0 hU hL hb h (k9_rf b L S)
abbrev kyL_X11_eatsWord : List (Nat × Nat) := []
set_option maxRecDepth 20000 in
set_option maxHeartbeats 1000000 in
theorem ky_X11_eatsWord_0 {b : Bool} {L : List (Nat × Nat)} (hU : ∀ q ∈ L, q ∈ nyT) (hL : ∀ q ∈ kyL_X11_eatsWord, q ∈ L) (hb : False → b = false) {Q : Int32 → HS → Prop} {v0 : Nat} {v1 : Nat} {S0 S : HS} (h : P_X11_eatsWord_0 Q v0 v1 S) (K : K9 b L S0 S) : P_X11_eatsWord_0 (fun r T => Q r T ∧ K9 b L S0 T) v0 v1 S := by
  delta P_X11_eatsWord_0 at h ⊢
  obtain ⟨c1, h⟩ := h
  refine ⟨c1, ?_⟩
  refine cm_X11_isWord (ky_X11_isWord (b := b) hU (fun q hq => hL q ((by decide : ∀ q ∈ kyL_X11_isWord, q ∈ kyL_X11_eatsWord) q hq)) (fun z => z.elim) h) h (fun x2 x3 p6 h g4 g5 => ?_)
  have h := h g4 g5
  have K := k9_tr K p6.2
  refine ⟨?_, ?_⟩
  · intro c7
    have h := h.1 c7
    obtain ⟨c8, h⟩ := h
    refine ⟨c8, ?_⟩
    exact ⟨h, K⟩
  · intro c9
    have h := h.2 c9
    refine cm_X11_goesOn (ky_X11_goesOn (b := b) hU (fun q hq => hL q ((by decide : ∀ q ∈ kyL_X11_goesOn, q ∈ kyL_X11_eatsWord) q hq)) (fun z => z.elim) h) h (fun x10 p12 h g11 => ?_)
    have h := h g11
    have K := k9_tr K p12.2
    obtain ⟨c13, h⟩ := h
    refine ⟨c13, ?_⟩
    exact ⟨h, K⟩
theorem ky_X11_eatsWord {b : Bool} {L : List (Nat × Nat)} (hU : ∀ q ∈ L, q ∈ nyT) (hL : ∀ q ∈ kyL_X11_eatsWord, q ∈ L) (hb : False → b = false) {Q : Int32 → HS → Prop} {v0 : Nat} {v1 : Nat} {S : HS} (h : P_X11_eatsWord v0 v1 Q S) : P_X11_eatsWord v0 v1 (fun r T => Q r T ∧ K9 b L S T) S := ky_X11_eatsWord_0 hU hL hb h (k9_rf b L S)
abbrev kyL_X11_even : List (Nat × Nat) := []
set_option maxRecDepth 20000 in
set_option maxHeartbeats 1000000 in
theorem ky_X11_even_39 {b : Bool} {L : List (Nat × Nat)} (hU : ∀ q ∈ L, q ∈ nyT) (hL : ∀ q ∈ kyL_X11_even, q ∈ L) (hb : False → b = false) {Q : Int32 → HS → Prop} {v0 : Nat} {S0 S : HS} (h : P_X11_even_39 Q v0 S) (K : K9 b L S0 S) : P_X11_even_39 (fun r T => Q r T ∧ K9 b L S0 T) v0 S := by
  delta P_X11_even_39 at h ⊢
  obtain ⟨c1, h⟩ := h
  refine ⟨c1, ?_⟩
  refine cm_X11_refused (ky_X11_refused (b := b) hU (fun q hq => hL q ((by decide : ∀ q ∈ kyL_X11_refused, q ∈ kyL_X11_even) q hq)) (fun z => z.elim) h) h (fun x2 x3 p5 h g4 => ?_)
  have h := h g4
  have K := k9_tr K p5.2
  exact ⟨h, K⟩
set_option maxRecDepth 20000 in
set_option maxHeartbeats 1000000 in
theorem ky_X11_even_111 {b : Bool} {L : List (Nat × Nat)} (hU : ∀ q ∈ L, q ∈ nyT) (hL : ∀ q ∈ kyL_X11_even, q ∈ L) (hb : False → b = false) {Q : Int32 → HS → Prop} {X59 X59_2 : Nat → Int32 → Int32 → Int32 → Int32 → Int32 → Int32 → HS → Prop} {v0 : Nat} {v1 : Int32} {v2 : Int32} {v3 : Int32} {v4 : Int32} {v6 : Int32} {s0 : Int32} {S0 S : HS} (h : P_X11_even_111 Q X59 v0 v1 v2 v3 v4 v6 s0 S) (K : K9 b L S0 S) (hX59 : ∀ (u0 : Nat) (u1 : Int32) (u2 : Int32) (u3 : Int32) (u4 : Int32) (u5 : Int32) (u6 : Int32) (u7 : HS), X59 u0 u1 u2 u3 u4 u5 u6 u7 → K9 b L S0 u7 → X59_2 u0 u1 u2 u3 u4 u5 u6 u7) : P_X11_even_111 (fun r T => Q r T ∧ K9 b L S0 T) X59_2 v0 v1 v2 v3 v4 v6 s0 S := by
  delta P_X11_even_111 at h ⊢
  intro x2 e1
  have h := h x2 e1
  exact hX59 _ _ _ _ _ _ _ _ h K
set_option maxRecDepth 20000 in
set_option maxHeartbeats 1000000 in
theorem ky_X11_even_110 {b : Bool} {L : List (Nat × Nat)} (hU : ∀ q ∈ L, q ∈ nyT) (hL : ∀ q ∈ kyL_X11_even, q ∈ L) (hb : False → b = false) {Q : Int32 → HS → Prop} {X59 X59_2 : Nat → Int32 → Int32 → Int32 → Int32 → Int32 → Int32 → HS → Prop} {v0 : Nat} {v1 : Int32} {v2 : Int32} {v3 : Int32} {v4 : Int32} {v6 : Int32} {S0 S : HS} (h : P_X11_even_110 Q X59 v0 v1 v2 v3 v4 v6 S) (K : K9 b L S0 S) (hX59 : ∀ (u0 : Nat) (u1 : Int32) (u2 : Int32) (u3 : Int32) (u4 : Int32) (u5 : Int32) (u6 : Int32) (u7 : HS), X59 u0 u1 u2 u3 u4 u5 u6 u7 → K9 b L S0 u7 → X59_2 u0 u1 u2 u3 u4 u5 u6 u7) : P_X11_even_110 (fun r T => Q r T ∧ K9 b L S0 T) X59_2 v0 v1 v2 v3 v4 v6 S := by
  delta P_X11_even_110 at h ⊢
  exact ky_X11_even_111 hU hL hb h K hX59
set_option maxRecDepth 20000 in
set_option maxHeartbeats 1000000 in
theorem ky_X11_even_130 {b : Bool} {L : List (Nat × Nat)} (hU : ∀ q ∈ L, q ∈ nyT) (hL : ∀ q ∈ kyL_X11_even, q ∈ L) (hb : False → b = false) {Q : Int32 → HS → Prop} {s0 : Nat} {s1 : Int32} {S0 S : HS} (h : P_X11_even_130 Q s0 s1 S) (K : K9 b L S0 S) : P_X11_even_130 (fun r T => Q r T ∧ K9 b L S0 T) s0 s1 S := by
  delta P_X11_even_130 at h ⊢
  obtain ⟨c1, h⟩ := h
  refine ⟨c1, ?_⟩
  refine cm_X11_good (ky_X11_good (b := b) hU (fun q hq => hL q ((by decide : ∀ q ∈ kyL_X11_good, q ∈ kyL_X11_even) q hq)) (fun z => z.elim) h) h (fun x2 x3 p5 h g4 => ?_)
  have h := h g4
  have K := k9_tr K p5.2
  exact ⟨h, K⟩
set_option maxRecDepth 20000 in
set_option maxHeartbeats 1000000 in
theorem kyB_X11_even_59 {b : Bool} {L : List (Nat × Nat)} (hU : ∀ q ∈ L, q ∈ nyT) (hL : ∀ q ∈ kyL_X11_even, q ∈ L) (hb : False → b = false) {Q : Int32 → HS → Prop} {X59 X59_2 : Nat → Int32 → Int32 → Int32 → Int32 → Int32 → Int32 → HS → Prop} {v0 : Nat} {v1 : Int32} {v2 : Int32} {v3 : Int32} {v4 : Int32} {v5 : Int32} {v6 : Int32} {S0 S : HS} (h : B_X11_even_59 Q X59 v0 v1 v2 v3 v4 v5 v6 S) (K : K9 b L S0 S) (hX59 : ∀ (u0 : Nat) (u1 : Int32) (u2 : Int32) (u3 : Int32) (u4 : Int32) (u5 : Int32) (u6 : Int32) (u7 : HS), X59 u0 u1 u2 u3 u4 u5 u6 u7 → K9 b L S0 u7 → X59_2 u0 u1 u2 u3 u4 u5 u6 u7) : B_X11_even_59 (fun r T => Q r T ∧ K9 b L S0 T) X59_2 v0 v1 v2 v3 v4 v5 v6 S := by
  delta B_X11_even_59 at h ⊢
  obtain ⟨c1, h⟩ := h
  refine ⟨c1, ?_⟩
  have o2 := c1
  obtain ⟨b3, e4, h⟩ := h
  refine ⟨b3, e4, ?_⟩
  obtain ⟨c5, h⟩ := h
  refine ⟨c5, ?_⟩
  have o6 := c5
  obtain ⟨b7, e8, h⟩ := h
  refine ⟨b7, e8, ?_⟩
  obtain ⟨c9, h⟩ := h
  refine ⟨c9, ?_⟩
  obtain ⟨c10, h⟩ := h
  refine ⟨c10, ?_⟩
  intro x12 e11
  have h := h x12 e11
  refine ⟨?_, ?_⟩
  · intro c13
    have h := h.1 c13
    refine ⟨?_, ?_⟩
    · intro c14
      have h := h.1 c14
      exact ky_X11_even_130 hU hL hb h K
    · intro c15
      have h := h.2 c15
      exact ky_X11_even_130 hU hL hb h K
  · intro c16
    have h := h.2 c16
    refine ⟨?_, ?_⟩
    · intro c17
      have h := h.1 c17
      exact ky_X11_even_110 hU hL hb h K hX59
    · intro c18
      have h := h.2 c18
      refine cm_X11_wetOf (ky_X11_wetOf (b := b) hU (fun q hq => hL q ((by decide : ∀ q ∈ kyL_X11_wetOf, q ∈ kyL_X11_even) q hq)) (fun z => z.elim) h) h (fun x19 x20 p22 h g21 => ?_)
      have h := h g21
      have K := k9_tr K p22.2
      have o2 := gr_ob p22.2.1 o2
      have o6 := gr_ob p22.2.1 o6
      refine cm_X11_wetOf (ky_X11_wetOf (b := b) hU (fun q hq => hL q ((by decide : ∀ q ∈ kyL_X11_wetOf, q ∈ kyL_X11_even) q hq)) (fun z => z.elim) h) h (fun x23 x24 p26 h g25 => ?_)
      have h := h g25
      have K := k9_tr K p26.2
      have o2 := gr_ob p26.2.1 o2
      have o6 := gr_ob p26.2.1 o6
      refine ⟨?_, ?_⟩
      · intro c27
        have h := h.1 c27
        exact ky_X11_even_110 hU hL hb h K hX59
      · intro c28
        have h := h.2 c28
        exact ky_X11_even_111 hU hL hb h K hX59
theorem ky_X11_even_59 {b : Bool} {L : List (Nat × Nat)} (hU : ∀ q ∈ L, q ∈ nyT) (hL : ∀ q ∈ kyL_X11_even, q ∈ L) (hb : False → b = false) {Q : Int32 → HS → Prop} {v0 : Nat} {v1 : Int32} {v2 : Int32} {v3 : Int32} {v4 : Int32} {v5 : Int32} {v6 : Int32} {S0 S : HS} (h : P_X11_even_59 Q v0 v1 v2 v3 v4 v5 v6 S) (K : K9 b L S0 S) : P_X11_even_59 (fun r T => Q r T ∧ K9 b L S0 T) v0 v1 v2 v3 v4 v5 v6 S := h (fun v0 v1 v2 v3 v4 v5 v6 S => K9 b L S0 S → P_X11_even_59 (fun r T => Q r T ∧ K9 b L S0 T) v0 v1 v2 v3 v4 v5 v6 S) (fun v0 v1 v2 v3 v4 v5 v6 S hB K => fd_X11_even_59 (kyB_X11_even_59 hU hL hb hB K (fun _ _ _ _ _ _ _ _ hx K => hx K))) K
set_option maxRecDepth 20000 in
set_option maxHeartbeats 1000000 in
theorem ky_X11_even_0 {b : Bool} {L : List (Nat × Nat)} (hU : ∀ q ∈ L, q ∈ nyT) (hL : ∀ q ∈ kyL_X11_even, q ∈ L) (hb : False → b = false) {Q : Int32 → HS → Prop} {v0 : Nat} {v1 : Int32} {v2 : Int32} {v3 : Int32} {v4 : Int32} {S0 S : HS} (h : P_X11_even_0 Q v0 v1 v2 v3 v4 S) (K : K9 b L S0 S) : P_X11_even_0 (fun r T => Q r T ∧ K9 b L S0 T) v0 v1 v2 v3 v4 S := by
  delta P_X11_even_0 at h ⊢
  obtain ⟨c1, h⟩ := h
  refine ⟨c1, ?_⟩
  have o2 := c1
  intro x4 e3
  have h := h x4 e3
  have K := k9_I K e3
  have o2 := ob_wI o2 e3
  refine cm_X11_isWalker (ky_X11_isWalker (b := b) hU (fun q hq => hL q ((by decide : ∀ q ∈ kyL_X11_isWalker, q ∈ kyL_X11_even) q hq)) (fun z => z.elim) h) h (fun x5 x6 p9 h g7 g8 => ?_)
  have h := h g7 g8
  have K := k9_tr K p9.2
  have o2 := gr_ob p9.2.1 o2
  refine ⟨?_, ?_⟩
  · intro c10
    have h := h.1 c10
    exact ky_X11_even_39 hU hL hb h K
  · intro c11
    have h := h.2 c11
    refine cm_X11_isRoad (ky_X11_isRoad (b := b) hU (fun q hq => hL q ((by decide : ∀ q ∈ kyL_X11_isRoad, q ∈ kyL_X11_even) q hq)) (fun z => z.elim) h) h (fun x12 x13 p16 h g14 g15 => ?_)
    have h := h g14 g15
    have K := k9_tr K p16.2
    have o2 := gr_ob p16.2.1 o2
    refine ⟨?_, ?_⟩
    · intro c17
      have h := h.1 c17
      exact ky_X11_even_39 hU hL hb h K
    · intro c18
      have h := h.2 c18
      refine cm_X11_in (ky_X11_in (b := b) hU (fun q hq => hL q ((by decide : ∀ q ∈ kyL_X11_in, q ∈ kyL_X11_even) q hq)) (fun z => z.elim) h) h (fun x19 x20 p23 h g21 g22 => ?_)
      have h := h g21 g22
      have K := k9_tr K p23.2
      have o2 := gr_ob p23.2.1 o2
      refine ⟨?_, ?_⟩
      · intro c24
        have h := h.1 c24
        exact ky_X11_even_39 hU hL hb h K
      · intro c25
        have h := h.2 c25
        refine cm_X11_isHour (ky_X11_isHour (b := b) hU (fun q hq => hL q ((by decide : ∀ q ∈ kyL_X11_isHour, q ∈ kyL_X11_even) q hq)) (fun z => z.elim) h) h (fun x26 x27 p30 h g28 g29 => ?_)
        have h := h g28 g29
        have K := k9_tr K p30.2
        have o2 := gr_ob p30.2.1 o2
        refine ⟨?_, ?_⟩
        · intro c31
          have h := h.1 c31
          obtain ⟨b32, e33, h⟩ := h
          refine ⟨b32, e33, ?_⟩
          obtain ⟨c34, h⟩ := h
          refine ⟨c34, ?_⟩
          have o35 := c34
          obtain ⟨b36, e37, h⟩ := h
          refine ⟨b36, e37, ?_⟩
          obtain ⟨c38, h⟩ := h
          refine ⟨c38, ?_⟩
          obtain ⟨c39, h⟩ := h
          refine ⟨c39, ?_⟩
          intro x41 e40
          have h := h x41 e40
          exact ky_X11_even_59 hU hL hb h K
        · intro c42
          have h := h.2 c42
          exact ky_X11_even_39 hU hL hb h K
theorem ky_X11_even {b : Bool} {L : List (Nat × Nat)} (hU : ∀ q ∈ L, q ∈ nyT) (hL : ∀ q ∈ kyL_X11_even, q ∈ L) (hb : False → b = false) {Q : Int32 → HS → Prop} {v0 : Nat} {v1 : Int32} {v2 : Int32} {v3 : Int32} {v4 : Int32} {S : HS} (h : P_X11_even v0 v1 v2 v3 v4 Q S) : P_X11_even v0 v1 v2 v3 v4 (fun r T => Q r T ∧ K9 b L S T) S := ky_X11_even_0 hU hL hb h (k9_rf b L S)
abbrev kyL_X11_isSpeed : List (Nat × Nat) := []
set_option maxRecDepth 20000 in
set_option maxHeartbeats 1000000 in
theorem ky_X11_isSpeed_0 {b : Bool} {L : List (Nat × Nat)} (hU : ∀ q ∈ L, q ∈ nyT) (hL : ∀ q ∈ kyL_X11_isSpeed, q ∈ L) (hb : False → b = false) {Q : Int32 → HS → Prop} {v0 : Nat} {v1 : Int32} {v2 : Int32} {S0 S : HS} (h : P_X11_isSpeed_0 Q v0 v1 v2 S) (K : K9 b L S0 S) : P_X11_isSpeed_0 (fun r T => Q r T ∧ K9 b L S0 T) v0 v1 v2 S := by
  delta P_X11_isSpeed_0 at h ⊢
  obtain ⟨c1, h⟩ := h
  refine ⟨c1, ?_⟩
  have o2 := c1
  obtain ⟨b3, e4, h⟩ := h
  refine ⟨b3, e4, ?_⟩
  obtain ⟨c5, h⟩ := h
  refine ⟨c5, ?_⟩
  have o6 := c5
  obtain ⟨b7, e8, h⟩ := h
  refine ⟨b7, e8, ?_⟩
  obtain ⟨c9, h⟩ := h
  refine ⟨c9, ?_⟩
  obtain ⟨c10, h⟩ := h
  refine ⟨c10, ?_⟩
  intro x12 e11
  have h := h x12 e11
  obtain ⟨b13, e14, h⟩ := h
  refine ⟨b13, e14, ?_⟩
  obtain ⟨c15, h⟩ := h
  refine ⟨c15, ?_⟩
  have o16 := c15
  obtain ⟨b17, e18, h⟩ := h
  refine ⟨b17, e18, ?_⟩
  obtain ⟨c19, h⟩ := h
  refine ⟨c19, ?_⟩
  obtain ⟨c20, h⟩ := h
  refine ⟨c20, ?_⟩
  intro x22 e21
  have h := h x22 e21
  refine cm_X11_in (ky_X11_in (b := b) hU (fun q hq => hL q ((by decide : ∀ q ∈ kyL_X11_in, q ∈ kyL_X11_isSpeed) q hq)) (fun z => z.elim) h) h (fun x23 x24 p27 h g25 g26 => ?_)
  have h := h g25 g26
  have K := k9_tr K p27.2
  have o2 := gr_ob p27.2.1 o2
  have o6 := gr_ob p27.2.1 o6
  have o16 := gr_ob p27.2.1 o16
  obtain ⟨c28, h⟩ := h
  refine ⟨c28, ?_⟩
  exact ⟨h, K⟩
theorem ky_X11_isSpeed {b : Bool} {L : List (Nat × Nat)} (hU : ∀ q ∈ L, q ∈ nyT) (hL : ∀ q ∈ kyL_X11_isSpeed, q ∈ L) (hb : False → b = false) {Q : Int32 → HS → Prop} {v0 : Nat} {v1 : Int32} {v2 : Int32} {S : HS} (h : P_X11_isSpeed v0 v1 v2 Q S) : P_X11_isSpeed v0 v1 v2 (fun r T => Q r T ∧ K9 b L S T) S := ky_X11_isSpeed_0 hU hL hb h (k9_rf b L S)
abbrev kyL_X11_refuses : List (Nat × Nat) := []
set_option maxRecDepth 20000 in
set_option maxHeartbeats 1000000 in
theorem ky_X11_refuses_0 {b : Bool} {L : List (Nat × Nat)} (hU : ∀ q ∈ L, q ∈ nyT) (hL : ∀ q ∈ kyL_X11_refuses, q ∈ L) (hb : False → b = false) {Q : Int32 → HS → Prop} {v0 : Nat} {v1 : Int32} {v2 : Int32} {v3 : Int32} {v4 : Int32} {v5 : Int32} {S0 S : HS} (h : P_X11_refuses_0 Q v0 v1 v2 v3 v4 v5 S) (K : K9 b L S0 S) : P_X11_refuses_0 (fun r T => Q r T ∧ K9 b L S0 T) v0 v1 v2 v3 v4 v5 S := by
  delta P_X11_refuses_0 at h ⊢
  obtain ⟨c1, h⟩ := h
  refine ⟨c1, ?_⟩
  refine cm_X11_isWalker (ky_X11_isWalker (b := b) hU (fun q hq => hL q ((by decide : ∀ q ∈ kyL_X11_isWalker, q ∈ kyL_X11_refuses) q hq)) (fun z => z.elim) h) h (fun x2 x3 p6 h g4 g5 => ?_)
  have h := h g4 g5
  have K := k9_tr K p6.2
  refine ⟨?_, ?_⟩
  · intro c7
    have h := h.1 c7
    exact ⟨h, K⟩
  · intro c8
    have h := h.2 c8
    refine cm_X11_isRoad (ky_X11_isRoad (b := b) hU (fun q hq => hL q ((by decide : ∀ q ∈ kyL_X11_isRoad, q ∈ kyL_X11_refuses) q hq)) (fun z => z.elim) h) h (fun x9 x10 p13 h g11 g12 => ?_)
    have h := h g11 g12
    have K := k9_tr K p13.2
    refine ⟨?_, ?_⟩
    · intro c14
      have h := h.1 c14
      exact ⟨h, K⟩
    · intro c15
      have h := h.2 c15
      refine cm_X11_in (ky_X11_in (b := b) hU (fun q hq => hL q ((by decide : ∀ q ∈ kyL_X11_in, q ∈ kyL_X11_refuses) q hq)) (fun z => z.elim) h) h (fun x16 x17 p20 h g18 g19 => ?_)
      have h := h g18 g19
      have K := k9_tr K p20.2
      refine ⟨?_, ?_⟩
      · intro c21
        have h := h.1 c21
        exact ⟨h, K⟩
      · intro c22
        have h := h.2 c22
        refine cm_X11_isHour (ky_X11_isHour (b := b) hU (fun q hq => hL q ((by decide : ∀ q ∈ kyL_X11_isHour, q ∈ kyL_X11_refuses) q hq)) (fun z => z.elim) h) h (fun x23 x24 p27 h g25 g26 => ?_)
        have h := h g25 g26
        have K := k9_tr K p27.2
        refine ⟨?_, ?_⟩
        · intro c28
          have h := h.1 c28
          refine cm_X11_isSpeed (ky_X11_isSpeed (b := b) hU (fun q hq => hL q ((by decide : ∀ q ∈ kyL_X11_isSpeed, q ∈ kyL_X11_refuses) q hq)) (fun z => z.elim) h) h (fun x29 x30 p33 h g31 g32 => ?_)
          have h := h g31 g32
          have K := k9_tr K p33.2
          refine ⟨?_, ?_⟩
          · intro c34
            have h := h.1 c34
            exact ⟨h, K⟩
          · intro c35
            have h := h.2 c35
            exact ⟨h, K⟩
        · intro c36
          have h := h.2 c36
          exact ⟨h, K⟩
theorem ky_X11_refuses {b : Bool} {L : List (Nat × Nat)} (hU : ∀ q ∈ L, q ∈ nyT) (hL : ∀ q ∈ kyL_X11_refuses, q ∈ L) (hb : False → b = false) {Q : Int32 → HS → Prop} {v0 : Nat} {v1 : Int32} {v2 : Int32} {v3 : Int32} {v4 : Int32} {v5 : Int32} {S : HS} (h : P_X11_refuses v0 v1 v2 v3 v4 v5 Q S) : P_X11_refuses v0 v1 v2 v3 v4 v5 (fun r T => Q r T ∧ K9 b L S T) S := ky_X11_refuses_0 hU hL hb h (k9_rf b L S)
abbrev kyL_X11_told : List (Nat × Nat) := []
set_option maxRecDepth 20000 in
set_option maxHeartbeats 1000000 in
theorem kyB_X11_told_12 {b : Bool} {L : List (Nat × Nat)} (hU : ∀ q ∈ L, q ∈ nyT) (hL : ∀ q ∈ kyL_X11_told, q ∈ L) (hb : False → b = false) {Q : Int64 → HS → Prop} {X12 X12_2 : Int64 → Int64 → Int32 → Int64 → Int64 → HS → Prop} {v1 : Int64} {v3 : Int64} {v5 : Int32} {v6 : Int64} {v8 : Int64} {S0 S : HS} (h : B_X11_told_12 Q X12 v1 v3 v5 v6 v8 S) (K : K9 b L S0 S) (hX12 : ∀ (u0 : Int64) (u1 : Int64) (u2 : Int32) (u3 : Int64) (u4 : Int64) (u5 : HS), X12 u0 u1 u2 u3 u4 u5 → K9 b L S0 u5 → X12_2 u0 u1 u2 u3 u4 u5) : B_X11_told_12 (fun r T => Q r T ∧ K9 b L S0 T) X12_2 v1 v3 v5 v6 v8 S := by
  delta B_X11_told_12 at h ⊢
  refine ⟨?_, ?_⟩
  · intro c1
    have h := h.1 c1
    refine ⟨?_, ?_⟩
    · intro c2
      have h := h.1 c2
      obtain ⟨c3, h⟩ := h
      refine ⟨c3, ?_⟩
      intro x5 e4
      have h := h x5 e4
      exact ⟨h, K⟩
    · intro c6
      have h := h.2 c6
      obtain ⟨c7, h⟩ := h
      refine ⟨c7, ?_⟩
      intro x9 e8
      have h := h x9 e8
      exact ⟨h, K⟩
  · intro c10
    have h := h.2 c10
    obtain ⟨c11, h⟩ := h
    refine ⟨c11, ?_⟩
    intro x13 e12
    have h := h x13 e12
    exact hX12 _ _ _ _ _ _ h K
theorem ky_X11_told_12 {b : Bool} {L : List (Nat × Nat)} (hU : ∀ q ∈ L, q ∈ nyT) (hL : ∀ q ∈ kyL_X11_told, q ∈ L) (hb : False → b = false) {Q : Int64 → HS → Prop} {v1 : Int64} {v3 : Int64} {v5 : Int32} {v6 : Int64} {v8 : Int64} {S0 S : HS} (h : P_X11_told_12 Q v1 v3 v5 v6 v8 S) (K : K9 b L S0 S) : P_X11_told_12 (fun r T => Q r T ∧ K9 b L S0 T) v1 v3 v5 v6 v8 S := h (fun v1 v3 v5 v6 v8 S => K9 b L S0 S → P_X11_told_12 (fun r T => Q r T ∧ K9 b L S0 T) v1 v3 v5 v6 v8 S) (fun v1 v3 v5 v6 v8 S hB K => fd_X11_told_12 (kyB_X11_told_12 hU hL hb hB K (fun _ _ _ _ _ _ hx K => hx K))) K
set_option maxRecDepth 20000 in
set_option maxHeartbeats 1000000 in
theorem ky_X11_told_0 {b : Bool} {L : List (Nat × Nat)} (hU : ∀ q ∈ L, q ∈ nyT) (hL : ∀ q ∈ kyL_X11_told, q ∈ L) (hb : False → b = false) {Q : Int64 → HS → Prop} {v0 : Nat} {v1 : Int64} {v3 : Int64} {v5 : Int32} {S0 S : HS} (h : P_X11_told_0 Q v0 v1 v3 v5 S) (K : K9 b L S0 S) : P_X11_told_0 (fun r T => Q r T ∧ K9 b L S0 T) v0 v1 v3 v5 S := by
  delta P_X11_told_0 at h ⊢
  obtain ⟨c1, h⟩ := h
  refine ⟨c1, ?_⟩
  refine cm_X11_good (ky_X11_good (b := b) hU (fun q hq => hL q ((by decide : ∀ q ∈ kyL_X11_good, q ∈ kyL_X11_told) q hq)) (fun z => z.elim) h) h (fun x2 x3 p5 h g4 => ?_)
  have h := h g4
  have K := k9_tr K p5.2
  exact ky_X11_told_12 hU hL hb h K
theorem ky_X11_told {b : Bool} {L : List (Nat × Nat)} (hU : ∀ q ∈ L, q ∈ nyT) (hL : ∀ q ∈ kyL_X11_told, q ∈ L) (hb : False → b = false) {Q : Int64 → HS → Prop} {v0 : Nat} {v1 : Int64} {v3 : Int64} {v5 : Int32} {S : HS} (h : P_X11_told v0 v1 v3 v5 Q S) : P_X11_told v0 v1 v3 v5 (fun r T => Q r T ∧ K9 b L S T) S := ky_X11_told_0 hU hL hb h (k9_rf b L S)
abbrev kyL_X11_face : List (Nat × Nat) := []
set_option maxRecDepth 20000 in
set_option maxHeartbeats 1000000 in
theorem ky_X11_face_30 {b : Bool} {L : List (Nat × Nat)} (hU : ∀ q ∈ L, q ∈ nyT) (hL : ∀ q ∈ kyL_X11_face, q ∈ L) (hb : False → b = false) {Q : Int64 → HS → Prop} {v0 : Nat} {v1 : Int32} {v2 : Int32} {v3 : Int32} {v4 : Int32} {v5 : Int32} {v6 : Int32} {v7 : Int32} {s0 : Int32} {S0 S : HS} (h : P_X11_face_30 Q v0 v1 v2 v3 v4 v5 v6 v7 s0 S) (K : K9 b L S0 S) : P_X11_face_30 (fun r T => Q r T ∧ K9 b L S0 T) v0 v1 v2 v3 v4 v5 v6 v7 s0 S := by
  delta P_X11_face_30 at h ⊢
  refine ⟨?_, ?_⟩
  · intro c1
    have h := h.1 c1
    obtain ⟨c2, h⟩ := h
    refine ⟨c2, ?_⟩
    refine cm_X11_partsOf (ky_X11_partsOf (b := b) hU (fun q hq => hL q ((by decide : ∀ q ∈ kyL_X11_partsOf, q ∈ kyL_X11_face) q hq)) (fun z => z.elim) h) h (fun x3 x4 p6 h g5 => ?_)
    have h := h g5
    have K := k9_tr K p6.2
    refine cm_X11_told (ky_X11_told (b := b) hU (fun q hq => hL q ((by decide : ∀ q ∈ kyL_X11_told, q ∈ kyL_X11_face) q hq)) (fun z => z.elim) h) h (fun x7 x8 p10 h g9 => ?_)
    have h := h g9
    have K := k9_tr K p10.2
    exact ⟨h, K⟩
  · intro c11
    have h := h.2 c11
    obtain ⟨c12, h⟩ := h
    refine ⟨c12, ?_⟩
    refine cm_X11_refused (ky_X11_refused (b := b) hU (fun q hq => hL q ((by decide : ∀ q ∈ kyL_X11_refused, q ∈ kyL_X11_face) q hq)) (fun z => z.elim) h) h (fun x13 x14 p16 h g15 => ?_)
    have h := h g15
    have K := k9_tr K p16.2
    exact ⟨h, K⟩
set_option maxRecDepth 20000 in
set_option maxHeartbeats 1000000 in
theorem ky_X11_face_0 {b : Bool} {L : List (Nat × Nat)} (hU : ∀ q ∈ L, q ∈ nyT) (hL : ∀ q ∈ kyL_X11_face, q ∈ L) (hb : False → b = false) {Q : Int64 → HS → Prop} {v0 : Nat} {v1 : Int32} {v2 : Int32} {v3 : Int32} {v4 : Int32} {v5 : Int32} {v6 : Int32} {v7 : Int32} {S0 S : HS} (h : P_X11_face_0 Q v0 v1 v2 v3 v4 v5 v6 v7 S) (K : K9 b L S0 S) : P_X11_face_0 (fun r T => Q r T ∧ K9 b L S0 T) v0 v1 v2 v3 v4 v5 v6 v7 S := by
  delta P_X11_face_0 at h ⊢
  obtain ⟨c1, h⟩ := h
  refine ⟨c1, ?_⟩
  intro x3 e2
  have h := h x3 e2
  have K := k9_I K e2
  refine cm_X11_in (ky_X11_in (b := b) hU (fun q hq => hL q ((by decide : ∀ q ∈ kyL_X11_in, q ∈ kyL_X11_face) q hq)) (fun z => z.elim) h) h (fun x4 x5 p8 h g6 g7 => ?_)
  have h := h g6 g7
  have K := k9_tr K p8.2
  refine ⟨?_, ?_⟩
  · intro c9
    have h := h.1 c9
    exact ky_X11_face_30 hU hL hb h K
  · intro c10
    have h := h.2 c10
    refine cm_X11_refuses (ky_X11_refuses (b := b) hU (fun q hq => hL q ((by decide : ∀ q ∈ kyL_X11_refuses, q ∈ kyL_X11_face) q hq)) (fun z => z.elim) h) h (fun x11 x12 p14 h g13 => ?_)
    have h := h g13
    have K := k9_tr K p14.2
    exact ky_X11_face_30 hU hL hb h K
theorem ky_X11_face {b : Bool} {L : List (Nat × Nat)} (hU : ∀ q ∈ L, q ∈ nyT) (hL : ∀ q ∈ kyL_X11_face, q ∈ L) (hb : False → b = false) {Q : Int64 → HS → Prop} {v0 : Nat} {v1 : Int32} {v2 : Int32} {v3 : Int32} {v4 : Int32} {v5 : Int32} {v6 : Int32} {v7 : Int32} {S : HS} (h : P_X11_face v0 v1 v2 v3 v4 v5 v6 v7 Q S) : P_X11_face v0 v1 v2 v3 v4 v5 v6 v7 (fun r T => Q r T ∧ K9 b L S T) S := ky_X11_face_0 hU hL hb h (k9_rf b L S)
abbrev kyL_X11_fault : List (Nat × Nat) := []
set_option maxRecDepth 20000 in
set_option maxHeartbeats 1000000 in
theorem ky_X11_fault_0 {b : Bool} {L : List (Nat × Nat)} (hU : ∀ q ∈ L, q ∈ nyT) (hL : ∀ q ∈ kyL_X11_fault, q ∈ L) (hb : False → b = false) {Q : Int32 → HS → Prop} {v0 : Nat} {S0 S : HS} (h : P_X11_fault_0 Q v0 S) (K : K9 b L S0 S) : P_X11_fault_0 (fun r T => Q r T ∧ K9 b L S0 T) v0 S := by
  delta P_X11_fault_0 at h ⊢
  obtain ⟨c1, h⟩ := h
  refine ⟨c1, ?_⟩
  intro x3 e2
  have h := h x3 e2
  have K := k9_I K e2
  intro x5 e4
  have h := h x5 e4
  exact ⟨h, K⟩
theorem ky_X11_fault {b : Bool} {L : List (Nat × Nat)} (hU : ∀ q ∈ L, q ∈ nyT) (hL : ∀ q ∈ kyL_X11_fault, q ∈ L) (hb : False → b = false) {Q : Int32 → HS → Prop} {v0 : Nat} {S : HS} (h : P_X11_fault v0 Q S) : P_X11_fault v0 (fun r T => Q r T ∧ K9 b L S T) S := ky_X11_fault_0 hU hL hb h (k9_rf b L S)
abbrev kyL_X11_feed : List (Nat × Nat) := []
set_option maxRecDepth 20000 in
set_option maxHeartbeats 1000000 in
theorem ky_X11_feed_76 {b : Bool} {L : List (Nat × Nat)} (hU : ∀ q ∈ L, q ∈ nyT) (hL : ∀ q ∈ kyL_X11_feed, q ∈ L) (hb : False → b = false) {Q : Int32 → HS → Prop} {X23 X23_2 : Nat → Int32 → Int32 → Int32 → Int32 → Int32 → Int32 → HS → Prop} {v0 : Nat} {v1 : Int32} {v2 : Int32} {v3 : Int32} {v4 : Int32} {v5 : Int32} {v6 : Int32} {s0 : Int32} {S0 S : HS} (h : P_X11_feed_76 Q X23 v0 v1 v2 v3 v4 v5 v6 s0 S) (K : K9 b L S0 S) (hX23 : ∀ (u0 : Nat) (u1 : Int32) (u2 : Int32) (u3 : Int32) (u4 : Int32) (u5 : Int32) (u6 : Int32) (u7 : HS), X23 u0 u1 u2 u3 u4 u5 u6 u7 → K9 b L S0 u7 → X23_2 u0 u1 u2 u3 u4 u5 u6 u7) : P_X11_feed_76 (fun r T => Q r T ∧ K9 b L S0 T) X23_2 v0 v1 v2 v3 v4 v5 v6 s0 S := by
  delta P_X11_feed_76 at h ⊢
  obtain ⟨c1, h⟩ := h
  refine ⟨c1, ?_⟩
  have o2 := c1
  obtain ⟨b3, e4, h⟩ := h
  refine ⟨b3, e4, ?_⟩
  intro x6 e5
  have h := h x6 e5
  intro x8 e7
  have h := h x8 e7
  obtain ⟨c9, h⟩ := h
  refine ⟨c9, ?_⟩
  intro x11 e10
  have h := h x11 e10
  obtain ⟨c12, h⟩ := h
  refine ⟨c12, ?_⟩
  intro x14 e13
  have h := h x14 e13
  have K := k9_I K e13
  have o2 := ob_wI o2 e13
  intro x16 e15
  have h := h x16 e15
  intro x18 e17
  have h := h x18 e17
  intro x20 e19
  have h := h x20 e19
  have K := k9_I K e19
  have o2 := ob_wI o2 e19
  intro x22 e21
  have h := h x22 e21
  exact hX23 _ _ _ _ _ _ _ _ h K
set_option maxRecDepth 20000 in
set_option maxHeartbeats 1000000 in
theorem kyB_X11_feed_23 {b : Bool} {L : List (Nat × Nat)} (hU : ∀ q ∈ L, q ∈ nyT) (hL : ∀ q ∈ kyL_X11_feed, q ∈ L) (hb : False → b = false) {Q : Int32 → HS → Prop} {X23 X23_2 : Nat → Int32 → Int32 → Int32 → Int32 → Int32 → Int32 → HS → Prop} {v0 : Nat} {v1 : Int32} {v2 : Int32} {v3 : Int32} {v4 : Int32} {v5 : Int32} {v6 : Int32} {S0 S : HS} (h : B_X11_feed_23 Q X23 v0 v1 v2 v3 v4 v5 v6 S) (K : K9 b L S0 S) (hX23 : ∀ (u0 : Nat) (u1 : Int32) (u2 : Int32) (u3 : Int32) (u4 : Int32) (u5 : Int32) (u6 : Int32) (u7 : HS), X23 u0 u1 u2 u3 u4 u5 u6 u7 → K9 b L S0 u7 → X23_2 u0 u1 u2 u3 u4 u5 u6 u7) : B_X11_feed_23 (fun r T => Q r T ∧ K9 b L S0 T) X23_2 v0 v1 v2 v3 v4 v5 v6 S := by
  delta B_X11_feed_23 at h ⊢
  refine ⟨?_, ?_⟩
  · intro c1
    have h := h.1 c1
    obtain ⟨c2, h⟩ := h
    refine ⟨c2, ?_⟩
    intro x4 e3
    have h := h x4 e3
    exact ⟨h, K⟩
  · intro c5
    have h := h.2 c5
    refine ⟨?_, ?_⟩
    · intro c6
      have h := h.1 c6
      refine ⟨?_, ?_⟩
      · intro c7
        have h := h.1 c7
        refine ⟨?_, ?_⟩
        · intro c8
          have h := h.1 c8
          refine ⟨?_, ?_⟩
          · intro c9
            have h := h.1 c9
            exact ky_X11_feed_76 hU hL hb h K hX23
          · intro c10
            have h := h.2 c10
            exact ky_X11_feed_76 hU hL hb h K hX23
        · intro c11
          have h := h.2 c11
          exact ky_X11_feed_76 hU hL hb h K hX23
      · intro c12
        have h := h.2 c12
        exact ky_X11_feed_76 hU hL hb h K hX23
    · intro c13
      have h := h.2 c13
      exact ky_X11_feed_76 hU hL hb h K hX23
theorem ky_X11_feed_23 {b : Bool} {L : List (Nat × Nat)} (hU : ∀ q ∈ L, q ∈ nyT) (hL : ∀ q ∈ kyL_X11_feed, q ∈ L) (hb : False → b = false) {Q : Int32 → HS → Prop} {v0 : Nat} {v1 : Int32} {v2 : Int32} {v3 : Int32} {v4 : Int32} {v5 : Int32} {v6 : Int32} {S0 S : HS} (h : P_X11_feed_23 Q v0 v1 v2 v3 v4 v5 v6 S) (K : K9 b L S0 S) : P_X11_feed_23 (fun r T => Q r T ∧ K9 b L S0 T) v0 v1 v2 v3 v4 v5 v6 S := h (fun v0 v1 v2 v3 v4 v5 v6 S => K9 b L S0 S → P_X11_feed_23 (fun r T => Q r T ∧ K9 b L S0 T) v0 v1 v2 v3 v4 v5 v6 S) (fun v0 v1 v2 v3 v4 v5 v6 S hB K => fd_X11_feed_23 (kyB_X11_feed_23 hU hL hb hB K (fun _ _ _ _ _ _ _ _ hx K => hx K))) K
set_option maxRecDepth 20000 in
set_option maxHeartbeats 1000000 in
theorem ky_X11_feed_0 {b : Bool} {L : List (Nat × Nat)} (hU : ∀ q ∈ L, q ∈ nyT) (hL : ∀ q ∈ kyL_X11_feed, q ∈ L) (hb : False → b = false) {Q : Int32 → HS → Prop} {v0 : Nat} {v1 : Int32} {v2 : Int32} {v3 : Int32} {v4 : Int32} {v5 : Int32} {S0 S : HS} (h : P_X11_feed_0 Q v0 v1 v2 v3 v4 v5 S) (K : K9 b L S0 S) : P_X11_feed_0 (fun r T => Q r T ∧ K9 b L S0 T) v0 v1 v2 v3 v4 v5 S := by
  delta P_X11_feed_0 at h ⊢
  obtain ⟨c1, h⟩ := h
  refine ⟨c1, ?_⟩
  intro x3 e2
  have h := h x3 e2
  have K := k9_I K e2
  intro x5 e4
  have h := h x5 e4
  refine ⟨?_, ?_⟩
  · intro c6
    have h := h.1 c6
    exact ky_X11_feed_23 hU hL hb h K
  · intro c7
    have h := h.2 c7
    exact ⟨h, K⟩
theorem ky_X11_feed {b : Bool} {L : List (Nat × Nat)} (hU : ∀ q ∈ L, q ∈ nyT) (hL : ∀ q ∈ kyL_X11_feed, q ∈ L) (hb : False → b = false) {Q : Int32 → HS → Prop} {v0 : Nat} {v1 : Int32} {v2 : Int32} {v3 : Int32} {v4 : Int32} {v5 : Int32} {S : HS} (h : P_X11_feed v0 v1 v2 v3 v4 v5 Q S) : P_X11_feed v0 v1 v2 v3 v4 v5 (fun r T => Q r T ∧ K9 b L S T) S := ky_X11_feed_0 hU hL hb h (k9_rf b L S)
abbrev kyL_X11_refusesTwo : List (Nat × Nat) := []
set_option maxRecDepth 20000 in
set_option maxHeartbeats 1000000 in
theorem ky_X11_refusesTwo_0 {b : Bool} {L : List (Nat × Nat)} (hU : ∀ q ∈ L, q ∈ nyT) (hL : ∀ q ∈ kyL_X11_refusesTwo, q ∈ L) (hb : False → b = false) {Q : Int32 → HS → Prop} {v0 : Nat} {v1 : Int32} {v2 : Int32} {v3 : Int32} {v4 : Int32} {v5 : Int32} {v6 : Int32} {S0 S : HS} (h : P_X11_refusesTwo_0 Q v0 v1 v2 v3 v4 v5 v6 S) (K : K9 b L S0 S) : P_X11_refusesTwo_0 (fun r T => Q r T ∧ K9 b L S0 T) v0 v1 v2 v3 v4 v5 v6 S := by
  delta P_X11_refusesTwo_0 at h ⊢
  refine ⟨?_, ?_⟩
  · intro c1
    have h := h.1 c1
    exact ⟨h, K⟩
  · intro c2
    have h := h.2 c2
    obtain ⟨c3, h⟩ := h
    refine ⟨c3, ?_⟩
    refine cm_X11_isWalker (ky_X11_isWalker (b := b) hU (fun q hq => hL q ((by decide : ∀ q ∈ kyL_X11_isWalker, q ∈ kyL_X11_refusesTwo) q hq)) (fun z => z.elim) h) h (fun x4 x5 p8 h g6 g7 => ?_)
    have h := h g6 g7
    have K := k9_tr K p8.2
    refine ⟨?_, ?_⟩
    · intro c9
      have h := h.1 c9
      refine cm_X11_refuses (ky_X11_refuses (b := b) hU (fun q hq => hL q ((by decide : ∀ q ∈ kyL_X11_refuses, q ∈ kyL_X11_refusesTwo) q hq)) (fun z => z.elim) h) h (fun x10 x11 p13 h g12 => ?_)
      have h := h g12
      have K := k9_tr K p13.2
      refine ⟨?_, ?_⟩
      · intro c14
        have h := h.1 c14
        refine cm_X11_isSpeed (ky_X11_isSpeed (b := b) hU (fun q hq => hL q ((by decide : ∀ q ∈ kyL_X11_isSpeed, q ∈ kyL_X11_refusesTwo) q hq)) (fun z => z.elim) h) h (fun x15 x16 p19 h g17 g18 => ?_)
        have h := h g17 g18
        have K := k9_tr K p19.2
        refine ⟨?_, ?_⟩
        · intro c20
          have h := h.1 c20
          exact ⟨h, K⟩
        · intro c21
          have h := h.2 c21
          exact ⟨h, K⟩
      · intro c22
        have h := h.2 c22
        exact ⟨h, K⟩
    · intro c23
      have h := h.2 c23
      exact ⟨h, K⟩
theorem ky_X11_refusesTwo {b : Bool} {L : List (Nat × Nat)} (hU : ∀ q ∈ L, q ∈ nyT) (hL : ∀ q ∈ kyL_X11_refusesTwo, q ∈ L) (hb : False → b = false) {Q : Int32 → HS → Prop} {v0 : Nat} {v1 : Int32} {v2 : Int32} {v3 : Int32} {v4 : Int32} {v5 : Int32} {v6 : Int32} {S : HS} (h : P_X11_refusesTwo v0 v1 v2 v3 v4 v5 v6 Q S) : P_X11_refusesTwo v0 v1 v2 v3 v4 v5 v6 (fun r T => Q r T ∧ K9 b L S T) S := ky_X11_refusesTwo_0 hU hL hb h (k9_rf b L S)
abbrev kyL_X11_together : List (Nat × Nat) := []
set_option maxRecDepth 20000 in
set_option maxHeartbeats 1000000 in
theorem kyB_X11_together_6 {b : Bool} {L : List (Nat × Nat)} (hU : ∀ q ∈ L, q ∈ nyT) (hL : ∀ q ∈ kyL_X11_together, q ∈ L) (hb : False → b = false) {Q : Int64 → HS → Prop} {X6 X6_2 : Nat → Int32 → Int32 → Int32 → Int32 → Int32 → Int32 → Int64 → Int32 → HS → Prop} {v0 : Nat} {v1 : Int32} {v2 : Int32} {v3 : Int32} {v4 : Int32} {v5 : Int32} {v6 : Int32} {v7 : Int64} {v9 : Int32} {S0 S : HS} (h : B_X11_together_6 Q X6 v0 v1 v2 v3 v4 v5 v6 v7 v9 S) (K : K9 b L S0 S) (hX6 : ∀ (u0 : Nat) (u1 : Int32) (u2 : Int32) (u3 : Int32) (u4 : Int32) (u5 : Int32) (u6 : Int32) (u7 : Int64) (u8 : Int32) (u9 : HS), X6 u0 u1 u2 u3 u4 u5 u6 u7 u8 u9 → K9 b L S0 u9 → X6_2 u0 u1 u2 u3 u4 u5 u6 u7 u8 u9) : B_X11_together_6 (fun r T => Q r T ∧ K9 b L S0 T) X6_2 v0 v1 v2 v3 v4 v5 v6 v7 v9 S := by
  delta B_X11_together_6 at h ⊢
  refine ⟨?_, ?_⟩
  · intro c1
    have h := h.1 c1
    obtain ⟨c2, h⟩ := h
    refine ⟨c2, ?_⟩
    have o3 := c2
    obtain ⟨b4, e5, h⟩ := h
    refine ⟨b4, e5, ?_⟩
    obtain ⟨c6, h⟩ := h
    refine ⟨c6, ?_⟩
    have o7 := c6
    obtain ⟨b8, e9, h⟩ := h
    refine ⟨b8, e9, ?_⟩
    obtain ⟨c10, h⟩ := h
    refine ⟨c10, ?_⟩
    obtain ⟨c11, h⟩ := h
    refine ⟨c11, ?_⟩
    intro x13 e12
    have h := h x13 e12
    obtain ⟨b14, e15, h⟩ := h
    refine ⟨b14, e15, ?_⟩
    obtain ⟨c16, h⟩ := h
    refine ⟨c16, ?_⟩
    have o17 := c16
    obtain ⟨b18, e19, h⟩ := h
    refine ⟨b18, e19, ?_⟩
    obtain ⟨c20, h⟩ := h
    refine ⟨c20, ?_⟩
    obtain ⟨c21, h⟩ := h
    refine ⟨c21, ?_⟩
    intro x23 e22
    have h := h x23 e22
    obtain ⟨c24, h⟩ := h
    refine ⟨c24, ?_⟩
    intro x26 e25
    have h := h x26 e25
    exact ⟨h, K⟩
  · intro c27
    have h := h.2 c27
    obtain ⟨c28, h⟩ := h
    refine ⟨c28, ?_⟩
    have o29 := c28
    obtain ⟨b30, e31, h⟩ := h
    refine ⟨b30, e31, ?_⟩
    obtain ⟨c32, h⟩ := h
    refine ⟨c32, ?_⟩
    have o33 := c32
    obtain ⟨b34, e35, h⟩ := h
    refine ⟨b34, e35, ?_⟩
    obtain ⟨c36, h⟩ := h
    refine ⟨c36, ?_⟩
    obtain ⟨c37, h⟩ := h
    refine ⟨c37, ?_⟩
    intro x39 e38
    have h := h x39 e38
    refine cm_X11_inTime (ky_X11_inTime (b := b) hU (fun q hq => hL q ((by decide : ∀ q ∈ kyL_X11_inTime, q ∈ kyL_X11_together) q hq)) (fun z => z.elim) h) h (fun x40 x41 p43 h g42 => ?_)
    have h := h g42
    have K := k9_tr K p43.2
    have o29 := gr_ob p43.2.1 o29
    have o33 := gr_ob p43.2.1 o33
    intro x45 e44
    have h := h x45 e44
    obtain ⟨b46, e47, h⟩ := h
    refine ⟨b46, e47, ?_⟩
    obtain ⟨c48, h⟩ := h
    refine ⟨c48, ?_⟩
    have o49 := c48
    obtain ⟨b50, e51, h⟩ := h
    refine ⟨b50, e51, ?_⟩
    obtain ⟨c52, h⟩ := h
    refine ⟨c52, ?_⟩
    obtain ⟨c53, h⟩ := h
    refine ⟨c53, ?_⟩
    intro x55 e54
    have h := h x55 e54
    refine cm_X11_inTime (ky_X11_inTime (b := b) hU (fun q hq => hL q ((by decide : ∀ q ∈ kyL_X11_inTime, q ∈ kyL_X11_together) q hq)) (fun z => z.elim) h) h (fun x56 x57 p59 h g58 => ?_)
    have h := h g58
    have K := k9_tr K p59.2
    have o29 := gr_ob p59.2.1 o29
    have o33 := gr_ob p59.2.1 o33
    have o49 := gr_ob p59.2.1 o49
    intro x61 e60
    have h := h x61 e60
    intro x63 e62
    have h := h x63 e62
    exact hX6 _ _ _ _ _ _ _ _ _ _ h K
theorem ky_X11_together_6 {b : Bool} {L : List (Nat × Nat)} (hU : ∀ q ∈ L, q ∈ nyT) (hL : ∀ q ∈ kyL_X11_together, q ∈ L) (hb : False → b = false) {Q : Int64 → HS → Prop} {v0 : Nat} {v1 : Int32} {v2 : Int32} {v3 : Int32} {v4 : Int32} {v5 : Int32} {v6 : Int32} {v7 : Int64} {v9 : Int32} {S0 S : HS} (h : P_X11_together_6 Q v0 v1 v2 v3 v4 v5 v6 v7 v9 S) (K : K9 b L S0 S) : P_X11_together_6 (fun r T => Q r T ∧ K9 b L S0 T) v0 v1 v2 v3 v4 v5 v6 v7 v9 S := h (fun v0 v1 v2 v3 v4 v5 v6 v7 v9 S => K9 b L S0 S → P_X11_together_6 (fun r T => Q r T ∧ K9 b L S0 T) v0 v1 v2 v3 v4 v5 v6 v7 v9 S) (fun v0 v1 v2 v3 v4 v5 v6 v7 v9 S hB K => fd_X11_together_6 (kyB_X11_together_6 hU hL hb hB K (fun _ _ _ _ _ _ _ _ _ _ hx K => hx K))) K
set_option maxRecDepth 20000 in
set_option maxHeartbeats 1000000 in
theorem ky_X11_together_0 {b : Bool} {L : List (Nat × Nat)} (hU : ∀ q ∈ L, q ∈ nyT) (hL : ∀ q ∈ kyL_X11_together, q ∈ L) (hb : False → b = false) {Q : Int64 → HS → Prop} {v0 : Nat} {v1 : Int32} {v2 : Int32} {v3 : Int32} {v4 : Int32} {v5 : Int32} {v6 : Int32} {S0 S : HS} (h : P_X11_together_0 Q v0 v1 v2 v3 v4 v5 v6 S) (K : K9 b L S0 S) : P_X11_together_0 (fun r T => Q r T ∧ K9 b L S0 T) v0 v1 v2 v3 v4 v5 v6 S := by
  delta P_X11_together_0 at h ⊢
  exact ky_X11_together_6 hU hL hb h K
theorem ky_X11_together {b : Bool} {L : List (Nat × Nat)} (hU : ∀ q ∈ L, q ∈ nyT) (hL : ∀ q ∈ kyL_X11_together, q ∈ L) (hb : False → b = false) {Q : Int64 → HS → Prop} {v0 : Nat} {v1 : Int32} {v2 : Int32} {v3 : Int32} {v4 : Int32} {v5 : Int32} {v6 : Int32} {S : HS} (h : P_X11_together v0 v1 v2 v3 v4 v5 v6 Q S) : P_X11_together v0 v1 v2 v3 v4 v5 v6 (fun r T => Q r T ∧ K9 b L S T) S := ky_X11_together_0 hU hL hb h (k9_rf b L S)
abbrev kyL_X11_first : List (Nat × Nat) := []
set_option maxRecDepth 20000 in
set_option maxHeartbeats 1000000 in
theorem ky_X11_first_89 {b : Bool} {L : List (Nat × Nat)} (hU : ∀ q ∈ L, q ∈ nyT) (hL : ∀ q ∈ kyL_X11_first, q ∈ L) (hb : False → b = false) {Q : Int32 → HS → Prop} {s0 : Nat} {s1 : Int32} {S0 S : HS} (h : P_X11_first_89 Q s0 s1 S) (K : K9 b L S0 S) : P_X11_first_89 (fun r T => Q r T ∧ K9 b L S0 T) s0 s1 S := by
  delta P_X11_first_89 at h ⊢
  obtain ⟨c1, h⟩ := h
  refine ⟨c1, ?_⟩
  refine cm_X11_good (ky_X11_good (b := b) hU (fun q hq => hL q ((by decide : ∀ q ∈ kyL_X11_good, q ∈ kyL_X11_first) q hq)) (fun z => z.elim) h) h (fun x2 x3 p5 h g4 => ?_)
  have h := h g4
  have K := k9_tr K p5.2
  exact ⟨h, K⟩
set_option maxRecDepth 20000 in
set_option maxHeartbeats 1000000 in
theorem ky_X11_first_0 {b : Bool} {L : List (Nat × Nat)} (hU : ∀ q ∈ L, q ∈ nyT) (hL : ∀ q ∈ kyL_X11_first, q ∈ L) (hb : False → b = false) {Q : Int32 → HS → Prop} {v0 : Nat} {v1 : Int32} {v2 : Int32} {v3 : Int32} {v4 : Int32} {v5 : Int32} {v6 : Int32} {S0 S : HS} (h : P_X11_first_0 Q v0 v1 v2 v3 v4 v5 v6 S) (K : K9 b L S0 S) : P_X11_first_0 (fun r T => Q r T ∧ K9 b L S0 T) v0 v1 v2 v3 v4 v5 v6 S := by
  delta P_X11_first_0 at h ⊢
  obtain ⟨c1, h⟩ := h
  refine ⟨c1, ?_⟩
  intro x3 e2
  have h := h x3 e2
  have K := k9_I K e2
  refine cm_X11_refusesTwo (ky_X11_refusesTwo (b := b) hU (fun q hq => hL q ((by decide : ∀ q ∈ kyL_X11_refusesTwo, q ∈ kyL_X11_first) q hq)) (fun z => z.elim) h) h (fun x4 x5 p7 h g6 => ?_)
  have h := h g6
  have K := k9_tr K p7.2
  refine ⟨?_, ?_⟩
  · intro c8
    have h := h.1 c8
    refine cm_X11_together (ky_X11_together (b := b) hU (fun q hq => hL q ((by decide : ∀ q ∈ kyL_X11_together, q ∈ kyL_X11_first) q hq)) (fun z => z.elim) h) h (fun x9 x10 p12 h g11 => ?_)
    have h := h g11
    have K := k9_tr K p12.2
    refine cm_X11_together (ky_X11_together (b := b) hU (fun q hq => hL q ((by decide : ∀ q ∈ kyL_X11_together, q ∈ kyL_X11_first) q hq)) (fun z => z.elim) h) h (fun x13 x14 p16 h g15 => ?_)
    have h := h g15
    have K := k9_tr K p16.2
    refine ⟨?_, ?_⟩
    · intro c17
      have h := h.1 c17
      refine ⟨?_, ?_⟩
      · intro c18
        have h := h.1 c18
        exact ky_X11_first_89 hU hL hb h K
      · intro c19
        have h := h.2 c19
        exact ky_X11_first_89 hU hL hb h K
    · intro c20
      have h := h.2 c20
      exact ky_X11_first_89 hU hL hb h K
  · intro c21
    have h := h.2 c21
    refine cm_X11_refused (ky_X11_refused (b := b) hU (fun q hq => hL q ((by decide : ∀ q ∈ kyL_X11_refused, q ∈ kyL_X11_first) q hq)) (fun z => z.elim) h) h (fun x22 x23 p25 h g24 => ?_)
    have h := h g24
    have K := k9_tr K p25.2
    exact ⟨h, K⟩
theorem ky_X11_first {b : Bool} {L : List (Nat × Nat)} (hU : ∀ q ∈ L, q ∈ nyT) (hL : ∀ q ∈ kyL_X11_first, q ∈ L) (hb : False → b = false) {Q : Int32 → HS → Prop} {v0 : Nat} {v1 : Int32} {v2 : Int32} {v3 : Int32} {v4 : Int32} {v5 : Int32} {v6 : Int32} {S : HS} (h : P_X11_first v0 v1 v2 v3 v4 v5 v6 Q S) : P_X11_first v0 v1 v2 v3 v4 v5 v6 (fun r T => Q r T ∧ K9 b L S T) S := ky_X11_first_0 hU hL hb h (k9_rf b L S)
abbrev kyL_X11_fitOf : List (Nat × Nat) := []
set_option maxRecDepth 20000 in
set_option maxHeartbeats 1000000 in
theorem ky_X11_fitOf_137 {b : Bool} {L : List (Nat × Nat)} (hU : ∀ q ∈ L, q ∈ nyT) (hL : ∀ q ∈ kyL_X11_fitOf, q ∈ L) (hb : False → b = false) {Q : Int32 → HS → Prop} {X16 X16_2 : Nat → Int32 → Int32 → Int32 → Int32 → Int32 → HS → Prop} {X31 X31_2 : Nat → Int32 → Int32 → Int32 → Int32 → Int32 → Int32 → HS → Prop} {X40 X40_2 : Nat → Int32 → Int32 → Int32 → Int32 → Int32 → Int32 → Int32 → HS → Prop} {X63 X63_2 : Nat → Int32 → Int32 → Int32 → Int32 → Int32 → Int32 → Int32 → Int32 → HS → Prop} {X83 X83_2 : Nat → Int32 → Int32 → Int32 → Int32 → Int32 → Int32 → Int32 → Int32 → Int32 → Int32 → HS → Prop} {v0 : Nat} {v1 : Int32} {v2 : Int32} {v3 : Int32} {v4 : Int32} {v5 : Int32} {v6 : Int32} {v7 : Int32} {v8 : Int32} {v10 : Int32} {s0 : Int32} {S0 S : HS} (h : P_X11_fitOf_137 Q X16 X31 X40 X63 X83 v0 v1 v2 v3 v4 v5 v6 v7 v8 v10 s0 S) (K : K9 b L S0 S) (hX16 : ∀ (u0 : Nat) (u1 : Int32) (u2 : Int32) (u3 : Int32) (u4 : Int32) (u5 : Int32) (u6 : HS), X16 u0 u1 u2 u3 u4 u5 u6 → K9 b L S0 u6 → X16_2 u0 u1 u2 u3 u4 u5 u6) (hX31 : ∀ (u0 : Nat) (u1 : Int32) (u2 : Int32) (u3 : Int32) (u4 : Int32) (u5 : Int32) (u6 : Int32) (u7 : HS), X31 u0 u1 u2 u3 u4 u5 u6 u7 → K9 b L S0 u7 → X31_2 u0 u1 u2 u3 u4 u5 u6 u7) (hX40 : ∀ (u0 : Nat) (u1 : Int32) (u2 : Int32) (u3 : Int32) (u4 : Int32) (u5 : Int32) (u6 : Int32) (u7 : Int32) (u8 : HS), X40 u0 u1 u2 u3 u4 u5 u6 u7 u8 → K9 b L S0 u8 → X40_2 u0 u1 u2 u3 u4 u5 u6 u7 u8) (hX63 : ∀ (u0 : Nat) (u1 : Int32) (u2 : Int32) (u3 : Int32) (u4 : Int32) (u5 : Int32) (u6 : Int32) (u7 : Int32) (u8 : Int32) (u9 : HS), X63 u0 u1 u2 u3 u4 u5 u6 u7 u8 u9 → K9 b L S0 u9 → X63_2 u0 u1 u2 u3 u4 u5 u6 u7 u8 u9) (hX83 : ∀ (u0 : Nat) (u1 : Int32) (u2 : Int32) (u3 : Int32) (u4 : Int32) (u5 : Int32) (u6 : Int32) (u7 : Int32) (u8 : Int32) (u9 : Int32) (u10 : Int32) (u11 : HS), X83 u0 u1 u2 u3 u4 u5 u6 u7 u8 u9 u10 u11 → K9 b L S0 u11 → X83_2 u0 u1 u2 u3 u4 u5 u6 u7 u8 u9 u10 u11) : P_X11_fitOf_137 (fun r T => Q r T ∧ K9 b L S0 T) X16_2 X31_2 X40_2 X63_2 X83_2 v0 v1 v2 v3 v4 v5 v6 v7 v8 v10 s0 S := by
  delta P_X11_fitOf_137 at h ⊢
  intro x2 e1
  have h := h x2 e1
  exact hX83 _ _ _ _ _ _ _ _ _ _ _ _ h K
set_option maxRecDepth 20000 in
set_option maxHeartbeats 1000000 in
theorem ky_X11_fitOf_136 {b : Bool} {L : List (Nat × Nat)} (hU : ∀ q ∈ L, q ∈ nyT) (hL : ∀ q ∈ kyL_X11_fitOf, q ∈ L) (hb : False → b = false) {Q : Int32 → HS → Prop} {X16 X16_2 : Nat → Int32 → Int32 → Int32 → Int32 → Int32 → HS → Prop} {X31 X31_2 : Nat → Int32 → Int32 → Int32 → Int32 → Int32 → Int32 → HS → Prop} {X40 X40_2 : Nat → Int32 → Int32 → Int32 → Int32 → Int32 → Int32 → Int32 → HS → Prop} {X63 X63_2 : Nat → Int32 → Int32 → Int32 → Int32 → Int32 → Int32 → Int32 → Int32 → HS → Prop} {X83 X83_2 : Nat → Int32 → Int32 → Int32 → Int32 → Int32 → Int32 → Int32 → Int32 → Int32 → Int32 → HS → Prop} {v0 : Nat} {v1 : Int32} {v2 : Int32} {v3 : Int32} {v4 : Int32} {v5 : Int32} {v6 : Int32} {v7 : Int32} {v8 : Int32} {v10 : Int32} {S0 S : HS} (h : P_X11_fitOf_136 Q X16 X31 X40 X63 X83 v0 v1 v2 v3 v4 v5 v6 v7 v8 v10 S) (K : K9 b L S0 S) (hX16 : ∀ (u0 : Nat) (u1 : Int32) (u2 : Int32) (u3 : Int32) (u4 : Int32) (u5 : Int32) (u6 : HS), X16 u0 u1 u2 u3 u4 u5 u6 → K9 b L S0 u6 → X16_2 u0 u1 u2 u3 u4 u5 u6) (hX31 : ∀ (u0 : Nat) (u1 : Int32) (u2 : Int32) (u3 : Int32) (u4 : Int32) (u5 : Int32) (u6 : Int32) (u7 : HS), X31 u0 u1 u2 u3 u4 u5 u6 u7 → K9 b L S0 u7 → X31_2 u0 u1 u2 u3 u4 u5 u6 u7) (hX40 : ∀ (u0 : Nat) (u1 : Int32) (u2 : Int32) (u3 : Int32) (u4 : Int32) (u5 : Int32) (u6 : Int32) (u7 : Int32) (u8 : HS), X40 u0 u1 u2 u3 u4 u5 u6 u7 u8 → K9 b L S0 u8 → X40_2 u0 u1 u2 u3 u4 u5 u6 u7 u8) (hX63 : ∀ (u0 : Nat) (u1 : Int32) (u2 : Int32) (u3 : Int32) (u4 : Int32) (u5 : Int32) (u6 : Int32) (u7 : Int32) (u8 : Int32) (u9 : HS), X63 u0 u1 u2 u3 u4 u5 u6 u7 u8 u9 → K9 b L S0 u9 → X63_2 u0 u1 u2 u3 u4 u5 u6 u7 u8 u9) (hX83 : ∀ (u0 : Nat) (u1 : Int32) (u2 : Int32) (u3 : Int32) (u4 : Int32) (u5 : Int32) (u6 : Int32) (u7 : Int32) (u8 : Int32) (u9 : Int32) (u10 : Int32) (u11 : HS), X83 u0 u1 u2 u3 u4 u5 u6 u7 u8 u9 u10 u11 → K9 b L S0 u11 → X83_2 u0 u1 u2 u3 u4 u5 u6 u7 u8 u9 u10 u11) : P_X11_fitOf_136 (fun r T => Q r T ∧ K9 b L S0 T) X16_2 X31_2 X40_2 X63_2 X83_2 v0 v1 v2 v3 v4 v5 v6 v7 v8 v10 S := by
  delta P_X11_fitOf_136 at h ⊢
  exact ky_X11_fitOf_137 hU hL hb h K hX16 hX31 hX40 hX63 hX83
set_option maxRecDepth 20000 in
set_option maxHeartbeats 1000000 in
theorem ky_X11_fitOf_184 {b : Bool} {L : List (Nat × Nat)} (hU : ∀ q ∈ L, q ∈ nyT) (hL : ∀ q ∈ kyL_X11_fitOf, q ∈ L) (hb : False → b = false) {Q : Int32 → HS → Prop} {X16 X16_2 : Nat → Int32 → Int32 → Int32 → Int32 → Int32 → HS → Prop} {X31 X31_2 : Nat → Int32 → Int32 → Int32 → Int32 → Int32 → Int32 → HS → Prop} {X40 X40_2 : Nat → Int32 → Int32 → Int32 → Int32 → Int32 → Int32 → Int32 → HS → Prop} {X63 X63_2 : Nat → Int32 → Int32 → Int32 → Int32 → Int32 → Int32 → Int32 → Int32 → HS → Prop} {v0 : Nat} {v1 : Int32} {v2 : Int32} {v3 : Int32} {v4 : Int32} {v5 : Int32} {v6 : Int32} {v7 : Int32} {v8 : Int32} {S0 S : HS} (h : P_X11_fitOf_184 Q X16 X31 X40 X63 v0 v1 v2 v3 v4 v5 v6 v7 v8 S) (K : K9 b L S0 S) (hX16 : ∀ (u0 : Nat) (u1 : Int32) (u2 : Int32) (u3 : Int32) (u4 : Int32) (u5 : Int32) (u6 : HS), X16 u0 u1 u2 u3 u4 u5 u6 → K9 b L S0 u6 → X16_2 u0 u1 u2 u3 u4 u5 u6) (hX31 : ∀ (u0 : Nat) (u1 : Int32) (u2 : Int32) (u3 : Int32) (u4 : Int32) (u5 : Int32) (u6 : Int32) (u7 : HS), X31 u0 u1 u2 u3 u4 u5 u6 u7 → K9 b L S0 u7 → X31_2 u0 u1 u2 u3 u4 u5 u6 u7) (hX40 : ∀ (u0 : Nat) (u1 : Int32) (u2 : Int32) (u3 : Int32) (u4 : Int32) (u5 : Int32) (u6 : Int32) (u7 : Int32) (u8 : HS), X40 u0 u1 u2 u3 u4 u5 u6 u7 u8 → K9 b L S0 u8 → X40_2 u0 u1 u2 u3 u4 u5 u6 u7 u8) (hX63 : ∀ (u0 : Nat) (u1 : Int32) (u2 : Int32) (u3 : Int32) (u4 : Int32) (u5 : Int32) (u6 : Int32) (u7 : Int32) (u8 : Int32) (u9 : HS), X63 u0 u1 u2 u3 u4 u5 u6 u7 u8 u9 → K9 b L S0 u9 → X63_2 u0 u1 u2 u3 u4 u5 u6 u7 u8 u9) : P_X11_fitOf_184 (fun r T => Q r T ∧ K9 b L S0 T) X16_2 X31_2 X40_2 X63_2 v0 v1 v2 v3 v4 v5 v6 v7 v8 S := by
  delta P_X11_fitOf_184 at h ⊢
  intro x2 e1
  have h := h x2 e1
  exact hX63 _ _ _ _ _ _ _ _ _ _ h K
set_option maxRecDepth 20000 in
set_option maxHeartbeats 1000000 in
theorem kyB_X11_fitOf_83 {b : Bool} {L : List (Nat × Nat)} (hU : ∀ q ∈ L, q ∈ nyT) (hL : ∀ q ∈ kyL_X11_fitOf, q ∈ L) (hb : False → b = false) {Q : Int32 → HS → Prop} {X16 X16_2 : Nat → Int32 → Int32 → Int32 → Int32 → Int32 → HS → Prop} {X31 X31_2 : Nat → Int32 → Int32 → Int32 → Int32 → Int32 → Int32 → HS → Prop} {X40 X40_2 : Nat → Int32 → Int32 → Int32 → Int32 → Int32 → Int32 → Int32 → HS → Prop} {X63 X63_2 : Nat → Int32 → Int32 → Int32 → Int32 → Int32 → Int32 → Int32 → Int32 → HS → Prop} {X83 X83_2 : Nat → Int32 → Int32 → Int32 → Int32 → Int32 → Int32 → Int32 → Int32 → Int32 → Int32 → HS → Prop} {v0 : Nat} {v1 : Int32} {v2 : Int32} {v3 : Int32} {v4 : Int32} {v5 : Int32} {v6 : Int32} {v7 : Int32} {v8 : Int32} {v9 : Int32} {v10 : Int32} {S0 S : HS} (h : B_X11_fitOf_83 Q X16 X31 X40 X63 X83 v0 v1 v2 v3 v4 v5 v6 v7 v8 v9 v10 S) (K : K9 b L S0 S) (hX16 : ∀ (u0 : Nat) (u1 : Int32) (u2 : Int32) (u3 : Int32) (u4 : Int32) (u5 : Int32) (u6 : HS), X16 u0 u1 u2 u3 u4 u5 u6 → K9 b L S0 u6 → X16_2 u0 u1 u2 u3 u4 u5 u6) (hX31 : ∀ (u0 : Nat) (u1 : Int32) (u2 : Int32) (u3 : Int32) (u4 : Int32) (u5 : Int32) (u6 : Int32) (u7 : HS), X31 u0 u1 u2 u3 u4 u5 u6 u7 → K9 b L S0 u7 → X31_2 u0 u1 u2 u3 u4 u5 u6 u7) (hX40 : ∀ (u0 : Nat) (u1 : Int32) (u2 : Int32) (u3 : Int32) (u4 : Int32) (u5 : Int32) (u6 : Int32) (u7 : Int32) (u8 : HS), X40 u0 u1 u2 u3 u4 u5 u6 u7 u8 → K9 b L S0 u8 → X40_2 u0 u1 u2 u3 u4 u5 u6 u7 u8) (hX63 : ∀ (u0 : Nat) (u1 : Int32) (u2 : Int32) (u3 : Int32) (u4 : Int32) (u5 : Int32) (u6 : Int32) (u7 : Int32) (u8 : Int32) (u9 : HS), X63 u0 u1 u2 u3 u4 u5 u6 u7 u8 u9 → K9 b L S0 u9 → X63_2 u0 u1 u2 u3 u4 u5 u6 u7 u8 u9) (hX83 : ∀ (u0 : Nat) (u1 : Int32) (u2 : Int32) (u3 : Int32) (u4 : Int32) (u5 : Int32) (u6 : Int32) (u7 : Int32) (u8 : Int32) (u9 : Int32) (u10 : Int32) (u11 : HS), X83 u0 u1 u2 u3 u4 u5 u6 u7 u8 u9 u10 u11 → K9 b L S0 u11 → X83_2 u0 u1 u2 u3 u4 u5 u6 u7 u8 u9 u10 u11) : B_X11_fitOf_83 (fun r T => Q r T ∧ K9 b L S0 T) X16_2 X31_2 X40_2 X63_2 X83_2 v0 v1 v2 v3 v4 v5 v6 v7 v8 v9 v10 S := by
  delta B_X11_fitOf_83 at h ⊢
  refine ⟨?_, ?_⟩
  · intro c1
    have h := h.1 c1
    refine ⟨?_, ?_⟩
    · intro c2
      have h := h.1 c2
      refine ⟨?_, ?_⟩
      · intro c3
        have h := h.1 c3
        intro x5 e4
        have h := h x5 e4
        exact ky_X11_fitOf_184 hU hL hb h K hX16 hX31 hX40 hX63
      · intro c6
        have h := h.2 c6
        exact ⟨h, K⟩
    · intro c7
      have h := h.2 c7
      exact ky_X11_fitOf_184 hU hL hb h K hX16 hX31 hX40 hX63
  · intro c8
    have h := h.2 c8
    refine ⟨?_, ?_⟩
    · intro c9
      have h := h.1 c9
      exact ky_X11_fitOf_136 hU hL hb h K hX16 hX31 hX40 hX63 hX83
    · intro c10
      have h := h.2 c10
      obtain ⟨c11, h⟩ := h
      refine ⟨c11, ?_⟩
      have o12 := c11
      refine cm_X11_partsOf (ky_X11_partsOf (b := b) hU (fun q hq => hL q ((by decide : ∀ q ∈ kyL_X11_partsOf, q ∈ kyL_X11_fitOf) q hq)) (fun z => z.elim) h) h (fun x13 x14 p16 h g15 => ?_)
      have h := h g15
      have K := k9_tr K p16.2
      have o12 := gr_ob p16.2.1 o12
      obtain ⟨b17, e18, h⟩ := h
      refine ⟨b17, e18, ?_⟩
      obtain ⟨c19, h⟩ := h
      refine ⟨c19, ?_⟩
      have o20 := c19
      obtain ⟨b21, e22, h⟩ := h
      refine ⟨b21, e22, ?_⟩
      obtain ⟨c23, h⟩ := h
      refine ⟨c23, ?_⟩
      intro x25 e24
      have h := h x25 e24
      obtain ⟨c26, h⟩ := h
      refine ⟨c26, ?_⟩
      intro x28 e27
      have h := h x28 e27
      refine ⟨?_, ?_⟩
      · intro c29
        have h := h.1 c29
        exact ky_X11_fitOf_136 hU hL hb h K hX16 hX31 hX40 hX63 hX83
      · intro c30
        have h := h.2 c30
        exact ky_X11_fitOf_137 hU hL hb h K hX16 hX31 hX40 hX63 hX83
theorem ky_X11_fitOf_83 {b : Bool} {L : List (Nat × Nat)} (hU : ∀ q ∈ L, q ∈ nyT) (hL : ∀ q ∈ kyL_X11_fitOf, q ∈ L) (hb : False → b = false) {Q : Int32 → HS → Prop} {X16 X16_2 : Nat → Int32 → Int32 → Int32 → Int32 → Int32 → HS → Prop} {X31 X31_2 : Nat → Int32 → Int32 → Int32 → Int32 → Int32 → Int32 → HS → Prop} {X40 X40_2 : Nat → Int32 → Int32 → Int32 → Int32 → Int32 → Int32 → Int32 → HS → Prop} {X63 X63_2 : Nat → Int32 → Int32 → Int32 → Int32 → Int32 → Int32 → Int32 → Int32 → HS → Prop} {v0 : Nat} {v1 : Int32} {v2 : Int32} {v3 : Int32} {v4 : Int32} {v5 : Int32} {v6 : Int32} {v7 : Int32} {v8 : Int32} {v9 : Int32} {v10 : Int32} {S0 S : HS} (h : P_X11_fitOf_83 Q X16 X31 X40 X63 v0 v1 v2 v3 v4 v5 v6 v7 v8 v9 v10 S) (K : K9 b L S0 S) (hX16 : ∀ (u0 : Nat) (u1 : Int32) (u2 : Int32) (u3 : Int32) (u4 : Int32) (u5 : Int32) (u6 : HS), X16 u0 u1 u2 u3 u4 u5 u6 → K9 b L S0 u6 → X16_2 u0 u1 u2 u3 u4 u5 u6) (hX31 : ∀ (u0 : Nat) (u1 : Int32) (u2 : Int32) (u3 : Int32) (u4 : Int32) (u5 : Int32) (u6 : Int32) (u7 : HS), X31 u0 u1 u2 u3 u4 u5 u6 u7 → K9 b L S0 u7 → X31_2 u0 u1 u2 u3 u4 u5 u6 u7) (hX40 : ∀ (u0 : Nat) (u1 : Int32) (u2 : Int32) (u3 : Int32) (u4 : Int32) (u5 : Int32) (u6 : Int32) (u7 : Int32) (u8 : HS), X40 u0 u1 u2 u3 u4 u5 u6 u7 u8 → K9 b L S0 u8 → X40_2 u0 u1 u2 u3 u4 u5 u6 u7 u8) (hX63 : ∀ (u0 : Nat) (u1 : Int32) (u2 : Int32) (u3 : Int32) (u4 : Int32) (u5 : Int32) (u6 : Int32) (u7 : Int32) (u8 : Int32) (u9 : HS), X63 u0 u1 u2 u3 u4 u5 u6 u7 u8 u9 → K9 b L S0 u9 → X63_2 u0 u1 u2 u3 u4 u5 u6 u7 u8 u9) : P_X11_fitOf_83 (fun r T => Q r T ∧ K9 b L S0 T) X16_2 X31_2 X40_2 X63_2 v0 v1 v2 v3 v4 v5 v6 v7 v8 v9 v10 S := h (fun v0 v1 v2 v3 v4 v5 v6 v7 v8 v9 v10 S => K9 b L S0 S → P_X11_fitOf_83 (fun r T => Q r T ∧ K9 b L S0 T) X16_2 X31_2 X40_2 X63_2 v0 v1 v2 v3 v4 v5 v6 v7 v8 v9 v10 S) (fun v0 v1 v2 v3 v4 v5 v6 v7 v8 v9 v10 S hB K => fd_X11_fitOf_83 (kyB_X11_fitOf_83 hU hL hb hB K hX16 hX31 hX40 hX63 (fun _ _ _ _ _ _ _ _ _ _ _ _ hx K => hx K))) K
set_option maxRecDepth 20000 in
set_option maxHeartbeats 1000000 in
theorem kyB_X11_fitOf_63 {b : Bool} {L : List (Nat × Nat)} (hU : ∀ q ∈ L, q ∈ nyT) (hL : ∀ q ∈ kyL_X11_fitOf, q ∈ L) (hb : False → b = false) {Q : Int32 → HS → Prop} {X16 X16_2 : Nat → Int32 → Int32 → Int32 → Int32 → Int32 → HS → Prop} {X31 X31_2 : Nat → Int32 → Int32 → Int32 → Int32 → Int32 → Int32 → HS → Prop} {X40 X40_2 : Nat → Int32 → Int32 → Int32 → Int32 → Int32 → Int32 → Int32 → HS → Prop} {X63 X63_2 : Nat → Int32 → Int32 → Int32 → Int32 → Int32 → Int32 → Int32 → Int32 → HS → Prop} {v0 : Nat} {v1 : Int32} {v2 : Int32} {v3 : Int32} {v4 : Int32} {v5 : Int32} {v6 : Int32} {v7 : Int32} {v8 : Int32} {S0 S : HS} (h : B_X11_fitOf_63 Q X16 X31 X40 X63 v0 v1 v2 v3 v4 v5 v6 v7 v8 S) (K : K9 b L S0 S) (hX16 : ∀ (u0 : Nat) (u1 : Int32) (u2 : Int32) (u3 : Int32) (u4 : Int32) (u5 : Int32) (u6 : HS), X16 u0 u1 u2 u3 u4 u5 u6 → K9 b L S0 u6 → X16_2 u0 u1 u2 u3 u4 u5 u6) (hX31 : ∀ (u0 : Nat) (u1 : Int32) (u2 : Int32) (u3 : Int32) (u4 : Int32) (u5 : Int32) (u6 : Int32) (u7 : HS), X31 u0 u1 u2 u3 u4 u5 u6 u7 → K9 b L S0 u7 → X31_2 u0 u1 u2 u3 u4 u5 u6 u7) (hX40 : ∀ (u0 : Nat) (u1 : Int32) (u2 : Int32) (u3 : Int32) (u4 : Int32) (u5 : Int32) (u6 : Int32) (u7 : Int32) (u8 : HS), X40 u0 u1 u2 u3 u4 u5 u6 u7 u8 → K9 b L S0 u8 → X40_2 u0 u1 u2 u3 u4 u5 u6 u7 u8) (hX63 : ∀ (u0 : Nat) (u1 : Int32) (u2 : Int32) (u3 : Int32) (u4 : Int32) (u5 : Int32) (u6 : Int32) (u7 : Int32) (u8 : Int32) (u9 : HS), X63 u0 u1 u2 u3 u4 u5 u6 u7 u8 u9 → K9 b L S0 u9 → X63_2 u0 u1 u2 u3 u4 u5 u6 u7 u8 u9) : B_X11_fitOf_63 (fun r T => Q r T ∧ K9 b L S0 T) X16_2 X31_2 X40_2 X63_2 v0 v1 v2 v3 v4 v5 v6 v7 v8 S := by
  delta B_X11_fitOf_63 at h ⊢
  obtain ⟨c1, h⟩ := h
  refine ⟨c1, ?_⟩
  have o2 := c1
  obtain ⟨b3, e4, h⟩ := h
  refine ⟨b3, e4, ?_⟩
  obtain ⟨c5, h⟩ := h
  refine ⟨c5, ?_⟩
  have o6 := c5
  obtain ⟨b7, e8, h⟩ := h
  refine ⟨b7, e8, ?_⟩
  obtain ⟨c9, h⟩ := h
  refine ⟨c9, ?_⟩
  obtain ⟨c10, h⟩ := h
  refine ⟨c10, ?_⟩
  intro x12 e11
  have h := h x12 e11
  refine ⟨?_, ?_⟩
  · intro c13
    have h := h.1 c13
    intro x15 e14
    have h := h x15 e14
    exact hX40 _ _ _ _ _ _ _ _ _ h K
  · intro c16
    have h := h.2 c16
    exact ky_X11_fitOf_83 hU hL hb h K hX16 hX31 hX40 hX63
theorem ky_X11_fitOf_63 {b : Bool} {L : List (Nat × Nat)} (hU : ∀ q ∈ L, q ∈ nyT) (hL : ∀ q ∈ kyL_X11_fitOf, q ∈ L) (hb : False → b = false) {Q : Int32 → HS → Prop} {X16 X16_2 : Nat → Int32 → Int32 → Int32 → Int32 → Int32 → HS → Prop} {X31 X31_2 : Nat → Int32 → Int32 → Int32 → Int32 → Int32 → Int32 → HS → Prop} {X40 X40_2 : Nat → Int32 → Int32 → Int32 → Int32 → Int32 → Int32 → Int32 → HS → Prop} {v0 : Nat} {v1 : Int32} {v2 : Int32} {v3 : Int32} {v4 : Int32} {v5 : Int32} {v6 : Int32} {v7 : Int32} {v8 : Int32} {S0 S : HS} (h : P_X11_fitOf_63 Q X16 X31 X40 v0 v1 v2 v3 v4 v5 v6 v7 v8 S) (K : K9 b L S0 S) (hX16 : ∀ (u0 : Nat) (u1 : Int32) (u2 : Int32) (u3 : Int32) (u4 : Int32) (u5 : Int32) (u6 : HS), X16 u0 u1 u2 u3 u4 u5 u6 → K9 b L S0 u6 → X16_2 u0 u1 u2 u3 u4 u5 u6) (hX31 : ∀ (u0 : Nat) (u1 : Int32) (u2 : Int32) (u3 : Int32) (u4 : Int32) (u5 : Int32) (u6 : Int32) (u7 : HS), X31 u0 u1 u2 u3 u4 u5 u6 u7 → K9 b L S0 u7 → X31_2 u0 u1 u2 u3 u4 u5 u6 u7) (hX40 : ∀ (u0 : Nat) (u1 : Int32) (u2 : Int32) (u3 : Int32) (u4 : Int32) (u5 : Int32) (u6 : Int32) (u7 : Int32) (u8 : HS), X40 u0 u1 u2 u3 u4 u5 u6 u7 u8 → K9 b L S0 u8 → X40_2 u0 u1 u2 u3 u4 u5 u6 u7 u8) : P_X11_fitOf_63 (fun r T => Q r T ∧ K9 b L S0 T) X16_2 X31_2 X40_2 v0 v1 v2 v3 v4 v5 v6 v7 v8 S := h (fun v0 v1 v2 v3 v4 v5 v6 v7 v8 S => K9 b L S0 S → P_X11_fitOf_63 (fun r T => Q r T ∧ K9 b L S0 T) X16_2 X31_2 X40_2 v0 v1 v2 v3 v4 v5 v6 v7 v8 S) (fun v0 v1 v2 v3 v4 v5 v6 v7 v8 S hB K => fd_X11_fitOf_63 (kyB_X11_fitOf_63 hU hL hb hB K hX16 hX31 hX40 (fun _ _ _ _ _ _ _ _ _ _ hx K => hx K))) K
set_option maxRecDepth 20000 in
set_option maxHeartbeats 1000000 in
theorem kyB_X11_fitOf_40 {b : Bool} {L : List (Nat × Nat)} (hU : ∀ q ∈ L, q ∈ nyT) (hL : ∀ q ∈ kyL_X11_fitOf, q ∈ L) (hb : False → b = false) {Q : Int32 → HS → Prop} {X16 X16_2 : Nat → Int32 → Int32 → Int32 → Int32 → Int32 → HS → Prop} {X31 X31_2 : Nat → Int32 → Int32 → Int32 → Int32 → Int32 → Int32 → HS → Prop} {X40 X40_2 : Nat → Int32 → Int32 → Int32 → Int32 → Int32 → Int32 → Int32 → HS → Prop} {v0 : Nat} {v1 : Int32} {v2 : Int32} {v3 : Int32} {v4 : Int32} {v5 : Int32} {v6 : Int32} {v7 : Int32} {S0 S : HS} (h : B_X11_fitOf_40 Q X16 X31 X40 v0 v1 v2 v3 v4 v5 v6 v7 S) (K : K9 b L S0 S) (hX16 : ∀ (u0 : Nat) (u1 : Int32) (u2 : Int32) (u3 : Int32) (u4 : Int32) (u5 : Int32) (u6 : HS), X16 u0 u1 u2 u3 u4 u5 u6 → K9 b L S0 u6 → X16_2 u0 u1 u2 u3 u4 u5 u6) (hX31 : ∀ (u0 : Nat) (u1 : Int32) (u2 : Int32) (u3 : Int32) (u4 : Int32) (u5 : Int32) (u6 : Int32) (u7 : HS), X31 u0 u1 u2 u3 u4 u5 u6 u7 → K9 b L S0 u7 → X31_2 u0 u1 u2 u3 u4 u5 u6 u7) (hX40 : ∀ (u0 : Nat) (u1 : Int32) (u2 : Int32) (u3 : Int32) (u4 : Int32) (u5 : Int32) (u6 : Int32) (u7 : Int32) (u8 : HS), X40 u0 u1 u2 u3 u4 u5 u6 u7 u8 → K9 b L S0 u8 → X40_2 u0 u1 u2 u3 u4 u5 u6 u7 u8) : B_X11_fitOf_40 (fun r T => Q r T ∧ K9 b L S0 T) X16_2 X31_2 X40_2 v0 v1 v2 v3 v4 v5 v6 v7 S := by
  delta B_X11_fitOf_40 at h ⊢
  obtain ⟨c1, h⟩ := h
  refine ⟨c1, ?_⟩
  have o2 := c1
  obtain ⟨b3, e4, h⟩ := h
  refine ⟨b3, e4, ?_⟩
  obtain ⟨c5, h⟩ := h
  refine ⟨c5, ?_⟩
  intro x7 e6
  have h := h x7 e6
  refine ⟨?_, ?_⟩
  · intro c8
    have h := h.1 c8
    intro x10 e9
    have h := h x10 e9
    exact hX31 _ _ _ _ _ _ _ _ h K
  · intro c11
    have h := h.2 c11
    obtain ⟨b12, e13, h⟩ := h
    refine ⟨b12, e13, ?_⟩
    obtain ⟨c14, h⟩ := h
    refine ⟨c14, ?_⟩
    have o15 := c14
    obtain ⟨b16, e17, h⟩ := h
    refine ⟨b16, e17, ?_⟩
    obtain ⟨c18, h⟩ := h
    refine ⟨c18, ?_⟩
    obtain ⟨c19, h⟩ := h
    refine ⟨c19, ?_⟩
    intro x21 e20
    have h := h x21 e20
    exact ky_X11_fitOf_63 hU hL hb h K hX16 hX31 hX40
theorem ky_X11_fitOf_40 {b : Bool} {L : List (Nat × Nat)} (hU : ∀ q ∈ L, q ∈ nyT) (hL : ∀ q ∈ kyL_X11_fitOf, q ∈ L) (hb : False → b = false) {Q : Int32 → HS → Prop} {X16 X16_2 : Nat → Int32 → Int32 → Int32 → Int32 → Int32 → HS → Prop} {X31 X31_2 : Nat → Int32 → Int32 → Int32 → Int32 → Int32 → Int32 → HS → Prop} {v0 : Nat} {v1 : Int32} {v2 : Int32} {v3 : Int32} {v4 : Int32} {v5 : Int32} {v6 : Int32} {v7 : Int32} {S0 S : HS} (h : P_X11_fitOf_40 Q X16 X31 v0 v1 v2 v3 v4 v5 v6 v7 S) (K : K9 b L S0 S) (hX16 : ∀ (u0 : Nat) (u1 : Int32) (u2 : Int32) (u3 : Int32) (u4 : Int32) (u5 : Int32) (u6 : HS), X16 u0 u1 u2 u3 u4 u5 u6 → K9 b L S0 u6 → X16_2 u0 u1 u2 u3 u4 u5 u6) (hX31 : ∀ (u0 : Nat) (u1 : Int32) (u2 : Int32) (u3 : Int32) (u4 : Int32) (u5 : Int32) (u6 : Int32) (u7 : HS), X31 u0 u1 u2 u3 u4 u5 u6 u7 → K9 b L S0 u7 → X31_2 u0 u1 u2 u3 u4 u5 u6 u7) : P_X11_fitOf_40 (fun r T => Q r T ∧ K9 b L S0 T) X16_2 X31_2 v0 v1 v2 v3 v4 v5 v6 v7 S := h (fun v0 v1 v2 v3 v4 v5 v6 v7 S => K9 b L S0 S → P_X11_fitOf_40 (fun r T => Q r T ∧ K9 b L S0 T) X16_2 X31_2 v0 v1 v2 v3 v4 v5 v6 v7 S) (fun v0 v1 v2 v3 v4 v5 v6 v7 S hB K => fd_X11_fitOf_40 (kyB_X11_fitOf_40 hU hL hb hB K hX16 hX31 (fun _ _ _ _ _ _ _ _ _ hx K => hx K))) K
set_option maxRecDepth 20000 in
set_option maxHeartbeats 1000000 in
theorem kyB_X11_fitOf_31 {b : Bool} {L : List (Nat × Nat)} (hU : ∀ q ∈ L, q ∈ nyT) (hL : ∀ q ∈ kyL_X11_fitOf, q ∈ L) (hb : False → b = false) {Q : Int32 → HS → Prop} {X16 X16_2 : Nat → Int32 → Int32 → Int32 → Int32 → Int32 → HS → Prop} {X31 X31_2 : Nat → Int32 → Int32 → Int32 → Int32 → Int32 → Int32 → HS → Prop} {v0 : Nat} {v1 : Int32} {v2 : Int32} {v3 : Int32} {v4 : Int32} {v5 : Int32} {v6 : Int32} {S0 S : HS} (h : B_X11_fitOf_31 Q X16 X31 v0 v1 v2 v3 v4 v5 v6 S) (K : K9 b L S0 S) (hX16 : ∀ (u0 : Nat) (u1 : Int32) (u2 : Int32) (u3 : Int32) (u4 : Int32) (u5 : Int32) (u6 : HS), X16 u0 u1 u2 u3 u4 u5 u6 → K9 b L S0 u6 → X16_2 u0 u1 u2 u3 u4 u5 u6) (hX31 : ∀ (u0 : Nat) (u1 : Int32) (u2 : Int32) (u3 : Int32) (u4 : Int32) (u5 : Int32) (u6 : Int32) (u7 : HS), X31 u0 u1 u2 u3 u4 u5 u6 u7 → K9 b L S0 u7 → X31_2 u0 u1 u2 u3 u4 u5 u6 u7) : B_X11_fitOf_31 (fun r T => Q r T ∧ K9 b L S0 T) X16_2 X31_2 v0 v1 v2 v3 v4 v5 v6 S := by
  delta B_X11_fitOf_31 at h ⊢
  refine ⟨?_, ?_⟩
  · intro c1
    have h := h.1 c1
    intro x3 e2
    have h := h x3 e2
    exact hX16 _ _ _ _ _ _ _ h K
  · intro c4
    have h := h.2 c4
    exact ky_X11_fitOf_40 hU hL hb h K hX16 hX31
theorem ky_X11_fitOf_31 {b : Bool} {L : List (Nat × Nat)} (hU : ∀ q ∈ L, q ∈ nyT) (hL : ∀ q ∈ kyL_X11_fitOf, q ∈ L) (hb : False → b = false) {Q : Int32 → HS → Prop} {X16 X16_2 : Nat → Int32 → Int32 → Int32 → Int32 → Int32 → HS → Prop} {v0 : Nat} {v1 : Int32} {v2 : Int32} {v3 : Int32} {v4 : Int32} {v5 : Int32} {v6 : Int32} {S0 S : HS} (h : P_X11_fitOf_31 Q X16 v0 v1 v2 v3 v4 v5 v6 S) (K : K9 b L S0 S) (hX16 : ∀ (u0 : Nat) (u1 : Int32) (u2 : Int32) (u3 : Int32) (u4 : Int32) (u5 : Int32) (u6 : HS), X16 u0 u1 u2 u3 u4 u5 u6 → K9 b L S0 u6 → X16_2 u0 u1 u2 u3 u4 u5 u6) : P_X11_fitOf_31 (fun r T => Q r T ∧ K9 b L S0 T) X16_2 v0 v1 v2 v3 v4 v5 v6 S := h (fun v0 v1 v2 v3 v4 v5 v6 S => K9 b L S0 S → P_X11_fitOf_31 (fun r T => Q r T ∧ K9 b L S0 T) X16_2 v0 v1 v2 v3 v4 v5 v6 S) (fun v0 v1 v2 v3 v4 v5 v6 S hB K => fd_X11_fitOf_31 (kyB_X11_fitOf_31 hU hL hb hB K hX16 (fun _ _ _ _ _ _ _ _ hx K => hx K))) K
set_option maxRecDepth 20000 in
set_option maxHeartbeats 1000000 in
theorem kyB_X11_fitOf_16 {b : Bool} {L : List (Nat × Nat)} (hU : ∀ q ∈ L, q ∈ nyT) (hL : ∀ q ∈ kyL_X11_fitOf, q ∈ L) (hb : False → b = false) {Q : Int32 → HS → Prop} {X16 X16_2 : Nat → Int32 → Int32 → Int32 → Int32 → Int32 → HS → Prop} {v0 : Nat} {v1 : Int32} {v2 : Int32} {v3 : Int32} {v4 : Int32} {v5 : Int32} {S0 S : HS} (h : B_X11_fitOf_16 Q X16 v0 v1 v2 v3 v4 v5 S) (K : K9 b L S0 S) (hX16 : ∀ (u0 : Nat) (u1 : Int32) (u2 : Int32) (u3 : Int32) (u4 : Int32) (u5 : Int32) (u6 : HS), X16 u0 u1 u2 u3 u4 u5 u6 → K9 b L S0 u6 → X16_2 u0 u1 u2 u3 u4 u5 u6) : B_X11_fitOf_16 (fun r T => Q r T ∧ K9 b L S0 T) X16_2 v0 v1 v2 v3 v4 v5 S := by
  delta B_X11_fitOf_16 at h ⊢
  obtain ⟨c1, h⟩ := h
  refine ⟨c1, ?_⟩
  have o2 := c1
  obtain ⟨b3, e4, h⟩ := h
  refine ⟨b3, e4, ?_⟩
  obtain ⟨c5, h⟩ := h
  refine ⟨c5, ?_⟩
  intro x7 e6
  have h := h x7 e6
  refine ⟨?_, ?_⟩
  · intro c8
    have h := h.1 c8
    refine ⟨?_, ?_⟩
    · intro c9
      have h := h.1 c9
      exact ⟨h, K⟩
    · intro c10
      have h := h.2 c10
      exact ⟨h, K⟩
  · intro c11
    have h := h.2 c11
    exact ky_X11_fitOf_31 hU hL hb h K hX16
theorem ky_X11_fitOf_16 {b : Bool} {L : List (Nat × Nat)} (hU : ∀ q ∈ L, q ∈ nyT) (hL : ∀ q ∈ kyL_X11_fitOf, q ∈ L) (hb : False → b = false) {Q : Int32 → HS → Prop} {v0 : Nat} {v1 : Int32} {v2 : Int32} {v3 : Int32} {v4 : Int32} {v5 : Int32} {S0 S : HS} (h : P_X11_fitOf_16 Q v0 v1 v2 v3 v4 v5 S) (K : K9 b L S0 S) : P_X11_fitOf_16 (fun r T => Q r T ∧ K9 b L S0 T) v0 v1 v2 v3 v4 v5 S := h (fun v0 v1 v2 v3 v4 v5 S => K9 b L S0 S → P_X11_fitOf_16 (fun r T => Q r T ∧ K9 b L S0 T) v0 v1 v2 v3 v4 v5 S) (fun v0 v1 v2 v3 v4 v5 S hB K => fd_X11_fitOf_16 (kyB_X11_fitOf_16 hU hL hb hB K (fun _ _ _ _ _ _ _ hx K => hx K))) K
set_option maxRecDepth 20000 in
set_option maxHeartbeats 1000000 in
theorem ky_X11_fitOf_0 {b : Bool} {L : List (Nat × Nat)} (hU : ∀ q ∈ L, q ∈ nyT) (hL : ∀ q ∈ kyL_X11_fitOf, q ∈ L) (hb : False → b = false) {Q : Int32 → HS → Prop} {v0 : Nat} {v1 : Int32} {v2 : Int32} {S0 S : HS} (h : P_X11_fitOf_0 Q v0 v1 v2 S) (K : K9 b L S0 S) : P_X11_fitOf_0 (fun r T => Q r T ∧ K9 b L S0 T) v0 v1 v2 S := by
  delta P_X11_fitOf_0 at h ⊢
  obtain ⟨c1, h⟩ := h
  refine ⟨c1, ?_⟩
  have o2 := c1
  obtain ⟨b3, e4, h⟩ := h
  refine ⟨b3, e4, ?_⟩
  obtain ⟨c5, h⟩ := h
  refine ⟨c5, ?_⟩
  have o6 := c5
  obtain ⟨b7, e8, h⟩ := h
  refine ⟨b7, e8, ?_⟩
  obtain ⟨c9, h⟩ := h
  refine ⟨c9, ?_⟩
  obtain ⟨c10, h⟩ := h
  refine ⟨c10, ?_⟩
  intro x12 e11
  have h := h x12 e11
  exact ky_X11_fitOf_16 hU hL hb h K
theorem ky_X11_fitOf {b : Bool} {L : List (Nat × Nat)} (hU : ∀ q ∈ L, q ∈ nyT) (hL : ∀ q ∈ kyL_X11_fitOf, q ∈ L) (hb : False → b = false) {Q : Int32 → HS → Prop} {v0 : Nat} {v1 : Int32} {v2 : Int32} {S : HS} (h : P_X11_fitOf v0 v1 v2 Q S) : P_X11_fitOf v0 v1 v2 (fun r T => Q r T ∧ K9 b L S T) S := ky_X11_fitOf_0 hU hL hb h (k9_rf b L S)
abbrev kyL_X11_isSeen : List (Nat × Nat) := []
set_option maxRecDepth 20000 in
set_option maxHeartbeats 1000000 in
theorem ky_X11_isSeen_0 {b : Bool} {L : List (Nat × Nat)} (hU : ∀ q ∈ L, q ∈ nyT) (hL : ∀ q ∈ kyL_X11_isSeen, q ∈ L) (hb : False → b = false) {Q : Int32 → HS → Prop} {v0 : Nat} {v1 : Int32} {S0 S : HS} (h : P_X11_isSeen_0 Q v0 v1 S) (K : K9 b L S0 S) : P_X11_isSeen_0 (fun r T => Q r T ∧ K9 b L S0 T) v0 v1 S := by
  delta P_X11_isSeen_0 at h ⊢
  obtain ⟨c1, h⟩ := h
  refine ⟨c1, ?_⟩
  have o2 := c1
  refine ⟨?_, ?_⟩
  · intro c3
    have h := h.1 c3
    exact ⟨h, K⟩
  · intro x4 c5
    have h := h.2 x4 c5
    refine ⟨?_, ?_⟩
    · intro c6
      have h := h.1 c6
      exact ⟨h, K⟩
    · intro c7
      have h := h.2 c7
      obtain ⟨b8, e9, h⟩ := h
      refine ⟨b8, e9, ?_⟩
      obtain ⟨c10, h⟩ := h
      refine ⟨c10, ?_⟩
      intro x12 e11
      have h := h x12 e11
      refine ⟨?_, ?_⟩
      · intro c13
        have h := h.1 c13
        exact ⟨h, K⟩
      · intro c14
        have h := h.2 c14
        exact ⟨h, K⟩
theorem ky_X11_isSeen {b : Bool} {L : List (Nat × Nat)} (hU : ∀ q ∈ L, q ∈ nyT) (hL : ∀ q ∈ kyL_X11_isSeen, q ∈ L) (hb : False → b = false) {Q : Int32 → HS → Prop} {v0 : Nat} {v1 : Int32} {S : HS} (h : P_X11_isSeen v0 v1 Q S) : P_X11_isSeen v0 v1 (fun r T => Q r T ∧ K9 b L S T) S := ky_X11_isSeen_0 hU hL hb h (k9_rf b L S)
abbrev kyL_X11_fit : List (Nat × Nat) := []
set_option maxRecDepth 20000 in
set_option maxHeartbeats 1000000 in
theorem ky_X11_fit_27 {b : Bool} {L : List (Nat × Nat)} (hU : ∀ q ∈ L, q ∈ nyT) (hL : ∀ q ∈ kyL_X11_fit, q ∈ L) (hb : False → b = false) {Q : Int32 → HS → Prop} {v0 : Nat} {s0 : Int32} {S0 S : HS} (h : P_X11_fit_27 Q v0 s0 S) (K : K9 b L S0 S) : P_X11_fit_27 (fun r T => Q r T ∧ K9 b L S0 T) v0 s0 S := by
  delta P_X11_fit_27 at h ⊢
  refine ⟨?_, ?_⟩
  · intro c1
    have h := h.1 c1
    obtain ⟨c2, h⟩ := h
    refine ⟨c2, ?_⟩
    refine cm_X11_good (ky_X11_good (b := b) hU (fun q hq => hL q ((by decide : ∀ q ∈ kyL_X11_good, q ∈ kyL_X11_fit) q hq)) (fun z => z.elim) h) h (fun x3 x4 p6 h g5 => ?_)
    have h := h g5
    have K := k9_tr K p6.2
    exact ⟨h, K⟩
  · intro c7
    have h := h.2 c7
    obtain ⟨c8, h⟩ := h
    refine ⟨c8, ?_⟩
    refine cm_X11_refused (ky_X11_refused (b := b) hU (fun q hq => hL q ((by decide : ∀ q ∈ kyL_X11_refused, q ∈ kyL_X11_fit) q hq)) (fun z => z.elim) h) h (fun x9 x10 p12 h g11 => ?_)
    have h := h g11
    have K := k9_tr K p12.2
    exact ⟨h, K⟩
set_option maxRecDepth 20000 in
set_option maxHeartbeats 1000000 in
theorem ky_X11_fit_26 {b : Bool} {L : List (Nat × Nat)} (hU : ∀ q ∈ L, q ∈ nyT) (hL : ∀ q ∈ kyL_X11_fit, q ∈ L) (hb : False → b = false) {Q : Int32 → HS → Prop} {v0 : Nat} {S0 S : HS} (h : P_X11_fit_26 Q v0 S) (K : K9 b L S0 S) : P_X11_fit_26 (fun r T => Q r T ∧ K9 b L S0 T) v0 S := by
  delta P_X11_fit_26 at h ⊢
  exact ky_X11_fit_27 hU hL hb h K
set_option maxRecDepth 20000 in
set_option maxHeartbeats 1000000 in
theorem ky_X11_fit_0 {b : Bool} {L : List (Nat × Nat)} (hU : ∀ q ∈ L, q ∈ nyT) (hL : ∀ q ∈ kyL_X11_fit, q ∈ L) (hb : False → b = false) {Q : Int32 → HS → Prop} {v0 : Nat} {v1 : Int32} {v2 : Int32} {S0 S : HS} (h : P_X11_fit_0 Q v0 v1 v2 S) (K : K9 b L S0 S) : P_X11_fit_0 (fun r T => Q r T ∧ K9 b L S0 T) v0 v1 v2 S := by
  delta P_X11_fit_0 at h ⊢
  obtain ⟨c1, h⟩ := h
  refine ⟨c1, ?_⟩
  intro x3 e2
  have h := h x3 e2
  have K := k9_I K e2
  refine cm_X11_isSeen (ky_X11_isSeen (b := b) hU (fun q hq => hL q ((by decide : ∀ q ∈ kyL_X11_isSeen, q ∈ kyL_X11_fit) q hq)) (fun z => z.elim) h) h (fun x4 x5 p8 h g6 g7 => ?_)
  have h := h g6 g7
  have K := k9_tr K p8.2
  refine ⟨?_, ?_⟩
  · intro c9
    have h := h.1 c9
    exact ky_X11_fit_26 hU hL hb h K
  · intro c10
    have h := h.2 c10
    refine ⟨?_, ?_⟩
    · intro c11
      have h := h.1 c11
      exact ky_X11_fit_26 hU hL hb h K
    · intro c12
      have h := h.2 c12
      refine cm_X11_fitOf (ky_X11_fitOf (b := b) hU (fun q hq => hL q ((by decide : ∀ q ∈ kyL_X11_fitOf, q ∈ kyL_X11_fit) q hq)) (fun z => z.elim) h) h (fun x13 x14 p16 h g15 => ?_)
      have h := h g15
      have K := k9_tr K p16.2
      exact ky_X11_fit_27 hU hL hb h K
theorem ky_X11_fit {b : Bool} {L : List (Nat × Nat)} (hU : ∀ q ∈ L, q ∈ nyT) (hL : ∀ q ∈ kyL_X11_fit, q ∈ L) (hb : False → b = false) {Q : Int32 → HS → Prop} {v0 : Nat} {v1 : Int32} {v2 : Int32} {S : HS} (h : P_X11_fit v0 v1 v2 Q S) : P_X11_fit v0 v1 v2 (fun r T => Q r T ∧ K9 b L S T) S := ky_X11_fit_0 hU hL hb h (k9_rf b L S)
abbrev kyL_X11_fits : List (Nat × Nat) := []
set_option maxRecDepth 20000 in
set_option maxHeartbeats 1000000 in
theorem ky_X11_fits_0 {b : Bool} {L : List (Nat × Nat)} (hU : ∀ q ∈ L, q ∈ nyT) (hL : ∀ q ∈ kyL_X11_fits, q ∈ L) (hb : False → b = false) {Q : Int32 → HS → Prop} {v0 : Nat} {v1 : Int32} {S0 S : HS} (h : P_X11_fits_0 Q v0 v1 S) (K : K9 b L S0 S) : P_X11_fits_0 (fun r T => Q r T ∧ K9 b L S0 T) v0 v1 S := by
  delta P_X11_fits_0 at h ⊢
  obtain ⟨c1, h⟩ := h
  refine ⟨c1, ?_⟩
  intro x3 e2
  have h := h x3 e2
  have K := k9_I K e2
  refine cm_X11_isSeen (ky_X11_isSeen (b := b) hU (fun q hq => hL q ((by decide : ∀ q ∈ kyL_X11_isSeen, q ∈ kyL_X11_fits) q hq)) (fun z => z.elim) h) h (fun x4 x5 p8 h g6 g7 => ?_)
  have h := h g6 g7
  have K := k9_tr K p8.2
  refine ⟨?_, ?_⟩
  · intro c9
    have h := h.1 c9
    refine cm_X11_refused (ky_X11_refused (b := b) hU (fun q hq => hL q ((by decide : ∀ q ∈ kyL_X11_refused, q ∈ kyL_X11_fits) q hq)) (fun z => z.elim) h) h (fun x10 x11 p13 h g12 => ?_)
    have h := h g12
    have K := k9_tr K p13.2
    exact ⟨h, K⟩
  · intro c14
    have h := h.2 c14
    refine cm_X11_fitOf (ky_X11_fitOf (b := b) hU (fun q hq => hL q ((by decide : ∀ q ∈ kyL_X11_fitOf, q ∈ kyL_X11_fits) q hq)) (fun z => z.elim) h) h (fun x15 x16 p18 h g17 => ?_)
    have h := h g17
    have K := k9_tr K p18.2
    refine cm_X11_good (ky_X11_good (b := b) hU (fun q hq => hL q ((by decide : ∀ q ∈ kyL_X11_good, q ∈ kyL_X11_fits) q hq)) (fun z => z.elim) h) h (fun x19 x20 p22 h g21 => ?_)
    have h := h g21
    have K := k9_tr K p22.2
    exact ⟨h, K⟩
theorem ky_X11_fits {b : Bool} {L : List (Nat × Nat)} (hU : ∀ q ∈ L, q ∈ nyT) (hL : ∀ q ∈ kyL_X11_fits, q ∈ L) (hb : False → b = false) {Q : Int32 → HS → Prop} {v0 : Nat} {v1 : Int32} {S : HS} (h : P_X11_fits v0 v1 Q S) : P_X11_fits v0 v1 (fun r T => Q r T ∧ K9 b L S T) S := ky_X11_fits_0 hU hL hb h (k9_rf b L S)
abbrev kyL_X11_hourOf : List (Nat × Nat) := []
set_option maxRecDepth 20000 in
set_option maxHeartbeats 1000000 in
theorem ky_X11_hourOf_0 {b : Bool} {L : List (Nat × Nat)} (hU : ∀ q ∈ L, q ∈ nyT) (hL : ∀ q ∈ kyL_X11_hourOf, q ∈ L) (hb : False → b = false) {Q : Int32 → HS → Prop} {v0 : Nat} {v1 : Int32} {S0 S : HS} (h : P_X11_hourOf_0 Q v0 v1 S) (K : K9 b L S0 S) : P_X11_hourOf_0 (fun r T => Q r T ∧ K9 b L S0 T) v0 v1 S := by
  delta P_X11_hourOf_0 at h ⊢
  obtain ⟨c1, h⟩ := h
  refine ⟨c1, ?_⟩
  have o2 := c1
  obtain ⟨b3, e4, h⟩ := h
  refine ⟨b3, e4, ?_⟩
  obtain ⟨c5, h⟩ := h
  refine ⟨c5, ?_⟩
  intro x7 e6
  have h := h x7 e6
  obtain ⟨c8, h⟩ := h
  refine ⟨c8, ?_⟩
  intro x10 e9
  have h := h x10 e9
  exact ⟨h, K⟩
theorem ky_X11_hourOf {b : Bool} {L : List (Nat × Nat)} (hU : ∀ q ∈ L, q ∈ nyT) (hL : ∀ q ∈ kyL_X11_hourOf, q ∈ L) (hb : False → b = false) {Q : Int32 → HS → Prop} {v0 : Nat} {v1 : Int32} {S : HS} (h : P_X11_hourOf v0 v1 Q S) : P_X11_hourOf v0 v1 (fun r T => Q r T ∧ K9 b L S T) S := ky_X11_hourOf_0 hU hL hb h (k9_rf b L S)
abbrev kyL_X11_keeps : List (Nat × Nat) := [(11, 22)]
set_option maxRecDepth 20000 in
set_option maxHeartbeats 1000000 in
theorem kyB_X11_keeps_50 {b : Bool} {L : List (Nat × Nat)} (hU : ∀ q ∈ L, q ∈ nyT) (hL : ∀ q ∈ kyL_X11_keeps, q ∈ L) (hb : False → b = false) {Q : HS → Prop} {X50 X50_2 : Nat → Int32 → HS → Prop} {v0 : Nat} {v1 : Int32} {S0 S : HS} (h : B_X11_keeps_50 Q X50 v0 v1 S) (K : K9 b L S0 S) (hX50 : ∀ (u0 : Nat) (u1 : Int32) (u2 : HS), X50 u0 u1 u2 → K9 b L S0 u2 → X50_2 u0 u1 u2) : B_X11_keeps_50 (fun T => Q T ∧ K9 b L S0 T) X50_2 v0 v1 S := by
  delta B_X11_keeps_50 at h ⊢
  refine ⟨?_, ?_⟩
  · intro c1
    have h := h.1 c1
    obtain ⟨c2, h⟩ := h
    refine ⟨c2, ?_⟩
    have o3 := c2
    intro x5 e4
    have h := h x5 e4
    intro x7 e6
    have h := h x7 e6
    intro x9 e8
    have h := h x9 e8
    have K := k9_I K e8
    have o3 := ob_wI o3 e8
    exact ⟨h, K⟩
  · intro c10
    have h := h.2 c10
    obtain ⟨c11, h⟩ := h
    refine ⟨c11, ?_⟩
    have o12 := c11
    obtain ⟨b13, e14, h⟩ := h
    refine ⟨b13, e14, ?_⟩
    have n15 := k9_nr K e14 o12 (hL _ (by decide))
    intro x17 e16
    have h := h x17 e16
    obtain ⟨b18, e19, h⟩ := h
    refine ⟨b18, e19, ?_⟩
    obtain ⟨c20, h⟩ := h
    refine ⟨c20, ?_⟩
    obtain ⟨c21, h⟩ := h
    refine ⟨c21, ?_⟩
    intro x23 e22
    have h := h x23 e22
    obtain ⟨c24, h⟩ := h
    refine ⟨c24, ?_⟩
    obtain ⟨c25, h⟩ := h
    refine ⟨c25, ?_⟩
    intro x27 e26
    have h := h x27 e26
    have K := k9_J K e26 n15
    have o12 := ob_wJ o12 e26
    intro x29 e28
    have h := h x29 e28
    exact hX50 _ _ _ h K
theorem ky_X11_keeps_50 {b : Bool} {L : List (Nat × Nat)} (hU : ∀ q ∈ L, q ∈ nyT) (hL : ∀ q ∈ kyL_X11_keeps, q ∈ L) (hb : False → b = false) {Q : HS → Prop} {v0 : Nat} {v1 : Int32} {S0 S : HS} (h : P_X11_keeps_50 Q v0 v1 S) (K : K9 b L S0 S) : P_X11_keeps_50 (fun T => Q T ∧ K9 b L S0 T) v0 v1 S := h (fun v0 v1 S => K9 b L S0 S → P_X11_keeps_50 (fun T => Q T ∧ K9 b L S0 T) v0 v1 S) (fun v0 v1 S hB K => fd_X11_keeps_50 (kyB_X11_keeps_50 hU hL hb hB K (fun _ _ _ hx K => hx K))) K
set_option maxRecDepth 20000 in
set_option maxHeartbeats 1000000 in
theorem ky_X11_keeps_48 {b : Bool} {L : List (Nat × Nat)} (hU : ∀ q ∈ L, q ∈ nyT) (hL : ∀ q ∈ kyL_X11_keeps, q ∈ L) (hb : False → b = false) {Q : HS → Prop} {v0 : Nat} {S0 S : HS} (h : P_X11_keeps_48 Q v0 S) (K : K9 b L S0 S) : P_X11_keeps_48 (fun T => Q T ∧ K9 b L S0 T) v0 S := by
  delta P_X11_keeps_48 at h ⊢
  exact ky_X11_keeps_50 hU hL hb h K
set_option maxRecDepth 20000 in
set_option maxHeartbeats 1000000 in
theorem kyB_X11_keeps_11 {b : Bool} {L : List (Nat × Nat)} (hU : ∀ q ∈ L, q ∈ nyT) (hL : ∀ q ∈ kyL_X11_keeps, q ∈ L) (hb : False → b = false) {Q : HS → Prop} {X11 X11_2 : Nat → Int32 → HS → Prop} {v0 : Nat} {v1 : Int32} {S0 S : HS} (h : B_X11_keeps_11 Q X11 v0 v1 S) (K : K9 b L S0 S) (hX11 : ∀ (u0 : Nat) (u1 : Int32) (u2 : HS), X11 u0 u1 u2 → K9 b L S0 u2 → X11_2 u0 u1 u2) : B_X11_keeps_11 (fun T => Q T ∧ K9 b L S0 T) X11_2 v0 v1 S := by
  delta B_X11_keeps_11 at h ⊢
  refine ⟨?_, ?_⟩
  · intro c1
    have h := h.1 c1
    obtain ⟨c2, h⟩ := h
    refine ⟨c2, ?_⟩
    have o3 := c2
    intro x5 e4
    have h := h x5 e4
    intro x7 e6
    have h := h x7 e6
    intro x9 e8
    have h := h x9 e8
    have K := k9_I K e8
    have o3 := ob_wI o3 e8
    exact ky_X11_keeps_48 hU hL hb h K
  · intro c10
    have h := h.2 c10
    obtain ⟨c11, h⟩ := h
    refine ⟨c11, ?_⟩
    have o12 := c11
    obtain ⟨b13, e14, h⟩ := h
    refine ⟨b13, e14, ?_⟩
    have n15 := k9_nr K e14 o12 (hL _ (by decide))
    obtain ⟨b16, e17, h⟩ := h
    refine ⟨b16, e17, ?_⟩
    obtain ⟨c18, h⟩ := h
    refine ⟨c18, ?_⟩
    intro x20 e19
    have h := h x20 e19
    obtain ⟨c21, h⟩ := h
    refine ⟨c21, ?_⟩
    intro x23 e22
    have h := h x23 e22
    obtain ⟨c24, h⟩ := h
    refine ⟨c24, ?_⟩
    obtain ⟨c25, h⟩ := h
    refine ⟨c25, ?_⟩
    intro x27 e26
    have h := h x27 e26
    have K := k9_J K e26 n15
    have o12 := ob_wJ o12 e26
    intro x29 e28
    have h := h x29 e28
    exact hX11 _ _ _ h K
theorem ky_X11_keeps_11 {b : Bool} {L : List (Nat × Nat)} (hU : ∀ q ∈ L, q ∈ nyT) (hL : ∀ q ∈ kyL_X11_keeps, q ∈ L) (hb : False → b = false) {Q : HS → Prop} {v0 : Nat} {v1 : Int32} {S0 S : HS} (h : P_X11_keeps_11 Q v0 v1 S) (K : K9 b L S0 S) : P_X11_keeps_11 (fun T => Q T ∧ K9 b L S0 T) v0 v1 S := h (fun v0 v1 S => K9 b L S0 S → P_X11_keeps_11 (fun T => Q T ∧ K9 b L S0 T) v0 v1 S) (fun v0 v1 S hB K => fd_X11_keeps_11 (kyB_X11_keeps_11 hU hL hb hB K (fun _ _ _ hx K => hx K))) K
set_option maxRecDepth 20000 in
set_option maxHeartbeats 1000000 in
theorem ky_X11_keeps_0 {b : Bool} {L : List (Nat × Nat)} (hU : ∀ q ∈ L, q ∈ nyT) (hL : ∀ q ∈ kyL_X11_keeps, q ∈ L) (hb : False → b = false) {Q : HS → Prop} {v0 : Nat} {S0 S : HS} (h : P_X11_keeps_0 Q v0 S) (K : K9 b L S0 S) : P_X11_keeps_0 (fun T => Q T ∧ K9 b L S0 T) v0 S := by
  delta P_X11_keeps_0 at h ⊢
  obtain ⟨c1, h⟩ := h
  refine ⟨c1, ?_⟩
  intro x3 e2
  have h := h x3 e2
  refine ⟨?_, ?_⟩
  · intro c4
    have h := h.1 c4
    exact ky_X11_keeps_48 hU hL hb h K
  · intro c5
    have h := h.2 c5
    exact ky_X11_keeps_11 hU hL hb h K
theorem ky_X11_keeps {b : Bool} {L : List (Nat × Nat)} (hU : ∀ q ∈ L, q ∈ nyT) (hL : ∀ q ∈ kyL_X11_keeps, q ∈ L) (hb : False → b = false) {Q : HS → Prop} {v0 : Nat} {S : HS} (h : P_X11_keeps v0 Q S) : P_X11_keeps v0 (fun T => Q T ∧ K9 b L S T) S := ky_X11_keeps_0 hU hL hb h (k9_rf b L S)
abbrev kyL_X11_rainsIn : List (Nat × Nat) := []
set_option maxRecDepth 20000 in
set_option maxHeartbeats 1000000 in
theorem ky_X11_rainsIn_0 {b : Bool} {L : List (Nat × Nat)} (hU : ∀ q ∈ L, q ∈ nyT) (hL : ∀ q ∈ kyL_X11_rainsIn, q ∈ L) (hb : False → b = false) {Q : Int32 → HS → Prop} {v0 : Nat} {v1 : Int32} {S0 S : HS} (h : P_X11_rainsIn_0 Q v0 v1 S) (K : K9 b L S0 S) : P_X11_rainsIn_0 (fun r T => Q r T ∧ K9 b L S0 T) v0 v1 S := by
  delta P_X11_rainsIn_0 at h ⊢
  obtain ⟨c1, h⟩ := h
  refine ⟨c1, ?_⟩
  have o2 := c1
  refine cm_X11_hourOf (ky_X11_hourOf (b := b) hU (fun q hq => hL q ((by decide : ∀ q ∈ kyL_X11_hourOf, q ∈ kyL_X11_rainsIn) q hq)) (fun z => z.elim) h) h (fun x3 x4 p6 h g5 => ?_)
  have h := h g5
  have K := k9_tr K p6.2
  have o2 := gr_ob p6.2.1 o2
  obtain ⟨b7, e8, h⟩ := h
  refine ⟨b7, e8, ?_⟩
  obtain ⟨c9, h⟩ := h
  refine ⟨c9, ?_⟩
  intro x11 e10
  have h := h x11 e10
  refine ⟨?_, ?_⟩
  · intro c12
    have h := h.1 c12
    exact ⟨h, K⟩
  · intro c13
    have h := h.2 c13
    intro x15 e14
    have h := h x15 e14
    refine ⟨?_, ?_⟩
    · intro c16
      have h := h.1 c16
      exact ⟨h, K⟩
    · intro c17
      have h := h.2 c17
      exact ⟨h, K⟩
theorem ky_X11_rainsIn {b : Bool} {L : List (Nat × Nat)} (hU : ∀ q ∈ L, q ∈ nyT) (hL : ∀ q ∈ kyL_X11_rainsIn, q ∈ L) (hb : False → b = false) {Q : Int32 → HS → Prop} {v0 : Nat} {v1 : Int32} {S : HS} (h : P_X11_rainsIn v0 v1 Q S) : P_X11_rainsIn v0 v1 (fun r T => Q r T ∧ K9 b L S T) S := ky_X11_rainsIn_0 hU hL hb h (k9_rf b L S)
abbrev kyL_X11_go : List (Nat × Nat) := [(11, 21), (11, 22)]
set_option maxRecDepth 20000 in
set_option maxHeartbeats 1000000 in
theorem ky_X11_go_29 {b : Bool} {L : List (Nat × Nat)} (hU : ∀ q ∈ L, q ∈ nyT) (hL : ∀ q ∈ kyL_X11_go, q ∈ L) (hb : False → b = false) {Q : Int32 → HS → Prop} {v0 : Nat} {S0 S : HS} (h : P_X11_go_29 Q v0 S) (K : K9 b L S0 S) : P_X11_go_29 (fun r T => Q r T ∧ K9 b L S0 T) v0 S := by
  delta P_X11_go_29 at h ⊢
  obtain ⟨c1, h⟩ := h
  refine ⟨c1, ?_⟩
  refine cm_X11_refused (ky_X11_refused (b := b) hU (fun q hq => hL q ((by decide : ∀ q ∈ kyL_X11_refused, q ∈ kyL_X11_go) q hq)) (fun z => z.elim) h) h (fun x2 x3 p5 h g4 => ?_)
  have h := h g4
  have K := k9_tr K p5.2
  exact ⟨h, K⟩
set_option maxRecDepth 20000 in
set_option maxHeartbeats 1000000 in
theorem ky_X11_go_171 {b : Bool} {L : List (Nat × Nat)} (hU : ∀ q ∈ L, q ∈ nyT) (hL : ∀ q ∈ kyL_X11_go, q ∈ L) (hb : False → b = false) {Q : Int32 → HS → Prop} {v0 : Nat} {v1 : Int32} {v2 : Int32} {v3 : Int32} {v4 : Int32} {S0 S : HS} (h : P_X11_go_171 Q v0 v1 v2 v3 v4 S) (K : K9 b L S0 S) : P_X11_go_171 (fun r T => Q r T ∧ K9 b L S0 T) v0 v1 v2 v3 v4 S := by
  delta P_X11_go_171 at h ⊢
  obtain ⟨c1, h⟩ := h
  refine ⟨c1, ?_⟩
  have o2 := c1
  obtain ⟨b3, e4, h⟩ := h
  refine ⟨b3, e4, ?_⟩
  have n5 := k9_nr K e4 o2 (hL _ (by decide))
  obtain ⟨b6, e7, h⟩ := h
  refine ⟨b6, e7, ?_⟩
  obtain ⟨c8, h⟩ := h
  refine ⟨c8, ?_⟩
  refine cm_X10_ends (ky_X10_ends (b := b) hU (fun q hq => hL q ((by decide : ∀ q ∈ kyL_X10_ends, q ∈ kyL_X11_go) q hq)) (fun z => z.elim) h) h (fun x9 x10 p12 h g11 => ?_)
  have h := h g11
  have K := k9_tr K p12.2
  have o2 := gr_ob p12.2.1 o2
  obtain ⟨c13, h⟩ := h
  refine ⟨c13, ?_⟩
  intro x15 e14
  have h := h x15 e14
  obtain ⟨c16, h⟩ := h
  refine ⟨c16, ?_⟩
  intro x18 e17
  have h := h x18 e17
  have K := k9_J K e17 n5
  have o2 := ob_wJ o2 e17
  obtain ⟨b19, e20, h⟩ := h
  refine ⟨b19, e20, ?_⟩
  have n21 := k9_nr K e20 o2 (hL _ (by decide))
  obtain ⟨b22, e23, h⟩ := h
  refine ⟨b22, e23, ?_⟩
  obtain ⟨c24, h⟩ := h
  refine ⟨c24, ?_⟩
  refine cm_X10_minutes (ky_X10_minutes (b := b) hU (fun q hq => hL q ((by decide : ∀ q ∈ kyL_X10_minutes, q ∈ kyL_X11_go) q hq)) (fun z => z.elim) h) h (fun x25 x26 p28 h g27 => ?_)
  have h := h g27
  have K := k9_tr K p28.2
  have o2 := gr_ob p28.2.1 o2
  obtain ⟨c29, h⟩ := h
  refine ⟨c29, ?_⟩
  intro x31 e30
  have h := h x31 e30
  obtain ⟨c32, h⟩ := h
  refine ⟨c32, ?_⟩
  intro x34 e33
  have h := h x34 e33
  have K := k9_J K e33 n21
  have o2 := ob_wJ o2 e33
  obtain ⟨b35, e36, h⟩ := h
  refine ⟨b35, e36, ?_⟩
  obtain ⟨c37, h⟩ := h
  refine ⟨c37, ?_⟩
  obtain ⟨c38, h⟩ := h
  refine ⟨c38, ?_⟩
  intro x40 e39
  have h := h x40 e39
  refine cm_X11_good (ky_X11_good (b := b) hU (fun q hq => hL q ((by decide : ∀ q ∈ kyL_X11_good, q ∈ kyL_X11_go) q hq)) (fun z => z.elim) h) h (fun x41 x42 p44 h g43 => ?_)
  have h := h g43
  have K := k9_tr K p44.2
  have o2 := gr_ob p44.2.1 o2
  exact ⟨h, K⟩
set_option maxRecDepth 20000 in
set_option maxHeartbeats 1000000 in
theorem kyB_X11_go_119 {b : Bool} {L : List (Nat × Nat)} (hU : ∀ q ∈ L, q ∈ nyT) (hL : ∀ q ∈ kyL_X11_go, q ∈ L) (hb : False → b = false) {Q : Int32 → HS → Prop} {X119 X119_2 : Nat → Int32 → Int32 → Int32 → Int32 → Int32 → HS → Prop} {v0 : Nat} {v1 : Int32} {v2 : Int32} {v3 : Int32} {v4 : Int32} {v5 : Int32} {S0 S : HS} (h : B_X11_go_119 Q X119 v0 v1 v2 v3 v4 v5 S) (K : K9 b L S0 S) (hX119 : ∀ (u0 : Nat) (u1 : Int32) (u2 : Int32) (u3 : Int32) (u4 : Int32) (u5 : Int32) (u6 : HS), X119 u0 u1 u2 u3 u4 u5 u6 → K9 b L S0 u6 → X119_2 u0 u1 u2 u3 u4 u5 u6) : B_X11_go_119 (fun r T => Q r T ∧ K9 b L S0 T) X119_2 v0 v1 v2 v3 v4 v5 S := by
  delta B_X11_go_119 at h ⊢
  refine ⟨?_, ?_⟩
  · intro c1
    have h := h.1 c1
    exact ky_X11_go_171 hU hL hb h K
  · intro c2
    have h := h.2 c2
    obtain ⟨c3, h⟩ := h
    refine ⟨c3, ?_⟩
    have o4 := c3
    refine cm_X11_rainsIn (ky_X11_rainsIn (b := b) hU (fun q hq => hL q ((by decide : ∀ q ∈ kyL_X11_rainsIn, q ∈ kyL_X11_go) q hq)) (fun z => z.elim) h) h (fun x5 x6 p9 h g7 g8 => ?_)
    have h := h g7 g8
    have K := k9_tr K p9.2
    have o4 := gr_ob p9.2.1 o4
    refine ⟨?_, ?_⟩
    · intro c10
      have h := h.1 c10
      exact ky_X11_go_171 hU hL hb h K
    · intro c11
      have h := h.2 c11
      obtain ⟨b12, e13, h⟩ := h
      refine ⟨b12, e13, ?_⟩
      have n14 := k9_nr K e13 o4 (hL _ (by decide))
      obtain ⟨c15, h⟩ := h
      refine ⟨c15, ?_⟩
      intro x17 e16
      have h := h x17 e16
      obtain ⟨c18, h⟩ := h
      refine ⟨c18, ?_⟩
      intro x20 e19
      have h := h x20 e19
      intro x22 e21
      have h := h x22 e21
      refine cm_X11_hourOf (ky_X11_hourOf (b := b) hU (fun q hq => hL q ((by decide : ∀ q ∈ kyL_X11_hourOf, q ∈ kyL_X11_go) q hq)) (fun z => z.elim) h) h (fun x23 x24 p26 h g25 => ?_)
      have h := h g25
      have K := k9_tr K p26.2
      have o4 := gr_ob p26.2.1 o4
      refine cm_X11_partsOf (ky_X11_partsOf (b := b) hU (fun q hq => hL q ((by decide : ∀ q ∈ kyL_X11_partsOf, q ∈ kyL_X11_go) q hq)) (fun z => z.elim) h) h (fun x27 x28 p30 h g29 => ?_)
      have h := h g29
      have K := k9_tr K p30.2
      have o4 := gr_ob p30.2.1 o4
      intro x32 e31
      have h := h x32 e31
      obtain ⟨c33, h⟩ := h
      refine ⟨c33, ?_⟩
      intro x35 e34
      have h := h x35 e34
      have K := k9_J K e34 n14
      have o4 := ob_wJ o4 e34
      intro x37 e36
      have h := h x37 e36
      exact hX119 _ _ _ _ _ _ _ h K
theorem ky_X11_go_119 {b : Bool} {L : List (Nat × Nat)} (hU : ∀ q ∈ L, q ∈ nyT) (hL : ∀ q ∈ kyL_X11_go, q ∈ L) (hb : False → b = false) {Q : Int32 → HS → Prop} {v0 : Nat} {v1 : Int32} {v2 : Int32} {v3 : Int32} {v4 : Int32} {v5 : Int32} {S0 S : HS} (h : P_X11_go_119 Q v0 v1 v2 v3 v4 v5 S) (K : K9 b L S0 S) : P_X11_go_119 (fun r T => Q r T ∧ K9 b L S0 T) v0 v1 v2 v3 v4 v5 S := h (fun v0 v1 v2 v3 v4 v5 S => K9 b L S0 S → P_X11_go_119 (fun r T => Q r T ∧ K9 b L S0 T) v0 v1 v2 v3 v4 v5 S) (fun v0 v1 v2 v3 v4 v5 S hB K => fd_X11_go_119 (kyB_X11_go_119 hU hL hb hB K (fun _ _ _ _ _ _ _ hx K => hx K))) K
set_option maxRecDepth 20000 in
set_option maxHeartbeats 1000000 in
theorem ky_X11_go_0 {b : Bool} {L : List (Nat × Nat)} (hU : ∀ q ∈ L, q ∈ nyT) (hL : ∀ q ∈ kyL_X11_go, q ∈ L) (hb : False → b = false) {Q : Int32 → HS → Prop} {v0 : Nat} {v1 : Int32} {v2 : Int32} {v3 : Int32} {S0 S : HS} (h : P_X11_go_0 Q v0 v1 v2 v3 S) (K : K9 b L S0 S) : P_X11_go_0 (fun r T => Q r T ∧ K9 b L S0 T) v0 v1 v2 v3 S := by
  delta P_X11_go_0 at h ⊢
  obtain ⟨c1, h⟩ := h
  refine ⟨c1, ?_⟩
  have o2 := c1
  intro x4 e3
  have h := h x4 e3
  have K := k9_I K e3
  have o2 := ob_wI o2 e3
  refine cm_X11_isDay (ky_X11_isDay (b := b) hU (fun q hq => hL q ((by decide : ∀ q ∈ kyL_X11_isDay, q ∈ kyL_X11_go) q hq)) (fun z => z.elim) h) h (fun x5 x6 p9 h g7 g8 => ?_)
  have h := h g7 g8
  have K := k9_tr K p9.2
  have o2 := gr_ob p9.2.1 o2
  refine ⟨?_, ?_⟩
  · intro c10
    have h := h.1 c10
    exact ky_X11_go_29 hU hL hb h K
  · intro c11
    have h := h.2 c11
    refine cm_X11_isRoad (ky_X11_isRoad (b := b) hU (fun q hq => hL q ((by decide : ∀ q ∈ kyL_X11_isRoad, q ∈ kyL_X11_go) q hq)) (fun z => z.elim) h) h (fun x12 x13 p16 h g14 g15 => ?_)
    have h := h g14 g15
    have K := k9_tr K p16.2
    have o2 := gr_ob p16.2.1 o2
    refine ⟨?_, ?_⟩
    · intro c17
      have h := h.1 c17
      exact ky_X11_go_29 hU hL hb h K
    · intro c18
      have h := h.2 c18
      refine cm_X11_in (ky_X11_in (b := b) hU (fun q hq => hL q ((by decide : ∀ q ∈ kyL_X11_in, q ∈ kyL_X11_go) q hq)) (fun z => z.elim) h) h (fun x19 x20 p23 h g21 g22 => ?_)
      have h := h g21 g22
      have K := k9_tr K p23.2
      have o2 := gr_ob p23.2.1 o2
      refine ⟨?_, ?_⟩
      · intro c24
        have h := h.1 c24
        intro x26 e25
        have h := h x26 e25
        refine cm_X11_isSpeed (ky_X11_isSpeed (b := b) hU (fun q hq => hL q ((by decide : ∀ q ∈ kyL_X11_isSpeed, q ∈ kyL_X11_go) q hq)) (fun z => z.elim) h) h (fun x27 x28 p31 h g29 g30 => ?_)
        have h := h g29 g30
        have K := k9_tr K p31.2
        have o2 := gr_ob p31.2.1 o2
        refine ⟨?_, ?_⟩
        · intro c32
          have h := h.1 c32
          obtain ⟨b33, e34, h⟩ := h
          refine ⟨b33, e34, ?_⟩
          obtain ⟨c35, h⟩ := h
          refine ⟨c35, ?_⟩
          refine cm_X10_begins (ky_X10_begins (b := b) hU (fun q hq => hL q ((by decide : ∀ q ∈ kyL_X10_begins, q ∈ kyL_X11_go) q hq)) (fun z => z.elim) h) h (fun x36 x37 p39 h g38 => ?_)
          have h := h g38
          have K := k9_tr K p39.2
          have o2 := gr_ob p39.2.1 o2
          obtain ⟨b40, e41, h⟩ := h
          refine ⟨b40, e41, ?_⟩
          obtain ⟨c42, h⟩ := h
          refine ⟨c42, ?_⟩
          obtain ⟨c43, h⟩ := h
          refine ⟨c43, ?_⟩
          intro x45 e44
          have h := h x45 e44
          refine ⟨?_, ?_⟩
          · intro c46
            have h := h.1 c46
            obtain ⟨b47, e48, h⟩ := h
            refine ⟨b47, e48, ?_⟩
            obtain ⟨c49, h⟩ := h
            refine ⟨c49, ?_⟩
            obtain ⟨c50, h⟩ := h
            refine ⟨c50, ?_⟩
            intro x52 e51
            have h := h x52 e51
            intro x54 e53
            have h := h x54 e53
            obtain ⟨b55, e56, h⟩ := h
            refine ⟨b55, e56, ?_⟩
            obtain ⟨c57, h⟩ := h
            refine ⟨c57, ?_⟩
            refine cm_X10_minutes (ky_X10_minutes (b := b) hU (fun q hq => hL q ((by decide : ∀ q ∈ kyL_X10_minutes, q ∈ kyL_X11_go) q hq)) (fun z => z.elim) h) h (fun x58 x59 p61 h g60 => ?_)
            have h := h g60
            have K := k9_tr K p61.2
            have o2 := gr_ob p61.2.1 o2
            refine ⟨?_, ?_⟩
            · intro c62
              have h := h.1 c62
              refine cm_X11_keeps (ky_X11_keeps (b := b) hU (fun q hq => hL q ((by decide : ∀ q ∈ kyL_X11_keeps, q ∈ kyL_X11_go) q hq)) (fun z => z.elim) h) h (fun x63 p65 h g64 => ?_)
              have h := h g64
              have K := k9_tr K p65.2
              have o2 := gr_ob p65.2.1 o2
              exact ky_X11_go_119 hU hL hb h K
            · intro c66
              have h := h.2 c66
              refine cm_X11_refused (ky_X11_refused (b := b) hU (fun q hq => hL q ((by decide : ∀ q ∈ kyL_X11_refused, q ∈ kyL_X11_go) q hq)) (fun z => z.elim) h) h (fun x67 x68 p70 h g69 => ?_)
              have h := h g69
              have K := k9_tr K p70.2
              have o2 := gr_ob p70.2.1 o2
              exact ⟨h, K⟩
          · intro c71
            have h := h.2 c71
            refine cm_X11_refused (ky_X11_refused (b := b) hU (fun q hq => hL q ((by decide : ∀ q ∈ kyL_X11_refused, q ∈ kyL_X11_go) q hq)) (fun z => z.elim) h) h (fun x72 x73 p75 h g74 => ?_)
            have h := h g74
            have K := k9_tr K p75.2
            have o2 := gr_ob p75.2.1 o2
            exact ⟨h, K⟩
        · intro c76
          have h := h.2 c76
          refine cm_X11_refused (ky_X11_refused (b := b) hU (fun q hq => hL q ((by decide : ∀ q ∈ kyL_X11_refused, q ∈ kyL_X11_go) q hq)) (fun z => z.elim) h) h (fun x77 x78 p80 h g79 => ?_)
          have h := h g79
          have K := k9_tr K p80.2
          have o2 := gr_ob p80.2.1 o2
          exact ⟨h, K⟩
      · intro c81
        have h := h.2 c81
        exact ky_X11_go_29 hU hL hb h K
theorem ky_X11_go {b : Bool} {L : List (Nat × Nat)} (hU : ∀ q ∈ L, q ∈ nyT) (hL : ∀ q ∈ kyL_X11_go, q ∈ L) (hb : False → b = false) {Q : Int32 → HS → Prop} {v0 : Nat} {v1 : Int32} {v2 : Int32} {v3 : Int32} {S : HS} (h : P_X11_go v0 v1 v2 v3 Q S) : P_X11_go v0 v1 v2 v3 (fun r T => Q r T ∧ K9 b L S T) S := ky_X11_go_0 hU hL hb h (k9_rf b L S)
abbrev kyL_X11_got : List (Nat × Nat) := []
set_option maxRecDepth 20000 in
set_option maxHeartbeats 1000000 in
theorem ky_X11_got_40 {b : Bool} {L : List (Nat × Nat)} (hU : ∀ q ∈ L, q ∈ nyT) (hL : ∀ q ∈ kyL_X11_got, q ∈ L) (hb : False → b = false) {Q : Int64 → HS → Prop} {v0 : Nat} {S0 S : HS} (h : P_X11_got_40 Q v0 S) (K : K9 b L S0 S) : P_X11_got_40 (fun r T => Q r T ∧ K9 b L S0 T) v0 S := by
  delta P_X11_got_40 at h ⊢
  obtain ⟨c1, h⟩ := h
  refine ⟨c1, ?_⟩
  refine cm_X11_refused (ky_X11_refused (b := b) hU (fun q hq => hL q ((by decide : ∀ q ∈ kyL_X11_refused, q ∈ kyL_X11_got) q hq)) (fun z => z.elim) h) h (fun x2 x3 p5 h g4 => ?_)
  have h := h g4
  have K := k9_tr K p5.2
  exact ⟨h, K⟩
set_option maxRecDepth 20000 in
set_option maxHeartbeats 1000000 in
theorem ky_X11_got_0 {b : Bool} {L : List (Nat × Nat)} (hU : ∀ q ∈ L, q ∈ nyT) (hL : ∀ q ∈ kyL_X11_got, q ∈ L) (hb : False → b = false) {Q : Int64 → HS → Prop} {v0 : Nat} {v1 : Int32} {v2 : Int32} {S0 S : HS} (h : P_X11_got_0 Q v0 v1 v2 S) (K : K9 b L S0 S) : P_X11_got_0 (fun r T => Q r T ∧ K9 b L S0 T) v0 v1 v2 S := by
  delta P_X11_got_0 at h ⊢
  obtain ⟨c1, h⟩ := h
  refine ⟨c1, ?_⟩
  have o2 := c1
  intro x4 e3
  have h := h x4 e3
  have K := k9_I K e3
  have o2 := ob_wI o2 e3
  refine cm_X11_isDay (ky_X11_isDay (b := b) hU (fun q hq => hL q ((by decide : ∀ q ∈ kyL_X11_isDay, q ∈ kyL_X11_got) q hq)) (fun z => z.elim) h) h (fun x5 x6 p9 h g7 g8 => ?_)
  have h := h g7 g8
  have K := k9_tr K p9.2
  have o2 := gr_ob p9.2.1 o2
  refine ⟨?_, ?_⟩
  · intro c10
    have h := h.1 c10
    exact ky_X11_got_40 hU hL hb h K
  · intro c11
    have h := h.2 c11
    refine cm_X11_in (ky_X11_in (b := b) hU (fun q hq => hL q ((by decide : ∀ q ∈ kyL_X11_in, q ∈ kyL_X11_got) q hq)) (fun z => z.elim) h) h (fun x12 x13 p16 h g14 g15 => ?_)
    have h := h g14 g15
    have K := k9_tr K p16.2
    have o2 := gr_ob p16.2.1 o2
    refine ⟨?_, ?_⟩
    · intro c17
      have h := h.1 c17
      exact ky_X11_got_40 hU hL hb h K
    · intro c18
      have h := h.2 c18
      obtain ⟨b19, e20, h⟩ := h
      refine ⟨b19, e20, ?_⟩
      obtain ⟨c21, h⟩ := h
      refine ⟨c21, ?_⟩
      intro x23 e22
      have h := h x23 e22
      obtain ⟨c24, h⟩ := h
      refine ⟨c24, ?_⟩
      intro x26 e25
      have h := h x26 e25
      refine cm_X11_told (ky_X11_told (b := b) hU (fun q hq => hL q ((by decide : ∀ q ∈ kyL_X11_told, q ∈ kyL_X11_got) q hq)) (fun z => z.elim) h) h (fun x27 x28 p30 h g29 => ?_)
      have h := h g29
      have K := k9_tr K p30.2
      have o2 := gr_ob p30.2.1 o2
      exact ⟨h, K⟩
theorem ky_X11_got {b : Bool} {L : List (Nat × Nat)} (hU : ∀ q ∈ L, q ∈ nyT) (hL : ∀ q ∈ kyL_X11_got, q ∈ L) (hb : False → b = false) {Q : Int64 → HS → Prop} {v0 : Nat} {v1 : Int32} {v2 : Int32} {S : HS} (h : P_X11_got v0 v1 v2 Q S) : P_X11_got v0 v1 v2 (fun r T => Q r T ∧ K9 b L S T) S := ky_X11_got_0 hU hL hb h (k9_rf b L S)
abbrev kyL_X11_gotInAll : List (Nat × Nat) := []
set_option maxRecDepth 20000 in
set_option maxHeartbeats 1000000 in
theorem kyB_X11_gotInAll_4 {b : Bool} {L : List (Nat × Nat)} (hU : ∀ q ∈ L, q ∈ nyT) (hL : ∀ q ∈ kyL_X11_gotInAll, q ∈ L) (hb : False → b = false) {Q : Int64 → HS → Prop} {X4 X4_2 : Nat → Int64 → Int32 → HS → Prop} {v0 : Nat} {v1 : Int64} {v3 : Int32} {S0 S : HS} (h : B_X11_gotInAll_4 Q X4 v0 v1 v3 S) (K : K9 b L S0 S) (hX4 : ∀ (u0 : Nat) (u1 : Int64) (u2 : Int32) (u3 : HS), X4 u0 u1 u2 u3 → K9 b L S0 u3 → X4_2 u0 u1 u2 u3) : B_X11_gotInAll_4 (fun r T => Q r T ∧ K9 b L S0 T) X4_2 v0 v1 v3 S := by
  delta B_X11_gotInAll_4 at h ⊢
  refine ⟨?_, ?_⟩
  · intro c1
    have h := h.1 c1
    exact ⟨h, K⟩
  · intro c2
    have h := h.2 c2
    obtain ⟨c3, h⟩ := h
    refine ⟨c3, ?_⟩
    have o4 := c3
    obtain ⟨b5, e6, h⟩ := h
    refine ⟨b5, e6, ?_⟩
    obtain ⟨c7, h⟩ := h
    refine ⟨c7, ?_⟩
    intro x9 e8
    have h := h x9 e8
    obtain ⟨c10, h⟩ := h
    refine ⟨c10, ?_⟩
    intro x12 e11
    have h := h x12 e11
    intro x14 e13
    have h := h x14 e13
    intro x16 e15
    have h := h x16 e15
    exact hX4 _ _ _ _ h K
theorem ky_X11_gotInAll_4 {b : Bool} {L : List (Nat × Nat)} (hU : ∀ q ∈ L, q ∈ nyT) (hL : ∀ q ∈ kyL_X11_gotInAll, q ∈ L) (hb : False → b = false) {Q : Int64 → HS → Prop} {v0 : Nat} {v1 : Int64} {v3 : Int32} {S0 S : HS} (h : P_X11_gotInAll_4 Q v0 v1 v3 S) (K : K9 b L S0 S) : P_X11_gotInAll_4 (fun r T => Q r T ∧ K9 b L S0 T) v0 v1 v3 S := h (fun v0 v1 v3 S => K9 b L S0 S → P_X11_gotInAll_4 (fun r T => Q r T ∧ K9 b L S0 T) v0 v1 v3 S) (fun v0 v1 v3 S hB K => fd_X11_gotInAll_4 (kyB_X11_gotInAll_4 hU hL hb hB K (fun _ _ _ _ hx K => hx K))) K
set_option maxRecDepth 20000 in
set_option maxHeartbeats 1000000 in
theorem ky_X11_gotInAll_0 {b : Bool} {L : List (Nat × Nat)} (hU : ∀ q ∈ L, q ∈ nyT) (hL : ∀ q ∈ kyL_X11_gotInAll, q ∈ L) (hb : False → b = false) {Q : Int64 → HS → Prop} {v0 : Nat} {S0 S : HS} (h : P_X11_gotInAll_0 Q v0 S) (K : K9 b L S0 S) : P_X11_gotInAll_0 (fun r T => Q r T ∧ K9 b L S0 T) v0 S := by
  delta P_X11_gotInAll_0 at h ⊢
  exact ky_X11_gotInAll_4 hU hL hb h K
theorem ky_X11_gotInAll {b : Bool} {L : List (Nat × Nat)} (hU : ∀ q ∈ L, q ∈ nyT) (hL : ∀ q ∈ kyL_X11_gotInAll, q ∈ L) (hb : False → b = false) {Q : Int64 → HS → Prop} {v0 : Nat} {S : HS} (h : P_X11_gotInAll v0 Q S) : P_X11_gotInAll v0 (fun r T => Q r T ∧ K9 b L S T) S := ky_X11_gotInAll_0 hU hL hb h (k9_rf b L S)
abbrev kyL_X11_held : List (Nat × Nat) := []
set_option maxRecDepth 20000 in
set_option maxHeartbeats 1000000 in
theorem ky_X11_held_68 {b : Bool} {L : List (Nat × Nat)} (hU : ∀ q ∈ L, q ∈ nyT) (hL : ∀ q ∈ kyL_X11_held, q ∈ L) (hb : False → b = false) {Q : Int32 → HS → Prop} {s0 : Nat} {s1 : Int32} {S0 S : HS} (h : P_X11_held_68 Q s0 s1 S) (K : K9 b L S0 S) : P_X11_held_68 (fun r T => Q r T ∧ K9 b L S0 T) s0 s1 S := by
  delta P_X11_held_68 at h ⊢
  obtain ⟨c1, h⟩ := h
  refine ⟨c1, ?_⟩
  refine cm_X11_good (ky_X11_good (b := b) hU (fun q hq => hL q ((by decide : ∀ q ∈ kyL_X11_good, q ∈ kyL_X11_held) q hq)) (fun z => z.elim) h) h (fun x2 x3 p5 h g4 => ?_)
  have h := h g4
  have K := k9_tr K p5.2
  exact ⟨h, K⟩
set_option maxRecDepth 20000 in
set_option maxHeartbeats 1000000 in
theorem ky_X11_held_0 {b : Bool} {L : List (Nat × Nat)} (hU : ∀ q ∈ L, q ∈ nyT) (hL : ∀ q ∈ kyL_X11_held, q ∈ L) (hb : False → b = false) {Q : Int32 → HS → Prop} {v0 : Nat} {v1 : Int32} {v2 : Int32} {v3 : Int32} {v4 : Int32} {v5 : Int32} {S0 S : HS} (h : P_X11_held_0 Q v0 v1 v2 v3 v4 v5 S) (K : K9 b L S0 S) : P_X11_held_0 (fun r T => Q r T ∧ K9 b L S0 T) v0 v1 v2 v3 v4 v5 S := by
  delta P_X11_held_0 at h ⊢
  obtain ⟨c1, h⟩ := h
  refine ⟨c1, ?_⟩
  have o2 := c1
  intro x4 e3
  have h := h x4 e3
  have K := k9_I K e3
  have o2 := ob_wI o2 e3
  refine cm_X11_refuses (ky_X11_refuses (b := b) hU (fun q hq => hL q ((by decide : ∀ q ∈ kyL_X11_refuses, q ∈ kyL_X11_held) q hq)) (fun z => z.elim) h) h (fun x5 x6 p8 h g7 => ?_)
  have h := h g7
  have K := k9_tr K p8.2
  have o2 := gr_ob p8.2.1 o2
  refine ⟨?_, ?_⟩
  · intro c9
    have h := h.1 c9
    obtain ⟨b10, e11, h⟩ := h
    refine ⟨b10, e11, ?_⟩
    obtain ⟨c12, h⟩ := h
    refine ⟨c12, ?_⟩
    have o13 := c12
    obtain ⟨b14, e15, h⟩ := h
    refine ⟨b14, e15, ?_⟩
    obtain ⟨c16, h⟩ := h
    refine ⟨c16, ?_⟩
    obtain ⟨c17, h⟩ := h
    refine ⟨c17, ?_⟩
    intro x19 e18
    have h := h x19 e18
    refine ⟨?_, ?_⟩
    · intro c20
      have h := h.1 c20
      refine cm_X11_isForward (ky_X11_isForward (b := b) hU (fun q hq => hL q ((by decide : ∀ q ∈ kyL_X11_isForward, q ∈ kyL_X11_held) q hq)) (fun z => z.elim) h) h (fun x21 x22 p25 h g23 g24 => ?_)
      have h := h g23 g24
      have K := k9_tr K p25.2
      have o2 := gr_ob p25.2.1 o2
      have o13 := gr_ob p25.2.1 o13
      refine ⟨?_, ?_⟩
      · intro c26
        have h := h.1 c26
        exact ky_X11_held_68 hU hL hb h K
      · intro c27
        have h := h.2 c27
        exact ky_X11_held_68 hU hL hb h K
    · intro c28
      have h := h.2 c28
      exact ky_X11_held_68 hU hL hb h K
  · intro c29
    have h := h.2 c29
    refine cm_X11_refused (ky_X11_refused (b := b) hU (fun q hq => hL q ((by decide : ∀ q ∈ kyL_X11_refused, q ∈ kyL_X11_held) q hq)) (fun z => z.elim) h) h (fun x30 x31 p33 h g32 => ?_)
    have h := h g32
    have K := k9_tr K p33.2
    have o2 := gr_ob p33.2.1 o2
    exact ⟨h, K⟩
theorem ky_X11_held {b : Bool} {L : List (Nat × Nat)} (hU : ∀ q ∈ L, q ∈ nyT) (hL : ∀ q ∈ kyL_X11_held, q ∈ L) (hb : False → b = false) {Q : Int32 → HS → Prop} {v0 : Nat} {v1 : Int32} {v2 : Int32} {v3 : Int32} {v4 : Int32} {v5 : Int32} {S : HS} (h : P_X11_held v0 v1 v2 v3 v4 v5 Q S) : P_X11_held v0 v1 v2 v3 v4 v5 (fun r T => Q r T ∧ K9 b L S T) S := ky_X11_held_0 hU hL hb h (k9_rf b L S)
abbrev kyL_X11_holds : List (Nat × Nat) := []
set_option maxRecDepth 20000 in
set_option maxHeartbeats 1000000 in
theorem ky_X11_holds_0 {b : Bool} {L : List (Nat × Nat)} (hU : ∀ q ∈ L, q ∈ nyT) (hL : ∀ q ∈ kyL_X11_holds, q ∈ L) (hb : False → b = false) {Q : Int64 → HS → Prop} {v0 : Nat} {S0 S : HS} (h : P_X11_holds_0 Q v0 S) (K : K9 b L S0 S) : P_X11_holds_0 (fun r T => Q r T ∧ K9 b L S0 T) v0 S := by
  delta P_X11_holds_0 at h ⊢
  obtain ⟨c1, h⟩ := h
  refine ⟨c1, ?_⟩
  have o2 := c1
  obtain ⟨b3, e4, h⟩ := h
  refine ⟨b3, e4, ?_⟩
  obtain ⟨c5, h⟩ := h
  refine ⟨c5, ?_⟩
  have o6 := c5
  obtain ⟨b7, e8, h⟩ := h
  refine ⟨b7, e8, ?_⟩
  intro x10 e9
  have h := h x10 e9
  obtain ⟨c11, h⟩ := h
  refine ⟨c11, ?_⟩
  obtain ⟨c12, h⟩ := h
  refine ⟨c12, ?_⟩
  intro x14 e13
  have h := h x14 e13
  refine ⟨?_, ?_⟩
  · intro c15
    have h := h.1 c15
    exact ⟨h, K⟩
  · intro c16
    have h := h.2 c16
    obtain ⟨b17, e18, h⟩ := h
    refine ⟨b17, e18, ?_⟩
    obtain ⟨c19, h⟩ := h
    refine ⟨c19, ?_⟩
    have o20 := c19
    obtain ⟨b21, e22, h⟩ := h
    refine ⟨b21, e22, ?_⟩
    intro x24 e23
    have h := h x24 e23
    obtain ⟨c25, h⟩ := h
    refine ⟨c25, ?_⟩
    obtain ⟨c26, h⟩ := h
    refine ⟨c26, ?_⟩
    intro x28 e27
    have h := h x28 e27
    exact ⟨h, K⟩
theorem ky_X11_holds {b : Bool} {L : List (Nat × Nat)} (hU : ∀ q ∈ L, q ∈ nyT) (hL : ∀ q ∈ kyL_X11_holds, q ∈ L) (hb : False → b = false) {Q : Int64 → HS → Prop} {v0 : Nat} {S : HS} (h : P_X11_holds v0 Q S) : P_X11_holds v0 (fun r T => Q r T ∧ K9 b L S T) S := ky_X11_holds_0 hU hL hb h (k9_rf b L S)
abbrev kyL_X11_isName : List (Nat × Nat) := []
set_option maxRecDepth 20000 in
set_option maxHeartbeats 1000000 in
theorem ky_X11_isName_0 {b : Bool} {L : List (Nat × Nat)} (hU : ∀ q ∈ L, q ∈ nyT) (hL : ∀ q ∈ kyL_X11_isName, q ∈ L) (hb : False → b = false) {Q : Int32 → HS → Prop} {v0 : Nat} {S0 S : HS} (h : P_X11_isName_0 Q v0 S) (K : K9 b L S0 S) : P_X11_isName_0 (fun r T => Q r T ∧ K9 b L S0 T) v0 S := by
  delta P_X11_isName_0 at h ⊢
  obtain ⟨c1, h⟩ := h
  refine ⟨c1, ?_⟩
  intro x3 e2
  have h := h x3 e2
  refine ⟨?_, ?_⟩
  · intro c4
    have h := h.1 c4
    exact ⟨h, K⟩
  · intro c5
    have h := h.2 c5
    refine cm_X11_isWord (ky_X11_isWord (b := b) hU (fun q hq => hL q ((by decide : ∀ q ∈ kyL_X11_isWord, q ∈ kyL_X11_isName) q hq)) (fun z => z.elim) h) h (fun x6 x7 p10 h g8 g9 => ?_)
    have h := h g8 g9
    have K := k9_tr K p10.2
    refine ⟨?_, ?_⟩
    · intro c11
      have h := h.1 c11
      exact ⟨h, K⟩
    · intro c12
      have h := h.2 c12
      refine cm_X11_isWord (ky_X11_isWord (b := b) hU (fun q hq => hL q ((by decide : ∀ q ∈ kyL_X11_isWord, q ∈ kyL_X11_isName) q hq)) (fun z => z.elim) h) h (fun x13 x14 p17 h g15 g16 => ?_)
      have h := h g15 g16
      have K := k9_tr K p17.2
      refine ⟨?_, ?_⟩
      · intro c18
        have h := h.1 c18
        exact ⟨h, K⟩
      · intro c19
        have h := h.2 c19
        refine cm_X11_isWord (ky_X11_isWord (b := b) hU (fun q hq => hL q ((by decide : ∀ q ∈ kyL_X11_isWord, q ∈ kyL_X11_isName) q hq)) (fun z => z.elim) h) h (fun x20 x21 p24 h g22 g23 => ?_)
        have h := h g22 g23
        have K := k9_tr K p24.2
        refine ⟨?_, ?_⟩
        · intro c25
          have h := h.1 c25
          exact ⟨h, K⟩
        · intro c26
          have h := h.2 c26
          refine cm_X11_isWord (ky_X11_isWord (b := b) hU (fun q hq => hL q ((by decide : ∀ q ∈ kyL_X11_isWord, q ∈ kyL_X11_isName) q hq)) (fun z => z.elim) h) h (fun x27 x28 p31 h g29 g30 => ?_)
          have h := h g29 g30
          have K := k9_tr K p31.2
          refine ⟨?_, ?_⟩
          · intro c32
            have h := h.1 c32
            refine cm_X11_isWord (ky_X11_isWord (b := b) hU (fun q hq => hL q ((by decide : ∀ q ∈ kyL_X11_isWord, q ∈ kyL_X11_isName) q hq)) (fun z => z.elim) h) h (fun x33 x34 p37 h g35 g36 => ?_)
            have h := h g35 g36
            have K := k9_tr K p37.2
            refine ⟨?_, ?_⟩
            · intro c38
              have h := h.1 c38
              exact ⟨h, K⟩
            · intro c39
              have h := h.2 c39
              refine cm_X11_isWord (ky_X11_isWord (b := b) hU (fun q hq => hL q ((by decide : ∀ q ∈ kyL_X11_isWord, q ∈ kyL_X11_isName) q hq)) (fun z => z.elim) h) h (fun x40 x41 p44 h g42 g43 => ?_)
              have h := h g42 g43
              have K := k9_tr K p44.2
              refine ⟨?_, ?_⟩
              · intro c45
                have h := h.1 c45
                exact ⟨h, K⟩
              · intro c46
                have h := h.2 c46
                refine cm_X11_isWord (ky_X11_isWord (b := b) hU (fun q hq => hL q ((by decide : ∀ q ∈ kyL_X11_isWord, q ∈ kyL_X11_isName) q hq)) (fun z => z.elim) h) h (fun x47 x48 p51 h g49 g50 => ?_)
                have h := h g49 g50
                have K := k9_tr K p51.2
                refine ⟨?_, ?_⟩
                · intro c52
                  have h := h.1 c52
                  exact ⟨h, K⟩
                · intro c53
                  have h := h.2 c53
                  refine cm_X11_isWord (ky_X11_isWord (b := b) hU (fun q hq => hL q ((by decide : ∀ q ∈ kyL_X11_isWord, q ∈ kyL_X11_isName) q hq)) (fun z => z.elim) h) h (fun x54 x55 p58 h g56 g57 => ?_)
                  have h := h g56 g57
                  have K := k9_tr K p58.2
                  refine ⟨?_, ?_⟩
                  · intro c59
                    have h := h.1 c59
                    exact ⟨h, K⟩
                  · intro c60
                    have h := h.2 c60
                    refine cm_X11_isWord (ky_X11_isWord (b := b) hU (fun q hq => hL q ((by decide : ∀ q ∈ kyL_X11_isWord, q ∈ kyL_X11_isName) q hq)) (fun z => z.elim) h) h (fun x61 x62 p65 h g63 g64 => ?_)
                    have h := h g63 g64
                    have K := k9_tr K p65.2
                    refine ⟨?_, ?_⟩
                    · intro c66
                      have h := h.1 c66
                      exact ⟨h, K⟩
                    · intro c67
                      have h := h.2 c67
                      exact ⟨h, K⟩
          · intro c68
            have h := h.2 c68
            exact ⟨h, K⟩
theorem ky_X11_isName {b : Bool} {L : List (Nat × Nat)} (hU : ∀ q ∈ L, q ∈ nyT) (hL : ∀ q ∈ kyL_X11_isName, q ∈ L) (hb : False → b = false) {Q : Int32 → HS → Prop} {v0 : Nat} {S : HS} (h : P_X11_isName v0 Q S) : P_X11_isName v0 (fun r T => Q r T ∧ K9 b L S T) S := ky_X11_isName_0 hU hL hb h (k9_rf b L S)
abbrev kyL_X11_known : List (Nat × Nat) := []
set_option maxRecDepth 20000 in
set_option maxHeartbeats 1000000 in
theorem ky_X11_known_47 {b : Bool} {L : List (Nat × Nat)} (hU : ∀ q ∈ L, q ∈ nyT) (hL : ∀ q ∈ kyL_X11_known, q ∈ L) (hb : False → b = false) {Q : Int32 → HS → Prop} {v0 : Nat} {v2 : Int32} {S0 S : HS} (h : P_X11_known_47 Q v0 v2 S) (K : K9 b L S0 S) : P_X11_known_47 (fun r T => Q r T ∧ K9 b L S0 T) v0 v2 S := by
  delta P_X11_known_47 at h ⊢
  obtain ⟨c1, h⟩ := h
  refine ⟨c1, ?_⟩
  have o2 := c1
  intro x4 e3
  have h := h x4 e3
  refine ⟨?_, ?_⟩
  · intro c5
    have h := h.1 c5
    obtain ⟨b6, e7, h⟩ := h
    refine ⟨b6, e7, ?_⟩
    obtain ⟨c8, h⟩ := h
    refine ⟨c8, ?_⟩
    have o9 := c8
    obtain ⟨b10, e11, h⟩ := h
    refine ⟨b10, e11, ?_⟩
    obtain ⟨c12, h⟩ := h
    refine ⟨c12, ?_⟩
    obtain ⟨c13, h⟩ := h
    refine ⟨c13, ?_⟩
    intro x15 e14
    have h := h x15 e14
    exact ⟨h, K⟩
  · intro c16
    have h := h.2 c16
    exact ⟨h, K⟩
set_option maxRecDepth 20000 in
set_option maxHeartbeats 1000000 in
theorem ky_X11_known_42 {b : Bool} {L : List (Nat × Nat)} (hU : ∀ q ∈ L, q ∈ nyT) (hL : ∀ q ∈ kyL_X11_known, q ∈ L) (hb : False → b = false) {Q : Int32 → HS → Prop} {v0 : Nat} {v2 : Int32} {S0 S : HS} (h : P_X11_known_42 Q v0 v2 S) (K : K9 b L S0 S) : P_X11_known_42 (fun r T => Q r T ∧ K9 b L S0 T) v0 v2 S := by
  delta P_X11_known_42 at h ⊢
  obtain ⟨c1, h⟩ := h
  refine ⟨c1, ?_⟩
  refine cm_X11_flaw (ky_X11_flaw (b := b) hU (fun q hq => hL q ((by decide : ∀ q ∈ kyL_X11_flaw, q ∈ kyL_X11_known) q hq)) (fun z => z.elim) h) h (fun x2 p4 h g3 => ?_)
  have h := h g3
  have K := k9_tr K p4.2
  exact ky_X11_known_47 hU hL hb h K
set_option maxRecDepth 20000 in
set_option maxHeartbeats 1000000 in
theorem ky_X11_known_12 {b : Bool} {L : List (Nat × Nat)} (hU : ∀ q ∈ L, q ∈ nyT) (hL : ∀ q ∈ kyL_X11_known, q ∈ L) (hb : False → b = false) {Q : Int32 → HS → Prop} {v0 : Nat} {v1 : Int32} {S0 S : HS} (h : P_X11_known_12 Q v0 v1 S) (K : K9 b L S0 S) : P_X11_known_12 (fun r T => Q r T ∧ K9 b L S0 T) v0 v1 S := by
  delta P_X11_known_12 at h ⊢
  obtain ⟨c1, h⟩ := h
  refine ⟨c1, ?_⟩
  have o2 := c1
  obtain ⟨b3, e4, h⟩ := h
  refine ⟨b3, e4, ?_⟩
  intro x6 e5
  have h := h x6 e5
  obtain ⟨c7, h⟩ := h
  refine ⟨c7, ?_⟩
  refine cm_X10_find (ky_X10_find (b := b) hU (fun q hq => hL q ((by decide : ∀ q ∈ kyL_X10_find, q ∈ kyL_X11_known) q hq)) (fun z => z.elim) h) h (fun x8 x9 p11 h g10 => ?_)
  have h := h g10
  have K := k9_tr K p11.2
  have o2 := gr_ob p11.2.1 o2
  refine ⟨?_, ?_⟩
  · intro c12
    have h := h.1 c12
    exact ky_X11_known_42 hU hL hb h K
  · intro c13
    have h := h.2 c13
    obtain ⟨b14, e15, h⟩ := h
    refine ⟨b14, e15, ?_⟩
    obtain ⟨c16, h⟩ := h
    refine ⟨c16, ?_⟩
    have o17 := c16
    obtain ⟨b18, e19, h⟩ := h
    refine ⟨b18, e19, ?_⟩
    obtain ⟨c20, h⟩ := h
    refine ⟨c20, ?_⟩
    obtain ⟨c21, h⟩ := h
    refine ⟨c21, ?_⟩
    intro x23 e22
    have h := h x23 e22
    refine ⟨?_, ?_⟩
    · intro c24
      have h := h.1 c24
      exact ky_X11_known_47 hU hL hb h K
    · intro c25
      have h := h.2 c25
      exact ky_X11_known_42 hU hL hb h K
set_option maxRecDepth 20000 in
set_option maxHeartbeats 1000000 in
theorem ky_X11_known_0 {b : Bool} {L : List (Nat × Nat)} (hU : ∀ q ∈ L, q ∈ nyT) (hL : ∀ q ∈ kyL_X11_known, q ∈ L) (hb : False → b = false) {Q : Int32 → HS → Prop} {v0 : Nat} {v1 : Int32} {S0 S : HS} (h : P_X11_known_0 Q v0 v1 S) (K : K9 b L S0 S) : P_X11_known_0 (fun r T => Q r T ∧ K9 b L S0 T) v0 v1 S := by
  delta P_X11_known_0 at h ⊢
  obtain ⟨c1, h⟩ := h
  refine ⟨c1, ?_⟩
  refine cm_X11_isName (ky_X11_isName (b := b) hU (fun q hq => hL q ((by decide : ∀ q ∈ kyL_X11_isName, q ∈ kyL_X11_known) q hq)) (fun z => z.elim) h) h (fun x2 x3 p6 h g4 g5 => ?_)
  have h := h g4 g5
  have K := k9_tr K p6.2
  refine ⟨?_, ?_⟩
  · intro c7
    have h := h.1 c7
    exact ky_X11_known_12 hU hL hb h K
  · intro c8
    have h := h.2 c8
    refine cm_X11_flaw (ky_X11_flaw (b := b) hU (fun q hq => hL q ((by decide : ∀ q ∈ kyL_X11_flaw, q ∈ kyL_X11_known) q hq)) (fun z => z.elim) h) h (fun x9 p11 h g10 => ?_)
    have h := h g10
    have K := k9_tr K p11.2
    exact ky_X11_known_12 hU hL hb h K
theorem ky_X11_known {b : Bool} {L : List (Nat × Nat)} (hU : ∀ q ∈ L, q ∈ nyT) (hL : ∀ q ∈ kyL_X11_known, q ∈ L) (hb : False → b = false) {Q : Int32 → HS → Prop} {v0 : Nat} {v1 : Int32} {S : HS} (h : P_X11_known v0 v1 Q S) : P_X11_known v0 v1 (fun r T => Q r T ∧ K9 b L S T) S := ky_X11_known_0 hU hL hb h (k9_rf b L S)
abbrev kyL_X11_spotOf : List (Nat × Nat) := []
set_option maxRecDepth 20000 in
set_option maxHeartbeats 1000000 in
theorem ky_X11_spotOf_0 {b : Bool} {L : List (Nat × Nat)} (hU : ∀ q ∈ L, q ∈ nyT) (hL : ∀ q ∈ kyL_X11_spotOf, q ∈ L) (hb : False → b = false) {Q : Int32 → HS → Prop} {v0 : Int32} {v1 : Int32} {S0 S : HS} (h : P_X11_spotOf_0 Q v0 v1 S) (K : K9 b L S0 S) : P_X11_spotOf_0 (fun r T => Q r T ∧ K9 b L S0 T) v0 v1 S := by
  delta P_X11_spotOf_0 at h ⊢
  exact ⟨h, K⟩
theorem ky_X11_spotOf {b : Bool} {L : List (Nat × Nat)} (hU : ∀ q ∈ L, q ∈ nyT) (hL : ∀ q ∈ kyL_X11_spotOf, q ∈ L) (hb : False → b = false) {Q : Int32 → HS → Prop} {v0 : Int32} {v1 : Int32} {S : HS} (h : P_X11_spotOf v0 v1 Q S) : P_X11_spotOf v0 v1 (fun r T => Q r T ∧ K9 b L S T) S := ky_X11_spotOf_0 hU hL hb h (k9_rf b L S)
abbrev kyL_X11_meanOf : List (Nat × Nat) := []
set_option maxRecDepth 20000 in
set_option maxHeartbeats 1000000 in
theorem ky_X11_meanOf_0 {b : Bool} {L : List (Nat × Nat)} (hU : ∀ q ∈ L, q ∈ nyT) (hL : ∀ q ∈ kyL_X11_meanOf, q ∈ L) (hb : False → b = false) {Q : Int64 → HS → Prop} {v0 : Nat} {v1 : Int32} {v2 : Int32} {v3 : Int32} {v4 : Int32} {v5 : Int32} {S0 S : HS} (h : P_X11_meanOf_0 Q v0 v1 v2 v3 v4 v5 S) (K : K9 b L S0 S) : P_X11_meanOf_0 (fun r T => Q r T ∧ K9 b L S0 T) v0 v1 v2 v3 v4 v5 S := by
  delta P_X11_meanOf_0 at h ⊢
  obtain ⟨c1, h⟩ := h
  refine ⟨c1, ?_⟩
  have o2 := c1
  refine cm_X11_hourOf (ky_X11_hourOf (b := b) hU (fun q hq => hL q ((by decide : ∀ q ∈ kyL_X11_hourOf, q ∈ kyL_X11_meanOf) q hq)) (fun z => z.elim) h) h (fun x3 x4 p6 h g5 => ?_)
  have h := h g5
  have K := k9_tr K p6.2
  have o2 := gr_ob p6.2.1 o2
  obtain ⟨b7, e8, h⟩ := h
  refine ⟨b7, e8, ?_⟩
  obtain ⟨c9, h⟩ := h
  refine ⟨c9, ?_⟩
  intro x11 e10
  have h := h x11 e10
  refine ⟨?_, ?_⟩
  · intro c12
    have h := h.1 c12
    exact ⟨h, K⟩
  · intro c13
    have h := h.2 c13
    refine cm_X11_wetOf (ky_X11_wetOf (b := b) hU (fun q hq => hL q ((by decide : ∀ q ∈ kyL_X11_wetOf, q ∈ kyL_X11_meanOf) q hq)) (fun z => z.elim) h) h (fun x14 x15 p17 h g16 => ?_)
    have h := h g16
    have K := k9_tr K p17.2
    have o2 := gr_ob p17.2.1 o2
    obtain ⟨b18, e19, h⟩ := h
    refine ⟨b18, e19, ?_⟩
    obtain ⟨c20, h⟩ := h
    refine ⟨c20, ?_⟩
    have o21 := c20
    obtain ⟨b22, e23, h⟩ := h
    refine ⟨b22, e23, ?_⟩
    obtain ⟨c24, h⟩ := h
    refine ⟨c24, ?_⟩
    obtain ⟨c25, h⟩ := h
    refine ⟨c25, ?_⟩
    intro x27 e26
    have h := h x27 e26
    exact ⟨h, K⟩
theorem ky_X11_meanOf {b : Bool} {L : List (Nat × Nat)} (hU : ∀ q ∈ L, q ∈ nyT) (hL : ∀ q ∈ kyL_X11_meanOf, q ∈ L) (hb : False → b = false) {Q : Int64 → HS → Prop} {v0 : Nat} {v1 : Int32} {v2 : Int32} {v3 : Int32} {v4 : Int32} {v5 : Int32} {S : HS} (h : P_X11_meanOf v0 v1 v2 v3 v4 v5 Q S) : P_X11_meanOf v0 v1 v2 v3 v4 v5 (fun r T => Q r T ∧ K9 b L S T) S := ky_X11_meanOf_0 hU hL hb h (k9_rf b L S)
abbrev kyL_X11_takes : List (Nat × Nat) := [(11, 16)]
set_option maxRecDepth 20000 in
set_option maxHeartbeats 1000000 in
theorem ky_X11_takes_77 {b : Bool} {L : List (Nat × Nat)} (hU : ∀ q ∈ L, q ∈ nyT) (hL : ∀ q ∈ kyL_X11_takes, q ∈ L) (hb : False → b = false) {Q : HS → Prop} {v0 : Nat} {v1 : Int32} {v2 : Int32} {v5 : Int32} {v6 : Int64} {S0 S : HS} (h : P_X11_takes_77 Q v0 v1 v2 v5 v6 S) (K : K9 b L S0 S) : P_X11_takes_77 (fun T => Q T ∧ K9 b L S0 T) v0 v1 v2 v5 v6 S := by
  delta P_X11_takes_77 at h ⊢
  obtain ⟨c1, h⟩ := h
  refine ⟨c1, ?_⟩
  have o2 := c1
  obtain ⟨b3, e4, h⟩ := h
  refine ⟨b3, e4, ?_⟩
  have n5 := k9_nr K e4 o2 (hL _ (by decide))
  obtain ⟨c6, h⟩ := h
  refine ⟨c6, ?_⟩
  obtain ⟨c7, h⟩ := h
  refine ⟨c7, ?_⟩
  intro x9 e8
  have h := h x9 e8
  have K := k9_J K e8 n5
  have o2 := ob_wJ o2 e8
  obtain ⟨b10, e11, h⟩ := h
  refine ⟨b10, e11, ?_⟩
  obtain ⟨b12, e13, h⟩ := h
  refine ⟨b12, e13, ?_⟩
  obtain ⟨c14, h⟩ := h
  refine ⟨c14, ?_⟩
  obtain ⟨c15, h⟩ := h
  refine ⟨c15, ?_⟩
  intro x17 e16
  have h := h x17 e16
  obtain ⟨c18, h⟩ := h
  refine ⟨c18, ?_⟩
  obtain ⟨c19, h⟩ := h
  refine ⟨c19, ?_⟩
  intro x21 e20
  have h := h x21 e20
  have K := k9_I K e20
  have o2 := ob_wI o2 e20
  obtain ⟨b22, e23, h⟩ := h
  refine ⟨b22, e23, ?_⟩
  obtain ⟨c24, h⟩ := h
  refine ⟨c24, ?_⟩
  obtain ⟨c25, h⟩ := h
  refine ⟨c25, ?_⟩
  intro x27 e26
  have h := h x27 e26
  have K := k9_I K e26
  have o2 := ob_wI o2 e26
  exact ⟨h, K⟩
set_option maxRecDepth 20000 in
set_option maxHeartbeats 1000000 in
theorem ky_X11_takes_0 {b : Bool} {L : List (Nat × Nat)} (hU : ∀ q ∈ L, q ∈ nyT) (hL : ∀ q ∈ kyL_X11_takes, q ∈ L) (hb : False → b = false) {Q : HS → Prop} {v0 : Nat} {v1 : Int32} {v2 : Int32} {v3 : Int64} {v5 : Int32} {S0 S : HS} (h : P_X11_takes_0 Q v0 v1 v2 v3 v5 S) (K : K9 b L S0 S) : P_X11_takes_0 (fun T => Q T ∧ K9 b L S0 T) v0 v1 v2 v3 v5 S := by
  delta P_X11_takes_0 at h ⊢
  obtain ⟨c1, h⟩ := h
  refine ⟨c1, ?_⟩
  have o2 := c1
  obtain ⟨b3, e4, h⟩ := h
  refine ⟨b3, e4, ?_⟩
  obtain ⟨c5, h⟩ := h
  refine ⟨c5, ?_⟩
  obtain ⟨c6, h⟩ := h
  refine ⟨c6, ?_⟩
  intro x8 e7
  have h := h x8 e7
  refine ⟨?_, ?_⟩
  · intro c9
    have h := h.1 c9
    obtain ⟨b10, e11, h⟩ := h
    refine ⟨b10, e11, ?_⟩
    obtain ⟨c12, h⟩ := h
    refine ⟨c12, ?_⟩
    obtain ⟨c13, h⟩ := h
    refine ⟨c13, ?_⟩
    intro x15 e14
    have h := h x15 e14
    intro x17 e16
    have h := h x17 e16
    obtain ⟨b18, e19, h⟩ := h
    refine ⟨b18, e19, ?_⟩
    obtain ⟨c20, h⟩ := h
    refine ⟨c20, ?_⟩
    obtain ⟨c21, h⟩ := h
    refine ⟨c21, ?_⟩
    intro x23 e22
    have h := h x23 e22
    refine ⟨?_, ?_⟩
    · intro c24
      have h := h.1 c24
      exact ky_X11_takes_77 hU hL hb h K
    · intro c25
      have h := h.2 c25
      obtain ⟨b26, e27, h⟩ := h
      refine ⟨b26, e27, ?_⟩
      obtain ⟨c28, h⟩ := h
      refine ⟨c28, ?_⟩
      obtain ⟨c29, h⟩ := h
      refine ⟨c29, ?_⟩
      intro x31 e30
      have h := h x31 e30
      refine ⟨?_, ?_⟩
      · intro c32
        have h := h.1 c32
        exact ⟨h, K⟩
      · intro c33
        have h := h.2 c33
        obtain ⟨b34, e35, h⟩ := h
        refine ⟨b34, e35, ?_⟩
        obtain ⟨c36, h⟩ := h
        refine ⟨c36, ?_⟩
        obtain ⟨c37, h⟩ := h
        refine ⟨c37, ?_⟩
        intro x39 e38
        have h := h x39 e38
        refine ⟨?_, ?_⟩
        · intro c40
          have h := h.1 c40
          exact ky_X11_takes_77 hU hL hb h K
        · intro c41
          have h := h.2 c41
          obtain ⟨b42, e43, h⟩ := h
          refine ⟨b42, e43, ?_⟩
          obtain ⟨c44, h⟩ := h
          refine ⟨c44, ?_⟩
          obtain ⟨c45, h⟩ := h
          refine ⟨c45, ?_⟩
          intro x47 e46
          have h := h x47 e46
          obtain ⟨b48, e49, h⟩ := h
          refine ⟨b48, e49, ?_⟩
          obtain ⟨c50, h⟩ := h
          refine ⟨c50, ?_⟩
          obtain ⟨c51, h⟩ := h
          refine ⟨c51, ?_⟩
          intro x53 e52
          have h := h x53 e52
          refine ⟨?_, ?_⟩
          · intro c54
            have h := h.1 c54
            exact ky_X11_takes_77 hU hL hb h K
          · intro c55
            have h := h.2 c55
            exact ⟨h, K⟩
  · intro c56
    have h := h.2 c56
    exact ⟨h, K⟩
theorem ky_X11_takes {b : Bool} {L : List (Nat × Nat)} (hU : ∀ q ∈ L, q ∈ nyT) (hL : ∀ q ∈ kyL_X11_takes, q ∈ L) (hb : False → b = false) {Q : HS → Prop} {v0 : Nat} {v1 : Int32} {v2 : Int32} {v3 : Int64} {v5 : Int32} {S : HS} (h : P_X11_takes v0 v1 v2 v3 v5 Q S) : P_X11_takes v0 v1 v2 v3 v5 (fun T => Q T ∧ K9 b L S T) S := ky_X11_takes_0 hU hL hb h (k9_rf b L S)
abbrev kyL_X11_waitsOf : List (Nat × Nat) := []
set_option maxRecDepth 20000 in
set_option maxHeartbeats 1000000 in
theorem ky_X11_waitsOf_0 {b : Bool} {L : List (Nat × Nat)} (hU : ∀ q ∈ L, q ∈ nyT) (hL : ∀ q ∈ kyL_X11_waitsOf, q ∈ L) (hb : False → b = false) {Q : Int64 → HS → Prop} {v0 : Nat} {v1 : Int32} {v2 : Int32} {v3 : Int32} {S0 S : HS} (h : P_X11_waitsOf_0 Q v0 v1 v2 v3 S) (K : K9 b L S0 S) : P_X11_waitsOf_0 (fun r T => Q r T ∧ K9 b L S0 T) v0 v1 v2 v3 S := by
  delta P_X11_waitsOf_0 at h ⊢
  obtain ⟨c1, h⟩ := h
  refine ⟨c1, ?_⟩
  have o2 := c1
  refine cm_X11_hourOf (ky_X11_hourOf (b := b) hU (fun q hq => hL q ((by decide : ∀ q ∈ kyL_X11_hourOf, q ∈ kyL_X11_waitsOf) q hq)) (fun z => z.elim) h) h (fun x3 x4 p6 h g5 => ?_)
  have h := h g5
  have K := k9_tr K p6.2
  have o2 := gr_ob p6.2.1 o2
  obtain ⟨b7, e8, h⟩ := h
  refine ⟨b7, e8, ?_⟩
  obtain ⟨c9, h⟩ := h
  refine ⟨c9, ?_⟩
  have o10 := c9
  obtain ⟨b11, e12, h⟩ := h
  refine ⟨b11, e12, ?_⟩
  obtain ⟨c13, h⟩ := h
  refine ⟨c13, ?_⟩
  obtain ⟨c14, h⟩ := h
  refine ⟨c14, ?_⟩
  intro x16 e15
  have h := h x16 e15
  refine ⟨?_, ?_⟩
  · intro c17
    have h := h.1 c17
    exact ⟨h, K⟩
  · intro c18
    have h := h.2 c18
    obtain ⟨b19, e20, h⟩ := h
    refine ⟨b19, e20, ?_⟩
    obtain ⟨c21, h⟩ := h
    refine ⟨c21, ?_⟩
    intro x23 e22
    have h := h x23 e22
    refine ⟨?_, ?_⟩
    · intro c24
      have h := h.1 c24
      refine cm_X11_drips (ky_X11_drips (b := b) hU (fun q hq => hL q ((by decide : ∀ q ∈ kyL_X11_drips, q ∈ kyL_X11_waitsOf) q hq)) (fun z => z.elim) h) h (fun x25 x26 p28 h g27 => ?_)
      have h := h g27
      have K := k9_tr K p28.2
      have o2 := gr_ob p28.2.1 o2
      have o10 := gr_ob p28.2.1 o10
      obtain ⟨b29, e30, h⟩ := h
      refine ⟨b29, e30, ?_⟩
      obtain ⟨c31, h⟩ := h
      refine ⟨c31, ?_⟩
      have o32 := c31
      obtain ⟨b33, e34, h⟩ := h
      refine ⟨b33, e34, ?_⟩
      obtain ⟨c35, h⟩ := h
      refine ⟨c35, ?_⟩
      obtain ⟨c36, h⟩ := h
      refine ⟨c36, ?_⟩
      intro x38 e37
      have h := h x38 e37
      exact ⟨h, K⟩
    · intro c39
      have h := h.2 c39
      exact ⟨h, K⟩
theorem ky_X11_waitsOf {b : Bool} {L : List (Nat × Nat)} (hU : ∀ q ∈ L, q ∈ nyT) (hL : ∀ q ∈ kyL_X11_waitsOf, q ∈ L) (hb : False → b = false) {Q : Int64 → HS → Prop} {v0 : Nat} {v1 : Int32} {v2 : Int32} {v3 : Int32} {S : HS} (h : P_X11_waitsOf v0 v1 v2 v3 Q S) : P_X11_waitsOf v0 v1 v2 v3 (fun r T => Q r T ∧ K9 b L S T) S := ky_X11_waitsOf_0 hU hL hb h (k9_rf b L S)
abbrev kyL_X11_tries : List (Nat × Nat) := [(11, 16)]
set_option maxRecDepth 20000 in
set_option maxHeartbeats 1000000 in
theorem ky_X11_tries_140 {b : Bool} {L : List (Nat × Nat)} (hU : ∀ q ∈ L, q ∈ nyT) (hL : ∀ q ∈ kyL_X11_tries, q ∈ L) (hb : False → b = false) {Q : HS → Prop} {X3 X3_2 : Nat → Int32 → Int32 → Int32 → Int32 → Int32 → HS → Prop} {X18 X18_2 : Nat → Int32 → Int32 → Int32 → Int32 → Int32 → Int32 → HS → Prop} {X53 X53_2 : Nat → Int32 → Int32 → Int32 → Int32 → Int32 → Int32 → Int32 → HS → Prop} {v0 : Nat} {v1 : Int32} {v2 : Int32} {v3 : Int32} {v4 : Int32} {v5 : Int32} {v6 : Int32} {v7 : Int32} {S0 S : HS} (h : P_X11_tries_140 Q X3 X18 X53 v0 v1 v2 v3 v4 v5 v6 v7 S) (K : K9 b L S0 S) (hX3 : ∀ (u0 : Nat) (u1 : Int32) (u2 : Int32) (u3 : Int32) (u4 : Int32) (u5 : Int32) (u6 : HS), X3 u0 u1 u2 u3 u4 u5 u6 → K9 b L S0 u6 → X3_2 u0 u1 u2 u3 u4 u5 u6) (hX18 : ∀ (u0 : Nat) (u1 : Int32) (u2 : Int32) (u3 : Int32) (u4 : Int32) (u5 : Int32) (u6 : Int32) (u7 : HS), X18 u0 u1 u2 u3 u4 u5 u6 u7 → K9 b L S0 u7 → X18_2 u0 u1 u2 u3 u4 u5 u6 u7) (hX53 : ∀ (u0 : Nat) (u1 : Int32) (u2 : Int32) (u3 : Int32) (u4 : Int32) (u5 : Int32) (u6 : Int32) (u7 : Int32) (u8 : HS), X53 u0 u1 u2 u3 u4 u5 u6 u7 u8 → K9 b L S0 u8 → X53_2 u0 u1 u2 u3 u4 u5 u6 u7 u8) : P_X11_tries_140 (fun T => Q T ∧ K9 b L S0 T) X3_2 X18_2 X53_2 v0 v1 v2 v3 v4 v5 v6 v7 S := by
  delta P_X11_tries_140 at h ⊢
  intro x2 e1
  have h := h x2 e1
  exact hX53 _ _ _ _ _ _ _ _ _ h K
set_option maxRecDepth 20000 in
set_option maxHeartbeats 1000000 in
theorem ky_X11_tries_146 {b : Bool} {L : List (Nat × Nat)} (hU : ∀ q ∈ L, q ∈ nyT) (hL : ∀ q ∈ kyL_X11_tries, q ∈ L) (hb : False → b = false) {Q : HS → Prop} {X3 X3_2 : Nat → Int32 → Int32 → Int32 → Int32 → Int32 → HS → Prop} {X18 X18_2 : Nat → Int32 → Int32 → Int32 → Int32 → Int32 → Int32 → HS → Prop} {v0 : Nat} {v1 : Int32} {v2 : Int32} {v3 : Int32} {v4 : Int32} {v5 : Int32} {v6 : Int32} {S0 S : HS} (h : P_X11_tries_146 Q X3 X18 v0 v1 v2 v3 v4 v5 v6 S) (K : K9 b L S0 S) (hX3 : ∀ (u0 : Nat) (u1 : Int32) (u2 : Int32) (u3 : Int32) (u4 : Int32) (u5 : Int32) (u6 : HS), X3 u0 u1 u2 u3 u4 u5 u6 → K9 b L S0 u6 → X3_2 u0 u1 u2 u3 u4 u5 u6) (hX18 : ∀ (u0 : Nat) (u1 : Int32) (u2 : Int32) (u3 : Int32) (u4 : Int32) (u5 : Int32) (u6 : Int32) (u7 : HS), X18 u0 u1 u2 u3 u4 u5 u6 u7 → K9 b L S0 u7 → X18_2 u0 u1 u2 u3 u4 u5 u6 u7) : P_X11_tries_146 (fun T => Q T ∧ K9 b L S0 T) X3_2 X18_2 v0 v1 v2 v3 v4 v5 v6 S := by
  delta P_X11_tries_146 at h ⊢
  intro x2 e1
  have h := h x2 e1
  exact hX18 _ _ _ _ _ _ _ _ h K
set_option maxRecDepth 20000 in
set_option maxHeartbeats 1000000 in
theorem kyB_X11_tries_53 {b : Bool} {L : List (Nat × Nat)} (hU : ∀ q ∈ L, q ∈ nyT) (hL : ∀ q ∈ kyL_X11_tries, q ∈ L) (hb : False → b = false) {Q : HS → Prop} {X3 X3_2 : Nat → Int32 → Int32 → Int32 → Int32 → Int32 → HS → Prop} {X18 X18_2 : Nat → Int32 → Int32 → Int32 → Int32 → Int32 → Int32 → HS → Prop} {X53 X53_2 : Nat → Int32 → Int32 → Int32 → Int32 → Int32 → Int32 → Int32 → HS → Prop} {v0 : Nat} {v1 : Int32} {v2 : Int32} {v3 : Int32} {v4 : Int32} {v5 : Int32} {v6 : Int32} {v7 : Int32} {S0 S : HS} (h : B_X11_tries_53 Q X3 X18 X53 v0 v1 v2 v3 v4 v5 v6 v7 S) (K : K9 b L S0 S) (hX3 : ∀ (u0 : Nat) (u1 : Int32) (u2 : Int32) (u3 : Int32) (u4 : Int32) (u5 : Int32) (u6 : HS), X3 u0 u1 u2 u3 u4 u5 u6 → K9 b L S0 u6 → X3_2 u0 u1 u2 u3 u4 u5 u6) (hX18 : ∀ (u0 : Nat) (u1 : Int32) (u2 : Int32) (u3 : Int32) (u4 : Int32) (u5 : Int32) (u6 : Int32) (u7 : HS), X18 u0 u1 u2 u3 u4 u5 u6 u7 → K9 b L S0 u7 → X18_2 u0 u1 u2 u3 u4 u5 u6 u7) (hX53 : ∀ (u0 : Nat) (u1 : Int32) (u2 : Int32) (u3 : Int32) (u4 : Int32) (u5 : Int32) (u6 : Int32) (u7 : Int32) (u8 : HS), X53 u0 u1 u2 u3 u4 u5 u6 u7 u8 → K9 b L S0 u8 → X53_2 u0 u1 u2 u3 u4 u5 u6 u7 u8) : B_X11_tries_53 (fun T => Q T ∧ K9 b L S0 T) X3_2 X18_2 X53_2 v0 v1 v2 v3 v4 v5 v6 v7 S := by
  delta B_X11_tries_53 at h ⊢
  obtain ⟨c1, h⟩ := h
  refine ⟨c1, ?_⟩
  have o2 := c1
  obtain ⟨b3, e4, h⟩ := h
  refine ⟨b3, e4, ?_⟩
  obtain ⟨c5, h⟩ := h
  refine ⟨c5, ?_⟩
  have o6 := c5
  obtain ⟨b7, e8, h⟩ := h
  refine ⟨b7, e8, ?_⟩
  obtain ⟨c9, h⟩ := h
  refine ⟨c9, ?_⟩
  obtain ⟨c10, h⟩ := h
  refine ⟨c10, ?_⟩
  intro x12 e11
  have h := h x12 e11
  refine ⟨?_, ?_⟩
  · intro c13
    have h := h.1 c13
    exact ky_X11_tries_146 hU hL hb h K hX3 hX18
  · intro c14
    have h := h.2 c14
    obtain ⟨b15, e16, h⟩ := h
    refine ⟨b15, e16, ?_⟩
    obtain ⟨c17, h⟩ := h
    refine ⟨c17, ?_⟩
    refine cm_X10_minutes (ky_X10_minutes (b := b) hU (fun q hq => hL q ((by decide : ∀ q ∈ kyL_X10_minutes, q ∈ kyL_X11_tries) q hq)) (fun z => z.elim) h) h (fun x18 x19 p21 h g20 => ?_)
    have h := h g20
    have K := k9_tr K p21.2
    have o2 := gr_ob p21.2.1 o2
    have o6 := gr_ob p21.2.1 o6
    intro x23 e22
    have h := h x23 e22
    refine ⟨?_, ?_⟩
    · intro c24
      have h := h.1 c24
      exact ky_X11_tries_140 hU hL hb h K hX3 hX18 hX53
    · intro c25
      have h := h.2 c25
      refine cm_X11_spotOf (ky_X11_spotOf (b := b) hU (fun q hq => hL q ((by decide : ∀ q ∈ kyL_X11_spotOf, q ∈ kyL_X11_tries) q hq)) (fun z => z.elim) h) h (fun x26 x27 p29 h g28 => ?_)
      have h := h g28
      have K := k9_tr K p29.2
      have o2 := gr_ob p29.2.1 o2
      have o6 := gr_ob p29.2.1 o6
      obtain ⟨b30, e31, h⟩ := h
      refine ⟨b30, e31, ?_⟩
      obtain ⟨c32, h⟩ := h
      refine ⟨c32, ?_⟩
      refine cm_X10_ends (ky_X10_ends (b := b) hU (fun q hq => hL q ((by decide : ∀ q ∈ kyL_X10_ends, q ∈ kyL_X11_tries) q hq)) (fun z => z.elim) h) h (fun x33 x34 p36 h g35 => ?_)
      have h := h g35
      have K := k9_tr K p36.2
      have o2 := gr_ob p36.2.1 o2
      have o6 := gr_ob p36.2.1 o6
      refine cm_X11_spotOf (ky_X11_spotOf (b := b) hU (fun q hq => hL q ((by decide : ∀ q ∈ kyL_X11_spotOf, q ∈ kyL_X11_tries) q hq)) (fun z => z.elim) h) h (fun x37 x38 p40 h g39 => ?_)
      have h := h g39
      have K := k9_tr K p40.2
      have o2 := gr_ob p40.2.1 o2
      have o6 := gr_ob p40.2.1 o6
      refine cm_X11_meanOf (ky_X11_meanOf (b := b) hU (fun q hq => hL q ((by decide : ∀ q ∈ kyL_X11_meanOf, q ∈ kyL_X11_tries) q hq)) (fun z => z.elim) h) h (fun x41 x42 p44 h g43 => ?_)
      have h := h g43
      have K := k9_tr K p44.2
      have o2 := gr_ob p44.2.1 o2
      have o6 := gr_ob p44.2.1 o6
      refine cm_X11_takes (ky_X11_takes (b := b) hU (fun q hq => hL q ((by decide : ∀ q ∈ kyL_X11_takes, q ∈ kyL_X11_tries) q hq)) (fun z => z.elim) h) h (fun x45 p47 h g46 => ?_)
      have h := h g46
      have K := k9_tr K p47.2
      have o2 := gr_ob p47.2.1 o2
      have o6 := gr_ob p47.2.1 o6
      exact ky_X11_tries_140 hU hL hb h K hX3 hX18 hX53
theorem ky_X11_tries_53 {b : Bool} {L : List (Nat × Nat)} (hU : ∀ q ∈ L, q ∈ nyT) (hL : ∀ q ∈ kyL_X11_tries, q ∈ L) (hb : False → b = false) {Q : HS → Prop} {X3 X3_2 : Nat → Int32 → Int32 → Int32 → Int32 → Int32 → HS → Prop} {X18 X18_2 : Nat → Int32 → Int32 → Int32 → Int32 → Int32 → Int32 → HS → Prop} {v0 : Nat} {v1 : Int32} {v2 : Int32} {v3 : Int32} {v4 : Int32} {v5 : Int32} {v6 : Int32} {v7 : Int32} {S0 S : HS} (h : P_X11_tries_53 Q X3 X18 v0 v1 v2 v3 v4 v5 v6 v7 S) (K : K9 b L S0 S) (hX3 : ∀ (u0 : Nat) (u1 : Int32) (u2 : Int32) (u3 : Int32) (u4 : Int32) (u5 : Int32) (u6 : HS), X3 u0 u1 u2 u3 u4 u5 u6 → K9 b L S0 u6 → X3_2 u0 u1 u2 u3 u4 u5 u6) (hX18 : ∀ (u0 : Nat) (u1 : Int32) (u2 : Int32) (u3 : Int32) (u4 : Int32) (u5 : Int32) (u6 : Int32) (u7 : HS), X18 u0 u1 u2 u3 u4 u5 u6 u7 → K9 b L S0 u7 → X18_2 u0 u1 u2 u3 u4 u5 u6 u7) : P_X11_tries_53 (fun T => Q T ∧ K9 b L S0 T) X3_2 X18_2 v0 v1 v2 v3 v4 v5 v6 v7 S := h (fun v0 v1 v2 v3 v4 v5 v6 v7 S => K9 b L S0 S → P_X11_tries_53 (fun T => Q T ∧ K9 b L S0 T) X3_2 X18_2 v0 v1 v2 v3 v4 v5 v6 v7 S) (fun v0 v1 v2 v3 v4 v5 v6 v7 S hB K => fd_X11_tries_53 (kyB_X11_tries_53 hU hL hb hB K hX3 hX18 (fun _ _ _ _ _ _ _ _ _ hx K => hx K))) K
set_option maxRecDepth 20000 in
set_option maxHeartbeats 1000000 in
theorem kyB_X11_tries_18 {b : Bool} {L : List (Nat × Nat)} (hU : ∀ q ∈ L, q ∈ nyT) (hL : ∀ q ∈ kyL_X11_tries, q ∈ L) (hb : False → b = false) {Q : HS → Prop} {X3 X3_2 : Nat → Int32 → Int32 → Int32 → Int32 → Int32 → HS → Prop} {X18 X18_2 : Nat → Int32 → Int32 → Int32 → Int32 → Int32 → Int32 → HS → Prop} {v0 : Nat} {v1 : Int32} {v2 : Int32} {v3 : Int32} {v4 : Int32} {v5 : Int32} {v6 : Int32} {S0 S : HS} (h : B_X11_tries_18 Q X3 X18 v0 v1 v2 v3 v4 v5 v6 S) (K : K9 b L S0 S) (hX3 : ∀ (u0 : Nat) (u1 : Int32) (u2 : Int32) (u3 : Int32) (u4 : Int32) (u5 : Int32) (u6 : HS), X3 u0 u1 u2 u3 u4 u5 u6 → K9 b L S0 u6 → X3_2 u0 u1 u2 u3 u4 u5 u6) (hX18 : ∀ (u0 : Nat) (u1 : Int32) (u2 : Int32) (u3 : Int32) (u4 : Int32) (u5 : Int32) (u6 : Int32) (u7 : HS), X18 u0 u1 u2 u3 u4 u5 u6 u7 → K9 b L S0 u7 → X18_2 u0 u1 u2 u3 u4 u5 u6 u7) : B_X11_tries_18 (fun T => Q T ∧ K9 b L S0 T) X3_2 X18_2 v0 v1 v2 v3 v4 v5 v6 S := by
  delta B_X11_tries_18 at h ⊢
  refine ⟨?_, ?_⟩
  · intro c1
    have h := h.1 c1
    intro x3 e2
    have h := h x3 e2
    exact hX3 _ _ _ _ _ _ _ h K
  · intro c4
    have h := h.2 c4
    obtain ⟨c5, h⟩ := h
    refine ⟨c5, ?_⟩
    have o6 := c5
    obtain ⟨b7, e8, h⟩ := h
    refine ⟨b7, e8, ?_⟩
    obtain ⟨c9, h⟩ := h
    refine ⟨c9, ?_⟩
    refine cm_X10_begins (ky_X10_begins (b := b) hU (fun q hq => hL q ((by decide : ∀ q ∈ kyL_X10_begins, q ∈ kyL_X11_tries) q hq)) (fun z => z.elim) h) h (fun x10 x11 p13 h g12 => ?_)
    have h := h g12
    have K := k9_tr K p13.2
    have o6 := gr_ob p13.2.1 o6
    refine ⟨?_, ?_⟩
    · intro c14
      have h := h.1 c14
      obtain ⟨b15, e16, h⟩ := h
      refine ⟨b15, e16, ?_⟩
      obtain ⟨c17, h⟩ := h
      refine ⟨c17, ?_⟩
      have o18 := c17
      obtain ⟨b19, e20, h⟩ := h
      refine ⟨b19, e20, ?_⟩
      obtain ⟨c21, h⟩ := h
      refine ⟨c21, ?_⟩
      obtain ⟨c22, h⟩ := h
      refine ⟨c22, ?_⟩
      intro x24 e23
      have h := h x24 e23
      exact ky_X11_tries_53 hU hL hb h K hX3 hX18
    · intro c25
      have h := h.2 c25
      exact ky_X11_tries_146 hU hL hb h K hX3 hX18
theorem ky_X11_tries_18 {b : Bool} {L : List (Nat × Nat)} (hU : ∀ q ∈ L, q ∈ nyT) (hL : ∀ q ∈ kyL_X11_tries, q ∈ L) (hb : False → b = false) {Q : HS → Prop} {X3 X3_2 : Nat → Int32 → Int32 → Int32 → Int32 → Int32 → HS → Prop} {v0 : Nat} {v1 : Int32} {v2 : Int32} {v3 : Int32} {v4 : Int32} {v5 : Int32} {v6 : Int32} {S0 S : HS} (h : P_X11_tries_18 Q X3 v0 v1 v2 v3 v4 v5 v6 S) (K : K9 b L S0 S) (hX3 : ∀ (u0 : Nat) (u1 : Int32) (u2 : Int32) (u3 : Int32) (u4 : Int32) (u5 : Int32) (u6 : HS), X3 u0 u1 u2 u3 u4 u5 u6 → K9 b L S0 u6 → X3_2 u0 u1 u2 u3 u4 u5 u6) : P_X11_tries_18 (fun T => Q T ∧ K9 b L S0 T) X3_2 v0 v1 v2 v3 v4 v5 v6 S := h (fun v0 v1 v2 v3 v4 v5 v6 S => K9 b L S0 S → P_X11_tries_18 (fun T => Q T ∧ K9 b L S0 T) X3_2 v0 v1 v2 v3 v4 v5 v6 S) (fun v0 v1 v2 v3 v4 v5 v6 S hB K => fd_X11_tries_18 (kyB_X11_tries_18 hU hL hb hB K hX3 (fun _ _ _ _ _ _ _ _ hx K => hx K))) K
set_option maxRecDepth 20000 in
set_option maxHeartbeats 1000000 in
theorem kyB_X11_tries_3 {b : Bool} {L : List (Nat × Nat)} (hU : ∀ q ∈ L, q ∈ nyT) (hL : ∀ q ∈ kyL_X11_tries, q ∈ L) (hb : False → b = false) {Q : HS → Prop} {X3 X3_2 : Nat → Int32 → Int32 → Int32 → Int32 → Int32 → HS → Prop} {v0 : Nat} {v1 : Int32} {v2 : Int32} {v3 : Int32} {v4 : Int32} {v5 : Int32} {S0 S : HS} (h : B_X11_tries_3 Q X3 v0 v1 v2 v3 v4 v5 S) (K : K9 b L S0 S) (hX3 : ∀ (u0 : Nat) (u1 : Int32) (u2 : Int32) (u3 : Int32) (u4 : Int32) (u5 : Int32) (u6 : HS), X3 u0 u1 u2 u3 u4 u5 u6 → K9 b L S0 u6 → X3_2 u0 u1 u2 u3 u4 u5 u6) : B_X11_tries_3 (fun T => Q T ∧ K9 b L S0 T) X3_2 v0 v1 v2 v3 v4 v5 S := by
  delta B_X11_tries_3 at h ⊢
  obtain ⟨c1, h⟩ := h
  refine ⟨c1, ?_⟩
  have o2 := c1
  obtain ⟨b3, e4, h⟩ := h
  refine ⟨b3, e4, ?_⟩
  obtain ⟨c5, h⟩ := h
  refine ⟨c5, ?_⟩
  intro x7 e6
  have h := h x7 e6
  refine ⟨?_, ?_⟩
  · intro c8
    have h := h.1 c8
    refine cm_X11_canWait (ky_X11_canWait (b := b) hU (fun q hq => hL q ((by decide : ∀ q ∈ kyL_X11_canWait, q ∈ kyL_X11_tries) q hq)) (fun z => z.elim) h) h (fun x9 x10 p13 h g11 g12 => ?_)
    have h := h g11 g12
    have K := k9_tr K p13.2
    have o2 := gr_ob p13.2.1 o2
    refine ⟨?_, ?_⟩
    · intro c14
      have h := h.1 c14
      exact ⟨h, K⟩
    · intro c15
      have h := h.2 c15
      refine ⟨?_, ?_⟩
      · intro c16
        have h := h.1 c16
        exact ⟨h, K⟩
      · intro c17
        have h := h.2 c17
        refine cm_X11_spotOf (ky_X11_spotOf (b := b) hU (fun q hq => hL q ((by decide : ∀ q ∈ kyL_X11_spotOf, q ∈ kyL_X11_tries) q hq)) (fun z => z.elim) h) h (fun x18 x19 p21 h g20 => ?_)
        have h := h g20
        have K := k9_tr K p21.2
        have o2 := gr_ob p21.2.1 o2
        refine cm_X11_spotOf (ky_X11_spotOf (b := b) hU (fun q hq => hL q ((by decide : ∀ q ∈ kyL_X11_spotOf, q ∈ kyL_X11_tries) q hq)) (fun z => z.elim) h) h (fun x22 x23 p25 h g24 => ?_)
        have h := h g24
        have K := k9_tr K p25.2
        have o2 := gr_ob p25.2.1 o2
        refine cm_X11_waitsOf (ky_X11_waitsOf (b := b) hU (fun q hq => hL q ((by decide : ∀ q ∈ kyL_X11_waitsOf, q ∈ kyL_X11_tries) q hq)) (fun z => z.elim) h) h (fun x26 x27 p29 h g28 => ?_)
        have h := h g28
        have K := k9_tr K p29.2
        have o2 := gr_ob p29.2.1 o2
        refine cm_X11_takes (ky_X11_takes (b := b) hU (fun q hq => hL q ((by decide : ∀ q ∈ kyL_X11_takes, q ∈ kyL_X11_tries) q hq)) (fun z => z.elim) h) h (fun x30 p32 h g31 => ?_)
        have h := h g31
        have K := k9_tr K p32.2
        have o2 := gr_ob p32.2.1 o2
        exact ⟨h, K⟩
  · intro c33
    have h := h.2 c33
    exact ky_X11_tries_18 hU hL hb h K hX3
theorem ky_X11_tries_3 {b : Bool} {L : List (Nat × Nat)} (hU : ∀ q ∈ L, q ∈ nyT) (hL : ∀ q ∈ kyL_X11_tries, q ∈ L) (hb : False → b = false) {Q : HS → Prop} {v0 : Nat} {v1 : Int32} {v2 : Int32} {v3 : Int32} {v4 : Int32} {v5 : Int32} {S0 S : HS} (h : P_X11_tries_3 Q v0 v1 v2 v3 v4 v5 S) (K : K9 b L S0 S) : P_X11_tries_3 (fun T => Q T ∧ K9 b L S0 T) v0 v1 v2 v3 v4 v5 S := h (fun v0 v1 v2 v3 v4 v5 S => K9 b L S0 S → P_X11_tries_3 (fun T => Q T ∧ K9 b L S0 T) v0 v1 v2 v3 v4 v5 S) (fun v0 v1 v2 v3 v4 v5 S hB K => fd_X11_tries_3 (kyB_X11_tries_3 hU hL hb hB K (fun _ _ _ _ _ _ _ hx K => hx K))) K
set_option maxRecDepth 20000 in
set_option maxHeartbeats 1000000 in
theorem ky_X11_tries_0 {b : Bool} {L : List (Nat × Nat)} (hU : ∀ q ∈ L, q ∈ nyT) (hL : ∀ q ∈ kyL_X11_tries, q ∈ L) (hb : False → b = false) {Q : HS → Prop} {v0 : Nat} {v1 : Int32} {v2 : Int32} {v3 : Int32} {v4 : Int32} {S0 S : HS} (h : P_X11_tries_0 Q v0 v1 v2 v3 v4 S) (K : K9 b L S0 S) : P_X11_tries_0 (fun T => Q T ∧ K9 b L S0 T) v0 v1 v2 v3 v4 S := by
  delta P_X11_tries_0 at h ⊢
  exact ky_X11_tries_3 hU hL hb h K
theorem ky_X11_tries {b : Bool} {L : List (Nat × Nat)} (hU : ∀ q ∈ L, q ∈ nyT) (hL : ∀ q ∈ kyL_X11_tries, q ∈ L) (hb : False → b = false) {Q : HS → Prop} {v0 : Nat} {v1 : Int32} {v2 : Int32} {v3 : Int32} {v4 : Int32} {S : HS} (h : P_X11_tries v0 v1 v2 v3 v4 Q S) : P_X11_tries v0 v1 v2 v3 v4 (fun T => Q T ∧ K9 b L S T) S := ky_X11_tries_0 hU hL hb h (k9_rf b L S)
end
