/-! what the reference's lines write -/
def LTm (rd : Nat) (S0 S : HS) (k : Nat) (V : Nat → Option Int32) : Prop := fR S = fR S0 ∧ ∀ i b, 7 ≤ i → i ≤ 27 → fR S0 rd i = some b → fI S b = match V i with
  | some v => va_up (fI S0 b) k v
  | none => fI S0 b
def DMr (m rd : Nat) (S : HS) : Prop := (∀ i b, 7 ≤ i → i ≤ 30 → fR S rd i = some b → b ≠ m ∧ b ≠ rd) ∧ ∀ i j b, 7 ≤ i → i ≤ 30 → 7 ≤ j → j ≤ 30 → fR S rd i = some b → fR S rd j = some b → i = j
section Ct7
variable {f : Nat → Int32} {n a m rd nm ns nk p k i b j : Nat} {A A' : AS} {σ τ : Res} {S0 S T : HS} {V : Nat → Option Int32} {v : Int32}
theorem ltm_0 (rd k : Nat) (S : HS) : LTm rd S S k (fun _ => none) := ⟨rfl, fun _ _ _ _ _ => rfl⟩
theorem ltm_F (D : DMr m rd S0) (h : LTm rd S0 S k V) (F : FM m S T) : LTm rd S0 T k V := ⟨F.2.2.2.1.trans h.1, fun i b h1 h2 e => (F.2.2.2.2.1 b (D.1 i b h1 (by omega) e).1).1.trans (h.2 i b h1 h2 e)⟩
theorem ltm_C (D : DMr m rd S0) (h : LTm rd S0 S k V) (e : T = sI S rd j v) : LTm rd S0 T k V := ⟨by rw [e]; exact h.1, fun i b h1 h2 e' => (row_o e (D.1 i b h1 (by omega) e').2).trans (h.2 i b h1 h2 e')⟩
theorem ltm_m (D : DMr m rd S0) (h : LTm rd S0 S k V) (e : T = sI S m j v) : LTm rd S0 T k V := ⟨by rw [e]; exact h.1, fun i b h1 h2 e' => (row_o e (D.1 i b h1 (by omega) e').1).trans (h.2 i b h1 h2 e')⟩
theorem ltm_I (D : DMr m rd S0) (h : LTm rd S0 S k V) (hb : fR S rd i = some b) (e : T = sI S b j v) (hj : j = k) (h7 : 7 ≤ i ∧ i ≤ 27) (hv : V i = none) : LTm rd S0 T k (va_up V i (some v)) := by
  subst hj
  rw [h.1] at hb
  refine ⟨by rw [e]; exact h.1, fun i' b' h1 h2 e' => ?_⟩
  by_cases hi : i' = i
  · subst hi
    cases hb.symm.trans e'
    rw [row_I e, h.2 i' b h1 h2 hb, hv, va_up_self]
  · have hne : b' ≠ b := fun z => hi (D.2 i' i b' h1 (by omega) h7.1 (by omega) e' (z ▸ hb))
    rw [row_o e hne, h.2 i' b' h1 h2 e', va_up_ne _ _ hi]
theorem lm_no {L : Res} (M : MS f n a m τ T) (e : τ = L) (c : fI T m 9 = 5) : ∀ q, ¬ L = .inl q := fun p hp => by
  obtain ⟨q, hq⟩ := (ms_9 M).2.2.2.2.mp c
  rw [← e, hq] at hp
  cases hp
theorem rb_mk {R : Res} {g : Nat → Res} {p q : Nat} (h : R = .inl p) (h2 : g p = .inl q) : rb R g = .inl q := by
  rw [h]
  exact h2
theorem i32_of {x : Int32} {t : Int64} (h : x.toInt64 = t) : x = t.toInt32 := by rw [← h, Int32.toInt32_toInt64]
def vN (s N : Nat) (c : Nat → Int32) (i : Nat) : Option Int32 := if s ≤ i ∧ i < s + N then some (c (i - s)) else none
theorem vN_0 (s : Nat) (c : Nat → Int32) : (fun _ => none) = vN s 0 c := by
  funext i
  unfold vN
  rw [if_neg (by omega)]
theorem vN_S {s N : Nat} {c : Nat → Int32} {x : Int32} (hx : x = c N) : va_up (vN s N c) (s + N) (some x) = vN s (N + 1) c := by
  funext i
  by_cases h : i = s + N
  · rw [h, va_up_self]
    unfold vN
    rw [if_pos (by omega), Nat.add_sub_cancel_left, hx]
  · rw [va_up_ne _ _ h]
    unfold vN
    by_cases h2 : s ≤ i ∧ i < s + N
    · rw [if_pos h2, if_pos (by omega)]
    · rw [if_neg h2, if_neg (by omega)]
end Ct7
/-! the reference's rain and road lines: what they write -/
section Ct8
variable {f : Nat → Int32} {n a rd nm ns nk p : Nat} {A : AS} {σ : Res} {Q : Int32 → HS → Prop} {QU : HS → Prop} {S T : HS} {v0 : Nat}
theorem vN_none {s N i : Nat} {c : Nat → Int32} (h : ¬ (s ≤ i ∧ i < s + N)) : vN s N c i = none := if_neg h
theorem sq_X11_readRain (h : P_X11_readRain v0 QU S) (M : MS f n a v0 (.inl p) S) (W : RMw v0 rd nm ns nk A S) (dm : DMr v0 rd S) (hg : ∀ q, (.inl p : Res) = .inl q → tS f n q ≠ 6) : P_X11_readRain v0 (fun T => QU T ∧ LBm f n a v0 rd nm ns nk (rb (sRoom f n p (aH A) (aHs A) 6) fun p => sRain f n p) (up1 A) T ∧ ∀ q, (rb (sRoom f n p (aH A) (aHs A) 6) fun p => sRain f n p) = .inl q → LTm rd S T (aHs A) (vN 7 5 (rnC f n (tEn f n p)))) S := by
  have lt := ltm_0 rd (aHs A) S
  rw [vN_0 7 (rnC f n (tEn f n p))] at lt
  delta P_X11_readRain P_X11_readRain_0
  obtain ⟨oq1, h⟩ := h
  refine ⟨oq1, ?_⟩
  obtain ⟨aq2, eaq2, h⟩ := h
  refine ⟨aq2, eaq2, ?_⟩
  cases W.1.symm.trans eaq2
  obtain ⟨oq3, h⟩ := h
  refine ⟨oq3, ?_⟩
  intro xq4 exq4
  have h := h xq4 exq4
  refine cm_X11_begins (sp_X11_begins (c := aHs A) (k := 6) h M W hg (exq4.trans W.2.2.1.2.1) rfl W.2.2.2.2.1.2.1 (by decide) (fun z => by have := W.2.2.2.2.2 z; omega)) h (fun Sq5 hp h gq6 => ?_)
  have h := h gq6
  obtain ⟨-, M, G⟩ := hp
  have W := rm_F W G
  replace lt := ltm_F dm lt G
  refine cm_X11_readPart (sp_X11_readPart (w := 3) h M (by decide)) h (fun xq7 Sq8 hp h gq9 => ?_)
  have h := h gq9
  obtain ⟨-, M, G, Vxq7⟩ := hp
  have W := rm_F W G
  replace lt := ltm_F dm lt G
  refine cm_X11_readPart (sp_X11_readPart (w := 4) h M (by decide)) h (fun xq10 Sq11 hp h gq12 => ?_)
  have h := h gq12
  obtain ⟨-, M, G, Vxq10⟩ := hp
  have W := rm_F W G
  replace lt := ltm_F dm lt G
  refine cm_X11_needs (sp_X11_needs (w := 5) h M (by decide)) h (fun Sq13 hp h gq14 => ?_)
  have h := h gq14
  obtain ⟨-, M, G⟩ := hp
  have W := rm_F W G
  replace lt := ltm_F dm lt G
  refine cm_X11_readSide (sp_X11_readSide h M) h (fun xq15 Sq16 hp h gq17 => ?_)
  have h := h gq17
  obtain ⟨-, M, G, Vxq15⟩ := hp
  have W := rm_F W G
  replace lt := ltm_F dm lt G
  refine cm_X11_readWhole (sp_X11_readWhole h M) h (fun xq18 Sq19 hp h gq20 => ?_)
  have h := h gq20
  obtain ⟨-, M, G, Vxq18⟩ := hp
  have W := rm_F W G
  replace lt := ltm_F dm lt G
  refine cm_X11_readPart (sp_X11_readPart (w := 10) h M (by decide)) h (fun xq21 Sq22 hp h gq23 => ?_)
  have h := h gq23
  obtain ⟨-, M, G, Vxq21⟩ := hp
  have W := rm_F W G
  replace lt := ltm_F dm lt G
  intro xq24 exq24
  have h := h xq24 exq24
  refine ⟨?_, ?_⟩
  · intro cq25
    obtain ⟨q, hq⟩ := ms_ok M (fun z => cq25 (exq24.trans z))
    simp only [rb_rb] at hq
    obtain ⟨p1, hp1, hq1⟩ := rb_inl (R := sRoom f n p (aH A) (aHs A) 6) hq
    obtain ⟨p2, hp2, hq2⟩ := rb_inl hq1
    obtain ⟨p3, hp3, hq3⟩ := rb_inl hq2
    obtain ⟨p4, hp4, hq4⟩ := rb_inl hq3
    obtain ⟨p5, hp5, hq5⟩ := rb_inl hq4
    obtain ⟨p6, hp6, hq6⟩ := rb_inl hq5
    have y0 := Vxq7 p1 p2 hp1 hp2
    have y1 := Vxq10 p2 p3 (by simp only [rb, hp1, hp2]) hp3
    have y2 := sdV_of (k := 0) (Vxq15 p4 p5 (by simp only [rb, hp1, hp2, hp3, hp4]) hp5)
    have y3 := i32_of (Vxq18 p5 p6 (by simp only [rb, hp1, hp2, hp3, hp4, hp5]) hp6)
    have y4 := Vxq21 p6 q (by simp only [rb, hp1, hp2, hp3, hp4, hp5, hp6]) hq6
    have z1 := (sRoom_inl hp1).1
    subst z1
    have z2 := sPart_inl hp2
    subst z2
    have z3 := sPart_inl hp3
    subst z3
    have z4 := sWord_inl hp4
    subst z4
    have z5 := sSide_inl hp5
    subst z5
    have z6 := sWhole_inl hp6
    subst z6
    have rk := room_ok hp1
    have h := h.1 cq25
    obtain ⟨aq26, eaq26, h⟩ := h
    refine ⟨aq26, eaq26, ?_⟩
    cases W.1.symm.trans eaq26
    obtain ⟨oq27, h⟩ := h
    refine ⟨oq27, ?_⟩
    obtain ⟨aq28, eaq28, h⟩ := h
    refine ⟨aq28, eaq28, ?_⟩
    obtain ⟨aq29, eaq29, h⟩ := h
    refine ⟨aq29, eaq29, ?_⟩
    cases W.1.symm.trans eaq29
    obtain ⟨oq30, h⟩ := h
    refine ⟨oq30, ?_⟩
    intro xq31 exq31
    have h := h xq31 exq31
    obtain ⟨oq32, h⟩ := h
    refine ⟨oq32, ?_⟩
    obtain ⟨oq33, h⟩ := h
    refine ⟨oq33, ?_⟩
    intro Sq34 eSq34
    have h := h Sq34 eSq34
    replace lt := ltm_I dm lt eaq28 eSq34 (by rw [exq31.trans W.2.2.1.2.1]; exact nI_cl (by have := rk.2; omega)) (by decide) (vN_none (by omega))
    rw [vN_S (s := 7) (N := 0) (c := rnC f n (tEn f n p)) (by simpa [rnC, e2] using y0)] at lt
    obtain ⟨M, W⟩ := wr_I M W eaq28 oq32 eSq34 (by decide) (by decide)
    obtain ⟨aq35, eaq35, h⟩ := h
    refine ⟨aq35, eaq35, ?_⟩
    cases W.1.symm.trans eaq35
    obtain ⟨oq36, h⟩ := h
    refine ⟨oq36, ?_⟩
    obtain ⟨aq37, eaq37, h⟩ := h
    refine ⟨aq37, eaq37, ?_⟩
    obtain ⟨aq38, eaq38, h⟩ := h
    refine ⟨aq38, eaq38, ?_⟩
    cases W.1.symm.trans eaq38
    obtain ⟨oq39, h⟩ := h
    refine ⟨oq39, ?_⟩
    intro xq40 exq40
    have h := h xq40 exq40
    obtain ⟨oq41, h⟩ := h
    refine ⟨oq41, ?_⟩
    obtain ⟨oq42, h⟩ := h
    refine ⟨oq42, ?_⟩
    intro Sq43 eSq43
    have h := h Sq43 eSq43
    replace lt := ltm_I dm lt eaq37 eSq43 (by rw [exq40.trans W.2.2.1.2.1]; exact nI_cl (by have := rk.2; omega)) (by decide) (vN_none (by omega))
    rw [vN_S (s := 7) (N := 1) (c := rnC f n (tEn f n p)) (by simpa [rnC, e2] using y1)] at lt
    obtain ⟨M, W⟩ := wr_I M W eaq37 oq41 eSq43 (by decide) (by decide)
    obtain ⟨aq44, eaq44, h⟩ := h
    refine ⟨aq44, eaq44, ?_⟩
    cases W.1.symm.trans eaq44
    obtain ⟨oq45, h⟩ := h
    refine ⟨oq45, ?_⟩
    obtain ⟨aq46, eaq46, h⟩ := h
    refine ⟨aq46, eaq46, ?_⟩
    obtain ⟨aq47, eaq47, h⟩ := h
    refine ⟨aq47, eaq47, ?_⟩
    cases W.1.symm.trans eaq47
    obtain ⟨oq48, h⟩ := h
    refine ⟨oq48, ?_⟩
    intro xq49 exq49
    have h := h xq49 exq49
    obtain ⟨oq50, h⟩ := h
    refine ⟨oq50, ?_⟩
    obtain ⟨oq51, h⟩ := h
    refine ⟨oq51, ?_⟩
    intro Sq52 eSq52
    have h := h Sq52 eSq52
    replace lt := ltm_I dm lt eaq46 eSq52 (by rw [exq49.trans W.2.2.1.2.1]; exact nI_cl (by have := rk.2; omega)) (by decide) (vN_none (by omega))
    rw [vN_S (s := 7) (N := 2) (c := rnC f n (tEn f n p)) (by simpa [rnC, e2] using y2)] at lt
    obtain ⟨M, W⟩ := wr_I M W eaq46 oq50 eSq52 (by decide) (by decide)
    obtain ⟨aq53, eaq53, h⟩ := h
    refine ⟨aq53, eaq53, ?_⟩
    cases W.1.symm.trans eaq53
    obtain ⟨oq54, h⟩ := h
    refine ⟨oq54, ?_⟩
    obtain ⟨aq55, eaq55, h⟩ := h
    refine ⟨aq55, eaq55, ?_⟩
    obtain ⟨aq56, eaq56, h⟩ := h
    refine ⟨aq56, eaq56, ?_⟩
    cases W.1.symm.trans eaq56
    obtain ⟨oq57, h⟩ := h
    refine ⟨oq57, ?_⟩
    intro xq58 exq58
    have h := h xq58 exq58
    obtain ⟨oq59, h⟩ := h
    refine ⟨oq59, ?_⟩
    obtain ⟨oq60, h⟩ := h
    refine ⟨oq60, ?_⟩
    intro Sq61 eSq61
    have h := h Sq61 eSq61
    replace lt := ltm_I dm lt eaq55 eSq61 (by rw [exq58.trans W.2.2.1.2.1]; exact nI_cl (by have := rk.2; omega)) (by decide) (vN_none (by omega))
    rw [vN_S (s := 7) (N := 3) (c := rnC f n (tEn f n p)) (by simpa [rnC, e2] using y3)] at lt
    obtain ⟨M, W⟩ := wr_I M W eaq55 oq59 eSq61 (by decide) (by decide)
    obtain ⟨aq62, eaq62, h⟩ := h
    refine ⟨aq62, eaq62, ?_⟩
    cases W.1.symm.trans eaq62
    obtain ⟨oq63, h⟩ := h
    refine ⟨oq63, ?_⟩
    obtain ⟨aq64, eaq64, h⟩ := h
    refine ⟨aq64, eaq64, ?_⟩
    obtain ⟨aq65, eaq65, h⟩ := h
    refine ⟨aq65, eaq65, ?_⟩
    cases W.1.symm.trans eaq65
    obtain ⟨oq66, h⟩ := h
    refine ⟨oq66, ?_⟩
    intro xq67 exq67
    have h := h xq67 exq67
    obtain ⟨oq68, h⟩ := h
    refine ⟨oq68, ?_⟩
    obtain ⟨oq69, h⟩ := h
    refine ⟨oq69, ?_⟩
    intro Sq70 eSq70
    have h := h Sq70 eSq70
    replace lt := ltm_I dm lt eaq64 eSq70 (by rw [exq67.trans W.2.2.1.2.1]; exact nI_cl (by have := rk.2; omega)) (by decide) (vN_none (by omega))
    rw [vN_S (s := 7) (N := 4) (c := rnC f n (tEn f n p)) (by simpa [rnC, e2] using y4)] at lt
    obtain ⟨M, W⟩ := wr_I M W eaq64 oq68 eSq70 (by decide) (by decide)
    obtain ⟨aq71, eaq71, h⟩ := h
    refine ⟨aq71, eaq71, ?_⟩
    cases W.1.symm.trans eaq71
    obtain ⟨oq72, h⟩ := h
    refine ⟨oq72, ?_⟩
    intro xq73 exq73
    have h := h xq73 exq73
    intro xq74 exq74
    have h := h xq74 exq74
    intro Sq75 eSq75
    have h := h Sq75 eSq75
    have eL := eSq75
    obtain ⟨M, W⟩ := wr_C (A' := up1 A) M W eL (by decide) (cn_1 W.2.2.1 eL (inc_ exq73 W.2.2.1.2.1 exq74)) rfl (ab_1 W.2.2.2.2.1 rk.2) (zc_h rk.1)
    replace lt := ltm_C dm lt eL
    exact ⟨h, lm_ok M (by simp only [rb_rb, sRain, l64_0, l64_1, l64_5, l64_8, l64_9, l64_60, l64_99, l64_100, l64_999]; rfl) W, fun _ _ => lt⟩
  · intro cq76
    have h := h.2 cq76
    exact ⟨h, lm_ov M (by simp only [rb_rb, sRain, l64_0, l64_1, l64_5, l64_8, l64_9, l64_60, l64_99, l64_100, l64_999]; rfl) (exq24.symm.trans cq76), fun q hq => absurd hq (lm_no M (by simp only [rb_rb, sRain, l64_0, l64_1, l64_5, l64_8, l64_9, l64_60, l64_99, l64_100, l64_999]; rfl) (exq24.symm.trans cq76) q)⟩
end Ct8
/-! the road line of the reference: what it writes -/
section Ct9
variable {f : Nat → Int32} {n a rd nm ns nk p : Nat} {A : AS} {σ : Res} {Q : Int32 → HS → Prop} {QU : HS → Prop} {S T : HS} {v0 : Nat}
set_option maxHeartbeats 1000000 in
theorem sq_X11_readRoad (h : P_X11_readRoad v0 QU S) (M : MS f n a v0 (.inl p) S) (W : RMw v0 rd nm ns nk A S) (dm : DMr v0 rd S) (hg : ∀ q, (.inl p : Res) = .inl q → tS f n q ≠ 6) : P_X11_readRoad v0 (fun T => QU T ∧ LBm f n a v0 rd nm ns nk (rb (sRoom f n p (aH A) (aR A) 12) fun p => sRoad f n p A) (up3 A) T ∧ ∀ q, (rb (sRoom f n p (aH A) (aR A) 12) fun p => sRoad f n p A) = .inl q → LTm rd S T (aR A) (vN 13 5 (rdC f n (tEn f n p) A))) S := by
  have lt := ltm_0 rd (aR A) S
  rw [vN_0 13 (rdC f n (tEn f n p) A)] at lt
  delta P_X11_readRoad P_X11_readRoad_0
  obtain ⟨oq1, h⟩ := h
  refine ⟨oq1, ?_⟩
  obtain ⟨aq2, eaq2, h⟩ := h
  refine ⟨aq2, eaq2, ?_⟩
  cases W.1.symm.trans eaq2
  obtain ⟨oq3, h⟩ := h
  refine ⟨oq3, ?_⟩
  intro xq4 exq4
  have h := h xq4 exq4
  refine cm_X11_begins (sp_X11_begins (c := aR A) (k := 12) h M W hg (exq4.trans W.2.2.1.2.2.2.1) rfl W.2.2.2.2.1.2.2.2.1 (by decide) (fun z => by have := W.2.2.2.2.2 z; omega)) h (fun Sq5 hp h gq6 => ?_)
  have h := h gq6
  obtain ⟨-, M, G⟩ := hp
  have W := rm_F W G
  replace lt := ltm_F dm lt G
  refine cm_X11_known (sp_X11_known h M W) h (fun xq7 Sq8 hp h gq9 => ?_)
  have h := h gq9
  obtain ⟨-, M, G, Vxq7⟩ := hp
  have W := rm_F W G
  replace lt := ltm_F dm lt G
  refine cm_X11_goesOn (sp_X11_goesOn h M gs_k) h (fun Sq10 hp h gq11 => ?_)
  have h := h gq11
  obtain ⟨-, M, G⟩ := hp
  have W := rm_F W G
  replace lt := ltm_F dm lt G
  refine cm_X11_readSide (sp_X11_readSide h M) h (fun xq12 Sq13 hp h gq14 => ?_)
  have h := h gq14
  obtain ⟨-, M, G, Vxq12⟩ := hp
  have W := rm_F W G
  replace lt := ltm_F dm lt G
  refine cm_X11_readWhole (sp_X11_readWhole h M) h (fun xq15 Sq16 hp h gq17 => ?_)
  have h := h gq17
  obtain ⟨-, M, G, Vxq15⟩ := hp
  have W := rm_F W G
  replace lt := ltm_F dm lt G
  refine cm_X11_known (sp_X11_known h M W) h (fun xq18 Sq19 hp h gq20 => ?_)
  have h := h gq20
  obtain ⟨-, M, G, Vxq18⟩ := hp
  have W := rm_F W G
  replace lt := ltm_F dm lt G
  intro xq21 exq21
  have h := h xq21 exq21
  refine ⟨?_, ?_⟩
  · intro cq22
    obtain ⟨e0, he0⟩ := (ms_9 M).2.2.2.2.mp (exq21.symm.trans cq22)
    have M := ms_eq M he0
    have HL : (rb (sRoom f n p (aH A) (aR A) 12) fun p => sRoad f n p A) = .inr e0 := road_A (R := sRoom f n p (aH A) (aR A) 12) he0
    have h := h.1 cq22
    delta P_X11_readRoad_62
    obtain ⟨oq23, h⟩ := h
    refine ⟨oq23, ?_⟩
    refine cm_X11_goesOn (sp_X11_goesOn h M (fun q z => by cases z)) h (fun Sq24 hp h gq25 => ?_)
    have h := h gq25
    obtain ⟨-, M, G⟩ := hp
    have W := rm_F W G
    replace lt := ltm_F dm lt G
    have M : MS f n a v0 (.inr e0) _ := M
    refine cm_X11_eatsWord (sp_X11_eatsWord (w := 17) h M (by decide)) h (fun xq26 Sq27 hp h gq28 bq29 => ?_)
    have h := h gq28 bq29
    obtain ⟨-, M, G, Vxq26⟩ := hp
    have W := rm_F W G
    replace lt := ltm_F dm lt G
    refine ⟨?_, ?_⟩
    · intro cq30
      have Ncq30 := an0 Vxq26 cq30
      have M := ms_eq M (rb_idd (fun p hp => (dc_n (hw_np Ncq30 hp)).symm)).symm
      have M : MS f n a v0 (.inr e0) _ := M
      have h := h.1 cq30
      delta P_X11_readRoad_85
      obtain ⟨oq31, h⟩ := h
      refine ⟨oq31, ?_⟩
      intro xq32 exq32
      have h := h xq32 exq32
      refine ⟨?_, ?_⟩
      · intro cq33
        exact absurd (exq32.trans M.2.1.1) cq33
      · intro cq72
        have h := h.2 cq72
        exact ⟨h, lm_ov M HL.symm (exq32.symm.trans cq72), fun q hq => absurd hq (lm_no M HL.symm (exq32.symm.trans cq72) q)⟩
    · intro cq73
      have Ncq73 := an1 Vxq26 cq73
      exact Ncq73.elim
  · intro cq119
    obtain ⟨p5, h5⟩ := ms_ok M (fun z => cq119 (exq21.trans z))
    obtain ⟨p1, k1, p2, k2, r1, r2, r3, r4, r5, r6, r7, r8, r9, r10⟩ := road_B (R := sRoom f n p (aH A) (aR A) 12) h5
    have HL0 := road_2 r1 r2 r3 r5 r6 r7 r8
    have M := ms_eq M h5
    have rk := room_ok r1
    have t0 : rb (rb (.inl p : Res) (fun p => sRoom f n p (aH A) (aR A) 12)) (fun p => sKn f n p A 0) = .inl p1 := by
      show rb (sRoom f n p (aH A) (aR A) 12) _ = _
      rw [r1]; exact r2
    have t2 : rb (rb (rb (rb (.inl p : Res) (fun p => sRoom f n p (aH A) (aR A) 12)) (fun p => sKn f n p A 0)) (fun p => .inl (tEn f n p))) (fun p => sSide f n p) = .inl p2 := by
      rw [t0]; exact r5
    have t3 : rb (rb (rb (rb (rb (.inl p : Res) (fun p => sRoom f n p (aH A) (aR A) 12)) (fun p => sKn f n p A 0)) (fun p => .inl (tEn f n p))) (fun p => sSide f n p)) (fun p => sWhole f n p (1 : Int32).toInt64 (60 : Int32).toInt64) = .inl p5 := by
      rw [t2]; exact r6
    obtain ⟨j1, z1, y1⟩ := Vxq7 p1 p1 r1 r2
    cases r3.symm.trans z1
    obtain ⟨j2, z2, y2⟩ := Vxq18 p5 p5 t3 r7
    cases r8.symm.trans z2
    rw [if_pos r4] at y1
    rw [if_pos r9] at y2
    have y3 : xq15.toInt64 = tV f n p2 := Vxq15 p2 p5 t2 r6
    have y4 : (tV f n p2).toInt32.toInt64 = xq15.toInt64 := by rw [← y3, Int32.toInt32_toInt64]
    have q1 := (sRoom_inl r1).1
    have q2 := sSide_inl r5
    have q5 := sWhole_inl r6
    have w0 : xq7 = rdC f n (tEn f n p) A 0 := by
      rw [y1]
      simp [rdC, ← q1, lkV_of r3]
    have w1 : xq18 = rdC f n (tEn f n p) A 1 := by
      rw [y2]
      simp [rdC, e2, ← q1, ← q2, ← q5, lkV_of r8]
    have w2 : xq12 = rdC f n (tEn f n p) A 2 := by
      have z := sdV_of (k := 0) (Vxq12 (tEn f n p1) p2 (by rw [t0]; rfl) r5)
      rw [z, q1]
      simp [rdC]
    have w3 : xq15 = rdC f n (tEn f n p) A 3 := by
      rw [i32_of y3]
      simp [rdC, e2, ← q1, ← q2]
    have h := h.2 cq119
    refine ⟨?_, ?_⟩
    · intro cq120
      have kn : ¬ k2 = k1 := fun z => cq120 (by rw [y1, y2, z])
      rw [dc_n kn] at HL0
      have h := h.1 cq120
      delta P_X11_readRoad_62
      obtain ⟨oq121, h⟩ := h
      refine ⟨oq121, ?_⟩
      refine cm_X11_goesOn (sp_X11_goesOn h M (fun q z => by cases z; rw [r10.1]; decide)) h (fun Sq122 hp h gq123 => ?_)
      have h := h gq123
      obtain ⟨-, M, G⟩ := hp
      have W := rm_F W G
      replace lt := ltm_F dm lt G
      have M : MS f n a v0 (.inl (tEn f n p5)) _ := M
      refine cm_X11_eatsWord (sp_X11_eatsWord (w := 17) h M (by decide)) h (fun xq124 Sq125 hp h gq126 bq127 => ?_)
      have h := h gq126 bq127
      obtain ⟨-, M, G, Vxq124⟩ := hp
      have W := rm_F W G
      replace lt := ltm_F dm lt G
      refine ⟨?_, ?_⟩
      · intro cq128
        have Ncq128 := an0 Vxq124 cq128
        have M := ms_eq M (rb_idd (fun p hp => (dc_n (hw_np Ncq128 hp)).symm)).symm
        have Ncq128 : ¬ isW f n (tEn f n p5) 17 := Ncq128
        have h := h.1 cq128
        delta P_X11_readRoad_85
        obtain ⟨oq129, h⟩ := h
        refine ⟨oq129, ?_⟩
        intro xq130 exq130
        have h := h xq130 exq130
        refine ⟨?_, ?_⟩
        · intro cq131
          have EQ : (.inl (tEn f n p5) : Res) = (rb (sRoom f n p (aH A) (aR A) 12) fun p => sRoad f n p A) := by
            rw [HL0]
            show (.inl (tEn f n p5) : Res) = dc (isW f n (tEn f n p5) 17) _ _
            rw [dc_n Ncq128]
          have M := ms_eq M EQ
          have w4 : (0 : Int32) = rdC f n (tEn f n p) A 4 := by
            simp only [rdC, e2]
            rw [← q1, ← q2, ← q5, dc_n Ncq128]
            rfl
          have h := h.1 cq131
          obtain ⟨aq132, eaq132, h⟩ := h
          refine ⟨aq132, eaq132, ?_⟩
          cases W.1.symm.trans eaq132
          obtain ⟨oq133, h⟩ := h
          refine ⟨oq133, ?_⟩
          intro xq134 exq134
          have h := h xq134 exq134
          have kx : xq134.toNatClampNeg = aR A := by rw [exq134.trans W.2.2.1.2.2.2.1]; exact nI_cl (by have := rk.2; omega)
          obtain ⟨aq135, eaq135, h⟩ := h
          refine ⟨aq135, eaq135, ?_⟩
          cases W.1.symm.trans eaq135
          obtain ⟨oq136, h⟩ := h
          refine ⟨oq136, ?_⟩
          obtain ⟨aq137, eaq137, h⟩ := h
          refine ⟨aq137, eaq137, ?_⟩
          obtain ⟨oq138, h⟩ := h
          refine ⟨oq138, ?_⟩
          obtain ⟨oq139, h⟩ := h
          refine ⟨oq139, ?_⟩
          intro Sq140 eSq140
          have h := h Sq140 eSq140
          replace lt := ltm_I dm lt eaq137 eSq140 kx (by decide) (vN_none (by omega))
          rw [vN_S (s := 13) (N := 0) (c := rdC f n (tEn f n p) A) w0] at lt
          obtain ⟨M, W⟩ := wr_I M W eaq137 oq138 eSq140 (by decide) (by decide)
          obtain ⟨aq141, eaq141, h⟩ := h
          refine ⟨aq141, eaq141, ?_⟩
          cases W.1.symm.trans eaq141
          obtain ⟨oq142, h⟩ := h
          refine ⟨oq142, ?_⟩
          obtain ⟨aq143, eaq143, h⟩ := h
          refine ⟨aq143, eaq143, ?_⟩
          obtain ⟨oq144, h⟩ := h
          refine ⟨oq144, ?_⟩
          obtain ⟨oq145, h⟩ := h
          refine ⟨oq145, ?_⟩
          intro Sq146 eSq146
          have h := h Sq146 eSq146
          replace lt := ltm_I dm lt eaq143 eSq146 kx (by decide) (vN_none (by omega))
          rw [vN_S (s := 13) (N := 1) (c := rdC f n (tEn f n p) A) w1] at lt
          obtain ⟨M, W⟩ := wr_I M W eaq143 oq144 eSq146 (by decide) (by decide)
          obtain ⟨aq147, eaq147, h⟩ := h
          refine ⟨aq147, eaq147, ?_⟩
          cases W.1.symm.trans eaq147
          obtain ⟨oq148, h⟩ := h
          refine ⟨oq148, ?_⟩
          obtain ⟨aq149, eaq149, h⟩ := h
          refine ⟨aq149, eaq149, ?_⟩
          obtain ⟨oq150, h⟩ := h
          refine ⟨oq150, ?_⟩
          obtain ⟨oq151, h⟩ := h
          refine ⟨oq151, ?_⟩
          intro Sq152 eSq152
          have h := h Sq152 eSq152
          replace lt := ltm_I dm lt eaq149 eSq152 kx (by decide) (vN_none (by omega))
          rw [vN_S (s := 13) (N := 2) (c := rdC f n (tEn f n p) A) w2] at lt
          obtain ⟨M, W⟩ := wr_I M W eaq149 oq150 eSq152 (by decide) (by decide)
          obtain ⟨aq153, eaq153, h⟩ := h
          refine ⟨aq153, eaq153, ?_⟩
          cases W.1.symm.trans eaq153
          obtain ⟨oq154, h⟩ := h
          refine ⟨oq154, ?_⟩
          obtain ⟨aq155, eaq155, h⟩ := h
          refine ⟨aq155, eaq155, ?_⟩
          obtain ⟨oq156, h⟩ := h
          refine ⟨oq156, ?_⟩
          obtain ⟨oq157, h⟩ := h
          refine ⟨oq157, ?_⟩
          intro Sq158 eSq158
          have h := h Sq158 eSq158
          replace lt := ltm_I dm lt eaq155 eSq158 kx (by decide) (vN_none (by omega))
          rw [vN_S (s := 13) (N := 3) (c := rdC f n (tEn f n p) A) w3] at lt
          obtain ⟨M, W⟩ := wr_I M W eaq155 oq156 eSq158 (by decide) (by decide)
          obtain ⟨aq159, eaq159, h⟩ := h
          refine ⟨aq159, eaq159, ?_⟩
          cases W.1.symm.trans eaq159
          obtain ⟨oq160, h⟩ := h
          refine ⟨oq160, ?_⟩
          obtain ⟨aq161, eaq161, h⟩ := h
          refine ⟨aq161, eaq161, ?_⟩
          obtain ⟨oq162, h⟩ := h
          refine ⟨oq162, ?_⟩
          obtain ⟨oq163, h⟩ := h
          refine ⟨oq163, ?_⟩
          intro Sq164 eSq164
          have h := h Sq164 eSq164
          replace lt := ltm_I dm lt eaq161 eSq164 kx (by decide) (vN_none (by omega))
          rw [vN_S (s := 13) (N := 4) (c := rdC f n (tEn f n p) A) w4] at lt
          obtain ⟨M, W⟩ := wr_I M W eaq161 oq162 eSq164 (by decide) (by decide)
          obtain ⟨aq165, eaq165, h⟩ := h
          refine ⟨aq165, eaq165, ?_⟩
          cases W.1.symm.trans eaq165
          obtain ⟨oq166, h⟩ := h
          refine ⟨oq166, ?_⟩
          intro xq167 exq167
          have h := h xq167 exq167
          intro xq168 exq168
          have h := h xq168 exq168
          intro Sq169 eSq169
          have h := h Sq169 eSq169
          have eL := eSq169
          obtain ⟨M, W⟩ := wr_C (A' := up3 A) M W eL (by decide) (cn_3 W.2.2.1 eL (inc_ exq167 W.2.2.1.2.2.2.1 exq168)) rfl (ab_3 W.2.2.2.2.1 rk.2) (zc_h rk.1)
          replace lt := ltm_C dm lt eL
          exact ⟨h, lm_ok M rfl W, fun _ _ => lt⟩
        · intro cq170
          have EQ : (.inl (tEn f n p5) : Res) = (rb (sRoom f n p (aH A) (aR A) 12) fun p => sRoad f n p A) := by
            rw [HL0]
            show (.inl (tEn f n p5) : Res) = dc (isW f n (tEn f n p5) 17) _ _
            rw [dc_n Ncq128]
          have h := h.2 cq170
          exact ⟨h, lm_ov M EQ (exq130.symm.trans cq170), fun q hq => absurd hq (lm_no M EQ (exq130.symm.trans cq170) q)⟩
      · intro cq171
        have Ncq171 := an1 Vxq124 cq171
        have Ncq171 : isW f n (tEn f n p5) 17 := Ncq171
        have h := h.2 cq171
        refine cm_X11_readWhole (sp_X11_readWhole h M) h (fun xq172 Sq173 hp h gq174 => ?_)
        have h := h gq174
        obtain ⟨-, M, G, Vxq172⟩ := hp
        have W := rm_F W G
        replace lt := ltm_F dm lt G
        delta P_X11_readRoad_85
        obtain ⟨oq175, h⟩ := h
        refine ⟨oq175, ?_⟩
        intro xq176 exq176
        have h := h xq176 exq176
        refine ⟨?_, ?_⟩
        · intro cq177
          have EQ : rb (rb (.inl (tEn f n p5) : Res) (fun p => dc (isW f n p 17) (.inl (tEn f n p)) (.inl p))) (fun p => sWhole f n p (0 : Int32).toInt64 xq15.toInt64) = (rb (sRoom f n p (aH A) (aR A) 12) fun p => sRoad f n p A) := by
            rw [HL0]
            show rb (rb (.inl (tEn f n p5)) _) _ = dc (isW f n (tEn f n p5) 17) _ _
            rw [dc_y Ncq171]
            show rb (dc (isW f n (tEn f n p5) 17) _ _) _ = _
            rw [dc_y Ncq171]
            unfold sPart sWord
            rw [if_pos Ncq171, y4]
            rfl
          obtain ⟨q9, hq9⟩ := ms_ok M (fun z => cq177 (exq176.trans z))
          obtain ⟨p8, h8, h9⟩ := rb_inl hq9
          have w4 : xq172 = rdC f n (tEn f n p) A 4 := by
            rw [i32_of (Vxq172 p8 q9 h8 h9)]
            have h8 : dc (isW f n (tEn f n p5) 17) (.inl (tEn f n (tEn f n p5))) (.inl (tEn f n p5)) = (.inl p8 : Res) := h8
            rw [dc_y Ncq171] at h8
            cases h8
            simp only [rdC, e2]
            rw [← q1, ← q2, ← q5, dc_y Ncq171]
            rfl
          have M := ms_eq M EQ
          have h := h.1 cq177
          obtain ⟨aq178, eaq178, h⟩ := h
          refine ⟨aq178, eaq178, ?_⟩
          cases W.1.symm.trans eaq178
          obtain ⟨oq179, h⟩ := h
          refine ⟨oq179, ?_⟩
          intro xq180 exq180
          have h := h xq180 exq180
          have kx : xq180.toNatClampNeg = aR A := by rw [exq180.trans W.2.2.1.2.2.2.1]; exact nI_cl (by have := rk.2; omega)
          obtain ⟨aq181, eaq181, h⟩ := h
          refine ⟨aq181, eaq181, ?_⟩
          cases W.1.symm.trans eaq181
          obtain ⟨oq182, h⟩ := h
          refine ⟨oq182, ?_⟩
          obtain ⟨aq183, eaq183, h⟩ := h
          refine ⟨aq183, eaq183, ?_⟩
          obtain ⟨oq184, h⟩ := h
          refine ⟨oq184, ?_⟩
          obtain ⟨oq185, h⟩ := h
          refine ⟨oq185, ?_⟩
          intro Sq186 eSq186
          have h := h Sq186 eSq186
          replace lt := ltm_I dm lt eaq183 eSq186 kx (by decide) (vN_none (by omega))
          rw [vN_S (s := 13) (N := 0) (c := rdC f n (tEn f n p) A) w0] at lt
          obtain ⟨M, W⟩ := wr_I M W eaq183 oq184 eSq186 (by decide) (by decide)
          obtain ⟨aq187, eaq187, h⟩ := h
          refine ⟨aq187, eaq187, ?_⟩
          cases W.1.symm.trans eaq187
          obtain ⟨oq188, h⟩ := h
          refine ⟨oq188, ?_⟩
          obtain ⟨aq189, eaq189, h⟩ := h
          refine ⟨aq189, eaq189, ?_⟩
          obtain ⟨oq190, h⟩ := h
          refine ⟨oq190, ?_⟩
          obtain ⟨oq191, h⟩ := h
          refine ⟨oq191, ?_⟩
          intro Sq192 eSq192
          have h := h Sq192 eSq192
          replace lt := ltm_I dm lt eaq189 eSq192 kx (by decide) (vN_none (by omega))
          rw [vN_S (s := 13) (N := 1) (c := rdC f n (tEn f n p) A) w1] at lt
          obtain ⟨M, W⟩ := wr_I M W eaq189 oq190 eSq192 (by decide) (by decide)
          obtain ⟨aq193, eaq193, h⟩ := h
          refine ⟨aq193, eaq193, ?_⟩
          cases W.1.symm.trans eaq193
          obtain ⟨oq194, h⟩ := h
          refine ⟨oq194, ?_⟩
          obtain ⟨aq195, eaq195, h⟩ := h
          refine ⟨aq195, eaq195, ?_⟩
          obtain ⟨oq196, h⟩ := h
          refine ⟨oq196, ?_⟩
          obtain ⟨oq197, h⟩ := h
          refine ⟨oq197, ?_⟩
          intro Sq198 eSq198
          have h := h Sq198 eSq198
          replace lt := ltm_I dm lt eaq195 eSq198 kx (by decide) (vN_none (by omega))
          rw [vN_S (s := 13) (N := 2) (c := rdC f n (tEn f n p) A) w2] at lt
          obtain ⟨M, W⟩ := wr_I M W eaq195 oq196 eSq198 (by decide) (by decide)
          obtain ⟨aq199, eaq199, h⟩ := h
          refine ⟨aq199, eaq199, ?_⟩
          cases W.1.symm.trans eaq199
          obtain ⟨oq200, h⟩ := h
          refine ⟨oq200, ?_⟩
          obtain ⟨aq201, eaq201, h⟩ := h
          refine ⟨aq201, eaq201, ?_⟩
          obtain ⟨oq202, h⟩ := h
          refine ⟨oq202, ?_⟩
          obtain ⟨oq203, h⟩ := h
          refine ⟨oq203, ?_⟩
          intro Sq204 eSq204
          have h := h Sq204 eSq204
          replace lt := ltm_I dm lt eaq201 eSq204 kx (by decide) (vN_none (by omega))
          rw [vN_S (s := 13) (N := 3) (c := rdC f n (tEn f n p) A) w3] at lt
          obtain ⟨M, W⟩ := wr_I M W eaq201 oq202 eSq204 (by decide) (by decide)
          obtain ⟨aq205, eaq205, h⟩ := h
          refine ⟨aq205, eaq205, ?_⟩
          cases W.1.symm.trans eaq205
          obtain ⟨oq206, h⟩ := h
          refine ⟨oq206, ?_⟩
          obtain ⟨aq207, eaq207, h⟩ := h
          refine ⟨aq207, eaq207, ?_⟩
          obtain ⟨oq208, h⟩ := h
          refine ⟨oq208, ?_⟩
          obtain ⟨oq209, h⟩ := h
          refine ⟨oq209, ?_⟩
          intro Sq210 eSq210
          have h := h Sq210 eSq210
          replace lt := ltm_I dm lt eaq207 eSq210 kx (by decide) (vN_none (by omega))
          rw [vN_S (s := 13) (N := 4) (c := rdC f n (tEn f n p) A) w4] at lt
          obtain ⟨M, W⟩ := wr_I M W eaq207 oq208 eSq210 (by decide) (by decide)
          obtain ⟨aq211, eaq211, h⟩ := h
          refine ⟨aq211, eaq211, ?_⟩
          cases W.1.symm.trans eaq211
          obtain ⟨oq212, h⟩ := h
          refine ⟨oq212, ?_⟩
          intro xq213 exq213
          have h := h xq213 exq213
          intro xq214 exq214
          have h := h xq214 exq214
          intro Sq215 eSq215
          have h := h Sq215 eSq215
          have eL := eSq215
          obtain ⟨M, W⟩ := wr_C (A' := up3 A) M W eL (by decide) (cn_3 W.2.2.1 eL (inc_ exq213 W.2.2.1.2.2.2.1 exq214)) rfl (ab_3 W.2.2.2.2.1 rk.2) (zc_h rk.1)
          replace lt := ltm_C dm lt eL
          exact ⟨h, lm_ok M rfl W, fun _ _ => lt⟩
        · intro cq216
          have EQ : rb (rb (.inl (tEn f n p5) : Res) (fun p => dc (isW f n p 17) (.inl (tEn f n p)) (.inl p))) (fun p => sWhole f n p (0 : Int32).toInt64 xq15.toInt64) = (rb (sRoom f n p (aH A) (aR A) 12) fun p => sRoad f n p A) := by
            rw [HL0]
            show rb (rb (.inl (tEn f n p5)) _) _ = dc (isW f n (tEn f n p5) 17) _ _
            rw [dc_y Ncq171]
            show rb (dc (isW f n (tEn f n p5) 17) _ _) _ = _
            rw [dc_y Ncq171]
            unfold sPart sWord
            rw [if_pos Ncq171, y4]
            rfl
          have h := h.2 cq216
          exact ⟨h, lm_ov M EQ (exq176.symm.trans cq216), fun q hq => absurd hq (lm_no M EQ (exq176.symm.trans cq216) q)⟩
    · intro cq217
      have ky : k2 = k1 := nI_inj (by omega) (by omega) (by rw [← y1, ← y2, cq217])
      rw [dc_y ky] at HL0
      have HL : (rb (sRoom f n p (aH A) (aR A) 12) fun p => sRoad f n p A) = .inr (3, tSt f n p5) := HL0
      have h := h.2 cq217
      refine cm_X11_flaw (sp_X11_flaw (k := 3) h M rfl) h (fun Sq218 hp h gq219 => ?_)
      have h := h gq219
      obtain ⟨-, M, G⟩ := hp
      have W := rm_F W G
      replace lt := ltm_F dm lt G
      have M : MS f n a v0 (.inr (3, tSt f n p5)) _ := M
      delta P_X11_readRoad_62
      obtain ⟨oq220, h⟩ := h
      refine ⟨oq220, ?_⟩
      refine cm_X11_goesOn (sp_X11_goesOn h M (fun q z => by cases z)) h (fun Sq221 hp h gq222 => ?_)
      have h := h gq222
      obtain ⟨-, M, G⟩ := hp
      have W := rm_F W G
      replace lt := ltm_F dm lt G
      have M : MS f n a v0 (.inr (3, tSt f n p5)) _ := M
      refine cm_X11_eatsWord (sp_X11_eatsWord (w := 17) h M (by decide)) h (fun xq223 Sq224 hp h gq225 bq226 => ?_)
      have h := h gq225 bq226
      obtain ⟨-, M, G, Vxq223⟩ := hp
      have W := rm_F W G
      replace lt := ltm_F dm lt G
      refine ⟨?_, ?_⟩
      · intro cq227
        have Ncq227 := an0 Vxq223 cq227
        have M := ms_eq M (rb_idd (fun p hp => (dc_n (hw_np Ncq227 hp)).symm)).symm
        have M : MS f n a v0 (.inr (3, tSt f n p5)) _ := M
        have h := h.1 cq227
        delta P_X11_readRoad_85
        obtain ⟨oq228, h⟩ := h
        refine ⟨oq228, ?_⟩
        intro xq229 exq229
        have h := h xq229 exq229
        refine ⟨?_, ?_⟩
        · intro cq230
          exact absurd (exq229.trans M.2.1.1) cq230
        · intro cq269
          have h := h.2 cq269
          exact ⟨h, lm_ov M HL.symm (exq229.symm.trans cq269), fun q hq => absurd hq (lm_no M HL.symm (exq229.symm.trans cq269) q)⟩
      · intro cq270
        have Ncq270 := an1 Vxq223 cq270
        exact Ncq270.elim
end Ct9
/-! the place line of the reference: what it writes -/
section Ct10
variable {f : Nat → Int32} {n a rd nm ns nk p : Nat} {A : AS} {σ : Res} {Q : Int32 → HS → Prop} {QU : HS → Prop} {S T : HS} {v0 : Nat}
theorem ltm_N {m k : Nat} {V : Nat → Option Int32} {S0 : HS} (D : DMr m rd S0) (h : LTm rd S0 S k V) (e1 : fR T = fR S) (e2 : ∀ b, b ≠ ns → b ≠ nk → b ≠ rd → fI T b = fI S b) (h29 : fR S rd 29 = some ns) (h30 : fR S rd 30 = some nk) : LTm rd S0 T k V := by
  rw [h.1] at h29 h30
  refine ⟨e1.trans h.1, fun i b h1 h2 e => ?_⟩
  rw [e2 b (fun z => absurd (D.2 i 29 b h1 (by omega) (by decide) (by decide) e (z ▸ h29)) (by omega)) (fun z => absurd (D.2 i 30 b h1 (by omega) (by decide) (by decide) e (z ▸ h30)) (by omega)) (D.1 i b h1 (by omega) e).2]
  exact h.2 i b h1 h2 e
def innOf (k : Nat) : Int32 := if k = 1 then 1 else 0
def treeOf (k : Nat) (v : Int32) : Int32 := if k = 2 then v else -2
def pV (k : Nat) (v : Int32) : Nat → Option Int32 := va_up (va_up (fun _ => none) 18 (some (innOf k))) 12 (some (treeOf k v))
theorem jj {a j : Nat} {v : Int64} (e : T = sJ S a j v) {b : Nat} : fI T b = fI S b := by rw [e]; rfl
theorem fr_X11_names {v1 : Int64} {v3 v4 : Int32} (h : P_X11_names v0 v1 v3 v4 QU S) (hrd : fR S v0 4 = some rd) (h29 : fR S rd 29 = some ns) (h30 : fR S rd 30 = some nk) : P_X11_names v0 v1 v3 v4 (fun T => QU T ∧ fR T = fR S ∧ ∀ b, b ≠ ns → b ≠ nk → b ≠ rd → fI T b = fI S b) S := by
  delta P_X11_names P_X11_names_0
  obtain ⟨o1, h⟩ := h
  refine ⟨o1, ?_⟩
  obtain ⟨a2, ea2, h⟩ := h
  refine ⟨a2, ea2, ?_⟩
  cases hrd.symm.trans ea2
  obtain ⟨o3, h⟩ := h
  refine ⟨o3, ?_⟩
  obtain ⟨a4, ea4, h⟩ := h
  refine ⟨a4, ea4, ?_⟩
  obtain ⟨a5, ea5, h⟩ := h
  refine ⟨a5, ea5, ?_⟩
  cases hrd.symm.trans ea5
  obtain ⟨o6, h⟩ := h
  refine ⟨o6, ?_⟩
  intro x7 ex7
  have h := h x7 ex7
  obtain ⟨o8, h⟩ := h
  refine ⟨o8, ?_⟩
  obtain ⟨o9, h⟩ := h
  refine ⟨o9, ?_⟩
  intro S10 eS10
  have h := h S10 eS10
  have R1 : fR S10 = fR S := by rw [eS10]; exact rfl
  obtain ⟨a11, ea11, h⟩ := h
  refine ⟨a11, ea11, ?_⟩
  rw [R1] at ea11
  cases hrd.symm.trans ea11
  obtain ⟨o12, h⟩ := h
  refine ⟨o12, ?_⟩
  obtain ⟨a13, ea13, h⟩ := h
  refine ⟨a13, ea13, ?_⟩
  rw [R1] at ea13
  cases h29.symm.trans ea13
  obtain ⟨a14, ea14, h⟩ := h
  refine ⟨a14, ea14, ?_⟩
  rw [R1] at ea14
  cases hrd.symm.trans ea14
  obtain ⟨o15, h⟩ := h
  refine ⟨o15, ?_⟩
  intro x16 ex16
  have h := h x16 ex16
  obtain ⟨o17, h⟩ := h
  refine ⟨o17, ?_⟩
  obtain ⟨o18, h⟩ := h
  refine ⟨o18, ?_⟩
  intro S19 eS19
  have h := h S19 eS19
  have R2 : fR S19 = fR S := by rw [eS19]; exact R1
  obtain ⟨a20, ea20, h⟩ := h
  refine ⟨a20, ea20, ?_⟩
  rw [R2] at ea20
  cases hrd.symm.trans ea20
  obtain ⟨o21, h⟩ := h
  refine ⟨o21, ?_⟩
  obtain ⟨a22, ea22, h⟩ := h
  refine ⟨a22, ea22, ?_⟩
  rw [R2] at ea22
  cases h30.symm.trans ea22
  obtain ⟨a23, ea23, h⟩ := h
  refine ⟨a23, ea23, ?_⟩
  rw [R2] at ea23
  cases hrd.symm.trans ea23
  obtain ⟨o24, h⟩ := h
  refine ⟨o24, ?_⟩
  intro x25 ex25
  have h := h x25 ex25
  obtain ⟨o26, h⟩ := h
  refine ⟨o26, ?_⟩
  obtain ⟨o27, h⟩ := h
  refine ⟨o27, ?_⟩
  intro S28 eS28
  have h := h S28 eS28
  have R3 : fR S28 = fR S := by rw [eS28]; exact R2
  obtain ⟨a29, ea29, h⟩ := h
  refine ⟨a29, ea29, ?_⟩
  rw [R3] at ea29
  cases hrd.symm.trans ea29
  obtain ⟨o30, h⟩ := h
  refine ⟨o30, ?_⟩
  intro x31 ex31
  have h := h x31 ex31
  intro x32 ex32
  have h := h x32 ex32
  intro S33 eS33
  have h := h S33 eS33
  have R4 : fR S33 = fR S := by rw [eS33]; exact R3
  exact ⟨h, R4, fun b hb1 hb2 hb3 => by rw [row_o eS33 hb3, row_o eS28 hb2, row_o eS19 hb1, jj eS10]⟩
theorem sq_X11_readPlace (h : P_X11_readPlace v0 QU S) (M : MS f n a v0 (.inl p) S) (W : RMw v0 rd nm ns nk A S) (dm : DMr v0 rd S) (hg : ∀ q, (.inl p : Res) = .inl q → tS f n q ≠ 6) (hAM : aM A = aP A + aW A) : P_X11_readPlace v0 (fun T => QU T ∧ LBm f n a v0 rd nm ns nk (rb (sRoom f n p (aH A) (aP A) 8) fun p => sPlace f n p A) (up2 (upN A (tV f n (tEn f n p)) (aP A))) T ∧ ∀ q, (rb (sRoom f n p (aH A) (aP A) 8) fun p => sPlace f n p A) = .inl q → LTm rd S T (aP A) (pV (plK f n (tEn f n p)) (plV f n (tEn f n p)))) S := by
  have lt := ltm_0 rd (aP A) S
  delta P_X11_readPlace P_X11_readPlace_0
  obtain ⟨oq1, h⟩ := h
  refine ⟨oq1, ?_⟩
  obtain ⟨aq2, eaq2, h⟩ := h
  refine ⟨aq2, eaq2, ?_⟩
  cases W.1.symm.trans eaq2
  obtain ⟨oq3, h⟩ := h
  refine ⟨oq3, ?_⟩
  intro xq4 exq4
  have h := h xq4 exq4
  refine cm_X11_begins (sp_X11_begins (c := aP A) (k := 8) h M W hg (exq4.trans W.2.2.1.2.2.1) rfl W.2.2.2.2.1.2.2.1 (by decide) (fun z => by have := W.2.2.2.2.2 z; omega)) h (fun Sq5 hp h gq6 => ?_)
  have h := h gq6
  obtain ⟨-, M, G⟩ := hp
  have W := rm_F W G
  replace lt := ltm_F dm lt G
  refine cm_X11_readFresh (sp_X11_readFresh h M W) h (fun xq7 Sq8 hp h gq9 => ?_)
  have h := h gq9
  obtain ⟨-, M, G, Vxq7⟩ := hp
  have W := rm_F W G
  replace lt := ltm_F dm lt G
  refine cm_X11_eatsWord (sp_X11_eatsWord (w := 15) h M (by decide)) h (fun xq10 Sq11 hp h gq12 bq13 => ?_)
  have h := h gq12 bq13
  obtain ⟨-, M, G, Vxq10⟩ := hp
  have W := rm_F W G
  replace lt := ltm_F dm lt G
  refine ⟨?_, ?_⟩
  · intro cq14
    have Ncq14 := an1 Vxq10 cq14
    have h := h.1 cq14
    delta P_X11_readPlace_48
    delta P_X11_readPlace_50
    obtain ⟨oq15, h⟩ := h
    refine ⟨oq15, ?_⟩
    intro xq16 exq16
    have h := h xq16 exq16
    refine ⟨?_, ?_⟩
    · intro cq17
      obtain ⟨q, hq⟩ := ms_ok M (fun z => cq17 (exq16.trans z))
      have M := ms_eq (τ := rb (sRoom f n p (aH A) (aP A) 8) fun p => sPlace f n p A) M ((rb_cg (k := fun p => dc (isW f n p 15) (.inl (tEn f n p)) (dc (isW f n p 16) (sPart f n p 16 0 9) (.inl p))) (fun q hq => by rw [dc_y (hw_p Ncq14 hq), dc_y (hw_p Ncq14 hq)])).trans (by simp only [rb_rb, sPlace]; rfl))
      have hq : (rb (sRoom f n p (aH A) (aP A) 8) fun p => sPlace f n p A) = .inl q := Eq.trans (Eq.symm ((rb_cg (k := fun p => dc (isW f n p 15) (.inl (tEn f n p)) (dc (isW f n p 16) (sPart f n p 16 0 9) (.inl p))) (fun q hq => by rw [dc_y (hw_p Ncq14 hq), dc_y (hw_p Ncq14 hq)])).trans (by simp only [rb_rb, sPlace]; rfl))) hq
      obtain ⟨p1, hp1, hq1⟩ := rb_inl hq
      unfold sPlace at hq1
      obtain ⟨p2, hp2, -⟩ := rb_inl hq1
      have z1 := room_e hp1
      have z2 := (sNew_inl hp2).1
      have z3 : rb (rb (.inl p : Res) (fun p => sRoom f n p (aH A) (aP A) 8)) (fun p => sNew f n p (aM A) (aV A) (aI A)) = .inl p2 := by
        show rb (sRoom f n p (aH A) (aP A) 8) _ = _
        rw [hp1]
        exact hp2
      have k15 : isW f n (tEn f n (tEn f n p)) 15 := by
        have z := hw_p Ncq14 z3
        rw [z2, z1] at z
        exact z
      have eK : plK f n (tEn f n p) = 1 := by unfold plK; rw [dc_y k15]
      have wI : vp_nar .boolean xq10 = innOf (plK f n (tEn f n p)) := by
        rw [eK]
        rcases Vxq10 with ⟨-, y⟩ | ⟨y, -⟩
        · rw [y]; rfl
        · exact absurd Ncq14 y
      have wT : (-2 : Int32) = treeOf (plK f n (tEn f n p)) (plV f n (tEn f n p)) := by rw [eK]; rfl
      have rk := room_ok hp1
      have hv := Vxq7 p1 p2 hp1 hp2
      rw [room_e hp1] at hv
      have h := h.1 cq17
      obtain ⟨aq18, eaq18, h⟩ := h
      refine ⟨aq18, eaq18, ?_⟩
      cases W.1.symm.trans eaq18
      obtain ⟨oq19, h⟩ := h
      refine ⟨oq19, ?_⟩
      intro xq20 exq20
      have h := h xq20 exq20
      have h29 := W.2.1.2.1
      have h30 := W.2.1.2.2.1
      refine cm_X11_names (sp_X11_names (idn := aP A) h M W (by have := W.2.2.2.2.1; have := rk.2; have := W.2.2.2.2.1.2.2.2.2.1; omega) (by rw [if_pos rk.2]) (by rw [if_pos rk.2, exq20]; exact W.2.2.1.2.2.1) (by have := rk.2; omega)) (fr_X11_names h W.1 h29 h30) (fun Sq21 hp hf gq22 => ?_)
      have h := hf.1
      replace lt := ltm_N dm lt hf.2.1 hf.2.2 h29 h30
      have h := h gq22
      obtain ⟨-, M, W⟩ := hp
      rw [hv] at W
      obtain ⟨aq23, eaq23, h⟩ := h
      refine ⟨aq23, eaq23, ?_⟩
      cases W.1.symm.trans eaq23
      obtain ⟨oq24, h⟩ := h
      refine ⟨oq24, ?_⟩
      obtain ⟨aq25, eaq25, h⟩ := h
      refine ⟨aq25, eaq25, ?_⟩
      obtain ⟨aq26, eaq26, h⟩ := h
      refine ⟨aq26, eaq26, ?_⟩
      cases W.1.symm.trans eaq26
      obtain ⟨oq27, h⟩ := h
      refine ⟨oq27, ?_⟩
      intro xq28 exq28
      have h := h xq28 exq28
      obtain ⟨oq29, h⟩ := h
      refine ⟨oq29, ?_⟩
      obtain ⟨oq30, h⟩ := h
      refine ⟨oq30, ?_⟩
      intro Sq31 eSq31
      have h := h Sq31 eSq31
      replace lt := ltm_I dm lt eaq25 eSq31 (by rw [exq28.trans W.2.2.1.2.2.1]; exact nI_cl (p := aP A) (by have := rk.2; omega)) (by decide) rfl
      rw [wI] at lt
      obtain ⟨M, W⟩ := wr_I M W eaq25 oq29 eSq31 (by decide) (by decide)
      obtain ⟨aq32, eaq32, h⟩ := h
      refine ⟨aq32, eaq32, ?_⟩
      cases W.1.symm.trans eaq32
      obtain ⟨oq33, h⟩ := h
      refine ⟨oq33, ?_⟩
      obtain ⟨aq34, eaq34, h⟩ := h
      refine ⟨aq34, eaq34, ?_⟩
      obtain ⟨aq35, eaq35, h⟩ := h
      refine ⟨aq35, eaq35, ?_⟩
      cases W.1.symm.trans eaq35
      obtain ⟨oq36, h⟩ := h
      refine ⟨oq36, ?_⟩
      intro xq37 exq37
      have h := h xq37 exq37
      obtain ⟨oq38, h⟩ := h
      refine ⟨oq38, ?_⟩
      obtain ⟨oq39, h⟩ := h
      refine ⟨oq39, ?_⟩
      intro Sq40 eSq40
      have h := h Sq40 eSq40
      replace lt := ltm_I dm lt eaq34 eSq40 (by rw [exq37.trans W.2.2.1.2.2.1]; exact nI_cl (p := aP A) (by have := rk.2; omega)) (by decide) rfl
      rw [wT] at lt
      obtain ⟨M, W⟩ := wr_I M W eaq34 oq38 eSq40 (by decide) (by decide)
      obtain ⟨aq41, eaq41, h⟩ := h
      refine ⟨aq41, eaq41, ?_⟩
      cases W.1.symm.trans eaq41
      obtain ⟨oq42, h⟩ := h
      refine ⟨oq42, ?_⟩
      intro xq43 exq43
      have h := h xq43 exq43
      intro xq44 exq44
      have h := h xq44 exq44
      intro Sq45 eSq45
      have h := h Sq45 eSq45
      have eL := eSq45
      obtain ⟨M, W⟩ := wr_C (A' := up2 (upN A (tV f n (tEn f n p)) (aP A))) M W eL (by decide) (cn_2 W.2.2.1 eL (inc_ exq43 W.2.2.1.2.2.1 exq44)) rfl (ab_2 W.2.2.2.2.1 rk.2) (zc_h rk.1)
      replace lt := ltm_C dm lt eL
      exact ⟨h, lm_ok M rfl W, fun _ _ => lt⟩
    · intro cq46
      exact ⟨h.2 cq46, lm_ov M ((rb_cg (k := fun p => dc (isW f n p 15) (.inl (tEn f n p)) (dc (isW f n p 16) (sPart f n p 16 0 9) (.inl p))) (fun q hq => by rw [dc_y (hw_p Ncq14 hq), dc_y (hw_p Ncq14 hq)])).trans (by simp only [rb_rb, sPlace]; rfl)) (exq16.symm.trans cq46), fun q hq => absurd hq (lm_no M ((rb_cg (k := fun p => dc (isW f n p 15) (.inl (tEn f n p)) (dc (isW f n p 16) (sPart f n p 16 0 9) (.inl p))) (fun q hq => by rw [dc_y (hw_p Ncq14 hq), dc_y (hw_p Ncq14 hq)])).trans (by simp only [rb_rb, sPlace]; rfl)) (exq16.symm.trans cq46) q)⟩
  · intro cq47
    have Ncq47 := an0 Vxq10 cq47
    have M := ms_eq M (rb_idd (fun p hp => (dc_n (hw_np Ncq47 hp)).symm)).symm
    have h := h.2 cq47
    refine cm_X11_eatsWord (sp_X11_eatsWord (w := 16) h M (by decide)) h (fun xq48 Sq49 hp h gq50 bq51 => ?_)
    have h := h gq50 bq51
    obtain ⟨-, M, G, Vxq48⟩ := hp
    have W := rm_F W G
    replace lt := ltm_F dm lt G
    refine ⟨?_, ?_⟩
    · intro cq52
      have Ncq52 := an0 Vxq48 cq52
      have M := ms_eq M (rb_idd (fun p hp => (dc_n (hw_np Ncq52 hp)).symm)).symm
      have h := h.1 cq52
      delta P_X11_readPlace_48
      delta P_X11_readPlace_50
      obtain ⟨oq53, h⟩ := h
      refine ⟨oq53, ?_⟩
      intro xq54 exq54
      have h := h xq54 exq54
      refine ⟨?_, ?_⟩
      · intro cq55
        obtain ⟨q, hq⟩ := ms_ok M (fun z => cq55 (exq54.trans z))
        have M := ms_eq (τ := rb (sRoom f n p (aH A) (aP A) 8) fun p => sPlace f n p A) M ((rb_idd (k := fun p => dc (isW f n p 15) (.inl (tEn f n p)) (dc (isW f n p 16) (sPart f n p 16 0 9) (.inl p))) (fun q hq => by rw [dc_n (hw_np Ncq47 hq), dc_n (hw_np Ncq52 hq)])).trans (by simp only [rb_rb, sPlace]; rfl))
        have hq : (rb (sRoom f n p (aH A) (aP A) 8) fun p => sPlace f n p A) = .inl q := Eq.trans (Eq.symm ((rb_idd (k := fun p => dc (isW f n p 15) (.inl (tEn f n p)) (dc (isW f n p 16) (sPart f n p 16 0 9) (.inl p))) (fun q hq => by rw [dc_n (hw_np Ncq47 hq), dc_n (hw_np Ncq52 hq)])).trans (by simp only [rb_rb, sPlace]; rfl))) hq
        obtain ⟨p1, hp1, hq1⟩ := rb_inl hq
        unfold sPlace at hq1
        obtain ⟨p2, hp2, -⟩ := rb_inl hq1
        have z1 := room_e hp1
        have z2 := (sNew_inl hp2).1
        have z3 : rb (rb (.inl p : Res) (fun p => sRoom f n p (aH A) (aP A) 8)) (fun p => sNew f n p (aM A) (aV A) (aI A)) = .inl p2 := by
          show rb (sRoom f n p (aH A) (aP A) 8) _ = _
          rw [hp1]
          exact hp2
        have k15 : ¬ isW f n (tEn f n (tEn f n p)) 15 := by
          have z := hw_np Ncq47 z3
          rw [z2, z1] at z
          exact z
        have k16 : ¬ isW f n (tEn f n (tEn f n p)) 16 := by
          have z := hw_np Ncq52 z3
          rw [z2, z1] at z
          exact z
        have eK : plK f n (tEn f n p) = 0 := by unfold plK; rw [dc_n k15, dc_n k16]
        have wI : vp_nar .boolean xq10 = innOf (plK f n (tEn f n p)) := by
          rw [eK]
          rcases Vxq10 with ⟨y, -⟩ | ⟨-, y⟩
          · exact absurd y Ncq47
          · rw [y]; rfl
        have wT : (-2 : Int32) = treeOf (plK f n (tEn f n p)) (plV f n (tEn f n p)) := by rw [eK]; rfl
        have rk := room_ok hp1
        have hv := Vxq7 p1 p2 hp1 hp2
        rw [room_e hp1] at hv
        have h := h.1 cq55
        obtain ⟨aq56, eaq56, h⟩ := h
        refine ⟨aq56, eaq56, ?_⟩
        cases W.1.symm.trans eaq56
        obtain ⟨oq57, h⟩ := h
        refine ⟨oq57, ?_⟩
        intro xq58 exq58
        have h := h xq58 exq58
        have h29 := W.2.1.2.1
        have h30 := W.2.1.2.2.1
        refine cm_X11_names (sp_X11_names (idn := aP A) h M W (by have := W.2.2.2.2.1; have := rk.2; have := W.2.2.2.2.1.2.2.2.2.1; omega) (by rw [if_pos rk.2]) (by rw [if_pos rk.2, exq58]; exact W.2.2.1.2.2.1) (by have := rk.2; omega)) (fr_X11_names h W.1 h29 h30) (fun Sq59 hp hf gq60 => ?_)
        have h := hf.1
        replace lt := ltm_N dm lt hf.2.1 hf.2.2 h29 h30
        have h := h gq60
        obtain ⟨-, M, W⟩ := hp
        rw [hv] at W
        obtain ⟨aq61, eaq61, h⟩ := h
        refine ⟨aq61, eaq61, ?_⟩
        cases W.1.symm.trans eaq61
        obtain ⟨oq62, h⟩ := h
        refine ⟨oq62, ?_⟩
        obtain ⟨aq63, eaq63, h⟩ := h
        refine ⟨aq63, eaq63, ?_⟩
        obtain ⟨aq64, eaq64, h⟩ := h
        refine ⟨aq64, eaq64, ?_⟩
        cases W.1.symm.trans eaq64
        obtain ⟨oq65, h⟩ := h
        refine ⟨oq65, ?_⟩
        intro xq66 exq66
        have h := h xq66 exq66
        obtain ⟨oq67, h⟩ := h
        refine ⟨oq67, ?_⟩
        obtain ⟨oq68, h⟩ := h
        refine ⟨oq68, ?_⟩
        intro Sq69 eSq69
        have h := h Sq69 eSq69
        replace lt := ltm_I dm lt eaq63 eSq69 (by rw [exq66.trans W.2.2.1.2.2.1]; exact nI_cl (p := aP A) (by have := rk.2; omega)) (by decide) rfl
        rw [wI] at lt
        obtain ⟨M, W⟩ := wr_I M W eaq63 oq67 eSq69 (by decide) (by decide)
        obtain ⟨aq70, eaq70, h⟩ := h
        refine ⟨aq70, eaq70, ?_⟩
        cases W.1.symm.trans eaq70
        obtain ⟨oq71, h⟩ := h
        refine ⟨oq71, ?_⟩
        obtain ⟨aq72, eaq72, h⟩ := h
        refine ⟨aq72, eaq72, ?_⟩
        obtain ⟨aq73, eaq73, h⟩ := h
        refine ⟨aq73, eaq73, ?_⟩
        cases W.1.symm.trans eaq73
        obtain ⟨oq74, h⟩ := h
        refine ⟨oq74, ?_⟩
        intro xq75 exq75
        have h := h xq75 exq75
        obtain ⟨oq76, h⟩ := h
        refine ⟨oq76, ?_⟩
        obtain ⟨oq77, h⟩ := h
        refine ⟨oq77, ?_⟩
        intro Sq78 eSq78
        have h := h Sq78 eSq78
        replace lt := ltm_I dm lt eaq72 eSq78 (by rw [exq75.trans W.2.2.1.2.2.1]; exact nI_cl (p := aP A) (by have := rk.2; omega)) (by decide) rfl
        rw [wT] at lt
        obtain ⟨M, W⟩ := wr_I M W eaq72 oq76 eSq78 (by decide) (by decide)
        obtain ⟨aq79, eaq79, h⟩ := h
        refine ⟨aq79, eaq79, ?_⟩
        cases W.1.symm.trans eaq79
        obtain ⟨oq80, h⟩ := h
        refine ⟨oq80, ?_⟩
        intro xq81 exq81
        have h := h xq81 exq81
        intro xq82 exq82
        have h := h xq82 exq82
        intro Sq83 eSq83
        have h := h Sq83 eSq83
        have eL := eSq83
        obtain ⟨M, W⟩ := wr_C (A' := up2 (upN A (tV f n (tEn f n p)) (aP A))) M W eL (by decide) (cn_2 W.2.2.1 eL (inc_ exq81 W.2.2.1.2.2.1 exq82)) rfl (ab_2 W.2.2.2.2.1 rk.2) (zc_h rk.1)
        replace lt := ltm_C dm lt eL
        exact ⟨h, lm_ok M rfl W, fun _ _ => lt⟩
      · intro cq84
        exact ⟨h.2 cq84, lm_ov M ((rb_idd (k := fun p => dc (isW f n p 15) (.inl (tEn f n p)) (dc (isW f n p 16) (sPart f n p 16 0 9) (.inl p))) (fun q hq => by rw [dc_n (hw_np Ncq47 hq), dc_n (hw_np Ncq52 hq)])).trans (by simp only [rb_rb, sPlace]; rfl)) (exq54.symm.trans cq84), fun q hq => absurd hq (lm_no M ((rb_idd (k := fun p => dc (isW f n p 15) (.inl (tEn f n p)) (dc (isW f n p 16) (sPart f n p 16 0 9) (.inl p))) (fun q hq => by rw [dc_n (hw_np Ncq47 hq), dc_n (hw_np Ncq52 hq)])).trans (by simp only [rb_rb, sPlace]; rfl)) (exq54.symm.trans cq84) q)⟩
    · intro cq85
      have Ncq85 := an1 Vxq48 cq85
      have h := h.2 cq85
      refine cm_X11_readWhole (sp_X11_readWhole h M) h (fun xq86 Sq87 hp h gq88 => ?_)
      have h := h gq88
      obtain ⟨-, M, G, Vxq86⟩ := hp
      have W := rm_F W G
      replace lt := ltm_F dm lt G
      delta P_X11_readPlace_50
      obtain ⟨oq89, h⟩ := h
      refine ⟨oq89, ?_⟩
      intro xq90 exq90
      have h := h xq90 exq90
      refine ⟨?_, ?_⟩
      · intro cq91
        obtain ⟨q, hq⟩ := ms_ok M (fun z => cq91 (exq90.trans z))
        have hq0 := hq
        have M := ms_eq (τ := rb (sRoom f n p (aH A) (aP A) 8) fun p => sPlace f n p A) M ((rb_rb.trans (rb_cg (k := fun p => dc (isW f n p 15) (.inl (tEn f n p)) (dc (isW f n p 16) (sPart f n p 16 0 9) (.inl p))) (fun q hq => by rw [dc_y (hw_p Ncq85 hq), dc_n (hw_np Ncq47 hq), dc_y (hw_p Ncq85 hq)]; unfold sPart sWord; rw [if_pos (hw_p Ncq85 hq)]; rfl))).trans (by simp only [rb_rb, sPlace]; rfl))
        have hq : (rb (sRoom f n p (aH A) (aP A) 8) fun p => sPlace f n p A) = .inl q := Eq.trans (Eq.symm ((rb_rb.trans (rb_cg (k := fun p => dc (isW f n p 15) (.inl (tEn f n p)) (dc (isW f n p 16) (sPart f n p 16 0 9) (.inl p))) (fun q hq => by rw [dc_y (hw_p Ncq85 hq), dc_n (hw_np Ncq47 hq), dc_y (hw_p Ncq85 hq)]; unfold sPart sWord; rw [if_pos (hw_p Ncq85 hq)]; rfl))).trans (by simp only [rb_rb, sPlace]; rfl))) hq
        obtain ⟨p1, hp1, hq1⟩ := rb_inl hq
        unfold sPlace at hq1
        obtain ⟨p2, hp2, -⟩ := rb_inl hq1
        have z1 := room_e hp1
        have z2 := (sNew_inl hp2).1
        have z3 : rb (rb (.inl p : Res) (fun p => sRoom f n p (aH A) (aP A) 8)) (fun p => sNew f n p (aM A) (aV A) (aI A)) = .inl p2 := by
          show rb (sRoom f n p (aH A) (aP A) 8) _ = _
          rw [hp1]
          exact hp2
        have k15 : ¬ isW f n (tEn f n (tEn f n p)) 15 := by
          have z := hw_np Ncq47 z3
          rw [z2, z1] at z
          exact z
        have k16 : isW f n (tEn f n (tEn f n p)) 16 := by
          have z := hw_p Ncq85 z3
          rw [z2, z1] at z
          exact z
        have eK : plK f n (tEn f n p) = 2 := by unfold plK; rw [dc_n k15, dc_y k16]
        have eV : plV f n (tEn f n p) = pVal f n (tEn f n (tEn f n p)) := by unfold plV; rw [dc_n k15, dc_y k16]
        have wI : vp_nar .boolean xq10 = innOf (plK f n (tEn f n p)) := by
          rw [eK]
          rcases Vxq10 with ⟨y, -⟩ | ⟨-, y⟩
          · exact absurd y Ncq47
          · rw [y]; rfl
        have wT : xq86 = treeOf (plK f n (tEn f n p)) (plV f n (tEn f n p)) := by
          obtain ⟨p8, h8, h9⟩ := rb_inl hq0
          rw [i32_of (Vxq86 p8 q h8 h9), eK, eV]
          have h8 : rb (rb (rb (.inl p : Res) (fun p => sRoom f n p (aH A) (aP A) 8)) (fun p => sNew f n p (aM A) (aV A) (aI A))) (fun p => dc (isW f n p 16) (.inl (tEn f n p)) (.inl p)) = (.inl p8 : Res) := h8
          rw [z3] at h8
          have h8 : dc (isW f n p2 16) (.inl (tEn f n p2)) (.inl p2) = (.inl p8 : Res) := h8
          rw [z2, z1, dc_y k16] at h8
          cases h8
          rfl
        have rk := room_ok hp1
        have hv := Vxq7 p1 p2 hp1 hp2
        rw [room_e hp1] at hv
        have h := h.1 cq91
        obtain ⟨aq92, eaq92, h⟩ := h
        refine ⟨aq92, eaq92, ?_⟩
        cases W.1.symm.trans eaq92
        obtain ⟨oq93, h⟩ := h
        refine ⟨oq93, ?_⟩
        intro xq94 exq94
        have h := h xq94 exq94
        have h29 := W.2.1.2.1
        have h30 := W.2.1.2.2.1
        refine cm_X11_names (sp_X11_names (idn := aP A) h M W (by have := W.2.2.2.2.1; have := rk.2; have := W.2.2.2.2.1.2.2.2.2.1; omega) (by rw [if_pos rk.2]) (by rw [if_pos rk.2, exq94]; exact W.2.2.1.2.2.1) (by have := rk.2; omega)) (fr_X11_names h W.1 h29 h30) (fun Sq95 hp hf gq96 => ?_)
        have h := hf.1
        replace lt := ltm_N dm lt hf.2.1 hf.2.2 h29 h30
        have h := h gq96
        obtain ⟨-, M, W⟩ := hp
        rw [hv] at W
        obtain ⟨aq97, eaq97, h⟩ := h
        refine ⟨aq97, eaq97, ?_⟩
        cases W.1.symm.trans eaq97
        obtain ⟨oq98, h⟩ := h
        refine ⟨oq98, ?_⟩
        obtain ⟨aq99, eaq99, h⟩ := h
        refine ⟨aq99, eaq99, ?_⟩
        obtain ⟨aq100, eaq100, h⟩ := h
        refine ⟨aq100, eaq100, ?_⟩
        cases W.1.symm.trans eaq100
        obtain ⟨oq101, h⟩ := h
        refine ⟨oq101, ?_⟩
        intro xq102 exq102
        have h := h xq102 exq102
        obtain ⟨oq103, h⟩ := h
        refine ⟨oq103, ?_⟩
        obtain ⟨oq104, h⟩ := h
        refine ⟨oq104, ?_⟩
        intro Sq105 eSq105
        have h := h Sq105 eSq105
        replace lt := ltm_I dm lt eaq99 eSq105 (by rw [exq102.trans W.2.2.1.2.2.1]; exact nI_cl (p := aP A) (by have := rk.2; omega)) (by decide) rfl
        rw [wI] at lt
        obtain ⟨M, W⟩ := wr_I M W eaq99 oq103 eSq105 (by decide) (by decide)
        obtain ⟨aq106, eaq106, h⟩ := h
        refine ⟨aq106, eaq106, ?_⟩
        cases W.1.symm.trans eaq106
        obtain ⟨oq107, h⟩ := h
        refine ⟨oq107, ?_⟩
        obtain ⟨aq108, eaq108, h⟩ := h
        refine ⟨aq108, eaq108, ?_⟩
        obtain ⟨aq109, eaq109, h⟩ := h
        refine ⟨aq109, eaq109, ?_⟩
        cases W.1.symm.trans eaq109
        obtain ⟨oq110, h⟩ := h
        refine ⟨oq110, ?_⟩
        intro xq111 exq111
        have h := h xq111 exq111
        obtain ⟨oq112, h⟩ := h
        refine ⟨oq112, ?_⟩
        obtain ⟨oq113, h⟩ := h
        refine ⟨oq113, ?_⟩
        intro Sq114 eSq114
        have h := h Sq114 eSq114
        replace lt := ltm_I dm lt eaq108 eSq114 (by rw [exq111.trans W.2.2.1.2.2.1]; exact nI_cl (p := aP A) (by have := rk.2; omega)) (by decide) rfl
        rw [wT] at lt
        obtain ⟨M, W⟩ := wr_I M W eaq108 oq112 eSq114 (by decide) (by decide)
        obtain ⟨aq115, eaq115, h⟩ := h
        refine ⟨aq115, eaq115, ?_⟩
        cases W.1.symm.trans eaq115
        obtain ⟨oq116, h⟩ := h
        refine ⟨oq116, ?_⟩
        intro xq117 exq117
        have h := h xq117 exq117
        intro xq118 exq118
        have h := h xq118 exq118
        intro Sq119 eSq119
        have h := h Sq119 eSq119
        have eL := eSq119
        obtain ⟨M, W⟩ := wr_C (A' := up2 (upN A (tV f n (tEn f n p)) (aP A))) M W eL (by decide) (cn_2 W.2.2.1 eL (inc_ exq117 W.2.2.1.2.2.1 exq118)) rfl (ab_2 W.2.2.2.2.1 rk.2) (zc_h rk.1)
        replace lt := ltm_C dm lt eL
        exact ⟨h, lm_ok M rfl W, fun _ _ => lt⟩
      · intro cq120
        exact ⟨h.2 cq120, lm_ov M ((rb_rb.trans (rb_cg (k := fun p => dc (isW f n p 15) (.inl (tEn f n p)) (dc (isW f n p 16) (sPart f n p 16 0 9) (.inl p))) (fun q hq => by rw [dc_y (hw_p Ncq85 hq), dc_n (hw_np Ncq47 hq), dc_y (hw_p Ncq85 hq)]; unfold sPart sWord; rw [if_pos (hw_p Ncq85 hq)]; rfl))).trans (by simp only [rb_rb, sPlace]; rfl)) (exq90.symm.trans cq120), fun q hq => absurd hq (lm_no M ((rb_rb.trans (rb_cg (k := fun p => dc (isW f n p 15) (.inl (tEn f n p)) (dc (isW f n p 16) (sPart f n p 16 0 9) (.inl p))) (fun q hq => by rw [dc_y (hw_p Ncq85 hq), dc_n (hw_np Ncq47 hq), dc_y (hw_p Ncq85 hq)]; unfold sPart sWord; rw [if_pos (hw_p Ncq85 hq)]; rfl))).trans (by simp only [rb_rb, sPlace]; rfl)) (exq90.symm.trans cq120) q)⟩
end Ct10
/-! the walker line of the reference: what it writes -/
section Ct11
variable {f : Nat → Int32} {n a rd nm ns nk p : Nat} {A : AS} {σ : Res} {Q : Int32 → HS → Prop} {QU : HS → Prop} {S T : HS} {v0 : Nat}
noncomputable def wkR (f : Nat → Int32) (n q : Nat) (v3 v4 s0 : Int32) (j : Nat) : Int32 :=
  if j = 0 then v3 else if j = 1 then v4
  else if j = 2 then pVal f n q * (pVal f n (e2 f n q) + s0)
  else if j = 3 then pVal f n q * (pVal f n (e2 f n (e2 f n q)) - s0)
  else if j = 4 then (pVal f n (e2 f n q) + s0) * (pVal f n (e2 f n (e2 f n q)) - s0)
  else if j = 5 then pVal f n (e2 f n (e2 f n (e2 f n q))) else pVal f n (e2 f n (e2 f n (e2 f n (e2 f n q))))
theorem wkR_C {P q : Nat} {v3 v4 s0 : Int32} (hk : v3 = nI (kdOf f n (tEn f n P))) (ha : v4 = amOf f n (tEn f n P)) (hb : s0 = bowOf f n (tEn f n P)) (hp : q = kEn f n (tEn f n P)) : wkR f n q v3 v4 s0 = wkC f n P := by
  rw [hk, ha, hb, hp]
  rfl
theorem ko_0 {q : Nat} (h : isW f n q 21) : kdOf f n q = 0 ∧ amOf f n q = 0 ∧ bowOf f n q = 0 ∧ kEn f n q = tEn f n q := by
  unfold bowOf amOf kdOf kEn
  rw [dc_n (wk_no h cds.1), dc_n (wk_no h cds.2.1), dc_n (wk_no h cds.2.2.1), dc_n (wk_no h cds.1), dc_n (wk_no h cds.2.1), dc_n (wk_no h cds.2.2.1), dc_n (wk_no h cds.1), dc_n (wk_no h cds.2.1), dc_n (wk_no h cds.2.2.1)]
  exact ⟨rfl, rfl, rfl, rfl⟩
theorem ko_1 {q : Nat} (h : isW f n q 18) : kdOf f n q = 1 ∧ amOf f n q = pVal f n q ∧ bowOf f n q = pVal f n q ∧ kEn f n q = e2 f n q := by
  unfold bowOf amOf kdOf kEn
  rw [dc_y h, dc_y h, dc_y h]
  exact ⟨rfl, rfl, rfl, rfl⟩
theorem ko_2 {q : Nat} (h : isW f n q 19) : kdOf f n q = 2 ∧ amOf f n q = pVal f n q ∧ bowOf f n q = 0 ∧ kEn f n q = e2 f n q := by
  unfold bowOf amOf kdOf kEn
  rw [dc_n (wk_no h cds.2.2.2.2.2.2.1), dc_y h, dc_n (wk_no h cds.2.2.2.2.2.2.1), dc_y h, dc_n (wk_no h cds.2.2.2.2.2.2.1), dc_y h]
  exact ⟨rfl, rfl, rfl, rfl⟩
theorem ko_3 {q : Nat} (h : isW f n q 20) : kdOf f n q = 3 ∧ amOf f n q = pVal f n q ∧ bowOf f n q = 0 ∧ kEn f n q = e2 f n q := by
  unfold bowOf amOf kdOf kEn
  rw [dc_n (wk_no h cds.2.2.2.2.2.2.2.1), dc_n (wk_no h cds.2.2.2.2.2.2.2.2), dc_y h, dc_n (wk_no h cds.2.2.2.2.2.2.2.1), dc_n (wk_no h cds.2.2.2.2.2.2.2.2), dc_y h, dc_n (wk_no h cds.2.2.2.2.2.2.2.1), dc_n (wk_no h cds.2.2.2.2.2.2.2.2), dc_y h]
  exact ⟨rfl, rfl, rfl, rfl⟩
set_option maxHeartbeats 1000000 in
theorem wq149 {S0 : HS} {Z : HS → Prop} {R L : Res} {v1 vn : Int64} {v3 v4 s0 : Int32} (h : P_X11_readWalker_149 QU v0 v1 v3 v4 s0 S) (M : MS f n a v0 R S) (W : RMw v0 rd nm ns nk A S) (hAM : aM A = aP A + aW A) (hR : ∀ q, R = .inl q → v1 = vn ∧ aW A < 4 ∧ aH A ≠ 0) (dm : DMr v0 rd S0) (lt : LTm rd S0 S (aW A) (fun _ => none)) (hz : ∀ q T, R = .inl q → LTm rd S0 T (aW A) (vN 19 7 (wkR f n q v3 v4 s0)) → Z T) (HL : rb R (fun p => sTail f n (s0 + 1) p) = L) : P_X11_readWalker_149 (fun T => QU T ∧ LBm f n a v0 rd nm ns nk L (up4 (upN A vn (8 + aW A))) T ∧ ∀ q, L = .inl q → Z T) v0 v1 v3 v4 s0 S := by
  delta P_X11_readWalker_149
  obtain ⟨oq1, h⟩ := h
  refine ⟨oq1, ?_⟩
  refine cm_X11_readPart (sp_X11_readPart (w := 22) h M (by decide)) h (fun xq2 Sq3 hp h gq4 => ?_)
  have h := h gq4
  obtain ⟨-, M, G, Vxq2⟩ := hp
  have W := rm_F W G
  replace lt := ltm_F dm lt G
  refine cm_X11_readPart (sp_X11_readPart (w := 23) h M (by decide)) h (fun xq5 Sq6 hp h gq7 => ?_)
  have h := h gq7
  obtain ⟨-, M, G, Vxq5⟩ := hp
  have W := rm_F W G
  replace lt := ltm_F dm lt G
  refine cm_X11_readPart (sp_X11_readPart (w := 24) h M (by decide)) h (fun xq8 Sq9 hp h gq10 => ?_)
  have h := h gq10
  obtain ⟨-, M, G, Vxq8⟩ := hp
  have W := rm_F W G
  replace lt := ltm_F dm lt G
  refine cm_X11_readPart (sp_X11_readPart (w := 25) h M (by decide)) h (fun xq11 Sq12 hp h gq13 => ?_)
  have h := h gq13
  obtain ⟨-, M, G, Vxq11⟩ := hp
  have W := rm_F W G
  replace lt := ltm_F dm lt G
  refine cm_X11_readPart (sp_X11_readPart (w := 26) h M (by decide)) h (fun xq14 Sq15 hp h gq16 => ?_)
  have h := h gq16
  obtain ⟨-, M, G, Vxq14⟩ := hp
  have W := rm_F W G
  replace lt := ltm_F dm lt G
  intro xq17 exq17
  have h := h xq17 exq17
  refine ⟨?_, ?_⟩
  · intro cq18
    obtain ⟨qa, hqa⟩ := ms_ok M (fun z => cq18 (exq17.trans z))
    obtain ⟨p4, h4, g5⟩ := rb_inl hqa
    obtain ⟨p3, h3, g4⟩ := rb_inl h4
    obtain ⟨p2, h2, g3⟩ := rb_inl h3
    obtain ⟨p1, h1, g2⟩ := rb_inl h2
    obtain ⟨p0, h0, g1⟩ := rb_inl h1
    have y0 := Vxq2 p0 p1 h0 g1
    have y1 := Vxq5 p1 p2 h1 g2
    have y2 := Vxq8 p2 p3 h2 g3
    have y3 := Vxq11 p3 p4 h3 g4
    have y4 := Vxq14 p4 qa h4 g5
    rw [sPart_inl g1] at y1
    rw [sPart_inl g2, sPart_inl g1] at y2
    rw [sPart_inl g3, sPart_inl g2, sPart_inl g1] at y3
    rw [sPart_inl g4, sPart_inl g3, sPart_inl g2, sPart_inl g1] at y4
    rw [vN_0 19 (wkR f n p0 v3 v4 s0)] at lt
    have M := ms_eq (τ := L) M (by
      rw [← HL]
      refine rb_rb.trans (Eq.trans (rb_cg (fun p3 hp3 => rb_cg (k := fun p4 => sPart f n p4 26 (pVal f n p3).toInt64 9) (fun p4 hp4 => by rw [Vxq11 p3 p4 hp3 hp4, l64_9]))) ?_)
      simp only [rb_rb, sTail, sBody, l64_0, l64_1, l64_5, l64_8, l64_9, l64_60, l64_99, l64_100, l64_999])
    obtain ⟨q, hq⟩ := ms_ok M (fun z => cq18 (exq17.trans z))
    obtain ⟨q0, hq0, -⟩ := rb_inl (HL.trans hq)
    obtain ⟨hv, hw4, hH⟩ := hR q0 hq0
    have h := h.1 cq18
    obtain ⟨aq19, eaq19, h⟩ := h
    refine ⟨aq19, eaq19, ?_⟩
    cases W.1.symm.trans eaq19
    obtain ⟨oq20, h⟩ := h
    refine ⟨oq20, ?_⟩
    intro xq21 exq21
    have h := h xq21 exq21
    have kx : xq21.toNatClampNeg = aW A := by rw [exq21.trans W.2.2.1.2.2.2.2.1]; exact nI_cl (by omega)
    have h29 := W.2.1.2.1
    have h30 := W.2.1.2.2.1
    refine cm_X11_names (sp_X11_names (idn := 8 + aW A) h M W (by have := W.2.2.2.2.1.2.2.1; omega) (by rw [if_neg (by omega)]) (by rw [if_neg (by omega), exq21, Nat.add_sub_cancel_left]; exact W.2.2.1.2.2.2.2.1) (by omega)) (fr_X11_names h W.1 h29 h30) (fun Sq22 hp hf gq23 => ?_)
    have h := hf.1
    replace lt := ltm_N dm lt hf.2.1 hf.2.2 h29 h30
    have h := h gq23
    obtain ⟨-, M, W⟩ := hp
    rw [hv] at W
    obtain ⟨aq24, eaq24, h⟩ := h
    refine ⟨aq24, eaq24, ?_⟩
    cases W.1.symm.trans eaq24
    obtain ⟨oq25, h⟩ := h
    refine ⟨oq25, ?_⟩
    obtain ⟨aq26, eaq26, h⟩ := h
    refine ⟨aq26, eaq26, ?_⟩
    obtain ⟨oq27, h⟩ := h
    refine ⟨oq27, ?_⟩
    obtain ⟨oq28, h⟩ := h
    refine ⟨oq28, ?_⟩
    intro Sq29 eSq29
    have h := h Sq29 eSq29
    replace lt := ltm_I dm lt eaq26 eSq29 kx (by decide) (vN_none (by omega))
    rw [vN_S (s := 19) (N := 0) (c := wkR f n p0 v3 v4 s0) (by simp [wkR])] at lt
    obtain ⟨M, W⟩ := wr_I M W eaq26 oq27 eSq29 (by decide) (by decide)
    obtain ⟨aq30, eaq30, h⟩ := h
    refine ⟨aq30, eaq30, ?_⟩
    cases W.1.symm.trans eaq30
    obtain ⟨oq31, h⟩ := h
    refine ⟨oq31, ?_⟩
    obtain ⟨aq32, eaq32, h⟩ := h
    refine ⟨aq32, eaq32, ?_⟩
    obtain ⟨oq33, h⟩ := h
    refine ⟨oq33, ?_⟩
    obtain ⟨oq34, h⟩ := h
    refine ⟨oq34, ?_⟩
    intro Sq35 eSq35
    have h := h Sq35 eSq35
    replace lt := ltm_I dm lt eaq32 eSq35 kx (by decide) (vN_none (by omega))
    rw [vN_S (s := 19) (N := 1) (c := wkR f n p0 v3 v4 s0) (by simp [wkR])] at lt
    obtain ⟨M, W⟩ := wr_I M W eaq32 oq33 eSq35 (by decide) (by decide)
    obtain ⟨aq36, eaq36, h⟩ := h
    refine ⟨aq36, eaq36, ?_⟩
    cases W.1.symm.trans eaq36
    obtain ⟨oq37, h⟩ := h
    refine ⟨oq37, ?_⟩
    obtain ⟨aq38, eaq38, h⟩ := h
    refine ⟨aq38, eaq38, ?_⟩
    obtain ⟨oq39, h⟩ := h
    refine ⟨oq39, ?_⟩
    intro xq40 exq40
    have h := h xq40 exq40
    obtain ⟨oq41, h⟩ := h
    refine ⟨oq41, ?_⟩
    intro Sq42 eSq42
    have h := h Sq42 eSq42
    replace lt := ltm_I dm lt eaq38 eSq42 kx (by decide) (vN_none (by omega))
    rw [vN_S (s := 19) (N := 2) (c := wkR f n p0 v3 v4 s0) (by rw [exq40, y0, y1]; rfl)] at lt
    obtain ⟨M, W⟩ := wr_I M W eaq38 oq39 eSq42 (by decide) (by decide)
    obtain ⟨aq43, eaq43, h⟩ := h
    refine ⟨aq43, eaq43, ?_⟩
    cases W.1.symm.trans eaq43
    obtain ⟨oq44, h⟩ := h
    refine ⟨oq44, ?_⟩
    obtain ⟨aq45, eaq45, h⟩ := h
    refine ⟨aq45, eaq45, ?_⟩
    obtain ⟨oq46, h⟩ := h
    refine ⟨oq46, ?_⟩
    intro xq47 exq47
    have h := h xq47 exq47
    obtain ⟨oq48, h⟩ := h
    refine ⟨oq48, ?_⟩
    intro Sq49 eSq49
    have h := h Sq49 eSq49
    replace lt := ltm_I dm lt eaq45 eSq49 kx (by decide) (vN_none (by omega))
    rw [vN_S (s := 19) (N := 3) (c := wkR f n p0 v3 v4 s0) (by rw [exq47, y0, y2]; rfl)] at lt
    obtain ⟨M, W⟩ := wr_I M W eaq45 oq46 eSq49 (by decide) (by decide)
    obtain ⟨aq50, eaq50, h⟩ := h
    refine ⟨aq50, eaq50, ?_⟩
    cases W.1.symm.trans eaq50
    obtain ⟨oq51, h⟩ := h
    refine ⟨oq51, ?_⟩
    obtain ⟨aq52, eaq52, h⟩ := h
    refine ⟨aq52, eaq52, ?_⟩
    obtain ⟨oq53, h⟩ := h
    refine ⟨oq53, ?_⟩
    intro xq54 exq54
    have h := h xq54 exq54
    obtain ⟨oq55, h⟩ := h
    refine ⟨oq55, ?_⟩
    intro Sq56 eSq56
    have h := h Sq56 eSq56
    replace lt := ltm_I dm lt eaq52 eSq56 kx (by decide) (vN_none (by omega))
    rw [vN_S (s := 19) (N := 4) (c := wkR f n p0 v3 v4 s0) (by rw [exq54, y1, y2]; rfl)] at lt
    obtain ⟨M, W⟩ := wr_I M W eaq52 oq53 eSq56 (by decide) (by decide)
    obtain ⟨aq57, eaq57, h⟩ := h
    refine ⟨aq57, eaq57, ?_⟩
    cases W.1.symm.trans eaq57
    obtain ⟨oq58, h⟩ := h
    refine ⟨oq58, ?_⟩
    obtain ⟨aq59, eaq59, h⟩ := h
    refine ⟨aq59, eaq59, ?_⟩
    obtain ⟨oq60, h⟩ := h
    refine ⟨oq60, ?_⟩
    obtain ⟨oq61, h⟩ := h
    refine ⟨oq61, ?_⟩
    intro Sq62 eSq62
    have h := h Sq62 eSq62
    replace lt := ltm_I dm lt eaq59 eSq62 kx (by decide) (vN_none (by omega))
    rw [vN_S (s := 19) (N := 5) (c := wkR f n p0 v3 v4 s0) (by rw [y3]; rfl)] at lt
    obtain ⟨M, W⟩ := wr_I M W eaq59 oq60 eSq62 (by decide) (by decide)
    obtain ⟨aq63, eaq63, h⟩ := h
    refine ⟨aq63, eaq63, ?_⟩
    cases W.1.symm.trans eaq63
    obtain ⟨oq64, h⟩ := h
    refine ⟨oq64, ?_⟩
    obtain ⟨aq65, eaq65, h⟩ := h
    refine ⟨aq65, eaq65, ?_⟩
    obtain ⟨oq66, h⟩ := h
    refine ⟨oq66, ?_⟩
    obtain ⟨oq67, h⟩ := h
    refine ⟨oq67, ?_⟩
    intro Sq68 eSq68
    have h := h Sq68 eSq68
    replace lt := ltm_I dm lt eaq65 eSq68 kx (by decide) (vN_none (by omega))
    rw [vN_S (s := 19) (N := 6) (c := wkR f n p0 v3 v4 s0) (by rw [y4]; rfl)] at lt
    obtain ⟨M, W⟩ := wr_I M W eaq65 oq66 eSq68 (by decide) (by decide)
    obtain ⟨aq69, eaq69, h⟩ := h
    refine ⟨aq69, eaq69, ?_⟩
    cases W.1.symm.trans eaq69
    obtain ⟨oq70, h⟩ := h
    refine ⟨oq70, ?_⟩
    intro xq71 exq71
    have h := h xq71 exq71
    intro xq72 exq72
    have h := h xq72 exq72
    intro Sq73 eSq73
    have h := h Sq73 eSq73
    have eL := eSq73
    obtain ⟨M, W⟩ := wr_C (A' := up4 (upN A vn (8 + aW A))) M W eL (by decide) (cn_4 W.2.2.1 eL (inc_ exq71 W.2.2.1.2.2.2.2.1 exq72)) rfl (ab_4 W.2.2.2.2.1 hw4) (zc_h hH)
    replace lt := ltm_C dm lt eL
    exact ⟨h, lm_ok M rfl W, fun _ _ => hz p0 _ h0 lt⟩
  · intro cq74
    have M := ms_eq (τ := L) M (by
      rw [← HL]
      refine rb_rb.trans (Eq.trans (rb_cg (fun p3 hp3 => rb_cg (k := fun p4 => sPart f n p4 26 (pVal f n p3).toInt64 9) (fun p4 hp4 => by rw [Vxq11 p3 p4 hp3 hp4, l64_9]))) ?_)
      simp only [rb_rb, sTail, sBody, l64_0, l64_1, l64_5, l64_8, l64_9, l64_60, l64_99, l64_100, l64_999])
    have h := h.2 cq74
    exact ⟨h, lm_ov M rfl (exq17.symm.trans cq74), fun q hq => absurd hq (lm_no M rfl (exq17.symm.trans cq74) q)⟩
set_option maxHeartbeats 1000000 in
theorem sq_X11_readWalker (h : P_X11_readWalker v0 QU S) (M : MS f n a v0 (.inl p) S) (W : RMw v0 rd nm ns nk A S) (dm : DMr v0 rd S) (hg : ∀ q, (.inl p : Res) = .inl q → tS f n q ≠ 6) (hAM : aM A = aP A + aW A) : P_X11_readWalker v0 (fun T => QU T ∧ LBm f n a v0 rd nm ns nk (rb (sRoom f n p (aH A) (aW A) 4) fun p => sWalker f n p A) (up4 (upN A (tV f n (tEn f n p)) (8 + aW A))) T ∧ ∀ q, (rb (sRoom f n p (aH A) (aW A) 4) fun p => sWalker f n p A) = .inl q → LTm rd S T (aW A) (vN 19 7 (wkC f n (tEn f n p)))) S := by
  have lt := ltm_0 rd (aW A) S
  delta P_X11_readWalker P_X11_readWalker_0
  obtain ⟨oq1, h⟩ := h
  refine ⟨oq1, ?_⟩
  obtain ⟨aq2, eaq2, h⟩ := h
  refine ⟨aq2, eaq2, ?_⟩
  cases W.1.symm.trans eaq2
  obtain ⟨oq3, h⟩ := h
  refine ⟨oq3, ?_⟩
  intro xq4 exq4
  have h := h xq4 exq4
  refine cm_X11_begins (sp_X11_begins (c := aW A) (k := 4) h M W hg (exq4.trans W.2.2.1.2.2.2.2.1) rfl W.2.2.2.2.1.2.2.2.2.1 (by decide) (fun z => by have := W.2.2.2.2.2 z; omega)) h (fun Sq5 hp h gq6 => ?_)
  have h := h gq6
  obtain ⟨-, M, G⟩ := hp
  have W := rm_F W G
  replace lt := ltm_F dm lt G
  refine cm_X11_readFresh (sp_X11_readFresh h M W) h (fun xq7 Sq8 hp h gq9 => ?_)
  have h := h gq9
  obtain ⟨-, M, G, Vxq7⟩ := hp
  have W := rm_F W G
  replace lt := ltm_F dm lt G
  refine cm_X11_isWord (sp_X11_isWord (w := 21) h M (by decide)) h (fun xq10 Sq11 hp h gq12 bq13 => ?_)
  have h := h gq12 bq13
  obtain ⟨-, hS, Axq10⟩ := hp
  subst hS
  refine ⟨?_, ?_⟩
  · intro cq14
    have Ncq14 := an0 Axq10 cq14
    have h := h.1 cq14
    refine cm_X11_isWord (sp_X11_isWord (w := 18) h M (by decide)) h (fun xq15 Sq16 hp h gq17 bq18 => ?_)
    have h := h gq17 bq18
    obtain ⟨-, hS, Axq15⟩ := hp
    subst hS
    refine ⟨?_, ?_⟩
    · intro cq19
      have Ncq19 := an0 Axq15 cq19
      have h := h.1 cq19
      refine cm_X11_isWord (sp_X11_isWord (w := 19) h M (by decide)) h (fun xq20 Sq21 hp h gq22 bq23 => ?_)
      have h := h gq22 bq23
      obtain ⟨-, hS, Axq20⟩ := hp
      subst hS
      refine ⟨?_, ?_⟩
      · intro cq24
        have Ncq24 := an0 Axq20 cq24
        have h := h.1 cq24
        refine cm_X11_isWord (sp_X11_isWord (w := 20) h M (by decide)) h (fun xq25 Sq26 hp h gq27 bq28 => ?_)
        have h := h gq27 bq28
        obtain ⟨-, hS, Axq25⟩ := hp
        subst hS
        refine ⟨?_, ?_⟩
        · intro cq29
          have Ncq29 := an0 Axq25 cq29
          have h := h.1 cq29
          delta P_X11_readWalker_74
          refine ⟨?_, ?_⟩
          · intro cq30
            exact absurd rfl cq30
          · intro cq57
            have h := h.2 cq57
            obtain ⟨oq58, h⟩ := h
            refine ⟨oq58, ?_⟩
            refine cm_X11_flaw (sp_X11_flaw (k := 1) h M rfl) h (fun Sq59 hp h gq60 => ?_)
            have h := h gq60
            obtain ⟨-, M, G⟩ := hp
            have W := rm_F W G
            replace lt := ltm_F dm lt G
            delta P_X11_readWalker_85
            obtain ⟨oq61, h⟩ := h
            refine ⟨oq61, ?_⟩
            refine cm_X11_goesOn (sp_X11_goesOn h M gs_f) h (fun Sq62 hp h gq63 => ?_)
            have h := h gq63
            obtain ⟨-, M, G⟩ := hp
            have W := rm_F W G
            replace lt := ltm_F dm lt G
            refine ⟨?_, ?_⟩
            · intro cq64
              have h := h.1 cq64
              refine ⟨?_, ?_⟩
              · intro cq65
                have h := h.1 cq65
                refine ⟨?_, ?_⟩
                · intro cq66
                  have h := h.1 cq66
                  delta P_X11_readWalker_136
                  refine ⟨?_, ?_⟩
                  · intro cq67
                    have h := h.1 cq67
                    refine wq149 (S0 := S) (Z := fun T => LTm rd S T (aW A) (vN 19 7 (wkC f n (tEn f n p)))) h M W hAM (wk_r Vxq7 rb_rb) dm lt (fun q T hR lt' => ?_) (Eq.trans (Eq.trans (by rw [rb_rb (R := rb (rb (.inl p) _) _)]; rfl) (wk_eq (fun q hq => (kd_n (hw_np Ncq14 hq) (hw_np Ncq19 hq) (hw_np Ncq24 hq) (hw_np Ncq29 hq)).symm) (fun q q1 hq hk => vac (p := q) (kd_n (hw_np Ncq14 hq) (hw_np Ncq19 hq) (hw_np Ncq24 hq) (hw_np Ncq29 hq)) hk))) (by simp only [rb_rb, sWalker, sTail]; rfl))
                    obtain ⟨p3, h3, g3⟩ := rb_inl hR
                    obtain ⟨p2, h2, g2⟩ := rb_inl h3
                    cases g2
                  · intro cq68
                    exact absurd cq68 (by decide)
                · intro cq69
                  exact absurd cq69 (by decide)
              · intro cq75
                exact absurd cq75 (by decide)
            · intro cq81
              exact absurd cq81 (by decide)
        · intro cq87
          have Ncq87 := an1 Axq25 cq87
          have h := h.2 cq87
          delta P_X11_readWalker_74
          refine ⟨?_, ?_⟩
          · intro cq88
            have h := h.1 cq88
            delta P_X11_readWalker_85
            obtain ⟨oq89, h⟩ := h
            refine ⟨oq89, ?_⟩
            refine cm_X11_goesOn (sp_X11_goesOn h M (gs_w Ncq87)) h (fun Sq90 hp h gq91 => ?_)
            have h := h gq91
            obtain ⟨-, M, G⟩ := hp
            have W := rm_F W G
            replace lt := ltm_F dm lt G
            refine ⟨?_, ?_⟩
            · intro cq92
              have h := h.1 cq92
              refine ⟨?_, ?_⟩
              · intro cq93
                have h := h.1 cq93
                refine ⟨?_, ?_⟩
                · intro cq94
                  exact absurd rfl cq94
                · intro cq97
                  have h := h.2 cq97
                  refine cm_X11_readWhole (sp_X11_readWhole h M) h (fun xq98 Sq99 hp h gq100 => ?_)
                  have h := h gq100
                  obtain ⟨-, M, G, Vxq98⟩ := hp
                  have W := rm_F W G
                  replace lt := ltm_F dm lt G
                  delta P_X11_readWalker_136
                  refine ⟨?_, ?_⟩
                  · intro cq101
                    have h := h.1 cq101
                    refine wq149 (S0 := S) (Z := fun T => LTm rd S T (aW A) (vN 19 7 (wkC f n (tEn f n p)))) h M W hAM (wk_r Vxq7 rb_rb) dm lt (fun q T hR lt' => ?_) (Eq.trans (Eq.trans (by rw [rb_rb (R := rb (rb (.inl p) _) _)]; rfl) (wk_eq (fun q hq => (kd_3 (hw_p Ncq87 hq)).1.symm) (fun q q1 hq hk => (kd_3 (hw_p Ncq87 hq)).2.symm))) (by simp only [rb_rb, sWalker, sTail]; rfl))
                    obtain ⟨p3, h3, g3⟩ := rb_inl hR
                    obtain ⟨p2, h2, g2⟩ := rb_inl h3
                    cases g2
                    obtain ⟨p1, h1, g1⟩ := rb_inl h2
                    have z1 : p1 = tEn f n p := room_e h1
                    have z2 := (sNew_inl g1).1
                    have iw := hw_p Ncq87 h2
                    have y := i32_of (Vxq98 _ q h3 g3)
                    have z3 := sWhole_inl g3
                    rw [z2, z1] at iw y z3
                    rw [wkR_C (P := tEn f n p) (by rw [(ko_3 iw).1]; rfl) (by rw [(ko_3 iw).2.1]; exact y) (by rw [(ko_3 iw).2.2.1]) (by rw [(ko_3 iw).2.2.2]; exact z3)] at lt'
                    exact lt'
                  · intro cq102
                    exact absurd cq102 (by decide)
              · intro cq103
                exact absurd cq103 (by decide)
            · intro cq109
              exact absurd cq109 (by decide)
          · intro cq115
            exact absurd cq115 (by decide)
      · intro cq145
        have Ncq145 := an1 Axq20 cq145
        have h := h.2 cq145
        delta P_X11_readWalker_74
        refine ⟨?_, ?_⟩
        · intro cq146
          have h := h.1 cq146
          delta P_X11_readWalker_85
          obtain ⟨oq147, h⟩ := h
          refine ⟨oq147, ?_⟩
          refine cm_X11_goesOn (sp_X11_goesOn h M (gs_w Ncq145)) h (fun Sq148 hp h gq149 => ?_)
          have h := h gq149
          obtain ⟨-, M, G⟩ := hp
          have W := rm_F W G
          replace lt := ltm_F dm lt G
          refine ⟨?_, ?_⟩
          · intro cq150
            have h := h.1 cq150
            refine ⟨?_, ?_⟩
            · intro cq151
              exact absurd rfl cq151
            · intro cq161
              have h := h.2 cq161
              refine cm_X11_readWhole (sp_X11_readWhole h M) h (fun xq162 Sq163 hp h gq164 => ?_)
              have h := h gq164
              obtain ⟨-, M, G, Vxq162⟩ := hp
              have W := rm_F W G
              replace lt := ltm_F dm lt G
              delta P_X11_readWalker_136
              refine ⟨?_, ?_⟩
              · intro cq165
                have h := h.1 cq165
                refine wq149 (S0 := S) (Z := fun T => LTm rd S T (aW A) (vN 19 7 (wkC f n (tEn f n p)))) h M W hAM (wk_r Vxq7 rb_rb) dm lt (fun q T hR lt' => ?_) (Eq.trans (Eq.trans (by rw [rb_rb (R := rb (rb (.inl p) _) _)]; rfl) (wk_eq (fun q hq => (kd_2 (hw_p Ncq145 hq)).1.symm) (fun q q1 hq hk => (kd_2 (hw_p Ncq145 hq)).2.symm))) (by simp only [rb_rb, sWalker, sTail]; rfl))
                obtain ⟨p3, h3, g3⟩ := rb_inl hR
                obtain ⟨p2, h2, g2⟩ := rb_inl h3
                cases g2
                obtain ⟨p1, h1, g1⟩ := rb_inl h2
                have z1 : p1 = tEn f n p := room_e h1
                have z2 := (sNew_inl g1).1
                have iw := hw_p Ncq145 h2
                have y := i32_of (Vxq162 _ q h3 g3)
                have z3 := sWhole_inl g3
                rw [z2, z1] at iw y z3
                rw [wkR_C (P := tEn f n p) (by rw [(ko_2 iw).1]; rfl) (by rw [(ko_2 iw).2.1]; exact y) (by rw [(ko_2 iw).2.2.1]) (by rw [(ko_2 iw).2.2.2]; exact z3)] at lt'
                exact lt'
              · intro cq166
                exact absurd cq166 (by decide)
          · intro cq167
            exact absurd cq167 (by decide)
        · intro cq173
          exact absurd cq173 (by decide)
    · intro cq203
      have Ncq203 := an1 Axq15 cq203
      have h := h.2 cq203
      delta P_X11_readWalker_74
      refine ⟨?_, ?_⟩
      · intro cq204
        have h := h.1 cq204
        delta P_X11_readWalker_85
        obtain ⟨oq205, h⟩ := h
        refine ⟨oq205, ?_⟩
        refine cm_X11_goesOn (sp_X11_goesOn h M (gs_w Ncq203)) h (fun Sq206 hp h gq207 => ?_)
        have h := h gq207
        obtain ⟨-, M, G⟩ := hp
        have W := rm_F W G
        replace lt := ltm_F dm lt G
        refine ⟨?_, ?_⟩
        · intro cq208
          exact absurd rfl cq208
        · intro cq225
          have h := h.2 cq225
          refine cm_X11_readWhole (sp_X11_readWhole h M) h (fun xq226 Sq227 hp h gq228 => ?_)
          have h := h gq228
          obtain ⟨-, M, G, Vxq226⟩ := hp
          have W := rm_F W G
          replace lt := ltm_F dm lt G
          delta P_X11_readWalker_136
          refine ⟨?_, ?_⟩
          · intro cq229
            exact absurd rfl cq229
          · intro cq230
            have h := h.2 cq230
            refine wq149 (S0 := S) (Z := fun T => LTm rd S T (aW A) (vN 19 7 (wkC f n (tEn f n p)))) h M W hAM (wk_r Vxq7 rb_rb) dm lt (fun q T hR lt' => ?_) (Eq.trans (Eq.trans (by rw [rb_rb (R := rb (rb (.inl p) _) _)]; rfl) (wk_eq (fun q hq => (kd_1 (hw_p Ncq203 hq)).1.symm) (fun q q1 hq hk => (by rw [(kd_1 (hw_p Ncq203 hq)).2]; unfold pVal; rw [← Vxq226 (tEn f n q) q1 (by rw [hq]; rfl) ((kd_1 (hw_p Ncq203 hq)).1.symm.trans hk), Int32.toInt32_toInt64])))) (by simp only [rb_rb, sWalker, sTail]; rfl))
            obtain ⟨p3, h3, g3⟩ := rb_inl hR
            obtain ⟨p2, h2, g2⟩ := rb_inl h3
            cases g2
            obtain ⟨p1, h1, g1⟩ := rb_inl h2
            have z1 : p1 = tEn f n p := room_e h1
            have z2 := (sNew_inl g1).1
            have iw := hw_p Ncq203 h2
            have y := i32_of (Vxq226 _ q h3 g3)
            have z3 := sWhole_inl g3
            rw [z2, z1] at iw y z3
            rw [wkR_C (P := tEn f n p) (by rw [(ko_1 iw).1]; rfl) (by rw [(ko_1 iw).2.1]; exact y) (by rw [(ko_1 iw).2.2.1]; exact y) (by rw [(ko_1 iw).2.2.2]; exact z3)] at lt'
            exact lt'
      · intro cq231
        exact absurd cq231 (by decide)
  · intro cq261
    have Ncq261 := an1 Axq10 cq261
    have h := h.2 cq261
    delta P_X11_readWalker_74
    refine ⟨?_, ?_⟩
    · intro cq262
      have h := h.1 cq262
      delta P_X11_readWalker_85
      obtain ⟨oq263, h⟩ := h
      refine ⟨oq263, ?_⟩
      refine cm_X11_goesOn (sp_X11_goesOn h M (gs_w Ncq261)) h (fun Sq264 hp h gq265 => ?_)
      have h := h gq265
      obtain ⟨-, M, G⟩ := hp
      have W := rm_F W G
      replace lt := ltm_F dm lt G
      refine ⟨?_, ?_⟩
      · intro cq266
        have h := h.1 cq266
        refine ⟨?_, ?_⟩
        · intro cq267
          have h := h.1 cq267
          refine ⟨?_, ?_⟩
          · intro cq268
            have h := h.1 cq268
            delta P_X11_readWalker_136
            refine ⟨?_, ?_⟩
            · intro cq269
              have h := h.1 cq269
              refine wq149 (S0 := S) (Z := fun T => LTm rd S T (aW A) (vN 19 7 (wkC f n (tEn f n p)))) h M W hAM (wk_r Vxq7 rfl) dm lt (fun q T hR lt' => ?_) (Eq.trans (wk_eq (fun q hq => (kd_0 (hw_p Ncq261 hq)).1.symm) (fun q q1 hq hk => (kd_0 (hw_p Ncq261 hq)).2.symm)) (by simp only [rb_rb, sWalker, sTail]; rfl))
              obtain ⟨p2, h2, g2⟩ := rb_inl hR
              cases g2
              obtain ⟨p1, h1, g1⟩ := rb_inl h2
              have z1 : p1 = tEn f n p := room_e h1
              have z2 := (sNew_inl g1).1
              have iw := hw_p Ncq261 h2
              rw [z2, z1] at iw lt'
              rw [wkR_C (P := tEn f n p) (by rw [(ko_0 iw).1]; rfl) (by rw [(ko_0 iw).2.1]) (by rw [(ko_0 iw).2.2.1]) (by rw [(ko_0 iw).2.2.2])] at lt'
              exact lt'
            · intro cq270
              exact absurd cq270 (by decide)
          · intro cq271
            exact absurd cq271 (by decide)
        · intro cq277
          exact absurd cq277 (by decide)
      · intro cq283
        exact absurd cq283 (by decide)
    · intro cq289
      exact absurd cq289 (by decide)
end Ct11
/-! the seen line of the reference: what it writes -/
section Ct12
variable {f : Nat → Int32} {n a rd nm ns nk p : Nat} {A : AS} {σ : Res} {Q : Int32 → HS → Prop} {QU : HS → Prop} {S T : HS} {v0 : Nat}
theorem sf_iy : ∀ s, s < 4 → ∀ i, i < 5 → (((5 : Int32) * nI s) + nI i).toNatClampNeg = 5 * s + i := by decide
def SnM (f : Nat → Int32) (n rd s s0 : Nat) (S0 : HS) (i : Nat) (U : HS) : Prop := fR U = fR S0 ∧ (∀ i b, 7 ≤ i → i ≤ 27 → i ≠ 27 → fR S0 rd i = some b → fI U b = fI S0 b) ∧ ∀ b, fR S0 rd 27 = some b → (∀ z, z < 5 * s → fI U b z = fI S0 b z) ∧ ∀ k, k < i → fI U b (5 * s + k) = (tV f n (snP f n k s0)).toInt32
def SnF (f : Nat → Int32) (n rd s s0 : Nat) (who : Int32) (S0 T : HS) : Prop := fR T = fR S0 ∧ (∀ i b, 7 ≤ i → i ≤ 27 → i ≠ 26 → i ≠ 27 → fR S0 rd i = some b → fI T b = fI S0 b) ∧ (∀ b, fR S0 rd 26 = some b → fI T b = va_up (fI S0 b) s who) ∧ ∀ b, fR S0 rd 27 = some b → (∀ z, z < 5 * s → fI T b z = fI S0 b z) ∧ ∀ k, k < 5 → fI T b (5 * s + k) = (tV f n (snP f n k s0)).toInt32
theorem sm_F {m s s0 i : Nat} {S0 : HS} (D : DMr m rd S0) (h : SnM f n rd s s0 S0 i S) (F : FM m S T) : SnM f n rd s s0 S0 i T := by
  refine ⟨F.2.2.2.1.trans h.1, fun i b h1 h2 h3 e => (F.2.2.2.2.1 b (D.1 i b h1 (by omega) e).1).1.trans (h.2.1 i b h1 h2 h3 e), fun b e => ?_⟩
  rw [(F.2.2.2.2.1 b (D.1 27 b (by decide) (by decide) e).1).1]
  exact h.2.2 b e
theorem sm_S {m s s0 i b j : Nat} {v : Int32} {S0 : HS} (D : DMr m rd S0) (h : SnM f n rd s s0 S0 i S) (hb : fR S rd 27 = some b) (e : T = sI S b j v) (hj : j = 5 * s + i) (hv : v = (tV f n (snP f n i s0)).toInt32) : SnM f n rd s s0 S0 (i + 1) T := by
  rw [h.1] at hb
  have ru := row_I e
  refine ⟨by rw [e]; exact h.1, fun i' b' h1 h2 h3 e' => ?_, fun b' e' => ?_⟩
  · have hne : b' ≠ b := fun z => h3 (D.2 i' 27 b' h1 (by omega) (by decide) (by decide) e' (z ▸ hb))
    rw [row_o e hne]
    exact h.2.1 i' b' h1 h2 h3 e'
  · cases hb.symm.trans e'
    rw [ru]
    refine ⟨fun z hz => ?_, fun k hk => ?_⟩
    · rw [va_up_ne _ _ (by omega)]
      exact (h.2.2 b hb).1 z hz
    · by_cases q : k = i
      · rw [q, hj, va_up_self]
        exact hv
      · rw [va_up_ne _ _ (by omega)]
        exact (h.2.2 b hb).2 k (by omega)
theorem sm_E {m s s0 b j c : Nat} {who v : Int32} {S0 U : HS} (D : DMr m rd S0) (h : SnM f n rd s s0 S0 5 S) (hb : fR S rd 26 = some b) (e : T = sI S b j who) (hj : j = s) (e2 : U = sI T rd c v) : SnF f n rd s s0 who S0 U := by
  rw [h.1] at hb
  subst hj
  refine ⟨by rw [e2, e]; exact h.1, fun i' b' h1 h2 h3 h4 e' => ?_, fun b' e' => ?_, fun b' e' => ?_⟩
  · have hne : b' ≠ b := fun z => h3 (D.2 i' 26 b' h1 (by omega) (by decide) (by decide) e' (z ▸ hb))
    rw [row_o e2 (D.1 i' b' h1 (by omega) e').2, row_o e hne]
    exact h.2.1 i' b' h1 h2 h4 e'
  · cases hb.symm.trans e'
    rw [row_o e2 (D.1 26 b (by decide) (by decide) hb).2, row_I e, h.2.1 26 b (by decide) (by decide) (by decide) hb]
  · have hne : b' ≠ b := fun z => absurd (D.2 27 26 b' (by decide) (by decide) (by decide) (by decide) e' (z ▸ hb)) (by decide)
    rw [row_o e2 (D.1 27 b' (by decide) (by decide) e').2, row_o e hne]
    exact h.2.2 b' e'
def InqSn (f : Nat → Int32) (n a r rd nm ns nk : Nat) (A : AS) (L : Res) (S0 : HS) (P : Nat) (v0 : Nat) (v1 v2 : Int32) (S : HS) : Prop := ∃ (i : Nat) (R : Res), r = v0 ∧ v2 = nI i ∧ i ≤ 5 ∧ MS f n a r R S ∧ RMw r rd nm ns nk A S ∧ L = rb R (fun p => sFc f n (5 - i) i p) ∧ (∀ q, R = .inl q → aS A < 4 ∧ aH A ≠ 0) ∧ (0 < i → ∃ q, R = .inl q) ∧ (∀ q, R = .inl q → v1 = nI (lkV A (tV f n P) - 8) ∧ snQ f n (tEn f n P) i q) ∧ SnM f n rd (aS A) (tEn f n P) S0 i S
set_option maxHeartbeats 1000000 in
theorem lqSn {S0 : HS} {P : Nat} {r : Nat} {L : Res} {v0 : Nat} {v1 v2 : Int32} (h : P_X11_readSeen_24 QU v0 v1 v2 S) (dm : DMr r rd S0) (hi : InqSn f n a r rd nm ns nk A L S0 P v0 v1 v2 S) : P_X11_readSeen_24 (fun T => QU T ∧ LBm f n a r rd nm ns nk L (up5 A) T ∧ ∀ q, L = .inl q → SnF f n rd (aS A) (tEn f n P) (nI (lkV A (tV f n P) - 8)) S0 T) v0 v1 v2 S := by
  refine h (fun v0 v1 v2 S => InqSn f n a r rd nm ns nk A L S0 P v0 v1 v2 S → P_X11_readSeen_24 (fun T => QU T ∧ LBm f n a r rd nm ns nk L (up5 A) T ∧ ∀ q, L = .inl q → SnF f n rd (aS A) (tEn f n P) (nI (lkV A (tV f n P) - 8)) S0 T) v0 v1 v2 S) ?_ hi
  intro v0 v1 v2 S h hi
  obtain ⟨i, R, rfl, hv2, hi5, M, W, HL, hR, hin, hps, sm⟩ := hi
  have e5 : (5 : Int32).toInt = 5 := by decide
  have e0 : (0 : Int32).toInt = 0 := by decide
  have ei : v2.toInt = (i : Int) := by rw [hv2]; exact nI_i (by omega)
  refine fd_X11_readSeen_24 ?_
  delta B_X11_readSeen_24
  refine ⟨?_, ?_⟩
  · intro cq1
    have z := le_i cq1
    have i5 : i = 5 := by omega
    obtain ⟨q, hq⟩ := hin (by omega)
    have rk := hR q hq
    have M := ms_eq (τ := L) M (by rw [HL, hq, i5]; rfl)
    have h := h.1 cq1
    obtain ⟨oq2, h⟩ := h
    refine ⟨oq2, ?_⟩
    obtain ⟨aq3, eaq3, h⟩ := h
    refine ⟨aq3, eaq3, ?_⟩
    cases W.1.symm.trans eaq3
    obtain ⟨oq4, h⟩ := h
    refine ⟨oq4, ?_⟩
    obtain ⟨aq5, eaq5, h⟩ := h
    refine ⟨aq5, eaq5, ?_⟩
    obtain ⟨aq6, eaq6, h⟩ := h
    refine ⟨aq6, eaq6, ?_⟩
    cases W.1.symm.trans eaq6
    obtain ⟨oq7, h⟩ := h
    refine ⟨oq7, ?_⟩
    intro xq8 exq8
    have h := h xq8 exq8
    obtain ⟨oq9, h⟩ := h
    refine ⟨oq9, ?_⟩
    obtain ⟨oq10, h⟩ := h
    refine ⟨oq10, ?_⟩
    intro Sq11 eSq11
    have h := h Sq11 eSq11
    have e26 := eSq11
    have b26 := eaq5
    have k26 : xq8.toNatClampNeg = aS A := by rw [exq8.trans W.2.2.1.2.2.2.2.2]; exact nI_cl (by have := rk.1; omega)
    obtain ⟨M, W⟩ := wr_I M W eaq5 oq9 eSq11 (by decide) (by decide)
    obtain ⟨aq12, eaq12, h⟩ := h
    refine ⟨aq12, eaq12, ?_⟩
    cases W.1.symm.trans eaq12
    obtain ⟨oq13, h⟩ := h
    refine ⟨oq13, ?_⟩
    intro xq14 exq14
    have h := h xq14 exq14
    intro xq15 exq15
    have h := h xq15 exq15
    intro Sq16 eSq16
    have h := h Sq16 eSq16
    have eL := eSq16
    obtain ⟨M, W⟩ := wr_C (A' := up5 A) M W eL (by decide) (cn_5 W.2.2.1 eL (inc_ exq14 W.2.2.1.2.2.2.2.2 exq15)) rfl (ab_5 W.2.2.2.2.1 rk.1) (zc_h rk.2)
    exact ⟨h, lm_ok M rfl W, fun _ _ => by
      have w1 := (hps q hq).1
      rw [i5] at sm
      rw [w1] at e26
      exact sm_E dm sm b26 e26 k26 eL⟩
  · intro cq17
    have z5 := nle_i cq17
    have i4 : i < 5 := by omega
    rw [seen_step i4] at HL
    have h := h.2 cq17
    refine ⟨?_, ?_⟩
    · intro cq18
      have z := le_i cq18
      have i0 : i = 0 := by omega
      have M := ms_eq (τ := rb R (fun p => if i = 0 then (.inl p : Res) else sSign f n p 4)) M (rb_idd (fun p hp => by rw [if_pos i0]))
      have h := h.1 cq18
      delta P_X11_readSeen_47
      obtain ⟨oq19, h⟩ := h
      refine ⟨oq19, ?_⟩
      refine cm_X11_readWhole (sp_X11_readWhole h M) h (fun xq20 Sq21 hp h gq22 => ?_)
      have h := h gq22
      obtain ⟨-, M, G, Vxq20⟩ := hp
      have W := rm_F W G
      replace sm := sm_F dm sm G
      intro xq23 exq23
      have h := h xq23 exq23
      refine ⟨?_, ?_⟩
      · intro cq24
        obtain ⟨q, hq⟩ := ms_ok M (fun z => cq24 (exq23.trans z))
        have hR2 : aS A < 4 ∧ aH A ≠ 0 := by
          obtain ⟨q1, h1, -⟩ := rb_inl hq
          obtain ⟨q2, h2, -⟩ := rb_inl h1
          exact hR q2 h2
        have h := h.1 cq24
        obtain ⟨aq25, eaq25, h⟩ := h
        refine ⟨aq25, eaq25, ?_⟩
        cases W.1.symm.trans eaq25
        obtain ⟨oq26, h⟩ := h
        refine ⟨oq26, ?_⟩
        obtain ⟨aq27, eaq27, h⟩ := h
        refine ⟨aq27, eaq27, ?_⟩
        obtain ⟨aq28, eaq28, h⟩ := h
        refine ⟨aq28, eaq28, ?_⟩
        cases W.1.symm.trans eaq28
        obtain ⟨oq29, h⟩ := h
        refine ⟨oq29, ?_⟩
        intro xq30 exq30
        have h := h xq30 exq30
        obtain ⟨oq31, h⟩ := h
        refine ⟨oq31, ?_⟩
        obtain ⟨oq32, h⟩ := h
        refine ⟨oq32, ?_⟩
        intro Sq33 eSq33
        have h := h Sq33 eSq33
        have k27 : (((5 : Int32) * xq30) + v2).toNatClampNeg = 5 * aS A + i := by rw [exq30.trans W.2.2.1.2.2.2.2.2, hv2]; exact sf_iy _ hR2.1 _ i4
        obtain ⟨q1, h1, g1⟩ := rb_inl hq
        obtain ⟨q2, h2, g2⟩ := rb_inl h1
        have ps := (hps q2 h2).2
        have eq1 : q1 = snP f n i (tEn f n P) := by
          by_cases z0 : i = 0
          · rw [if_pos z0] at g2
            cases g2
            rw [ps.1 z0, z0]
            rfl
          · rw [if_neg z0] at g2
            rw [sSign_inl g2, ps.2 (by omega)]
            obtain ⟨i0, hi0⟩ : ∃ i0, i = i0 + 1 := ⟨i - 1, by omega⟩
            subst hi0
            rfl
        replace sm := sm_S dm sm eaq27 eSq33 k27 (by rw [i32_of (Vxq20 q1 q h1 g1), eq1])
        obtain ⟨M, W⟩ := wr_I M W eaq27 oq31 eSq33 (by decide) (by decide)
        intro xq34 exq34
        have h := h xq34 exq34
        exact h ⟨i + 1, _, rfl, by rw [exq34, hv2]; exact nI_1 i, by omega, M, W, by rw [HL, show 5 - (i + 1) = 4 - i by omega], fun _ _ => hR2, fun _ => ⟨q, hq⟩, fun q' hq' => ⟨(hps q2 h2).1, ⟨fun z => absurd z (by omega), fun _ => by cases hq.symm.trans hq'; rw [sWhole_inl g1, eq1, Nat.add_sub_cancel]⟩⟩, sm⟩
      · intro cq35
        obtain ⟨e, he⟩ := (ms_9 M).2.2.2.2.mp (exq23.symm.trans cq35)
        have h := h.2 cq35
        exact ⟨h, lm_ov M (by rw [HL, he]; rfl) (exq23.symm.trans cq35), fun q hq => absurd hq (lm_no M (by rw [HL, he]; rfl) (exq23.symm.trans cq35) q)⟩
    · intro cq36
      have z := nle_i cq36
      have i0 : ¬ i = 0 := by omega
      have h := h.2 cq36
      obtain ⟨oq37, h⟩ := h
      refine ⟨oq37, ?_⟩
      refine cm_X11_eatsSign (sp_X11_eatsSign (k := 4) h M (Or.inr ⟨rfl, rfl⟩)) h (fun xq38 Sq39 hp h gq40 bq41 => ?_)
      have h := h gq40 bq41
      obtain ⟨-, M, G, Vxq38⟩ := hp
      have W := rm_F W G
      replace sm := sm_F dm sm G
      refine ⟨?_, ?_⟩
      · intro cq42
        have N := an1 Vxq38 cq42
        have M := ms_eq (τ := rb R (fun p => if i = 0 then (.inl p : Res) else sSign f n p 4)) M (rb_cg (fun p hp => by rw [dc_y (hs_p N hp), if_neg i0]; unfold sSign; rw [if_pos (hs_p N hp)]))
        have h := h.1 cq42
        delta P_X11_readSeen_47
        obtain ⟨oq43, h⟩ := h
        refine ⟨oq43, ?_⟩
        refine cm_X11_readWhole (sp_X11_readWhole h M) h (fun xq44 Sq45 hp h gq46 => ?_)
        have h := h gq46
        obtain ⟨-, M, G, Vxq44⟩ := hp
        have W := rm_F W G
        replace sm := sm_F dm sm G
        intro xq47 exq47
        have h := h xq47 exq47
        refine ⟨?_, ?_⟩
        · intro cq48
          obtain ⟨q, hq⟩ := ms_ok M (fun z => cq48 (exq47.trans z))
          have hR2 : aS A < 4 ∧ aH A ≠ 0 := by
            obtain ⟨q1, h1, -⟩ := rb_inl hq
            obtain ⟨q2, h2, -⟩ := rb_inl h1
            exact hR q2 h2
          have h := h.1 cq48
          obtain ⟨aq49, eaq49, h⟩ := h
          refine ⟨aq49, eaq49, ?_⟩
          cases W.1.symm.trans eaq49
          obtain ⟨oq50, h⟩ := h
          refine ⟨oq50, ?_⟩
          obtain ⟨aq51, eaq51, h⟩ := h
          refine ⟨aq51, eaq51, ?_⟩
          obtain ⟨aq52, eaq52, h⟩ := h
          refine ⟨aq52, eaq52, ?_⟩
          cases W.1.symm.trans eaq52
          obtain ⟨oq53, h⟩ := h
          refine ⟨oq53, ?_⟩
          intro xq54 exq54
          have h := h xq54 exq54
          obtain ⟨oq55, h⟩ := h
          refine ⟨oq55, ?_⟩
          obtain ⟨oq56, h⟩ := h
          refine ⟨oq56, ?_⟩
          intro Sq57 eSq57
          have h := h Sq57 eSq57
          have k27 : (((5 : Int32) * xq54) + v2).toNatClampNeg = 5 * aS A + i := by rw [exq54.trans W.2.2.1.2.2.2.2.2, hv2]; exact sf_iy _ hR2.1 _ i4
          obtain ⟨q1, h1, g1⟩ := rb_inl hq
          obtain ⟨q2, h2, g2⟩ := rb_inl h1
          have ps := (hps q2 h2).2
          have eq1 : q1 = snP f n i (tEn f n P) := by
            by_cases z0 : i = 0
            · rw [if_pos z0] at g2
              cases g2
              rw [ps.1 z0, z0]
              rfl
            · rw [if_neg z0] at g2
              rw [sSign_inl g2, ps.2 (by omega)]
              obtain ⟨i0, hi0⟩ : ∃ i0, i = i0 + 1 := ⟨i - 1, by omega⟩
              subst hi0
              rfl
          replace sm := sm_S dm sm eaq51 eSq57 k27 (by rw [i32_of (Vxq44 q1 q h1 g1), eq1])
          obtain ⟨M, W⟩ := wr_I M W eaq51 oq55 eSq57 (by decide) (by decide)
          intro xq58 exq58
          have h := h xq58 exq58
          exact h ⟨i + 1, _, rfl, by rw [exq58, hv2]; exact nI_1 i, by omega, M, W, by rw [HL, show 5 - (i + 1) = 4 - i by omega], fun _ _ => hR2, fun _ => ⟨q, hq⟩, fun q' hq' => ⟨(hps q2 h2).1, ⟨fun z => absurd z (by omega), fun _ => by cases hq.symm.trans hq'; rw [sWhole_inl g1, eq1, Nat.add_sub_cancel]⟩⟩, sm⟩
        · intro cq59
          obtain ⟨e, he⟩ := (ms_9 M).2.2.2.2.mp (exq47.symm.trans cq59)
          have h := h.2 cq59
          exact ⟨h, lm_ov M (by rw [HL, he]; rfl) (exq47.symm.trans cq59), fun q hq => absurd hq (lm_no M (by rw [HL, he]; rfl) (exq47.symm.trans cq59) q)⟩
      · intro cq60
        have N := an0 Vxq38 cq60
        have M := ms_eq M (rb_idd (fun p hp => (dc_n (hs_np N hp)).symm)).symm
        have h := h.2 cq60
        refine cm_X11_flaw (sp_X11_flaw (k := 1) h M rfl) h (fun Sq61 hp h gq62 => ?_)
        have h := h gq62
        obtain ⟨-, M, G⟩ := hp
        have W := rm_F W G
        replace sm := sm_F dm sm G
        have M := ms_eq (τ := rb R (fun p => if i = 0 then (.inl p : Res) else sSign f n p 4)) M (rb_cg (fun p hp => by rw [if_neg i0]; unfold sSign; rw [if_neg (hs_np N hp)]))
        delta P_X11_readSeen_47
        obtain ⟨oq63, h⟩ := h
        refine ⟨oq63, ?_⟩
        refine cm_X11_readWhole (sp_X11_readWhole h M) h (fun xq64 Sq65 hp h gq66 => ?_)
        have h := h gq66
        obtain ⟨-, M, G, Vxq64⟩ := hp
        have W := rm_F W G
        replace sm := sm_F dm sm G
        intro xq67 exq67
        have h := h xq67 exq67
        refine ⟨?_, ?_⟩
        · intro cq68
          obtain ⟨q, hq⟩ := ms_ok M (fun z => cq68 (exq67.trans z))
          have hR2 : aS A < 4 ∧ aH A ≠ 0 := by
            obtain ⟨q1, h1, -⟩ := rb_inl hq
            obtain ⟨q2, h2, -⟩ := rb_inl h1
            exact hR q2 h2
          have h := h.1 cq68
          obtain ⟨aq69, eaq69, h⟩ := h
          refine ⟨aq69, eaq69, ?_⟩
          cases W.1.symm.trans eaq69
          obtain ⟨oq70, h⟩ := h
          refine ⟨oq70, ?_⟩
          obtain ⟨aq71, eaq71, h⟩ := h
          refine ⟨aq71, eaq71, ?_⟩
          obtain ⟨aq72, eaq72, h⟩ := h
          refine ⟨aq72, eaq72, ?_⟩
          cases W.1.symm.trans eaq72
          obtain ⟨oq73, h⟩ := h
          refine ⟨oq73, ?_⟩
          intro xq74 exq74
          have h := h xq74 exq74
          obtain ⟨oq75, h⟩ := h
          refine ⟨oq75, ?_⟩
          obtain ⟨oq76, h⟩ := h
          refine ⟨oq76, ?_⟩
          intro Sq77 eSq77
          have h := h Sq77 eSq77
          have k27 : (((5 : Int32) * xq74) + v2).toNatClampNeg = 5 * aS A + i := by rw [exq74.trans W.2.2.1.2.2.2.2.2, hv2]; exact sf_iy _ hR2.1 _ i4
          obtain ⟨q1, h1, g1⟩ := rb_inl hq
          obtain ⟨q2, h2, g2⟩ := rb_inl h1
          have ps := (hps q2 h2).2
          have eq1 : q1 = snP f n i (tEn f n P) := by
            by_cases z0 : i = 0
            · rw [if_pos z0] at g2
              cases g2
              rw [ps.1 z0, z0]
              rfl
            · rw [if_neg z0] at g2
              rw [sSign_inl g2, ps.2 (by omega)]
              obtain ⟨i0, hi0⟩ : ∃ i0, i = i0 + 1 := ⟨i - 1, by omega⟩
              subst hi0
              rfl
          replace sm := sm_S dm sm eaq71 eSq77 k27 (by rw [i32_of (Vxq64 q1 q h1 g1), eq1])
          obtain ⟨M, W⟩ := wr_I M W eaq71 oq75 eSq77 (by decide) (by decide)
          intro xq78 exq78
          have h := h xq78 exq78
          exact h ⟨i + 1, _, rfl, by rw [exq78, hv2]; exact nI_1 i, by omega, M, W, by rw [HL, show 5 - (i + 1) = 4 - i by omega], fun _ _ => hR2, fun _ => ⟨q, hq⟩, fun q' hq' => ⟨(hps q2 h2).1, ⟨fun z => absurd z (by omega), fun _ => by cases hq.symm.trans hq'; rw [sWhole_inl g1, eq1, Nat.add_sub_cancel]⟩⟩, sm⟩
        · intro cq79
          obtain ⟨e, he⟩ := (ms_9 M).2.2.2.2.mp (exq67.symm.trans cq79)
          have h := h.2 cq79
          exact ⟨h, lm_ov M (by rw [HL, he]; rfl) (exq67.symm.trans cq79), fun q hq => absurd hq (lm_no M (by rw [HL, he]; rfl) (exq67.symm.trans cq79) q)⟩
set_option maxHeartbeats 1000000 in
theorem sq_X11_readSeen (h : P_X11_readSeen v0 QU S) (M : MS f n a v0 (.inl p) S) (W : RMw v0 rd nm ns nk A S) (dm : DMr v0 rd S) (hg : ∀ q, (.inl p : Res) = .inl q → tS f n q ≠ 6) : P_X11_readSeen v0 (fun T => QU T ∧ LBm f n a v0 rd nm ns nk (rb (sRoom f n p (aH A) (aS A) 4) fun p => sSeen f n p A) (up5 A) T ∧ ∀ q, (rb (sRoom f n p (aH A) (aS A) 4) fun p => sSeen f n p A) = .inl q → SnF f n rd (aS A) (tEn f n (tEn f n p)) (nI (lkV A (tV f n (tEn f n p)) - 8)) S T) S := by
  have sm : SnM f n rd (aS A) (tEn f n (tEn f n p)) S 0 S := ⟨rfl, fun _ _ _ _ _ _ => rfl, fun _ _ => ⟨fun _ _ => rfl, fun k hk => absurd hk (Nat.not_lt_zero k)⟩⟩
  delta P_X11_readSeen P_X11_readSeen_0
  obtain ⟨oq1, h⟩ := h
  refine ⟨oq1, ?_⟩
  obtain ⟨aq2, eaq2, h⟩ := h
  refine ⟨aq2, eaq2, ?_⟩
  cases W.1.symm.trans eaq2
  obtain ⟨oq3, h⟩ := h
  refine ⟨oq3, ?_⟩
  intro xq4 exq4
  have h := h xq4 exq4
  refine cm_X11_begins (sp_X11_begins (c := aS A) (k := 4) h M W hg (exq4.trans W.2.2.1.2.2.2.2.2) rfl W.2.2.2.2.1.2.2.2.2.2 (by decide) (fun z => by have := W.2.2.2.2.2 z; omega)) h (fun Sq5 hp h gq6 => ?_)
  have h := h gq6
  obtain ⟨-, M, G⟩ := hp
  have W := rm_F W G
  replace sm := sm_F dm sm G
  refine cm_X11_known (sp_X11_known h M W) h (fun xq7 Sq8 hp h gq9 => ?_)
  have h := h gq9
  obtain ⟨-, M, G, Vxq7⟩ := hp
  have W := rm_F W G
  replace sm := sm_F dm sm G
  refine cm_X11_goesOn (sp_X11_goesOn h M gs_k) h (fun Sq10 hp h gq11 => ?_)
  have h := h gq11
  obtain ⟨-, M, G⟩ := hp
  have W := rm_F W G
  replace sm := sm_F dm sm G
  refine lqSn (S0 := S) (P := tEn f n p) h dm ⟨0, _, rfl, nI_0.symm, by omega, M, W, ?_, fun q hq => ?_, fun z => absurd z (by omega), fun q hq => ?_, sm⟩
  · refine Eq.symm ?_
    show rb (rb (rb (sRoom f n p (aH A) (aS A) 4) (fun p => sKn f n p A 1)) (fun p => .inl (tEn f n p))) (fun p => sFc f n 5 0 p) = _
    rw [rb_rb (R := rb (sRoom f n p (aH A) (aS A) 4) _), rb_rb]
    refine rb_cg (fun q hq => ?_)
    unfold sSeen
    rw [ssw_kn, rb_rb]
  · obtain ⟨q1, h1, -⟩ := rb_inl hq
    obtain ⟨q2, h2, -⟩ := rb_inl h1
    have rk := room_ok (show sRoom f n p (aH A) (aS A) 4 = .inl q2 from h2)
    exact ⟨rk.2, rk.1⟩
  · obtain ⟨q1, h1, g1⟩ := rb_inl hq
    cases g1
    obtain ⟨q2, h2, g2⟩ := rb_inl h1
    have z2 : q2 = tEn f n p := room_e h2
    obtain ⟨e3, -, k, hk, hk8⟩ := kn_inl g2
    obtain ⟨k', hk', ek⟩ := Vxq7 q2 q1 h2 g2
    cases hk.symm.trans hk'
    rw [if_neg (k_ge8 hk8)] at ek
    rw [z2] at hk
    exact ⟨by rw [ek, lkV_of hk], ⟨fun _ => by rw [e3, z2], fun z => absurd z (by omega)⟩⟩
end Ct12
