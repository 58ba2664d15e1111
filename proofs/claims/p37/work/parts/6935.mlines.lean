/-! the model's lines -/
section MWrites
variable {f : Nat → Int32} {n a m rd nm ns nk : Nat} {A A' : AS} {σ τ : Res} {S T : HS}
theorem ms_O (M : MS f n a m σ S) (B : Bas S T) (h1 : fI T m = fI S m) (h2 : fJ T m = fJ S m) (h3 : fI T a = fI S a) : MS f n a m σ T := by
  obtain ⟨⟨E1, E2, E3, E4, E5, E6, E7⟩, M2, M3⟩ := M
  refine ⟨⟨by rw [B.2.2.2]; exact E1, by rw [h3]; exact E2, by rw [h1]; exact E3, by rw [B.2.2.1]; exact E4, E5, ⟨E6.1, B.1.symm ▸ E6.2.1, B.2.1.symm ▸ E6.2.2⟩, E7⟩, ?_, M3⟩
  cases σ with
  | inl p =>
    show MT f n p m T
    unfold MT
    rw [h1, h2]; exact M2
  | inr e =>
    show fI T m 9 = 5 ∧ fI T m 13 = nI e.1 ∧ fI T m 14 = nI e.2
    rw [h1]; exact M2
theorem bm_B (W : BM m rd nm ns nk S) (B : Bas S T) : BM m rd nm ns nk T := by
  obtain ⟨b1, b2, b3, b4, b5, b6, b7⟩ := W
  exact ⟨bb_ob' B b1, bb_ob' B b2, bb_ob' B b3, bb_ob' B b4, bb_ob' B b5, b6, by rw [B.2.2.2]; exact b7⟩
theorem rw_I {b c j : Nat} {v : Int32} (e : T = sI S b j v) (h : c ≠ b) : fI T c = fI S c := by rw [e]; exact u2_row _ _ h
theorem bs_I {b j : Nat} {v : Int32} (e : T = sI S b j v) : Bas S T := by rw [e]; exact ⟨rfl, rfl, rfl, rfl⟩
theorem jj_I {b j : Nat} {v : Int32} (e : T = sI S b j v) : fJ T = fJ S := by rw [e]; rfl
/-- another row of the world is written -/
theorem wr_I {i b k j : Nat} {v : Int32} (M : MS f n a m σ S) (W : RMw m rd nm ns nk A S) (hb : fR S rd i = some b) (o : ob S b k) (e : T = sI S b j v) (hi : i ≠ 29 ∧ i ≠ 30) (hk : k ≠ 11 ∧ k ≠ 10 ∧ k ≠ 12) : MS f n a m σ T ∧ RMw m rd nm ns nk A T := by
  have B := bs_I e
  obtain ⟨w1, ⟨n1, n2, n3, n4, n5, n6⟩, w3, w4, w5⟩ := W
  have bn := w4.2.2.2.2.2.2 i b hb hi.1 hi.2
  have rr := rw_I e (Ne.symm (ob_ne o w4.2.1 hk.2.1))
  refine ⟨ms_O M B (rw_I e (Ne.symm (ob_ne o w4.1 hk.1))) (by rw [jj_I e]) (rw_I e (Ne.symm (ob_ne o M.1.2.2.2.2.2.1.2 hk.2.2))), by rw [B.2.2.2]; exact w1, ⟨by rw [B.2.2.2]; exact n1, by rw [B.2.2.2]; exact n2, by rw [B.2.2.2]; exact n3, by rw [rr]; exact n4, n5, fun k hk => ?_⟩, cn_row w3 rr, bm_B w4 B, w5⟩
  rw [jj_I e, rw_I e (Ne.symm bn.1), rw_I e (Ne.symm bn.2)]; exact n6 k hk
/-- a count of the world is written -/
theorem wr_C {j : Nat} {v : Int32} (M : MS f n a m σ S) (W : RMw m rd nm ns nk A S) (e : T = sI S rd j v) (hj : 6 ≠ j) (hC : Cnt rd A' T) (hA : A'.2 = A.2) (hb : ABd A') (hz : Zc A') : MS f n a m σ T ∧ RMw m rd nm ns nk A' T := by
  have B := bs_I e
  obtain ⟨w1, ⟨n1, n2, n3, n4, n5, n6⟩, w3, w4, w5⟩ := W
  have hm : aM A' = aM A := by unfold aM; rw [hA]
  have hV : aV A' = aV A := by unfold aV; rw [hA]
  have hI : aI A' = aI A := by unfold aI; rw [hA]
  refine ⟨ms_O M B (rw_I e (ob_ne w4.1 w4.2.1 (by decide))) (by rw [jj_I e]) (rw_I e (ob_ne M.1.2.2.2.2.2.1.2 w4.2.1 (by decide))), by rw [B.2.2.2]; exact w1, ⟨by rw [B.2.2.2]; exact n1, by rw [B.2.2.2]; exact n2, by rw [B.2.2.2]; exact n3, by rw [wI_ne e hj, hm]; exact n4, by rw [hm]; exact n5, fun k hk => ?_⟩, hC, bm_B w4 B, hb, hz⟩
  rw [jj_I e, rw_I e (ob_ne w4.2.2.2.1 w4.2.1 (by decide)), rw_I e (ob_ne w4.2.2.2.2.1 w4.2.1 (by decide)), hV, hI]
  rw [hm] at hk
  exact n6 k hk
/-- a line comes to this -/
def LBm (f : Nat → Int32) (n a m rd nm ns nk : Nat) (L : Res) (A' : AS) (T : HS) : Prop := MS f n a m L T ∧ ∀ p, L = .inl p → RMw m rd nm ns nk A' T
theorem lm_ok {L : Res} (M : MS f n a m τ T) (e : τ = L) (W : RMw m rd nm ns nk A' T) : LBm f n a m rd nm ns nk L A' T := ⟨ms_eq M e, fun _ _ => W⟩
theorem lm_ov {L : Res} (M : MS f n a m τ T) (e : τ = L) (c : fI T m 9 = 5) : LBm f n a m rd nm ns nk L A' T := ⟨ms_eq M e, fun p hp => by
  obtain ⟨q, hq⟩ := (ms_9 M).2.2.2.2.mp c
  rw [← e, hq] at hp
  cases hp⟩
theorem ms_ok (M : MS f n a m τ T) (c : ¬ fI T m 9 = 5) : ∃ q, τ = .inl q := by
  cases τ with
  | inl q => exact ⟨q, rfl⟩
  | inr e => exact absurd M.2.1.1 c
theorem room_ok {p q H c k : Nat} (h : sRoom f n p H c k = .inl q) : H ≠ 0 ∧ c < k := by
  unfold sRoom at h
  split at h
  · cases h
  · split at h
    · exact ⟨by assumption, by assumption⟩
    · cases h
theorem zc_h {B : AS} (h : aH B ≠ 0) : Zc B := fun z => absurd z h
end MWrites
section MLines
variable {f : Nat → Int32} {n a rd nm ns nk p : Nat} {A : AS} {σ : Res} {Q : Int32 → HS → Prop} {QU : HS → Prop} {S T : HS} {v0 : Nat}
theorem l64_0 : (0 : Int32).toInt64 = 0 := rfl
theorem l64_1 : (1 : Int32).toInt64 = 1 := rfl
theorem l64_5 : (5 : Int32).toInt64 = 5 := rfl
theorem l64_8 : (8 : Int32).toInt64 = 8 := rfl
theorem l64_9 : (9 : Int32).toInt64 = 9 := rfl
theorem l64_60 : (60 : Int32).toInt64 = 60 := rfl
theorem l64_99 : (99 : Int32).toInt64 = 99 := rfl
theorem l64_100 : (100 : Int32).toInt64 = 100 := rfl
theorem l64_999 : (999 : Int32).toInt64 = 999 := rfl
theorem u2_self_row {α : Type} (g : Nat → Nat → α) (b j : Nat) (v : α) : u2 g b j v b = va_up (g b) j v := by
  funext k
  by_cases hk : k = j
  · rw [hk, va_up_self]; exact u2_self _ _ _ _
  · rw [va_up_ne _ _ hk]; exact u2_ne _ _ (fun z => hk z.2)
theorem sp_X11_names {v1 : Int64} {v3 v4 : Int32} {idn : Nat} (h : P_X11_names v0 v1 v3 v4 QU S) (M : MS f n a v0 σ S) (W : RMw v0 rd nm ns nk A S) (hm12 : aM A < 12) (h3 : v3 = if idn < 8 then 0 else 1) (h4 : v4 = nI (if idn < 8 then idn else idn - 8)) (hi9 : idn < 100) : P_X11_names v0 v1 v3 v4 (fun T => QU T ∧ MS f n a v0 σ T ∧ RMw v0 rd nm ns nk (upN A v1 idn) T) S := by
  delta P_X11_names P_X11_names_0
  obtain ⟨oq1, h⟩ := h
  refine ⟨oq1, ?_⟩
  obtain ⟨aq2, eaq2, h⟩ := h
  refine ⟨aq2, eaq2, ?_⟩
  cases W.1.symm.trans eaq2
  obtain ⟨oq3, h⟩ := h
  refine ⟨oq3, ?_⟩
  obtain ⟨aq4, eaq4, h⟩ := h
  refine ⟨aq4, eaq4, ?_⟩
  cases W.2.1.1.symm.trans eaq4
  obtain ⟨aq5, eaq5, h⟩ := h
  refine ⟨aq5, eaq5, ?_⟩
  cases W.1.symm.trans eaq5
  obtain ⟨oq6, h⟩ := h
  refine ⟨oq6, ?_⟩
  intro xq7 exq7
  have h := h xq7 exq7
  obtain ⟨oq8, h⟩ := h
  refine ⟨oq8, ?_⟩
  obtain ⟨oq9, h⟩ := h
  refine ⟨oq9, ?_⟩
  intro Sq10 eSq10
  have h := h Sq10 eSq10
  have RSq10 : fR Sq10 = fR S := by rw [eSq10]; exact rfl
  obtain ⟨aq11, eaq11, h⟩ := h
  refine ⟨aq11, eaq11, ?_⟩
  rw [RSq10] at eaq11
  cases W.1.symm.trans eaq11
  obtain ⟨oq12, h⟩ := h
  refine ⟨oq12, ?_⟩
  obtain ⟨aq13, eaq13, h⟩ := h
  refine ⟨aq13, eaq13, ?_⟩
  rw [RSq10] at eaq13
  cases W.2.1.2.1.symm.trans eaq13
  obtain ⟨aq14, eaq14, h⟩ := h
  refine ⟨aq14, eaq14, ?_⟩
  rw [RSq10] at eaq14
  cases W.1.symm.trans eaq14
  obtain ⟨oq15, h⟩ := h
  refine ⟨oq15, ?_⟩
  intro xq16 exq16
  have h := h xq16 exq16
  obtain ⟨oq17, h⟩ := h
  refine ⟨oq17, ?_⟩
  obtain ⟨oq18, h⟩ := h
  refine ⟨oq18, ?_⟩
  intro Sq19 eSq19
  have h := h Sq19 eSq19
  have RSq19 : fR Sq19 = fR S := by rw [eSq19]; exact RSq10
  obtain ⟨aq20, eaq20, h⟩ := h
  refine ⟨aq20, eaq20, ?_⟩
  rw [RSq19] at eaq20
  cases W.1.symm.trans eaq20
  obtain ⟨oq21, h⟩ := h
  refine ⟨oq21, ?_⟩
  obtain ⟨aq22, eaq22, h⟩ := h
  refine ⟨aq22, eaq22, ?_⟩
  rw [RSq19] at eaq22
  cases W.2.1.2.2.1.symm.trans eaq22
  obtain ⟨aq23, eaq23, h⟩ := h
  refine ⟨aq23, eaq23, ?_⟩
  rw [RSq19] at eaq23
  cases W.1.symm.trans eaq23
  obtain ⟨oq24, h⟩ := h
  refine ⟨oq24, ?_⟩
  intro xq25 exq25
  have h := h xq25 exq25
  obtain ⟨oq26, h⟩ := h
  refine ⟨oq26, ?_⟩
  obtain ⟨oq27, h⟩ := h
  refine ⟨oq27, ?_⟩
  intro Sq28 eSq28
  have h := h Sq28 eSq28
  have RSq28 : fR Sq28 = fR S := by rw [eSq28]; exact RSq19
  obtain ⟨aq29, eaq29, h⟩ := h
  refine ⟨aq29, eaq29, ?_⟩
  rw [RSq28] at eaq29
  cases W.1.symm.trans eaq29
  obtain ⟨oq30, h⟩ := h
  refine ⟨oq30, ?_⟩
  intro xq31 exq31
  have h := h xq31 exq31
  intro xq32 exq32
  have h := h xq32 exq32
  intro Sq33 eSq33
  have h := h Sq33 eSq33
  have RSq33 : fR Sq33 = fR S := by rw [eSq33]; exact RSq28
  have hm := W.2.2.2.1
  obtain ⟨w1, ⟨n1, n2, n3, n4, n5, n6⟩, w3, w4, w5⟩ := W
  have d1 : nm ≠ rd := ob_ne w4.2.2.1 w4.2.1 (by decide)
  have d2 : ns ≠ rd := ob_ne w4.2.2.2.1 w4.2.1 (by decide)
  have d3 : nk ≠ rd := ob_ne w4.2.2.2.2.1 w4.2.1 (by decide)
  have d4 : v0 ≠ rd := ob_ne w4.1 w4.2.1 (by decide)
  have d5 : v0 ≠ ns := ob_ne w4.1 w4.2.2.2.1 (by decide)
  have d6 : v0 ≠ nk := ob_ne w4.1 w4.2.2.2.2.1 (by decide)
  have d7 : v0 ≠ nm := ob_ne w4.1 w4.2.2.1 (by decide)
  have d8 : a ≠ rd := ob_ne M.1.2.2.2.2.2.1.2 w4.2.1 (by decide)
  have d9 : a ≠ ns := ob_ne M.1.2.2.2.2.2.1.2 w4.2.2.2.1 (by decide)
  have d10 : a ≠ nk := ob_ne M.1.2.2.2.2.2.1.2 w4.2.2.2.2.1 (by decide)
  have d11 : ns ≠ nk := w4.2.2.2.2.2.1
  have I1 : fI Sq10 = fI S := by rw [eSq10]; rfl
  have B : Bas S Sq33 := by rw [eSq33, eSq28, eSq19, eSq10]; exact ⟨rfl, rfl, rfl, rfl⟩
  have J4 : fJ Sq33 = fJ Sq10 := by rw [eSq33, eSq28, eSq19]; rfl
  have row : ∀ c, c ≠ rd → c ≠ nk → c ≠ ns → fI Sq33 c = fI S c := fun c h1 h2 h3 => by rw [rw_I eSq33 h1, rw_I eSq28 h2, rw_I eSq19 h3, I1]
  have f1 : xq7 = nI (aM A) := exq7.trans n4
  have f2 : xq16 = nI (aM A) := by rw [exq16, I1]; exact n4
  have f3 : xq25 = nI (aM A) := by rw [exq25, rw_I eSq19 (Ne.symm d2), I1]; exact n4
  have f4 : xq31 = nI (aM A) := by rw [exq31, rw_I eSq28 (Ne.symm d3), rw_I eSq19 (Ne.symm d2), I1]; exact n4
  have g1 : fJ Sq33 nm = va_up (fJ S nm) (aM A) v1 := by rw [J4, eSq10, f1, nI_cl (by omega)]; exact u2_self_row _ _ _ _
  have g2 : fI Sq33 ns = va_up (fI S ns) (aM A) v3 := by rw [rw_I eSq33 d2, rw_I eSq28 d11, eSq19, f2, nI_cl (by omega), ← I1]; exact u2_self_row _ _ _ _
  have g3 : fI Sq33 nk = va_up (fI S nk) (aM A) v4 := by
    rw [rw_I eSq33 d3, eSq28, f3, nI_cl (by omega)]
    have : fI S nk = fI Sq19 nk := by rw [rw_I eSq19 (Ne.symm d11), I1]
    rw [this]; exact u2_self_row _ _ _ _
  have g0 : ∀ j, j ≠ 6 → fI Sq33 rd j = fI S rd j := fun j hj => by rw [wI_ne eSq33 hj, rw_I eSq28 (Ne.symm d3), rw_I eSq19 (Ne.symm d2), I1]
  refine ⟨h, ms_O M B (row v0 d4 d6 d5) (by rw [J4, eSq10]; exact u2_row _ _ d7) (row a d8 d10 d9), by rw [B.2.2.2]; exact w1, ⟨by rw [B.2.2.2]; exact n1, by rw [B.2.2.2]; exact n2, by rw [B.2.2.2]; exact n3, ?_, by show aM A + 1 ≤ 12; omega, fun k hk => ?_⟩, ?_, bm_B w4 B, w5⟩
  · rw [wI_at eSq33, exq32, f4]; exact nI_1 _
  · have hk : k < aM A + 1 := hk
    rw [g1, g2, g3]
    show va_up (fJ S nm) (aM A) v1 k = va_up (aV A) (aM A) v1 k ∧ va_up (fI S ns) (aM A) v3 k = (if va_up (aI A) (aM A) idn k < 8 then 0 else 1) ∧ va_up (fI S nk) (aM A) v4 k = nI (if va_up (aI A) (aM A) idn k < 8 then va_up (aI A) (aM A) idn k else va_up (aI A) (aM A) idn k - 8) ∧ va_up (aI A) (aM A) idn k < 100
    by_cases hkm : k = aM A
    · rw [hkm, va_up_self, va_up_self, va_up_self, va_up_self, va_up_self]
      exact ⟨rfl, h3, h4, hi9⟩
    · rw [va_up_ne _ _ hkm, va_up_ne _ _ hkm, va_up_ne _ _ hkm, va_up_ne _ _ hkm, va_up_ne _ _ hkm]
      exact n6 k (by omega)
  · exact ⟨by rw [g0 0 (by decide)]; exact w3.1, by rw [g0 1 (by decide)]; exact w3.2.1, by rw [g0 2 (by decide)]; exact w3.2.2.1, by rw [g0 3 (by decide)]; exact w3.2.2.2.1, by rw [g0 4 (by decide)]; exact w3.2.2.2.2.1, by rw [g0 5 (by decide)]; exact w3.2.2.2.2.2⟩
end MLines
