/-! world(n) of the reference, with all that was told, 2 -/
section Ct15
variable {f : Nat → Int32} {n a rd nm ns nk p : Nat} {A : AS} {σ : Res} {Q : Int32 → HS → Prop} {QU : HS → Prop} {S T : HS} {v0 : Nat}
def WmX (m : Nat) (S : HS) (R : AS ⊕ (Nat × Nat)) (RG : GC) (x : Int32) (T : HS) : Prop := WmB R m x T ∧ (∀ b, b ∈ hL S → b ≠ m → fI T b = fI S b ∧ fR T b = fR S b) ∧ (∀ j, j ≠ 3 → j ≠ 4 → fR T m j = fR S m j) ∧ (∀ x, x ∈ hL T → x ∈ hL S ∨ hK T x = 10 ∨ (12 ≤ hK T x ∧ hK T x < 16)) ∧ match R with
  | .inl A => ∃ rd, fR T m 3 = some rd ∧ rd ∉ hL S ∧ ob T rd 10 ∧ CtM rd A RG T ∧ Cnt rd A T ∧ DMr m rd T ∧ ∀ i b, fR T rd i = some b → b ∉ hL S
  | .inr _ => fR T m 3 = fR S m 3
set_option maxHeartbeats 1000000 in
theorem sq_X11_world_ok {v1 : Int32} (h : P_X11_world v0 v1 Q S) (hv : v1 = nI n) (hn : n ≤ 900) (ha : fR S v0 5 = some a) (oa : ob S a 12) (hN9 : hN S a = 900) (hf : ∀ j, j < n → fI S a j = f j) (hB : ∀ j, j < n → -128 ≤ (f j).toInt ∧ (f j).toInt ≤ 127) (hle : v1 ≤ fI S v0 6) : P_X11_world v0 v1 (fun x T => Q x T ∧ WmX v0 S (sAll f n 1000 0 A00) (gAll f n 1000 0 A00 G00) x T) S := by
  have iv : v1.toInt = (n : Int) := by rw [hv]; exact nI_i (by omega)
  have e0 : (0 : Int32).toInt = 0 := by decide
  delta P_X11_world P_X11_world_0
  obtain ⟨o1, h⟩ := h
  refine ⟨o1, ?_⟩
  have nav : a ≠ v0 := ob_ne oa o1 (by decide)
  intro S2 e2
  have h := h S2 e2
  refine ⟨fun c3 => ?_, fun c8 => ?_⟩
  · have := lt_i c3
    omega
  have h := h.2 c8
  intro x9 ex9
  have h := h x9 ex9
  rw [wI_ne e2 (by decide)] at ex9
  refine ⟨fun c10 => ?_, fun c42 => absurd (by rw [ex9]; exact hle) c42⟩
  have h := h.1 c10
  intro S11 e11
  have h := h S11 e11
  intro S12 e12
  have h := h S12 e12
  intro S13 e13
  have h := h S13 e13
  intro S14 e14
  have h := h S14 e14
  have F14 : Fr [0, 7, 6, 8, 13] [] v0 S S14 := fr_wI (fr_wI (fr_wI (fr_wI (fr_wI (fr_rf _ _ _ _) e2 (by decide)) e11 (by decide)) e12 (by decide)) e13 (by decide)) e14 (by decide)
  have o14 : ob S14 v0 11 := fm_ob F14 o1
  have oa14 : ob S14 a 12 := fm_ob F14 oa
  intro a15 ea15
  have h := h a15 ea15
  intro S16 e16
  have h := h S16 e16
  have o16 : ob S16 v0 11 := gr_ob (gr_of_new e16 ea15) o14
  have oa16 : ob S16 a 12 := gr_ob (gr_of_new e16 ea15) oa14
  have or16 : ob S16 a15 10 := ob_of_new e16
  have nva : v0 ≠ a15 := ob_ne o16 or16 (by decide)
  have naa : a ≠ a15 := ob_ne oa16 or16 (by decide)
  have I16 : ∀ c, c ≠ a15 → fI S16 c = fI S14 c ∧ fR S16 c = fR S14 c ∧ hN S16 c = hN S14 c := fun c hc => by
    rw [e16]
    exact ⟨va_up_ne _ _ hc, va_up_ne _ _ hc, va_up_ne _ _ hc⟩
  refine cm_X10_init (sp_X10_init h e16) h (fun S17 hp h g18 => ?_)
  have h := h g18
  obtain ⟨-, F, bx, f1, f2, f3⟩ := hp
  rw [e16] at bx
  intro S19 e19
  have h := h S19 e19
  obtain ⟨nm, ns, nk, W⟩ := bx_RMw ea15 bx f1 f2 f3 o14 e19
  rw [← e16] at bx
  intro S20 e20
  have h := h S20 e20
  have I17 : ∀ c, c ∈ hL S16 → c ≠ a15 → fI S17 c = fI S16 c ∧ fR S17 c = fR S16 c ∧ hN S17 c = hN S16 c := fun c hc hne => ⟨(bx.2.1 c hc hne).1, (bx.2.1 c hc hne).2.2, (bx.1 c hc).2.2⟩
  have V20 : ∀ j, j ≠ 9 → fI S20 v0 j = fI S14 v0 j := fun j hj => by
    rw [wI_ne e20 hj]
    have : fI S19 v0 = fI S17 v0 := by rw [e19]; rfl
    rw [this, (I17 v0 o16.1 nva).1, (I16 v0 nva).1]
  have E20 : EM f n a v0 S20 := by
    refine ⟨?_, ?_, ?_, ?_, hn, ⟨nav, ?_⟩, hB⟩
    · have q1 : fR S20 v0 5 = fR S19 v0 5 := by rw [e20]; rfl
      have q2 : fR S19 v0 5 = fR S17 v0 5 := by rw [e19]; exact u2_ne _ _ (fun z => absurd z.2 (by decide))
      rw [q1, q2, (I17 v0 o16.1 nva).2.1, (I16 v0 nva).2.1, F14.2.2.2.1]; exact ha
    · rw [rw_I e20 nav]
      have : fI S19 a = fI S17 a := by rw [e19]; rfl
      rw [this, (I17 a oa16.1 naa).1, (I16 a naa).1, (F14.2.2.2.2.1 a nav).1]; exact hf
    · rw [V20 7 (by decide), wI_ne e14 (by decide), wI_ne e13 (by decide), wI_ne e12 (by decide), wI_at e11, hv]
    · have q1 : hN S20 = hN S17 := by rw [e20, e19]; rfl
      rw [q1, (I17 a oa16.1 naa).2.2, (I16 a naa).2.2, F14.2.2.1]; exact hN9
    · have oa17 := gr_ob bx.1 oa16
      rw [e20, e19]; exact oa17
  have W20 : RMw v0 a15 nm ns nk A00 S20 := rm_F W (fr_wI (fr_rf _ _ _ _) e20 (by decide))
  have k9 : fI S20 v0 9 = 0 := wI_at e20
  have k8 : fI S20 v0 8 = nI 0 := by rw [V20 8 (by decide), wI_ne e14 (by decide), wI_at e13]; rfl
  have k13 : fI S20 v0 13 = 0 := by rw [V20 13 (by decide), wI_at e14]
  refine cm_X11_goesOn (sp0_X11_goesOn h E20 (by rw [k9]; decide) k8 k13 (by decide)) h (fun S21 hp h g22 => ?_)
  have h := h g22
  have G21 : FM v0 S20 S21 := fr_up hp.2.1 (by decide) (by decide)
  have M21 : MS f n a v0 (.inl 0) S21 := ⟨em_fr E20 G21 (by decide), hp.2.2, fun p z => by cases z; decide⟩
  have ar : ∀ j b, fR S17 a15 j = some b → b ∉ hL S16 := fun j b e => by
    rcases bx.2.2.2.2.1 j b e with z | z
    · exact z.1
    · rw [e16] at z
      have z : va_up (fR S14) a15 (fun _ => none) a15 j = some b := z
      rw [va_up_self] at z
      cases z
  have R19 : fR S19 a15 = fR S17 a15 := by rw [e19]; exact u2_row _ _ (Ne.symm nva)
  have R21 : fR S21 = fR S19 := by rw [G21.2.2.2.1, e20]; rfl
  have dm : DMr v0 a15 S21 := by
    refine ⟨fun i b _ _ e => ?_, fun i j b _ _ _ _ e1 e2 => ?_⟩
    · rw [R21, R19] at e
      exact ⟨fun z => ar i b e (z ▸ o16.1), fun z => ar i b e (z ▸ or16.1)⟩
    · rw [R21, R19] at e1 e2
      exact bx.2.2.2.2.2.1 i j b (ar i b e1) e1 e2
  have ct0 : CtM a15 A00 G00 S21 := fun i b _ _ _ z hz => by
    have : cntM A00 i = 0 := by
      unfold cntM
      repeat' split
      all_goals rfl
    omega
  refine cm_X11_readAll (sq_X11_readAll h M21 (rm_F W20 G21) rfl dm ct0) (kh_X11_readAll h) (fun S23 hp hkh g24 => ?_)
  have h := hkh.1
  have h := h g24
  have KO := hp.2.2
  have ctR := hp.2.1.2
  replace hp := hp.2.1.1
  have w4 : fR S21 v0 4 = some a15 := by rw [R21, e19]; exact u2_self _ _ _ _
  have old : ∀ b, b ∈ hL S → b ≠ v0 → fI S23 b = fI S b ∧ fR S23 b = fR S b := fun b hb hv => by
    have hb14 : b ∈ hL S14 := by rw [F14.1]; exact hb
    have hba : b ≠ a15 := fun z => ea15 (z ▸ hb14)
    have hb16 : b ∈ hL S16 := (gr_of_new e16 ea15 b hb14).1
    have q1 := I16 b hba
    have q2 := I17 b hb16 hba
    have no : ¬ OwS_M v0 S21 b := fun z => by
      rcases z with z | ⟨w, e, z | ⟨j, -, z⟩⟩
      · exact hv z
      · cases w4.symm.trans e
        exact hba z
      · cases w4.symm.trans e
        rw [R21, R19] at z
        exact ar j b z hb16
    refine ⟨?_, ?_⟩
    · rw [KO.2 b no, (G21.2.2.2.2.1 b hv).1, rw_I e20 hv]
      have : fI S19 b = fI S17 b := by rw [e19]; rfl
      rw [this, q2.1, q1.1, (F14.2.2.2.2.1 b hv).1]
    · rw [KO.1, R21]
      have : fR S19 b = fR S17 b := by rw [e19]; exact u2_row _ _ hv
      rw [this, q2.2.1, q1.2.1, F14.2.2.2.1]
  have oldm : ∀ j, j ≠ 4 → fR S23 v0 j = fR S v0 j := fun j hj => by
    rw [KO.1, R21]
    have : fR S19 v0 j = fR S17 v0 j := by rw [e19]; exact u2_ne _ _ (fun z => hj z.2)
    rw [this, (I17 v0 o16.1 nva).2.1, (I16 v0 nva).2.1, F14.2.2.2.1]
  have nS : a15 ∉ hL S := fun z => ea15 (by rw [F14.1]; exact z)
  have or23 : ob S23 a15 10 := gr_ob g24 (gr_ob g22 (by
    have := gr_ob g18 or16
    rw [e20, e19]
    exact this))
  have dm23 := dm_mv KO.1 dm
  have l23 : hL S23 = hL S17 := by rw [hkh.2.1, G21.1, e20, e19]; rfl
  have k23 : hK S23 = hK S17 := by rw [hkh.2.2, G21.2.1, e20, e19]; rfl
  have newk : ∀ x, x ∈ hL S23 → x ∈ hL S ∨ hK S23 x = 10 ∨ (12 ≤ hK S23 x ∧ hK S23 x < 16) := fun x hx => by
    rw [l23] at hx
    rcases bx.2.2.1 x hx with q | q
    · rw [e16] at q
      have q : x ∈ hL S14 ++ [a15] := q
      rcases List.mem_append.mp q with q | q
      · left
        rw [← F14.1]
        exact q
      · right; left
        rw [List.mem_singleton.mp q]
        exact or23.2
    · right; right
      rw [k23]
      exact q
  intro x25 ex25
  have h := h x25 ex25
  cases hR : sAll f n 1000 0 A00 with
  | inl A =>
    rw [hR] at hp
    obtain ⟨⟨q, M⟩, W⟩ := hp
    have f13 : fI S23 v0 13 = 0 := M.2.1.2.2.2.2.2.2.2
    refine ⟨fun c26 => ?_, fun c38 => absurd (by rw [ex25, f13]; decide) c38⟩
    have h := h.1 c26
    obtain ⟨a27, ea27, h⟩ := h
    refine ⟨a27, ea27, ?_⟩
    cases W.1.symm.trans ea27
    intro S28 e28
    have h := h S28 e28
    intro S29 e29
    have h := h S29 e29
    intro S30 e30
    have h := h S30 e30
    intro S31 e31
    have h := h S31 e31
    obtain ⟨a32, ea32, h⟩ := h
    refine ⟨a32, ea32, ?_⟩
    have hr : fR S31 v0 3 = some a15 := by
      rw [e31, e30, e29, e28]; exact u2_self _ _ _ _
    cases hr.symm.trans ea32
    obtain ⟨o33, h⟩ := h
    refine ⟨o33, ?_⟩
    intro x34 ex34
    have h := h x34 ex34
    have nav2 : a15 ≠ v0 := Ne.symm nva
    have q34 : x34 = nI (aW A) := by
      rw [ex34, rw_I e31 nav2, rw_I e30 nav2, rw_I e29 nav2]
      have : fI S28 a15 = fI S23 a15 := by rw [e28]; rfl
      rw [this]; exact W.2.2.1.2.2.2.2.1
    have q13 : fI S31 v0 13 = 0 := by
      rw [wI_ne e31 (by decide), wI_ne e30 (by decide), wI_ne e29 (by decide)]
      have : fI S28 v0 = fI S23 v0 := by rw [e28]; rfl
      rw [this]; exact f13
    refine cm_X11_good (sp_X11_good h) h (fun x35 S36 hp h g37 => ?_)
    have h := h g37
    obtain ⟨-, z1, z2, z3, z4⟩ := hp
    have fR36 : ∀ b j, ¬ (b = v0 ∧ j = 3) → fR S36 b j = fR S23 b j := fun b j hb => by
      rw [z2.2.2.2.1, e31, e30, e29, e28]
      exact u2_ne _ _ hb
    have fR36a : fR S36 a15 = fR S23 a15 := funext fun j => fR36 a15 j (fun z => nav2 z.1)
    have fI36 : ∀ b, b ≠ v0 → fI S36 b = fI S23 b := fun b hb => by
      rw [(z2.2.2.2.2.1 b hb).1, rw_I e31 hb, rw_I e30 hb, rw_I e29 hb]
      have : fI S28 b = fI S23 b := by rw [e28]; rfl
      rw [this]
    refine ⟨h, ⟨by rw [z1, q34], by rw [z2.2.2.2.2.2.1 13 (by decide)]; exact q13, z3, z4⟩, fun b hb hv => ⟨(fI36 b hv).trans (old b hb hv).1, ?_⟩, fun j h3 h4 => ?_, ?_, a15, ?_, nS, gr_ob g37 (by rw [e31, e30, e29, e28]; exact or23), ?_, cn_row W.2.2.1 (fI36 a15 nav2), ?_, fun i b e z => ?_⟩
    · rw [← (old b hb hv).2]
      exact funext fun j => fR36 b j (fun z => hv z.1)
    · rw [fR36 v0 j (fun z => h3 z.2)]
      exact oldm j h4
    · have l36 : hL S36 = hL S23 := by rw [z2.1, e31, e30, e29, e28]; rfl
      have k36 : hK S36 = hK S23 := by rw [z2.2.1, e31, e30, e29, e28]; rfl
      rw [l36, k36]
      exact newk
    · rw [z2.2.2.2.1]
      exact hr
    · intro i b h1 h2 e z hz
      rw [fR36a] at e
      rw [fI36 b (dm23.1 i b h1 (by omega) e).1]
      exact ctR A hR i b h1 h2 e z hz
    · unfold DMr
      rw [fR36a]
      exact dm23
    · rw [fR36a, KO.1, R21, R19] at e
      exact ar i b e (gr_of_new e16 ea15 b (by rw [F14.1]; exact z)).1
  | inr e =>
    have pe := po_all _ _ _ _ hR
    rw [hR] at hp
    have M : MS f n a v0 (.inr e) S23 := hp
    have f13 : fI S23 v0 13 = nI e.1 := M.2.1.2.1
    have f14 : fI S23 v0 14 = nI e.2 := M.2.1.2.2
    refine ⟨fun c26 => ?_, fun c38 => ?_⟩
    · have := le_i c26
      rw [ex25, f13, nI_i (by omega)] at this
      omega
    · have h := h.2 c38
      intro S39 e39
      have h := h S39 e39
      intro x40 ex40
      have h := h x40 ex40
      intro S41 e41
      have h := h S41 e41
      have r41 : fR S41 = fR S23 := by rw [e41, e39]; rfl
      refine ⟨h, ⟨rfl, by rw [wI_ne e41 (by decide), wI_ne e39 (by decide)]; exact f13, by rw [wI_ne e41 (by decide), wI_at e39], by rw [wI_at e41, ex40, wI_ne e39 (by decide)]; exact f14⟩, fun b hb hv => ⟨?_, ?_⟩, fun j _ h4 => ?_, ?_, ?_⟩
      · rw [rw_I e41 hv, rw_I e39 hv]
        exact (old b hb hv).1
      · rw [r41]
        exact (old b hb hv).2
      · rw [r41]
        exact oldm j h4
      · have l41 : hL S41 = hL S23 := by rw [e41, e39]; rfl
        have k41 : hK S41 = hK S23 := by rw [e41, e39]; rfl
        rw [l41, k41]
        exact newk
      · show fR S41 v0 3 = fR S v0 3
        rw [r41]
        exact oldm 3 (by decide)
end Ct15
