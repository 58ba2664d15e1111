section MRead
variable {f : Nat → Int32} {n a rd nm ns nk p : Nat} {A : AS} {σ : Res} {Q : Int32 → HS → Prop} {QU : HS → Prop} {S T : HS} {v0 : Nat}
/-- what the model's reader comes to -/
def RAm (f : Nat → Int32) (n a m rd nm ns nk : Nat) (R : AS ⊕ (Nat × Nat)) (T : HS) : Prop := match R with
  | .inl A => (∃ q, MS f n a m (.inl q) T) ∧ RMw m rd nm ns nk A T
  | .inr e => MS f n a m (.inr e) T
theorem hour_ln {q : Nat} (h : sLn f n p A = .inl q) : aH (aLn f n p A) ≠ 0 := by
  unfold sLn at h
  unfold aLn
  by_cases w0 : isW f n p 0
  · rw [dc_y w0] at h
    rw [dc_y w0]
    unfold sWorld at h
    split at h
    · have hr : (5 : Int64) ≤ tV f n (tEn f n (tEn f n p)) ∧ tV f n (tEn f n (tEn f n p)) ≤ 60 := part_in h
      have hk := i64_le (k := 60) (by have := hr.1; exact Int64.le_trans (by decide) this) hr.2
      show (tV f n (tEn f n (tEn f n p))).toInt32.toNatClampNeg ≠ 0
      intro z
      rw [z] at hk
      have e1 := Int64.le_iff_toInt_le.mp hr.1
      have e2 := Int64.le_iff_toInt_le.mp hr.2
      have e5 : (5 : Int64).toInt = 5 := by decide
      have e60 : (60 : Int64).toInt = 60 := by decide
      have e3 : (tV f n (tEn f n (tEn f n p))).toInt32.toInt = 0 := by rw [hk.2]; decide
      rw [Int64.toInt_toInt32, Int.bmod_eq_of_le (by omega) (by omega)] at e3
      omega
    · cases h
  · rw [dc_n w0] at h
    rw [dc_n w0]
    have room : ∀ {c k : Nat} {g : Nat → Res}, rb (sRoom f n p (aH A) c k) g = .inl q → aH A ≠ 0 := fun h => by
      obtain ⟨q1, h1, -⟩ := rb_inl h
      exact (room_ok h1).1
    by_cases w2 : isW f n p 2
    · rw [dc_y w2] at h
      rw [dc_y w2]; exact room h
    · rw [dc_n w2] at h
      rw [dc_n w2]
      by_cases w11 : isW f n p 11
      · rw [dc_y w11] at h
        rw [dc_y w11]; exact room h
      · rw [dc_n w11] at h
        rw [dc_n w11]
        by_cases w12 : isW f n p 12
        · rw [dc_y w12] at h
          rw [dc_y w12]; exact room h
        · rw [dc_n w12] at h
          rw [dc_n w12]
          by_cases w13 : isW f n p 13
          · rw [dc_y w13] at h
            rw [dc_y w13]; exact room h
          · rw [dc_n w13] at h
            rw [dc_n w13]
            by_cases w14 : isW f n p 14
            · rw [dc_y w14] at h; exact room h
            · rw [dc_n w14] at h; cases h
def InvRA (f : Nat → Int32) (n a r rd nm ns nk : Nat) (R : AS ⊕ (Nat × Nat)) (v0 : Nat) (v1 : Int32) (S : HS) : Prop := r = v0 ∧ ((v1 = 1 ∧ ∃ (i p : Nat) (A : AS), i ≤ p ∧ MS f n a r (.inl p) S ∧ RMw r rd nm ns nk A S ∧ aM A = aP A + aW A ∧ R = sAll f n (1000 - i) p A) ∨ (v1 = 0 ∧ ∃ (L : Res) (A : AS) (g : Nat → AS ⊕ (Nat × Nat)), MS f n a r L S ∧ (∀ q, L = .inl q → RMw r rd nm ns nk A S ∧ aH A ≠ 0) ∧ R = aft f n A g L ∧ ¬ hasS f n L 3))
theorem ra_1 {L : Res} {g : Nat → AS ⊕ (Nat × Nat)} {R : AS ⊕ (Nat × Nat)} {e : Nat × Nat} {m : Nat} (K : R = aft f n A g L) (h0 : ¬ hasS f n L 0) (h3 : ¬ hasS f n L 3) (M : MS f n a m (rb L (fun p => .inr (1, tSt f n p))) T) : RAm f n a m rd nm ns nk R T := by
  cases L with
  | inr e => rw [K]; exact M
  | inl q =>
    have K : R = .inr (1, tSt f n q) := by
      rw [K]
      show (if tS f n q = 0 then _ else (match sSign f n q 3 with | .inr e => Sum.inr e | .inl p2 => g p2)) = _
      have h0 : ¬ tS f n q = 0 := h0
      have h3 : ¬ tS f n q = 3 := h3
      rw [if_neg h0]
      have : sSign f n q 3 = .inr (1, tSt f n q) := by
        unfold sSign
        rw [if_neg h3]
      rw [this]
    rw [K]; exact M
theorem ra_6 {q : Nat} {g : Nat → AS ⊕ (Nat × Nat)} {R : AS ⊕ (Nat × Nat)} {m : Nat} (K : R = aft f n A g (.inl q)) (h0 : tS f n q = 0) (hc : ¬ (0 < aP A ∧ 0 < aW A)) (M : MS f n a m (.inr (6, tSt f n q)) T) : RAm f n a m rd nm ns nk R T := by
  have K : R = .inr (6, tSt f n q) := by
    rw [K]
    show (if tS f n q = 0 then (if 0 < aP A ∧ 0 < aW A then _ else _) else _) = _
    rw [if_pos h0, if_neg hc]
  rw [K]; exact M
theorem ra_y {q : Nat} {g : Nat → AS ⊕ (Nat × Nat)} {R : AS ⊕ (Nat × Nat)} {m : Nat} (K : R = aft f n A g (.inl q)) (h0 : tS f n q = 0) (hc : 0 < aP A ∧ 0 < aW A) (M : MS f n a m (.inl q) T) (W : RMw m rd nm ns nk A T) : RAm f n a m rd nm ns nk R T := by
  have K : R = .inl A := by
    rw [K]
    show (if tS f n q = 0 then (if 0 < aP A ∧ 0 < aW A then _ else _) else _) = _
    rw [if_pos h0, if_pos hc]
  rw [K]; exact ⟨⟨q, M⟩, W⟩
theorem aft_3 {q : Nat} {g : Nat → AS ⊕ (Nat × Nat)} (h3 : tS f n q = 3) : aft f n A g (.inl q) = g (tEn f n q) := by
  show (if tS f n q = 0 then _ else (match sSign f n q 3 with | .inr e => Sum.inr e | .inl p2 => g p2)) = _
  rw [if_neg (by omega)]
  have : sSign f n q 3 = .inl (tEn f n q) := by
    unfold sSign
    rw [if_pos h3]
  rw [this]
theorem c_nz {x : Int32} {k : Nat} (h : x = nI k) (hk : k ≤ 900) : (x = 0 → k = 0) ∧ (¬ x = 0 → 0 < k) := by
  constructor
  · intro z
    exact nI_inj (by omega) (by omega) (by rw [← h, z]; rfl)
  · intro z
    refine Nat.pos_of_ne_zero (fun y => z ?_)
    rw [h, y]; rfl
set_option maxHeartbeats 1000000 in
theorem lpRA {r : Nat} {R : AS ⊕ (Nat × Nat)} {v0 : Nat} {v1 : Int32} (h : P_X11_readAll_2 QU v0 v1 S) (hi : InvRA f n a r rd nm ns nk R v0 v1 S) : P_X11_readAll_2 (fun T => QU T ∧ RAm f n a r rd nm ns nk R T) v0 v1 S := by
  refine h (fun v0 v1 S => InvRA f n a r rd nm ns nk R v0 v1 S → P_X11_readAll_2 (fun T => QU T ∧ RAm f n a r rd nm ns nk R T) v0 v1 S) ?_ hi
  intro v0 v1 S h hi
  obtain ⟨rfl, hi⟩ := hi
  refine fd_X11_readAll_2 ?_
  delta B_X11_readAll_2
  refine ⟨?_, ?_⟩
  · intro cq1
    rcases hi with ⟨z, -⟩ | ⟨-, L, A, g, M, hW, K, h3⟩
    · exact absurd (z.symm.trans cq1) (by decide)
    have h := h.1 cq1
    obtain ⟨oq2, h⟩ := h
    refine ⟨oq2, ?_⟩
    intro xq3 exq3
    have h := h xq3 exq3
    refine ⟨?_, ?_⟩
    · intro cq4
      have k0 := (ms_9 M).2.2.1.mp (exq3.symm.trans cq4)
      obtain ⟨q, hq⟩ : ∃ q, L = .inl q := by
        cases L with
        | inl q => exact ⟨q, rfl⟩
        | inr e => exact k0.elim
      obtain ⟨W, hH⟩ := hW q hq
      have hb := W.2.2.2.2.1
      subst hq
      have k0 : tS f n q = 0 := k0
      have h := h.1 cq4
      delta P_X11_readAll_33
      obtain ⟨oq5, h⟩ := h
      refine ⟨oq5, ?_⟩
      obtain ⟨aq6, eaq6, h⟩ := h
      refine ⟨aq6, eaq6, ?_⟩
      cases W.1.symm.trans eaq6
      obtain ⟨oq7, h⟩ := h
      refine ⟨oq7, ?_⟩
      intro xq8 exq8
      have h := h xq8 exq8
      refine ⟨?_, ?_⟩
      · intro cq9
        have Cxq8 := (c_nz (exq8.trans W.2.2.1.1) (by have := hb.1; omega)).1 cq9
        exact absurd Cxq8 hH
      · intro cq13
        have Cxq8 := (c_nz (exq8.trans W.2.2.1.1) (by have := hb.1; omega)).2 cq13
        have h := h.2 cq13
        obtain ⟨aq14, eaq14, h⟩ := h
        refine ⟨aq14, eaq14, ?_⟩
        cases W.1.symm.trans eaq14
        obtain ⟨oq15, h⟩ := h
        refine ⟨oq15, ?_⟩
        intro xq16 exq16
        have h := h xq16 exq16
        refine ⟨?_, ?_⟩
        · intro cq17
          have Cxq16 := (c_nz (exq16.trans W.2.2.1.2.2.1) (by have := hb.2.2.1; omega)).1 cq17
          have h := h.1 cq17
          delta P_X11_readAll_63
          obtain ⟨oq18, h⟩ := h
          refine ⟨oq18, ?_⟩
          refine cm_X11_flaw (sp_X11_flaw (k := 6) h M rfl) h (fun Sq19 hp h gq20 => ?_)
          have h := h gq20
          obtain ⟨-, M, G⟩ := hp
          exact ⟨h, ra_6 K k0 (by omega) M⟩
        · intro cq21
          have Cxq16 := (c_nz (exq16.trans W.2.2.1.2.2.1) (by have := hb.2.2.1; omega)).2 cq21
          have h := h.2 cq21
          obtain ⟨aq22, eaq22, h⟩ := h
          refine ⟨aq22, eaq22, ?_⟩
          cases W.1.symm.trans eaq22
          obtain ⟨oq23, h⟩ := h
          refine ⟨oq23, ?_⟩
          intro xq24 exq24
          have h := h xq24 exq24
          refine ⟨?_, ?_⟩
          · intro cq25
            have Cxq24 := (c_nz (exq24.trans W.2.2.1.2.2.2.2.1) (by have := hb.2.2.2.2.1; omega)).2 cq25
            have h := h.1 cq25
            exact ⟨h, ra_y K k0 (by omega) M W⟩
          · intro cq26
            have Cxq24 := (c_nz (exq24.trans W.2.2.1.2.2.2.2.1) (by have := hb.2.2.2.2.1; omega)).1 cq26
            have h := h.2 cq26
            delta P_X11_readAll_63
            obtain ⟨oq27, h⟩ := h
            refine ⟨oq27, ?_⟩
            refine cm_X11_flaw (sp_X11_flaw (k := 6) h M rfl) h (fun Sq28 hp h gq29 => ?_)
            have h := h gq29
            obtain ⟨-, M, G⟩ := hp
            exact ⟨h, ra_6 K k0 (by omega) M⟩
    · intro cq30
      have k0 : ¬ hasS f n L 0 := fun z => cq30 (exq3.trans ((ms_9 M).2.2.1.mpr z))
      have h := h.2 cq30
      refine cm_X11_flaw (sp_X11_flaw (k := 1) h M rfl) h (fun Sq31 hp h gq32 => ?_)
      have h := h gq32
      obtain ⟨-, M, G⟩ := hp
      delta P_X11_readAll_33
      obtain ⟨oq33, h⟩ := h
      refine ⟨oq33, ?_⟩
      obtain ⟨aq34, eaq34, h⟩ := h
      refine ⟨aq34, eaq34, ?_⟩
      obtain ⟨oq35, h⟩ := h
      refine ⟨oq35, ?_⟩
      intro xq36 exq36
      have h := h xq36 exq36
      refine ⟨?_, ?_⟩
      · intro cq37
        have h := h.1 cq37
        delta P_X11_readAll_63
        obtain ⟨oq38, h⟩ := h
        refine ⟨oq38, ?_⟩
        refine cm_X11_flaw (sp_X11_flaw (k := 6) h M rfl) h (fun Sq39 hp h gq40 => ?_)
        have h := h gq40
        obtain ⟨-, M, G⟩ := hp
        exact ⟨h, ra_1 (e := (0, 0)) K k0 h3 (ms_eq M rb_rb)⟩
      · intro cq41
        have h := h.2 cq41
        obtain ⟨aq42, eaq42, h⟩ := h
        refine ⟨aq42, eaq42, ?_⟩
        obtain ⟨oq43, h⟩ := h
        refine ⟨oq43, ?_⟩
        intro xq44 exq44
        have h := h xq44 exq44
        refine ⟨?_, ?_⟩
        · intro cq45
          have h := h.1 cq45
          delta P_X11_readAll_63
          obtain ⟨oq46, h⟩ := h
          refine ⟨oq46, ?_⟩
          refine cm_X11_flaw (sp_X11_flaw (k := 6) h M rfl) h (fun Sq47 hp h gq48 => ?_)
          have h := h gq48
          obtain ⟨-, M, G⟩ := hp
          exact ⟨h, ra_1 (e := (0, 0)) K k0 h3 (ms_eq M rb_rb)⟩
        · intro cq49
          have h := h.2 cq49
          obtain ⟨aq50, eaq50, h⟩ := h
          refine ⟨aq50, eaq50, ?_⟩
          obtain ⟨oq51, h⟩ := h
          refine ⟨oq51, ?_⟩
          intro xq52 exq52
          have h := h xq52 exq52
          refine ⟨?_, ?_⟩
          · intro cq53
            have h := h.1 cq53
            exact ⟨h, ra_1 (e := (0, 0)) K k0 h3 M⟩
          · intro cq54
            have h := h.2 cq54
            delta P_X11_readAll_63
            obtain ⟨oq55, h⟩ := h
            refine ⟨oq55, ?_⟩
            refine cm_X11_flaw (sp_X11_flaw (k := 6) h M rfl) h (fun Sq56 hp h gq57 => ?_)
            have h := h gq57
            obtain ⟨-, M, G⟩ := hp
            exact ⟨h, ra_1 (e := (0, 0)) K k0 h3 (ms_eq M rb_rb)⟩
  · intro cq58
    rcases hi.symm with ⟨z, -⟩ | ⟨-, i, p, A, hip, M, W, hAM, K⟩
    · exact absurd z cq58
    have h := h.2 cq58
    obtain ⟨oq59, h⟩ := h
    refine ⟨oq59, ?_⟩
    have M9 := M
    refine cm_X11_readLine (sp_X11_readLine h M W hAM) h (fun Sq60 hp h gq61 => ?_)
    have h := h gq61
    obtain ⟨-, LB⟩ := hp
    have M := LB.1
    have hp9 : p ≤ 900 := M9.2.2 p rfl
    have K : R = aft f n (aLn f n p A) (fun p2 => sAll f n (999 - i) p2 (aLn f n p A)) (sLn f n p A) := by
      rw [K, show 1000 - i = (999 - i) + 1 by omega]
      rfl
    refine cm_X11_eatsSign (sp_X11_eatsSign (k := 3) h M (Or.inl ⟨rfl, rfl⟩)) h (fun xq62 Sq63 hp h gq64 bq65 => ?_)
    have h := h gq64 bq65
    obtain ⟨-, M, G, Vxq62⟩ := hp
    rcases Vxq62 with ⟨k3, hx⟩ | ⟨k3, hx⟩
    · obtain ⟨p1, hL⟩ : ∃ q, sLn f n p A = .inl q := by
        cases hL : sLn f n p A with
        | inl q => exact ⟨q, rfl⟩
        | inr e => rw [hL] at k3; exact k3.elim
      have W := rm_F (LB.2 p1 hL) G
      have g1 := ge_ln p1 hL
      rw [hL] at M K k3
      have k3 : tS f n p1 = 3 := k3
      rw [aft_3 k3] at K
      have M : MS f n a r (.inl (tEn f n p1)) _ := ms_eq M (dc_y k3)
      have g2 := tEn_sg (k := 3) k3 (Or.inl rfl)
      exact h ⟨rfl, Or.inl ⟨hx, i + 1, tEn f n p1, aLn f n p A, by omega, M, W, eq_ln hAM, by rw [K, show 1000 - (i + 1) = 999 - i by omega]⟩⟩
    · have M := ms_eq M (rb_idd (fun p hp => (dc_n (hs_np k3 hp)).symm)).symm
      exact h ⟨rfl, Or.inr ⟨hx, _, _, _, M, fun q hq => ⟨rm_F (LB.2 q hq) G, hour_ln hq⟩, K, k3⟩⟩
theorem sp_X11_readAll (h : P_X11_readAll v0 QU S) (M : MS f n a v0 (.inl p) S) (W : RMw v0 rd nm ns nk A S) (hAM : aM A = aP A + aW A) : P_X11_readAll v0 (fun T => QU T ∧ RAm f n a v0 rd nm ns nk (sAll f n 1000 p A) T) S := by
  delta P_X11_readAll P_X11_readAll_0
  exact lpRA h ⟨rfl, Or.inl ⟨rfl, 0, p, A, by omega, M, W, hAM, rfl⟩⟩
end MRead
