section
/-- the tape a of c, t bytes of it as f says -/
def TP (fl tf : Nat) (f : Nat → Int32) (t a c : Nat) (S : HS) : Prop := fR S c fl = some a ∧ fI S c tf = nI t ∧ hN S a = 900 ∧ ob S a 12 ∧ a ≠ c ∧ ∀ j, j < t → fI S a j = f j
def FT (W : List Nat) (a c : Nat) (S T : HS) : Prop := Bas S T ∧ fJ T = fJ S ∧ (∀ b, b ≠ a → b ≠ c → fI T b = fI S b) ∧ ∀ j, j ∉ W → fI T c j = fI S c j
section Tape
variable {fl tf t a c : Nat} {f : Nat → Int32} {S T U V : HS} {W : List Nat}
theorem ft_rf (W : List Nat) (a c : Nat) (S : HS) : FT W a c S S := ⟨⟨rfl, rfl, rfl, rfl⟩, rfl, fun _ _ _ => rfl, fun _ _ => rfl⟩
theorem ft_tr (h : FT W a c S T) (g : FT W a c T U) : FT W a c S U := ⟨⟨g.1.1.trans h.1.1, g.1.2.1.trans h.1.2.1, g.1.2.2.1.trans h.1.2.2.1, g.1.2.2.2.trans h.1.2.2.2⟩, g.2.1.trans h.2.1, fun b x y => (g.2.2.1 b x y).trans (h.2.2.1 b x y), fun j hj => (g.2.2.2 j hj).trans (h.2.2.2 j hj)⟩
theorem tp_step {x y w : Int32} (P : TP fl tf f t a c S) (ht : t < 900) (hW : tf ∈ W) (hx : x = nI t) (e1 : U = sI S a x.toNatClampNeg w) (hy : y = fI U c tf + 1) (e2 : V = sI U c tf y) (hw : w = f t) : TP fl tf f (t + 1) a c V ∧ FT W a c S V := by
  obtain ⟨p1, p2, p3, p4, p5, p6⟩ := P
  have B : Bas S V := by rw [e2, e1]; exact ⟨rfl, rfl, rfl, rfl⟩
  have hc : fI U c = fI S c := rw_I e1 (Ne.symm p5)
  have ha : fI V a = fI U a := rw_I e2 p5
  refine ⟨⟨by rw [B.2.2.2]; exact p1, ?_, by rw [B.2.2.1]; exact p3, bb_ob' B p4, p5, fun j hj => ?_⟩, B, by rw [e2, e1]; rfl, fun b h1 h2 => by rw [rw_I e2 h2, rw_I e1 h1], fun j hj => ?_⟩
  · rw [wI_at e2, hy, hc, p2]; exact nI_1 t
  · rw [ha]
    rw [hx, nI_cl (by omega)] at e1
    by_cases hjt : j = t
    · rw [hjt, wI_at e1, hw]
    · rw [wI_ne e1 hjt]; exact p6 j (by omega)
  · rw [wI_ne (i := j) e2 (fun z => hj (by rw [z]; exact hW)), hc]
def InvPB (f : Nat → Int32) (t a c : Nat) (S0 : HS) (v0 : Nat) (v2 : Int32) (S : HS) : Prop := ∃ k, c = v0 ∧ k ≤ 4 ∧ v2 = 24 - 8 * nI k ∧ TP 0 1 f (t + k) a c S ∧ FT [1] a c S0 S
theorem lpPB {Q : HS → Prop} {v : Int32} {S0 : HS} {v0 : Nat} {v1 v2 : Int32} (ht : t + 4 ≤ 900) (hf : ∀ i, i < 4 → f (t + i) = bt4 v i) (hv : v1 = v) (h : P_X9_putBytes_3 Q v0 v1 v2 S) (hi : InvPB f t a c S0 v0 v2 S) : P_X9_putBytes_3 (fun T => Q T ∧ TP 0 1 f (t + 4) a c T ∧ FT [1] a c S0 T) v0 v1 v2 S := by
  refine h (fun v0 v1 v2 S => v1 = v → InvPB f t a c S0 v0 v2 S → P_X9_putBytes_3 (fun T => Q T ∧ TP 0 1 f (t + 4) a c T ∧ FT [1] a c S0 T) v0 v1 v2 S) ?_ hv hi
  intro v0 v1 v2 S h hv hi
  obtain ⟨k, rfl, hk, hv2, P, F⟩ := hi
  subst hv
  have e0 : (0 : Int32).toInt = 0 := by decide
  have e9 : (nI 900).toInt = 900 := nI_i (by omega)
  have ki : k = 0 ∨ k = 1 ∨ k = 2 ∨ k = 3 ∨ k = 4 := by omega
  have e2 : v2.toInt = 24 - 8 * (k : Int) := by
    rw [hv2]
    rcases ki with rfl | rfl | rfl | rfl | rfl <;> decide
  have P0 := P
  obtain ⟨p1, p2, p3, p4, p5, p6⟩ := P
  have pt : (fI S c 1).toInt = ((t + k : Nat) : Int) := by rw [p2]; exact nI_i (by omega)
  refine fd_X9_putBytes_3 ?_
  delta B_X9_putBytes_3
  refine ⟨?_, ?_⟩
  · intro c1
    have := lt_i c1
    have hk4 : k = 4 := by omega
    rw [hk4] at P0
    exact ⟨h.1 c1, P0, F⟩
  · intro c2
    have := nlt_i c2
    have h := h.2 c2
    obtain ⟨o3, h⟩ := h
    refine ⟨o3, ?_⟩
    intro x4 ex4
    have h := h x4 ex4
    refine ⟨?_, ?_⟩
    · intro c5
      have := lt_i c5
      rw [ex4, pt] at this
      omega
    · intro c7
      have h := h.2 c7
      intro x8 ex8
      have h := h x8 ex8
      obtain ⟨a9, ea9, h⟩ := h
      refine ⟨a9, ea9, ?_⟩
      cases p1.symm.trans ea9
      obtain ⟨o10, h⟩ := h
      refine ⟨o10, ?_⟩
      refine ⟨?_, ?_⟩
      · intro c11
        have := le_i c11
        rw [ex8, pt, p3, e9] at this
        omega
      · intro c13
        have h := h.2 c13
        obtain ⟨a14, ea14, h⟩ := h
        refine ⟨a14, ea14, ?_⟩
        cases p1.symm.trans ea14
        intro x15 ex15
        have h := h x15 ex15
        obtain ⟨o16, h⟩ := h
        refine ⟨o16, ?_⟩
        intro x17 ex17
        have h := h x17 ex17
        obtain ⟨o18, h⟩ := h
        refine ⟨o18, ?_⟩
        intro S19 eS19
        have h := h S19 eS19
        intro x20 ex20
        have h := h x20 ex20
        intro x21 ex21
        have h := h x21 ex21
        intro S22 eS22
        have h := h S22 eS22
        delta P_X9_putBytes_49
        intro x23 ex23
        have h := h x23 ex23
        have hk3 : k < 4 := by omega
        have hw : vp_nar .byte x17 = f (t + k) := by
          rw [hf k hk3, ex17, hv2, bt_c _ k hk3, nar_bt]
        obtain ⟨P2, F2⟩ := tp_step (W := [1]) P0 (by omega) (by decide) (ex15.trans p2) eS19 (by rw [ex21, ex20]) eS22 hw
        refine h rfl ⟨k + 1, rfl, by omega, ?_, P2, ft_tr F F2⟩
        rw [ex23, hv2]
        rcases ki with rfl | rfl | rfl | rfl | rfl <;> decide
theorem sp_X9_putBytes {Q : HS → Prop} {v1 : Int32} (h : P_X9_putBytes c v1 Q S) (P : TP 0 1 f t a c S) (ht : t + 4 ≤ 900) (hf : ∀ i, i < 4 → f (t + i) = bt4 v1 i) : P_X9_putBytes c v1 (fun T => Q T ∧ TP 0 1 f (t + 4) a c T ∧ FT [1] a c S T) S := by
  delta P_X9_putBytes P_X9_putBytes_0
  exact lpPB ht hf rfl h ⟨0, rfl, by omega, by decide, P, ft_rf _ _ _ _⟩
/-- the byte i of twenty -/
def fd20 (v1 v2 v3 v4 v5 : Int32) (i : Nat) : Int32 := bt4 (if i < 4 then v1 else if i < 8 then v2 else if i < 12 then v3 else if i < 16 then v4 else v5) (i % 4)
theorem sp_X9_feed {Q : Int32 → HS → Prop} {v1 v2 v3 v4 v5 : Int32} (h : P_X9_feed c v1 v2 v3 v4 v5 Q S) (P : TP 0 1 f t a c S) (ht : t ≤ 900) (hf : ∀ i, i < 20 → f (t + i) = fd20 v1 v2 v3 v4 v5 i) : P_X9_feed c v1 v2 v3 v4 v5 (fun r T => Q r T ∧ FT [1] a c S T ∧ ((t + 20 ≤ 900 ∧ r = nI (t + 20) ∧ TP 0 1 f (t + 20) a c T) ∨ (900 < t + 20 ∧ r = -1 ∧ S = T))) S := by
  have e9 : (900 : Int32).toInt = 900 := by decide
  have e20 : (20 : Int32).toInt = 20 := by decide
  delta P_X9_feed P_X9_feed_0
  obtain ⟨o1, h⟩ := h
  refine ⟨o1, ?_⟩
  intro x2 ex2
  have h := h x2 ex2
  have i2 : (x2 + 20).toInt = ((t + 20 : Nat) : Int) := by
    rw [ex2, P.2.1, Int32.toInt_add, nI_i (by omega), e20, Int.bmod_eq_of_le (by omega) (by omega)]
    omega
  have g : ∀ b i, b = 0 ∨ b = 4 ∨ b = 8 ∨ b = 12 ∨ b = 16 → i < 4 → f (t + b + i) = bt4 (if b < 4 then v1 else if b < 8 then v2 else if b < 12 then v3 else if b < 16 then v4 else v5) i := fun b i hb hi => by
    rw [Nat.add_assoc, hf (b + i) (by omega)]
    unfold fd20
    rcases hb with rfl | rfl | rfl | rfl | rfl
    · rw [if_pos (by omega), if_pos (by omega), show (0 + i) % 4 = i by omega]
    · rw [if_neg (by omega), if_pos (by omega), show (4 + i) % 4 = i by omega]; rfl
    · rw [if_neg (by omega), if_neg (by omega), if_pos (by omega), show (8 + i) % 4 = i by omega]; rfl
    · rw [if_neg (by omega), if_neg (by omega), if_neg (by omega), if_pos (by omega), show (12 + i) % 4 = i by omega]; rfl
    · rw [if_neg (by omega), if_neg (by omega), if_neg (by omega), if_neg (by omega), show (16 + i) % 4 = i by omega]; rfl
  refine ⟨?_, ?_⟩
  · intro c3
    have := le_i c3
    have h := h.1 c3
    refine cm_X9_putBytes (sp_X9_putBytes h P (by omega) (fun i hi => g 0 i (by omega) hi)) h (fun S4 hp h g5 => ?_)
    have h := h g5
    obtain ⟨-, P, F⟩ := hp
    refine cm_X9_putBytes (sp_X9_putBytes h P (by omega) (fun i hi => g 4 i (by omega) hi)) h (fun S6 hp h g7 => ?_)
    have h := h g7
    obtain ⟨-, P, G⟩ := hp
    have F := ft_tr F G
    refine cm_X9_putBytes (sp_X9_putBytes h P (by omega) (fun i hi => g 8 i (by omega) hi)) h (fun S8 hp h g9 => ?_)
    have h := h g9
    obtain ⟨-, P, G⟩ := hp
    have F := ft_tr F G
    refine cm_X9_putBytes (sp_X9_putBytes h P (by omega) (fun i hi => g 12 i (by omega) hi)) h (fun S10 hp h g11 => ?_)
    have h := h g11
    obtain ⟨-, P, G⟩ := hp
    have F := ft_tr F G
    refine cm_X9_putBytes (sp_X9_putBytes h P (by omega) (fun i hi => g 16 i (by omega) hi)) h (fun S12 hp h g13 => ?_)
    have h := h g13
    obtain ⟨-, P, G⟩ := hp
    have F := ft_tr F G
    intro x14 ex14
    have h := h x14 ex14
    exact ⟨h, F, Or.inl ⟨by omega, ex14.trans P.2.1, P⟩⟩
  · intro c15
    have := nle_i c15
    exact ⟨h.2 c15, ft_rf _ _ _ _, Or.inr ⟨by omega, rfl, rfl⟩⟩

set_option maxRecDepth 10000 in
theorem mod4_ : ∀ k : Nat, k < 20 → nI k - nI k / (4 : Int32) * (4 : Int32) = nI (k % 4) := by decide
def InvFd (f : Nat → Int32) (t a c : Nat) (S0 : HS) (v1 v2 v3 v4 v5 : Int32) (u0 : Nat) (u1 u2 u3 u4 u5 u6 : Int32) (S : HS) : Prop := ∃ k, c = u0 ∧ u1 = v1 ∧ u2 = v2 ∧ u3 = v3 ∧ u4 = v4 ∧ u5 = v5 ∧ k ≤ 20 ∧ u6 = nI k ∧ TP 5 6 f (t + k) a c S ∧ FT [0, 6] a c S0 S
theorem b76 {Q : Int32 → HS → Prop} {k : Nat} {S0 : HS} {v1 v2 v3 v4 v5 w6 w : Int32} {X X' : Nat → Int32 → Int32 → Int32 → Int32 → Int32 → Int32 → HS → Prop} (ht : t + 20 ≤ 900) (hk : k < 20) (h6 : w6 = nI k) (hw : f (t + k) = bt4 w (k % 4)) (P : TP 5 6 f (t + k) a c S) (F : FT [0, 6] a c S0 S) (h : P_X11_feed_76 Q X c v1 v2 v3 v4 v5 w6 w S) (hX : ∀ (y : Int32) (U : HS), X c v1 v2 v3 v4 v5 y U → InvFd f t a c S0 v1 v2 v3 v4 v5 c v1 v2 v3 v4 v5 y U → X' c v1 v2 v3 v4 v5 y U) {Q' : Int32 → HS → Prop} : P_X11_feed_76 Q' X' c v1 v2 v3 v4 v5 w6 w S := by
  delta P_X11_feed_76 at h ⊢
  obtain ⟨o9, h⟩ := h
  refine ⟨o9, ?_⟩
  obtain ⟨a10, ea10, h⟩ := h
  refine ⟨a10, ea10, ?_⟩
  cases P.1.symm.trans ea10
  intro x11 ex11
  have h := h x11 ex11
  intro x12 ex12
  have h := h x12 ex12
  obtain ⟨o13, h⟩ := h
  refine ⟨o13, ?_⟩
  intro x14 ex14
  have h := h x14 ex14
  obtain ⟨o15, h⟩ := h
  refine ⟨o15, ?_⟩
  intro S16 eS16
  have h := h S16 eS16
  intro x17 ex17
  have h := h x17 ex17
  intro x18 ex18
  have h := h x18 ex18
  intro S19 eS19
  have h := h S19 eS19
  intro x20 ex20
  have h := h x20 ex20
  have hb : vp_nar .byte x14 = f (t + k) := by
    rw [hw, ex14, ex12, h6, mod4_ k hk]
    exact nar_bt w (k % 4)
  obtain ⟨P2, F2⟩ := tp_step (W := [0, 6]) P (by omega) (by decide) (ex11.trans P.2.1) eS16 (by rw [ex18, ex17]) eS19 hb
  exact hX _ _ h ⟨k + 1, rfl, rfl, rfl, rfl, rfl, rfl, by omega, by rw [ex20, h6]; exact nI_1 k, P2, ft_tr F F2⟩
set_option maxHeartbeats 1000000 in
theorem lpFd {Q : Int32 → HS → Prop} {S0 : HS} {v1 v2 v3 v4 v5 : Int32} {u0 : Nat} {u1 u2 u3 u4 u5 u6 : Int32} (ht : t + 20 ≤ 900) (hf : ∀ i, i < 20 → f (t + i) = fd20 v1 v2 v3 v4 v5 i) (h : P_X11_feed_23 Q u0 u1 u2 u3 u4 u5 u6 S) (hi : InvFd f t a c S0 v1 v2 v3 v4 v5 u0 u1 u2 u3 u4 u5 u6 S) : P_X11_feed_23 (fun r T => Q r T ∧ FT [0, 6] a c S0 T ∧ r = nI (t + 20) ∧ TP 5 6 f (t + 20) a c T) u0 u1 u2 u3 u4 u5 u6 S := by
  refine h (fun u0 u1 u2 u3 u4 u5 u6 S => InvFd f t a c S0 v1 v2 v3 v4 v5 u0 u1 u2 u3 u4 u5 u6 S → P_X11_feed_23 (fun r T => Q r T ∧ FT [0, 6] a c S0 T ∧ r = nI (t + 20) ∧ TP 5 6 f (t + 20) a c T) u0 u1 u2 u3 u4 u5 u6 S) ?_ hi
  intro u0 u1 u2 u3 u4 u5 u6 S h hi
  obtain ⟨k, rfl, rfl, rfl, rfl, rfl, rfl, hk, h6, P, F⟩ := hi
  have e20 : (20 : Int32).toInt = 20 := by decide
  have e16 : (16 : Int32).toInt = 16 := by decide
  have e12 : (12 : Int32).toInt = 12 := by decide
  have e8 : (8 : Int32).toInt = 8 := by decide
  have e4 : (4 : Int32).toInt = 4 := by decide
  have e6 : u6.toInt = (k : Int) := by rw [h6]; exact nI_i (by omega)
  refine fd_X11_feed_23 ?_
  delta B_X11_feed_23
  refine ⟨?_, ?_⟩
  · intro c1
    have := le_i c1
    have h := h.1 c1
    obtain ⟨o2, h⟩ := h
    refine ⟨o2, ?_⟩
    intro x3 ex3
    have h := h x3 ex3
    have hk20 : k = 20 := by omega
    rw [hk20] at P
    exact ⟨h, F, ex3.trans P.2.1, P⟩
  · intro c4
    have := nle_i c4
    have hk20 : k < 20 := by omega
    have h := h.2 c4
    have hfk := hf k hk20
    unfold fd20 at hfk
    refine ⟨?_, ?_⟩
    · intro c5
      have := le_i c5
      have h := h.1 c5
      rw [if_neg (by omega)] at hfk
      refine ⟨?_, ?_⟩
      · intro c6
        have := le_i c6
        have h := h.1 c6
        rw [if_neg (by omega)] at hfk
        refine ⟨?_, ?_⟩
        · intro c7
          have := le_i c7
          have h := h.1 c7
          rw [if_neg (by omega)] at hfk
          refine ⟨?_, ?_⟩
          · intro c8
            have := le_i c8
            rw [if_neg (by omega)] at hfk
            exact b76 ht hk20 h6 hfk P F (h.1 c8) (fun y U hx iv => hx iv)
          · intro c8
            have := nle_i c8
            rw [if_pos (by omega)] at hfk
            exact b76 ht hk20 h6 hfk P F (h.2 c8) (fun y U hx iv => hx iv)
        · intro c7
          have := nle_i c7
          rw [if_pos (by omega)] at hfk
          exact b76 ht hk20 h6 hfk P F (h.2 c7) (fun y U hx iv => hx iv)
      · intro c6
        have := nle_i c6
        rw [if_pos (by omega)] at hfk
        exact b76 ht hk20 h6 hfk P F (h.2 c6) (fun y U hx iv => hx iv)
    · intro c5
      have := nle_i c5
      rw [if_pos (by omega)] at hfk
      exact b76 ht hk20 h6 hfk P F (h.2 c5) (fun y U hx iv => hx iv)
theorem sp_X11_feed {Q : Int32 → HS → Prop} {v1 v2 v3 v4 v5 : Int32} (h : P_X11_feed c v1 v2 v3 v4 v5 Q S) (P : TP 5 6 f t a c S) (ht : t ≤ 900) (hf : ∀ i, i < 20 → f (t + i) = fd20 v1 v2 v3 v4 v5 i) : P_X11_feed c v1 v2 v3 v4 v5 (fun r T => Q r T ∧ FT [0, 6] a c S T ∧ ((t + 20 ≤ 900 ∧ r = nI (t + 20) ∧ TP 5 6 f (t + 20) a c T) ∨ (900 < t + 20 ∧ r = -1 ∧ TP 5 6 f t a c T))) S := by
  have e9 : (900 : Int32).toInt = 900 := by decide
  have e20 : (20 : Int32).toInt = 20 := by decide
  delta P_X11_feed P_X11_feed_0
  obtain ⟨o1, h⟩ := h
  refine ⟨o1, ?_⟩
  intro S2 e2
  have h := h S2 e2
  intro x3 ex3
  have h := h x3 ex3
  have B : Bas S S2 := bs_I e2
  have F2 : FT [0, 6] a c S S2 := ⟨B, jj_I e2, fun b _ h2 => rw_I e2 h2, fun j hj => wI_ne e2 (fun z => hj (by rw [z]; decide))⟩
  obtain ⟨p1, p2, p3, p4, p5, p6⟩ := P
  have P2 : TP 5 6 f t a c S2 := ⟨by rw [B.2.2.2]; exact p1, by rw [wI_ne e2 (by decide)]; exact p2, by rw [B.2.2.1]; exact p3, bb_ob' B p4, p5, fun j hj => by rw [rw_I e2 p5]; exact p6 j hj⟩
  have i3 : (x3 + 20).toInt = ((t + 20 : Nat) : Int) := by
    rw [ex3, P2.2.1, Int32.toInt_add, nI_i (by omega), e20, Int.bmod_eq_of_le (by omega) (by omega)]
    omega
  refine ⟨?_, ?_⟩
  · intro c4
    have := le_i c4
    have h := h.1 c4
    have h20 : t + 20 ≤ 900 := by omega
    refine cm_X11_feed_23 (lpFd (S0 := S) h20 hf h ⟨0, rfl, rfl, rfl, rfl, rfl, rfl, by omega, nI_0.symm, P2, F2⟩) h (fun r T h1 h2 => ⟨h2, h1.2.1, Or.inl ⟨h20, h1.2.2.1, h1.2.2.2⟩⟩)
  · intro c5
    have := nle_i c5
    exact ⟨h.2 c5, F2, Or.inr ⟨by omega, rfl, P2⟩⟩
end Tape
end
section
/-! what the invariant gives of the class, and the tapes of the two -/
section Rel
variable {S T : HS} {c m t n : Nat} {f : Nat → Int32}
theorem iv_rdy (hI : IV S) (oc : ob S c 9) (hn : n ≤ 900) (hf : ∀ a, fR S c 0 = some a → ∀ j, j < n → fI S a j = f j) : ∃ a r w nm nd, fR S c 0 = some a ∧ fR S c 3 = some r ∧ Rdy f n a r w nm nd S ∧ DSt w nd S ∧ (∀ x b i, fR S w 9 = some b → i < hN S b → fR S b i = some x → ob S x 6) ∧ ∀ b, fR S w 9 = some b → b ≠ r := by
  obtain ⟨a, a1, a2, a3⟩ := hI.1 (9, 0, 12, 900) (by decide) c oc
  obtain ⟨r, r1, r2, -⟩ := hI.1 (9, 3, 4, 0) (by decide) c oc
  obtain ⟨w, w1, w2, -⟩ := hI.1 (4, 5, 8, 0) (by decide) r r2
  obtain ⟨nm, m1, m2, -⟩ := hI.1 (4, 11, 14, 12) (by decide) r r2
  obtain ⟨nd, d1, d2, d3⟩ := hI.1 (4, 12, 13, 12) (by decide) r r2
  obtain ⟨p7, q7, -, s7⟩ := hI.1 (8, 7, 13, 8) (by decide) w w2
  obtain ⟨p10, q10, -, s10⟩ := hI.1 (8, 10, 13, 4) (by decide) w w2
  obtain ⟨p11, q11, -, s11⟩ := hI.1 (8, 11, 13, 20) (by decide) w w2
  obtain ⟨p9, q9, u9, -⟩ := hI.1 (8, 9, 19, 4) (by decide) w w2
  have a3 : hN S a = 900 := a3.resolve_left (by decide)
  have d3 : hN S nd = 12 := d3.resolve_left (by decide)
  have s7 : hN S p7 = 8 := s7.resolve_left (by decide)
  have s10 : hN S p10 = 4 := s10.resolve_left (by decide)
  have s11 : hN S p11 = 20 := s11.resolve_left (by decide)
  refine ⟨a, r, w, nm, nd, a1, r1, ⟨hf a a1, a3, hn, m1, d1, w1, r2, w2, m2, d2, a2⟩, fun j b hj hb z => ?_, fun x b i hb hi hx => ?_, fun b hb => ?_⟩
  · subst z
    rcases hj with rfl | rfl | rfl
    · cases q7.symm.trans hb
      omega
    · cases q10.symm.trans hb
      omega
    · cases q11.symm.trans hb
      omega
  · cases q9.symm.trans hb
    obtain ⟨y, y1, y2⟩ := hI.2.1 19 (by decide) (by decide) p9 u9 i hi
    cases y1.symm.trans hx
    exact y2
  · cases q9.symm.trans hb
    exact ob_ne u9 r2 (by decide)
/-- the tapes of the class c and of the model m hold the same bytes -/
def TT (c m : Nat) (S : HS) : Prop := ∃ (f : Nat → Int32) (t a b : Nat), t ≤ 900 ∧ TP 0 1 f t a c S ∧ TP 5 6 f t b m S ∧ a ≠ b ∧ ∀ j, j < t → -128 ≤ (f j).toInt ∧ (f j).toInt ≤ 127
/-- what keeps the tapes: the rows of bytes, the tape's reference and its count -/
theorem tp_K {fl tf k : Nat} {a c : Nat} (P : TP fl tf f t a c S) (oc : ob S c k) (K : K2 S T) (hR : fR T c fl = fR S c fl) (hI : fI T c tf = fI S c tf) : TP fl tf f t a c T := by
  obtain ⟨p1, p2, p3, p4, p5, p6⟩ := P
  exact ⟨hR.trans p1, hI.trans p2, (K.1 a p4.1).2.2.trans p3, gr_ob K.1 p4, p5, fun j hj => by rw [K.2 a p4]; exact p6 j hj⟩
theorem tt_K (h : TT c m S) (oc : ob S c 9) (om : ob S m 11) (K : K2 S T) (r1 : fR T c 0 = fR S c 0) (i1 : fI T c 1 = fI S c 1) (r2 : fR T m 5 = fR S m 5) (i2 : fI T m 6 = fI S m 6) : TT c m T := by
  obtain ⟨f, t, a, b, h1, h2, h3, h4, h5⟩ := h
  exact ⟨f, t, a, b, h1, tp_K h2 oc K r1 i1, tp_K h3 om K r2 i2, h4, h5⟩
end Rel
end
section
section Rel2
variable {S T : HS} {c m t a : Nat} {f : Nat → Int32} {v1 : Int32} {Q : Int32 → HS → Prop}
theorem n_of {v : Int32} {t : Nat} (ht : t ≤ 900) (h0 : ¬ v < 0) (h1 : ¬ nI t < v) : ∃ n, n ≤ t ∧ v = nI n := by
  have a0 := nlt_i h0
  have a1 := nlt_i h1
  have e0 : (0 : Int32).toInt = 0 := by decide
  rw [nI_i (by omega)] at a1
  refine ⟨v.toInt.toNat, by omega, Int32.toInt_inj.mp ?_⟩
  rw [nI_i (by omega)]
  omega
/-- the class's world(n): refused with 2, or as the text says -/
def WCd (S : HS) (f : Nat → Int32) (t : Nat) (v1 : Int32) (c : Nat) (x : Int32) (T : HS) : Prop := ((v1 < 0 ∨ nI t < v1) ∧ x = -1 ∧ fI T c 9 = 2 ∧ fI T c 7 = fI S c 7) ∨ ∃ n, n ≤ t ∧ v1 = nI n ∧ WcB (sAll f n 1000 0 A00) c x T
def WMd (S : HS) (f : Nat → Int32) (t : Nat) (v1 : Int32) (m : Nat) (x : Int32) (T : HS) : Prop := ((v1 < 0 ∨ nI t < v1) ∧ x = -1 ∧ fI T m 1 = 2 ∧ fI T m 2 = -1 ∧ fI T m 13 = fI S m 13) ∨ ∃ n, n ≤ t ∧ v1 = nI n ∧ WmB (sAll f n 1000 0 A00) m x T
theorem rl_X9_world (hI : IV S) (oc : ob S c 9) (P : TP 0 1 f t a c S) (ht : t ≤ 900) (h : P_X9_world c v1 Q S) : P_X9_world c v1 (fun x T => Q x T ∧ WCd S f t v1 c x T) S := by
  by_cases hb : v1 < 0 ∨ nI t < v1
  · refine cm_X9_world (sp_X9_world_bad h (by rw [P.2.1]; exact hb)) h (fun x T hp h => ⟨h, Or.inl ⟨hb, hp.2.1, wI_at hp.2.2, wI_ne hp.2.2 (by decide)⟩⟩)
  · obtain ⟨n, hn, hv⟩ := n_of ht (fun z => hb (Or.inl z)) (fun z => hb (Or.inr z))
    obtain ⟨a', r, w, nm, nd, g1, g2, g3, g4, g5, g6⟩ := iv_rdy (f := f) (n := n) hI oc (by omega) (fun b hb j hj => by
      cases P.1.symm.trans hb
      exact P.2.2.2.2.2 j (by omega))
    refine cm_X9_world (sp_X9_world_ok hI oc h hv g1 g2 g3 g4 g5 g6 ?_) h (fun x T hp h => ⟨h, Or.inr ⟨n, hn, hv, hp.2⟩⟩)
    rw [P.2.1]
    exact Int32.not_lt.mp (fun z => hb (Or.inr z))
theorem rl_X11_world (P : TP 5 6 f t a m S) (ht : t ≤ 900) (hB : ∀ j, j < t → -128 ≤ (f j).toInt ∧ (f j).toInt ≤ 127) (h : P_X11_world m v1 Q S) : P_X11_world m v1 (fun x T => Q x T ∧ WMd S f t v1 m x T) S := by
  by_cases hb : v1 < 0 ∨ nI t < v1
  · exact cm_X11_world (sp_X11_world_bad h (by rw [P.2.1]; exact hb)) h (fun x T hp h => ⟨h, Or.inl ⟨hb, hp.2.1, hp.2.2.2.1, hp.2.2.2.2, hp.2.2.1.2.2.2.2.2.1 13 (by decide)⟩⟩)
  · obtain ⟨n, hn, hv⟩ := n_of ht (fun z => hb (Or.inl z)) (fun z => hb (Or.inr z))
    refine cm_X11_world (sp_X11_world_ok h hv (by omega) P.1 P.2.2.2.1 P.2.2.1 (fun j hj => P.2.2.2.2.2 j (by omega)) (fun j hj => hB j (by omega)) ?_) h (fun x T hp h => ⟨h, Or.inr ⟨n, hn, hv, hp.2⟩⟩)
    rw [P.2.1]
    exact Int32.not_lt.mp (fun z => hb (Or.inr z))
theorem no_bad (ht : t ≤ 900) : ∀ n, n ≤ t → v1 = nI n → ¬ (v1 < 0 ∨ nI t < v1) := by
  intro n hn hv z
  rw [hv] at z
  have e0 : (0 : Int32).toInt = 0 := by decide
  rcases z with z | z
  · have := lt_i z
    rw [nI_i (by omega)] at this
    omega
  · have := lt_i z
    rw [nI_i (by omega), nI_i (by omega)] at this
    omega
/-- both sides alike: refused, or read -/
theorem wc_both {x y : Int32} {S' T U : HS} (ht : t ≤ 900) (h : WCd S f t v1 c x T) (g : WMd S' f t v1 m y U) : (x = -1 ∧ y = -1 ∧ fI T c 9 = 2 ∧ fI T c 7 = fI S c 7 ∧ fI U m 1 = 2 ∧ fI U m 2 = -1 ∧ fI U m 13 = fI S' m 13) ∨ ∃ R, WcB R c x T ∧ WmB R m y U := by
  rcases h with ⟨h1, h2, h3⟩ | ⟨n, h1, h2, h3⟩
  · rcases g with ⟨-, g2, g3⟩ | ⟨k, g1, g2, -⟩
    · exact Or.inl ⟨h2, g2, h3.1, h3.2, g3⟩
    · exact absurd h1 (no_bad ht k g1 g2)
  · rcases g with ⟨g1, -⟩ | ⟨k, g1, g2, g3⟩
    · exact absurd g1 (no_bad ht n h1 h2)
    · have : n = k := nI_inj (by omega) (by omega) (h2.symm.trans g2)
      subst this
      exact Or.inr ⟨_, h3, g3⟩
/-- the two answers are one -/
theorem wc_wm {x y : Int32} {S' T U : HS} (ht : t ≤ 900) (h : WCd S f t v1 c x T) (g : WMd S' f t v1 m y U) : x = y := by
  rcases wc_both ht h g with ⟨h1, h2, -⟩ | ⟨R, h3, g3⟩
  · rw [h1, h2]
  · cases R with
    | inl A => exact h3.1.trans g3.1.symm
    | inr e => exact h3.1.trans g3.1.symm
/-- the two faults are one afterwards, if they were before -/
theorem wc_fault {x y : Int32} {S' T U : HS} (ht : t ≤ 900) (h : WCd S f t v1 c x T) (g : WMd S' f t v1 m y U) (hf : fI S c 7 = fI S' m 13) : fI T c 7 = fI U m 13 := by
  rcases wc_both ht h g with ⟨-, -, -, h1, -, -, h2⟩ | ⟨R, h3, g3⟩
  · rw [h1, h2, hf]
  · cases R with
    | inl A => exact h3.2.1.trans g3.2.1.symm
    | inr e => exact h3.2.1.trans g3.2.1.symm
/-- what where() answers on the two sides -/
def WH (c m : Nat) (S : HS) : Prop := (fI S c 9 = 4 → fI S m 2 = fI S c 8) ∧ (fI S c 9 ≠ 4 → fI S m 2 = -1)
theorem wc_where {x y : Int32} {S' T U : HS} (ht : t ≤ 900) (h : WCd S f t v1 c x T) (g : WMd S' f t v1 m y U) : (fI T c 9 = 4 → fI U m 2 = fI T c 8) ∧ (fI T c 9 ≠ 4 → fI U m 2 = -1) := by
  rcases wc_both ht h g with ⟨-, -, h1, -, -, h2, -⟩ | ⟨R, h3, g3⟩
  · exact ⟨fun z => absurd (h1.symm.trans z) (by decide), fun _ => h2⟩
  · cases R with
    | inl A => exact ⟨fun z => absurd (h3.2.2.symm.trans z) (by decide), fun _ => g3.2.2.2⟩
    | inr e => exact ⟨fun _ => g3.2.2.2.trans h3.2.2.1.symm, fun z => absurd h3.2.2.2 z⟩
end Rel2
end
section
section Rel3
variable {S T : HS} {c m t a b fl tf : Nat} {f : Nat → Int32} {W : List Nat} {Q : Int32 → HS → Prop} {v1 v2 v3 v4 v5 : Int32}
theorem tp_ft (P : TP fl tf f t a c S) (F : FT W b m S T) (h1 : a ≠ b) (h2 : a ≠ m) (h3 : c ≠ b) (h4 : c ≠ m) : TP fl tf f t a c T := by
  obtain ⟨p1, p2, p3, p4, p5, p6⟩ := P
  exact ⟨by rw [F.1.2.2.2]; exact p1, by rw [F.2.2.1 c h3 h4]; exact p2, by rw [F.1.2.2.1]; exact p3, bb_ob' F.1 p4, p5, fun j hj => by rw [F.2.2.1 a h1 h2]; exact p6 j hj⟩
/-- the tape with twenty bytes more -/
def f20 (f : Nat → Int32) (t : Nat) (v1 v2 v3 v4 v5 : Int32) (j : Nat) : Int32 := if j < t then f j else fd20 v1 v2 v3 v4 v5 (j - t)
theorem f20_at {i : Nat} : f20 f t v1 v2 v3 v4 v5 (t + i) = fd20 v1 v2 v3 v4 v5 i := by
  unfold f20
  rw [if_neg (by omega), Nat.add_sub_cancel_left]
theorem tp_20 (P : TP fl tf f t a c S) : TP fl tf (f20 f t v1 v2 v3 v4 v5) t a c S := by
  obtain ⟨p1, p2, p3, p4, p5, p6⟩ := P
  exact ⟨p1, p2, p3, p4, p5, fun j hj => by unfold f20; rw [if_pos hj]; exact p6 j hj⟩
theorem in_20 (h : ∀ j, j < t → -128 ≤ (f j).toInt ∧ (f j).toInt ≤ 127) : ∀ j, -128 ≤ (f20 f t v1 v2 v3 v4 v5 j).toInt ∧ (f20 f t v1 v2 v3 v4 v5 j).toInt ≤ 127 ∨ t + 20 ≤ j := fun j => by
  unfold f20
  split
  · exact Or.inl (h j (by assumption))
  · exact Or.inl (bt_in _ _)
/-- feed on both sides: the tapes stay alike, the answers are one -/
theorem tt_feed {U : HS} {x y : Int32} (oc : ob S c 9) (om : ob S m 11) (ht : t ≤ 900) (P : TP 0 1 f t a c S) (R : TP 5 6 f t b m S) (hab : a ≠ b) (hB : ∀ j, j < t → -128 ≤ (f j).toInt ∧ (f j).toInt ≤ 127)
    (F1 : FT [1] a c S T) (g1 : (t + 20 ≤ 900 ∧ x = nI (t + 20) ∧ TP 0 1 (f20 f t v1 v2 v3 v4 v5) (t + 20) a c T) ∨ (900 < t + 20 ∧ x = -1 ∧ S = T))
    (F2 : FT [0, 6] b m T U) (g2 : (t + 20 ≤ 900 ∧ y = nI (t + 20) ∧ TP 5 6 (f20 f t v1 v2 v3 v4 v5) (t + 20) b m U) ∨ (900 < t + 20 ∧ y = -1 ∧ TP 5 6 (f20 f t v1 v2 v3 v4 v5) t b m U)) : TT c m U ∧ x = y := by
  have d1 : a ≠ m := ob_ne P.2.2.2.1 om (by decide)
  have d2 : c ≠ b := ob_ne oc R.2.2.2.1 (by decide)
  have d3 : c ≠ m := ob_ne oc om (by decide)
  rcases g1 with ⟨k1, k2, k3⟩ | ⟨k1, k2, k3⟩
  · rcases g2 with ⟨-, l2, l3⟩ | ⟨l1, -⟩
    · refine ⟨⟨_, t + 20, a, b, k1, tp_ft k3 F2 hab d1 d2 d3, l3, hab, fun j hj => ?_⟩, by rw [k2, l2]⟩
      exact (in_20 hB j).resolve_right (by omega)
    · omega
  · rcases g2 with ⟨l1, -⟩ | ⟨-, l2, l3⟩
    · omega
    · subst k3
      refine ⟨⟨_, t, a, b, ht, tp_ft (tp_20 P) F2 hab d1 d2 d3, l3, hab, fun j hj => ?_⟩, by rw [k2, l2]⟩
      exact (in_20 hB j).resolve_right (by omega)
theorem rl_X9_feed (h : P_X9_feed c v1 v2 v3 v4 v5 Q S) (P : TP 0 1 f t a c S) (ht : t ≤ 900) : P_X9_feed c v1 v2 v3 v4 v5 (fun r T => Q r T ∧ FT [1] a c S T ∧ ((t + 20 ≤ 900 ∧ r = nI (t + 20) ∧ TP 0 1 (f20 f t v1 v2 v3 v4 v5) (t + 20) a c T) ∨ (900 < t + 20 ∧ r = -1 ∧ S = T))) S := sp_X9_feed h (tp_20 P) ht (fun _ _ => f20_at)
theorem rl_X11_feed (h : P_X11_feed m v1 v2 v3 v4 v5 Q S) (P : TP 5 6 f t b m S) (ht : t ≤ 900) : P_X11_feed m v1 v2 v3 v4 v5 (fun r T => Q r T ∧ FT [0, 6] b m S T ∧ ((t + 20 ≤ 900 ∧ r = nI (t + 20) ∧ TP 5 6 (f20 f t v1 v2 v3 v4 v5) (t + 20) b m T) ∨ (900 < t + 20 ∧ r = -1 ∧ TP 5 6 (f20 f t v1 v2 v3 v4 v5) t b m T))) S := sp_X11_feed h (tp_20 P) ht (fun _ _ => f20_at)
end Rel3
end
section
section Rel4
variable {S S0 T : HS} {c m v0 : Nat} {QU : HS → Prop}
/-- at the start both tapes are empty -/
theorem tt_start {F : List (Nat × Nat × Nat)} {g : Nat → Int32} (hI : IV T) (hf : m ∉ hL S0) (oc : ob S0 c 9) (h0 : IV S0) (hc1 : fI S0 c 1 = 0) (bx : BX (nW S0 m 11 0) T m F g) (h5 : (5, 12, 900) ∈ F) (h6 : g 6 = 0) : TT c m T := by
  obtain ⟨b1, b2, b3, b4, b5, b6, b7, b8, b9⟩ := bx
  obtain ⟨a, a1, a2, a3⟩ := h0.1 (9, 0, 12, 900) (by decide) c oc
  obtain ⟨b, e1, e2, e3, e4, -⟩ := b4 _ h5
  have om : ob (nW S0 m 11 0) m 11 := ob_of_new rfl
  have oc1 : ob (nW S0 m 11 0) c 9 := gr_ob (gr_of_new rfl hf) oc
  have oa1 : ob (nW S0 m 11 0) a 12 := gr_ob (gr_of_new rfl hf) a2
  have ncm : c ≠ m := ob_ne oc1 om (by decide)
  have a3 : hN S0 a = 900 := a3.resolve_left (by decide)
  have nam : a ≠ m := ob_ne oa1 om (by decide)
  have q1 : fI T c = fI S0 c := (b2 c oc1.1 ncm).1.trans (va_up_ne _ _ ncm)
  have q2 : fR T c = fR S0 c := (b2 c oc1.1 ncm).2.2.trans (va_up_ne _ _ ncm)
  have oT : ob T m 11 := gr_ob b1 om
  refine ⟨fun _ => 0, 0, a, b, by omega, ⟨by rw [q2]; exact a1, by rw [q1]; exact hc1, ?_, gr_ob b1 oa1, ob_ne oa1 oc1 (by decide), fun j hj => absurd hj (by omega)⟩, ⟨e1, by rw [b7]; exact h6, e4, e3, ob_ne e3 oT (by decide), fun j hj => absurd hj (by omega)⟩, fun z => e2 (z ▸ oa1.1), fun j hj => absurd hj (by omega)⟩
  rw [(b1 a oa1.1).2.2]
  exact (va_up_ne _ _ nam).trans a3
end Rel4
end
section
section Rel5
variable {S T U : HS} {c m : Nat} {wi wr wi' wr' : List (Nat × Nat)}
/-- a call that writes neither tape nor its count keeps the tapes alike -/
theorem tt_fri (h : TT c m S) (oc : ob S c 9) (om : ob S m 11) (K : K2 S T) (F : FRI wi wr S T) (hc : (9, 1) ∉ wi) (hm : (11, 6) ∉ wi) (rc : (9, 0) ∉ wr) (rm : (11, 5) ∉ wr) : TT c m T :=
  tt_K h oc om K (F.2 9 0 (by decide) rc c oc) (F.1 9 1 (by decide) hc c oc) (F.2 11 5 (by decide) rm m om) (F.1 11 6 (by decide) hm m om)
/-- world on both sides keeps the tapes alike -/
theorem tt_world {v1 : Int32} (h : TT c m S) (oc : ob S c 9) (om : ob S m 11) (K : K2 S T) (K' : K2 T U) (F : FRI wi wr S T) (F' : FRI wi' wr' T U) (hm : (11, 6) ∉ wi) (rc : (9, 0) ∉ wr) (rm : (11, 5) ∉ wr) (hc' : (9, 1) ∉ wi') (rc' : (9, 0) ∉ wr') (rm' : (11, 5) ∉ wr')
    (p : (v1 < 0 ∨ fI S c 1 < v1 → fI T c 1 = fI S c 1) ∧ (0 ≤ v1 ∧ v1 ≤ fI S c 1 → fI T c 1 = 0)) (q : (v1 < 0 ∨ fI T m 6 < v1 → fI U m 6 = fI T m 6) ∧ (0 ≤ v1 ∧ v1 ≤ fI T m 6 → fI U m 6 = 0)) : TT c m U := by
  have oc' := gr_ob K.1 oc
  have om' := gr_ob K.1 om
  have m6 : fI T m 6 = fI S m 6 := F.1 11 6 (by decide) hm m om
  have c1 : fI U c 1 = fI T c 1 := F'.1 9 1 (by decide) hc' c oc'
  have c0 : fR U c 0 = fR S c 0 := (F'.2 9 0 (by decide) rc' c oc').trans (F.2 9 0 (by decide) rc c oc)
  have m5 : fR U m 5 = fR S m 5 := (F'.2 11 5 (by decide) rm' m om').trans (F.2 11 5 (by decide) rm m om)
  have KK := k2_tr K K'
  obtain ⟨f, t, a, b, h1, P, R, h4, h5⟩ := h
  have e1 : fI S c 1 = fI S m 6 := P.2.1.trans R.2.1.symm
  by_cases hb : v1 < 0 ∨ fI S c 1 < v1
  · have z1 := p.1 hb
    have z2 := q.1 (by rw [m6, ← e1]; exact hb)
    exact ⟨f, t, a, b, h1, tp_K P oc KK c0 (c1.trans z1), tp_K R om KK m5 (z2.trans m6), h4, h5⟩
  · have hg : 0 ≤ v1 ∧ v1 ≤ fI S c 1 := ⟨Int32.not_lt.mp (fun z => hb (Or.inl z)), Int32.not_lt.mp (fun z => hb (Or.inr z))⟩
    have z1 := p.2 hg
    have z2 := q.2 (by rw [m6, ← e1]; exact hg)
    obtain ⟨p1, p2, p3, p4, p5, p6⟩ := P
    obtain ⟨r1, r2, r3, r4, r5, r6⟩ := R
    exact ⟨f, 0, a, b, by omega, ⟨c0.trans p1, c1.trans z1, (KK.1 a p4.1).2.2.trans p3, gr_ob KK.1 p4, p5, fun j hj => absurd hj (by omega)⟩, ⟨m5.trans r1, z2, (KK.1 b r4.1).2.2.trans r3, gr_ob KK.1 r4, r5, fun j hj => absurd hj (by omega)⟩, h4, fun j hj => absurd hj (by omega)⟩
/-- the model's tape after a call of the class -/
theorem tp_mid {f : Nat → Int32} {t b : Nat} (R : TP 5 6 f t b m S) (om : ob S m 11) (K : K2 S T) (F : FRI wi wr S T) (hm : (11, 6) ∉ wi) (rm : (11, 5) ∉ wr) : TP 5 6 f t b m T := tp_K R om K (F.2 11 5 (by decide) rm m om) (F.1 11 6 (by decide) hm m om)
end Rel5
end
section
theorem mk_X9_world {v0 : Nat} {v1 : Int32} {Q : Int32 → HS → Prop} {S : HS} (hI : IV S) (o_v0 : ob S v0 9) (hq : ∀ (r : Int32) (T : HS), IV T → Gr S T → FRI [(0, 0), (0, 2), (0, 3), (3, 0), (3, 1), (3, 2), (3, 3), (3, 4), (4, 0), (4, 1), (4, 3), (4, 4), (4, 6), (4, 7), (4, 9), (4, 10), (5, 0), (5, 1), (5, 2), (5, 3), (5, 4), (6, 0), (6, 1), (6, 2), (6, 3), (6, 4), (6, 5), (6, 6), (7, 10), (8, 0), (8, 1), (8, 2), (8, 3), (8, 4), (8, 5), (9, 1), (9, 7), (9, 8), (9, 9)] [(4, 2), (4, 5), (9, 2)] S T → ((v1 < 0 ∨ fI S v0 1 < v1 → fI T v0 1 = fI S v0 1) ∧ (0 ≤ v1 ∧ v1 ≤ fI S v0 1 → fI T v0 1 = 0)) → K2 S T → Q r T) : P_X9_world v0 v1 Q S := cm_X9_world (kf_X9_world (m2_X9_world (Q := fun r T => IV T ∧ Gr S T ∧ (FRI [(0, 0), (0, 2), (0, 3), (3, 0), (3, 1), (3, 2), (3, 3), (3, 4), (4, 0), (4, 1), (4, 3), (4, 4), (4, 6), (4, 7), (4, 9), (4, 10), (5, 0), (5, 1), (5, 2), (5, 3), (5, 4), (6, 0), (6, 1), (6, 2), (6, 3), (6, 4), (6, 5), (6, 6), (7, 10), (8, 0), (8, 1), (8, 2), (8, 3), (8, 4), (8, 5), (9, 1), (9, 7), (9, 8), (9, 9)] [(4, 2), (4, 5), (9, 2)] S T) ∧ (((v1 < 0 ∨ fI S v0 1 < v1 → fI T v0 1 = fI S v0 1) ∧ (0 ≤ v1 ∧ v1 ≤ fI S v0 1 → fI T v0 1 = 0)))) hI o_v0 (fun r T h0 h1 h2 h3 => ⟨h0, h1, h2, h3⟩))) (m2_X9_world (Q := fun r T => IV T ∧ Gr S T ∧ (FRI [(0, 0), (0, 2), (0, 3), (3, 0), (3, 1), (3, 2), (3, 3), (3, 4), (4, 0), (4, 1), (4, 3), (4, 4), (4, 6), (4, 7), (4, 9), (4, 10), (5, 0), (5, 1), (5, 2), (5, 3), (5, 4), (6, 0), (6, 1), (6, 2), (6, 3), (6, 4), (6, 5), (6, 6), (7, 10), (8, 0), (8, 1), (8, 2), (8, 3), (8, 4), (8, 5), (9, 1), (9, 7), (9, 8), (9, 9)] [(4, 2), (4, 5), (9, 2)] S T) ∧ (((v1 < 0 ∨ fI S v0 1 < v1 → fI T v0 1 = fI S v0 1) ∧ (0 ≤ v1 ∧ v1 ≤ fI S v0 1 → fI T v0 1 = 0)))) hI o_v0 (fun r T h0 h1 h2 h3 => ⟨h0, h1, h2, h3⟩)) (fun r T h _ => hq r T h.1.1 h.1.2.1 h.1.2.2.1 h.1.2.2.2 h.2)
theorem mk_X11_air {v0 : Nat} {v1 : Int32} {v2 : Int32} {v3 : Int32} {Q : Int32 → HS → Prop} {S : HS} (hI : IV S) (o_v0 : ob S v0 11) (hq : ∀ (r : Int32) (T : HS), IV T → Gr S T → FRI [(11, 0), (11, 1), (11, 2)] [] S T → K2 S T → Q r T) : P_X11_air v0 v1 v2 v3 Q S := cm_X11_air (kf_X11_air (m_X11_air (Q := fun r T => IV T ∧ Gr S T ∧ (FRI [(11, 0), (11, 1), (11, 2)] [] S T)) hI o_v0 (fun r T h0 h1 h2 => ⟨h0, h1, h2⟩))) (m_X11_air (Q := fun r T => IV T ∧ Gr S T ∧ (FRI [(11, 0), (11, 1), (11, 2)] [] S T)) hI o_v0 (fun r T h0 h1 h2 => ⟨h0, h1, h2⟩)) (fun r T h _ => hq r T h.1.1 h.1.2.1 h.1.2.2 h.2)
theorem mk_X11_back {v0 : Nat} {v1 : Int32} {Q : Int32 → HS → Prop} {S : HS} (hI : IV S) (o_v0 : ob S v0 11) (hq : ∀ (r : Int32) (T : HS), IV T → Gr S T → FRI [(11, 0), (11, 1), (11, 2), (11, 24)] [] S T → bl r → K2 S T → Q r T) : P_X11_back v0 v1 Q S := cm_X11_back (kf_X11_back (m_X11_back (Q := fun r T => IV T ∧ Gr S T ∧ (FRI [(11, 0), (11, 1), (11, 2), (11, 24)] [] S T) ∧ bl r) hI o_v0 (fun r T h0 h1 h2 h3 => ⟨h0, h1, h2, h3⟩))) (m_X11_back (Q := fun r T => IV T ∧ Gr S T ∧ (FRI [(11, 0), (11, 1), (11, 2), (11, 24)] [] S T) ∧ bl r) hI o_v0 (fun r T h0 h1 h2 h3 => ⟨h0, h1, h2, h3⟩)) (fun r T h _ => hq r T h.1.1 h.1.2.1 h.1.2.2.1 h.1.2.2.2 h.2)
theorem mk_X11_best {v0 : Nat} {v1 : Int32} {v2 : Int32} {v3 : Int32} {v4 : Int32} {Q : Int32 → HS → Prop} {S : HS} (hI : IV S) (o_v0 : ob S v0 11) (hq : ∀ (r : Int32) (T : HS), IV T → Gr S T → FRI [(11, 0), (11, 1), (11, 2)] [] S T → K2 S T → Q r T) : P_X11_best v0 v1 v2 v3 v4 Q S := cm_X11_best (kf_X11_best (m_X11_best (Q := fun r T => IV T ∧ Gr S T ∧ (FRI [(11, 0), (11, 1), (11, 2)] [] S T)) hI o_v0 (fun r T h0 h1 h2 => ⟨h0, h1, h2⟩))) (m_X11_best (Q := fun r T => IV T ∧ Gr S T ∧ (FRI [(11, 0), (11, 1), (11, 2)] [] S T)) hI o_v0 (fun r T h0 h1 h2 => ⟨h0, h1, h2⟩)) (fun r T h _ => hq r T h.1.1 h.1.2.1 h.1.2.2 h.2)
theorem mk_X11_day {v0 : Nat} {v1 : Int32} {v2 : Int32} {v3 : Int32} {v4 : Int32} {Q : Int32 → HS → Prop} {S : HS} (hI : IV S) (o_v0 : ob S v0 11) (hq : ∀ (r : Int32) (T : HS), IV T → Gr S T → FRI [(11, 0), (11, 1), (11, 2), (11, 19), (11, 20), (11, 24), (11, 25)] [] S T → K2 S T → Q r T) : P_X11_day v0 v1 v2 v3 v4 Q S := cm_X11_day (kf_X11_day (m_X11_day (Q := fun r T => IV T ∧ Gr S T ∧ (FRI [(11, 0), (11, 1), (11, 2), (11, 19), (11, 20), (11, 24), (11, 25)] [] S T)) hI o_v0 (fun r T h0 h1 h2 => ⟨h0, h1, h2⟩))) (m_X11_day (Q := fun r T => IV T ∧ Gr S T ∧ (FRI [(11, 0), (11, 1), (11, 2), (11, 19), (11, 20), (11, 24), (11, 25)] [] S T)) hI o_v0 (fun r T h0 h1 h2 => ⟨h0, h1, h2⟩)) (fun r T h _ => hq r T h.1.1 h.1.2.1 h.1.2.2 h.2)
theorem mk_X11_driest {v0 : Nat} {v1 : Int32} {v2 : Int32} {v3 : Int32} {Q : Int32 → HS → Prop} {S : HS} (hI : IV S) (o_v0 : ob S v0 11) (hq : ∀ (r : Int32) (T : HS), IV T → Gr S T → FRI [(11, 0), (11, 1), (11, 2)] [] S T → K2 S T → Q r T) : P_X11_driest v0 v1 v2 v3 Q S := cm_X11_driest (kf_X11_driest (m_X11_driest (Q := fun r T => IV T ∧ Gr S T ∧ (FRI [(11, 0), (11, 1), (11, 2)] [] S T)) hI o_v0 (fun r T h0 h1 h2 => ⟨h0, h1, h2⟩))) (m_X11_driest (Q := fun r T => IV T ∧ Gr S T ∧ (FRI [(11, 0), (11, 1), (11, 2)] [] S T)) hI o_v0 (fun r T h0 h1 h2 => ⟨h0, h1, h2⟩)) (fun r T h _ => hq r T h.1.1 h.1.2.1 h.1.2.2 h.2)
theorem mk_X11_even {v0 : Nat} {v1 : Int32} {v2 : Int32} {v3 : Int32} {v4 : Int32} {Q : Int32 → HS → Prop} {S : HS} (hI : IV S) (o_v0 : ob S v0 11) (hq : ∀ (r : Int32) (T : HS), IV T → Gr S T → FRI [(11, 0), (11, 1), (11, 2)] [] S T → K2 S T → Q r T) : P_X11_even v0 v1 v2 v3 v4 Q S := cm_X11_even (kf_X11_even (m_X11_even (Q := fun r T => IV T ∧ Gr S T ∧ (FRI [(11, 0), (11, 1), (11, 2)] [] S T)) hI o_v0 (fun r T h0 h1 h2 => ⟨h0, h1, h2⟩))) (m_X11_even (Q := fun r T => IV T ∧ Gr S T ∧ (FRI [(11, 0), (11, 1), (11, 2)] [] S T)) hI o_v0 (fun r T h0 h1 h2 => ⟨h0, h1, h2⟩)) (fun r T h _ => hq r T h.1.1 h.1.2.1 h.1.2.2 h.2)
theorem mk_X11_face {v0 : Nat} {v1 : Int32} {v2 : Int32} {v3 : Int32} {v4 : Int32} {v5 : Int32} {v6 : Int32} {v7 : Int32} {Q : Int64 → HS → Prop} {S : HS} (hI : IV S) (o_v0 : ob S v0 11) (hq : ∀ (r : Int64) (T : HS), IV T → Gr S T → FRI [(11, 0), (11, 1), (11, 2)] [] S T → K2 S T → Q r T) : P_X11_face v0 v1 v2 v3 v4 v5 v6 v7 Q S := cm_X11_face (kf_X11_face (m_X11_face (Q := fun r T => IV T ∧ Gr S T ∧ (FRI [(11, 0), (11, 1), (11, 2)] [] S T)) hI o_v0 (fun r T h0 h1 h2 => ⟨h0, h1, h2⟩))) (m_X11_face (Q := fun r T => IV T ∧ Gr S T ∧ (FRI [(11, 0), (11, 1), (11, 2)] [] S T)) hI o_v0 (fun r T h0 h1 h2 => ⟨h0, h1, h2⟩)) (fun r T h _ => hq r T h.1.1 h.1.2.1 h.1.2.2 h.2)
theorem mk_X11_fault {v0 : Nat} {Q : Int32 → HS → Prop} {S : HS} (hI : IV S) (o_v0 : ob S v0 11) (hq : ∀ (r : Int32) (T : HS), IV T → Gr S T → FRI [(11, 0)] [] S T → K2 S T → Q r T) : P_X11_fault v0 Q S := cm_X11_fault (kf_X11_fault (m_X11_fault (Q := fun r T => IV T ∧ Gr S T ∧ (FRI [(11, 0)] [] S T)) hI o_v0 (fun r T h0 h1 h2 => ⟨h0, h1, h2⟩))) (m_X11_fault (Q := fun r T => IV T ∧ Gr S T ∧ (FRI [(11, 0)] [] S T)) hI o_v0 (fun r T h0 h1 h2 => ⟨h0, h1, h2⟩)) (fun r T h _ => hq r T h.1.1 h.1.2.1 h.1.2.2 h.2)
theorem mk_X11_first {v0 : Nat} {v1 : Int32} {v2 : Int32} {v3 : Int32} {v4 : Int32} {v5 : Int32} {v6 : Int32} {Q : Int32 → HS → Prop} {S : HS} (hI : IV S) (o_v0 : ob S v0 11) (hq : ∀ (r : Int32) (T : HS), IV T → Gr S T → FRI [(11, 0), (11, 1), (11, 2)] [] S T → K2 S T → Q r T) : P_X11_first v0 v1 v2 v3 v4 v5 v6 Q S := cm_X11_first (kf_X11_first (m_X11_first (Q := fun r T => IV T ∧ Gr S T ∧ (FRI [(11, 0), (11, 1), (11, 2)] [] S T)) hI o_v0 (fun r T h0 h1 h2 => ⟨h0, h1, h2⟩))) (m_X11_first (Q := fun r T => IV T ∧ Gr S T ∧ (FRI [(11, 0), (11, 1), (11, 2)] [] S T)) hI o_v0 (fun r T h0 h1 h2 => ⟨h0, h1, h2⟩)) (fun r T h _ => hq r T h.1.1 h.1.2.1 h.1.2.2 h.2)
theorem mk_X11_fit {v0 : Nat} {v1 : Int32} {v2 : Int32} {Q : Int32 → HS → Prop} {S : HS} (hI : IV S) (o_v0 : ob S v0 11) (hq : ∀ (r : Int32) (T : HS), IV T → Gr S T → FRI [(11, 0), (11, 1), (11, 2)] [] S T → K2 S T → Q r T) : P_X11_fit v0 v1 v2 Q S := cm_X11_fit (kf_X11_fit (m_X11_fit (Q := fun r T => IV T ∧ Gr S T ∧ (FRI [(11, 0), (11, 1), (11, 2)] [] S T)) hI o_v0 (fun r T h0 h1 h2 => ⟨h0, h1, h2⟩))) (m_X11_fit (Q := fun r T => IV T ∧ Gr S T ∧ (FRI [(11, 0), (11, 1), (11, 2)] [] S T)) hI o_v0 (fun r T h0 h1 h2 => ⟨h0, h1, h2⟩)) (fun r T h _ => hq r T h.1.1 h.1.2.1 h.1.2.2 h.2)
theorem mk_X11_fits {v0 : Nat} {v1 : Int32} {Q : Int32 → HS → Prop} {S : HS} (hI : IV S) (o_v0 : ob S v0 11) (hq : ∀ (r : Int32) (T : HS), IV T → Gr S T → FRI [(11, 0), (11, 1), (11, 2)] [] S T → K2 S T → Q r T) : P_X11_fits v0 v1 Q S := cm_X11_fits (kf_X11_fits (m_X11_fits (Q := fun r T => IV T ∧ Gr S T ∧ (FRI [(11, 0), (11, 1), (11, 2)] [] S T)) hI o_v0 (fun r T h0 h1 h2 => ⟨h0, h1, h2⟩))) (m_X11_fits (Q := fun r T => IV T ∧ Gr S T ∧ (FRI [(11, 0), (11, 1), (11, 2)] [] S T)) hI o_v0 (fun r T h0 h1 h2 => ⟨h0, h1, h2⟩)) (fun r T h _ => hq r T h.1.1 h.1.2.1 h.1.2.2 h.2)
theorem mk_X11_go {v0 : Nat} {v1 : Int32} {v2 : Int32} {v3 : Int32} {Q : Int32 → HS → Prop} {S : HS} (hI : IV S) (o_v0 : ob S v0 11) (hq : ∀ (r : Int32) (T : HS), IV T → Gr S T → FRI [(11, 0), (11, 1), (11, 2), (11, 24)] [] S T → K2 S T → Q r T) : P_X11_go v0 v1 v2 v3 Q S := cm_X11_go (kf_X11_go (m_X11_go (Q := fun r T => IV T ∧ Gr S T ∧ (FRI [(11, 0), (11, 1), (11, 2), (11, 24)] [] S T)) hI o_v0 (fun r T h0 h1 h2 => ⟨h0, h1, h2⟩))) (m_X11_go (Q := fun r T => IV T ∧ Gr S T ∧ (FRI [(11, 0), (11, 1), (11, 2), (11, 24)] [] S T)) hI o_v0 (fun r T h0 h1 h2 => ⟨h0, h1, h2⟩)) (fun r T h _ => hq r T h.1.1 h.1.2.1 h.1.2.2 h.2)
theorem mk_X11_got {v0 : Nat} {v1 : Int32} {v2 : Int32} {Q : Int64 → HS → Prop} {S : HS} (hI : IV S) (o_v0 : ob S v0 11) (hq : ∀ (r : Int64) (T : HS), IV T → Gr S T → FRI [(11, 0), (11, 1), (11, 2)] [] S T → K2 S T → Q r T) : P_X11_got v0 v1 v2 Q S := cm_X11_got (kf_X11_got (m_X11_got (Q := fun r T => IV T ∧ Gr S T ∧ (FRI [(11, 0), (11, 1), (11, 2)] [] S T)) hI o_v0 (fun r T h0 h1 h2 => ⟨h0, h1, h2⟩))) (m_X11_got (Q := fun r T => IV T ∧ Gr S T ∧ (FRI [(11, 0), (11, 1), (11, 2)] [] S T)) hI o_v0 (fun r T h0 h1 h2 => ⟨h0, h1, h2⟩)) (fun r T h _ => hq r T h.1.1 h.1.2.1 h.1.2.2 h.2)
theorem mk_X11_held {v0 : Nat} {v1 : Int32} {v2 : Int32} {v3 : Int32} {v4 : Int32} {v5 : Int32} {Q : Int32 → HS → Prop} {S : HS} (hI : IV S) (o_v0 : ob S v0 11) (hq : ∀ (r : Int32) (T : HS), IV T → Gr S T → FRI [(11, 0), (11, 1), (11, 2)] [] S T → K2 S T → Q r T) : P_X11_held v0 v1 v2 v3 v4 v5 Q S := cm_X11_held (kf_X11_held (m_X11_held (Q := fun r T => IV T ∧ Gr S T ∧ (FRI [(11, 0), (11, 1), (11, 2)] [] S T)) hI o_v0 (fun r T h0 h1 h2 => ⟨h0, h1, h2⟩))) (m_X11_held (Q := fun r T => IV T ∧ Gr S T ∧ (FRI [(11, 0), (11, 1), (11, 2)] [] S T)) hI o_v0 (fun r T h0 h1 h2 => ⟨h0, h1, h2⟩)) (fun r T h _ => hq r T h.1.1 h.1.2.1 h.1.2.2 h.2)
theorem mk_X11_least {v0 : Nat} {v1 : Int32} {v2 : Int32} {v3 : Int32} {v4 : Int32} {v5 : Int32} {v6 : Int32} {Q : Int64 → HS → Prop} {S : HS} (hI : IV S) (o_v0 : ob S v0 11) (hq : ∀ (r : Int64) (T : HS), IV T → Gr S T → FRI [(11, 0), (11, 1), (11, 2)] [] S T → K2 S T → Q r T) : P_X11_least v0 v1 v2 v3 v4 v5 v6 Q S := cm_X11_least (kf_X11_least (m_X11_least (Q := fun r T => IV T ∧ Gr S T ∧ (FRI [(11, 0), (11, 1), (11, 2)] [] S T)) hI o_v0 (fun r T h0 h1 h2 => ⟨h0, h1, h2⟩))) (m_X11_least (Q := fun r T => IV T ∧ Gr S T ∧ (FRI [(11, 0), (11, 1), (11, 2)] [] S T)) hI o_v0 (fun r T h0 h1 h2 => ⟨h0, h1, h2⟩)) (fun r T h _ => hq r T h.1.1 h.1.2.1 h.1.2.2 h.2)
theorem mk_X11_led {v0 : Nat} {v1 : Int32} {Q : Int32 → HS → Prop} {S : HS} (hI : IV S) (o_v0 : ob S v0 11) (hq : ∀ (r : Int32) (T : HS), IV T → Gr S T → FRI [(11, 0)] [] S T → K2 S T → Q r T) : P_X11_led v0 v1 Q S := cm_X11_led (kf_X11_led (m_X11_led (Q := fun r T => IV T ∧ Gr S T ∧ (FRI [(11, 0)] [] S T)) hI o_v0 (fun r T h0 h1 h2 => ⟨h0, h1, h2⟩))) (m_X11_led (Q := fun r T => IV T ∧ Gr S T ∧ (FRI [(11, 0)] [] S T)) hI o_v0 (fun r T h0 h1 h2 => ⟨h0, h1, h2⟩)) (fun r T h _ => hq r T h.1.1 h.1.2.1 h.1.2.2 h.2)
theorem mk_X11_lee {v0 : Nat} {v1 : Int32} {v2 : Int32} {v3 : Int32} {v4 : Int32} {v5 : Int32} {v6 : Int32} {v7 : Int32} {Q : Int64 → HS → Prop} {S : HS} (hI : IV S) (o_v0 : ob S v0 11) (hq : ∀ (r : Int64) (T : HS), IV T → Gr S T → FRI [(11, 0), (11, 1), (11, 2)] [] S T → K2 S T → Q r T) : P_X11_lee v0 v1 v2 v3 v4 v5 v6 v7 Q S := cm_X11_lee (kf_X11_lee (m_X11_lee (Q := fun r T => IV T ∧ Gr S T ∧ (FRI [(11, 0), (11, 1), (11, 2)] [] S T)) hI o_v0 (fun r T h0 h1 h2 => ⟨h0, h1, h2⟩))) (m_X11_lee (Q := fun r T => IV T ∧ Gr S T ∧ (FRI [(11, 0), (11, 1), (11, 2)] [] S T)) hI o_v0 (fun r T h0 h1 h2 => ⟨h0, h1, h2⟩)) (fun r T h _ => hq r T h.1.1 h.1.2.1 h.1.2.2 h.2)
theorem mk_X11_lies {v0 : Nat} {Q : Int32 → HS → Prop} {S : HS} (hI : IV S) (o_v0 : ob S v0 11) (hq : ∀ (r : Int32) (T : HS), IV T → Gr S T → FRI [(11, 0), (11, 1), (11, 2)] [] S T → K2 S T → Q r T) : P_X11_lies v0 Q S := cm_X11_lies (kf_X11_lies (m_X11_lies (Q := fun r T => IV T ∧ Gr S T ∧ (FRI [(11, 0), (11, 1), (11, 2)] [] S T)) hI o_v0 (fun r T h0 h1 h2 => ⟨h0, h1, h2⟩))) (m_X11_lies (Q := fun r T => IV T ∧ Gr S T ∧ (FRI [(11, 0), (11, 1), (11, 2)] [] S T)) hI o_v0 (fun r T h0 h1 h2 => ⟨h0, h1, h2⟩)) (fun r T h _ => hq r T h.1.1 h.1.2.1 h.1.2.2 h.2)
theorem mk_X11_mark {v0 : Nat} {Q : Int32 → HS → Prop} {S : HS} (hI : IV S) (o_v0 : ob S v0 11) (hq : ∀ (r : Int32) (T : HS), IV T → Gr S T → FRI [(11, 0), (11, 1), (11, 2), (11, 25)] [] S T → K2 S T → Q r T) : P_X11_mark v0 Q S := cm_X11_mark (kf_X11_mark (m_X11_mark (Q := fun r T => IV T ∧ Gr S T ∧ (FRI [(11, 0), (11, 1), (11, 2), (11, 25)] [] S T)) hI o_v0 (fun r T h0 h1 h2 => ⟨h0, h1, h2⟩))) (m_X11_mark (Q := fun r T => IV T ∧ Gr S T ∧ (FRI [(11, 0), (11, 1), (11, 2), (11, 25)] [] S T)) hI o_v0 (fun r T h0 h1 h2 => ⟨h0, h1, h2⟩)) (fun r T h _ => hq r T h.1.1 h.1.2.1 h.1.2.2 h.2)
theorem mk_X11_mean {v0 : Nat} {v1 : Int32} {v2 : Int32} {v3 : Int32} {v4 : Int32} {v5 : Int32} {v6 : Int32} {Q : Int64 → HS → Prop} {S : HS} (hI : IV S) (o_v0 : ob S v0 11) (hq : ∀ (r : Int64) (T : HS), IV T → Gr S T → FRI [(11, 0), (11, 1), (11, 2)] [] S T → K2 S T → Q r T) : P_X11_mean v0 v1 v2 v3 v4 v5 v6 Q S := cm_X11_mean (kf_X11_mean (m_X11_mean (Q := fun r T => IV T ∧ Gr S T ∧ (FRI [(11, 0), (11, 1), (11, 2)] [] S T)) hI o_v0 (fun r T h0 h1 h2 => ⟨h0, h1, h2⟩))) (m_X11_mean (Q := fun r T => IV T ∧ Gr S T ∧ (FRI [(11, 0), (11, 1), (11, 2)] [] S T)) hI o_v0 (fun r T h0 h1 h2 => ⟨h0, h1, h2⟩)) (fun r T h _ => hq r T h.1.1 h.1.2.1 h.1.2.2 h.2)
theorem mk_X11_minutes {v0 : Nat} {v1 : Int32} {v2 : Int32} {v3 : Int32} {Q : Int32 → HS → Prop} {S : HS} (hI : IV S) (o_v0 : ob S v0 11) (hq : ∀ (r : Int32) (T : HS), IV T → Gr S T → FRI [(11, 0), (11, 1), (11, 2)] [] S T → K2 S T → Q r T) : P_X11_minutes v0 v1 v2 v3 Q S := cm_X11_minutes (kf_X11_minutes (m_X11_minutes (Q := fun r T => IV T ∧ Gr S T ∧ (FRI [(11, 0), (11, 1), (11, 2)] [] S T)) hI o_v0 (fun r T h0 h1 h2 => ⟨h0, h1, h2⟩))) (m_X11_minutes (Q := fun r T => IV T ∧ Gr S T ∧ (FRI [(11, 0), (11, 1), (11, 2)] [] S T)) hI o_v0 (fun r T h0 h1 h2 => ⟨h0, h1, h2⟩)) (fun r T h _ => hq r T h.1.1 h.1.2.1 h.1.2.2 h.2)
theorem mk_X11_off {v0 : Nat} {v1 : Int32} {v2 : Int32} {v3 : Int32} {v4 : Int32} {Q : Int32 → HS → Prop} {S : HS} (hI : IV S) (o_v0 : ob S v0 11) (hq : ∀ (r : Int32) (T : HS), IV T → Gr S T → FRI [(11, 0), (11, 1), (11, 2)] [] S T → K2 S T → Q r T) : P_X11_off v0 v1 v2 v3 v4 Q S := cm_X11_off (kf_X11_off (m_X11_off (Q := fun r T => IV T ∧ Gr S T ∧ (FRI [(11, 0), (11, 1), (11, 2)] [] S T)) hI o_v0 (fun r T h0 h1 h2 => ⟨h0, h1, h2⟩))) (m_X11_off (Q := fun r T => IV T ∧ Gr S T ∧ (FRI [(11, 0), (11, 1), (11, 2)] [] S T)) hI o_v0 (fun r T h0 h1 h2 => ⟨h0, h1, h2⟩)) (fun r T h _ => hq r T h.1.1 h.1.2.1 h.1.2.2 h.2)
theorem mk_X11_road {v0 : Nat} {v1 : Int32} {v2 : Int32} {Q : Int32 → HS → Prop} {S : HS} (hI : IV S) (o_v0 : ob S v0 11) (hq : ∀ (r : Int32) (T : HS), IV T → Gr S T → FRI [(11, 0), (11, 1), (11, 2)] [] S T → K2 S T → Q r T) : P_X11_road v0 v1 v2 Q S := cm_X11_road (kf_X11_road (m_X11_road (Q := fun r T => IV T ∧ Gr S T ∧ (FRI [(11, 0), (11, 1), (11, 2)] [] S T)) hI o_v0 (fun r T h0 h1 h2 => ⟨h0, h1, h2⟩))) (m_X11_road (Q := fun r T => IV T ∧ Gr S T ∧ (FRI [(11, 0), (11, 1), (11, 2)] [] S T)) hI o_v0 (fun r T h0 h1 h2 => ⟨h0, h1, h2⟩)) (fun r T h _ => hq r T h.1.1 h.1.2.1 h.1.2.2 h.2)
theorem mk_X11_round {v0 : Nat} {v1 : Int32} {v2 : Int32} {v3 : Int32} {v4 : Int32} {Q : Int64 → HS → Prop} {S : HS} (hI : IV S) (o_v0 : ob S v0 11) (hq : ∀ (r : Int64) (T : HS), IV T → Gr S T → FRI [(11, 0), (11, 1), (11, 2)] [] S T → K2 S T → Q r T) : P_X11_round v0 v1 v2 v3 v4 Q S := cm_X11_round (kf_X11_round (m_X11_round (Q := fun r T => IV T ∧ Gr S T ∧ (FRI [(11, 0), (11, 1), (11, 2)] [] S T)) hI o_v0 (fun r T h0 h1 h2 => ⟨h0, h1, h2⟩))) (m_X11_round (Q := fun r T => IV T ∧ Gr S T ∧ (FRI [(11, 0), (11, 1), (11, 2)] [] S T)) hI o_v0 (fun r T h0 h1 h2 => ⟨h0, h1, h2⟩)) (fun r T h _ => hq r T h.1.1 h.1.2.1 h.1.2.2 h.2)
theorem mk_X11_saves {v0 : Nat} {v1 : Int32} {v2 : Int32} {v3 : Int32} {v4 : Int32} {v5 : Int32} {Q : Int64 → HS → Prop} {S : HS} (hI : IV S) (o_v0 : ob S v0 11) (hq : ∀ (r : Int64) (T : HS), IV T → Gr S T → FRI [(11, 0), (11, 1), (11, 2)] [] S T → K2 S T → Q r T) : P_X11_saves v0 v1 v2 v3 v4 v5 Q S := cm_X11_saves (kf_X11_saves (m_X11_saves (Q := fun r T => IV T ∧ Gr S T ∧ (FRI [(11, 0), (11, 1), (11, 2)] [] S T)) hI o_v0 (fun r T h0 h1 h2 => ⟨h0, h1, h2⟩))) (m_X11_saves (Q := fun r T => IV T ∧ Gr S T ∧ (FRI [(11, 0), (11, 1), (11, 2)] [] S T)) hI o_v0 (fun r T h0 h1 h2 => ⟨h0, h1, h2⟩)) (fun r T h _ => hq r T h.1.1 h.1.2.1 h.1.2.2 h.2)
theorem mk_X11_size {v0 : Nat} {v1 : Int32} {Q : Int32 → HS → Prop} {S : HS} (hI : IV S) (o_v0 : ob S v0 11) (hq : ∀ (r : Int32) (T : HS), IV T → Gr S T → FRI [(11, 0)] [] S T → K2 S T → Q r T) : P_X11_size v0 v1 Q S := cm_X11_size (kf_X11_size (m_X11_size (Q := fun r T => IV T ∧ Gr S T ∧ (FRI [(11, 0)] [] S T)) hI o_v0 (fun r T h0 h1 h2 => ⟨h0, h1, h2⟩))) (m_X11_size (Q := fun r T => IV T ∧ Gr S T ∧ (FRI [(11, 0)] [] S T)) hI o_v0 (fun r T h0 h1 h2 => ⟨h0, h1, h2⟩)) (fun r T h _ => hq r T h.1.1 h.1.2.1 h.1.2.2 h.2)
theorem mk_X11_soaked {v0 : Nat} {Q : Int32 → HS → Prop} {S : HS} (hI : IV S) (o_v0 : ob S v0 11) (hq : ∀ (r : Int32) (T : HS), IV T → Gr S T → FRI [(11, 0), (11, 1), (11, 2)] [] S T → K2 S T → Q r T) : P_X11_soaked v0 Q S := cm_X11_soaked (kf_X11_soaked (m_X11_soaked (Q := fun r T => IV T ∧ Gr S T ∧ (FRI [(11, 0), (11, 1), (11, 2)] [] S T)) hI o_v0 (fun r T h0 h1 h2 => ⟨h0, h1, h2⟩))) (m_X11_soaked (Q := fun r T => IV T ∧ Gr S T ∧ (FRI [(11, 0), (11, 1), (11, 2)] [] S T)) hI o_v0 (fun r T h0 h1 h2 => ⟨h0, h1, h2⟩)) (fun r T h _ => hq r T h.1.1 h.1.2.1 h.1.2.2 h.2)
theorem mk_X11_stay {v0 : Nat} {v1 : Int32} {Q : Int32 → HS → Prop} {S : HS} (hI : IV S) (o_v0 : ob S v0 11) (hq : ∀ (r : Int32) (T : HS), IV T → Gr S T → FRI [(11, 0), (11, 1), (11, 2), (11, 24)] [] S T → bl r → K2 S T → Q r T) : P_X11_stay v0 v1 Q S := cm_X11_stay (kf_X11_stay (m_X11_stay (Q := fun r T => IV T ∧ Gr S T ∧ (FRI [(11, 0), (11, 1), (11, 2), (11, 24)] [] S T) ∧ bl r) hI o_v0 (fun r T h0 h1 h2 h3 => ⟨h0, h1, h2, h3⟩))) (m_X11_stay (Q := fun r T => IV T ∧ Gr S T ∧ (FRI [(11, 0), (11, 1), (11, 2), (11, 24)] [] S T) ∧ bl r) hI o_v0 (fun r T h0 h1 h2 h3 => ⟨h0, h1, h2, h3⟩)) (fun r T h _ => hq r T h.1.1 h.1.2.1 h.1.2.2.1 h.1.2.2.2 h.2)
theorem mk_X11_step {v0 : Nat} {v1 : Int32} {v2 : Int32} {v3 : Int32} {v4 : Int32} {v5 : Int32} {v6 : Int32} {Q : Int32 → HS → Prop} {S : HS} (hI : IV S) (o_v0 : ob S v0 11) (hq : ∀ (r : Int32) (T : HS), IV T → Gr S T → FRI [(11, 0), (11, 1), (11, 2)] [] S T → K2 S T → Q r T) : P_X11_step v0 v1 v2 v3 v4 v5 v6 Q S := cm_X11_step (kf_X11_step (m_X11_step (Q := fun r T => IV T ∧ Gr S T ∧ (FRI [(11, 0), (11, 1), (11, 2)] [] S T)) hI o_v0 (fun r T h0 h1 h2 => ⟨h0, h1, h2⟩))) (m_X11_step (Q := fun r T => IV T ∧ Gr S T ∧ (FRI [(11, 0), (11, 1), (11, 2)] [] S T)) hI o_v0 (fun r T h0 h1 h2 => ⟨h0, h1, h2⟩)) (fun r T h _ => hq r T h.1.1 h.1.2.1 h.1.2.2 h.2)
theorem mk_X11_steps {v0 : Nat} {v1 : Int32} {v2 : Int32} {v3 : Int32} {v4 : Int32} {v5 : Int32} {Q : Int32 → HS → Prop} {S : HS} (hI : IV S) (o_v0 : ob S v0 11) (hq : ∀ (r : Int32) (T : HS), IV T → Gr S T → FRI [(11, 0), (11, 1), (11, 2)] [] S T → K2 S T → Q r T) : P_X11_steps v0 v1 v2 v3 v4 v5 Q S := cm_X11_steps (kf_X11_steps (m_X11_steps (Q := fun r T => IV T ∧ Gr S T ∧ (FRI [(11, 0), (11, 1), (11, 2)] [] S T)) hI o_v0 (fun r T h0 h1 h2 => ⟨h0, h1, h2⟩))) (m_X11_steps (Q := fun r T => IV T ∧ Gr S T ∧ (FRI [(11, 0), (11, 1), (11, 2)] [] S T)) hI o_v0 (fun r T h0 h1 h2 => ⟨h0, h1, h2⟩)) (fun r T h _ => hq r T h.1.1 h.1.2.1 h.1.2.2 h.2)
theorem mk_X11_there {v0 : Nat} {v1 : Int32} {v2 : Int32} {v3 : Int32} {v4 : Int32} {v5 : Int32} {Q : Int32 → HS → Prop} {S : HS} (hI : IV S) (o_v0 : ob S v0 11) (hq : ∀ (r : Int32) (T : HS), IV T → Gr S T → FRI [(11, 0), (11, 1), (11, 2)] [] S T → K2 S T → Q r T) : P_X11_there v0 v1 v2 v3 v4 v5 Q S := cm_X11_there (kf_X11_there (m_X11_there (Q := fun r T => IV T ∧ Gr S T ∧ (FRI [(11, 0), (11, 1), (11, 2)] [] S T)) hI o_v0 (fun r T h0 h1 h2 => ⟨h0, h1, h2⟩))) (m_X11_there (Q := fun r T => IV T ∧ Gr S T ∧ (FRI [(11, 0), (11, 1), (11, 2)] [] S T)) hI o_v0 (fun r T h0 h1 h2 => ⟨h0, h1, h2⟩)) (fun r T h _ => hq r T h.1.1 h.1.2.1 h.1.2.2 h.2)
theorem mk_X11_trouble {v0 : Nat} {Q : Int32 → HS → Prop} {S : HS} (hI : IV S) (o_v0 : ob S v0 11) (hq : ∀ (r : Int32) (T : HS), IV T → Gr S T → FRI [(11, 0)] [] S T → K2 S T → Q r T) : P_X11_trouble v0 Q S := cm_X11_trouble (kf_X11_trouble (m_X11_trouble (Q := fun r T => IV T ∧ Gr S T ∧ (FRI [(11, 0)] [] S T)) hI o_v0 (fun r T h0 h1 h2 => ⟨h0, h1, h2⟩))) (m_X11_trouble (Q := fun r T => IV T ∧ Gr S T ∧ (FRI [(11, 0)] [] S T)) hI o_v0 (fun r T h0 h1 h2 => ⟨h0, h1, h2⟩)) (fun r T h _ => hq r T h.1.1 h.1.2.1 h.1.2.2 h.2)
theorem mk_X11_undo {v0 : Nat} {Q : Int32 → HS → Prop} {S : HS} (hI : IV S) (o_v0 : ob S v0 11) (hq : ∀ (r : Int32) (T : HS), IV T → Gr S T → FRI [(11, 0), (11, 1), (11, 2), (11, 24)] [] S T → bl r → K2 S T → Q r T) : P_X11_undo v0 Q S := cm_X11_undo (kf_X11_undo (m_X11_undo (Q := fun r T => IV T ∧ Gr S T ∧ (FRI [(11, 0), (11, 1), (11, 2), (11, 24)] [] S T) ∧ bl r) hI o_v0 (fun r T h0 h1 h2 h3 => ⟨h0, h1, h2, h3⟩))) (m_X11_undo (Q := fun r T => IV T ∧ Gr S T ∧ (FRI [(11, 0), (11, 1), (11, 2), (11, 24)] [] S T) ∧ bl r) hI o_v0 (fun r T h0 h1 h2 h3 => ⟨h0, h1, h2, h3⟩)) (fun r T h _ => hq r T h.1.1 h.1.2.1 h.1.2.2.1 h.1.2.2.2 h.2)
theorem mk_X11_walker {v0 : Nat} {v1 : Int32} {v2 : Int32} {Q : Int32 → HS → Prop} {S : HS} (hI : IV S) (o_v0 : ob S v0 11) (hq : ∀ (r : Int32) (T : HS), IV T → Gr S T → FRI [(11, 0), (11, 1), (11, 2)] [] S T → K2 S T → Q r T) : P_X11_walker v0 v1 v2 Q S := cm_X11_walker (kf_X11_walker (m_X11_walker (Q := fun r T => IV T ∧ Gr S T ∧ (FRI [(11, 0), (11, 1), (11, 2)] [] S T)) hI o_v0 (fun r T h0 h1 h2 => ⟨h0, h1, h2⟩))) (m_X11_walker (Q := fun r T => IV T ∧ Gr S T ∧ (FRI [(11, 0), (11, 1), (11, 2)] [] S T)) hI o_v0 (fun r T h0 h1 h2 => ⟨h0, h1, h2⟩)) (fun r T h _ => hq r T h.1.1 h.1.2.1 h.1.2.2 h.2)
theorem mk_X11_wet {v0 : Nat} {v1 : Int32} {v2 : Int32} {v3 : Int32} {v4 : Int32} {v5 : Int32} {v6 : Int32} {Q : Int64 → HS → Prop} {S : HS} (hI : IV S) (o_v0 : ob S v0 11) (hq : ∀ (r : Int64) (T : HS), IV T → Gr S T → FRI [(11, 0), (11, 1), (11, 2)] [] S T → K2 S T → Q r T) : P_X11_wet v0 v1 v2 v3 v4 v5 v6 Q S := cm_X11_wet (kf_X11_wet (m_X11_wet (Q := fun r T => IV T ∧ Gr S T ∧ (FRI [(11, 0), (11, 1), (11, 2)] [] S T)) hI o_v0 (fun r T h0 h1 h2 => ⟨h0, h1, h2⟩))) (m_X11_wet (Q := fun r T => IV T ∧ Gr S T ∧ (FRI [(11, 0), (11, 1), (11, 2)] [] S T)) hI o_v0 (fun r T h0 h1 h2 => ⟨h0, h1, h2⟩)) (fun r T h _ => hq r T h.1.1 h.1.2.1 h.1.2.2 h.2)
theorem mk_X11_wetness {v0 : Nat} {v1 : Int32} {Q : Int64 → HS → Prop} {S : HS} (hI : IV S) (o_v0 : ob S v0 11) (hq : ∀ (r : Int64) (T : HS), IV T → Gr S T → FRI [(11, 0), (11, 1), (11, 2)] [] S T → K2 S T → Q r T) : P_X11_wetness v0 v1 Q S := cm_X11_wetness (kf_X11_wetness (m_X11_wetness (Q := fun r T => IV T ∧ Gr S T ∧ (FRI [(11, 0), (11, 1), (11, 2)] [] S T)) hI o_v0 (fun r T h0 h1 h2 => ⟨h0, h1, h2⟩))) (m_X11_wetness (Q := fun r T => IV T ∧ Gr S T ∧ (FRI [(11, 0), (11, 1), (11, 2)] [] S T)) hI o_v0 (fun r T h0 h1 h2 => ⟨h0, h1, h2⟩)) (fun r T h _ => hq r T h.1.1 h.1.2.1 h.1.2.2 h.2)
theorem mk_X11_where {v0 : Nat} {Q : Int32 → HS → Prop} {S : HS} (hI : IV S) (o_v0 : ob S v0 11) (hq : ∀ (r : Int32) (T : HS), IV T → Gr S T → FRI [(11, 0)] [] S T → K2 S T → Q r T) : P_X11_where v0 Q S := cm_X11_where (kf_X11_where (m_X11_where (Q := fun r T => IV T ∧ Gr S T ∧ (FRI [(11, 0)] [] S T)) hI o_v0 (fun r T h0 h1 h2 => ⟨h0, h1, h2⟩))) (m_X11_where (Q := fun r T => IV T ∧ Gr S T ∧ (FRI [(11, 0)] [] S T)) hI o_v0 (fun r T h0 h1 h2 => ⟨h0, h1, h2⟩)) (fun r T h _ => hq r T h.1.1 h.1.2.1 h.1.2.2 h.2)
theorem mk_X11_world {v0 : Nat} {v1 : Int32} {Q : Int32 → HS → Prop} {S : HS} (hI : IV S) (o_v0 : ob S v0 11) (hq : ∀ (r : Int32) (T : HS), IV T → Gr S T → FRI [(10, 0), (10, 1), (10, 2), (10, 3), (10, 4), (10, 5), (10, 6), (11, 0), (11, 1), (11, 2), (11, 6), (11, 7), (11, 8), (11, 9), (11, 10), (11, 11), (11, 12), (11, 13), (11, 14), (11, 19), (11, 24), (11, 25)] [(10, 7), (10, 8), (10, 9), (10, 10), (10, 11), (10, 12), (10, 13), (10, 14), (10, 15), (10, 16), (10, 17), (10, 18), (10, 19), (10, 20), (10, 21), (10, 22), (10, 23), (10, 24), (10, 25), (10, 26), (10, 27), (10, 28), (10, 29), (10, 30), (11, 3), (11, 4)] S T → ((v1 < 0 ∨ fI S v0 6 < v1 → fI T v0 6 = fI S v0 6) ∧ (0 ≤ v1 ∧ v1 ≤ fI S v0 6 → fI T v0 6 = 0)) → K2 S T → Q r T) : P_X11_world v0 v1 Q S := cm_X11_world (kf_X11_world (m_X11_world (Q := fun r T => IV T ∧ Gr S T ∧ (FRI [(10, 0), (10, 1), (10, 2), (10, 3), (10, 4), (10, 5), (10, 6), (11, 0), (11, 1), (11, 2), (11, 6), (11, 7), (11, 8), (11, 9), (11, 10), (11, 11), (11, 12), (11, 13), (11, 14), (11, 19), (11, 24), (11, 25)] [(10, 7), (10, 8), (10, 9), (10, 10), (10, 11), (10, 12), (10, 13), (10, 14), (10, 15), (10, 16), (10, 17), (10, 18), (10, 19), (10, 20), (10, 21), (10, 22), (10, 23), (10, 24), (10, 25), (10, 26), (10, 27), (10, 28), (10, 29), (10, 30), (11, 3), (11, 4)] S T) ∧ (((v1 < 0 ∨ fI S v0 6 < v1 → fI T v0 6 = fI S v0 6) ∧ (0 ≤ v1 ∧ v1 ≤ fI S v0 6 → fI T v0 6 = 0)))) hI o_v0 (fun r T h0 h1 h2 h3 => ⟨h0, h1, h2, h3⟩))) (m_X11_world (Q := fun r T => IV T ∧ Gr S T ∧ (FRI [(10, 0), (10, 1), (10, 2), (10, 3), (10, 4), (10, 5), (10, 6), (11, 0), (11, 1), (11, 2), (11, 6), (11, 7), (11, 8), (11, 9), (11, 10), (11, 11), (11, 12), (11, 13), (11, 14), (11, 19), (11, 24), (11, 25)] [(10, 7), (10, 8), (10, 9), (10, 10), (10, 11), (10, 12), (10, 13), (10, 14), (10, 15), (10, 16), (10, 17), (10, 18), (10, 19), (10, 20), (10, 21), (10, 22), (10, 23), (10, 24), (10, 25), (10, 26), (10, 27), (10, 28), (10, 29), (10, 30), (11, 3), (11, 4)] S T) ∧ (((v1 < 0 ∨ fI S v0 6 < v1 → fI T v0 6 = fI S v0 6) ∧ (0 ≤ v1 ∧ v1 ≤ fI S v0 6 → fI T v0 6 = 0)))) hI o_v0 (fun r T h0 h1 h2 h3 => ⟨h0, h1, h2, h3⟩)) (fun r T h _ => hq r T h.1.1 h.1.2.1 h.1.2.2.1 h.1.2.2.2 h.2)
theorem mk_X11_worst {v0 : Nat} {v1 : Int32} {v2 : Int32} {v3 : Int32} {v4 : Int32} {Q : Int32 → HS → Prop} {S : HS} (hI : IV S) (o_v0 : ob S v0 11) (hq : ∀ (r : Int32) (T : HS), IV T → Gr S T → FRI [(11, 0), (11, 1), (11, 2)] [] S T → K2 S T → Q r T) : P_X11_worst v0 v1 v2 v3 v4 Q S := cm_X11_worst (kf_X11_worst (m_X11_worst (Q := fun r T => IV T ∧ Gr S T ∧ (FRI [(11, 0), (11, 1), (11, 2)] [] S T)) hI o_v0 (fun r T h0 h1 h2 => ⟨h0, h1, h2⟩))) (m_X11_worst (Q := fun r T => IV T ∧ Gr S T ∧ (FRI [(11, 0), (11, 1), (11, 2)] [] S T)) hI o_v0 (fun r T h0 h1 h2 => ⟨h0, h1, h2⟩)) (fun r T h _ => hq r T h.1.1 h.1.2.1 h.1.2.2 h.2)
theorem mk_X9_air {v0 : Nat} {v1 : Int32} {v2 : Int32} {v3 : Int32} {Q : Int32 → HS → Prop} {S : HS} (hI : IV S) (o_v0 : ob S v0 9) (hq : ∀ (r : Int32) (T : HS), IV T → Gr S T → FRI [(9, 9)] [] S T → K2 S T → Q r T) : P_X9_air v0 v1 v2 v3 Q S := cm_X9_air (kf_X9_air (m_X9_air (Q := fun r T => IV T ∧ Gr S T ∧ (FRI [(9, 9)] [] S T)) hI o_v0 (fun r T h0 h1 h2 => ⟨h0, h1, h2⟩))) (m_X9_air (Q := fun r T => IV T ∧ Gr S T ∧ (FRI [(9, 9)] [] S T)) hI o_v0 (fun r T h0 h1 h2 => ⟨h0, h1, h2⟩)) (fun r T h _ => hq r T h.1.1 h.1.2.1 h.1.2.2 h.2)
theorem mk_X9_back {v0 : Nat} {v1 : Int32} {Q : Int32 → HS → Prop} {S : HS} (hI : IV S) (o_v0 : ob S v0 9) (hq : ∀ (r : Int32) (T : HS), IV T → Gr S T → FRI [(0, 2), (2, 0), (2, 1), (9, 9)] [] S T → bl r → K2 S T → Q r T) : P_X9_back v0 v1 Q S := cm_X9_back (kf_X9_back (m_X9_back (Q := fun r T => IV T ∧ Gr S T ∧ (FRI [(0, 2), (2, 0), (2, 1), (9, 9)] [] S T) ∧ bl r) hI o_v0 (fun r T h0 h1 h2 h3 => ⟨h0, h1, h2, h3⟩))) (m_X9_back (Q := fun r T => IV T ∧ Gr S T ∧ (FRI [(0, 2), (2, 0), (2, 1), (9, 9)] [] S T) ∧ bl r) hI o_v0 (fun r T h0 h1 h2 h3 => ⟨h0, h1, h2, h3⟩)) (fun r T h _ => hq r T h.1.1 h.1.2.1 h.1.2.2.1 h.1.2.2.2 h.2)
theorem mk_X9_best {v0 : Nat} {v1 : Int32} {v2 : Int32} {v3 : Int32} {v4 : Int32} {Q : Int32 → HS → Prop} {S : HS} (hI : IV S) (o_v0 : ob S v0 9) (hq : ∀ (r : Int32) (T : HS), IV T → Gr S T → FRI [(9, 9)] [] S T → K2 S T → Q r T) : P_X9_best v0 v1 v2 v3 v4 Q S := cm_X9_best (kf_X9_best (m_X9_best (Q := fun r T => IV T ∧ Gr S T ∧ (FRI [(9, 9)] [] S T)) hI o_v0 (fun r T h0 h1 h2 => ⟨h0, h1, h2⟩))) (m_X9_best (Q := fun r T => IV T ∧ Gr S T ∧ (FRI [(9, 9)] [] S T)) hI o_v0 (fun r T h0 h1 h2 => ⟨h0, h1, h2⟩)) (fun r T h _ => hq r T h.1.1 h.1.2.1 h.1.2.2 h.2)
theorem mk_X9_day {v0 : Nat} {v1 : Int32} {v2 : Int32} {v3 : Int32} {v4 : Int32} {Q : Int32 → HS → Prop} {S : HS} (hI : IV S) (o_v0 : ob S v0 9) (hq : ∀ (r : Int32) (T : HS), IV T → Gr S T → FRI [(0, 0), (0, 1), (0, 2), (0, 3), (2, 0), (2, 1), (9, 9)] [] S T → K2 S T → Q r T) : P_X9_day v0 v1 v2 v3 v4 Q S := cm_X9_day (kf_X9_day (m_X9_day (Q := fun r T => IV T ∧ Gr S T ∧ (FRI [(0, 0), (0, 1), (0, 2), (0, 3), (2, 0), (2, 1), (9, 9)] [] S T)) hI o_v0 (fun r T h0 h1 h2 => ⟨h0, h1, h2⟩))) (m_X9_day (Q := fun r T => IV T ∧ Gr S T ∧ (FRI [(0, 0), (0, 1), (0, 2), (0, 3), (2, 0), (2, 1), (9, 9)] [] S T)) hI o_v0 (fun r T h0 h1 h2 => ⟨h0, h1, h2⟩)) (fun r T h _ => hq r T h.1.1 h.1.2.1 h.1.2.2 h.2)
theorem mk_X9_driest {v0 : Nat} {v1 : Int32} {v2 : Int32} {v3 : Int32} {Q : Int32 → HS → Prop} {S : HS} (hI : IV S) (o_v0 : ob S v0 9) (hq : ∀ (r : Int32) (T : HS), IV T → Gr S T → FRI [(9, 9)] [] S T → K2 S T → Q r T) : P_X9_driest v0 v1 v2 v3 Q S := cm_X9_driest (kf_X9_driest (m_X9_driest (Q := fun r T => IV T ∧ Gr S T ∧ (FRI [(9, 9)] [] S T)) hI o_v0 (fun r T h0 h1 h2 => ⟨h0, h1, h2⟩))) (m_X9_driest (Q := fun r T => IV T ∧ Gr S T ∧ (FRI [(9, 9)] [] S T)) hI o_v0 (fun r T h0 h1 h2 => ⟨h0, h1, h2⟩)) (fun r T h _ => hq r T h.1.1 h.1.2.1 h.1.2.2 h.2)
theorem mk_X9_even {v0 : Nat} {v1 : Int32} {v2 : Int32} {v3 : Int32} {v4 : Int32} {Q : Int32 → HS → Prop} {S : HS} (hI : IV S) (o_v0 : ob S v0 9) (hq : ∀ (r : Int32) (T : HS), IV T → Gr S T → FRI [(9, 9)] [] S T → K2 S T → Q r T) : P_X9_even v0 v1 v2 v3 v4 Q S := cm_X9_even (kf_X9_even (m_X9_even (Q := fun r T => IV T ∧ Gr S T ∧ (FRI [(9, 9)] [] S T)) hI o_v0 (fun r T h0 h1 h2 => ⟨h0, h1, h2⟩))) (m_X9_even (Q := fun r T => IV T ∧ Gr S T ∧ (FRI [(9, 9)] [] S T)) hI o_v0 (fun r T h0 h1 h2 => ⟨h0, h1, h2⟩)) (fun r T h _ => hq r T h.1.1 h.1.2.1 h.1.2.2 h.2)
theorem mk_X9_face {v0 : Nat} {v1 : Int32} {v2 : Int32} {v3 : Int32} {v4 : Int32} {v5 : Int32} {v6 : Int32} {v7 : Int32} {Q : Int64 → HS → Prop} {S : HS} (hI : IV S) (o_v0 : ob S v0 9) (hq : ∀ (r : Int64) (T : HS), IV T → Gr S T → FRI [(9, 9)] [] S T → K2 S T → Q r T) : P_X9_face v0 v1 v2 v3 v4 v5 v6 v7 Q S := cm_X9_face (kf_X9_face (m_X9_face (Q := fun r T => IV T ∧ Gr S T ∧ (FRI [(9, 9)] [] S T)) hI o_v0 (fun r T h0 h1 h2 => ⟨h0, h1, h2⟩))) (m_X9_face (Q := fun r T => IV T ∧ Gr S T ∧ (FRI [(9, 9)] [] S T)) hI o_v0 (fun r T h0 h1 h2 => ⟨h0, h1, h2⟩)) (fun r T h _ => hq r T h.1.1 h.1.2.1 h.1.2.2 h.2)
theorem mk_X9_fault {v0 : Nat} {Q : Int32 → HS → Prop} {S : HS} (hI : IV S) (o_v0 : ob S v0 9) (hq : ∀ (r : Int32) (T : HS), IV T → Gr S T → (S = T) → K2 S T → Q r T) : P_X9_fault v0 Q S := cm_X9_fault (kf_X9_fault (m_X9_fault (Q := fun r T => IV T ∧ Gr S T ∧ ((S = T))) hI o_v0 (fun r T h0 h1 h2 => ⟨h0, h1, h2⟩))) (m_X9_fault (Q := fun r T => IV T ∧ Gr S T ∧ ((S = T))) hI o_v0 (fun r T h0 h1 h2 => ⟨h0, h1, h2⟩)) (fun r T h _ => hq r T h.1.1 h.1.2.1 h.1.2.2 h.2)
theorem mk_X9_first {v0 : Nat} {v1 : Int32} {v2 : Int32} {v3 : Int32} {v4 : Int32} {v5 : Int32} {v6 : Int32} {Q : Int32 → HS → Prop} {S : HS} (hI : IV S) (o_v0 : ob S v0 9) (hq : ∀ (r : Int32) (T : HS), IV T → Gr S T → FRI [(9, 9)] [] S T → K2 S T → Q r T) : P_X9_first v0 v1 v2 v3 v4 v5 v6 Q S := cm_X9_first (kf_X9_first (m_X9_first (Q := fun r T => IV T ∧ Gr S T ∧ (FRI [(9, 9)] [] S T)) hI o_v0 (fun r T h0 h1 h2 => ⟨h0, h1, h2⟩))) (m_X9_first (Q := fun r T => IV T ∧ Gr S T ∧ (FRI [(9, 9)] [] S T)) hI o_v0 (fun r T h0 h1 h2 => ⟨h0, h1, h2⟩)) (fun r T h _ => hq r T h.1.1 h.1.2.1 h.1.2.2 h.2)
theorem mk_X9_fit {v0 : Nat} {v1 : Int32} {v2 : Int32} {Q : Int32 → HS → Prop} {S : HS} (hI : IV S) (o_v0 : ob S v0 9) (hq : ∀ (r : Int32) (T : HS), IV T → Gr S T → FRI [(9, 9)] [] S T → K2 S T → Q r T) : P_X9_fit v0 v1 v2 Q S := cm_X9_fit (kf_X9_fit (m_X9_fit (Q := fun r T => IV T ∧ Gr S T ∧ (FRI [(9, 9)] [] S T)) hI o_v0 (fun r T h0 h1 h2 => ⟨h0, h1, h2⟩))) (m_X9_fit (Q := fun r T => IV T ∧ Gr S T ∧ (FRI [(9, 9)] [] S T)) hI o_v0 (fun r T h0 h1 h2 => ⟨h0, h1, h2⟩)) (fun r T h _ => hq r T h.1.1 h.1.2.1 h.1.2.2 h.2)
theorem mk_X9_fits {v0 : Nat} {v1 : Int32} {Q : Int32 → HS → Prop} {S : HS} (hI : IV S) (o_v0 : ob S v0 9) (hq : ∀ (r : Int32) (T : HS), IV T → Gr S T → FRI [(9, 9)] [] S T → K2 S T → Q r T) : P_X9_fits v0 v1 Q S := cm_X9_fits (kf_X9_fits (m_X9_fits (Q := fun r T => IV T ∧ Gr S T ∧ (FRI [(9, 9)] [] S T)) hI o_v0 (fun r T h0 h1 h2 => ⟨h0, h1, h2⟩))) (m_X9_fits (Q := fun r T => IV T ∧ Gr S T ∧ (FRI [(9, 9)] [] S T)) hI o_v0 (fun r T h0 h1 h2 => ⟨h0, h1, h2⟩)) (fun r T h _ => hq r T h.1.1 h.1.2.1 h.1.2.2 h.2)
theorem mk_X9_go {v0 : Nat} {v1 : Int32} {v2 : Int32} {v3 : Int32} {Q : Int32 → HS → Prop} {S : HS} (hI : IV S) (o_v0 : ob S v0 9) (hq : ∀ (r : Int32) (T : HS), IV T → Gr S T → FRI [(0, 2), (2, 0), (2, 1), (9, 9)] [] S T → K2 S T → Q r T) : P_X9_go v0 v1 v2 v3 Q S := cm_X9_go (kf_X9_go (m_X9_go (Q := fun r T => IV T ∧ Gr S T ∧ (FRI [(0, 2), (2, 0), (2, 1), (9, 9)] [] S T)) hI o_v0 (fun r T h0 h1 h2 => ⟨h0, h1, h2⟩))) (m_X9_go (Q := fun r T => IV T ∧ Gr S T ∧ (FRI [(0, 2), (2, 0), (2, 1), (9, 9)] [] S T)) hI o_v0 (fun r T h0 h1 h2 => ⟨h0, h1, h2⟩)) (fun r T h _ => hq r T h.1.1 h.1.2.1 h.1.2.2 h.2)
theorem mk_X9_got {v0 : Nat} {v1 : Int32} {v2 : Int32} {Q : Int64 → HS → Prop} {S : HS} (hI : IV S) (o_v0 : ob S v0 9) (hq : ∀ (r : Int64) (T : HS), IV T → Gr S T → FRI [(9, 9)] [] S T → K2 S T → Q r T) : P_X9_got v0 v1 v2 Q S := cm_X9_got (kf_X9_got (m_X9_got (Q := fun r T => IV T ∧ Gr S T ∧ (FRI [(9, 9)] [] S T)) hI o_v0 (fun r T h0 h1 h2 => ⟨h0, h1, h2⟩))) (m_X9_got (Q := fun r T => IV T ∧ Gr S T ∧ (FRI [(9, 9)] [] S T)) hI o_v0 (fun r T h0 h1 h2 => ⟨h0, h1, h2⟩)) (fun r T h _ => hq r T h.1.1 h.1.2.1 h.1.2.2 h.2)
theorem mk_X9_held {v0 : Nat} {v1 : Int32} {v2 : Int32} {v3 : Int32} {v4 : Int32} {v5 : Int32} {Q : Int32 → HS → Prop} {S : HS} (hI : IV S) (o_v0 : ob S v0 9) (hq : ∀ (r : Int32) (T : HS), IV T → Gr S T → FRI [(9, 9)] [] S T → K2 S T → Q r T) : P_X9_held v0 v1 v2 v3 v4 v5 Q S := cm_X9_held (kf_X9_held (m_X9_held (Q := fun r T => IV T ∧ Gr S T ∧ (FRI [(9, 9)] [] S T)) hI o_v0 (fun r T h0 h1 h2 => ⟨h0, h1, h2⟩))) (m_X9_held (Q := fun r T => IV T ∧ Gr S T ∧ (FRI [(9, 9)] [] S T)) hI o_v0 (fun r T h0 h1 h2 => ⟨h0, h1, h2⟩)) (fun r T h _ => hq r T h.1.1 h.1.2.1 h.1.2.2 h.2)
theorem mk_X9_least {v0 : Nat} {v1 : Int32} {v2 : Int32} {v3 : Int32} {v4 : Int32} {v5 : Int32} {v6 : Int32} {Q : Int64 → HS → Prop} {S : HS} (hI : IV S) (o_v0 : ob S v0 9) (hq : ∀ (r : Int64) (T : HS), IV T → Gr S T → FRI [(7, 3), (7, 9), (7, 10), (7, 11), (7, 12), (7, 13), (9, 9)] [(7, 0), (7, 1), (7, 2), (7, 4), (7, 5), (7, 6), (7, 7), (7, 8)] S T → K2 S T → Q r T) : P_X9_least v0 v1 v2 v3 v4 v5 v6 Q S := cm_X9_least (kf_X9_least (m_X9_least (Q := fun r T => IV T ∧ Gr S T ∧ (FRI [(7, 3), (7, 9), (7, 10), (7, 11), (7, 12), (7, 13), (9, 9)] [(7, 0), (7, 1), (7, 2), (7, 4), (7, 5), (7, 6), (7, 7), (7, 8)] S T)) hI o_v0 (fun r T h0 h1 h2 => ⟨h0, h1, h2⟩))) (m_X9_least (Q := fun r T => IV T ∧ Gr S T ∧ (FRI [(7, 3), (7, 9), (7, 10), (7, 11), (7, 12), (7, 13), (9, 9)] [(7, 0), (7, 1), (7, 2), (7, 4), (7, 5), (7, 6), (7, 7), (7, 8)] S T)) hI o_v0 (fun r T h0 h1 h2 => ⟨h0, h1, h2⟩)) (fun r T h _ => hq r T h.1.1 h.1.2.1 h.1.2.2 h.2)
theorem mk_X9_lee {v0 : Nat} {v1 : Int32} {v2 : Int32} {v3 : Int32} {v4 : Int32} {v5 : Int32} {v6 : Int32} {v7 : Int32} {Q : Int64 → HS → Prop} {S : HS} (hI : IV S) (o_v0 : ob S v0 9) (hq : ∀ (r : Int64) (T : HS), IV T → Gr S T → FRI [(9, 9)] [] S T → K2 S T → Q r T) : P_X9_lee v0 v1 v2 v3 v4 v5 v6 v7 Q S := cm_X9_lee (kf_X9_lee (m_X9_lee (Q := fun r T => IV T ∧ Gr S T ∧ (FRI [(9, 9)] [] S T)) hI o_v0 (fun r T h0 h1 h2 => ⟨h0, h1, h2⟩))) (m_X9_lee (Q := fun r T => IV T ∧ Gr S T ∧ (FRI [(9, 9)] [] S T)) hI o_v0 (fun r T h0 h1 h2 => ⟨h0, h1, h2⟩)) (fun r T h _ => hq r T h.1.1 h.1.2.1 h.1.2.2 h.2)
theorem mk_X9_lies {v0 : Nat} {Q : Int32 → HS → Prop} {S : HS} (hI : IV S) (o_v0 : ob S v0 9) (hq : ∀ (r : Int32) (T : HS), IV T → Gr S T → FRI [(9, 9)] [] S T → K2 S T → Q r T) : P_X9_lies v0 Q S := cm_X9_lies (kf_X9_lies (m_X9_lies (Q := fun r T => IV T ∧ Gr S T ∧ (FRI [(9, 9)] [] S T)) hI o_v0 (fun r T h0 h1 h2 => ⟨h0, h1, h2⟩))) (m_X9_lies (Q := fun r T => IV T ∧ Gr S T ∧ (FRI [(9, 9)] [] S T)) hI o_v0 (fun r T h0 h1 h2 => ⟨h0, h1, h2⟩)) (fun r T h _ => hq r T h.1.1 h.1.2.1 h.1.2.2 h.2)
theorem mk_X9_mark {v0 : Nat} {Q : Int32 → HS → Prop} {S : HS} (hI : IV S) (o_v0 : ob S v0 9) (hq : ∀ (r : Int32) (T : HS), IV T → Gr S T → FRI [(0, 3), (2, 0), (2, 1), (9, 9)] [] S T → K2 S T → Q r T) : P_X9_mark v0 Q S := cm_X9_mark (kf_X9_mark (m_X9_mark (Q := fun r T => IV T ∧ Gr S T ∧ (FRI [(0, 3), (2, 0), (2, 1), (9, 9)] [] S T)) hI o_v0 (fun r T h0 h1 h2 => ⟨h0, h1, h2⟩))) (m_X9_mark (Q := fun r T => IV T ∧ Gr S T ∧ (FRI [(0, 3), (2, 0), (2, 1), (9, 9)] [] S T)) hI o_v0 (fun r T h0 h1 h2 => ⟨h0, h1, h2⟩)) (fun r T h _ => hq r T h.1.1 h.1.2.1 h.1.2.2 h.2)
theorem mk_X9_mean {v0 : Nat} {v1 : Int32} {v2 : Int32} {v3 : Int32} {v4 : Int32} {v5 : Int32} {v6 : Int32} {Q : Int64 → HS → Prop} {S : HS} (hI : IV S) (o_v0 : ob S v0 9) (hq : ∀ (r : Int64) (T : HS), IV T → Gr S T → FRI [(9, 9)] [] S T → K2 S T → Q r T) : P_X9_mean v0 v1 v2 v3 v4 v5 v6 Q S := cm_X9_mean (kf_X9_mean (m_X9_mean (Q := fun r T => IV T ∧ Gr S T ∧ (FRI [(9, 9)] [] S T)) hI o_v0 (fun r T h0 h1 h2 => ⟨h0, h1, h2⟩))) (m_X9_mean (Q := fun r T => IV T ∧ Gr S T ∧ (FRI [(9, 9)] [] S T)) hI o_v0 (fun r T h0 h1 h2 => ⟨h0, h1, h2⟩)) (fun r T h _ => hq r T h.1.1 h.1.2.1 h.1.2.2 h.2)
theorem mk_X9_minutes {v0 : Nat} {v1 : Int32} {v2 : Int32} {v3 : Int32} {Q : Int32 → HS → Prop} {S : HS} (hI : IV S) (o_v0 : ob S v0 9) (hq : ∀ (r : Int32) (T : HS), IV T → Gr S T → FRI [(9, 9)] [] S T → K2 S T → Q r T) : P_X9_minutes v0 v1 v2 v3 Q S := cm_X9_minutes (kf_X9_minutes (m_X9_minutes (Q := fun r T => IV T ∧ Gr S T ∧ (FRI [(9, 9)] [] S T)) hI o_v0 (fun r T h0 h1 h2 => ⟨h0, h1, h2⟩))) (m_X9_minutes (Q := fun r T => IV T ∧ Gr S T ∧ (FRI [(9, 9)] [] S T)) hI o_v0 (fun r T h0 h1 h2 => ⟨h0, h1, h2⟩)) (fun r T h _ => hq r T h.1.1 h.1.2.1 h.1.2.2 h.2)
theorem mk_X9_off {v0 : Nat} {v1 : Int32} {v2 : Int32} {v3 : Int32} {v4 : Int32} {Q : Int32 → HS → Prop} {S : HS} (hI : IV S) (o_v0 : ob S v0 9) (hq : ∀ (r : Int32) (T : HS), IV T → Gr S T → FRI [(7, 3), (7, 9), (7, 10), (7, 11), (7, 12), (7, 13), (9, 9)] [(7, 0), (7, 1), (7, 2), (7, 4), (7, 5), (7, 6), (7, 7), (7, 8)] S T → K2 S T → Q r T) : P_X9_off v0 v1 v2 v3 v4 Q S := cm_X9_off (kf_X9_off (m_X9_off (Q := fun r T => IV T ∧ Gr S T ∧ (FRI [(7, 3), (7, 9), (7, 10), (7, 11), (7, 12), (7, 13), (9, 9)] [(7, 0), (7, 1), (7, 2), (7, 4), (7, 5), (7, 6), (7, 7), (7, 8)] S T)) hI o_v0 (fun r T h0 h1 h2 => ⟨h0, h1, h2⟩))) (m_X9_off (Q := fun r T => IV T ∧ Gr S T ∧ (FRI [(7, 3), (7, 9), (7, 10), (7, 11), (7, 12), (7, 13), (9, 9)] [(7, 0), (7, 1), (7, 2), (7, 4), (7, 5), (7, 6), (7, 7), (7, 8)] S T)) hI o_v0 (fun r T h0 h1 h2 => ⟨h0, h1, h2⟩)) (fun r T h _ => hq r T h.1.1 h.1.2.1 h.1.2.2 h.2)
theorem mk_X9_road {v0 : Nat} {v1 : Int32} {v2 : Int32} {Q : Int32 → HS → Prop} {S : HS} (hI : IV S) (o_v0 : ob S v0 9) (hq : ∀ (r : Int32) (T : HS), IV T → Gr S T → FRI [(9, 9)] [] S T → K2 S T → Q r T) : P_X9_road v0 v1 v2 Q S := cm_X9_road (kf_X9_road (m_X9_road (Q := fun r T => IV T ∧ Gr S T ∧ (FRI [(9, 9)] [] S T)) hI o_v0 (fun r T h0 h1 h2 => ⟨h0, h1, h2⟩))) (m_X9_road (Q := fun r T => IV T ∧ Gr S T ∧ (FRI [(9, 9)] [] S T)) hI o_v0 (fun r T h0 h1 h2 => ⟨h0, h1, h2⟩)) (fun r T h _ => hq r T h.1.1 h.1.2.1 h.1.2.2 h.2)
theorem mk_X9_round {v0 : Nat} {v1 : Int32} {v2 : Int32} {v3 : Int32} {v4 : Int32} {Q : Int64 → HS → Prop} {S : HS} (hI : IV S) (o_v0 : ob S v0 9) (hq : ∀ (r : Int64) (T : HS), IV T → Gr S T → FRI [(9, 9)] [] S T → K2 S T → Q r T) : P_X9_round v0 v1 v2 v3 v4 Q S := cm_X9_round (kf_X9_round (m_X9_round (Q := fun r T => IV T ∧ Gr S T ∧ (FRI [(9, 9)] [] S T)) hI o_v0 (fun r T h0 h1 h2 => ⟨h0, h1, h2⟩))) (m_X9_round (Q := fun r T => IV T ∧ Gr S T ∧ (FRI [(9, 9)] [] S T)) hI o_v0 (fun r T h0 h1 h2 => ⟨h0, h1, h2⟩)) (fun r T h _ => hq r T h.1.1 h.1.2.1 h.1.2.2 h.2)
theorem mk_X9_saves {v0 : Nat} {v1 : Int32} {v2 : Int32} {v3 : Int32} {v4 : Int32} {v5 : Int32} {Q : Int64 → HS → Prop} {S : HS} (hI : IV S) (o_v0 : ob S v0 9) (hq : ∀ (r : Int64) (T : HS), IV T → Gr S T → FRI [(9, 9)] [] S T → K2 S T → Q r T) : P_X9_saves v0 v1 v2 v3 v4 v5 Q S := cm_X9_saves (kf_X9_saves (m_X9_saves (Q := fun r T => IV T ∧ Gr S T ∧ (FRI [(9, 9)] [] S T)) hI o_v0 (fun r T h0 h1 h2 => ⟨h0, h1, h2⟩))) (m_X9_saves (Q := fun r T => IV T ∧ Gr S T ∧ (FRI [(9, 9)] [] S T)) hI o_v0 (fun r T h0 h1 h2 => ⟨h0, h1, h2⟩)) (fun r T h _ => hq r T h.1.1 h.1.2.1 h.1.2.2 h.2)
theorem mk_X9_soaked {v0 : Nat} {Q : Int32 → HS → Prop} {S : HS} (hI : IV S) (o_v0 : ob S v0 9) (hq : ∀ (r : Int32) (T : HS), IV T → Gr S T → FRI [(9, 9)] [] S T → K2 S T → Q r T) : P_X9_soaked v0 Q S := cm_X9_soaked (kf_X9_soaked (m_X9_soaked (Q := fun r T => IV T ∧ Gr S T ∧ (FRI [(9, 9)] [] S T)) hI o_v0 (fun r T h0 h1 h2 => ⟨h0, h1, h2⟩))) (m_X9_soaked (Q := fun r T => IV T ∧ Gr S T ∧ (FRI [(9, 9)] [] S T)) hI o_v0 (fun r T h0 h1 h2 => ⟨h0, h1, h2⟩)) (fun r T h _ => hq r T h.1.1 h.1.2.1 h.1.2.2 h.2)
theorem mk_X9_stay {v0 : Nat} {v1 : Int32} {Q : Int32 → HS → Prop} {S : HS} (hI : IV S) (o_v0 : ob S v0 9) (hq : ∀ (r : Int32) (T : HS), IV T → Gr S T → FRI [(0, 2), (2, 0), (2, 1), (9, 9)] [] S T → bl r → K2 S T → Q r T) : P_X9_stay v0 v1 Q S := cm_X9_stay (kf_X9_stay (m_X9_stay (Q := fun r T => IV T ∧ Gr S T ∧ (FRI [(0, 2), (2, 0), (2, 1), (9, 9)] [] S T) ∧ bl r) hI o_v0 (fun r T h0 h1 h2 h3 => ⟨h0, h1, h2, h3⟩))) (m_X9_stay (Q := fun r T => IV T ∧ Gr S T ∧ (FRI [(0, 2), (2, 0), (2, 1), (9, 9)] [] S T) ∧ bl r) hI o_v0 (fun r T h0 h1 h2 h3 => ⟨h0, h1, h2, h3⟩)) (fun r T h _ => hq r T h.1.1 h.1.2.1 h.1.2.2.1 h.1.2.2.2 h.2)
theorem mk_X9_step {v0 : Nat} {v1 : Int32} {v2 : Int32} {v3 : Int32} {v4 : Int32} {v5 : Int32} {v6 : Int32} {Q : Int32 → HS → Prop} {S : HS} (hI : IV S) (o_v0 : ob S v0 9) (hq : ∀ (r : Int32) (T : HS), IV T → Gr S T → FRI [(7, 3), (7, 9), (7, 10), (7, 11), (7, 12), (7, 13), (9, 9)] [(7, 0), (7, 1), (7, 2), (7, 4), (7, 5), (7, 6), (7, 7), (7, 8)] S T → K2 S T → Q r T) : P_X9_step v0 v1 v2 v3 v4 v5 v6 Q S := cm_X9_step (kf_X9_step (m_X9_step (Q := fun r T => IV T ∧ Gr S T ∧ (FRI [(7, 3), (7, 9), (7, 10), (7, 11), (7, 12), (7, 13), (9, 9)] [(7, 0), (7, 1), (7, 2), (7, 4), (7, 5), (7, 6), (7, 7), (7, 8)] S T)) hI o_v0 (fun r T h0 h1 h2 => ⟨h0, h1, h2⟩))) (m_X9_step (Q := fun r T => IV T ∧ Gr S T ∧ (FRI [(7, 3), (7, 9), (7, 10), (7, 11), (7, 12), (7, 13), (9, 9)] [(7, 0), (7, 1), (7, 2), (7, 4), (7, 5), (7, 6), (7, 7), (7, 8)] S T)) hI o_v0 (fun r T h0 h1 h2 => ⟨h0, h1, h2⟩)) (fun r T h _ => hq r T h.1.1 h.1.2.1 h.1.2.2 h.2)
theorem mk_X9_steps {v0 : Nat} {v1 : Int32} {v2 : Int32} {v3 : Int32} {v4 : Int32} {v5 : Int32} {Q : Int32 → HS → Prop} {S : HS} (hI : IV S) (o_v0 : ob S v0 9) (hq : ∀ (r : Int32) (T : HS), IV T → Gr S T → FRI [(7, 3), (7, 9), (7, 10), (7, 11), (7, 12), (7, 13), (9, 9)] [(7, 0), (7, 1), (7, 2), (7, 4), (7, 5), (7, 6), (7, 7), (7, 8)] S T → K2 S T → Q r T) : P_X9_steps v0 v1 v2 v3 v4 v5 Q S := cm_X9_steps (kf_X9_steps (m_X9_steps (Q := fun r T => IV T ∧ Gr S T ∧ (FRI [(7, 3), (7, 9), (7, 10), (7, 11), (7, 12), (7, 13), (9, 9)] [(7, 0), (7, 1), (7, 2), (7, 4), (7, 5), (7, 6), (7, 7), (7, 8)] S T)) hI o_v0 (fun r T h0 h1 h2 => ⟨h0, h1, h2⟩))) (m_X9_steps (Q := fun r T => IV T ∧ Gr S T ∧ (FRI [(7, 3), (7, 9), (7, 10), (7, 11), (7, 12), (7, 13), (9, 9)] [(7, 0), (7, 1), (7, 2), (7, 4), (7, 5), (7, 6), (7, 7), (7, 8)] S T)) hI o_v0 (fun r T h0 h1 h2 => ⟨h0, h1, h2⟩)) (fun r T h _ => hq r T h.1.1 h.1.2.1 h.1.2.2 h.2)
theorem mk_X9_there {v0 : Nat} {v1 : Int32} {v2 : Int32} {v3 : Int32} {v4 : Int32} {v5 : Int32} {Q : Int32 → HS → Prop} {S : HS} (hI : IV S) (o_v0 : ob S v0 9) (hq : ∀ (r : Int32) (T : HS), IV T → Gr S T → FRI [(7, 3), (7, 9), (7, 10), (7, 11), (7, 12), (7, 13), (9, 9)] [(7, 0), (7, 1), (7, 2), (7, 4), (7, 5), (7, 6), (7, 7), (7, 8)] S T → K2 S T → Q r T) : P_X9_there v0 v1 v2 v3 v4 v5 Q S := cm_X9_there (kf_X9_there (m_X9_there (Q := fun r T => IV T ∧ Gr S T ∧ (FRI [(7, 3), (7, 9), (7, 10), (7, 11), (7, 12), (7, 13), (9, 9)] [(7, 0), (7, 1), (7, 2), (7, 4), (7, 5), (7, 6), (7, 7), (7, 8)] S T)) hI o_v0 (fun r T h0 h1 h2 => ⟨h0, h1, h2⟩))) (m_X9_there (Q := fun r T => IV T ∧ Gr S T ∧ (FRI [(7, 3), (7, 9), (7, 10), (7, 11), (7, 12), (7, 13), (9, 9)] [(7, 0), (7, 1), (7, 2), (7, 4), (7, 5), (7, 6), (7, 7), (7, 8)] S T)) hI o_v0 (fun r T h0 h1 h2 => ⟨h0, h1, h2⟩)) (fun r T h _ => hq r T h.1.1 h.1.2.1 h.1.2.2 h.2)
theorem mk_X9_undo {v0 : Nat} {Q : Int32 → HS → Prop} {S : HS} (hI : IV S) (o_v0 : ob S v0 9) (hq : ∀ (r : Int32) (T : HS), IV T → Gr S T → FRI [(0, 2), (2, 0), (2, 1), (9, 9)] [] S T → bl r → K2 S T → Q r T) : P_X9_undo v0 Q S := cm_X9_undo (kf_X9_undo (m_X9_undo (Q := fun r T => IV T ∧ Gr S T ∧ (FRI [(0, 2), (2, 0), (2, 1), (9, 9)] [] S T) ∧ bl r) hI o_v0 (fun r T h0 h1 h2 h3 => ⟨h0, h1, h2, h3⟩))) (m_X9_undo (Q := fun r T => IV T ∧ Gr S T ∧ (FRI [(0, 2), (2, 0), (2, 1), (9, 9)] [] S T) ∧ bl r) hI o_v0 (fun r T h0 h1 h2 h3 => ⟨h0, h1, h2, h3⟩)) (fun r T h _ => hq r T h.1.1 h.1.2.1 h.1.2.2.1 h.1.2.2.2 h.2)
theorem mk_X9_walker {v0 : Nat} {v1 : Int32} {v2 : Int32} {Q : Int32 → HS → Prop} {S : HS} (hI : IV S) (o_v0 : ob S v0 9) (hq : ∀ (r : Int32) (T : HS), IV T → Gr S T → FRI [(9, 9)] [] S T → K2 S T → Q r T) : P_X9_walker v0 v1 v2 Q S := cm_X9_walker (kf_X9_walker (m_X9_walker (Q := fun r T => IV T ∧ Gr S T ∧ (FRI [(9, 9)] [] S T)) hI o_v0 (fun r T h0 h1 h2 => ⟨h0, h1, h2⟩))) (m_X9_walker (Q := fun r T => IV T ∧ Gr S T ∧ (FRI [(9, 9)] [] S T)) hI o_v0 (fun r T h0 h1 h2 => ⟨h0, h1, h2⟩)) (fun r T h _ => hq r T h.1.1 h.1.2.1 h.1.2.2 h.2)
theorem mk_X9_wet {v0 : Nat} {v1 : Int32} {v2 : Int32} {v3 : Int32} {v4 : Int32} {v5 : Int32} {v6 : Int32} {Q : Int64 → HS → Prop} {S : HS} (hI : IV S) (o_v0 : ob S v0 9) (hq : ∀ (r : Int64) (T : HS), IV T → Gr S T → FRI [(9, 9)] [] S T → K2 S T → Q r T) : P_X9_wet v0 v1 v2 v3 v4 v5 v6 Q S := cm_X9_wet (kf_X9_wet (m_X9_wet (Q := fun r T => IV T ∧ Gr S T ∧ (FRI [(9, 9)] [] S T)) hI o_v0 (fun r T h0 h1 h2 => ⟨h0, h1, h2⟩))) (m_X9_wet (Q := fun r T => IV T ∧ Gr S T ∧ (FRI [(9, 9)] [] S T)) hI o_v0 (fun r T h0 h1 h2 => ⟨h0, h1, h2⟩)) (fun r T h _ => hq r T h.1.1 h.1.2.1 h.1.2.2 h.2)
theorem mk_X9_wetness {v0 : Nat} {v1 : Int32} {Q : Int64 → HS → Prop} {S : HS} (hI : IV S) (o_v0 : ob S v0 9) (hq : ∀ (r : Int64) (T : HS), IV T → Gr S T → FRI [(9, 9)] [] S T → K2 S T → Q r T) : P_X9_wetness v0 v1 Q S := cm_X9_wetness (kf_X9_wetness (m_X9_wetness (Q := fun r T => IV T ∧ Gr S T ∧ (FRI [(9, 9)] [] S T)) hI o_v0 (fun r T h0 h1 h2 => ⟨h0, h1, h2⟩))) (m_X9_wetness (Q := fun r T => IV T ∧ Gr S T ∧ (FRI [(9, 9)] [] S T)) hI o_v0 (fun r T h0 h1 h2 => ⟨h0, h1, h2⟩)) (fun r T h _ => hq r T h.1.1 h.1.2.1 h.1.2.2 h.2)
theorem mk_X9_where {v0 : Nat} {Q : Int32 → HS → Prop} {S : HS} (hI : IV S) (o_v0 : ob S v0 9) (hq : ∀ (r : Int32) (T : HS), IV T → Gr S T → (S = T) → K2 S T → Q r T) : P_X9_where v0 Q S := cm_X9_where (kf_X9_where (m_X9_where (Q := fun r T => IV T ∧ Gr S T ∧ ((S = T))) hI o_v0 (fun r T h0 h1 h2 => ⟨h0, h1, h2⟩))) (m_X9_where (Q := fun r T => IV T ∧ Gr S T ∧ ((S = T))) hI o_v0 (fun r T h0 h1 h2 => ⟨h0, h1, h2⟩)) (fun r T h _ => hq r T h.1.1 h.1.2.1 h.1.2.2 h.2)
theorem mk_X9_worst {v0 : Nat} {v1 : Int32} {v2 : Int32} {v3 : Int32} {v4 : Int32} {Q : Int32 → HS → Prop} {S : HS} (hI : IV S) (o_v0 : ob S v0 9) (hq : ∀ (r : Int32) (T : HS), IV T → Gr S T → FRI [(9, 9)] [] S T → K2 S T → Q r T) : P_X9_worst v0 v1 v2 v3 v4 Q S := cm_X9_worst (kf_X9_worst (m_X9_worst (Q := fun r T => IV T ∧ Gr S T ∧ (FRI [(9, 9)] [] S T)) hI o_v0 (fun r T h0 h1 h2 => ⟨h0, h1, h2⟩))) (m_X9_worst (Q := fun r T => IV T ∧ Gr S T ∧ (FRI [(9, 9)] [] S T)) hI o_v0 (fun r T h0 h1 h2 => ⟨h0, h1, h2⟩)) (fun r T h _ => hq r T h.1.1 h.1.2.1 h.1.2.2 h.2)
end
section
theorem ml_X9_world {v0 : Nat} {v1 : Int32} {Q : Int32 → HS → Prop} {S : HS} (hI : IV S) (o_v0 : ob S v0 9) {f : Nat → Int32} {t a : Nat} (P : TP 0 1 f t a v0 S) (ht : t ≤ 900) (hq : ∀ (r : Int32) (T : HS), IV T → Gr S T → FRI [(0, 0), (0, 2), (0, 3), (3, 0), (3, 1), (3, 2), (3, 3), (3, 4), (4, 0), (4, 1), (4, 3), (4, 4), (4, 6), (4, 7), (4, 9), (4, 10), (5, 0), (5, 1), (5, 2), (5, 3), (5, 4), (6, 0), (6, 1), (6, 2), (6, 3), (6, 4), (6, 5), (6, 6), (7, 10), (8, 0), (8, 1), (8, 2), (8, 3), (8, 4), (8, 5), (9, 1), (9, 7), (9, 8), (9, 9)] [(4, 2), (4, 5), (9, 2)] S T → ((v1 < 0 ∨ fI S v0 1 < v1 → fI T v0 1 = fI S v0 1) ∧ (0 ≤ v1 ∧ v1 ≤ fI S v0 1 → fI T v0 1 = 0)) → K2 S T → (WCd S f t v1 v0 r T) → Q r T) : P_X9_world v0 v1 Q S := cm_X9_world (rl_X9_world hI o_v0 P ht (mk_X9_world (Q := fun r T => IV T ∧ Gr S T ∧ (FRI [(0, 0), (0, 2), (0, 3), (3, 0), (3, 1), (3, 2), (3, 3), (3, 4), (4, 0), (4, 1), (4, 3), (4, 4), (4, 6), (4, 7), (4, 9), (4, 10), (5, 0), (5, 1), (5, 2), (5, 3), (5, 4), (6, 0), (6, 1), (6, 2), (6, 3), (6, 4), (6, 5), (6, 6), (7, 10), (8, 0), (8, 1), (8, 2), (8, 3), (8, 4), (8, 5), (9, 1), (9, 7), (9, 8), (9, 9)] [(4, 2), (4, 5), (9, 2)] S T) ∧ (((v1 < 0 ∨ fI S v0 1 < v1 → fI T v0 1 = fI S v0 1) ∧ (0 ≤ v1 ∧ v1 ≤ fI S v0 1 → fI T v0 1 = 0))) ∧ K2 S T) hI o_v0 (fun r T h0 h1 h2 h3 h4 => ⟨h0, h1, h2, h3, h4⟩))) (mk_X9_world (Q := fun r T => IV T ∧ Gr S T ∧ (FRI [(0, 0), (0, 2), (0, 3), (3, 0), (3, 1), (3, 2), (3, 3), (3, 4), (4, 0), (4, 1), (4, 3), (4, 4), (4, 6), (4, 7), (4, 9), (4, 10), (5, 0), (5, 1), (5, 2), (5, 3), (5, 4), (6, 0), (6, 1), (6, 2), (6, 3), (6, 4), (6, 5), (6, 6), (7, 10), (8, 0), (8, 1), (8, 2), (8, 3), (8, 4), (8, 5), (9, 1), (9, 7), (9, 8), (9, 9)] [(4, 2), (4, 5), (9, 2)] S T) ∧ (((v1 < 0 ∨ fI S v0 1 < v1 → fI T v0 1 = fI S v0 1) ∧ (0 ≤ v1 ∧ v1 ≤ fI S v0 1 → fI T v0 1 = 0))) ∧ K2 S T) hI o_v0 (fun r T h0 h1 h2 h3 h4 => ⟨h0, h1, h2, h3, h4⟩)) (fun r T h _ => hq r T h.1.1 h.1.2.1 h.1.2.2.1 h.1.2.2.2.1 h.1.2.2.2.2 h.2)
theorem ml_X11_world {v0 : Nat} {v1 : Int32} {Q : Int32 → HS → Prop} {S : HS} (hI : IV S) (o_v0 : ob S v0 11) {f : Nat → Int32} {t a : Nat} (P : TP 5 6 f t a v0 S) (ht : t ≤ 900) (hB : ∀ j, j < t → -128 ≤ (f j).toInt ∧ (f j).toInt ≤ 127) (hq : ∀ (r : Int32) (T : HS), IV T → Gr S T → FRI [(10, 0), (10, 1), (10, 2), (10, 3), (10, 4), (10, 5), (10, 6), (11, 0), (11, 1), (11, 2), (11, 6), (11, 7), (11, 8), (11, 9), (11, 10), (11, 11), (11, 12), (11, 13), (11, 14), (11, 19), (11, 24), (11, 25)] [(10, 7), (10, 8), (10, 9), (10, 10), (10, 11), (10, 12), (10, 13), (10, 14), (10, 15), (10, 16), (10, 17), (10, 18), (10, 19), (10, 20), (10, 21), (10, 22), (10, 23), (10, 24), (10, 25), (10, 26), (10, 27), (10, 28), (10, 29), (10, 30), (11, 3), (11, 4)] S T → ((v1 < 0 ∨ fI S v0 6 < v1 → fI T v0 6 = fI S v0 6) ∧ (0 ≤ v1 ∧ v1 ≤ fI S v0 6 → fI T v0 6 = 0)) → K2 S T → (WMd S f t v1 v0 r T) → Q r T) : P_X11_world v0 v1 Q S := cm_X11_world (rl_X11_world P ht hB (mk_X11_world (Q := fun r T => IV T ∧ Gr S T ∧ (FRI [(10, 0), (10, 1), (10, 2), (10, 3), (10, 4), (10, 5), (10, 6), (11, 0), (11, 1), (11, 2), (11, 6), (11, 7), (11, 8), (11, 9), (11, 10), (11, 11), (11, 12), (11, 13), (11, 14), (11, 19), (11, 24), (11, 25)] [(10, 7), (10, 8), (10, 9), (10, 10), (10, 11), (10, 12), (10, 13), (10, 14), (10, 15), (10, 16), (10, 17), (10, 18), (10, 19), (10, 20), (10, 21), (10, 22), (10, 23), (10, 24), (10, 25), (10, 26), (10, 27), (10, 28), (10, 29), (10, 30), (11, 3), (11, 4)] S T) ∧ (((v1 < 0 ∨ fI S v0 6 < v1 → fI T v0 6 = fI S v0 6) ∧ (0 ≤ v1 ∧ v1 ≤ fI S v0 6 → fI T v0 6 = 0))) ∧ K2 S T) hI o_v0 (fun r T h0 h1 h2 h3 h4 => ⟨h0, h1, h2, h3, h4⟩))) (mk_X11_world (Q := fun r T => IV T ∧ Gr S T ∧ (FRI [(10, 0), (10, 1), (10, 2), (10, 3), (10, 4), (10, 5), (10, 6), (11, 0), (11, 1), (11, 2), (11, 6), (11, 7), (11, 8), (11, 9), (11, 10), (11, 11), (11, 12), (11, 13), (11, 14), (11, 19), (11, 24), (11, 25)] [(10, 7), (10, 8), (10, 9), (10, 10), (10, 11), (10, 12), (10, 13), (10, 14), (10, 15), (10, 16), (10, 17), (10, 18), (10, 19), (10, 20), (10, 21), (10, 22), (10, 23), (10, 24), (10, 25), (10, 26), (10, 27), (10, 28), (10, 29), (10, 30), (11, 3), (11, 4)] S T) ∧ (((v1 < 0 ∨ fI S v0 6 < v1 → fI T v0 6 = fI S v0 6) ∧ (0 ≤ v1 ∧ v1 ≤ fI S v0 6 → fI T v0 6 = 0))) ∧ K2 S T) hI o_v0 (fun r T h0 h1 h2 h3 h4 => ⟨h0, h1, h2, h3, h4⟩)) (fun r T h _ => hq r T h.1.1 h.1.2.1 h.1.2.2.1 h.1.2.2.2.1 h.1.2.2.2.2 h.2)
theorem ml_X9_feed {v0 : Nat} {v1 : Int32} {v2 : Int32} {v3 : Int32} {v4 : Int32} {v5 : Int32} {Q : Int32 → HS → Prop} {S : HS} (hI : IV S) (o_v0 : ob S v0 9) {f : Nat → Int32} {t a : Nat} (P : TP 0 1 f t a v0 S) (ht : t ≤ 900) (hq : ∀ (r : Int32) (T : HS), IV T → Gr S T → FRI [(9, 1)] [] S T → ((900 < fI S v0 1 + 20 → r = -1 ∧ fI T v0 1 = fI S v0 1) ∧ (fI S v0 1 + 20 ≤ 900 → r = fI T v0 1 ∧ fI T v0 1 = fI S v0 1 + 20)) → (FT [1] a v0 S T ∧ ((t + 20 ≤ 900 ∧ r = nI (t + 20) ∧ TP 0 1 (f20 f t v1 v2 v3 v4 v5) (t + 20) a v0 T) ∨ (900 < t + 20 ∧ r = -1 ∧ S = T))) → Q r T) : P_X9_feed v0 v1 v2 v3 v4 v5 Q S := cm_X9_feed (rl_X9_feed (m2_X9_feed (Q := fun r T => IV T ∧ Gr S T ∧ (FRI [(9, 1)] [] S T) ∧ (((900 < fI S v0 1 + 20 → r = -1 ∧ fI T v0 1 = fI S v0 1) ∧ (fI S v0 1 + 20 ≤ 900 → r = fI T v0 1 ∧ fI T v0 1 = fI S v0 1 + 20)))) hI o_v0 (fun r T h0 h1 h2 h3 => ⟨h0, h1, h2, h3⟩)) P ht) (m2_X9_feed (Q := fun r T => IV T ∧ Gr S T ∧ (FRI [(9, 1)] [] S T) ∧ (((900 < fI S v0 1 + 20 → r = -1 ∧ fI T v0 1 = fI S v0 1) ∧ (fI S v0 1 + 20 ≤ 900 → r = fI T v0 1 ∧ fI T v0 1 = fI S v0 1 + 20)))) hI o_v0 (fun r T h0 h1 h2 h3 => ⟨h0, h1, h2, h3⟩)) (fun r T h _ => hq r T h.1.1 h.1.2.1 h.1.2.2.1 h.1.2.2.2 h.2)
theorem ml_X11_feed {v0 : Nat} {v1 : Int32} {v2 : Int32} {v3 : Int32} {v4 : Int32} {v5 : Int32} {Q : Int32 → HS → Prop} {S : HS} (hI : IV S) (o_v0 : ob S v0 11) {f : Nat → Int32} {t a : Nat} (P : TP 5 6 f t a v0 S) (ht : t ≤ 900) (hq : ∀ (r : Int32) (T : HS), IV T → Gr S T → FRI [(11, 0), (11, 6)] [] S T → ((900 < fI S v0 6 + 20 → r = -1 ∧ fI T v0 6 = fI S v0 6) ∧ (fI S v0 6 + 20 ≤ 900 → r = fI T v0 6 ∧ fI T v0 6 = fI S v0 6 + 20)) → (FT [0, 6] a v0 S T ∧ ((t + 20 ≤ 900 ∧ r = nI (t + 20) ∧ TP 5 6 (f20 f t v1 v2 v3 v4 v5) (t + 20) a v0 T) ∨ (900 < t + 20 ∧ r = -1 ∧ TP 5 6 (f20 f t v1 v2 v3 v4 v5) t a v0 T))) → Q r T) : P_X11_feed v0 v1 v2 v3 v4 v5 Q S := cm_X11_feed (rl_X11_feed (m_X11_feed (Q := fun r T => IV T ∧ Gr S T ∧ (FRI [(11, 0), (11, 6)] [] S T) ∧ (((900 < fI S v0 6 + 20 → r = -1 ∧ fI T v0 6 = fI S v0 6) ∧ (fI S v0 6 + 20 ≤ 900 → r = fI T v0 6 ∧ fI T v0 6 = fI S v0 6 + 20)))) hI o_v0 (fun r T h0 h1 h2 h3 => ⟨h0, h1, h2, h3⟩)) P ht) (m_X11_feed (Q := fun r T => IV T ∧ Gr S T ∧ (FRI [(11, 0), (11, 6)] [] S T) ∧ (((900 < fI S v0 6 + 20 → r = -1 ∧ fI T v0 6 = fI S v0 6) ∧ (fI S v0 6 + 20 ≤ 900 → r = fI T v0 6 ∧ fI T v0 6 = fI S v0 6 + 20)))) hI o_v0 (fun r T h0 h1 h2 h3 => ⟨h0, h1, h2, h3⟩)) (fun r T h _ => hq r T h.1.1 h.1.2.1 h.1.2.2.1 h.1.2.2.2 h.2)
end
section
/-! what a run leaves as it was: some fields of class and reference -/
abbrev pL : List (Nat × Nat) := [(9, 7), (9, 8), (9, 9), (11, 2), (11, 13)]
def K5 (S T : HS) : Prop := Gr S T ∧ ∀ q ∈ pL, ∀ a, ob S a q.1 → fI T a q.2 = fI S a q.2
def KN (S : HS) (a k : Nat) : Prop := ∀ b i, ob S b i → i ≠ k → b ≠ a
section K5s
variable {S T U : HS} {a k j : Nat}
theorem k5_rf (S : HS) : K5 S S := ⟨gr_rf S, fun _ _ _ _ => rfl⟩
theorem k5_tr (h : K5 S T) (g : K5 T U) : K5 S U := ⟨gr_tr h.1 g.1, fun q hq a o => (g.2 q hq a (gr_ob h.1 o)).trans (h.2 q hq a o)⟩
theorem k5_ne (h : K5 S T) (o : ob T a k) : KN S a k := fun b i ob hi z => hi (ob_inj (gr_ob h.1 ob) (z ▸ o))
theorem k5_I {v : Int32} (h : K5 S T) (e : U = sI T a j v) (hn : KN S a k) (hj : (k, j) ∉ pL) : K5 S U := by
  rw [e]
  refine ⟨h.1, fun q hq b o => ?_⟩
  refine Eq.trans ?_ (h.2 q hq b o)
  by_cases hk : q.1 = k
  · exact u2_ne _ _ (fun z => hj (by rw [← hk, ← z.2]; exact hq))
  · exact u2_ne _ _ (fun z => hn b q.1 o hk z.1)
theorem k5_A {v : Int32} (h : K5 S T) (e : U = sI T a j v) (hn : KN S a k) (hk : ∀ q ∈ pL, q.1 ≠ k) : K5 S U := by
  rw [e]
  refine ⟨h.1, fun q hq b o => ?_⟩
  refine Eq.trans ?_ (h.2 q hq b o)
  exact u2_ne _ _ (fun z => hn b q.1 o (hk q hq) z.1)
theorem k5_J {v : Int64} (h : K5 S T) (e : U = sJ T a j v) : K5 S U := by
  rw [e]
  exact h
theorem k5_R {v : Option Nat} (h : K5 S T) (e : U = sR T a j v) : K5 S U := by
  rw [e]
  exact h
theorem k5_W {n : Nat} (h : K5 S T) (ha : a ∉ hL T) (e : U = nW T a k n) : K5 S U := by
  refine k5_tr h ⟨gr_of_new e ha, fun q _ b o => ?_⟩
  have q9 : fI U b = fI T b := by
    rw [e]
    exact va_up_ne _ _ (fun z => ha (z ▸ o.1))
  rw [q9]
end K5s
set_option maxRecDepth 20000 in
set_option maxHeartbeats 1000000 in
theorem kg_X0_end_0 {Q : HS → Prop} {v0 : Nat} {S0 S : HS} (h : P_X0_end_0 Q v0 S) (K : K5 S0 S) : P_X0_end_0 (fun T => Q T ∧ K5 S0 T) v0 S := by
  delta P_X0_end_0 at h ⊢
  obtain ⟨c1, h⟩ := h
  refine ⟨c1, ?_⟩
  have n2 := k5_ne K c1
  intro x4 e3
  have h := h x4 e3
  have K := k5_I K e3 n2 (by decide)
  intro x6 e5
  have h := h x6 e5
  have K := k5_I K e5 n2 (by decide)
  intro x8 e7
  have h := h x8 e7
  have K := k5_I K e7 n2 (by decide)
  exact ⟨h, K⟩
theorem kg_X0_end {Q : HS → Prop} {v0 : Nat} {S : HS} (h : P_X0_end v0 Q S) : P_X0_end v0 (fun T => Q T ∧ K5 S T) S := kg_X0_end_0 h (k5_rf S)
set_option maxRecDepth 20000 in
set_option maxHeartbeats 1000000 in
theorem kgB_X0_begin_28 {Q : HS → Prop} {X28 X28_2 : Nat → Int32 → HS → Prop} {v0 : Nat} {v4 : Int32} {S0 S : HS} (h : B_X0_begin_28 Q X28 v0 v4 S) (K : K5 S0 S) (hX28 : ∀ (u0 : Nat) (u1 : Int32) (u2 : HS), X28 u0 u1 u2 → K5 S0 u2 → X28_2 u0 u1 u2) : B_X0_begin_28 (fun T => Q T ∧ K5 S0 T) X28_2 v0 v4 S := by
  delta B_X0_begin_28 at h ⊢
  refine ⟨?_, ?_⟩
  · intro c1
    have h := h.1 c1
    exact ⟨h, K⟩
  · intro c2
    have h := h.2 c2
    obtain ⟨c3, h⟩ := h
    refine ⟨c3, ?_⟩
    have n4 := k5_ne K c3
    obtain ⟨b5, e6, h⟩ := h
    refine ⟨b5, e6, ?_⟩
    obtain ⟨c7, h⟩ := h
    refine ⟨c7, ?_⟩
    have n8 := k5_ne K c7
    obtain ⟨b9, e10, h⟩ := h
    refine ⟨b9, e10, ?_⟩
    obtain ⟨c11, h⟩ := h
    refine ⟨c11, ?_⟩
    have n12 := k5_ne K c11
    obtain ⟨c13, h⟩ := h
    refine ⟨c13, ?_⟩
    intro x15 e14
    have h := h x15 e14
    have K := k5_J K e14
    intro x17 e16
    have h := h x17 e16
    exact hX28 _ _ _ h K
theorem kg_X0_begin_28 {Q : HS → Prop} {v0 : Nat} {v4 : Int32} {S0 S : HS} (h : P_X0_begin_28 Q v0 v4 S) (K : K5 S0 S) : P_X0_begin_28 (fun T => Q T ∧ K5 S0 T) v0 v4 S := h (fun v0 v4 S => K5 S0 S → P_X0_begin_28 (fun T => Q T ∧ K5 S0 T) v0 v4 S) (fun v0 v4 S hB K => fd_X0_begin_28 (kgB_X0_begin_28 hB K (fun _ _ _ hx K => hx K))) K
set_option maxRecDepth 20000 in
set_option maxHeartbeats 1000000 in
theorem kg_X0_begin_0 {Q : HS → Prop} {v0 : Nat} {v1 : Int32} {v2 : Int32} {v3 : Int32} {S0 S : HS} (h : P_X0_begin_0 Q v0 v1 v2 v3 S) (K : K5 S0 S) : P_X0_begin_0 (fun T => Q T ∧ K5 S0 T) v0 v1 v2 v3 S := by
  delta P_X0_begin_0 at h ⊢
  obtain ⟨c1, h⟩ := h
  refine ⟨c1, ?_⟩
  have n2 := k5_ne K c1
  refine cm_X0_end (kg_X0_end h) h (fun x3 hp h g4 => ?_)
  have h := h g4
  have K := k5_tr K hp.2
  intro x6 e5
  have h := h x6 e5
  have K := k5_I K e5 n2 (by decide)
  obtain ⟨b7, e8, h⟩ := h
  refine ⟨b7, e8, ?_⟩
  obtain ⟨c9, h⟩ := h
  refine ⟨c9, ?_⟩
  have n10 := k5_ne K c9
  intro x12 e11
  have h := h x12 e11
  have K := k5_I K e11 n10 (by decide)
  obtain ⟨b13, e14, h⟩ := h
  refine ⟨b13, e14, ?_⟩
  obtain ⟨c15, h⟩ := h
  refine ⟨c15, ?_⟩
  have n16 := k5_ne K c15
  intro x18 e17
  have h := h x18 e17
  have K := k5_I K e17 n16 (by decide)
  exact kg_X0_begin_28 h K
theorem kg_X0_begin {Q : HS → Prop} {v0 : Nat} {v1 : Int32} {v2 : Int32} {v3 : Int32} {S : HS} (h : P_X0_begin v0 v1 v2 v3 Q S) : P_X0_begin v0 v1 v2 v3 (fun T => Q T ∧ K5 S T) S := kg_X0_begin_0 h (k5_rf S)
set_option maxRecDepth 20000 in
set_option maxHeartbeats 1000000 in
theorem kg_X0_draw_60 {Q : HS → Prop} {X10 X10_2 : Nat → Nat → Int32 → Int32 → HS → Prop} {v0 : Nat} {v1 : Nat} {v3 : Int32} {v4 : Int32} {S0 S : HS} (h : P_X0_draw_60 Q X10 v0 v1 v3 v4 S) (K : K5 S0 S) (hX10 : ∀ (u0 : Nat) (u1 : Nat) (u2 : Int32) (u3 : Int32) (u4 : HS), X10 u0 u1 u2 u3 u4 → K5 S0 u4 → X10_2 u0 u1 u2 u3 u4) : P_X0_draw_60 (fun T => Q T ∧ K5 S0 T) X10_2 v0 v1 v3 v4 S := by
  delta P_X0_draw_60 at h ⊢
  intro x2 e1
  have h := h x2 e1
  exact hX10 _ _ _ _ _ h K
set_option maxRecDepth 20000 in
set_option maxHeartbeats 1000000 in
theorem kgB_X0_draw_10 {Q : HS → Prop} {X10 X10_2 : Nat → Nat → Int32 → Int32 → HS → Prop} {v0 : Nat} {v1 : Nat} {v3 : Int32} {v4 : Int32} {S0 S : HS} (h : B_X0_draw_10 Q X10 v0 v1 v3 v4 S) (K : K5 S0 S) (hX10 : ∀ (u0 : Nat) (u1 : Nat) (u2 : Int32) (u3 : Int32) (u4 : HS), X10 u0 u1 u2 u3 u4 → K5 S0 u4 → X10_2 u0 u1 u2 u3 u4) : B_X0_draw_10 (fun T => Q T ∧ K5 S0 T) X10_2 v0 v1 v3 v4 S := by
  delta B_X0_draw_10 at h ⊢
  obtain ⟨c1, h⟩ := h
  refine ⟨c1, ?_⟩
  have n2 := k5_ne K c1
  intro x4 e3
  have h := h x4 e3
  refine ⟨?_, ?_⟩
  · intro c5
    have h := h.1 c5
    exact ⟨h, K⟩
  · intro c6
    have h := h.2 c6
    intro x8 e7
    have h := h x8 e7
    intro x10 e9
    have h := h x10 e9
    obtain ⟨b11, e12, h⟩ := h
    refine ⟨b11, e12, ?_⟩
    obtain ⟨c13, h⟩ := h
    refine ⟨c13, ?_⟩
    have n14 := k5_ne K c13
    obtain ⟨c15, h⟩ := h
    refine ⟨c15, ?_⟩
    obtain ⟨b16, e17, h⟩ := h
    refine ⟨b16, e17, ?_⟩
    obtain ⟨c18, h⟩ := h
    refine ⟨c18, ?_⟩
    have n19 := k5_ne K c18
    intro x21 e20
    have h := h x21 e20
    refine ⟨?_, ?_⟩
    · intro c22
      have h := h.1 c22
      exact kg_X0_draw_60 h K hX10
    · intro c23
      have h := h.2 c23
      obtain ⟨c24, h⟩ := h
      refine ⟨c24, ?_⟩
      have n25 := k5_ne K c24
      intro x27 e26
      have h := h x27 e26
      intro x29 e28
      have h := h x29 e28
      intro x31 e30
      have h := h x31 e30
      have K := k5_I K e30 n25 (by decide)
      exact kg_X0_draw_60 h K hX10
theorem kg_X0_draw_10 {Q : HS → Prop} {v0 : Nat} {v1 : Nat} {v3 : Int32} {v4 : Int32} {S0 S : HS} (h : P_X0_draw_10 Q v0 v1 v3 v4 S) (K : K5 S0 S) : P_X0_draw_10 (fun T => Q T ∧ K5 S0 T) v0 v1 v3 v4 S := h (fun v0 v1 v3 v4 S => K5 S0 S → P_X0_draw_10 (fun T => Q T ∧ K5 S0 T) v0 v1 v3 v4 S) (fun v0 v1 v3 v4 S hB K => fd_X0_draw_10 (kgB_X0_draw_10 hB K (fun _ _ _ _ _ hx K => hx K))) K
set_option maxRecDepth 20000 in
set_option maxHeartbeats 1000000 in
theorem kg_X0_draw_0 {Q : HS → Prop} {v0 : Nat} {v1 : Nat} {v2 : Int32} {S0 S : HS} (h : P_X0_draw_0 Q v0 v1 v2 S) (K : K5 S0 S) : P_X0_draw_0 (fun T => Q T ∧ K5 S0 T) v0 v1 v2 S := by
  delta P_X0_draw_0 at h ⊢
  obtain ⟨c1, h⟩ := h
  refine ⟨c1, ?_⟩
  have n2 := k5_ne K c1
  intro x4 e3
  have h := h x4 e3
  have K := k5_I K e3 n2 (by decide)
  exact kg_X0_draw_10 h K
theorem kg_X0_draw {Q : HS → Prop} {v0 : Nat} {v1 : Nat} {v2 : Int32} {S : HS} (h : P_X0_draw v0 v1 v2 Q S) : P_X0_draw v0 v1 v2 (fun T => Q T ∧ K5 S T) S := kg_X0_draw_0 h (k5_rf S)
set_option maxRecDepth 20000 in
set_option maxHeartbeats 1000000 in
theorem kg_X2_init_0 {Q : HS → Prop} {v0 : Nat} {S0 S : HS} (h : P_X2_init_0 Q v0 S) (K : K5 S0 S) : P_X2_init_0 (fun T => Q T ∧ K5 S0 T) v0 S := by
  delta P_X2_init_0 at h ⊢
  intro x2 e1
  have h := h x2 e1
  intro x4 e3
  have h := h x4 e3
  have K := k5_W K e1 e3
  obtain ⟨c5, h⟩ := h
  refine ⟨c5, ?_⟩
  have n6 := k5_ne K c5
  intro x8 e7
  have h := h x8 e7
  have K := k5_R K e7
  exact ⟨h, K⟩
theorem kg_X2_init {Q : HS → Prop} {v0 : Nat} {S : HS} (h : P_X2_init v0 Q S) : P_X2_init v0 (fun T => Q T ∧ K5 S T) S := kg_X2_init_0 h (k5_rf S)
set_option maxRecDepth 20000 in
set_option maxHeartbeats 1000000 in
theorem kgB_X0_init_69 {Q : HS → Prop} {X69 X69_2 : Nat → Int32 → Nat → Nat → HS → Prop} {v0 : Nat} {v1 : Int32} {kk : Nat} {nn : Nat} {S0 S : HS} (h : B_X0_init_69 Q X69 v0 v1 kk nn S) (K : K5 S0 S) (hX69 : ∀ (u0 : Nat) (u1 : Int32) (u2 : Nat) (u3 : Nat) (u4 : HS), X69 u0 u1 u2 u3 u4 → K5 S0 u4 → X69_2 u0 u1 u2 u3 u4) : B_X0_init_69 (fun T => Q T ∧ K5 S0 T) X69_2 v0 v1 kk nn S := by
  delta B_X0_init_69 at h ⊢
  obtain ⟨c1, h⟩ := h
  refine ⟨c1, ?_⟩
  have n2 := k5_ne K c1
  obtain ⟨b3, e4, h⟩ := h
  refine ⟨b3, e4, ?_⟩
  obtain ⟨c5, h⟩ := h
  refine ⟨c5, ?_⟩
  have n6 := k5_ne K c5
  refine ⟨?_, ?_⟩
  · intro c7
    have h := h.1 c7
    obtain ⟨c8, h⟩ := h
    refine ⟨c8, ?_⟩
    obtain ⟨c9, h⟩ := h
    refine ⟨c9, ?_⟩
    exact ⟨h, K⟩
  · intro c10
    have h := h.2 c10
    obtain ⟨b11, e12, h⟩ := h
    refine ⟨b11, e12, ?_⟩
    obtain ⟨c13, h⟩ := h
    refine ⟨c13, ?_⟩
    obtain ⟨c14, h⟩ := h
    refine ⟨c14, ?_⟩
    intro x16 e15
    have h := h x16 e15
    intro x18 e17
    have h := h x18 e17
    have K := k5_W K e15 e17
    obtain ⟨c19, h⟩ := h
    refine ⟨c19, ?_⟩
    obtain ⟨c20, h⟩ := h
    refine ⟨c20, ?_⟩
    refine cm_X2_init (kg_X2_init h) h (fun x21 hp h g22 => ?_)
    have h := h g22
    have K := k5_tr K hp.2
    obtain ⟨c23, h⟩ := h
    refine ⟨c23, ?_⟩
    have n24 := k5_ne K c23
    obtain ⟨c25, h⟩ := h
    refine ⟨c25, ?_⟩
    intro x27 e26
    have h := h x27 e26
    have K := k5_R K e26
    intro x29 e28
    have h := h x29 e28
    exact hX69 _ _ _ _ _ h K
theorem kg_X0_init_69 {Q : HS → Prop} {v0 : Nat} {v1 : Int32} {kk : Nat} {nn : Nat} {S0 S : HS} (h : P_X0_init_69 Q v0 v1 kk nn S) (K : K5 S0 S) : P_X0_init_69 (fun T => Q T ∧ K5 S0 T) v0 v1 kk nn S := h (fun v0 v1 kk nn S => K5 S0 S → P_X0_init_69 (fun T => Q T ∧ K5 S0 T) v0 v1 kk nn S) (fun v0 v1 kk nn S hB K => fd_X0_init_69 (kgB_X0_init_69 hB K (fun _ _ _ _ _ hx K => hx K))) K
set_option maxRecDepth 20000 in
set_option maxHeartbeats 1000000 in
theorem kgB_X0_init_39 {Q : HS → Prop} {X39 X39_2 : Nat → Int32 → Nat → Nat → HS → Prop} {v0 : Nat} {v1 : Int32} {kk : Nat} {nn : Nat} {S0 S : HS} (h : B_X0_init_39 Q X39 v0 v1 kk nn S) (K : K5 S0 S) (hX39 : ∀ (u0 : Nat) (u1 : Int32) (u2 : Nat) (u3 : Nat) (u4 : HS), X39 u0 u1 u2 u3 u4 → K5 S0 u4 → X39_2 u0 u1 u2 u3 u4) : B_X0_init_39 (fun T => Q T ∧ K5 S0 T) X39_2 v0 v1 kk nn S := by
  delta B_X0_init_39 at h ⊢
  obtain ⟨c1, h⟩ := h
  refine ⟨c1, ?_⟩
  have n2 := k5_ne K c1
  obtain ⟨b3, e4, h⟩ := h
  refine ⟨b3, e4, ?_⟩
  obtain ⟨c5, h⟩ := h
  refine ⟨c5, ?_⟩
  have n6 := k5_ne K c5
  refine ⟨?_, ?_⟩
  · intro c7
    have h := h.1 c7
    exact kg_X0_init_69 h K
  · intro c8
    have h := h.2 c8
    obtain ⟨b9, e10, h⟩ := h
    refine ⟨b9, e10, ?_⟩
    obtain ⟨c11, h⟩ := h
    refine ⟨c11, ?_⟩
    obtain ⟨c12, h⟩ := h
    refine ⟨c12, ?_⟩
    intro x14 e13
    have h := h x14 e13
    intro x16 e15
    have h := h x16 e15
    have K := k5_W K e13 e15
    obtain ⟨c17, h⟩ := h
    refine ⟨c17, ?_⟩
    obtain ⟨c18, h⟩ := h
    refine ⟨c18, ?_⟩
    refine cm_X2_init (kg_X2_init h) h (fun x19 hp h g20 => ?_)
    have h := h g20
    have K := k5_tr K hp.2
    obtain ⟨c21, h⟩ := h
    refine ⟨c21, ?_⟩
    have n22 := k5_ne K c21
    obtain ⟨c23, h⟩ := h
    refine ⟨c23, ?_⟩
    intro x25 e24
    have h := h x25 e24
    have K := k5_R K e24
    intro x27 e26
    have h := h x27 e26
    exact hX39 _ _ _ _ _ h K
theorem kg_X0_init_39 {Q : HS → Prop} {v0 : Nat} {v1 : Int32} {kk : Nat} {nn : Nat} {S0 S : HS} (h : P_X0_init_39 Q v0 v1 kk nn S) (K : K5 S0 S) : P_X0_init_39 (fun T => Q T ∧ K5 S0 T) v0 v1 kk nn S := h (fun v0 v1 kk nn S => K5 S0 S → P_X0_init_39 (fun T => Q T ∧ K5 S0 T) v0 v1 kk nn S) (fun v0 v1 kk nn S hB K => fd_X0_init_39 (kgB_X0_init_39 hB K (fun _ _ _ _ _ hx K => hx K))) K
set_option maxRecDepth 20000 in
set_option maxHeartbeats 1000000 in
theorem kg_X0_init_0 {Q : HS → Prop} {v0 : Nat} {kk : Nat} {nn : Nat} {S0 S : HS} (h : P_X0_init_0 Q v0 kk nn S) (K : K5 S0 S) : P_X0_init_0 (fun T => Q T ∧ K5 S0 T) v0 kk nn S := by
  delta P_X0_init_0 at h ⊢
  obtain ⟨c1, h⟩ := h
  refine ⟨c1, ?_⟩
  have n2 := k5_ne K c1
  intro x4 e3
  have h := h x4 e3
  have K := k5_I K e3 n2 (by decide)
  obtain ⟨c5, h⟩ := h
  refine ⟨c5, ?_⟩
  obtain ⟨c6, h⟩ := h
  refine ⟨c6, ?_⟩
  intro x8 e7
  have h := h x8 e7
  intro x10 e9
  have h := h x10 e9
  have K := k5_W K e7 e9
  obtain ⟨c11, h⟩ := h
  refine ⟨c11, ?_⟩
  obtain ⟨c12, h⟩ := h
  refine ⟨c12, ?_⟩
  refine cm_X2_init (kg_X2_init h) h (fun x13 hp h g14 => ?_)
  have h := h g14
  have K := k5_tr K hp.2
  intro x16 e15
  have h := h x16 e15
  have K := k5_R K e15
  obtain ⟨c17, h⟩ := h
  refine ⟨c17, ?_⟩
  obtain ⟨c18, h⟩ := h
  refine ⟨c18, ?_⟩
  intro x20 e19
  have h := h x20 e19
  intro x22 e21
  have h := h x22 e21
  have K := k5_W K e19 e21
  intro x24 e23
  have h := h x24 e23
  have K := k5_R K e23
  obtain ⟨c25, h⟩ := h
  refine ⟨c25, ?_⟩
  obtain ⟨c26, h⟩ := h
  refine ⟨c26, ?_⟩
  intro x28 e27
  have h := h x28 e27
  intro x30 e29
  have h := h x30 e29
  have K := k5_W K e27 e29
  intro x32 e31
  have h := h x32 e31
  have K := k5_R K e31
  exact kg_X0_init_39 h K
theorem kg_X0_init {Q : HS → Prop} {v0 : Nat} {S : HS} (h : P_X0_init v0 Q S) : P_X0_init v0 (fun T => Q T ∧ K5 S T) S := kg_X0_init_0 h (k5_rf S)
set_option maxRecDepth 20000 in
set_option maxHeartbeats 1000000 in
theorem kg_X0_isOn_0 {Q : Int32 → HS → Prop} {v0 : Nat} {S0 S : HS} (h : P_X0_isOn_0 Q v0 S) (K : K5 S0 S) : P_X0_isOn_0 (fun r T => Q r T ∧ K5 S0 T) v0 S := by
  delta P_X0_isOn_0 at h ⊢
  obtain ⟨c1, h⟩ := h
  refine ⟨c1, ?_⟩
  have n2 := k5_ne K c1
  intro x4 e3
  have h := h x4 e3
  refine ⟨?_, ?_⟩
  · intro c5
    have h := h.1 c5
    exact ⟨h, K⟩
  · intro c6
    have h := h.2 c6
    exact ⟨h, K⟩
theorem kg_X0_isOn {Q : Int32 → HS → Prop} {v0 : Nat} {S : HS} (h : P_X0_isOn v0 Q S) : P_X0_isOn v0 (fun r T => Q r T ∧ K5 S T) S := kg_X0_isOn_0 h (k5_rf S)
set_option maxRecDepth 20000 in
set_option maxHeartbeats 1000000 in
theorem kgB_X2_copy_18 {Q : HS → Prop} {X18 X18_2 : Nat → Nat → Int32 → HS → Prop} {v0 : Nat} {v1 : Nat} {v2 : Int32} {S0 S : HS} (h : B_X2_copy_18 Q X18 v0 v1 v2 S) (K : K5 S0 S) (hX18 : ∀ (u0 : Nat) (u1 : Nat) (u2 : Int32) (u3 : HS), X18 u0 u1 u2 u3 → K5 S0 u3 → X18_2 u0 u1 u2 u3) : B_X2_copy_18 (fun T => Q T ∧ K5 S0 T) X18_2 v0 v1 v2 S := by
  delta B_X2_copy_18 at h ⊢
  refine ⟨?_, ?_⟩
  · intro c1
    have h := h.1 c1
    exact ⟨h, K⟩
  · intro c2
    have h := h.2 c2
    obtain ⟨c3, h⟩ := h
    refine ⟨c3, ?_⟩
    have n4 := k5_ne K c3
    obtain ⟨b5, e6, h⟩ := h
    refine ⟨b5, e6, ?_⟩
    obtain ⟨c7, h⟩ := h
    refine ⟨c7, ?_⟩
    have n8 := k5_ne K c7
    obtain ⟨b9, e10, h⟩ := h
    refine ⟨b9, e10, ?_⟩
    obtain ⟨c11, h⟩ := h
    refine ⟨c11, ?_⟩
    have n12 := k5_ne K c11
    obtain ⟨c13, h⟩ := h
    refine ⟨c13, ?_⟩
    intro x15 e14
    have h := h x15 e14
    obtain ⟨c16, h⟩ := h
    refine ⟨c16, ?_⟩
    have n17 := k5_ne K c16
    obtain ⟨c18, h⟩ := h
    refine ⟨c18, ?_⟩
    intro x20 e19
    have h := h x20 e19
    have K := k5_J K e19
    intro x22 e21
    have h := h x22 e21
    exact hX18 _ _ _ _ h K
theorem kg_X2_copy_18 {Q : HS → Prop} {v0 : Nat} {v1 : Nat} {v2 : Int32} {S0 S : HS} (h : P_X2_copy_18 Q v0 v1 v2 S) (K : K5 S0 S) : P_X2_copy_18 (fun T => Q T ∧ K5 S0 T) v0 v1 v2 S := h (fun v0 v1 v2 S => K5 S0 S → P_X2_copy_18 (fun T => Q T ∧ K5 S0 T) v0 v1 v2 S) (fun v0 v1 v2 S hB K => fd_X2_copy_18 (kgB_X2_copy_18 hB K (fun _ _ _ _ hx K => hx K))) K
set_option maxRecDepth 20000 in
set_option maxHeartbeats 1000000 in
theorem kg_X2_copy_0 {Q : HS → Prop} {v0 : Nat} {v1 : Nat} {S0 S : HS} (h : P_X2_copy_0 Q v0 v1 S) (K : K5 S0 S) : P_X2_copy_0 (fun T => Q T ∧ K5 S0 T) v0 v1 S := by
  delta P_X2_copy_0 at h ⊢
  obtain ⟨c1, h⟩ := h
  refine ⟨c1, ?_⟩
  have n2 := k5_ne K c1
  intro x4 e3
  have h := h x4 e3
  obtain ⟨c5, h⟩ := h
  refine ⟨c5, ?_⟩
  have n6 := k5_ne K c5
  intro x8 e7
  have h := h x8 e7
  have K := k5_I K e7 n6 (by decide)
  intro x10 e9
  have h := h x10 e9
  intro x12 e11
  have h := h x12 e11
  have K := k5_I K e11 n6 (by decide)
  exact kg_X2_copy_18 h K
theorem kg_X2_copy {Q : HS → Prop} {v0 : Nat} {v1 : Nat} {S : HS} (h : P_X2_copy v0 v1 Q S) : P_X2_copy v0 v1 (fun T => Q T ∧ K5 S T) S := kg_X2_copy_0 h (k5_rf S)
set_option maxRecDepth 20000 in
set_option maxHeartbeats 1000000 in
theorem kg_X0_keepForUndo_58 {Q : HS → Prop} {v0 : Nat} {S0 S : HS} (h : P_X0_keepForUndo_58 Q v0 S) (K : K5 S0 S) : P_X0_keepForUndo_58 (fun T => Q T ∧ K5 S0 T) v0 S := by
  delta P_X0_keepForUndo_58 at h ⊢
  obtain ⟨c1, h⟩ := h
  refine ⟨c1, ?_⟩
  have n2 := k5_ne K c1
  obtain ⟨b3, e4, h⟩ := h
  refine ⟨b3, e4, ?_⟩
  intro x6 e5
  have h := h x6 e5
  obtain ⟨c7, h⟩ := h
  refine ⟨c7, ?_⟩
  have n8 := k5_ne K c7
  obtain ⟨c9, h⟩ := h
  refine ⟨c9, ?_⟩
  obtain ⟨b10, e11, h⟩ := h
  refine ⟨b10, e11, ?_⟩
  obtain ⟨b12, e13, h⟩ := h
  refine ⟨b12, e13, ?_⟩
  obtain ⟨c14, h⟩ := h
  refine ⟨c14, ?_⟩
  have n15 := k5_ne K c14
  refine cm_X2_copy (kg_X2_copy h) h (fun x16 hp h g17 => ?_)
  have h := h g17
  have K := k5_tr K hp.2
  intro x19 e18
  have h := h x19 e18
  intro x21 e20
  have h := h x21 e20
  intro x23 e22
  have h := h x23 e22
  have K := k5_I K e22 n2 (by decide)
  exact ⟨h, K⟩
set_option maxRecDepth 20000 in
set_option maxHeartbeats 1000000 in
theorem kgB_X0_keepForUndo_18 {Q : HS → Prop} {X18 X18_2 : Nat → Nat → Int32 → HS → Prop} {v0 : Nat} {v1 : Nat} {v2 : Int32} {S0 S : HS} (h : B_X0_keepForUndo_18 Q X18 v0 v1 v2 S) (K : K5 S0 S) (hX18 : ∀ (u0 : Nat) (u1 : Nat) (u2 : Int32) (u3 : HS), X18 u0 u1 u2 u3 → K5 S0 u3 → X18_2 u0 u1 u2 u3) : B_X0_keepForUndo_18 (fun T => Q T ∧ K5 S0 T) X18_2 v0 v1 v2 S := by
  delta B_X0_keepForUndo_18 at h ⊢
  refine ⟨?_, ?_⟩
  · intro c1
    have h := h.1 c1
    obtain ⟨c2, h⟩ := h
    refine ⟨c2, ?_⟩
    have n3 := k5_ne K c2
    obtain ⟨b4, e5, h⟩ := h
    refine ⟨b4, e5, ?_⟩
    obtain ⟨c6, h⟩ := h
    refine ⟨c6, ?_⟩
    have n7 := k5_ne K c6
    obtain ⟨c8, h⟩ := h
    refine ⟨c8, ?_⟩
    have n9 := k5_ne K c8
    obtain ⟨c10, h⟩ := h
    refine ⟨c10, ?_⟩
    intro x12 e11
    have h := h x12 e11
    have K := k5_R K e11
    intro x14 e13
    have h := h x14 e13
    have K := k5_I K e13 n3 (by decide)
    exact kg_X0_keepForUndo_58 h K
  · intro c15
    have h := h.2 c15
    obtain ⟨c16, h⟩ := h
    refine ⟨c16, ?_⟩
    have n17 := k5_ne K c16
    obtain ⟨b18, e19, h⟩ := h
    refine ⟨b18, e19, ?_⟩
    obtain ⟨b20, e21, h⟩ := h
    refine ⟨b20, e21, ?_⟩
    obtain ⟨c22, h⟩ := h
    refine ⟨c22, ?_⟩
    have n23 := k5_ne K c22
    obtain ⟨c24, h⟩ := h
    refine ⟨c24, ?_⟩
    obtain ⟨b25, e26, h⟩ := h
    refine ⟨b25, e26, ?_⟩
    obtain ⟨c27, h⟩ := h
    refine ⟨c27, ?_⟩
    have n28 := k5_ne K c27
    obtain ⟨c29, h⟩ := h
    refine ⟨c29, ?_⟩
    have n30 := k5_ne K c29
    obtain ⟨c31, h⟩ := h
    refine ⟨c31, ?_⟩
    intro x33 e32
    have h := h x33 e32
    have K := k5_R K e32
    intro x35 e34
    have h := h x35 e34
    exact hX18 _ _ _ _ h K
theorem kg_X0_keepForUndo_18 {Q : HS → Prop} {v0 : Nat} {v1 : Nat} {v2 : Int32} {S0 S : HS} (h : P_X0_keepForUndo_18 Q v0 v1 v2 S) (K : K5 S0 S) : P_X0_keepForUndo_18 (fun T => Q T ∧ K5 S0 T) v0 v1 v2 S := h (fun v0 v1 v2 S => K5 S0 S → P_X0_keepForUndo_18 (fun T => Q T ∧ K5 S0 T) v0 v1 v2 S) (fun v0 v1 v2 S hB K => fd_X0_keepForUndo_18 (kgB_X0_keepForUndo_18 hB K (fun _ _ _ _ hx K => hx K))) K
set_option maxRecDepth 20000 in
set_option maxHeartbeats 1000000 in
theorem kg_X0_keepForUndo_0 {Q : HS → Prop} {v0 : Nat} {S0 S : HS} (h : P_X0_keepForUndo_0 Q v0 S) (K : K5 S0 S) : P_X0_keepForUndo_0 (fun T => Q T ∧ K5 S0 T) v0 S := by
  delta P_X0_keepForUndo_0 at h ⊢
  obtain ⟨c1, h⟩ := h
  refine ⟨c1, ?_⟩
  have n2 := k5_ne K c1
  intro x4 e3
  have h := h x4 e3
  refine ⟨?_, ?_⟩
  · intro c5
    have h := h.1 c5
    exact kg_X0_keepForUndo_58 h K
  · intro c6
    have h := h.2 c6
    obtain ⟨b7, e8, h⟩ := h
    refine ⟨b7, e8, ?_⟩
    obtain ⟨c9, h⟩ := h
    refine ⟨c9, ?_⟩
    have n10 := k5_ne K c9
    obtain ⟨c11, h⟩ := h
    refine ⟨c11, ?_⟩
    obtain ⟨b12, e13, h⟩ := h
    refine ⟨b12, e13, ?_⟩
    exact kg_X0_keepForUndo_18 h K
theorem kg_X0_keepForUndo {Q : HS → Prop} {v0 : Nat} {S : HS} (h : P_X0_keepForUndo v0 Q S) : P_X0_keepForUndo v0 (fun T => Q T ∧ K5 S T) S := kg_X0_keepForUndo_0 h (k5_rf S)
set_option maxRecDepth 20000 in
set_option maxHeartbeats 1000000 in
theorem kg_X0_rainsIn_0 {Q : Int32 → HS → Prop} {v0 : Nat} {v1 : Int32} {S0 S : HS} (h : P_X0_rainsIn_0 Q v0 v1 S) (K : K5 S0 S) : P_X0_rainsIn_0 (fun r T => Q r T ∧ K5 S0 T) v0 v1 S := by
  delta P_X0_rainsIn_0 at h ⊢
  refine ⟨?_, ?_⟩
  · intro c1
    have h := h.1 c1
    exact ⟨h, K⟩
  · intro c2
    have h := h.2 c2
    refine ⟨?_, ?_⟩
    · intro c3
      have h := h.1 c3
      exact ⟨h, K⟩
    · intro c4
      have h := h.2 c4
      obtain ⟨c5, h⟩ := h
      refine ⟨c5, ?_⟩
      have n6 := k5_ne K c5
      intro x8 e7
      have h := h x8 e7
      refine ⟨?_, ?_⟩
      · intro c9
        have h := h.1 c9
        exact ⟨h, K⟩
      · intro c10
        have h := h.2 c10
        exact ⟨h, K⟩
theorem kg_X0_rainsIn {Q : Int32 → HS → Prop} {v0 : Nat} {v1 : Int32} {S : HS} (h : P_X0_rainsIn v0 v1 Q S) : P_X0_rainsIn v0 v1 (fun r T => Q r T ∧ K5 S T) S := kg_X0_rainsIn_0 h (k5_rf S)
set_option maxRecDepth 20000 in
set_option maxHeartbeats 1000000 in
theorem kg_X0_returnTo_0 {Q : Int32 → HS → Prop} {v0 : Nat} {v1 : Int32} {S0 S : HS} (h : P_X0_returnTo_0 Q v0 v1 S) (K : K5 S0 S) : P_X0_returnTo_0 (fun r T => Q r T ∧ K5 S0 T) v0 v1 S := by
  delta P_X0_returnTo_0 at h ⊢
  refine ⟨?_, ?_⟩
  · intro c1
    have h := h.1 c1
    exact ⟨h, K⟩
  · intro c2
    have h := h.2 c2
    obtain ⟨c3, h⟩ := h
    refine ⟨c3, ?_⟩
    have n4 := k5_ne K c3
    intro x6 e5
    have h := h x6 e5
    refine ⟨?_, ?_⟩
    · intro c7
      have h := h.1 c7
      obtain ⟨b8, e9, h⟩ := h
      refine ⟨b8, e9, ?_⟩
      obtain ⟨b10, e11, h⟩ := h
      refine ⟨b10, e11, ?_⟩
      obtain ⟨c12, h⟩ := h
      refine ⟨c12, ?_⟩
      have n13 := k5_ne K c12
      obtain ⟨c14, h⟩ := h
      refine ⟨c14, ?_⟩
      obtain ⟨b15, e16, h⟩ := h
      refine ⟨b15, e16, ?_⟩
      obtain ⟨c17, h⟩ := h
      refine ⟨c17, ?_⟩
      have n18 := k5_ne K c17
      refine cm_X2_copy (kg_X2_copy h) h (fun x19 hp h g20 => ?_)
      have h := h g20
      have K := k5_tr K hp.2
      intro x22 e21
      have h := h x22 e21
      have K := k5_I K e21 n4 (by decide)
      exact ⟨h, K⟩
    · intro c23
      have h := h.2 c23
      exact ⟨h, K⟩
theorem kg_X0_returnTo {Q : Int32 → HS → Prop} {v0 : Nat} {v1 : Int32} {S : HS} (h : P_X0_returnTo v0 v1 Q S) : P_X0_returnTo v0 v1 (fun r T => Q r T ∧ K5 S T) S := kg_X0_returnTo_0 h (k5_rf S)
set_option maxRecDepth 20000 in
set_option maxHeartbeats 1000000 in
theorem kg_X0_setMark_0 {Q : Int32 → HS → Prop} {v0 : Nat} {S0 S : HS} (h : P_X0_setMark_0 Q v0 S) (K : K5 S0 S) : P_X0_setMark_0 (fun r T => Q r T ∧ K5 S0 T) v0 S := by
  delta P_X0_setMark_0 at h ⊢
  obtain ⟨c1, h⟩ := h
  refine ⟨c1, ?_⟩
  have n2 := k5_ne K c1
  intro x4 e3
  have h := h x4 e3
  refine ⟨?_, ?_⟩
  · intro c5
    have h := h.1 c5
    obtain ⟨b6, e7, h⟩ := h
    refine ⟨b6, e7, ?_⟩
    intro x9 e8
    have h := h x9 e8
    obtain ⟨c10, h⟩ := h
    refine ⟨c10, ?_⟩
    have n11 := k5_ne K c10
    obtain ⟨c12, h⟩ := h
    refine ⟨c12, ?_⟩
    obtain ⟨b13, e14, h⟩ := h
    refine ⟨b13, e14, ?_⟩
    obtain ⟨b15, e16, h⟩ := h
    refine ⟨b15, e16, ?_⟩
    obtain ⟨c17, h⟩ := h
    refine ⟨c17, ?_⟩
    have n18 := k5_ne K c17
    refine cm_X2_copy (kg_X2_copy h) h (fun x19 hp h g20 => ?_)
    have h := h g20
    have K := k5_tr K hp.2
    intro x22 e21
    have h := h x22 e21
    intro x24 e23
    have h := h x24 e23
    intro x26 e25
    have h := h x26 e25
    have K := k5_I K e25 n2 (by decide)
    intro x28 e27
    have h := h x28 e27
    exact ⟨h, K⟩
  · intro c29
    have h := h.2 c29
    exact ⟨h, K⟩
theorem kg_X0_setMark {Q : Int32 → HS → Prop} {v0 : Nat} {S : HS} (h : P_X0_setMark v0 Q S) : P_X0_setMark v0 (fun r T => Q r T ∧ K5 S T) S := kg_X0_setMark_0 h (k5_rf S)
set_option maxRecDepth 20000 in
set_option maxHeartbeats 1000000 in
theorem kg_X0_takeBack_0 {Q : Int32 → HS → Prop} {v0 : Nat} {S0 S : HS} (h : P_X0_takeBack_0 Q v0 S) (K : K5 S0 S) : P_X0_takeBack_0 (fun r T => Q r T ∧ K5 S0 T) v0 S := by
  delta P_X0_takeBack_0 at h ⊢
  obtain ⟨c1, h⟩ := h
  refine ⟨c1, ?_⟩
  have n2 := k5_ne K c1
  intro x4 e3
  have h := h x4 e3
  refine ⟨?_, ?_⟩
  · intro c5
    have h := h.1 c5
    intro x7 e6
    have h := h x7 e6
    intro x9 e8
    have h := h x9 e8
    intro x11 e10
    have h := h x11 e10
    have K := k5_I K e10 n2 (by decide)
    obtain ⟨b12, e13, h⟩ := h
    refine ⟨b12, e13, ?_⟩
    obtain ⟨b14, e15, h⟩ := h
    refine ⟨b14, e15, ?_⟩
    intro x17 e16
    have h := h x17 e16
    obtain ⟨c18, h⟩ := h
    refine ⟨c18, ?_⟩
    have n19 := k5_ne K c18
    obtain ⟨c20, h⟩ := h
    refine ⟨c20, ?_⟩
    obtain ⟨b21, e22, h⟩ := h
    refine ⟨b21, e22, ?_⟩
    obtain ⟨c23, h⟩ := h
    refine ⟨c23, ?_⟩
    have n24 := k5_ne K c23
    refine cm_X2_copy (kg_X2_copy h) h (fun x25 hp h g26 => ?_)
    have h := h g26
    have K := k5_tr K hp.2
    exact ⟨h, K⟩
  · intro c27
    have h := h.2 c27
    exact ⟨h, K⟩
theorem kg_X0_takeBack {Q : Int32 → HS → Prop} {v0 : Nat} {S : HS} (h : P_X0_takeBack v0 Q S) : P_X0_takeBack v0 (fun r T => Q r T ∧ K5 S T) S := kg_X0_takeBack_0 h (k5_rf S)
set_option maxRecDepth 20000 in
set_option maxHeartbeats 1000000 in
theorem kg_X10_facing_0 {Q : Int32 → HS → Prop} {v0 : Nat} {v1 : Int32} {v2 : Int32} {S0 S : HS} (h : P_X10_facing_0 Q v0 v1 v2 S) (K : K5 S0 S) : P_X10_facing_0 (fun r T => Q r T ∧ K5 S0 T) v0 v1 v2 S := by
  delta P_X10_facing_0 at h ⊢
  refine ⟨?_, ?_⟩
  · intro c1
    have h := h.1 c1
    obtain ⟨c2, h⟩ := h
    refine ⟨c2, ?_⟩
    have n3 := k5_ne K c2
    obtain ⟨b4, e5, h⟩ := h
    refine ⟨b4, e5, ?_⟩
    obtain ⟨c6, h⟩ := h
    refine ⟨c6, ?_⟩
    have n7 := k5_ne K c6
    obtain ⟨c8, h⟩ := h
    refine ⟨c8, ?_⟩
    intro x10 e9
    have h := h x10 e9
    exact ⟨h, K⟩
  · intro c11
    have h := h.2 c11
    obtain ⟨c12, h⟩ := h
    refine ⟨c12, ?_⟩
    have n13 := k5_ne K c12
    obtain ⟨b14, e15, h⟩ := h
    refine ⟨b14, e15, ?_⟩
    obtain ⟨c16, h⟩ := h
    refine ⟨c16, ?_⟩
    have n17 := k5_ne K c16
    obtain ⟨c18, h⟩ := h
    refine ⟨c18, ?_⟩
    intro x20 e19
    have h := h x20 e19
    exact ⟨h, K⟩
theorem kg_X10_facing {Q : Int32 → HS → Prop} {v0 : Nat} {v1 : Int32} {v2 : Int32} {S : HS} (h : P_X10_facing v0 v1 v2 Q S) : P_X10_facing v0 v1 v2 (fun r T => Q r T ∧ K5 S T) S := kg_X10_facing_0 h (k5_rf S)
set_option maxRecDepth 20000 in
set_option maxHeartbeats 1000000 in
theorem kg_X10_across_0 {Q : Int32 → HS → Prop} {v0 : Nat} {v1 : Int32} {v2 : Int32} {v3 : Int32} {S0 S : HS} (h : P_X10_across_0 Q v0 v1 v2 v3 S) (K : K5 S0 S) : P_X10_across_0 (fun r T => Q r T ∧ K5 S0 T) v0 v1 v2 v3 S := by
  delta P_X10_across_0 at h ⊢
  obtain ⟨c1, h⟩ := h
  refine ⟨c1, ?_⟩
  have n2 := k5_ne K c1
  obtain ⟨b3, e4, h⟩ := h
  refine ⟨b3, e4, ?_⟩
  obtain ⟨c5, h⟩ := h
  refine ⟨c5, ?_⟩
  have n6 := k5_ne K c5
  obtain ⟨c7, h⟩ := h
  refine ⟨c7, ?_⟩
  intro x9 e8
  have h := h x9 e8
  refine cm_X10_facing (kg_X10_facing h) h (fun x10 x11 hp h g12 => ?_)
  have h := h g12
  have K := k5_tr K hp.2
  intro x14 e13
  have h := h x14 e13
  refine ⟨?_, ?_⟩
  · intro c15
    have h := h.1 c15
    refine ⟨?_, ?_⟩
    · intro c16
      have h := h.1 c16
      exact ⟨h, K⟩
    · intro c17
      have h := h.2 c17
      obtain ⟨b18, e19, h⟩ := h
      refine ⟨b18, e19, ?_⟩
      obtain ⟨c20, h⟩ := h
      refine ⟨c20, ?_⟩
      have n21 := k5_ne K c20
      obtain ⟨c22, h⟩ := h
      refine ⟨c22, ?_⟩
      intro x24 e23
      have h := h x24 e23
      exact ⟨h, K⟩
  · intro c25
    have h := h.2 c25
    obtain ⟨b26, e27, h⟩ := h
    refine ⟨b26, e27, ?_⟩
    obtain ⟨c28, h⟩ := h
    refine ⟨c28, ?_⟩
    have n29 := k5_ne K c28
    obtain ⟨c30, h⟩ := h
    refine ⟨c30, ?_⟩
    intro x32 e31
    have h := h x32 e31
    exact ⟨h, K⟩
theorem kg_X10_across {Q : Int32 → HS → Prop} {v0 : Nat} {v1 : Int32} {v2 : Int32} {v3 : Int32} {S : HS} (h : P_X10_across v0 v1 v2 v3 Q S) : P_X10_across v0 v1 v2 v3 (fun r T => Q r T ∧ K5 S T) S := kg_X10_across_0 h (k5_rf S)
set_option maxRecDepth 20000 in
set_option maxHeartbeats 1000000 in
theorem kg_X10_air_0 {Q : Int32 → HS → Prop} {v0 : Nat} {v1 : Int32} {v2 : Int32} {v3 : Int32} {S0 S : HS} (h : P_X10_air_0 Q v0 v1 v2 v3 S) (K : K5 S0 S) : P_X10_air_0 (fun r T => Q r T ∧ K5 S0 T) v0 v1 v2 v3 S := by
  delta P_X10_air_0 at h ⊢
  obtain ⟨c1, h⟩ := h
  refine ⟨c1, ?_⟩
  have n2 := k5_ne K c1
  obtain ⟨b3, e4, h⟩ := h
  refine ⟨b3, e4, ?_⟩
  obtain ⟨c5, h⟩ := h
  refine ⟨c5, ?_⟩
  have n6 := k5_ne K c5
  obtain ⟨c7, h⟩ := h
  refine ⟨c7, ?_⟩
  intro x9 e8
  have h := h x9 e8
  refine cm_X10_facing (kg_X10_facing h) h (fun x10 x11 hp h g12 => ?_)
  have h := h g12
  have K := k5_tr K hp.2
  intro x14 e13
  have h := h x14 e13
  refine ⟨?_, ?_⟩
  · intro c15
    have h := h.1 c15
    refine ⟨?_, ?_⟩
    · intro c16
      have h := h.1 c16
      exact ⟨h, K⟩
    · intro c17
      have h := h.2 c17
      obtain ⟨b18, e19, h⟩ := h
      refine ⟨b18, e19, ?_⟩
      obtain ⟨c20, h⟩ := h
      refine ⟨c20, ?_⟩
      have n21 := k5_ne K c20
      obtain ⟨c22, h⟩ := h
      refine ⟨c22, ?_⟩
      intro x24 e23
      have h := h x24 e23
      exact ⟨h, K⟩
  · intro c25
    have h := h.2 c25
    obtain ⟨b26, e27, h⟩ := h
    refine ⟨b26, e27, ?_⟩
    obtain ⟨c28, h⟩ := h
    refine ⟨c28, ?_⟩
    have n29 := k5_ne K c28
    obtain ⟨c30, h⟩ := h
    refine ⟨c30, ?_⟩
    intro x32 e31
    have h := h x32 e31
    exact ⟨h, K⟩
theorem kg_X10_air {Q : Int32 → HS → Prop} {v0 : Nat} {v1 : Int32} {v2 : Int32} {v3 : Int32} {S : HS} (h : P_X10_air v0 v1 v2 v3 Q S) : P_X10_air v0 v1 v2 v3 (fun r T => Q r T ∧ K5 S T) S := kg_X10_air_0 h (k5_rf S)
set_option maxRecDepth 20000 in
set_option maxHeartbeats 1000000 in
theorem kg_X10_begins_0 {Q : Int32 → HS → Prop} {v0 : Nat} {v1 : Int32} {v2 : Int32} {S0 S : HS} (h : P_X10_begins_0 Q v0 v1 v2 S) (K : K5 S0 S) : P_X10_begins_0 (fun r T => Q r T ∧ K5 S0 T) v0 v1 v2 S := by
  delta P_X10_begins_0 at h ⊢
  refine ⟨?_, ?_⟩
  · intro c1
    have h := h.1 c1
    obtain ⟨c2, h⟩ := h
    refine ⟨c2, ?_⟩
    have n3 := k5_ne K c2
    obtain ⟨b4, e5, h⟩ := h
    refine ⟨b4, e5, ?_⟩
    obtain ⟨c6, h⟩ := h
    refine ⟨c6, ?_⟩
    have n7 := k5_ne K c6
    obtain ⟨c8, h⟩ := h
    refine ⟨c8, ?_⟩
    intro x10 e9
    have h := h x10 e9
    exact ⟨h, K⟩
  · intro c11
    have h := h.2 c11
    obtain ⟨c12, h⟩ := h
    refine ⟨c12, ?_⟩
    have n13 := k5_ne K c12
    obtain ⟨b14, e15, h⟩ := h
    refine ⟨b14, e15, ?_⟩
    obtain ⟨c16, h⟩ := h
    refine ⟨c16, ?_⟩
    have n17 := k5_ne K c16
    obtain ⟨c18, h⟩ := h
    refine ⟨c18, ?_⟩
    intro x20 e19
    have h := h x20 e19
    exact ⟨h, K⟩
theorem kg_X10_begins {Q : Int32 → HS → Prop} {v0 : Nat} {v1 : Int32} {v2 : Int32} {S : HS} (h : P_X10_begins v0 v1 v2 Q S) : P_X10_begins v0 v1 v2 (fun r T => Q r T ∧ K5 S T) S := kg_X10_begins_0 h (k5_rf S)
set_option maxRecDepth 20000 in
set_option maxHeartbeats 1000000 in
theorem kg_X10_ends_0 {Q : Int32 → HS → Prop} {v0 : Nat} {v1 : Int32} {v2 : Int32} {S0 S : HS} (h : P_X10_ends_0 Q v0 v1 v2 S) (K : K5 S0 S) : P_X10_ends_0 (fun r T => Q r T ∧ K5 S0 T) v0 v1 v2 S := by
  delta P_X10_ends_0 at h ⊢
  refine ⟨?_, ?_⟩
  · intro c1
    have h := h.1 c1
    obtain ⟨c2, h⟩ := h
    refine ⟨c2, ?_⟩
    have n3 := k5_ne K c2
    obtain ⟨b4, e5, h⟩ := h
    refine ⟨b4, e5, ?_⟩
    obtain ⟨c6, h⟩ := h
    refine ⟨c6, ?_⟩
    have n7 := k5_ne K c6
    obtain ⟨c8, h⟩ := h
    refine ⟨c8, ?_⟩
    intro x10 e9
    have h := h x10 e9
    exact ⟨h, K⟩
  · intro c11
    have h := h.2 c11
    obtain ⟨c12, h⟩ := h
    refine ⟨c12, ?_⟩
    have n13 := k5_ne K c12
    obtain ⟨b14, e15, h⟩ := h
    refine ⟨b14, e15, ?_⟩
    obtain ⟨c16, h⟩ := h
    refine ⟨c16, ?_⟩
    have n17 := k5_ne K c16
    obtain ⟨c18, h⟩ := h
    refine ⟨c18, ?_⟩
    intro x20 e19
    have h := h x20 e19
    exact ⟨h, K⟩
theorem kg_X10_ends {Q : Int32 → HS → Prop} {v0 : Nat} {v1 : Int32} {v2 : Int32} {S : HS} (h : P_X10_ends v0 v1 v2 Q S) : P_X10_ends v0 v1 v2 (fun r T => Q r T ∧ K5 S T) S := kg_X10_ends_0 h (k5_rf S)
set_option maxRecDepth 20000 in
set_option maxHeartbeats 1000000 in
theorem kg_X10_minutes_0 {Q : Int32 → HS → Prop} {v0 : Nat} {v1 : Int32} {v2 : Int32} {S0 S : HS} (h : P_X10_minutes_0 Q v0 v1 v2 S) (K : K5 S0 S) : P_X10_minutes_0 (fun r T => Q r T ∧ K5 S0 T) v0 v1 v2 S := by
  delta P_X10_minutes_0 at h ⊢
  obtain ⟨c1, h⟩ := h
  refine ⟨c1, ?_⟩
  have n2 := k5_ne K c1
  obtain ⟨b3, e4, h⟩ := h
  refine ⟨b3, e4, ?_⟩
  obtain ⟨c5, h⟩ := h
  refine ⟨c5, ?_⟩
  have n6 := k5_ne K c5
  obtain ⟨c7, h⟩ := h
  refine ⟨c7, ?_⟩
  intro x9 e8
  have h := h x9 e8
  obtain ⟨c10, h⟩ := h
  refine ⟨c10, ?_⟩
  intro x12 e11
  have h := h x12 e11
  exact ⟨h, K⟩
theorem kg_X10_minutes {Q : Int32 → HS → Prop} {v0 : Nat} {v1 : Int32} {v2 : Int32} {S : HS} (h : P_X10_minutes v0 v1 v2 Q S) : P_X10_minutes v0 v1 v2 (fun r T => Q r T ∧ K5 S T) S := kg_X10_minutes_0 h (k5_rf S)
set_option maxRecDepth 20000 in
set_option maxHeartbeats 1000000 in
theorem kg_X10_shield_0 {Q : Int32 → HS → Prop} {v0 : Nat} {v1 : Int32} {S0 S : HS} (h : P_X10_shield_0 Q v0 v1 S) (K : K5 S0 S) : P_X10_shield_0 (fun r T => Q r T ∧ K5 S0 T) v0 v1 S := by
  delta P_X10_shield_0 at h ⊢
  obtain ⟨c1, h⟩ := h
  refine ⟨c1, ?_⟩
  have n2 := k5_ne K c1
  obtain ⟨b3, e4, h⟩ := h
  refine ⟨b3, e4, ?_⟩
  obtain ⟨c5, h⟩ := h
  refine ⟨c5, ?_⟩
  have n6 := k5_ne K c5
  obtain ⟨c7, h⟩ := h
  refine ⟨c7, ?_⟩
  intro x9 e8
  have h := h x9 e8
  refine ⟨?_, ?_⟩
  · intro c10
    have h := h.1 c10
    exact ⟨h, K⟩
  · intro c11
    have h := h.2 c11
    obtain ⟨b12, e13, h⟩ := h
    refine ⟨b12, e13, ?_⟩
    obtain ⟨c14, h⟩ := h
    refine ⟨c14, ?_⟩
    have n15 := k5_ne K c14
    obtain ⟨c16, h⟩ := h
    refine ⟨c16, ?_⟩
    intro x18 e17
    have h := h x18 e17
    exact ⟨h, K⟩
theorem kg_X10_shield {Q : Int32 → HS → Prop} {v0 : Nat} {v1 : Int32} {S : HS} (h : P_X10_shield v0 v1 Q S) : P_X10_shield v0 v1 (fun r T => Q r T ∧ K5 S T) S := kg_X10_shield_0 h (k5_rf S)
set_option maxRecDepth 20000 in
set_option maxHeartbeats 1000000 in
theorem kg_X11_in_0 {Q : Int32 → HS → Prop} {v0 : Int32} {v1 : Int32} {v2 : Int32} {S0 S : HS} (h : P_X11_in_0 Q v0 v1 v2 S) (K : K5 S0 S) : P_X11_in_0 (fun r T => Q r T ∧ K5 S0 T) v0 v1 v2 S := by
  delta P_X11_in_0 at h ⊢
  refine ⟨?_, ?_⟩
  · intro c1
    have h := h.1 c1
    exact ⟨h, K⟩
  · intro c2
    have h := h.2 c2
    refine ⟨?_, ?_⟩
    · intro c3
      have h := h.1 c3
      exact ⟨h, K⟩
    · intro c4
      have h := h.2 c4
      exact ⟨h, K⟩
theorem kg_X11_in {Q : Int32 → HS → Prop} {v0 : Int32} {v1 : Int32} {v2 : Int32} {S : HS} (h : P_X11_in v0 v1 v2 Q S) : P_X11_in v0 v1 v2 (fun r T => Q r T ∧ K5 S T) S := kg_X11_in_0 h (k5_rf S)
set_option maxRecDepth 20000 in
set_option maxHeartbeats 1000000 in
theorem kg_X11_isHour_0 {Q : Int32 → HS → Prop} {v0 : Nat} {v1 : Int32} {S0 S : HS} (h : P_X11_isHour_0 Q v0 v1 S) (K : K5 S0 S) : P_X11_isHour_0 (fun r T => Q r T ∧ K5 S0 T) v0 v1 S := by
  delta P_X11_isHour_0 at h ⊢
  obtain ⟨c1, h⟩ := h
  refine ⟨c1, ?_⟩
  have n2 := k5_ne K c1
  refine ⟨?_, ?_⟩
  · intro c3
    have h := h.1 c3
    exact ⟨h, K⟩
  · intro x4 c5
    have h := h.2 x4 c5
    refine ⟨?_, ?_⟩
    · intro c6
      have h := h.1 c6
      exact ⟨h, K⟩
    · intro c7
      have h := h.2 c7
      obtain ⟨b8, e9, h⟩ := h
      refine ⟨b8, e9, ?_⟩
      obtain ⟨c10, h⟩ := h
      refine ⟨c10, ?_⟩
      have n11 := k5_ne K c10
      intro x13 e12
      have h := h x13 e12
      refine ⟨?_, ?_⟩
      · intro c14
        have h := h.1 c14
        exact ⟨h, K⟩
      · intro c15
        have h := h.2 c15
        exact ⟨h, K⟩
theorem kg_X11_isHour {Q : Int32 → HS → Prop} {v0 : Nat} {v1 : Int32} {S : HS} (h : P_X11_isHour v0 v1 Q S) : P_X11_isHour v0 v1 (fun r T => Q r T ∧ K5 S T) S := kg_X11_isHour_0 h (k5_rf S)
set_option maxRecDepth 20000 in
set_option maxHeartbeats 1000000 in
theorem kg_X11_isRoad_0 {Q : Int32 → HS → Prop} {v0 : Nat} {v1 : Int32} {S0 S : HS} (h : P_X11_isRoad_0 Q v0 v1 S) (K : K5 S0 S) : P_X11_isRoad_0 (fun r T => Q r T ∧ K5 S0 T) v0 v1 S := by
  delta P_X11_isRoad_0 at h ⊢
  obtain ⟨c1, h⟩ := h
  refine ⟨c1, ?_⟩
  have n2 := k5_ne K c1
  refine ⟨?_, ?_⟩
  · intro c3
    have h := h.1 c3
    exact ⟨h, K⟩
  · intro x4 c5
    have h := h.2 x4 c5
    refine ⟨?_, ?_⟩
    · intro c6
      have h := h.1 c6
      exact ⟨h, K⟩
    · intro c7
      have h := h.2 c7
      obtain ⟨b8, e9, h⟩ := h
      refine ⟨b8, e9, ?_⟩
      obtain ⟨c10, h⟩ := h
      refine ⟨c10, ?_⟩
      have n11 := k5_ne K c10
      intro x13 e12
      have h := h x13 e12
      refine ⟨?_, ?_⟩
      · intro c14
        have h := h.1 c14
        exact ⟨h, K⟩
      · intro c15
        have h := h.2 c15
        exact ⟨h, K⟩
theorem kg_X11_isRoad {Q : Int32 → HS → Prop} {v0 : Nat} {v1 : Int32} {S : HS} (h : P_X11_isRoad v0 v1 Q S) : P_X11_isRoad v0 v1 (fun r T => Q r T ∧ K5 S T) S := kg_X11_isRoad_0 h (k5_rf S)
set_option maxRecDepth 20000 in
set_option maxHeartbeats 1000000 in
theorem kg_X11_isDay_0 {Q : Int32 → HS → Prop} {v0 : Nat} {S0 S : HS} (h : P_X11_isDay_0 Q v0 S) (K : K5 S0 S) : P_X11_isDay_0 (fun r T => Q r T ∧ K5 S0 T) v0 S := by
  delta P_X11_isDay_0 at h ⊢
  obtain ⟨c1, h⟩ := h
  refine ⟨c1, ?_⟩
  have n2 := k5_ne K c1
  refine ⟨?_, ?_⟩
  · intro c3
    have h := h.1 c3
    exact ⟨h, K⟩
  · intro x4 c5
    have h := h.2 x4 c5
    intro x7 e6
    have h := h x7 e6
    refine ⟨?_, ?_⟩
    · intro c8
      have h := h.1 c8
      exact ⟨h, K⟩
    · intro c9
      have h := h.2 c9
      exact ⟨h, K⟩
theorem kg_X11_isDay {Q : Int32 → HS → Prop} {v0 : Nat} {S : HS} (h : P_X11_isDay v0 Q S) : P_X11_isDay v0 (fun r T => Q r T ∧ K5 S T) S := kg_X11_isDay_0 h (k5_rf S)
set_option maxRecDepth 20000 in
set_option maxHeartbeats 1000000 in
theorem kg_X11_isForward_112 {Q : Int32 → HS → Prop} {v0 : Nat} {v4 : Int32} {v7 : Int32} {v8 : Int32} {v9 : Int32} {s0 : Int32} {S0 S : HS} (h : P_X11_isForward_112 Q v0 v4 v7 v8 v9 s0 S) (K : K5 S0 S) : P_X11_isForward_112 (fun r T => Q r T ∧ K5 S0 T) v0 v4 v7 v8 v9 s0 S := by
  delta P_X11_isForward_112 at h ⊢
  refine ⟨?_, ?_⟩
  · intro c1
    have h := h.1 c1
    exact ⟨h, K⟩
  · intro c2
    have h := h.2 c2
    refine ⟨?_, ?_⟩
    · intro c3
      have h := h.1 c3
      exact ⟨h, K⟩
    · intro c4
      have h := h.2 c4
      obtain ⟨c5, h⟩ := h
      refine ⟨c5, ?_⟩
      have n6 := k5_ne K c5
      obtain ⟨b7, e8, h⟩ := h
      refine ⟨b7, e8, ?_⟩
      obtain ⟨c9, h⟩ := h
      refine ⟨c9, ?_⟩
      have n10 := k5_ne K c9
      obtain ⟨b11, e12, h⟩ := h
      refine ⟨b11, e12, ?_⟩
      obtain ⟨c13, h⟩ := h
      refine ⟨c13, ?_⟩
      have n14 := k5_ne K c13
      obtain ⟨c15, h⟩ := h
      refine ⟨c15, ?_⟩
      intro x17 e16
      have h := h x17 e16
      obtain ⟨b18, e19, h⟩ := h
      refine ⟨b18, e19, ?_⟩
      obtain ⟨c20, h⟩ := h
      refine ⟨c20, ?_⟩
      have n21 := k5_ne K c20
      obtain ⟨b22, e23, h⟩ := h
      refine ⟨b22, e23, ?_⟩
      obtain ⟨c24, h⟩ := h
      refine ⟨c24, ?_⟩
      have n25 := k5_ne K c24
      obtain ⟨c26, h⟩ := h
      refine ⟨c26, ?_⟩
      intro x28 e27
      have h := h x28 e27
      obtain ⟨b29, e30, h⟩ := h
      refine ⟨b29, e30, ?_⟩
      obtain ⟨c31, h⟩ := h
      refine ⟨c31, ?_⟩
      have n32 := k5_ne K c31
      obtain ⟨b33, e34, h⟩ := h
      refine ⟨b33, e34, ?_⟩
      obtain ⟨c35, h⟩ := h
      refine ⟨c35, ?_⟩
      have n36 := k5_ne K c35
      obtain ⟨c37, h⟩ := h
      refine ⟨c37, ?_⟩
      intro x39 e38
      have h := h x39 e38
      refine ⟨?_, ?_⟩
      · intro c40
        have h := h.1 c40
        exact ⟨h, K⟩
      · intro c41
        have h := h.2 c41
        exact ⟨h, K⟩
set_option maxRecDepth 20000 in
set_option maxHeartbeats 1000000 in
theorem kg_X11_isForward_84 {Q : Int32 → HS → Prop} {v0 : Nat} {v2 : Int32} {v4 : Int32} {v7 : Int32} {v8 : Int32} {s0 : Int32} {S0 S : HS} (h : P_X11_isForward_84 Q v0 v2 v4 v7 v8 s0 S) (K : K5 S0 S) : P_X11_isForward_84 (fun r T => Q r T ∧ K5 S0 T) v0 v2 v4 v7 v8 s0 S := by
  delta P_X11_isForward_84 at h ⊢
  obtain ⟨c1, h⟩ := h
  refine ⟨c1, ?_⟩
  have n2 := k5_ne K c1
  obtain ⟨b3, e4, h⟩ := h
  refine ⟨b3, e4, ?_⟩
  obtain ⟨c5, h⟩ := h
  refine ⟨c5, ?_⟩
  have n6 := k5_ne K c5
  obtain ⟨b7, e8, h⟩ := h
  refine ⟨b7, e8, ?_⟩
  obtain ⟨c9, h⟩ := h
  refine ⟨c9, ?_⟩
  have n10 := k5_ne K c9
  obtain ⟨c11, h⟩ := h
  refine ⟨c11, ?_⟩
  intro x13 e12
  have h := h x13 e12
  obtain ⟨b14, e15, h⟩ := h
  refine ⟨b14, e15, ?_⟩
  obtain ⟨c16, h⟩ := h
  refine ⟨c16, ?_⟩
  have n17 := k5_ne K c16
  obtain ⟨b18, e19, h⟩ := h
  refine ⟨b18, e19, ?_⟩
  obtain ⟨c20, h⟩ := h
  refine ⟨c20, ?_⟩
  have n21 := k5_ne K c20
  obtain ⟨c22, h⟩ := h
  refine ⟨c22, ?_⟩
  intro x24 e23
  have h := h x24 e23
  refine ⟨?_, ?_⟩
  · intro c25
    have h := h.1 c25
    exact kg_X11_isForward_112 h K
  · intro c26
    have h := h.2 c26
    exact kg_X11_isForward_112 h K
set_option maxRecDepth 20000 in
set_option maxHeartbeats 1000000 in
theorem kg_X11_isForward_54 {Q : Int32 → HS → Prop} {v0 : Nat} {v1 : Int32} {v2 : Int32} {v4 : Int32} {v6 : Int32} {v7 : Int32} {s0 : Int32} {S0 S : HS} (h : P_X11_isForward_54 Q v0 v1 v2 v4 v6 v7 s0 S) (K : K5 S0 S) : P_X11_isForward_54 (fun r T => Q r T ∧ K5 S0 T) v0 v1 v2 v4 v6 v7 s0 S := by
  delta P_X11_isForward_54 at h ⊢
  obtain ⟨c1, h⟩ := h
  refine ⟨c1, ?_⟩
  have n2 := k5_ne K c1
  obtain ⟨b3, e4, h⟩ := h
  refine ⟨b3, e4, ?_⟩
  obtain ⟨c5, h⟩ := h
  refine ⟨c5, ?_⟩
  have n6 := k5_ne K c5
  obtain ⟨b7, e8, h⟩ := h
  refine ⟨b7, e8, ?_⟩
  obtain ⟨c9, h⟩ := h
  refine ⟨c9, ?_⟩
  have n10 := k5_ne K c9
  obtain ⟨c11, h⟩ := h
  refine ⟨c11, ?_⟩
  intro x13 e12
  have h := h x13 e12
  refine ⟨?_, ?_⟩
  · intro c14
    have h := h.1 c14
    obtain ⟨b15, e16, h⟩ := h
    refine ⟨b15, e16, ?_⟩
    obtain ⟨c17, h⟩ := h
    refine ⟨c17, ?_⟩
    have n18 := k5_ne K c17
    obtain ⟨b19, e20, h⟩ := h
    refine ⟨b19, e20, ?_⟩
    obtain ⟨c21, h⟩ := h
    refine ⟨c21, ?_⟩
    have n22 := k5_ne K c21
    obtain ⟨c23, h⟩ := h
    refine ⟨c23, ?_⟩
    intro x25 e24
    have h := h x25 e24
    exact kg_X11_isForward_84 h K
  · intro c26
    have h := h.2 c26
    exact kg_X11_isForward_84 h K
set_option maxRecDepth 20000 in
set_option maxHeartbeats 1000000 in
theorem kg_X11_isForward_0 {Q : Int32 → HS → Prop} {v0 : Nat} {v1 : Int32} {v2 : Int32} {v3 : Int32} {v4 : Int32} {v5 : Int32} {S0 S : HS} (h : P_X11_isForward_0 Q v0 v1 v2 v3 v4 v5 S) (K : K5 S0 S) : P_X11_isForward_0 (fun r T => Q r T ∧ K5 S0 T) v0 v1 v2 v3 v4 v5 S := by
  delta P_X11_isForward_0 at h ⊢
  obtain ⟨c1, h⟩ := h
  refine ⟨c1, ?_⟩
  have n2 := k5_ne K c1
  obtain ⟨b3, e4, h⟩ := h
  refine ⟨b3, e4, ?_⟩
  obtain ⟨c5, h⟩ := h
  refine ⟨c5, ?_⟩
  have n6 := k5_ne K c5
  refine cm_X10_shield (kg_X10_shield h) h (fun x7 x8 hp h g9 => ?_)
  have h := h g9
  have K := k5_tr K hp.2
  obtain ⟨b10, e11, h⟩ := h
  refine ⟨b10, e11, ?_⟩
  obtain ⟨c12, h⟩ := h
  refine ⟨c12, ?_⟩
  have n13 := k5_ne K c12
  refine cm_X10_air (kg_X10_air h) h (fun x14 x15 hp h g16 => ?_)
  have h := h g16
  have K := k5_tr K hp.2
  intro x18 e17
  have h := h x18 e17
  obtain ⟨b19, e20, h⟩ := h
  refine ⟨b19, e20, ?_⟩
  obtain ⟨c21, h⟩ := h
  refine ⟨c21, ?_⟩
  have n22 := k5_ne K c21
  obtain ⟨b23, e24, h⟩ := h
  refine ⟨b23, e24, ?_⟩
  obtain ⟨c25, h⟩ := h
  refine ⟨c25, ?_⟩
  have n26 := k5_ne K c25
  obtain ⟨c27, h⟩ := h
  refine ⟨c27, ?_⟩
  intro x29 e28
  have h := h x29 e28
  refine ⟨?_, ?_⟩
  · intro c30
    have h := h.1 c30
    obtain ⟨b31, e32, h⟩ := h
    refine ⟨b31, e32, ?_⟩
    obtain ⟨c33, h⟩ := h
    refine ⟨c33, ?_⟩
    have n34 := k5_ne K c33
    obtain ⟨b35, e36, h⟩ := h
    refine ⟨b35, e36, ?_⟩
    obtain ⟨c37, h⟩ := h
    refine ⟨c37, ?_⟩
    have n38 := k5_ne K c37
    obtain ⟨c39, h⟩ := h
    refine ⟨c39, ?_⟩
    intro x41 e40
    have h := h x41 e40
    exact kg_X11_isForward_54 h K
  · intro c42
    have h := h.2 c42
    exact kg_X11_isForward_54 h K
theorem kg_X11_isForward {Q : Int32 → HS → Prop} {v0 : Nat} {v1 : Int32} {v2 : Int32} {v3 : Int32} {v4 : Int32} {v5 : Int32} {S : HS} (h : P_X11_isForward v0 v1 v2 v3 v4 v5 Q S) : P_X11_isForward v0 v1 v2 v3 v4 v5 (fun r T => Q r T ∧ K5 S T) S := kg_X11_isForward_0 h (k5_rf S)
set_option maxRecDepth 20000 in
set_option maxHeartbeats 1000000 in
theorem kg_X11_less_0 {Q : Int32 → HS → Prop} {v0 : Int32} {v1 : Int32} {S0 S : HS} (h : P_X11_less_0 Q v0 v1 S) (K : K5 S0 S) : P_X11_less_0 (fun r T => Q r T ∧ K5 S0 T) v0 v1 S := by
  delta P_X11_less_0 at h ⊢
  refine ⟨?_, ?_⟩
  · intro c1
    have h := h.1 c1
    exact ⟨h, K⟩
  · intro c2
    have h := h.2 c2
    exact ⟨h, K⟩
theorem kg_X11_less {Q : Int32 → HS → Prop} {v0 : Int32} {v1 : Int32} {S : HS} (h : P_X11_less v0 v1 Q S) : P_X11_less v0 v1 (fun r T => Q r T ∧ K5 S T) S := kg_X11_less_0 h (k5_rf S)
set_option maxRecDepth 20000 in
set_option maxHeartbeats 1000000 in
theorem kg_X11_inTime_129 {Q : Int32 → HS → Prop} {s0 : Int32} {s1 : Int32} {s2 : Int32} {S0 S : HS} (h : P_X11_inTime_129 Q s0 s1 s2 S) (K : K5 S0 S) : P_X11_inTime_129 (fun r T => Q r T ∧ K5 S0 T) s0 s1 s2 S := by
  delta P_X11_inTime_129 at h ⊢
  refine cm_X11_less (kg_X11_less h) h (fun x1 x2 hp h g3 => ?_)
  have h := h g3
  have K := k5_tr K hp.2
  exact ⟨h, K⟩
set_option maxRecDepth 20000 in
set_option maxHeartbeats 1000000 in
theorem kg_X11_inTime_164 {Q : Int32 → HS → Prop} {v7 : Int32} {s0 : Int32} {s1 : Int32} {s2 : Int32} {S0 S : HS} (h : P_X11_inTime_164 Q v7 s0 s1 s2 S) (K : K5 S0 S) : P_X11_inTime_164 (fun r T => Q r T ∧ K5 S0 T) v7 s0 s1 s2 S := by
  delta P_X11_inTime_164 at h ⊢
  refine cm_X11_less (kg_X11_less h) h (fun x1 x2 hp h g3 => ?_)
  have h := h g3
  have K := k5_tr K hp.2
  refine cm_X11_less (kg_X11_less h) h (fun x4 x5 hp h g6 => ?_)
  have h := h g6
  have K := k5_tr K hp.2
  exact ⟨h, K⟩
set_option maxRecDepth 20000 in
set_option maxHeartbeats 1000000 in
theorem kg_X11_inTime_0 {Q : Int32 → HS → Prop} {v0 : Nat} {v1 : Int32} {v2 : Int32} {v3 : Int32} {v4 : Int32} {v5 : Int32} {v6 : Int32} {v7 : Int32} {v8 : Int32} {S0 S : HS} (h : P_X11_inTime_0 Q v0 v1 v2 v3 v4 v5 v6 v7 v8 S) (K : K5 S0 S) : P_X11_inTime_0 (fun r T => Q r T ∧ K5 S0 T) v0 v1 v2 v3 v4 v5 v6 v7 v8 S := by
  delta P_X11_inTime_0 at h ⊢
  obtain ⟨c1, h⟩ := h
  refine ⟨c1, ?_⟩
  have n2 := k5_ne K c1
  obtain ⟨b3, e4, h⟩ := h
  refine ⟨b3, e4, ?_⟩
  obtain ⟨c5, h⟩ := h
  refine ⟨c5, ?_⟩
  have n6 := k5_ne K c5
  obtain ⟨b7, e8, h⟩ := h
  refine ⟨b7, e8, ?_⟩
  obtain ⟨c9, h⟩ := h
  refine ⟨c9, ?_⟩
  have n10 := k5_ne K c9
  obtain ⟨c11, h⟩ := h
  refine ⟨c11, ?_⟩
  intro x13 e12
  have h := h x13 e12
  obtain ⟨b14, e15, h⟩ := h
  refine ⟨b14, e15, ?_⟩
  obtain ⟨c16, h⟩ := h
  refine ⟨c16, ?_⟩
  have n17 := k5_ne K c16
  refine cm_X10_air (kg_X10_air h) h (fun x18 x19 hp h g20 => ?_)
  have h := h g20
  have K := k5_tr K hp.2
  intro x22 e21
  have h := h x22 e21
  obtain ⟨b23, e24, h⟩ := h
  refine ⟨b23, e24, ?_⟩
  obtain ⟨c25, h⟩ := h
  refine ⟨c25, ?_⟩
  have n26 := k5_ne K c25
  refine cm_X10_across (kg_X10_across h) h (fun x27 x28 hp h g29 => ?_)
  have h := h g29
  have K := k5_tr K hp.2
  refine cm_X11_isForward (kg_X11_isForward h) h (fun x30 x31 hp h g32 g33 => ?_)
  have h := h g32 g33
  have K := k5_tr K hp.2
  obtain ⟨b34, e35, h⟩ := h
  refine ⟨b34, e35, ?_⟩
  obtain ⟨c36, h⟩ := h
  refine ⟨c36, ?_⟩
  have n37 := k5_ne K c36
  refine cm_X10_shield (kg_X10_shield h) h (fun x38 x39 hp h g40 => ?_)
  have h := h g40
  have K := k5_tr K hp.2
  refine ⟨?_, ?_, ?_, ?_, ?_⟩
  · intro c41
    have h := h.1 c41
    refine ⟨?_, ?_⟩
    · intro c42
      have h := h.1 c42
      exact ⟨h, K⟩
    · intro c43
      have h := h.2 c43
      obtain ⟨b44, e45, h⟩ := h
      refine ⟨b44, e45, ?_⟩
      obtain ⟨c46, h⟩ := h
      refine ⟨c46, ?_⟩
      have n47 := k5_ne K c46
      obtain ⟨b48, e49, h⟩ := h
      refine ⟨b48, e49, ?_⟩
      obtain ⟨c50, h⟩ := h
      refine ⟨c50, ?_⟩
      have n51 := k5_ne K c50
      obtain ⟨c52, h⟩ := h
      refine ⟨c52, ?_⟩
      intro x54 e53
      have h := h x54 e53
      exact ⟨h, K⟩
  · intro c55
    have h := h.2.1 c55
    obtain ⟨b56, e57, h⟩ := h
    refine ⟨b56, e57, ?_⟩
    obtain ⟨c58, h⟩ := h
    refine ⟨c58, ?_⟩
    have n59 := k5_ne K c58
    obtain ⟨b60, e61, h⟩ := h
    refine ⟨b60, e61, ?_⟩
    obtain ⟨c62, h⟩ := h
    refine ⟨c62, ?_⟩
    have n63 := k5_ne K c62
    obtain ⟨c64, h⟩ := h
    refine ⟨c64, ?_⟩
    intro x66 e65
    have h := h x66 e65
    obtain ⟨b67, e68, h⟩ := h
    refine ⟨b67, e68, ?_⟩
    obtain ⟨c69, h⟩ := h
    refine ⟨c69, ?_⟩
    have n70 := k5_ne K c69
    obtain ⟨b71, e72, h⟩ := h
    refine ⟨b71, e72, ?_⟩
    obtain ⟨c73, h⟩ := h
    refine ⟨c73, ?_⟩
    have n74 := k5_ne K c73
    obtain ⟨c75, h⟩ := h
    refine ⟨c75, ?_⟩
    intro x77 e76
    have h := h x77 e76
    refine ⟨?_, ?_⟩
    · intro c78
      have h := h.1 c78
      exact kg_X11_inTime_129 h K
    · intro c79
      have h := h.2 c79
      exact kg_X11_inTime_129 h K
  · intro c80
    have h := h.2.2.1 c80
    refine ⟨?_, ?_⟩
    · intro c81
      have h := h.1 c81
      exact ⟨h, K⟩
    · intro c82
      have h := h.2 c82
      obtain ⟨b83, e84, h⟩ := h
      refine ⟨b83, e84, ?_⟩
      obtain ⟨c85, h⟩ := h
      refine ⟨c85, ?_⟩
      have n86 := k5_ne K c85
      obtain ⟨b87, e88, h⟩ := h
      refine ⟨b87, e88, ?_⟩
      obtain ⟨c89, h⟩ := h
      refine ⟨c89, ?_⟩
      have n90 := k5_ne K c89
      obtain ⟨c91, h⟩ := h
      refine ⟨c91, ?_⟩
      intro x93 e92
      have h := h x93 e92
      refine ⟨?_, ?_⟩
      · intro c94
        have h := h.1 c94
        exact kg_X11_inTime_164 h K
      · intro c95
        have h := h.2 c95
        exact kg_X11_inTime_164 h K
  · intro c96
    have h := h.2.2.2.1 c96
    refine ⟨?_, ?_⟩
    · intro c97
      have h := h.1 c97
      exact ⟨h, K⟩
    · intro c98
      have h := h.2 c98
      obtain ⟨b99, e100, h⟩ := h
      refine ⟨b99, e100, ?_⟩
      obtain ⟨c101, h⟩ := h
      refine ⟨c101, ?_⟩
      have n102 := k5_ne K c101
      obtain ⟨b103, e104, h⟩ := h
      refine ⟨b103, e104, ?_⟩
      obtain ⟨c105, h⟩ := h
      refine ⟨c105, ?_⟩
      have n106 := k5_ne K c105
      obtain ⟨c107, h⟩ := h
      refine ⟨c107, ?_⟩
      intro x109 e108
      have h := h x109 e108
      refine cm_X11_less (kg_X11_less h) h (fun x110 x111 hp h g112 => ?_)
      have h := h g112
      have K := k5_tr K hp.2
      exact ⟨h, K⟩
  · intro c113
    have h := h.2.2.2.2 c113
    refine ⟨?_, ?_⟩
    · intro c114
      have h := h.1 c114
      exact ⟨h, K⟩
    · intro c115
      have h := h.2 c115
      obtain ⟨b116, e117, h⟩ := h
      refine ⟨b116, e117, ?_⟩
      obtain ⟨c118, h⟩ := h
      refine ⟨c118, ?_⟩
      have n119 := k5_ne K c118
      obtain ⟨b120, e121, h⟩ := h
      refine ⟨b120, e121, ?_⟩
      obtain ⟨c122, h⟩ := h
      refine ⟨c122, ?_⟩
      have n123 := k5_ne K c122
      obtain ⟨c124, h⟩ := h
      refine ⟨c124, ?_⟩
      intro x126 e125
      have h := h x126 e125
      exact ⟨h, K⟩
theorem kg_X11_inTime {Q : Int32 → HS → Prop} {v0 : Nat} {v1 : Int32} {v2 : Int32} {v3 : Int32} {v4 : Int32} {v5 : Int32} {v6 : Int32} {v7 : Int32} {v8 : Int32} {S : HS} (h : P_X11_inTime v0 v1 v2 v3 v4 v5 v6 v7 v8 Q S) : P_X11_inTime v0 v1 v2 v3 v4 v5 v6 v7 v8 (fun r T => Q r T ∧ K5 S T) S := kg_X11_inTime_0 h (k5_rf S)
set_option maxRecDepth 20000 in
set_option maxHeartbeats 1000000 in
theorem kg_X11_partsOf_0 {Q : Int64 → HS → Prop} {v0 : Nat} {v1 : Int32} {v2 : Int32} {v3 : Int32} {v4 : Int32} {v5 : Int32} {v6 : Int32} {S0 S : HS} (h : P_X11_partsOf_0 Q v0 v1 v2 v3 v4 v5 v6 S) (K : K5 S0 S) : P_X11_partsOf_0 (fun r T => Q r T ∧ K5 S0 T) v0 v1 v2 v3 v4 v5 v6 S := by
  delta P_X11_partsOf_0 at h ⊢
  obtain ⟨c1, h⟩ := h
  refine ⟨c1, ?_⟩
  have n2 := k5_ne K c1
  refine cm_X11_inTime (kg_X11_inTime h) h (fun x3 x4 hp h g5 => ?_)
  have h := h g5
  have K := k5_tr K hp.2
  obtain ⟨b6, e7, h⟩ := h
  refine ⟨b6, e7, ?_⟩
  obtain ⟨c8, h⟩ := h
  refine ⟨c8, ?_⟩
  have n9 := k5_ne K c8
  obtain ⟨b10, e11, h⟩ := h
  refine ⟨b10, e11, ?_⟩
  obtain ⟨c12, h⟩ := h
  refine ⟨c12, ?_⟩
  have n13 := k5_ne K c12
  obtain ⟨c14, h⟩ := h
  refine ⟨c14, ?_⟩
  intro x16 e15
  have h := h x16 e15
  obtain ⟨b17, e18, h⟩ := h
  refine ⟨b17, e18, ?_⟩
  obtain ⟨c19, h⟩ := h
  refine ⟨c19, ?_⟩
  have n20 := k5_ne K c19
  obtain ⟨b21, e22, h⟩ := h
  refine ⟨b21, e22, ?_⟩
  obtain ⟨c23, h⟩ := h
  refine ⟨c23, ?_⟩
  have n24 := k5_ne K c23
  obtain ⟨c25, h⟩ := h
  refine ⟨c25, ?_⟩
  intro x27 e26
  have h := h x27 e26
  obtain ⟨c28, h⟩ := h
  refine ⟨c28, ?_⟩
  intro x30 e29
  have h := h x30 e29
  exact ⟨h, K⟩
theorem kg_X11_partsOf {Q : Int64 → HS → Prop} {v0 : Nat} {v1 : Int32} {v2 : Int32} {v3 : Int32} {v4 : Int32} {v5 : Int32} {v6 : Int32} {S : HS} (h : P_X11_partsOf v0 v1 v2 v3 v4 v5 v6 Q S) : P_X11_partsOf v0 v1 v2 v3 v4 v5 v6 (fun r T => Q r T ∧ K5 S T) S := kg_X11_partsOf_0 h (k5_rf S)
set_option maxRecDepth 20000 in
set_option maxHeartbeats 1000000 in
theorem kgB_X11_wetOf_6 {Q : Int64 → HS → Prop} {X6 X6_2 : Nat → Int32 → Int32 → Int32 → Int32 → Int32 → Int64 → Int32 → HS → Prop} {v0 : Nat} {v1 : Int32} {v2 : Int32} {v3 : Int32} {v4 : Int32} {v5 : Int32} {v6 : Int64} {v8 : Int32} {S0 S : HS} (h : B_X11_wetOf_6 Q X6 v0 v1 v2 v3 v4 v5 v6 v8 S) (K : K5 S0 S) (hX6 : ∀ (u0 : Nat) (u1 : Int32) (u2 : Int32) (u3 : Int32) (u4 : Int32) (u5 : Int32) (u6 : Int64) (u7 : Int32) (u8 : HS), X6 u0 u1 u2 u3 u4 u5 u6 u7 u8 → K5 S0 u8 → X6_2 u0 u1 u2 u3 u4 u5 u6 u7 u8) : B_X11_wetOf_6 (fun r T => Q r T ∧ K5 S0 T) X6_2 v0 v1 v2 v3 v4 v5 v6 v8 S := by
  delta B_X11_wetOf_6 at h ⊢
  refine ⟨?_, ?_⟩
  · intro c1
    have h := h.1 c1
    exact ⟨h, K⟩
  · intro c2
    have h := h.2 c2
    obtain ⟨c3, h⟩ := h
    refine ⟨c3, ?_⟩
    have n4 := k5_ne K c3
    refine cm_X11_partsOf (kg_X11_partsOf h) h (fun x5 x6 hp h g7 => ?_)
    have h := h g7
    have K := k5_tr K hp.2
    intro x9 e8
    have h := h x9 e8
    intro x11 e10
    have h := h x11 e10
    exact hX6 _ _ _ _ _ _ _ _ _ h K
theorem kg_X11_wetOf_6 {Q : Int64 → HS → Prop} {v0 : Nat} {v1 : Int32} {v2 : Int32} {v3 : Int32} {v4 : Int32} {v5 : Int32} {v6 : Int64} {v8 : Int32} {S0 S : HS} (h : P_X11_wetOf_6 Q v0 v1 v2 v3 v4 v5 v6 v8 S) (K : K5 S0 S) : P_X11_wetOf_6 (fun r T => Q r T ∧ K5 S0 T) v0 v1 v2 v3 v4 v5 v6 v8 S := h (fun v0 v1 v2 v3 v4 v5 v6 v8 S => K5 S0 S → P_X11_wetOf_6 (fun r T => Q r T ∧ K5 S0 T) v0 v1 v2 v3 v4 v5 v6 v8 S) (fun v0 v1 v2 v3 v4 v5 v6 v8 S hB K => fd_X11_wetOf_6 (kgB_X11_wetOf_6 hB K (fun _ _ _ _ _ _ _ _ _ hx K => hx K))) K
set_option maxRecDepth 20000 in
set_option maxHeartbeats 1000000 in
theorem kg_X11_wetOf_0 {Q : Int64 → HS → Prop} {v0 : Nat} {v1 : Int32} {v2 : Int32} {v3 : Int32} {v4 : Int32} {v5 : Int32} {S0 S : HS} (h : P_X11_wetOf_0 Q v0 v1 v2 v3 v4 v5 S) (K : K5 S0 S) : P_X11_wetOf_0 (fun r T => Q r T ∧ K5 S0 T) v0 v1 v2 v3 v4 v5 S := by
  delta P_X11_wetOf_0 at h ⊢
  exact kg_X11_wetOf_6 h K
theorem kg_X11_wetOf {Q : Int64 → HS → Prop} {v0 : Nat} {v1 : Int32} {v2 : Int32} {v3 : Int32} {v4 : Int32} {v5 : Int32} {S : HS} (h : P_X11_wetOf v0 v1 v2 v3 v4 v5 Q S) : P_X11_wetOf v0 v1 v2 v3 v4 v5 (fun r T => Q r T ∧ K5 S T) S := kg_X11_wetOf_0 h (k5_rf S)
set_option maxRecDepth 20000 in
set_option maxHeartbeats 1000000 in
theorem kg_X11_bestOf_61 {Q : Int32 → HS → Prop} {X17 X17_2 : Nat → Int32 → Int32 → Int32 → Int32 → Int32 → Int32 → HS → Prop} {v0 : Nat} {v1 : Int32} {v2 : Int32} {v3 : Int32} {v4 : Int32} {v5 : Int32} {v6 : Int32} {S0 S : HS} (h : P_X11_bestOf_61 Q X17 v0 v1 v2 v3 v4 v5 v6 S) (K : K5 S0 S) (hX17 : ∀ (u0 : Nat) (u1 : Int32) (u2 : Int32) (u3 : Int32) (u4 : Int32) (u5 : Int32) (u6 : Int32) (u7 : HS), X17 u0 u1 u2 u3 u4 u5 u6 u7 → K5 S0 u7 → X17_2 u0 u1 u2 u3 u4 u5 u6 u7) : P_X11_bestOf_61 (fun r T => Q r T ∧ K5 S0 T) X17_2 v0 v1 v2 v3 v4 v5 v6 S := by
  delta P_X11_bestOf_61 at h ⊢
  intro x2 e1
  have h := h x2 e1
  exact hX17 _ _ _ _ _ _ _ _ h K
set_option maxRecDepth 20000 in
set_option maxHeartbeats 1000000 in
theorem kgB_X11_bestOf_17 {Q : Int32 → HS → Prop} {X17 X17_2 : Nat → Int32 → Int32 → Int32 → Int32 → Int32 → Int32 → HS → Prop} {v0 : Nat} {v1 : Int32} {v2 : Int32} {v3 : Int32} {v4 : Int32} {v5 : Int32} {v6 : Int32} {S0 S : HS} (h : B_X11_bestOf_17 Q X17 v0 v1 v2 v3 v4 v5 v6 S) (K : K5 S0 S) (hX17 : ∀ (u0 : Nat) (u1 : Int32) (u2 : Int32) (u3 : Int32) (u4 : Int32) (u5 : Int32) (u6 : Int32) (u7 : HS), X17 u0 u1 u2 u3 u4 u5 u6 u7 → K5 S0 u7 → X17_2 u0 u1 u2 u3 u4 u5 u6 u7) : B_X11_bestOf_17 (fun r T => Q r T ∧ K5 S0 T) X17_2 v0 v1 v2 v3 v4 v5 v6 S := by
  delta B_X11_bestOf_17 at h ⊢
  obtain ⟨c1, h⟩ := h
  refine ⟨c1, ?_⟩
  have n2 := k5_ne K c1
  obtain ⟨b3, e4, h⟩ := h
  refine ⟨b3, e4, ?_⟩
  obtain ⟨c5, h⟩ := h
  refine ⟨c5, ?_⟩
  have n6 := k5_ne K c5
  obtain ⟨b7, e8, h⟩ := h
  refine ⟨b7, e8, ?_⟩
  obtain ⟨c9, h⟩ := h
  refine ⟨c9, ?_⟩
  have n10 := k5_ne K c9
  obtain ⟨c11, h⟩ := h
  refine ⟨c11, ?_⟩
  intro x13 e12
  have h := h x13 e12
  refine ⟨?_, ?_⟩
  · intro c14
    have h := h.1 c14
    exact ⟨h, K⟩
  · intro c15
    have h := h.2 c15
    refine cm_X11_wetOf (kg_X11_wetOf h) h (fun x16 x17 hp h g18 => ?_)
    have h := h g18
    have K := k5_tr K hp.2
    refine cm_X11_wetOf (kg_X11_wetOf h) h (fun x19 x20 hp h g21 => ?_)
    have h := h g21
    have K := k5_tr K hp.2
    refine ⟨?_, ?_⟩
    · intro c22
      have h := h.1 c22
      exact kg_X11_bestOf_61 h K hX17
    · intro c23
      have h := h.2 c23
      exact kg_X11_bestOf_61 h K hX17
theorem kg_X11_bestOf_17 {Q : Int32 → HS → Prop} {v0 : Nat} {v1 : Int32} {v2 : Int32} {v3 : Int32} {v4 : Int32} {v5 : Int32} {v6 : Int32} {S0 S : HS} (h : P_X11_bestOf_17 Q v0 v1 v2 v3 v4 v5 v6 S) (K : K5 S0 S) : P_X11_bestOf_17 (fun r T => Q r T ∧ K5 S0 T) v0 v1 v2 v3 v4 v5 v6 S := h (fun v0 v1 v2 v3 v4 v5 v6 S => K5 S0 S → P_X11_bestOf_17 (fun r T => Q r T ∧ K5 S0 T) v0 v1 v2 v3 v4 v5 v6 S) (fun v0 v1 v2 v3 v4 v5 v6 S hB K => fd_X11_bestOf_17 (kgB_X11_bestOf_17 hB K (fun _ _ _ _ _ _ _ _ hx K => hx K))) K
set_option maxRecDepth 20000 in
set_option maxHeartbeats 1000000 in
theorem kg_X11_bestOf_0 {Q : Int32 → HS → Prop} {v0 : Nat} {v1 : Int32} {v2 : Int32} {v3 : Int32} {v4 : Int32} {S0 S : HS} (h : P_X11_bestOf_0 Q v0 v1 v2 v3 v4 S) (K : K5 S0 S) : P_X11_bestOf_0 (fun r T => Q r T ∧ K5 S0 T) v0 v1 v2 v3 v4 S := by
  delta P_X11_bestOf_0 at h ⊢
  obtain ⟨c1, h⟩ := h
  refine ⟨c1, ?_⟩
  have n2 := k5_ne K c1
  obtain ⟨b3, e4, h⟩ := h
  refine ⟨b3, e4, ?_⟩
  obtain ⟨c5, h⟩ := h
  refine ⟨c5, ?_⟩
  have n6 := k5_ne K c5
  obtain ⟨b7, e8, h⟩ := h
  refine ⟨b7, e8, ?_⟩
  obtain ⟨c9, h⟩ := h
  refine ⟨c9, ?_⟩
  have n10 := k5_ne K c9
  obtain ⟨c11, h⟩ := h
  refine ⟨c11, ?_⟩
  intro x13 e12
  have h := h x13 e12
  intro x15 e14
  have h := h x15 e14
  exact kg_X11_bestOf_17 h K
theorem kg_X11_bestOf {Q : Int32 → HS → Prop} {v0 : Nat} {v1 : Int32} {v2 : Int32} {v3 : Int32} {v4 : Int32} {S : HS} (h : P_X11_bestOf v0 v1 v2 v3 v4 Q S) : P_X11_bestOf v0 v1 v2 v3 v4 (fun r T => Q r T ∧ K5 S T) S := kg_X11_bestOf_0 h (k5_rf S)
set_option maxRecDepth 20000 in
set_option maxHeartbeats 1000000 in
theorem kg_X11_isWalker_0 {Q : Int32 → HS → Prop} {v0 : Nat} {v1 : Int32} {S0 S : HS} (h : P_X11_isWalker_0 Q v0 v1 S) (K : K5 S0 S) : P_X11_isWalker_0 (fun r T => Q r T ∧ K5 S0 T) v0 v1 S := by
  delta P_X11_isWalker_0 at h ⊢
  obtain ⟨c1, h⟩ := h
  refine ⟨c1, ?_⟩
  have n2 := k5_ne K c1
  refine ⟨?_, ?_⟩
  · intro c3
    have h := h.1 c3
    exact ⟨h, K⟩
  · intro x4 c5
    have h := h.2 x4 c5
    refine ⟨?_, ?_⟩
    · intro c6
      have h := h.1 c6
      exact ⟨h, K⟩
    · intro c7
      have h := h.2 c7
      obtain ⟨b8, e9, h⟩ := h
      refine ⟨b8, e9, ?_⟩
      obtain ⟨c10, h⟩ := h
      refine ⟨c10, ?_⟩
      have n11 := k5_ne K c10
      intro x13 e12
      have h := h x13 e12
      refine ⟨?_, ?_⟩
      · intro c14
        have h := h.1 c14
        exact ⟨h, K⟩
      · intro c15
        have h := h.2 c15
        exact ⟨h, K⟩
theorem kg_X11_isWalker {Q : Int32 → HS → Prop} {v0 : Nat} {v1 : Int32} {S : HS} (h : P_X11_isWalker v0 v1 Q S) : P_X11_isWalker v0 v1 (fun r T => Q r T ∧ K5 S T) S := kg_X11_isWalker_0 h (k5_rf S)
set_option maxRecDepth 20000 in
set_option maxHeartbeats 1000000 in
theorem kg_X11_canWait_0 {Q : Int32 → HS → Prop} {v0 : Nat} {v1 : Int32} {S0 S : HS} (h : P_X11_canWait_0 Q v0 v1 S) (K : K5 S0 S) : P_X11_canWait_0 (fun r T => Q r T ∧ K5 S0 T) v0 v1 S := by
  delta P_X11_canWait_0 at h ⊢
  obtain ⟨c1, h⟩ := h
  refine ⟨c1, ?_⟩
  have n2 := k5_ne K c1
  obtain ⟨b3, e4, h⟩ := h
  refine ⟨b3, e4, ?_⟩
  obtain ⟨c5, h⟩ := h
  refine ⟨c5, ?_⟩
  have n6 := k5_ne K c5
  obtain ⟨b7, e8, h⟩ := h
  refine ⟨b7, e8, ?_⟩
  obtain ⟨c9, h⟩ := h
  refine ⟨c9, ?_⟩
  have n10 := k5_ne K c9
  obtain ⟨c11, h⟩ := h
  refine ⟨c11, ?_⟩
  intro x13 e12
  have h := h x13 e12
  refine ⟨?_, ?_⟩
  · intro c14
    have h := h.1 c14
    exact ⟨h, K⟩
  · intro c15
    have h := h.2 c15
    obtain ⟨b16, e17, h⟩ := h
    refine ⟨b16, e17, ?_⟩
    obtain ⟨c18, h⟩ := h
    refine ⟨c18, ?_⟩
    have n19 := k5_ne K c18
    obtain ⟨b20, e21, h⟩ := h
    refine ⟨b20, e21, ?_⟩
    obtain ⟨c22, h⟩ := h
    refine ⟨c22, ?_⟩
    have n23 := k5_ne K c22
    obtain ⟨c24, h⟩ := h
    refine ⟨c24, ?_⟩
    intro x26 e25
    have h := h x26 e25
    refine ⟨?_, ?_⟩
    · intro c27
      have h := h.1 c27
      exact ⟨h, K⟩
    · intro c28
      have h := h.2 c28
      exact ⟨h, K⟩
theorem kg_X11_canWait {Q : Int32 → HS → Prop} {v0 : Nat} {v1 : Int32} {S : HS} (h : P_X11_canWait v0 v1 Q S) : P_X11_canWait v0 v1 (fun r T => Q r T ∧ K5 S T) S := kg_X11_canWait_0 h (k5_rf S)
set_option maxRecDepth 20000 in
set_option maxHeartbeats 1000000 in
theorem kg_X11_isPlace_0 {Q : Int32 → HS → Prop} {v0 : Nat} {v1 : Int32} {S0 S : HS} (h : P_X11_isPlace_0 Q v0 v1 S) (K : K5 S0 S) : P_X11_isPlace_0 (fun r T => Q r T ∧ K5 S0 T) v0 v1 S := by
  delta P_X11_isPlace_0 at h ⊢
  obtain ⟨c1, h⟩ := h
  refine ⟨c1, ?_⟩
  have n2 := k5_ne K c1
  refine ⟨?_, ?_⟩
  · intro c3
    have h := h.1 c3
    exact ⟨h, K⟩
  · intro x4 c5
    have h := h.2 x4 c5
    refine ⟨?_, ?_⟩
    · intro c6
      have h := h.1 c6
      exact ⟨h, K⟩
    · intro c7
      have h := h.2 c7
      obtain ⟨b8, e9, h⟩ := h
      refine ⟨b8, e9, ?_⟩
      obtain ⟨c10, h⟩ := h
      refine ⟨c10, ?_⟩
      have n11 := k5_ne K c10
      intro x13 e12
      have h := h x13 e12
      refine ⟨?_, ?_⟩
      · intro c14
        have h := h.1 c14
        exact ⟨h, K⟩
      · intro c15
        have h := h.2 c15
        exact ⟨h, K⟩
theorem kg_X11_isPlace {Q : Int32 → HS → Prop} {v0 : Nat} {v1 : Int32} {S : HS} (h : P_X11_isPlace v0 v1 Q S) : P_X11_isPlace v0 v1 (fun r T => Q r T ∧ K5 S T) S := kg_X11_isPlace_0 h (k5_rf S)
set_option maxRecDepth 20000 in
set_option maxHeartbeats 1000000 in
theorem kg_X11_wetAtBest_0 {Q : Int64 → HS → Prop} {v0 : Nat} {v1 : Int32} {v2 : Int32} {v3 : Int32} {v4 : Int32} {S0 S : HS} (h : P_X11_wetAtBest_0 Q v0 v1 v2 v3 v4 S) (K : K5 S0 S) : P_X11_wetAtBest_0 (fun r T => Q r T ∧ K5 S0 T) v0 v1 v2 v3 v4 S := by
  delta P_X11_wetAtBest_0 at h ⊢
  obtain ⟨c1, h⟩ := h
  refine ⟨c1, ?_⟩
  have n2 := k5_ne K c1
  refine cm_X11_bestOf (kg_X11_bestOf h) h (fun x3 x4 hp h g5 => ?_)
  have h := h g5
  have K := k5_tr K hp.2
  refine cm_X11_wetOf (kg_X11_wetOf h) h (fun x6 x7 hp h g8 => ?_)
  have h := h g8
  have K := k5_tr K hp.2
  exact ⟨h, K⟩
theorem kg_X11_wetAtBest {Q : Int64 → HS → Prop} {v0 : Nat} {v1 : Int32} {v2 : Int32} {v3 : Int32} {v4 : Int32} {S : HS} (h : P_X11_wetAtBest v0 v1 v2 v3 v4 Q S) : P_X11_wetAtBest v0 v1 v2 v3 v4 (fun r T => Q r T ∧ K5 S T) S := kg_X11_wetAtBest_0 h (k5_rf S)
set_option maxRecDepth 20000 in
set_option maxHeartbeats 1000000 in
theorem kg_X11_drips_0 {Q : Int64 → HS → Prop} {v0 : Nat} {v1 : Int32} {v2 : Int32} {S0 S : HS} (h : P_X11_drips_0 Q v0 v1 v2 S) (K : K5 S0 S) : P_X11_drips_0 (fun r T => Q r T ∧ K5 S0 T) v0 v1 v2 S := by
  delta P_X11_drips_0 at h ⊢
  obtain ⟨c1, h⟩ := h
  refine ⟨c1, ?_⟩
  have n2 := k5_ne K c1
  obtain ⟨b3, e4, h⟩ := h
  refine ⟨b3, e4, ?_⟩
  obtain ⟨c5, h⟩ := h
  refine ⟨c5, ?_⟩
  have n6 := k5_ne K c5
  obtain ⟨b7, e8, h⟩ := h
  refine ⟨b7, e8, ?_⟩
  obtain ⟨c9, h⟩ := h
  refine ⟨c9, ?_⟩
  have n10 := k5_ne K c9
  obtain ⟨c11, h⟩ := h
  refine ⟨c11, ?_⟩
  intro x13 e12
  have h := h x13 e12
  obtain ⟨b14, e15, h⟩ := h
  refine ⟨b14, e15, ?_⟩
  obtain ⟨c16, h⟩ := h
  refine ⟨c16, ?_⟩
  have n17 := k5_ne K c16
  obtain ⟨b18, e19, h⟩ := h
  refine ⟨b18, e19, ?_⟩
  obtain ⟨c20, h⟩ := h
  refine ⟨c20, ?_⟩
  have n21 := k5_ne K c20
  obtain ⟨c22, h⟩ := h
  refine ⟨c22, ?_⟩
  intro x24 e23
  have h := h x24 e23
  obtain ⟨b25, e26, h⟩ := h
  refine ⟨b25, e26, ?_⟩
  obtain ⟨c27, h⟩ := h
  refine ⟨c27, ?_⟩
  have n28 := k5_ne K c27
  refine cm_X10_shield (kg_X10_shield h) h (fun x29 x30 hp h g31 => ?_)
  have h := h g31
  have K := k5_tr K hp.2
  refine cm_X11_less (kg_X11_less h) h (fun x32 x33 hp h g34 => ?_)
  have h := h g34
  have K := k5_tr K hp.2
  exact ⟨h, K⟩
theorem kg_X11_drips {Q : Int64 → HS → Prop} {v0 : Nat} {v1 : Int32} {v2 : Int32} {S : HS} (h : P_X11_drips v0 v1 v2 Q S) : P_X11_drips v0 v1 v2 (fun r T => Q r T ∧ K5 S T) S := kg_X11_drips_0 h (k5_rf S)
set_option maxRecDepth 20000 in
set_option maxHeartbeats 1000000 in
theorem kg_X11_isSpeed_0 {Q : Int32 → HS → Prop} {v0 : Nat} {v1 : Int32} {v2 : Int32} {S0 S : HS} (h : P_X11_isSpeed_0 Q v0 v1 v2 S) (K : K5 S0 S) : P_X11_isSpeed_0 (fun r T => Q r T ∧ K5 S0 T) v0 v1 v2 S := by
  delta P_X11_isSpeed_0 at h ⊢
  obtain ⟨c1, h⟩ := h
  refine ⟨c1, ?_⟩
  have n2 := k5_ne K c1
  obtain ⟨b3, e4, h⟩ := h
  refine ⟨b3, e4, ?_⟩
  obtain ⟨c5, h⟩ := h
  refine ⟨c5, ?_⟩
  have n6 := k5_ne K c5
  obtain ⟨b7, e8, h⟩ := h
  refine ⟨b7, e8, ?_⟩
  obtain ⟨c9, h⟩ := h
  refine ⟨c9, ?_⟩
  have n10 := k5_ne K c9
  obtain ⟨c11, h⟩ := h
  refine ⟨c11, ?_⟩
  intro x13 e12
  have h := h x13 e12
  obtain ⟨b14, e15, h⟩ := h
  refine ⟨b14, e15, ?_⟩
  obtain ⟨c16, h⟩ := h
  refine ⟨c16, ?_⟩
  have n17 := k5_ne K c16
  obtain ⟨b18, e19, h⟩ := h
  refine ⟨b18, e19, ?_⟩
  obtain ⟨c20, h⟩ := h
  refine ⟨c20, ?_⟩
  have n21 := k5_ne K c20
  obtain ⟨c22, h⟩ := h
  refine ⟨c22, ?_⟩
  intro x24 e23
  have h := h x24 e23
  refine cm_X11_in (kg_X11_in h) h (fun x25 x26 hp h g27 g28 => ?_)
  have h := h g27 g28
  have K := k5_tr K hp.2
  obtain ⟨c29, h⟩ := h
  refine ⟨c29, ?_⟩
  exact ⟨h, K⟩
theorem kg_X11_isSpeed {Q : Int32 → HS → Prop} {v0 : Nat} {v1 : Int32} {v2 : Int32} {S : HS} (h : P_X11_isSpeed v0 v1 v2 Q S) : P_X11_isSpeed v0 v1 v2 (fun r T => Q r T ∧ K5 S T) S := kg_X11_isSpeed_0 h (k5_rf S)
set_option maxRecDepth 20000 in
set_option maxHeartbeats 1000000 in
theorem kg_X11_refuses_0 {Q : Int32 → HS → Prop} {v0 : Nat} {v1 : Int32} {v2 : Int32} {v3 : Int32} {v4 : Int32} {v5 : Int32} {S0 S : HS} (h : P_X11_refuses_0 Q v0 v1 v2 v3 v4 v5 S) (K : K5 S0 S) : P_X11_refuses_0 (fun r T => Q r T ∧ K5 S0 T) v0 v1 v2 v3 v4 v5 S := by
  delta P_X11_refuses_0 at h ⊢
  obtain ⟨c1, h⟩ := h
  refine ⟨c1, ?_⟩
  have n2 := k5_ne K c1
  refine cm_X11_isWalker (kg_X11_isWalker h) h (fun x3 x4 hp h g5 g6 => ?_)
  have h := h g5 g6
  have K := k5_tr K hp.2
  refine ⟨?_, ?_⟩
  · intro c7
    have h := h.1 c7
    exact ⟨h, K⟩
  · intro c8
    have h := h.2 c8
    refine cm_X11_isRoad (kg_X11_isRoad h) h (fun x9 x10 hp h g11 g12 => ?_)
    have h := h g11 g12
    have K := k5_tr K hp.2
    refine ⟨?_, ?_⟩
    · intro c13
      have h := h.1 c13
      exact ⟨h, K⟩
    · intro c14
      have h := h.2 c14
      refine cm_X11_in (kg_X11_in h) h (fun x15 x16 hp h g17 g18 => ?_)
      have h := h g17 g18
      have K := k5_tr K hp.2
      refine ⟨?_, ?_⟩
      · intro c19
        have h := h.1 c19
        exact ⟨h, K⟩
      · intro c20
        have h := h.2 c20
        refine cm_X11_isHour (kg_X11_isHour h) h (fun x21 x22 hp h g23 g24 => ?_)
        have h := h g23 g24
        have K := k5_tr K hp.2
        refine ⟨?_, ?_⟩
        · intro c25
          have h := h.1 c25
          refine cm_X11_isSpeed (kg_X11_isSpeed h) h (fun x26 x27 hp h g28 g29 => ?_)
          have h := h g28 g29
          have K := k5_tr K hp.2
          refine ⟨?_, ?_⟩
          · intro c30
            have h := h.1 c30
            exact ⟨h, K⟩
          · intro c31
            have h := h.2 c31
            exact ⟨h, K⟩
        · intro c32
          have h := h.2 c32
          exact ⟨h, K⟩
theorem kg_X11_refuses {Q : Int32 → HS → Prop} {v0 : Nat} {v1 : Int32} {v2 : Int32} {v3 : Int32} {v4 : Int32} {v5 : Int32} {S : HS} (h : P_X11_refuses v0 v1 v2 v3 v4 v5 Q S) : P_X11_refuses v0 v1 v2 v3 v4 v5 (fun r T => Q r T ∧ K5 S T) S := kg_X11_refuses_0 h (k5_rf S)
set_option maxRecDepth 20000 in
set_option maxHeartbeats 1000000 in
theorem kg_X11_refusesTwo_0 {Q : Int32 → HS → Prop} {v0 : Nat} {v1 : Int32} {v2 : Int32} {v3 : Int32} {v4 : Int32} {v5 : Int32} {v6 : Int32} {S0 S : HS} (h : P_X11_refusesTwo_0 Q v0 v1 v2 v3 v4 v5 v6 S) (K : K5 S0 S) : P_X11_refusesTwo_0 (fun r T => Q r T ∧ K5 S0 T) v0 v1 v2 v3 v4 v5 v6 S := by
  delta P_X11_refusesTwo_0 at h ⊢
  refine ⟨?_, ?_⟩
  · intro c1
    have h := h.1 c1
    exact ⟨h, K⟩
  · intro c2
    have h := h.2 c2
    obtain ⟨c3, h⟩ := h
    refine ⟨c3, ?_⟩
    have n4 := k5_ne K c3
    refine cm_X11_isWalker (kg_X11_isWalker h) h (fun x5 x6 hp h g7 g8 => ?_)
    have h := h g7 g8
    have K := k5_tr K hp.2
    refine ⟨?_, ?_⟩
    · intro c9
      have h := h.1 c9
      refine cm_X11_refuses (kg_X11_refuses h) h (fun x10 x11 hp h g12 => ?_)
      have h := h g12
      have K := k5_tr K hp.2
      refine ⟨?_, ?_⟩
      · intro c13
        have h := h.1 c13
        refine cm_X11_isSpeed (kg_X11_isSpeed h) h (fun x14 x15 hp h g16 g17 => ?_)
        have h := h g16 g17
        have K := k5_tr K hp.2
        refine ⟨?_, ?_⟩
        · intro c18
          have h := h.1 c18
          exact ⟨h, K⟩
        · intro c19
          have h := h.2 c19
          exact ⟨h, K⟩
      · intro c20
        have h := h.2 c20
        exact ⟨h, K⟩
    · intro c21
      have h := h.2 c21
      exact ⟨h, K⟩
theorem kg_X11_refusesTwo {Q : Int32 → HS → Prop} {v0 : Nat} {v1 : Int32} {v2 : Int32} {v3 : Int32} {v4 : Int32} {v5 : Int32} {v6 : Int32} {S : HS} (h : P_X11_refusesTwo v0 v1 v2 v3 v4 v5 v6 Q S) : P_X11_refusesTwo v0 v1 v2 v3 v4 v5 v6 (fun r T => Q r T ∧ K5 S T) S := kg_X11_refusesTwo_0 h (k5_rf S)
set_option maxRecDepth 20000 in
set_option maxHeartbeats 1000000 in
theorem kgB_X11_together_6 {Q : Int64 → HS → Prop} {X6 X6_2 : Nat → Int32 → Int32 → Int32 → Int32 → Int32 → Int32 → Int64 → Int32 → HS → Prop} {v0 : Nat} {v1 : Int32} {v2 : Int32} {v3 : Int32} {v4 : Int32} {v5 : Int32} {v6 : Int32} {v7 : Int64} {v9 : Int32} {S0 S : HS} (h : B_X11_together_6 Q X6 v0 v1 v2 v3 v4 v5 v6 v7 v9 S) (K : K5 S0 S) (hX6 : ∀ (u0 : Nat) (u1 : Int32) (u2 : Int32) (u3 : Int32) (u4 : Int32) (u5 : Int32) (u6 : Int32) (u7 : Int64) (u8 : Int32) (u9 : HS), X6 u0 u1 u2 u3 u4 u5 u6 u7 u8 u9 → K5 S0 u9 → X6_2 u0 u1 u2 u3 u4 u5 u6 u7 u8 u9) : B_X11_together_6 (fun r T => Q r T ∧ K5 S0 T) X6_2 v0 v1 v2 v3 v4 v5 v6 v7 v9 S := by
  delta B_X11_together_6 at h ⊢
  refine ⟨?_, ?_⟩
  · intro c1
    have h := h.1 c1
    obtain ⟨c2, h⟩ := h
    refine ⟨c2, ?_⟩
    have n3 := k5_ne K c2
    obtain ⟨b4, e5, h⟩ := h
    refine ⟨b4, e5, ?_⟩
    obtain ⟨c6, h⟩ := h
    refine ⟨c6, ?_⟩
    have n7 := k5_ne K c6
    obtain ⟨b8, e9, h⟩ := h
    refine ⟨b8, e9, ?_⟩
    obtain ⟨c10, h⟩ := h
    refine ⟨c10, ?_⟩
    have n11 := k5_ne K c10
    obtain ⟨c12, h⟩ := h
    refine ⟨c12, ?_⟩
    intro x14 e13
    have h := h x14 e13
    obtain ⟨b15, e16, h⟩ := h
    refine ⟨b15, e16, ?_⟩
    obtain ⟨c17, h⟩ := h
    refine ⟨c17, ?_⟩
    have n18 := k5_ne K c17
    obtain ⟨b19, e20, h⟩ := h
    refine ⟨b19, e20, ?_⟩
    obtain ⟨c21, h⟩ := h
    refine ⟨c21, ?_⟩
    have n22 := k5_ne K c21
    obtain ⟨c23, h⟩ := h
    refine ⟨c23, ?_⟩
    intro x25 e24
    have h := h x25 e24
    obtain ⟨c26, h⟩ := h
    refine ⟨c26, ?_⟩
    intro x28 e27
    have h := h x28 e27
    exact ⟨h, K⟩
  · intro c29
    have h := h.2 c29
    obtain ⟨c30, h⟩ := h
    refine ⟨c30, ?_⟩
    have n31 := k5_ne K c30
    obtain ⟨b32, e33, h⟩ := h
    refine ⟨b32, e33, ?_⟩
    obtain ⟨c34, h⟩ := h
    refine ⟨c34, ?_⟩
    have n35 := k5_ne K c34
    obtain ⟨b36, e37, h⟩ := h
    refine ⟨b36, e37, ?_⟩
    obtain ⟨c38, h⟩ := h
    refine ⟨c38, ?_⟩
    have n39 := k5_ne K c38
    obtain ⟨c40, h⟩ := h
    refine ⟨c40, ?_⟩
    intro x42 e41
    have h := h x42 e41
    refine cm_X11_inTime (kg_X11_inTime h) h (fun x43 x44 hp h g45 => ?_)
    have h := h g45
    have K := k5_tr K hp.2
    intro x47 e46
    have h := h x47 e46
    obtain ⟨b48, e49, h⟩ := h
    refine ⟨b48, e49, ?_⟩
    obtain ⟨c50, h⟩ := h
    refine ⟨c50, ?_⟩
    have n51 := k5_ne K c50
    obtain ⟨b52, e53, h⟩ := h
    refine ⟨b52, e53, ?_⟩
    obtain ⟨c54, h⟩ := h
    refine ⟨c54, ?_⟩
    have n55 := k5_ne K c54
    obtain ⟨c56, h⟩ := h
    refine ⟨c56, ?_⟩
    intro x58 e57
    have h := h x58 e57
    refine cm_X11_inTime (kg_X11_inTime h) h (fun x59 x60 hp h g61 => ?_)
    have h := h g61
    have K := k5_tr K hp.2
    intro x63 e62
    have h := h x63 e62
    intro x65 e64
    have h := h x65 e64
    exact hX6 _ _ _ _ _ _ _ _ _ _ h K
theorem kg_X11_together_6 {Q : Int64 → HS → Prop} {v0 : Nat} {v1 : Int32} {v2 : Int32} {v3 : Int32} {v4 : Int32} {v5 : Int32} {v6 : Int32} {v7 : Int64} {v9 : Int32} {S0 S : HS} (h : P_X11_together_6 Q v0 v1 v2 v3 v4 v5 v6 v7 v9 S) (K : K5 S0 S) : P_X11_together_6 (fun r T => Q r T ∧ K5 S0 T) v0 v1 v2 v3 v4 v5 v6 v7 v9 S := h (fun v0 v1 v2 v3 v4 v5 v6 v7 v9 S => K5 S0 S → P_X11_together_6 (fun r T => Q r T ∧ K5 S0 T) v0 v1 v2 v3 v4 v5 v6 v7 v9 S) (fun v0 v1 v2 v3 v4 v5 v6 v7 v9 S hB K => fd_X11_together_6 (kgB_X11_together_6 hB K (fun _ _ _ _ _ _ _ _ _ _ hx K => hx K))) K
set_option maxRecDepth 20000 in
set_option maxHeartbeats 1000000 in
theorem kg_X11_together_0 {Q : Int64 → HS → Prop} {v0 : Nat} {v1 : Int32} {v2 : Int32} {v3 : Int32} {v4 : Int32} {v5 : Int32} {v6 : Int32} {S0 S : HS} (h : P_X11_together_0 Q v0 v1 v2 v3 v4 v5 v6 S) (K : K5 S0 S) : P_X11_together_0 (fun r T => Q r T ∧ K5 S0 T) v0 v1 v2 v3 v4 v5 v6 S := by
  delta P_X11_together_0 at h ⊢
  exact kg_X11_together_6 h K
theorem kg_X11_together {Q : Int64 → HS → Prop} {v0 : Nat} {v1 : Int32} {v2 : Int32} {v3 : Int32} {v4 : Int32} {v5 : Int32} {v6 : Int32} {S : HS} (h : P_X11_together v0 v1 v2 v3 v4 v5 v6 Q S) : P_X11_together v0 v1 v2 v3 v4 v5 v6 (fun r T => Q r T ∧ K5 S T) S := kg_X11_together_0 h (k5_rf S)
set_option maxRecDepth 20000 in
set_option maxHeartbeats 1000000 in
theorem kg_X11_fitOf_137 {Q : Int32 → HS → Prop} {X16 X16_2 : Nat → Int32 → Int32 → Int32 → Int32 → Int32 → HS → Prop} {X31 X31_2 : Nat → Int32 → Int32 → Int32 → Int32 → Int32 → Int32 → HS → Prop} {X40 X40_2 : Nat → Int32 → Int32 → Int32 → Int32 → Int32 → Int32 → Int32 → HS → Prop} {X63 X63_2 : Nat → Int32 → Int32 → Int32 → Int32 → Int32 → Int32 → Int32 → Int32 → HS → Prop} {X83 X83_2 : Nat → Int32 → Int32 → Int32 → Int32 → Int32 → Int32 → Int32 → Int32 → Int32 → Int32 → HS → Prop} {v0 : Nat} {v1 : Int32} {v2 : Int32} {v3 : Int32} {v4 : Int32} {v5 : Int32} {v6 : Int32} {v7 : Int32} {v8 : Int32} {v10 : Int32} {s0 : Int32} {S0 S : HS} (h : P_X11_fitOf_137 Q X16 X31 X40 X63 X83 v0 v1 v2 v3 v4 v5 v6 v7 v8 v10 s0 S) (K : K5 S0 S) (hX16 : ∀ (u0 : Nat) (u1 : Int32) (u2 : Int32) (u3 : Int32) (u4 : Int32) (u5 : Int32) (u6 : HS), X16 u0 u1 u2 u3 u4 u5 u6 → K5 S0 u6 → X16_2 u0 u1 u2 u3 u4 u5 u6) (hX31 : ∀ (u0 : Nat) (u1 : Int32) (u2 : Int32) (u3 : Int32) (u4 : Int32) (u5 : Int32) (u6 : Int32) (u7 : HS), X31 u0 u1 u2 u3 u4 u5 u6 u7 → K5 S0 u7 → X31_2 u0 u1 u2 u3 u4 u5 u6 u7) (hX40 : ∀ (u0 : Nat) (u1 : Int32) (u2 : Int32) (u3 : Int32) (u4 : Int32) (u5 : Int32) (u6 : Int32) (u7 : Int32) (u8 : HS), X40 u0 u1 u2 u3 u4 u5 u6 u7 u8 → K5 S0 u8 → X40_2 u0 u1 u2 u3 u4 u5 u6 u7 u8) (hX63 : ∀ (u0 : Nat) (u1 : Int32) (u2 : Int32) (u3 : Int32) (u4 : Int32) (u5 : Int32) (u6 : Int32) (u7 : Int32) (u8 : Int32) (u9 : HS), X63 u0 u1 u2 u3 u4 u5 u6 u7 u8 u9 → K5 S0 u9 → X63_2 u0 u1 u2 u3 u4 u5 u6 u7 u8 u9) (hX83 : ∀ (u0 : Nat) (u1 : Int32) (u2 : Int32) (u3 : Int32) (u4 : Int32) (u5 : Int32) (u6 : Int32) (u7 : Int32) (u8 : Int32) (u9 : Int32) (u10 : Int32) (u11 : HS), X83 u0 u1 u2 u3 u4 u5 u6 u7 u8 u9 u10 u11 → K5 S0 u11 → X83_2 u0 u1 u2 u3 u4 u5 u6 u7 u8 u9 u10 u11) : P_X11_fitOf_137 (fun r T => Q r T ∧ K5 S0 T) X16_2 X31_2 X40_2 X63_2 X83_2 v0 v1 v2 v3 v4 v5 v6 v7 v8 v10 s0 S := by
  delta P_X11_fitOf_137 at h ⊢
  intro x2 e1
  have h := h x2 e1
  exact hX83 _ _ _ _ _ _ _ _ _ _ _ _ h K
set_option maxRecDepth 20000 in
set_option maxHeartbeats 1000000 in
theorem kg_X11_fitOf_136 {Q : Int32 → HS → Prop} {X16 X16_2 : Nat → Int32 → Int32 → Int32 → Int32 → Int32 → HS → Prop} {X31 X31_2 : Nat → Int32 → Int32 → Int32 → Int32 → Int32 → Int32 → HS → Prop} {X40 X40_2 : Nat → Int32 → Int32 → Int32 → Int32 → Int32 → Int32 → Int32 → HS → Prop} {X63 X63_2 : Nat → Int32 → Int32 → Int32 → Int32 → Int32 → Int32 → Int32 → Int32 → HS → Prop} {X83 X83_2 : Nat → Int32 → Int32 → Int32 → Int32 → Int32 → Int32 → Int32 → Int32 → Int32 → Int32 → HS → Prop} {v0 : Nat} {v1 : Int32} {v2 : Int32} {v3 : Int32} {v4 : Int32} {v5 : Int32} {v6 : Int32} {v7 : Int32} {v8 : Int32} {v10 : Int32} {S0 S : HS} (h : P_X11_fitOf_136 Q X16 X31 X40 X63 X83 v0 v1 v2 v3 v4 v5 v6 v7 v8 v10 S) (K : K5 S0 S) (hX16 : ∀ (u0 : Nat) (u1 : Int32) (u2 : Int32) (u3 : Int32) (u4 : Int32) (u5 : Int32) (u6 : HS), X16 u0 u1 u2 u3 u4 u5 u6 → K5 S0 u6 → X16_2 u0 u1 u2 u3 u4 u5 u6) (hX31 : ∀ (u0 : Nat) (u1 : Int32) (u2 : Int32) (u3 : Int32) (u4 : Int32) (u5 : Int32) (u6 : Int32) (u7 : HS), X31 u0 u1 u2 u3 u4 u5 u6 u7 → K5 S0 u7 → X31_2 u0 u1 u2 u3 u4 u5 u6 u7) (hX40 : ∀ (u0 : Nat) (u1 : Int32) (u2 : Int32) (u3 : Int32) (u4 : Int32) (u5 : Int32) (u6 : Int32) (u7 : Int32) (u8 : HS), X40 u0 u1 u2 u3 u4 u5 u6 u7 u8 → K5 S0 u8 → X40_2 u0 u1 u2 u3 u4 u5 u6 u7 u8) (hX63 : ∀ (u0 : Nat) (u1 : Int32) (u2 : Int32) (u3 : Int32) (u4 : Int32) (u5 : Int32) (u6 : Int32) (u7 : Int32) (u8 : Int32) (u9 : HS), X63 u0 u1 u2 u3 u4 u5 u6 u7 u8 u9 → K5 S0 u9 → X63_2 u0 u1 u2 u3 u4 u5 u6 u7 u8 u9) (hX83 : ∀ (u0 : Nat) (u1 : Int32) (u2 : Int32) (u3 : Int32) (u4 : Int32) (u5 : Int32) (u6 : Int32) (u7 : Int32) (u8 : Int32) (u9 : Int32) (u10 : Int32) (u11 : HS), X83 u0 u1 u2 u3 u4 u5 u6 u7 u8 u9 u10 u11 → K5 S0 u11 → X83_2 u0 u1 u2 u3 u4 u5 u6 u7 u8 u9 u10 u11) : P_X11_fitOf_136 (fun r T => Q r T ∧ K5 S0 T) X16_2 X31_2 X40_2 X63_2 X83_2 v0 v1 v2 v3 v4 v5 v6 v7 v8 v10 S := by
  delta P_X11_fitOf_136 at h ⊢
  exact kg_X11_fitOf_137 h K hX16 hX31 hX40 hX63 hX83
set_option maxRecDepth 20000 in
set_option maxHeartbeats 1000000 in
theorem kg_X11_fitOf_184 {Q : Int32 → HS → Prop} {X16 X16_2 : Nat → Int32 → Int32 → Int32 → Int32 → Int32 → HS → Prop} {X31 X31_2 : Nat → Int32 → Int32 → Int32 → Int32 → Int32 → Int32 → HS → Prop} {X40 X40_2 : Nat → Int32 → Int32 → Int32 → Int32 → Int32 → Int32 → Int32 → HS → Prop} {X63 X63_2 : Nat → Int32 → Int32 → Int32 → Int32 → Int32 → Int32 → Int32 → Int32 → HS → Prop} {v0 : Nat} {v1 : Int32} {v2 : Int32} {v3 : Int32} {v4 : Int32} {v5 : Int32} {v6 : Int32} {v7 : Int32} {v8 : Int32} {S0 S : HS} (h : P_X11_fitOf_184 Q X16 X31 X40 X63 v0 v1 v2 v3 v4 v5 v6 v7 v8 S) (K : K5 S0 S) (hX16 : ∀ (u0 : Nat) (u1 : Int32) (u2 : Int32) (u3 : Int32) (u4 : Int32) (u5 : Int32) (u6 : HS), X16 u0 u1 u2 u3 u4 u5 u6 → K5 S0 u6 → X16_2 u0 u1 u2 u3 u4 u5 u6) (hX31 : ∀ (u0 : Nat) (u1 : Int32) (u2 : Int32) (u3 : Int32) (u4 : Int32) (u5 : Int32) (u6 : Int32) (u7 : HS), X31 u0 u1 u2 u3 u4 u5 u6 u7 → K5 S0 u7 → X31_2 u0 u1 u2 u3 u4 u5 u6 u7) (hX40 : ∀ (u0 : Nat) (u1 : Int32) (u2 : Int32) (u3 : Int32) (u4 : Int32) (u5 : Int32) (u6 : Int32) (u7 : Int32) (u8 : HS), X40 u0 u1 u2 u3 u4 u5 u6 u7 u8 → K5 S0 u8 → X40_2 u0 u1 u2 u3 u4 u5 u6 u7 u8) (hX63 : ∀ (u0 : Nat) (u1 : Int32) (u2 : Int32) (u3 : Int32) (u4 : Int32) (u5 : Int32) (u6 : Int32) (u7 : Int32) (u8 : Int32) (u9 : HS), X63 u0 u1 u2 u3 u4 u5 u6 u7 u8 u9 → K5 S0 u9 → X63_2 u0 u1 u2 u3 u4 u5 u6 u7 u8 u9) : P_X11_fitOf_184 (fun r T => Q r T ∧ K5 S0 T) X16_2 X31_2 X40_2 X63_2 v0 v1 v2 v3 v4 v5 v6 v7 v8 S := by
  delta P_X11_fitOf_184 at h ⊢
  intro x2 e1
  have h := h x2 e1
  exact hX63 _ _ _ _ _ _ _ _ _ _ h K
set_option maxRecDepth 20000 in
set_option maxHeartbeats 1000000 in
theorem kgB_X11_fitOf_83 {Q : Int32 → HS → Prop} {X16 X16_2 : Nat → Int32 → Int32 → Int32 → Int32 → Int32 → HS → Prop} {X31 X31_2 : Nat → Int32 → Int32 → Int32 → Int32 → Int32 → Int32 → HS → Prop} {X40 X40_2 : Nat → Int32 → Int32 → Int32 → Int32 → Int32 → Int32 → Int32 → HS → Prop} {X63 X63_2 : Nat → Int32 → Int32 → Int32 → Int32 → Int32 → Int32 → Int32 → Int32 → HS → Prop} {X83 X83_2 : Nat → Int32 → Int32 → Int32 → Int32 → Int32 → Int32 → Int32 → Int32 → Int32 → Int32 → HS → Prop} {v0 : Nat} {v1 : Int32} {v2 : Int32} {v3 : Int32} {v4 : Int32} {v5 : Int32} {v6 : Int32} {v7 : Int32} {v8 : Int32} {v9 : Int32} {v10 : Int32} {S0 S : HS} (h : B_X11_fitOf_83 Q X16 X31 X40 X63 X83 v0 v1 v2 v3 v4 v5 v6 v7 v8 v9 v10 S) (K : K5 S0 S) (hX16 : ∀ (u0 : Nat) (u1 : Int32) (u2 : Int32) (u3 : Int32) (u4 : Int32) (u5 : Int32) (u6 : HS), X16 u0 u1 u2 u3 u4 u5 u6 → K5 S0 u6 → X16_2 u0 u1 u2 u3 u4 u5 u6) (hX31 : ∀ (u0 : Nat) (u1 : Int32) (u2 : Int32) (u3 : Int32) (u4 : Int32) (u5 : Int32) (u6 : Int32) (u7 : HS), X31 u0 u1 u2 u3 u4 u5 u6 u7 → K5 S0 u7 → X31_2 u0 u1 u2 u3 u4 u5 u6 u7) (hX40 : ∀ (u0 : Nat) (u1 : Int32) (u2 : Int32) (u3 : Int32) (u4 : Int32) (u5 : Int32) (u6 : Int32) (u7 : Int32) (u8 : HS), X40 u0 u1 u2 u3 u4 u5 u6 u7 u8 → K5 S0 u8 → X40_2 u0 u1 u2 u3 u4 u5 u6 u7 u8) (hX63 : ∀ (u0 : Nat) (u1 : Int32) (u2 : Int32) (u3 : Int32) (u4 : Int32) (u5 : Int32) (u6 : Int32) (u7 : Int32) (u8 : Int32) (u9 : HS), X63 u0 u1 u2 u3 u4 u5 u6 u7 u8 u9 → K5 S0 u9 → X63_2 u0 u1 u2 u3 u4 u5 u6 u7 u8 u9) (hX83 : ∀ (u0 : Nat) (u1 : Int32) (u2 : Int32) (u3 : Int32) (u4 : Int32) (u5 : Int32) (u6 : Int32) (u7 : Int32) (u8 : Int32) (u9 : Int32) (u10 : Int32) (u11 : HS), X83 u0 u1 u2 u3 u4 u5 u6 u7 u8 u9 u10 u11 → K5 S0 u11 → X83_2 u0 u1 u2 u3 u4 u5 u6 u7 u8 u9 u10 u11) : B_X11_fitOf_83 (fun r T => Q r T ∧ K5 S0 T) X16_2 X31_2 X40_2 X63_2 X83_2 v0 v1 v2 v3 v4 v5 v6 v7 v8 v9 v10 S := by
  delta B_X11_fitOf_83 at h ⊢
  refine ⟨?_, ?_⟩
  · intro c1
    have h := h.1 c1
    refine ⟨?_, ?_⟩
    · intro c2
      have h := h.1 c2
      refine ⟨?_, ?_⟩
      · intro c3
        have h := h.1 c3
        intro x5 e4
        have h := h x5 e4
        exact kg_X11_fitOf_184 h K hX16 hX31 hX40 hX63
      · intro c6
        have h := h.2 c6
        exact ⟨h, K⟩
    · intro c7
      have h := h.2 c7
      exact kg_X11_fitOf_184 h K hX16 hX31 hX40 hX63
  · intro c8
    have h := h.2 c8
    refine ⟨?_, ?_⟩
    · intro c9
      have h := h.1 c9
      exact kg_X11_fitOf_136 h K hX16 hX31 hX40 hX63 hX83
    · intro c10
      have h := h.2 c10
      obtain ⟨c11, h⟩ := h
      refine ⟨c11, ?_⟩
      have n12 := k5_ne K c11
      refine cm_X11_partsOf (kg_X11_partsOf h) h (fun x13 x14 hp h g15 => ?_)
      have h := h g15
      have K := k5_tr K hp.2
      obtain ⟨b16, e17, h⟩ := h
      refine ⟨b16, e17, ?_⟩
      obtain ⟨c18, h⟩ := h
      refine ⟨c18, ?_⟩
      have n19 := k5_ne K c18
      obtain ⟨b20, e21, h⟩ := h
      refine ⟨b20, e21, ?_⟩
      obtain ⟨c22, h⟩ := h
      refine ⟨c22, ?_⟩
      have n23 := k5_ne K c22
      intro x25 e24
      have h := h x25 e24
      obtain ⟨c26, h⟩ := h
      refine ⟨c26, ?_⟩
      intro x28 e27
      have h := h x28 e27
      refine ⟨?_, ?_⟩
      · intro c29
        have h := h.1 c29
        exact kg_X11_fitOf_136 h K hX16 hX31 hX40 hX63 hX83
      · intro c30
        have h := h.2 c30
        exact kg_X11_fitOf_137 h K hX16 hX31 hX40 hX63 hX83
theorem kg_X11_fitOf_83 {Q : Int32 → HS → Prop} {X16 X16_2 : Nat → Int32 → Int32 → Int32 → Int32 → Int32 → HS → Prop} {X31 X31_2 : Nat → Int32 → Int32 → Int32 → Int32 → Int32 → Int32 → HS → Prop} {X40 X40_2 : Nat → Int32 → Int32 → Int32 → Int32 → Int32 → Int32 → Int32 → HS → Prop} {X63 X63_2 : Nat → Int32 → Int32 → Int32 → Int32 → Int32 → Int32 → Int32 → Int32 → HS → Prop} {v0 : Nat} {v1 : Int32} {v2 : Int32} {v3 : Int32} {v4 : Int32} {v5 : Int32} {v6 : Int32} {v7 : Int32} {v8 : Int32} {v9 : Int32} {v10 : Int32} {S0 S : HS} (h : P_X11_fitOf_83 Q X16 X31 X40 X63 v0 v1 v2 v3 v4 v5 v6 v7 v8 v9 v10 S) (K : K5 S0 S) (hX16 : ∀ (u0 : Nat) (u1 : Int32) (u2 : Int32) (u3 : Int32) (u4 : Int32) (u5 : Int32) (u6 : HS), X16 u0 u1 u2 u3 u4 u5 u6 → K5 S0 u6 → X16_2 u0 u1 u2 u3 u4 u5 u6) (hX31 : ∀ (u0 : Nat) (u1 : Int32) (u2 : Int32) (u3 : Int32) (u4 : Int32) (u5 : Int32) (u6 : Int32) (u7 : HS), X31 u0 u1 u2 u3 u4 u5 u6 u7 → K5 S0 u7 → X31_2 u0 u1 u2 u3 u4 u5 u6 u7) (hX40 : ∀ (u0 : Nat) (u1 : Int32) (u2 : Int32) (u3 : Int32) (u4 : Int32) (u5 : Int32) (u6 : Int32) (u7 : Int32) (u8 : HS), X40 u0 u1 u2 u3 u4 u5 u6 u7 u8 → K5 S0 u8 → X40_2 u0 u1 u2 u3 u4 u5 u6 u7 u8) (hX63 : ∀ (u0 : Nat) (u1 : Int32) (u2 : Int32) (u3 : Int32) (u4 : Int32) (u5 : Int32) (u6 : Int32) (u7 : Int32) (u8 : Int32) (u9 : HS), X63 u0 u1 u2 u3 u4 u5 u6 u7 u8 u9 → K5 S0 u9 → X63_2 u0 u1 u2 u3 u4 u5 u6 u7 u8 u9) : P_X11_fitOf_83 (fun r T => Q r T ∧ K5 S0 T) X16_2 X31_2 X40_2 X63_2 v0 v1 v2 v3 v4 v5 v6 v7 v8 v9 v10 S := h (fun v0 v1 v2 v3 v4 v5 v6 v7 v8 v9 v10 S => K5 S0 S → P_X11_fitOf_83 (fun r T => Q r T ∧ K5 S0 T) X16_2 X31_2 X40_2 X63_2 v0 v1 v2 v3 v4 v5 v6 v7 v8 v9 v10 S) (fun v0 v1 v2 v3 v4 v5 v6 v7 v8 v9 v10 S hB K => fd_X11_fitOf_83 (kgB_X11_fitOf_83 hB K hX16 hX31 hX40 hX63 (fun _ _ _ _ _ _ _ _ _ _ _ _ hx K => hx K))) K
set_option maxRecDepth 20000 in
set_option maxHeartbeats 1000000 in
theorem kgB_X11_fitOf_63 {Q : Int32 → HS → Prop} {X16 X16_2 : Nat → Int32 → Int32 → Int32 → Int32 → Int32 → HS → Prop} {X31 X31_2 : Nat → Int32 → Int32 → Int32 → Int32 → Int32 → Int32 → HS → Prop} {X40 X40_2 : Nat → Int32 → Int32 → Int32 → Int32 → Int32 → Int32 → Int32 → HS → Prop} {X63 X63_2 : Nat → Int32 → Int32 → Int32 → Int32 → Int32 → Int32 → Int32 → Int32 → HS → Prop} {v0 : Nat} {v1 : Int32} {v2 : Int32} {v3 : Int32} {v4 : Int32} {v5 : Int32} {v6 : Int32} {v7 : Int32} {v8 : Int32} {S0 S : HS} (h : B_X11_fitOf_63 Q X16 X31 X40 X63 v0 v1 v2 v3 v4 v5 v6 v7 v8 S) (K : K5 S0 S) (hX16 : ∀ (u0 : Nat) (u1 : Int32) (u2 : Int32) (u3 : Int32) (u4 : Int32) (u5 : Int32) (u6 : HS), X16 u0 u1 u2 u3 u4 u5 u6 → K5 S0 u6 → X16_2 u0 u1 u2 u3 u4 u5 u6) (hX31 : ∀ (u0 : Nat) (u1 : Int32) (u2 : Int32) (u3 : Int32) (u4 : Int32) (u5 : Int32) (u6 : Int32) (u7 : HS), X31 u0 u1 u2 u3 u4 u5 u6 u7 → K5 S0 u7 → X31_2 u0 u1 u2 u3 u4 u5 u6 u7) (hX40 : ∀ (u0 : Nat) (u1 : Int32) (u2 : Int32) (u3 : Int32) (u4 : Int32) (u5 : Int32) (u6 : Int32) (u7 : Int32) (u8 : HS), X40 u0 u1 u2 u3 u4 u5 u6 u7 u8 → K5 S0 u8 → X40_2 u0 u1 u2 u3 u4 u5 u6 u7 u8) (hX63 : ∀ (u0 : Nat) (u1 : Int32) (u2 : Int32) (u3 : Int32) (u4 : Int32) (u5 : Int32) (u6 : Int32) (u7 : Int32) (u8 : Int32) (u9 : HS), X63 u0 u1 u2 u3 u4 u5 u6 u7 u8 u9 → K5 S0 u9 → X63_2 u0 u1 u2 u3 u4 u5 u6 u7 u8 u9) : B_X11_fitOf_63 (fun r T => Q r T ∧ K5 S0 T) X16_2 X31_2 X40_2 X63_2 v0 v1 v2 v3 v4 v5 v6 v7 v8 S := by
  delta B_X11_fitOf_63 at h ⊢
  obtain ⟨c1, h⟩ := h
  refine ⟨c1, ?_⟩
  have n2 := k5_ne K c1
  obtain ⟨b3, e4, h⟩ := h
  refine ⟨b3, e4, ?_⟩
  obtain ⟨c5, h⟩ := h
  refine ⟨c5, ?_⟩
  have n6 := k5_ne K c5
  obtain ⟨b7, e8, h⟩ := h
  refine ⟨b7, e8, ?_⟩
  obtain ⟨c9, h⟩ := h
  refine ⟨c9, ?_⟩
  have n10 := k5_ne K c9
  obtain ⟨c11, h⟩ := h
  refine ⟨c11, ?_⟩
  intro x13 e12
  have h := h x13 e12
  refine ⟨?_, ?_⟩
  · intro c14
    have h := h.1 c14
    intro x16 e15
    have h := h x16 e15
    exact hX40 _ _ _ _ _ _ _ _ _ h K
  · intro c17
    have h := h.2 c17
    exact kg_X11_fitOf_83 h K hX16 hX31 hX40 hX63
theorem kg_X11_fitOf_63 {Q : Int32 → HS → Prop} {X16 X16_2 : Nat → Int32 → Int32 → Int32 → Int32 → Int32 → HS → Prop} {X31 X31_2 : Nat → Int32 → Int32 → Int32 → Int32 → Int32 → Int32 → HS → Prop} {X40 X40_2 : Nat → Int32 → Int32 → Int32 → Int32 → Int32 → Int32 → Int32 → HS → Prop} {v0 : Nat} {v1 : Int32} {v2 : Int32} {v3 : Int32} {v4 : Int32} {v5 : Int32} {v6 : Int32} {v7 : Int32} {v8 : Int32} {S0 S : HS} (h : P_X11_fitOf_63 Q X16 X31 X40 v0 v1 v2 v3 v4 v5 v6 v7 v8 S) (K : K5 S0 S) (hX16 : ∀ (u0 : Nat) (u1 : Int32) (u2 : Int32) (u3 : Int32) (u4 : Int32) (u5 : Int32) (u6 : HS), X16 u0 u1 u2 u3 u4 u5 u6 → K5 S0 u6 → X16_2 u0 u1 u2 u3 u4 u5 u6) (hX31 : ∀ (u0 : Nat) (u1 : Int32) (u2 : Int32) (u3 : Int32) (u4 : Int32) (u5 : Int32) (u6 : Int32) (u7 : HS), X31 u0 u1 u2 u3 u4 u5 u6 u7 → K5 S0 u7 → X31_2 u0 u1 u2 u3 u4 u5 u6 u7) (hX40 : ∀ (u0 : Nat) (u1 : Int32) (u2 : Int32) (u3 : Int32) (u4 : Int32) (u5 : Int32) (u6 : Int32) (u7 : Int32) (u8 : HS), X40 u0 u1 u2 u3 u4 u5 u6 u7 u8 → K5 S0 u8 → X40_2 u0 u1 u2 u3 u4 u5 u6 u7 u8) : P_X11_fitOf_63 (fun r T => Q r T ∧ K5 S0 T) X16_2 X31_2 X40_2 v0 v1 v2 v3 v4 v5 v6 v7 v8 S := h (fun v0 v1 v2 v3 v4 v5 v6 v7 v8 S => K5 S0 S → P_X11_fitOf_63 (fun r T => Q r T ∧ K5 S0 T) X16_2 X31_2 X40_2 v0 v1 v2 v3 v4 v5 v6 v7 v8 S) (fun v0 v1 v2 v3 v4 v5 v6 v7 v8 S hB K => fd_X11_fitOf_63 (kgB_X11_fitOf_63 hB K hX16 hX31 hX40 (fun _ _ _ _ _ _ _ _ _ _ hx K => hx K))) K
set_option maxRecDepth 20000 in
set_option maxHeartbeats 1000000 in
theorem kgB_X11_fitOf_40 {Q : Int32 → HS → Prop} {X16 X16_2 : Nat → Int32 → Int32 → Int32 → Int32 → Int32 → HS → Prop} {X31 X31_2 : Nat → Int32 → Int32 → Int32 → Int32 → Int32 → Int32 → HS → Prop} {X40 X40_2 : Nat → Int32 → Int32 → Int32 → Int32 → Int32 → Int32 → Int32 → HS → Prop} {v0 : Nat} {v1 : Int32} {v2 : Int32} {v3 : Int32} {v4 : Int32} {v5 : Int32} {v6 : Int32} {v7 : Int32} {S0 S : HS} (h : B_X11_fitOf_40 Q X16 X31 X40 v0 v1 v2 v3 v4 v5 v6 v7 S) (K : K5 S0 S) (hX16 : ∀ (u0 : Nat) (u1 : Int32) (u2 : Int32) (u3 : Int32) (u4 : Int32) (u5 : Int32) (u6 : HS), X16 u0 u1 u2 u3 u4 u5 u6 → K5 S0 u6 → X16_2 u0 u1 u2 u3 u4 u5 u6) (hX31 : ∀ (u0 : Nat) (u1 : Int32) (u2 : Int32) (u3 : Int32) (u4 : Int32) (u5 : Int32) (u6 : Int32) (u7 : HS), X31 u0 u1 u2 u3 u4 u5 u6 u7 → K5 S0 u7 → X31_2 u0 u1 u2 u3 u4 u5 u6 u7) (hX40 : ∀ (u0 : Nat) (u1 : Int32) (u2 : Int32) (u3 : Int32) (u4 : Int32) (u5 : Int32) (u6 : Int32) (u7 : Int32) (u8 : HS), X40 u0 u1 u2 u3 u4 u5 u6 u7 u8 → K5 S0 u8 → X40_2 u0 u1 u2 u3 u4 u5 u6 u7 u8) : B_X11_fitOf_40 (fun r T => Q r T ∧ K5 S0 T) X16_2 X31_2 X40_2 v0 v1 v2 v3 v4 v5 v6 v7 S := by
  delta B_X11_fitOf_40 at h ⊢
  obtain ⟨c1, h⟩ := h
  refine ⟨c1, ?_⟩
  have n2 := k5_ne K c1
  obtain ⟨b3, e4, h⟩ := h
  refine ⟨b3, e4, ?_⟩
  obtain ⟨c5, h⟩ := h
  refine ⟨c5, ?_⟩
  have n6 := k5_ne K c5
  intro x8 e7
  have h := h x8 e7
  refine ⟨?_, ?_⟩
  · intro c9
    have h := h.1 c9
    intro x11 e10
    have h := h x11 e10
    exact hX31 _ _ _ _ _ _ _ _ h K
  · intro c12
    have h := h.2 c12
    obtain ⟨b13, e14, h⟩ := h
    refine ⟨b13, e14, ?_⟩
    obtain ⟨c15, h⟩ := h
    refine ⟨c15, ?_⟩
    have n16 := k5_ne K c15
    obtain ⟨b17, e18, h⟩ := h
    refine ⟨b17, e18, ?_⟩
    obtain ⟨c19, h⟩ := h
    refine ⟨c19, ?_⟩
    have n20 := k5_ne K c19
    obtain ⟨c21, h⟩ := h
    refine ⟨c21, ?_⟩
    intro x23 e22
    have h := h x23 e22
    exact kg_X11_fitOf_63 h K hX16 hX31 hX40
theorem kg_X11_fitOf_40 {Q : Int32 → HS → Prop} {X16 X16_2 : Nat → Int32 → Int32 → Int32 → Int32 → Int32 → HS → Prop} {X31 X31_2 : Nat → Int32 → Int32 → Int32 → Int32 → Int32 → Int32 → HS → Prop} {v0 : Nat} {v1 : Int32} {v2 : Int32} {v3 : Int32} {v4 : Int32} {v5 : Int32} {v6 : Int32} {v7 : Int32} {S0 S : HS} (h : P_X11_fitOf_40 Q X16 X31 v0 v1 v2 v3 v4 v5 v6 v7 S) (K : K5 S0 S) (hX16 : ∀ (u0 : Nat) (u1 : Int32) (u2 : Int32) (u3 : Int32) (u4 : Int32) (u5 : Int32) (u6 : HS), X16 u0 u1 u2 u3 u4 u5 u6 → K5 S0 u6 → X16_2 u0 u1 u2 u3 u4 u5 u6) (hX31 : ∀ (u0 : Nat) (u1 : Int32) (u2 : Int32) (u3 : Int32) (u4 : Int32) (u5 : Int32) (u6 : Int32) (u7 : HS), X31 u0 u1 u2 u3 u4 u5 u6 u7 → K5 S0 u7 → X31_2 u0 u1 u2 u3 u4 u5 u6 u7) : P_X11_fitOf_40 (fun r T => Q r T ∧ K5 S0 T) X16_2 X31_2 v0 v1 v2 v3 v4 v5 v6 v7 S := h (fun v0 v1 v2 v3 v4 v5 v6 v7 S => K5 S0 S → P_X11_fitOf_40 (fun r T => Q r T ∧ K5 S0 T) X16_2 X31_2 v0 v1 v2 v3 v4 v5 v6 v7 S) (fun v0 v1 v2 v3 v4 v5 v6 v7 S hB K => fd_X11_fitOf_40 (kgB_X11_fitOf_40 hB K hX16 hX31 (fun _ _ _ _ _ _ _ _ _ hx K => hx K))) K
set_option maxRecDepth 20000 in
set_option maxHeartbeats 1000000 in
theorem kgB_X11_fitOf_31 {Q : Int32 → HS → Prop} {X16 X16_2 : Nat → Int32 → Int32 → Int32 → Int32 → Int32 → HS → Prop} {X31 X31_2 : Nat → Int32 → Int32 → Int32 → Int32 → Int32 → Int32 → HS → Prop} {v0 : Nat} {v1 : Int32} {v2 : Int32} {v3 : Int32} {v4 : Int32} {v5 : Int32} {v6 : Int32} {S0 S : HS} (h : B_X11_fitOf_31 Q X16 X31 v0 v1 v2 v3 v4 v5 v6 S) (K : K5 S0 S) (hX16 : ∀ (u0 : Nat) (u1 : Int32) (u2 : Int32) (u3 : Int32) (u4 : Int32) (u5 : Int32) (u6 : HS), X16 u0 u1 u2 u3 u4 u5 u6 → K5 S0 u6 → X16_2 u0 u1 u2 u3 u4 u5 u6) (hX31 : ∀ (u0 : Nat) (u1 : Int32) (u2 : Int32) (u3 : Int32) (u4 : Int32) (u5 : Int32) (u6 : Int32) (u7 : HS), X31 u0 u1 u2 u3 u4 u5 u6 u7 → K5 S0 u7 → X31_2 u0 u1 u2 u3 u4 u5 u6 u7) : B_X11_fitOf_31 (fun r T => Q r T ∧ K5 S0 T) X16_2 X31_2 v0 v1 v2 v3 v4 v5 v6 S := by
  delta B_X11_fitOf_31 at h ⊢
  refine ⟨?_, ?_⟩
  · intro c1
    have h := h.1 c1
    intro x3 e2
    have h := h x3 e2
    exact hX16 _ _ _ _ _ _ _ h K
  · intro c4
    have h := h.2 c4
    exact kg_X11_fitOf_40 h K hX16 hX31
theorem kg_X11_fitOf_31 {Q : Int32 → HS → Prop} {X16 X16_2 : Nat → Int32 → Int32 → Int32 → Int32 → Int32 → HS → Prop} {v0 : Nat} {v1 : Int32} {v2 : Int32} {v3 : Int32} {v4 : Int32} {v5 : Int32} {v6 : Int32} {S0 S : HS} (h : P_X11_fitOf_31 Q X16 v0 v1 v2 v3 v4 v5 v6 S) (K : K5 S0 S) (hX16 : ∀ (u0 : Nat) (u1 : Int32) (u2 : Int32) (u3 : Int32) (u4 : Int32) (u5 : Int32) (u6 : HS), X16 u0 u1 u2 u3 u4 u5 u6 → K5 S0 u6 → X16_2 u0 u1 u2 u3 u4 u5 u6) : P_X11_fitOf_31 (fun r T => Q r T ∧ K5 S0 T) X16_2 v0 v1 v2 v3 v4 v5 v6 S := h (fun v0 v1 v2 v3 v4 v5 v6 S => K5 S0 S → P_X11_fitOf_31 (fun r T => Q r T ∧ K5 S0 T) X16_2 v0 v1 v2 v3 v4 v5 v6 S) (fun v0 v1 v2 v3 v4 v5 v6 S hB K => fd_X11_fitOf_31 (kgB_X11_fitOf_31 hB K hX16 (fun _ _ _ _ _ _ _ _ hx K => hx K))) K
set_option maxRecDepth 20000 in
set_option maxHeartbeats 1000000 in
theorem kgB_X11_fitOf_16 {Q : Int32 → HS → Prop} {X16 X16_2 : Nat → Int32 → Int32 → Int32 → Int32 → Int32 → HS → Prop} {v0 : Nat} {v1 : Int32} {v2 : Int32} {v3 : Int32} {v4 : Int32} {v5 : Int32} {S0 S : HS} (h : B_X11_fitOf_16 Q X16 v0 v1 v2 v3 v4 v5 S) (K : K5 S0 S) (hX16 : ∀ (u0 : Nat) (u1 : Int32) (u2 : Int32) (u3 : Int32) (u4 : Int32) (u5 : Int32) (u6 : HS), X16 u0 u1 u2 u3 u4 u5 u6 → K5 S0 u6 → X16_2 u0 u1 u2 u3 u4 u5 u6) : B_X11_fitOf_16 (fun r T => Q r T ∧ K5 S0 T) X16_2 v0 v1 v2 v3 v4 v5 S := by
  delta B_X11_fitOf_16 at h ⊢
  obtain ⟨c1, h⟩ := h
  refine ⟨c1, ?_⟩
  have n2 := k5_ne K c1
  obtain ⟨b3, e4, h⟩ := h
  refine ⟨b3, e4, ?_⟩
  obtain ⟨c5, h⟩ := h
  refine ⟨c5, ?_⟩
  have n6 := k5_ne K c5
  intro x8 e7
  have h := h x8 e7
  refine ⟨?_, ?_⟩
  · intro c9
    have h := h.1 c9
    refine ⟨?_, ?_⟩
    · intro c10
      have h := h.1 c10
      exact ⟨h, K⟩
    · intro c11
      have h := h.2 c11
      exact ⟨h, K⟩
  · intro c12
    have h := h.2 c12
    exact kg_X11_fitOf_31 h K hX16
theorem kg_X11_fitOf_16 {Q : Int32 → HS → Prop} {v0 : Nat} {v1 : Int32} {v2 : Int32} {v3 : Int32} {v4 : Int32} {v5 : Int32} {S0 S : HS} (h : P_X11_fitOf_16 Q v0 v1 v2 v3 v4 v5 S) (K : K5 S0 S) : P_X11_fitOf_16 (fun r T => Q r T ∧ K5 S0 T) v0 v1 v2 v3 v4 v5 S := h (fun v0 v1 v2 v3 v4 v5 S => K5 S0 S → P_X11_fitOf_16 (fun r T => Q r T ∧ K5 S0 T) v0 v1 v2 v3 v4 v5 S) (fun v0 v1 v2 v3 v4 v5 S hB K => fd_X11_fitOf_16 (kgB_X11_fitOf_16 hB K (fun _ _ _ _ _ _ _ hx K => hx K))) K
set_option maxRecDepth 20000 in
set_option maxHeartbeats 1000000 in
theorem kg_X11_fitOf_0 {Q : Int32 → HS → Prop} {v0 : Nat} {v1 : Int32} {v2 : Int32} {S0 S : HS} (h : P_X11_fitOf_0 Q v0 v1 v2 S) (K : K5 S0 S) : P_X11_fitOf_0 (fun r T => Q r T ∧ K5 S0 T) v0 v1 v2 S := by
  delta P_X11_fitOf_0 at h ⊢
  obtain ⟨c1, h⟩ := h
  refine ⟨c1, ?_⟩
  have n2 := k5_ne K c1
  obtain ⟨b3, e4, h⟩ := h
  refine ⟨b3, e4, ?_⟩
  obtain ⟨c5, h⟩ := h
  refine ⟨c5, ?_⟩
  have n6 := k5_ne K c5
  obtain ⟨b7, e8, h⟩ := h
  refine ⟨b7, e8, ?_⟩
  obtain ⟨c9, h⟩ := h
  refine ⟨c9, ?_⟩
  have n10 := k5_ne K c9
  obtain ⟨c11, h⟩ := h
  refine ⟨c11, ?_⟩
  intro x13 e12
  have h := h x13 e12
  exact kg_X11_fitOf_16 h K
theorem kg_X11_fitOf {Q : Int32 → HS → Prop} {v0 : Nat} {v1 : Int32} {v2 : Int32} {S : HS} (h : P_X11_fitOf v0 v1 v2 Q S) : P_X11_fitOf v0 v1 v2 (fun r T => Q r T ∧ K5 S T) S := kg_X11_fitOf_0 h (k5_rf S)
set_option maxRecDepth 20000 in
set_option maxHeartbeats 1000000 in
theorem kg_X11_isSeen_0 {Q : Int32 → HS → Prop} {v0 : Nat} {v1 : Int32} {S0 S : HS} (h : P_X11_isSeen_0 Q v0 v1 S) (K : K5 S0 S) : P_X11_isSeen_0 (fun r T => Q r T ∧ K5 S0 T) v0 v1 S := by
  delta P_X11_isSeen_0 at h ⊢
  obtain ⟨c1, h⟩ := h
  refine ⟨c1, ?_⟩
  have n2 := k5_ne K c1
  refine ⟨?_, ?_⟩
  · intro c3
    have h := h.1 c3
    exact ⟨h, K⟩
  · intro x4 c5
    have h := h.2 x4 c5
    refine ⟨?_, ?_⟩
    · intro c6
      have h := h.1 c6
      exact ⟨h, K⟩
    · intro c7
      have h := h.2 c7
      obtain ⟨b8, e9, h⟩ := h
      refine ⟨b8, e9, ?_⟩
      obtain ⟨c10, h⟩ := h
      refine ⟨c10, ?_⟩
      have n11 := k5_ne K c10
      intro x13 e12
      have h := h x13 e12
      refine ⟨?_, ?_⟩
      · intro c14
        have h := h.1 c14
        exact ⟨h, K⟩
      · intro c15
        have h := h.2 c15
        exact ⟨h, K⟩
theorem kg_X11_isSeen {Q : Int32 → HS → Prop} {v0 : Nat} {v1 : Int32} {S : HS} (h : P_X11_isSeen v0 v1 Q S) : P_X11_isSeen v0 v1 (fun r T => Q r T ∧ K5 S T) S := kg_X11_isSeen_0 h (k5_rf S)
set_option maxRecDepth 20000 in
set_option maxHeartbeats 1000000 in
theorem kg_X11_hourOf_0 {Q : Int32 → HS → Prop} {v0 : Nat} {v1 : Int32} {S0 S : HS} (h : P_X11_hourOf_0 Q v0 v1 S) (K : K5 S0 S) : P_X11_hourOf_0 (fun r T => Q r T ∧ K5 S0 T) v0 v1 S := by
  delta P_X11_hourOf_0 at h ⊢
  obtain ⟨c1, h⟩ := h
  refine ⟨c1, ?_⟩
  have n2 := k5_ne K c1
  obtain ⟨b3, e4, h⟩ := h
  refine ⟨b3, e4, ?_⟩
  obtain ⟨c5, h⟩ := h
  refine ⟨c5, ?_⟩
  have n6 := k5_ne K c5
  intro x8 e7
  have h := h x8 e7
  obtain ⟨c9, h⟩ := h
  refine ⟨c9, ?_⟩
  intro x11 e10
  have h := h x11 e10
  exact ⟨h, K⟩
theorem kg_X11_hourOf {Q : Int32 → HS → Prop} {v0 : Nat} {v1 : Int32} {S : HS} (h : P_X11_hourOf v0 v1 Q S) : P_X11_hourOf v0 v1 (fun r T => Q r T ∧ K5 S T) S := kg_X11_hourOf_0 h (k5_rf S)
set_option maxRecDepth 20000 in
set_option maxHeartbeats 1000000 in
theorem kgB_X11_keeps_50 {Q : HS → Prop} {X50 X50_2 : Nat → Int32 → HS → Prop} {v0 : Nat} {v1 : Int32} {S0 S : HS} (h : B_X11_keeps_50 Q X50 v0 v1 S) (K : K5 S0 S) (hX50 : ∀ (u0 : Nat) (u1 : Int32) (u2 : HS), X50 u0 u1 u2 → K5 S0 u2 → X50_2 u0 u1 u2) : B_X11_keeps_50 (fun T => Q T ∧ K5 S0 T) X50_2 v0 v1 S := by
  delta B_X11_keeps_50 at h ⊢
  refine ⟨?_, ?_⟩
  · intro c1
    have h := h.1 c1
    obtain ⟨c2, h⟩ := h
    refine ⟨c2, ?_⟩
    have n3 := k5_ne K c2
    intro x5 e4
    have h := h x5 e4
    intro x7 e6
    have h := h x7 e6
    intro x9 e8
    have h := h x9 e8
    have K := k5_I K e8 n3 (by decide)
    exact ⟨h, K⟩
  · intro c10
    have h := h.2 c10
    obtain ⟨c11, h⟩ := h
    refine ⟨c11, ?_⟩
    have n12 := k5_ne K c11
    obtain ⟨b13, e14, h⟩ := h
    refine ⟨b13, e14, ?_⟩
    intro x16 e15
    have h := h x16 e15
    obtain ⟨b17, e18, h⟩ := h
    refine ⟨b17, e18, ?_⟩
    obtain ⟨c19, h⟩ := h
    refine ⟨c19, ?_⟩
    have n20 := k5_ne K c19
    obtain ⟨c21, h⟩ := h
    refine ⟨c21, ?_⟩
    intro x23 e22
    have h := h x23 e22
    obtain ⟨c24, h⟩ := h
    refine ⟨c24, ?_⟩
    have n25 := k5_ne K c24
    obtain ⟨c26, h⟩ := h
    refine ⟨c26, ?_⟩
    intro x28 e27
    have h := h x28 e27
    have K := k5_J K e27
    intro x30 e29
    have h := h x30 e29
    exact hX50 _ _ _ h K
theorem kg_X11_keeps_50 {Q : HS → Prop} {v0 : Nat} {v1 : Int32} {S0 S : HS} (h : P_X11_keeps_50 Q v0 v1 S) (K : K5 S0 S) : P_X11_keeps_50 (fun T => Q T ∧ K5 S0 T) v0 v1 S := h (fun v0 v1 S => K5 S0 S → P_X11_keeps_50 (fun T => Q T ∧ K5 S0 T) v0 v1 S) (fun v0 v1 S hB K => fd_X11_keeps_50 (kgB_X11_keeps_50 hB K (fun _ _ _ hx K => hx K))) K
set_option maxRecDepth 20000 in
set_option maxHeartbeats 1000000 in
theorem kg_X11_keeps_48 {Q : HS → Prop} {v0 : Nat} {S0 S : HS} (h : P_X11_keeps_48 Q v0 S) (K : K5 S0 S) : P_X11_keeps_48 (fun T => Q T ∧ K5 S0 T) v0 S := by
  delta P_X11_keeps_48 at h ⊢
  exact kg_X11_keeps_50 h K
set_option maxRecDepth 20000 in
set_option maxHeartbeats 1000000 in
theorem kgB_X11_keeps_11 {Q : HS → Prop} {X11 X11_2 : Nat → Int32 → HS → Prop} {v0 : Nat} {v1 : Int32} {S0 S : HS} (h : B_X11_keeps_11 Q X11 v0 v1 S) (K : K5 S0 S) (hX11 : ∀ (u0 : Nat) (u1 : Int32) (u2 : HS), X11 u0 u1 u2 → K5 S0 u2 → X11_2 u0 u1 u2) : B_X11_keeps_11 (fun T => Q T ∧ K5 S0 T) X11_2 v0 v1 S := by
  delta B_X11_keeps_11 at h ⊢
  refine ⟨?_, ?_⟩
  · intro c1
    have h := h.1 c1
    obtain ⟨c2, h⟩ := h
    refine ⟨c2, ?_⟩
    have n3 := k5_ne K c2
    intro x5 e4
    have h := h x5 e4
    intro x7 e6
    have h := h x7 e6
    intro x9 e8
    have h := h x9 e8
    have K := k5_I K e8 n3 (by decide)
    exact kg_X11_keeps_48 h K
  · intro c10
    have h := h.2 c10
    obtain ⟨c11, h⟩ := h
    refine ⟨c11, ?_⟩
    have n12 := k5_ne K c11
    obtain ⟨b13, e14, h⟩ := h
    refine ⟨b13, e14, ?_⟩
    obtain ⟨b15, e16, h⟩ := h
    refine ⟨b15, e16, ?_⟩
    obtain ⟨c17, h⟩ := h
    refine ⟨c17, ?_⟩
    have n18 := k5_ne K c17
    intro x20 e19
    have h := h x20 e19
    obtain ⟨c21, h⟩ := h
    refine ⟨c21, ?_⟩
    intro x23 e22
    have h := h x23 e22
    obtain ⟨c24, h⟩ := h
    refine ⟨c24, ?_⟩
    have n25 := k5_ne K c24
    obtain ⟨c26, h⟩ := h
    refine ⟨c26, ?_⟩
    intro x28 e27
    have h := h x28 e27
    have K := k5_J K e27
    intro x30 e29
    have h := h x30 e29
    exact hX11 _ _ _ h K
theorem kg_X11_keeps_11 {Q : HS → Prop} {v0 : Nat} {v1 : Int32} {S0 S : HS} (h : P_X11_keeps_11 Q v0 v1 S) (K : K5 S0 S) : P_X11_keeps_11 (fun T => Q T ∧ K5 S0 T) v0 v1 S := h (fun v0 v1 S => K5 S0 S → P_X11_keeps_11 (fun T => Q T ∧ K5 S0 T) v0 v1 S) (fun v0 v1 S hB K => fd_X11_keeps_11 (kgB_X11_keeps_11 hB K (fun _ _ _ hx K => hx K))) K
set_option maxRecDepth 20000 in
set_option maxHeartbeats 1000000 in
theorem kg_X11_keeps_0 {Q : HS → Prop} {v0 : Nat} {S0 S : HS} (h : P_X11_keeps_0 Q v0 S) (K : K5 S0 S) : P_X11_keeps_0 (fun T => Q T ∧ K5 S0 T) v0 S := by
  delta P_X11_keeps_0 at h ⊢
  obtain ⟨c1, h⟩ := h
  refine ⟨c1, ?_⟩
  have n2 := k5_ne K c1
  intro x4 e3
  have h := h x4 e3
  refine ⟨?_, ?_⟩
  · intro c5
    have h := h.1 c5
    exact kg_X11_keeps_48 h K
  · intro c6
    have h := h.2 c6
    exact kg_X11_keeps_11 h K
theorem kg_X11_keeps {Q : HS → Prop} {v0 : Nat} {S : HS} (h : P_X11_keeps v0 Q S) : P_X11_keeps v0 (fun T => Q T ∧ K5 S T) S := kg_X11_keeps_0 h (k5_rf S)
set_option maxRecDepth 20000 in
set_option maxHeartbeats 1000000 in
theorem kg_X11_rainsIn_0 {Q : Int32 → HS → Prop} {v0 : Nat} {v1 : Int32} {S0 S : HS} (h : P_X11_rainsIn_0 Q v0 v1 S) (K : K5 S0 S) : P_X11_rainsIn_0 (fun r T => Q r T ∧ K5 S0 T) v0 v1 S := by
  delta P_X11_rainsIn_0 at h ⊢
  obtain ⟨c1, h⟩ := h
  refine ⟨c1, ?_⟩
  have n2 := k5_ne K c1
  refine cm_X11_hourOf (kg_X11_hourOf h) h (fun x3 x4 hp h g5 => ?_)
  have h := h g5
  have K := k5_tr K hp.2
  obtain ⟨b6, e7, h⟩ := h
  refine ⟨b6, e7, ?_⟩
  obtain ⟨c8, h⟩ := h
  refine ⟨c8, ?_⟩
  have n9 := k5_ne K c8
  intro x11 e10
  have h := h x11 e10
  refine ⟨?_, ?_⟩
  · intro c12
    have h := h.1 c12
    exact ⟨h, K⟩
  · intro c13
    have h := h.2 c13
    intro x15 e14
    have h := h x15 e14
    refine ⟨?_, ?_⟩
    · intro c16
      have h := h.1 c16
      exact ⟨h, K⟩
    · intro c17
      have h := h.2 c17
      exact ⟨h, K⟩
theorem kg_X11_rainsIn {Q : Int32 → HS → Prop} {v0 : Nat} {v1 : Int32} {S : HS} (h : P_X11_rainsIn v0 v1 Q S) : P_X11_rainsIn v0 v1 (fun r T => Q r T ∧ K5 S T) S := kg_X11_rainsIn_0 h (k5_rf S)
set_option maxRecDepth 20000 in
set_option maxHeartbeats 1000000 in
theorem kgB_X11_gotInAll_4 {Q : Int64 → HS → Prop} {X4 X4_2 : Nat → Int64 → Int32 → HS → Prop} {v0 : Nat} {v1 : Int64} {v3 : Int32} {S0 S : HS} (h : B_X11_gotInAll_4 Q X4 v0 v1 v3 S) (K : K5 S0 S) (hX4 : ∀ (u0 : Nat) (u1 : Int64) (u2 : Int32) (u3 : HS), X4 u0 u1 u2 u3 → K5 S0 u3 → X4_2 u0 u1 u2 u3) : B_X11_gotInAll_4 (fun r T => Q r T ∧ K5 S0 T) X4_2 v0 v1 v3 S := by
  delta B_X11_gotInAll_4 at h ⊢
  refine ⟨?_, ?_⟩
  · intro c1
    have h := h.1 c1
    exact ⟨h, K⟩
  · intro c2
    have h := h.2 c2
    obtain ⟨c3, h⟩ := h
    refine ⟨c3, ?_⟩
    have n4 := k5_ne K c3
    obtain ⟨b5, e6, h⟩ := h
    refine ⟨b5, e6, ?_⟩
    obtain ⟨c7, h⟩ := h
    refine ⟨c7, ?_⟩
    have n8 := k5_ne K c7
    intro x10 e9
    have h := h x10 e9
    obtain ⟨c11, h⟩ := h
    refine ⟨c11, ?_⟩
    intro x13 e12
    have h := h x13 e12
    intro x15 e14
    have h := h x15 e14
    intro x17 e16
    have h := h x17 e16
    exact hX4 _ _ _ _ h K
theorem kg_X11_gotInAll_4 {Q : Int64 → HS → Prop} {v0 : Nat} {v1 : Int64} {v3 : Int32} {S0 S : HS} (h : P_X11_gotInAll_4 Q v0 v1 v3 S) (K : K5 S0 S) : P_X11_gotInAll_4 (fun r T => Q r T ∧ K5 S0 T) v0 v1 v3 S := h (fun v0 v1 v3 S => K5 S0 S → P_X11_gotInAll_4 (fun r T => Q r T ∧ K5 S0 T) v0 v1 v3 S) (fun v0 v1 v3 S hB K => fd_X11_gotInAll_4 (kgB_X11_gotInAll_4 hB K (fun _ _ _ _ hx K => hx K))) K
set_option maxRecDepth 20000 in
set_option maxHeartbeats 1000000 in
theorem kg_X11_gotInAll_0 {Q : Int64 → HS → Prop} {v0 : Nat} {S0 S : HS} (h : P_X11_gotInAll_0 Q v0 S) (K : K5 S0 S) : P_X11_gotInAll_0 (fun r T => Q r T ∧ K5 S0 T) v0 S := by
  delta P_X11_gotInAll_0 at h ⊢
  exact kg_X11_gotInAll_4 h K
theorem kg_X11_gotInAll {Q : Int64 → HS → Prop} {v0 : Nat} {S : HS} (h : P_X11_gotInAll v0 Q S) : P_X11_gotInAll v0 (fun r T => Q r T ∧ K5 S T) S := kg_X11_gotInAll_0 h (k5_rf S)
set_option maxRecDepth 20000 in
set_option maxHeartbeats 1000000 in
theorem kg_X11_holds_0 {Q : Int64 → HS → Prop} {v0 : Nat} {S0 S : HS} (h : P_X11_holds_0 Q v0 S) (K : K5 S0 S) : P_X11_holds_0 (fun r T => Q r T ∧ K5 S0 T) v0 S := by
  delta P_X11_holds_0 at h ⊢
  obtain ⟨c1, h⟩ := h
  refine ⟨c1, ?_⟩
  have n2 := k5_ne K c1
  obtain ⟨b3, e4, h⟩ := h
  refine ⟨b3, e4, ?_⟩
  obtain ⟨c5, h⟩ := h
  refine ⟨c5, ?_⟩
  have n6 := k5_ne K c5
  obtain ⟨b7, e8, h⟩ := h
  refine ⟨b7, e8, ?_⟩
  intro x10 e9
  have h := h x10 e9
  obtain ⟨c11, h⟩ := h
  refine ⟨c11, ?_⟩
  have n12 := k5_ne K c11
  obtain ⟨c13, h⟩ := h
  refine ⟨c13, ?_⟩
  intro x15 e14
  have h := h x15 e14
  refine ⟨?_, ?_⟩
  · intro c16
    have h := h.1 c16
    exact ⟨h, K⟩
  · intro c17
    have h := h.2 c17
    obtain ⟨b18, e19, h⟩ := h
    refine ⟨b18, e19, ?_⟩
    obtain ⟨c20, h⟩ := h
    refine ⟨c20, ?_⟩
    have n21 := k5_ne K c20
    obtain ⟨b22, e23, h⟩ := h
    refine ⟨b22, e23, ?_⟩
    intro x25 e24
    have h := h x25 e24
    obtain ⟨c26, h⟩ := h
    refine ⟨c26, ?_⟩
    have n27 := k5_ne K c26
    obtain ⟨c28, h⟩ := h
    refine ⟨c28, ?_⟩
    intro x30 e29
    have h := h x30 e29
    exact ⟨h, K⟩
theorem kg_X11_holds {Q : Int64 → HS → Prop} {v0 : Nat} {S : HS} (h : P_X11_holds v0 Q S) : P_X11_holds v0 (fun r T => Q r T ∧ K5 S T) S := kg_X11_holds_0 h (k5_rf S)
set_option maxRecDepth 20000 in
set_option maxHeartbeats 1000000 in
theorem kg_X11_spotOf_0 {Q : Int32 → HS → Prop} {v0 : Int32} {v1 : Int32} {S0 S : HS} (h : P_X11_spotOf_0 Q v0 v1 S) (K : K5 S0 S) : P_X11_spotOf_0 (fun r T => Q r T ∧ K5 S0 T) v0 v1 S := by
  delta P_X11_spotOf_0 at h ⊢
  exact ⟨h, K⟩
theorem kg_X11_spotOf {Q : Int32 → HS → Prop} {v0 : Int32} {v1 : Int32} {S : HS} (h : P_X11_spotOf v0 v1 Q S) : P_X11_spotOf v0 v1 (fun r T => Q r T ∧ K5 S T) S := kg_X11_spotOf_0 h (k5_rf S)
set_option maxRecDepth 20000 in
set_option maxHeartbeats 1000000 in
theorem kg_X11_meanOf_0 {Q : Int64 → HS → Prop} {v0 : Nat} {v1 : Int32} {v2 : Int32} {v3 : Int32} {v4 : Int32} {v5 : Int32} {S0 S : HS} (h : P_X11_meanOf_0 Q v0 v1 v2 v3 v4 v5 S) (K : K5 S0 S) : P_X11_meanOf_0 (fun r T => Q r T ∧ K5 S0 T) v0 v1 v2 v3 v4 v5 S := by
  delta P_X11_meanOf_0 at h ⊢
  obtain ⟨c1, h⟩ := h
  refine ⟨c1, ?_⟩
  have n2 := k5_ne K c1
  refine cm_X11_hourOf (kg_X11_hourOf h) h (fun x3 x4 hp h g5 => ?_)
  have h := h g5
  have K := k5_tr K hp.2
  obtain ⟨b6, e7, h⟩ := h
  refine ⟨b6, e7, ?_⟩
  obtain ⟨c8, h⟩ := h
  refine ⟨c8, ?_⟩
  have n9 := k5_ne K c8
  intro x11 e10
  have h := h x11 e10
  refine ⟨?_, ?_⟩
  · intro c12
    have h := h.1 c12
    exact ⟨h, K⟩
  · intro c13
    have h := h.2 c13
    refine cm_X11_wetOf (kg_X11_wetOf h) h (fun x14 x15 hp h g16 => ?_)
    have h := h g16
    have K := k5_tr K hp.2
    obtain ⟨b17, e18, h⟩ := h
    refine ⟨b17, e18, ?_⟩
    obtain ⟨c19, h⟩ := h
    refine ⟨c19, ?_⟩
    have n20 := k5_ne K c19
    obtain ⟨b21, e22, h⟩ := h
    refine ⟨b21, e22, ?_⟩
    obtain ⟨c23, h⟩ := h
    refine ⟨c23, ?_⟩
    have n24 := k5_ne K c23
    obtain ⟨c25, h⟩ := h
    refine ⟨c25, ?_⟩
    intro x27 e26
    have h := h x27 e26
    exact ⟨h, K⟩
theorem kg_X11_meanOf {Q : Int64 → HS → Prop} {v0 : Nat} {v1 : Int32} {v2 : Int32} {v3 : Int32} {v4 : Int32} {v5 : Int32} {S : HS} (h : P_X11_meanOf v0 v1 v2 v3 v4 v5 Q S) : P_X11_meanOf v0 v1 v2 v3 v4 v5 (fun r T => Q r T ∧ K5 S T) S := kg_X11_meanOf_0 h (k5_rf S)
set_option maxRecDepth 20000 in
set_option maxHeartbeats 1000000 in
theorem kg_X11_takes_77 {Q : HS → Prop} {v0 : Nat} {v1 : Int32} {v2 : Int32} {v5 : Int32} {v6 : Int64} {S0 S : HS} (h : P_X11_takes_77 Q v0 v1 v2 v5 v6 S) (K : K5 S0 S) : P_X11_takes_77 (fun T => Q T ∧ K5 S0 T) v0 v1 v2 v5 v6 S := by
  delta P_X11_takes_77 at h ⊢
  obtain ⟨c1, h⟩ := h
  refine ⟨c1, ?_⟩
  have n2 := k5_ne K c1
  obtain ⟨b3, e4, h⟩ := h
  refine ⟨b3, e4, ?_⟩
  obtain ⟨c5, h⟩ := h
  refine ⟨c5, ?_⟩
  have n6 := k5_ne K c5
  obtain ⟨c7, h⟩ := h
  refine ⟨c7, ?_⟩
  intro x9 e8
  have h := h x9 e8
  have K := k5_J K e8
  obtain ⟨b10, e11, h⟩ := h
  refine ⟨b10, e11, ?_⟩
  obtain ⟨b12, e13, h⟩ := h
  refine ⟨b12, e13, ?_⟩
  obtain ⟨c14, h⟩ := h
  refine ⟨c14, ?_⟩
  have n15 := k5_ne K c14
  obtain ⟨c16, h⟩ := h
  refine ⟨c16, ?_⟩
  intro x18 e17
  have h := h x18 e17
  obtain ⟨c19, h⟩ := h
  refine ⟨c19, ?_⟩
  have n20 := k5_ne K c19
  obtain ⟨c21, h⟩ := h
  refine ⟨c21, ?_⟩
  intro x23 e22
  have h := h x23 e22
  have K := k5_A K e22 n20 (by decide)
  obtain ⟨b24, e25, h⟩ := h
  refine ⟨b24, e25, ?_⟩
  obtain ⟨c26, h⟩ := h
  refine ⟨c26, ?_⟩
  have n27 := k5_ne K c26
  obtain ⟨c28, h⟩ := h
  refine ⟨c28, ?_⟩
  intro x30 e29
  have h := h x30 e29
  have K := k5_A K e29 n27 (by decide)
  exact ⟨h, K⟩
set_option maxRecDepth 20000 in
set_option maxHeartbeats 1000000 in
theorem kg_X11_takes_0 {Q : HS → Prop} {v0 : Nat} {v1 : Int32} {v2 : Int32} {v3 : Int64} {v5 : Int32} {S0 S : HS} (h : P_X11_takes_0 Q v0 v1 v2 v3 v5 S) (K : K5 S0 S) : P_X11_takes_0 (fun T => Q T ∧ K5 S0 T) v0 v1 v2 v3 v5 S := by
  delta P_X11_takes_0 at h ⊢
  obtain ⟨c1, h⟩ := h
  refine ⟨c1, ?_⟩
  have n2 := k5_ne K c1
  obtain ⟨b3, e4, h⟩ := h
  refine ⟨b3, e4, ?_⟩
  obtain ⟨c5, h⟩ := h
  refine ⟨c5, ?_⟩
  have n6 := k5_ne K c5
  obtain ⟨c7, h⟩ := h
  refine ⟨c7, ?_⟩
  intro x9 e8
  have h := h x9 e8
  refine ⟨?_, ?_⟩
  · intro c10
    have h := h.1 c10
    obtain ⟨b11, e12, h⟩ := h
    refine ⟨b11, e12, ?_⟩
    obtain ⟨c13, h⟩ := h
    refine ⟨c13, ?_⟩
    have n14 := k5_ne K c13
    obtain ⟨c15, h⟩ := h
    refine ⟨c15, ?_⟩
    intro x17 e16
    have h := h x17 e16
    intro x19 e18
    have h := h x19 e18
    obtain ⟨b20, e21, h⟩ := h
    refine ⟨b20, e21, ?_⟩
    obtain ⟨c22, h⟩ := h
    refine ⟨c22, ?_⟩
    have n23 := k5_ne K c22
    obtain ⟨c24, h⟩ := h
    refine ⟨c24, ?_⟩
    intro x26 e25
    have h := h x26 e25
    refine ⟨?_, ?_⟩
    · intro c27
      have h := h.1 c27
      exact kg_X11_takes_77 h K
    · intro c28
      have h := h.2 c28
      obtain ⟨b29, e30, h⟩ := h
      refine ⟨b29, e30, ?_⟩
      obtain ⟨c31, h⟩ := h
      refine ⟨c31, ?_⟩
      have n32 := k5_ne K c31
      obtain ⟨c33, h⟩ := h
      refine ⟨c33, ?_⟩
      intro x35 e34
      have h := h x35 e34
      refine ⟨?_, ?_⟩
      · intro c36
        have h := h.1 c36
        exact ⟨h, K⟩
      · intro c37
        have h := h.2 c37
        obtain ⟨b38, e39, h⟩ := h
        refine ⟨b38, e39, ?_⟩
        obtain ⟨c40, h⟩ := h
        refine ⟨c40, ?_⟩
        have n41 := k5_ne K c40
        obtain ⟨c42, h⟩ := h
        refine ⟨c42, ?_⟩
        intro x44 e43
        have h := h x44 e43
        refine ⟨?_, ?_⟩
        · intro c45
          have h := h.1 c45
          exact kg_X11_takes_77 h K
        · intro c46
          have h := h.2 c46
          obtain ⟨b47, e48, h⟩ := h
          refine ⟨b47, e48, ?_⟩
          obtain ⟨c49, h⟩ := h
          refine ⟨c49, ?_⟩
          have n50 := k5_ne K c49
          obtain ⟨c51, h⟩ := h
          refine ⟨c51, ?_⟩
          intro x53 e52
          have h := h x53 e52
          obtain ⟨b54, e55, h⟩ := h
          refine ⟨b54, e55, ?_⟩
          obtain ⟨c56, h⟩ := h
          refine ⟨c56, ?_⟩
          have n57 := k5_ne K c56
          obtain ⟨c58, h⟩ := h
          refine ⟨c58, ?_⟩
          intro x60 e59
          have h := h x60 e59
          refine ⟨?_, ?_⟩
          · intro c61
            have h := h.1 c61
            exact kg_X11_takes_77 h K
          · intro c62
            have h := h.2 c62
            exact ⟨h, K⟩
  · intro c63
    have h := h.2 c63
    exact ⟨h, K⟩
theorem kg_X11_takes {Q : HS → Prop} {v0 : Nat} {v1 : Int32} {v2 : Int32} {v3 : Int64} {v5 : Int32} {S : HS} (h : P_X11_takes v0 v1 v2 v3 v5 Q S) : P_X11_takes v0 v1 v2 v3 v5 (fun T => Q T ∧ K5 S T) S := kg_X11_takes_0 h (k5_rf S)
set_option maxRecDepth 20000 in
set_option maxHeartbeats 1000000 in
theorem kg_X11_waitsOf_0 {Q : Int64 → HS → Prop} {v0 : Nat} {v1 : Int32} {v2 : Int32} {v3 : Int32} {S0 S : HS} (h : P_X11_waitsOf_0 Q v0 v1 v2 v3 S) (K : K5 S0 S) : P_X11_waitsOf_0 (fun r T => Q r T ∧ K5 S0 T) v0 v1 v2 v3 S := by
  delta P_X11_waitsOf_0 at h ⊢
  obtain ⟨c1, h⟩ := h
  refine ⟨c1, ?_⟩
  have n2 := k5_ne K c1
  refine cm_X11_hourOf (kg_X11_hourOf h) h (fun x3 x4 hp h g5 => ?_)
  have h := h g5
  have K := k5_tr K hp.2
  obtain ⟨b6, e7, h⟩ := h
  refine ⟨b6, e7, ?_⟩
  obtain ⟨c8, h⟩ := h
  refine ⟨c8, ?_⟩
  have n9 := k5_ne K c8
  obtain ⟨b10, e11, h⟩ := h
  refine ⟨b10, e11, ?_⟩
  obtain ⟨c12, h⟩ := h
  refine ⟨c12, ?_⟩
  have n13 := k5_ne K c12
  obtain ⟨c14, h⟩ := h
  refine ⟨c14, ?_⟩
  intro x16 e15
  have h := h x16 e15
  refine ⟨?_, ?_⟩
  · intro c17
    have h := h.1 c17
    exact ⟨h, K⟩
  · intro c18
    have h := h.2 c18
    obtain ⟨b19, e20, h⟩ := h
    refine ⟨b19, e20, ?_⟩
    obtain ⟨c21, h⟩ := h
    refine ⟨c21, ?_⟩
    have n22 := k5_ne K c21
    intro x24 e23
    have h := h x24 e23
    refine ⟨?_, ?_⟩
    · intro c25
      have h := h.1 c25
      refine cm_X11_drips (kg_X11_drips h) h (fun x26 x27 hp h g28 => ?_)
      have h := h g28
      have K := k5_tr K hp.2
      obtain ⟨b29, e30, h⟩ := h
      refine ⟨b29, e30, ?_⟩
      obtain ⟨c31, h⟩ := h
      refine ⟨c31, ?_⟩
      have n32 := k5_ne K c31
      obtain ⟨b33, e34, h⟩ := h
      refine ⟨b33, e34, ?_⟩
      obtain ⟨c35, h⟩ := h
      refine ⟨c35, ?_⟩
      have n36 := k5_ne K c35
      obtain ⟨c37, h⟩ := h
      refine ⟨c37, ?_⟩
      intro x39 e38
      have h := h x39 e38
      exact ⟨h, K⟩
    · intro c40
      have h := h.2 c40
      exact ⟨h, K⟩
theorem kg_X11_waitsOf {Q : Int64 → HS → Prop} {v0 : Nat} {v1 : Int32} {v2 : Int32} {v3 : Int32} {S : HS} (h : P_X11_waitsOf v0 v1 v2 v3 Q S) : P_X11_waitsOf v0 v1 v2 v3 (fun r T => Q r T ∧ K5 S T) S := kg_X11_waitsOf_0 h (k5_rf S)
set_option maxRecDepth 20000 in
set_option maxHeartbeats 1000000 in
theorem kg_X11_tries_140 {Q : HS → Prop} {X3 X3_2 : Nat → Int32 → Int32 → Int32 → Int32 → Int32 → HS → Prop} {X18 X18_2 : Nat → Int32 → Int32 → Int32 → Int32 → Int32 → Int32 → HS → Prop} {X53 X53_2 : Nat → Int32 → Int32 → Int32 → Int32 → Int32 → Int32 → Int32 → HS → Prop} {v0 : Nat} {v1 : Int32} {v2 : Int32} {v3 : Int32} {v4 : Int32} {v5 : Int32} {v6 : Int32} {v7 : Int32} {S0 S : HS} (h : P_X11_tries_140 Q X3 X18 X53 v0 v1 v2 v3 v4 v5 v6 v7 S) (K : K5 S0 S) (hX3 : ∀ (u0 : Nat) (u1 : Int32) (u2 : Int32) (u3 : Int32) (u4 : Int32) (u5 : Int32) (u6 : HS), X3 u0 u1 u2 u3 u4 u5 u6 → K5 S0 u6 → X3_2 u0 u1 u2 u3 u4 u5 u6) (hX18 : ∀ (u0 : Nat) (u1 : Int32) (u2 : Int32) (u3 : Int32) (u4 : Int32) (u5 : Int32) (u6 : Int32) (u7 : HS), X18 u0 u1 u2 u3 u4 u5 u6 u7 → K5 S0 u7 → X18_2 u0 u1 u2 u3 u4 u5 u6 u7) (hX53 : ∀ (u0 : Nat) (u1 : Int32) (u2 : Int32) (u3 : Int32) (u4 : Int32) (u5 : Int32) (u6 : Int32) (u7 : Int32) (u8 : HS), X53 u0 u1 u2 u3 u4 u5 u6 u7 u8 → K5 S0 u8 → X53_2 u0 u1 u2 u3 u4 u5 u6 u7 u8) : P_X11_tries_140 (fun T => Q T ∧ K5 S0 T) X3_2 X18_2 X53_2 v0 v1 v2 v3 v4 v5 v6 v7 S := by
  delta P_X11_tries_140 at h ⊢
  intro x2 e1
  have h := h x2 e1
  exact hX53 _ _ _ _ _ _ _ _ _ h K
set_option maxRecDepth 20000 in
set_option maxHeartbeats 1000000 in
theorem kg_X11_tries_146 {Q : HS → Prop} {X3 X3_2 : Nat → Int32 → Int32 → Int32 → Int32 → Int32 → HS → Prop} {X18 X18_2 : Nat → Int32 → Int32 → Int32 → Int32 → Int32 → Int32 → HS → Prop} {v0 : Nat} {v1 : Int32} {v2 : Int32} {v3 : Int32} {v4 : Int32} {v5 : Int32} {v6 : Int32} {S0 S : HS} (h : P_X11_tries_146 Q X3 X18 v0 v1 v2 v3 v4 v5 v6 S) (K : K5 S0 S) (hX3 : ∀ (u0 : Nat) (u1 : Int32) (u2 : Int32) (u3 : Int32) (u4 : Int32) (u5 : Int32) (u6 : HS), X3 u0 u1 u2 u3 u4 u5 u6 → K5 S0 u6 → X3_2 u0 u1 u2 u3 u4 u5 u6) (hX18 : ∀ (u0 : Nat) (u1 : Int32) (u2 : Int32) (u3 : Int32) (u4 : Int32) (u5 : Int32) (u6 : Int32) (u7 : HS), X18 u0 u1 u2 u3 u4 u5 u6 u7 → K5 S0 u7 → X18_2 u0 u1 u2 u3 u4 u5 u6 u7) : P_X11_tries_146 (fun T => Q T ∧ K5 S0 T) X3_2 X18_2 v0 v1 v2 v3 v4 v5 v6 S := by
  delta P_X11_tries_146 at h ⊢
  intro x2 e1
  have h := h x2 e1
  exact hX18 _ _ _ _ _ _ _ _ h K
set_option maxRecDepth 20000 in
set_option maxHeartbeats 1000000 in
theorem kgB_X11_tries_53 {Q : HS → Prop} {X3 X3_2 : Nat → Int32 → Int32 → Int32 → Int32 → Int32 → HS → Prop} {X18 X18_2 : Nat → Int32 → Int32 → Int32 → Int32 → Int32 → Int32 → HS → Prop} {X53 X53_2 : Nat → Int32 → Int32 → Int32 → Int32 → Int32 → Int32 → Int32 → HS → Prop} {v0 : Nat} {v1 : Int32} {v2 : Int32} {v3 : Int32} {v4 : Int32} {v5 : Int32} {v6 : Int32} {v7 : Int32} {S0 S : HS} (h : B_X11_tries_53 Q X3 X18 X53 v0 v1 v2 v3 v4 v5 v6 v7 S) (K : K5 S0 S) (hX3 : ∀ (u0 : Nat) (u1 : Int32) (u2 : Int32) (u3 : Int32) (u4 : Int32) (u5 : Int32) (u6 : HS), X3 u0 u1 u2 u3 u4 u5 u6 → K5 S0 u6 → X3_2 u0 u1 u2 u3 u4 u5 u6) (hX18 : ∀ (u0 : Nat) (u1 : Int32) (u2 : Int32) (u3 : Int32) (u4 : Int32) (u5 : Int32) (u6 : Int32) (u7 : HS), X18 u0 u1 u2 u3 u4 u5 u6 u7 → K5 S0 u7 → X18_2 u0 u1 u2 u3 u4 u5 u6 u7) (hX53 : ∀ (u0 : Nat) (u1 : Int32) (u2 : Int32) (u3 : Int32) (u4 : Int32) (u5 : Int32) (u6 : Int32) (u7 : Int32) (u8 : HS), X53 u0 u1 u2 u3 u4 u5 u6 u7 u8 → K5 S0 u8 → X53_2 u0 u1 u2 u3 u4 u5 u6 u7 u8) : B_X11_tries_53 (fun T => Q T ∧ K5 S0 T) X3_2 X18_2 X53_2 v0 v1 v2 v3 v4 v5 v6 v7 S := by
  delta B_X11_tries_53 at h ⊢
  obtain ⟨c1, h⟩ := h
  refine ⟨c1, ?_⟩
  have n2 := k5_ne K c1
  obtain ⟨b3, e4, h⟩ := h
  refine ⟨b3, e4, ?_⟩
  obtain ⟨c5, h⟩ := h
  refine ⟨c5, ?_⟩
  have n6 := k5_ne K c5
  obtain ⟨b7, e8, h⟩ := h
  refine ⟨b7, e8, ?_⟩
  obtain ⟨c9, h⟩ := h
  refine ⟨c9, ?_⟩
  have n10 := k5_ne K c9
  obtain ⟨c11, h⟩ := h
  refine ⟨c11, ?_⟩
  intro x13 e12
  have h := h x13 e12
  refine ⟨?_, ?_⟩
  · intro c14
    have h := h.1 c14
    exact kg_X11_tries_146 h K hX3 hX18
  · intro c15
    have h := h.2 c15
    obtain ⟨b16, e17, h⟩ := h
    refine ⟨b16, e17, ?_⟩
    obtain ⟨c18, h⟩ := h
    refine ⟨c18, ?_⟩
    have n19 := k5_ne K c18
    refine cm_X10_minutes (kg_X10_minutes h) h (fun x20 x21 hp h g22 => ?_)
    have h := h g22
    have K := k5_tr K hp.2
    intro x24 e23
    have h := h x24 e23
    refine ⟨?_, ?_⟩
    · intro c25
      have h := h.1 c25
      exact kg_X11_tries_140 h K hX3 hX18 hX53
    · intro c26
      have h := h.2 c26
      refine cm_X11_spotOf (kg_X11_spotOf h) h (fun x27 x28 hp h g29 => ?_)
      have h := h g29
      have K := k5_tr K hp.2
      obtain ⟨b30, e31, h⟩ := h
      refine ⟨b30, e31, ?_⟩
      obtain ⟨c32, h⟩ := h
      refine ⟨c32, ?_⟩
      have n33 := k5_ne K c32
      refine cm_X10_ends (kg_X10_ends h) h (fun x34 x35 hp h g36 => ?_)
      have h := h g36
      have K := k5_tr K hp.2
      refine cm_X11_spotOf (kg_X11_spotOf h) h (fun x37 x38 hp h g39 => ?_)
      have h := h g39
      have K := k5_tr K hp.2
      refine cm_X11_meanOf (kg_X11_meanOf h) h (fun x40 x41 hp h g42 => ?_)
      have h := h g42
      have K := k5_tr K hp.2
      refine cm_X11_takes (kg_X11_takes h) h (fun x43 hp h g44 => ?_)
      have h := h g44
      have K := k5_tr K hp.2
      exact kg_X11_tries_140 h K hX3 hX18 hX53
theorem kg_X11_tries_53 {Q : HS → Prop} {X3 X3_2 : Nat → Int32 → Int32 → Int32 → Int32 → Int32 → HS → Prop} {X18 X18_2 : Nat → Int32 → Int32 → Int32 → Int32 → Int32 → Int32 → HS → Prop} {v0 : Nat} {v1 : Int32} {v2 : Int32} {v3 : Int32} {v4 : Int32} {v5 : Int32} {v6 : Int32} {v7 : Int32} {S0 S : HS} (h : P_X11_tries_53 Q X3 X18 v0 v1 v2 v3 v4 v5 v6 v7 S) (K : K5 S0 S) (hX3 : ∀ (u0 : Nat) (u1 : Int32) (u2 : Int32) (u3 : Int32) (u4 : Int32) (u5 : Int32) (u6 : HS), X3 u0 u1 u2 u3 u4 u5 u6 → K5 S0 u6 → X3_2 u0 u1 u2 u3 u4 u5 u6) (hX18 : ∀ (u0 : Nat) (u1 : Int32) (u2 : Int32) (u3 : Int32) (u4 : Int32) (u5 : Int32) (u6 : Int32) (u7 : HS), X18 u0 u1 u2 u3 u4 u5 u6 u7 → K5 S0 u7 → X18_2 u0 u1 u2 u3 u4 u5 u6 u7) : P_X11_tries_53 (fun T => Q T ∧ K5 S0 T) X3_2 X18_2 v0 v1 v2 v3 v4 v5 v6 v7 S := h (fun v0 v1 v2 v3 v4 v5 v6 v7 S => K5 S0 S → P_X11_tries_53 (fun T => Q T ∧ K5 S0 T) X3_2 X18_2 v0 v1 v2 v3 v4 v5 v6 v7 S) (fun v0 v1 v2 v3 v4 v5 v6 v7 S hB K => fd_X11_tries_53 (kgB_X11_tries_53 hB K hX3 hX18 (fun _ _ _ _ _ _ _ _ _ hx K => hx K))) K
set_option maxRecDepth 20000 in
set_option maxHeartbeats 1000000 in
theorem kgB_X11_tries_18 {Q : HS → Prop} {X3 X3_2 : Nat → Int32 → Int32 → Int32 → Int32 → Int32 → HS → Prop} {X18 X18_2 : Nat → Int32 → Int32 → Int32 → Int32 → Int32 → Int32 → HS → Prop} {v0 : Nat} {v1 : Int32} {v2 : Int32} {v3 : Int32} {v4 : Int32} {v5 : Int32} {v6 : Int32} {S0 S : HS} (h : B_X11_tries_18 Q X3 X18 v0 v1 v2 v3 v4 v5 v6 S) (K : K5 S0 S) (hX3 : ∀ (u0 : Nat) (u1 : Int32) (u2 : Int32) (u3 : Int32) (u4 : Int32) (u5 : Int32) (u6 : HS), X3 u0 u1 u2 u3 u4 u5 u6 → K5 S0 u6 → X3_2 u0 u1 u2 u3 u4 u5 u6) (hX18 : ∀ (u0 : Nat) (u1 : Int32) (u2 : Int32) (u3 : Int32) (u4 : Int32) (u5 : Int32) (u6 : Int32) (u7 : HS), X18 u0 u1 u2 u3 u4 u5 u6 u7 → K5 S0 u7 → X18_2 u0 u1 u2 u3 u4 u5 u6 u7) : B_X11_tries_18 (fun T => Q T ∧ K5 S0 T) X3_2 X18_2 v0 v1 v2 v3 v4 v5 v6 S := by
  delta B_X11_tries_18 at h ⊢
  refine ⟨?_, ?_⟩
  · intro c1
    have h := h.1 c1
    intro x3 e2
    have h := h x3 e2
    exact hX3 _ _ _ _ _ _ _ h K
  · intro c4
    have h := h.2 c4
    obtain ⟨c5, h⟩ := h
    refine ⟨c5, ?_⟩
    have n6 := k5_ne K c5
    obtain ⟨b7, e8, h⟩ := h
    refine ⟨b7, e8, ?_⟩
    obtain ⟨c9, h⟩ := h
    refine ⟨c9, ?_⟩
    have n10 := k5_ne K c9
    refine cm_X10_begins (kg_X10_begins h) h (fun x11 x12 hp h g13 => ?_)
    have h := h g13
    have K := k5_tr K hp.2
    refine ⟨?_, ?_⟩
    · intro c14
      have h := h.1 c14
      obtain ⟨b15, e16, h⟩ := h
      refine ⟨b15, e16, ?_⟩
      obtain ⟨c17, h⟩ := h
      refine ⟨c17, ?_⟩
      have n18 := k5_ne K c17
      obtain ⟨b19, e20, h⟩ := h
      refine ⟨b19, e20, ?_⟩
      obtain ⟨c21, h⟩ := h
      refine ⟨c21, ?_⟩
      have n22 := k5_ne K c21
      obtain ⟨c23, h⟩ := h
      refine ⟨c23, ?_⟩
      intro x25 e24
      have h := h x25 e24
      exact kg_X11_tries_53 h K hX3 hX18
    · intro c26
      have h := h.2 c26
      exact kg_X11_tries_146 h K hX3 hX18
theorem kg_X11_tries_18 {Q : HS → Prop} {X3 X3_2 : Nat → Int32 → Int32 → Int32 → Int32 → Int32 → HS → Prop} {v0 : Nat} {v1 : Int32} {v2 : Int32} {v3 : Int32} {v4 : Int32} {v5 : Int32} {v6 : Int32} {S0 S : HS} (h : P_X11_tries_18 Q X3 v0 v1 v2 v3 v4 v5 v6 S) (K : K5 S0 S) (hX3 : ∀ (u0 : Nat) (u1 : Int32) (u2 : Int32) (u3 : Int32) (u4 : Int32) (u5 : Int32) (u6 : HS), X3 u0 u1 u2 u3 u4 u5 u6 → K5 S0 u6 → X3_2 u0 u1 u2 u3 u4 u5 u6) : P_X11_tries_18 (fun T => Q T ∧ K5 S0 T) X3_2 v0 v1 v2 v3 v4 v5 v6 S := h (fun v0 v1 v2 v3 v4 v5 v6 S => K5 S0 S → P_X11_tries_18 (fun T => Q T ∧ K5 S0 T) X3_2 v0 v1 v2 v3 v4 v5 v6 S) (fun v0 v1 v2 v3 v4 v5 v6 S hB K => fd_X11_tries_18 (kgB_X11_tries_18 hB K hX3 (fun _ _ _ _ _ _ _ _ hx K => hx K))) K
set_option maxRecDepth 20000 in
set_option maxHeartbeats 1000000 in
theorem kgB_X11_tries_3 {Q : HS → Prop} {X3 X3_2 : Nat → Int32 → Int32 → Int32 → Int32 → Int32 → HS → Prop} {v0 : Nat} {v1 : Int32} {v2 : Int32} {v3 : Int32} {v4 : Int32} {v5 : Int32} {S0 S : HS} (h : B_X11_tries_3 Q X3 v0 v1 v2 v3 v4 v5 S) (K : K5 S0 S) (hX3 : ∀ (u0 : Nat) (u1 : Int32) (u2 : Int32) (u3 : Int32) (u4 : Int32) (u5 : Int32) (u6 : HS), X3 u0 u1 u2 u3 u4 u5 u6 → K5 S0 u6 → X3_2 u0 u1 u2 u3 u4 u5 u6) : B_X11_tries_3 (fun T => Q T ∧ K5 S0 T) X3_2 v0 v1 v2 v3 v4 v5 S := by
  delta B_X11_tries_3 at h ⊢
  obtain ⟨c1, h⟩ := h
  refine ⟨c1, ?_⟩
  have n2 := k5_ne K c1
  obtain ⟨b3, e4, h⟩ := h
  refine ⟨b3, e4, ?_⟩
  obtain ⟨c5, h⟩ := h
  refine ⟨c5, ?_⟩
  have n6 := k5_ne K c5
  intro x8 e7
  have h := h x8 e7
  refine ⟨?_, ?_⟩
  · intro c9
    have h := h.1 c9
    refine cm_X11_canWait (kg_X11_canWait h) h (fun x10 x11 hp h g12 g13 => ?_)
    have h := h g12 g13
    have K := k5_tr K hp.2
    refine ⟨?_, ?_⟩
    · intro c14
      have h := h.1 c14
      exact ⟨h, K⟩
    · intro c15
      have h := h.2 c15
      refine ⟨?_, ?_⟩
      · intro c16
        have h := h.1 c16
        exact ⟨h, K⟩
      · intro c17
        have h := h.2 c17
        refine cm_X11_spotOf (kg_X11_spotOf h) h (fun x18 x19 hp h g20 => ?_)
        have h := h g20
        have K := k5_tr K hp.2
        refine cm_X11_spotOf (kg_X11_spotOf h) h (fun x21 x22 hp h g23 => ?_)
        have h := h g23
        have K := k5_tr K hp.2
        refine cm_X11_waitsOf (kg_X11_waitsOf h) h (fun x24 x25 hp h g26 => ?_)
        have h := h g26
        have K := k5_tr K hp.2
        refine cm_X11_takes (kg_X11_takes h) h (fun x27 hp h g28 => ?_)
        have h := h g28
        have K := k5_tr K hp.2
        exact ⟨h, K⟩
  · intro c29
    have h := h.2 c29
    exact kg_X11_tries_18 h K hX3
theorem kg_X11_tries_3 {Q : HS → Prop} {v0 : Nat} {v1 : Int32} {v2 : Int32} {v3 : Int32} {v4 : Int32} {v5 : Int32} {S0 S : HS} (h : P_X11_tries_3 Q v0 v1 v2 v3 v4 v5 S) (K : K5 S0 S) : P_X11_tries_3 (fun T => Q T ∧ K5 S0 T) v0 v1 v2 v3 v4 v5 S := h (fun v0 v1 v2 v3 v4 v5 S => K5 S0 S → P_X11_tries_3 (fun T => Q T ∧ K5 S0 T) v0 v1 v2 v3 v4 v5 S) (fun v0 v1 v2 v3 v4 v5 S hB K => fd_X11_tries_3 (kgB_X11_tries_3 hB K (fun _ _ _ _ _ _ _ hx K => hx K))) K
set_option maxRecDepth 20000 in
set_option maxHeartbeats 1000000 in
theorem kg_X11_tries_0 {Q : HS → Prop} {v0 : Nat} {v1 : Int32} {v2 : Int32} {v3 : Int32} {v4 : Int32} {S0 S : HS} (h : P_X11_tries_0 Q v0 v1 v2 v3 v4 S) (K : K5 S0 S) : P_X11_tries_0 (fun T => Q T ∧ K5 S0 T) v0 v1 v2 v3 v4 S := by
  delta P_X11_tries_0 at h ⊢
  exact kg_X11_tries_3 h K
theorem kg_X11_tries {Q : HS → Prop} {v0 : Nat} {v1 : Int32} {v2 : Int32} {v3 : Int32} {v4 : Int32} {S : HS} (h : P_X11_tries v0 v1 v2 v3 v4 Q S) : P_X11_tries v0 v1 v2 v3 v4 (fun T => Q T ∧ K5 S T) S := kg_X11_tries_0 h (k5_rf S)
end
section
set_option maxRecDepth 20000 in
set_option maxHeartbeats 1000000 in
theorem kg_X11_laysWays_85 {Q : HS → Prop} {X3 X3_2 : Nat → Int32 → Int32 → Int32 → Int32 → HS → Prop} {X11 X11_2 : Nat → Int32 → Int32 → Int32 → Int32 → Int32 → HS → Prop} {v0 : Nat} {v1 : Int32} {v2 : Int32} {v3 : Int32} {v4 : Int32} {v5 : Int32} {S0 S : HS} (h : P_X11_laysWays_85 Q X3 X11 v0 v1 v2 v3 v4 v5 S) (K : K5 S0 S) (hX3 : ∀ (u0 : Nat) (u1 : Int32) (u2 : Int32) (u3 : Int32) (u4 : Int32) (u5 : HS), X3 u0 u1 u2 u3 u4 u5 → K5 S0 u5 → X3_2 u0 u1 u2 u3 u4 u5) (hX11 : ∀ (u0 : Nat) (u1 : Int32) (u2 : Int32) (u3 : Int32) (u4 : Int32) (u5 : Int32) (u6 : HS), X11 u0 u1 u2 u3 u4 u5 u6 → K5 S0 u6 → X11_2 u0 u1 u2 u3 u4 u5 u6) : P_X11_laysWays_85 (fun T => Q T ∧ K5 S0 T) X3_2 X11_2 v0 v1 v2 v3 v4 v5 S := by
  delta P_X11_laysWays_85 at h ⊢
  intro x2 e1
  have h := h x2 e1
  exact hX11 _ _ _ _ _ _ _ h K
set_option maxRecDepth 20000 in
set_option maxHeartbeats 1000000 in
theorem kg_X11_laysWays_51 {Q : HS → Prop} {X3 X3_2 : Nat → Int32 → Int32 → Int32 → Int32 → HS → Prop} {X11 X11_2 : Nat → Int32 → Int32 → Int32 → Int32 → Int32 → HS → Prop} {v0 : Nat} {v1 : Int32} {v2 : Int32} {v3 : Int32} {v4 : Int32} {v5 : Int32} {v6 : Int32} {s0 : Nat} {s1 : Int32} {s2 : Int64} {S0 S : HS} (h : P_X11_laysWays_51 Q X3 X11 v0 v1 v2 v3 v4 v5 v6 s0 s1 s2 S) (K : K5 S0 S) (hX3 : ∀ (u0 : Nat) (u1 : Int32) (u2 : Int32) (u3 : Int32) (u4 : Int32) (u5 : HS), X3 u0 u1 u2 u3 u4 u5 → K5 S0 u5 → X3_2 u0 u1 u2 u3 u4 u5) (hX11 : ∀ (u0 : Nat) (u1 : Int32) (u2 : Int32) (u3 : Int32) (u4 : Int32) (u5 : Int32) (u6 : HS), X11 u0 u1 u2 u3 u4 u5 u6 → K5 S0 u6 → X11_2 u0 u1 u2 u3 u4 u5 u6) : P_X11_laysWays_51 (fun T => Q T ∧ K5 S0 T) X3_2 X11_2 v0 v1 v2 v3 v4 v5 v6 s0 s1 s2 S := by
  delta P_X11_laysWays_51 at h ⊢
  obtain ⟨c1, h⟩ := h
  refine ⟨c1, ?_⟩
  have n2 := k5_ne K c1
  obtain ⟨c3, h⟩ := h
  refine ⟨c3, ?_⟩
  intro x5 e4
  have h := h x5 e4
  have K := k5_J K e4
  obtain ⟨c6, h⟩ := h
  refine ⟨c6, ?_⟩
  have n7 := k5_ne K c6
  obtain ⟨b8, e9, h⟩ := h
  refine ⟨b8, e9, ?_⟩
  obtain ⟨c10, h⟩ := h
  refine ⟨c10, ?_⟩
  have n11 := k5_ne K c10
  obtain ⟨c12, h⟩ := h
  refine ⟨c12, ?_⟩
  intro x14 e13
  have h := h x14 e13
  have K := k5_A K e13 n11 (by decide)
  obtain ⟨b15, e16, h⟩ := h
  refine ⟨b15, e16, ?_⟩
  obtain ⟨c17, h⟩ := h
  refine ⟨c17, ?_⟩
  have n18 := k5_ne K c17
  obtain ⟨c19, h⟩ := h
  refine ⟨c19, ?_⟩
  intro x21 e20
  have h := h x21 e20
  have K := k5_A K e20 n18 (by decide)
  refine ⟨?_, ?_⟩
  · intro c22
    have h := h.1 c22
    exact kg_X11_laysWays_85 h K hX3 hX11
  · intro c23
    have h := h.2 c23
    refine cm_X11_tries (kg_X11_tries h) h (fun x24 hp h g25 => ?_)
    have h := h g25
    have K := k5_tr K hp.2
    exact kg_X11_laysWays_85 h K hX3 hX11
set_option maxRecDepth 20000 in
set_option maxHeartbeats 1000000 in
theorem kgB_X11_laysWays_11 {Q : HS → Prop} {X3 X3_2 : Nat → Int32 → Int32 → Int32 → Int32 → HS → Prop} {X11 X11_2 : Nat → Int32 → Int32 → Int32 → Int32 → Int32 → HS → Prop} {v0 : Nat} {v1 : Int32} {v2 : Int32} {v3 : Int32} {v4 : Int32} {v5 : Int32} {S0 S : HS} (h : B_X11_laysWays_11 Q X3 X11 v0 v1 v2 v3 v4 v5 S) (K : K5 S0 S) (hX3 : ∀ (u0 : Nat) (u1 : Int32) (u2 : Int32) (u3 : Int32) (u4 : Int32) (u5 : HS), X3 u0 u1 u2 u3 u4 u5 → K5 S0 u5 → X3_2 u0 u1 u2 u3 u4 u5) (hX11 : ∀ (u0 : Nat) (u1 : Int32) (u2 : Int32) (u3 : Int32) (u4 : Int32) (u5 : Int32) (u6 : HS), X11 u0 u1 u2 u3 u4 u5 u6 → K5 S0 u6 → X11_2 u0 u1 u2 u3 u4 u5 u6) : B_X11_laysWays_11 (fun T => Q T ∧ K5 S0 T) X3_2 X11_2 v0 v1 v2 v3 v4 v5 S := by
  delta B_X11_laysWays_11 at h ⊢
  obtain ⟨c1, h⟩ := h
  refine ⟨c1, ?_⟩
  have n2 := k5_ne K c1
  obtain ⟨b3, e4, h⟩ := h
  refine ⟨b3, e4, ?_⟩
  obtain ⟨c5, h⟩ := h
  refine ⟨c5, ?_⟩
  have n6 := k5_ne K c5
  intro x8 e7
  have h := h x8 e7
  refine ⟨?_, ?_⟩
  · intro c9
    have h := h.1 c9
    intro x11 e10
    have h := h x11 e10
    exact hX3 _ _ _ _ _ _ h K
  · intro c12
    have h := h.2 c12
    refine cm_X11_spotOf (kg_X11_spotOf h) h (fun x13 x14 hp h g15 => ?_)
    have h := h g15
    have K := k5_tr K hp.2
    obtain ⟨b16, e17, h⟩ := h
    refine ⟨b16, e17, ?_⟩
    refine ⟨?_, ?_⟩
    · intro c18
      have h := h.1 c18
      exact kg_X11_laysWays_51 h K hX3 hX11
    · intro c19
      have h := h.2 c19
      exact kg_X11_laysWays_51 h K hX3 hX11
theorem kg_X11_laysWays_11 {Q : HS → Prop} {X3 X3_2 : Nat → Int32 → Int32 → Int32 → Int32 → HS → Prop} {v0 : Nat} {v1 : Int32} {v2 : Int32} {v3 : Int32} {v4 : Int32} {v5 : Int32} {S0 S : HS} (h : P_X11_laysWays_11 Q X3 v0 v1 v2 v3 v4 v5 S) (K : K5 S0 S) (hX3 : ∀ (u0 : Nat) (u1 : Int32) (u2 : Int32) (u3 : Int32) (u4 : Int32) (u5 : HS), X3 u0 u1 u2 u3 u4 u5 → K5 S0 u5 → X3_2 u0 u1 u2 u3 u4 u5) : P_X11_laysWays_11 (fun T => Q T ∧ K5 S0 T) X3_2 v0 v1 v2 v3 v4 v5 S := h (fun v0 v1 v2 v3 v4 v5 S => K5 S0 S → P_X11_laysWays_11 (fun T => Q T ∧ K5 S0 T) X3_2 v0 v1 v2 v3 v4 v5 S) (fun v0 v1 v2 v3 v4 v5 S hB K => fd_X11_laysWays_11 (kgB_X11_laysWays_11 hB K hX3 (fun _ _ _ _ _ _ _ hx K => hx K))) K
set_option maxRecDepth 20000 in
set_option maxHeartbeats 1000000 in
theorem kgB_X11_laysWays_3 {Q : HS → Prop} {X3 X3_2 : Nat → Int32 → Int32 → Int32 → Int32 → HS → Prop} {v0 : Nat} {v1 : Int32} {v2 : Int32} {v3 : Int32} {v4 : Int32} {S0 S : HS} (h : B_X11_laysWays_3 Q X3 v0 v1 v2 v3 v4 S) (K : K5 S0 S) (hX3 : ∀ (u0 : Nat) (u1 : Int32) (u2 : Int32) (u3 : Int32) (u4 : Int32) (u5 : HS), X3 u0 u1 u2 u3 u4 u5 → K5 S0 u5 → X3_2 u0 u1 u2 u3 u4 u5) : B_X11_laysWays_3 (fun T => Q T ∧ K5 S0 T) X3_2 v0 v1 v2 v3 v4 S := by
  delta B_X11_laysWays_3 at h ⊢
  refine ⟨?_, ?_⟩
  · intro c1
    have h := h.1 c1
    exact ⟨h, K⟩
  · intro c2
    have h := h.2 c2
    exact kg_X11_laysWays_11 h K hX3
theorem kg_X11_laysWays_3 {Q : HS → Prop} {v0 : Nat} {v1 : Int32} {v2 : Int32} {v3 : Int32} {v4 : Int32} {S0 S : HS} (h : P_X11_laysWays_3 Q v0 v1 v2 v3 v4 S) (K : K5 S0 S) : P_X11_laysWays_3 (fun T => Q T ∧ K5 S0 T) v0 v1 v2 v3 v4 S := h (fun v0 v1 v2 v3 v4 S => K5 S0 S → P_X11_laysWays_3 (fun T => Q T ∧ K5 S0 T) v0 v1 v2 v3 v4 S) (fun v0 v1 v2 v3 v4 S hB K => fd_X11_laysWays_3 (kgB_X11_laysWays_3 hB K (fun _ _ _ _ _ _ hx K => hx K))) K
set_option maxRecDepth 20000 in
set_option maxHeartbeats 1000000 in
theorem kg_X11_laysWays_0 {Q : HS → Prop} {v0 : Nat} {v1 : Int32} {v2 : Int32} {v3 : Int32} {S0 S : HS} (h : P_X11_laysWays_0 Q v0 v1 v2 v3 S) (K : K5 S0 S) : P_X11_laysWays_0 (fun T => Q T ∧ K5 S0 T) v0 v1 v2 v3 S := by
  delta P_X11_laysWays_0 at h ⊢
  exact kg_X11_laysWays_3 h K
theorem kg_X11_laysWays {Q : HS → Prop} {v0 : Nat} {v1 : Int32} {v2 : Int32} {v3 : Int32} {S : HS} (h : P_X11_laysWays v0 v1 v2 v3 Q S) : P_X11_laysWays v0 v1 v2 v3 (fun T => Q T ∧ K5 S T) S := kg_X11_laysWays_0 h (k5_rf S)
set_option maxRecDepth 20000 in
set_option maxHeartbeats 1000000 in
theorem kg_X11_refusesWay_0 {Q : Int32 → HS → Prop} {v0 : Nat} {v1 : Int32} {v2 : Int32} {v3 : Int32} {v4 : Int32} {v5 : Int32} {S0 S : HS} (h : P_X11_refusesWay_0 Q v0 v1 v2 v3 v4 v5 S) (K : K5 S0 S) : P_X11_refusesWay_0 (fun r T => Q r T ∧ K5 S0 T) v0 v1 v2 v3 v4 v5 S := by
  delta P_X11_refusesWay_0 at h ⊢
  obtain ⟨c1, h⟩ := h
  refine ⟨c1, ?_⟩
  have n2 := k5_ne K c1
  refine cm_X11_isWalker (kg_X11_isWalker h) h (fun x3 x4 hp h g5 g6 => ?_)
  have h := h g5 g6
  have K := k5_tr K hp.2
  refine ⟨?_, ?_⟩
  · intro c7
    have h := h.1 c7
    exact ⟨h, K⟩
  · intro c8
    have h := h.2 c8
    refine cm_X11_isPlace (kg_X11_isPlace h) h (fun x9 x10 hp h g11 g12 => ?_)
    have h := h g11 g12
    have K := k5_tr K hp.2
    refine ⟨?_, ?_⟩
    · intro c13
      have h := h.1 c13
      exact ⟨h, K⟩
    · intro c14
      have h := h.2 c14
      refine cm_X11_isPlace (kg_X11_isPlace h) h (fun x15 x16 hp h g17 g18 => ?_)
      have h := h g17 g18
      have K := k5_tr K hp.2
      refine ⟨?_, ?_⟩
      · intro c19
        have h := h.1 c19
        refine cm_X11_in (kg_X11_in h) h (fun x20 x21 hp h g22 g23 => ?_)
        have h := h g22 g23
        have K := k5_tr K hp.2
        refine ⟨?_, ?_⟩
        · intro c24
          have h := h.1 c24
          exact ⟨h, K⟩
        · intro c25
          have h := h.2 c25
          refine cm_X11_in (kg_X11_in h) h (fun x26 x27 hp h g28 g29 => ?_)
          have h := h g28 g29
          have K := k5_tr K hp.2
          refine ⟨?_, ?_⟩
          · intro c30
            have h := h.1 c30
            refine cm_X11_laysWays (kg_X11_laysWays h) h (fun x31 hp h g32 => ?_)
            have h := h g32
            have K := k5_tr K hp.2
            obtain ⟨b33, e34, h⟩ := h
            refine ⟨b33, e34, ?_⟩
            refine cm_X11_spotOf (kg_X11_spotOf h) h (fun x35 x36 hp h g37 => ?_)
            have h := h g37
            have K := k5_tr K hp.2
            obtain ⟨c38, h⟩ := h
            refine ⟨c38, ?_⟩
            have n39 := k5_ne K c38
            obtain ⟨c40, h⟩ := h
            refine ⟨c40, ?_⟩
            intro x42 e41
            have h := h x42 e41
            refine ⟨?_, ?_⟩
            · intro c43
              have h := h.1 c43
              exact ⟨h, K⟩
            · intro c44
              have h := h.2 c44
              exact ⟨h, K⟩
          · intro c45
            have h := h.2 c45
            exact ⟨h, K⟩
      · intro c46
        have h := h.2 c46
        exact ⟨h, K⟩
theorem kg_X11_refusesWay {Q : Int32 → HS → Prop} {v0 : Nat} {v1 : Int32} {v2 : Int32} {v3 : Int32} {v4 : Int32} {v5 : Int32} {S : HS} (h : P_X11_refusesWay v0 v1 v2 v3 v4 v5 Q S) : P_X11_refusesWay v0 v1 v2 v3 v4 v5 (fun r T => Q r T ∧ K5 S T) S := kg_X11_refusesWay_0 h (k5_rf S)
set_option maxRecDepth 20000 in
set_option maxHeartbeats 1000000 in
theorem kg_X11_stepOf_117 {Q : Int32 → HS → Prop} {X9 X9_2 : Nat → Int32 → Int32 → Int32 → Int32 → HS → Prop} {v0 : Nat} {v4 : Int32} {v6 : Int32} {v7 : Int32} {s0 : Int32} {S0 S : HS} (h : P_X11_stepOf_117 Q X9 v0 v4 v6 v7 s0 S) (K : K5 S0 S) (hX9 : ∀ (u0 : Nat) (u1 : Int32) (u2 : Int32) (u3 : Int32) (u4 : Int32) (u5 : HS), X9 u0 u1 u2 u3 u4 u5 → K5 S0 u5 → X9_2 u0 u1 u2 u3 u4 u5) : P_X11_stepOf_117 (fun r T => Q r T ∧ K5 S0 T) X9_2 v0 v4 v6 v7 s0 S := by
  delta P_X11_stepOf_117 at h ⊢
  exact hX9 _ _ _ _ _ _ h K
set_option maxRecDepth 20000 in
set_option maxHeartbeats 1000000 in
theorem kg_X11_stepOf_82 {Q : Int32 → HS → Prop} {X9 X9_2 : Nat → Int32 → Int32 → Int32 → Int32 → HS → Prop} {v0 : Nat} {v4 : Int32} {v5 : Int32} {v7 : Int32} {v8 : Int32} {s0 : Int32} {s1 : Int32} {S0 S : HS} (h : P_X11_stepOf_82 Q X9 v0 v4 v5 v7 v8 s0 s1 S) (K : K5 S0 S) (hX9 : ∀ (u0 : Nat) (u1 : Int32) (u2 : Int32) (u3 : Int32) (u4 : Int32) (u5 : HS), X9 u0 u1 u2 u3 u4 u5 → K5 S0 u5 → X9_2 u0 u1 u2 u3 u4 u5) : P_X11_stepOf_82 (fun r T => Q r T ∧ K5 S0 T) X9_2 v0 v4 v5 v7 v8 s0 s1 S := by
  delta P_X11_stepOf_82 at h ⊢
  intro x2 e1
  have h := h x2 e1
  refine ⟨?_, ?_⟩
  · intro c3
    have h := h.1 c3
    obtain ⟨c4, h⟩ := h
    refine ⟨c4, ?_⟩
    have n5 := k5_ne K c4
    obtain ⟨b6, e7, h⟩ := h
    refine ⟨b6, e7, ?_⟩
    intro x9 e8
    have h := h x9 e8
    intro x11 e10
    have h := h x11 e10
    intro x13 e12
    have h := h x13 e12
    obtain ⟨c14, h⟩ := h
    refine ⟨c14, ?_⟩
    have n15 := k5_ne K c14
    refine cm_X10_ends (kg_X10_ends h) h (fun x16 x17 hp h g18 => ?_)
    have h := h g18
    have K := k5_tr K hp.2
    exact kg_X11_stepOf_117 h K hX9
  · intro c19
    have h := h.2 c19
    exact kg_X11_stepOf_117 h K hX9
set_option maxRecDepth 20000 in
set_option maxHeartbeats 1000000 in
theorem kgB_X11_stepOf_9 {Q : Int32 → HS → Prop} {X9 X9_2 : Nat → Int32 → Int32 → Int32 → Int32 → HS → Prop} {v0 : Nat} {v4 : Int32} {v5 : Int32} {v6 : Int32} {v7 : Int32} {S0 S : HS} (h : B_X11_stepOf_9 Q X9 v0 v4 v5 v6 v7 S) (K : K5 S0 S) (hX9 : ∀ (u0 : Nat) (u1 : Int32) (u2 : Int32) (u3 : Int32) (u4 : Int32) (u5 : HS), X9 u0 u1 u2 u3 u4 u5 → K5 S0 u5 → X9_2 u0 u1 u2 u3 u4 u5) : B_X11_stepOf_9 (fun r T => Q r T ∧ K5 S0 T) X9_2 v0 v4 v5 v6 v7 S := by
  delta B_X11_stepOf_9 at h ⊢
  obtain ⟨c1, h⟩ := h
  refine ⟨c1, ?_⟩
  have n2 := k5_ne K c1
  obtain ⟨b3, e4, h⟩ := h
  refine ⟨b3, e4, ?_⟩
  refine cm_X11_spotOf (kg_X11_spotOf h) h (fun x5 x6 hp h g7 => ?_)
  have h := h g7
  have K := k5_tr K hp.2
  obtain ⟨c8, h⟩ := h
  refine ⟨c8, ?_⟩
  have n9 := k5_ne K c8
  obtain ⟨c10, h⟩ := h
  refine ⟨c10, ?_⟩
  intro x12 e11
  have h := h x12 e11
  refine ⟨?_, ?_⟩
  · intro c13
    have h := h.1 c13
    refine ⟨?_, ?_⟩
    · intro c14
      have h := h.1 c14
      exact ⟨h, K⟩
    · intro c15
      have h := h.2 c15
      exact ⟨h, K⟩
  · intro c16
    have h := h.2 c16
    obtain ⟨b17, e18, h⟩ := h
    refine ⟨b17, e18, ?_⟩
    refine cm_X11_spotOf (kg_X11_spotOf h) h (fun x19 x20 hp h g21 => ?_)
    have h := h g21
    have K := k5_tr K hp.2
    obtain ⟨c22, h⟩ := h
    refine ⟨c22, ?_⟩
    have n23 := k5_ne K c22
    obtain ⟨c24, h⟩ := h
    refine ⟨c24, ?_⟩
    intro x26 e25
    have h := h x26 e25
    refine ⟨?_, ?_⟩
    · intro c27
      have h := h.1 c27
      intro x29 e28
      have h := h x29 e28
      refine ⟨?_, ?_⟩
      · intro c30
        have h := h.1 c30
        obtain ⟨b31, e32, h⟩ := h
        refine ⟨b31, e32, ?_⟩
        intro x34 e33
        have h := h x34 e33
        intro x36 e35
        have h := h x36 e35
        obtain ⟨c37, h⟩ := h
        refine ⟨c37, ?_⟩
        have n38 := k5_ne K c37
        refine cm_X10_minutes (kg_X10_minutes h) h (fun x39 x40 hp h g41 => ?_)
        have h := h g41
        have K := k5_tr K hp.2
        exact kg_X11_stepOf_82 h K hX9
      · intro c42
        have h := h.2 c42
        exact kg_X11_stepOf_82 h K hX9
    · intro c43
      have h := h.2 c43
      exact ⟨h, K⟩
theorem kg_X11_stepOf_9 {Q : Int32 → HS → Prop} {v0 : Nat} {v4 : Int32} {v5 : Int32} {v6 : Int32} {v7 : Int32} {S0 S : HS} (h : P_X11_stepOf_9 Q v0 v4 v5 v6 v7 S) (K : K5 S0 S) : P_X11_stepOf_9 (fun r T => Q r T ∧ K5 S0 T) v0 v4 v5 v6 v7 S := h (fun v0 v4 v5 v6 v7 S => K5 S0 S → P_X11_stepOf_9 (fun r T => Q r T ∧ K5 S0 T) v0 v4 v5 v6 v7 S) (fun v0 v4 v5 v6 v7 S hB K => fd_X11_stepOf_9 (kgB_X11_stepOf_9 hB K (fun _ _ _ _ _ _ hx K => hx K))) K
set_option maxRecDepth 20000 in
set_option maxHeartbeats 1000000 in
theorem kg_X11_stepOf_0 {Q : Int32 → HS → Prop} {v0 : Nat} {v2 : Int32} {v3 : Int32} {v4 : Int32} {S0 S : HS} (h : P_X11_stepOf_0 Q v0 v2 v3 v4 S) (K : K5 S0 S) : P_X11_stepOf_0 (fun r T => Q r T ∧ K5 S0 T) v0 v2 v3 v4 S := by
  delta P_X11_stepOf_0 at h ⊢
  exact kg_X11_stepOf_9 h K
theorem kg_X11_stepOf {Q : Int32 → HS → Prop} {v0 : Nat} {v1 : Int32} {v2 : Int32} {v3 : Int32} {v4 : Int32} {S : HS} (h : P_X11_stepOf v0 v1 v2 v3 v4 Q S) : P_X11_stepOf v0 v1 v2 v3 v4 (fun r T => Q r T ∧ K5 S T) S := kg_X11_stepOf_0 h (k5_rf S)
set_option maxRecDepth 20000 in
set_option maxHeartbeats 1000000 in
theorem kg_X5_turnOf_17 {Q : Int32 → HS → Prop} {v2 : Nat} {s0 : Int32} {S0 S : HS} (h : P_X5_turnOf_17 Q v2 s0 S) (K : K5 S0 S) : P_X5_turnOf_17 (fun r T => Q r T ∧ K5 S0 T) v2 s0 S := by
  delta P_X5_turnOf_17 at h ⊢
  obtain ⟨c1, h⟩ := h
  refine ⟨c1, ?_⟩
  have n2 := k5_ne K c1
  intro x4 e3
  have h := h x4 e3
  exact ⟨h, K⟩
set_option maxRecDepth 20000 in
set_option maxHeartbeats 1000000 in
theorem kg_X5_turnOf_0 {Q : Int32 → HS → Prop} {v0 : Nat} {v1 : Int32} {v2 : Nat} {S0 S : HS} (h : P_X5_turnOf_0 Q v0 v1 v2 S) (K : K5 S0 S) : P_X5_turnOf_0 (fun r T => Q r T ∧ K5 S0 T) v0 v1 v2 S := by
  delta P_X5_turnOf_0 at h ⊢
  refine ⟨?_, ?_⟩
  · intro c1
    have h := h.1 c1
    obtain ⟨c2, h⟩ := h
    refine ⟨c2, ?_⟩
    have n3 := k5_ne K c2
    intro x5 e4
    have h := h x5 e4
    exact kg_X5_turnOf_17 h K
  · intro c6
    have h := h.2 c6
    obtain ⟨c7, h⟩ := h
    refine ⟨c7, ?_⟩
    have n8 := k5_ne K c7
    intro x10 e9
    have h := h x10 e9
    exact kg_X5_turnOf_17 h K
theorem kg_X5_turnOf {Q : Int32 → HS → Prop} {v0 : Nat} {v1 : Int32} {v2 : Nat} {S : HS} (h : P_X5_turnOf v0 v1 v2 Q S) : P_X5_turnOf v0 v1 v2 (fun r T => Q r T ∧ K5 S T) S := kg_X5_turnOf_0 h (k5_rf S)
set_option maxRecDepth 20000 in
set_option maxHeartbeats 1000000 in
theorem kg_X5_airAlong_0 {Q : Int32 → HS → Prop} {v0 : Nat} {v1 : Int32} {v2 : Nat} {S0 S : HS} (h : P_X5_airAlong_0 Q v0 v1 v2 S) (K : K5 S0 S) : P_X5_airAlong_0 (fun r T => Q r T ∧ K5 S0 T) v0 v1 v2 S := by
  delta P_X5_airAlong_0 at h ⊢
  obtain ⟨c1, h⟩ := h
  refine ⟨c1, ?_⟩
  have n2 := k5_ne K c1
  refine cm_X5_turnOf (kg_X5_turnOf h) h (fun x3 x4 hp h g5 => ?_)
  have h := h g5
  have K := k5_tr K hp.2
  refine ⟨?_, ?_⟩
  · intro c6
    have h := h.1 c6
    refine ⟨?_, ?_⟩
    · intro c7
      have h := h.1 c7
      exact ⟨h, K⟩
    · intro c8
      have h := h.2 c8
      obtain ⟨c9, h⟩ := h
      refine ⟨c9, ?_⟩
      have n10 := k5_ne K c9
      intro x12 e11
      have h := h x12 e11
      exact ⟨h, K⟩
  · intro c13
    have h := h.2 c13
    obtain ⟨c14, h⟩ := h
    refine ⟨c14, ?_⟩
    have n15 := k5_ne K c14
    intro x17 e16
    have h := h x17 e16
    exact ⟨h, K⟩
theorem kg_X5_airAlong {Q : Int32 → HS → Prop} {v0 : Nat} {v1 : Int32} {v2 : Nat} {S : HS} (h : P_X5_airAlong v0 v1 v2 Q S) : P_X5_airAlong v0 v1 v2 (fun r T => Q r T ∧ K5 S T) S := kg_X5_airAlong_0 h (k5_rf S)
set_option maxRecDepth 20000 in
set_option maxHeartbeats 1000000 in
theorem kg_X1_lay_130 {Q : HS → Prop} {v0 : Nat} {v3 : Nat} {v7 : Int64} {v9 : Int32} {s0 : Nat} {s1 : Int32} {s2 : Int64} {S0 S : HS} (h : P_X1_lay_130 Q v0 v3 v7 v9 s0 s1 s2 S) (K : K5 S0 S) : P_X1_lay_130 (fun T => Q T ∧ K5 S0 T) v0 v3 v7 v9 s0 s1 s2 S := by
  delta P_X1_lay_130 at h ⊢
  obtain ⟨c1, h⟩ := h
  refine ⟨c1, ?_⟩
  have n2 := k5_ne K c1
  obtain ⟨c3, h⟩ := h
  refine ⟨c3, ?_⟩
  intro x5 e4
  have h := h x5 e4
  have K := k5_J K e4
  obtain ⟨c6, h⟩ := h
  refine ⟨c6, ?_⟩
  have n7 := k5_ne K c6
  obtain ⟨b8, e9, h⟩ := h
  refine ⟨b8, e9, ?_⟩
  refine ⟨?_, ?_⟩
  · intro c10
    have h := h.1 c10
    obtain ⟨c11, h⟩ := h
    refine ⟨c11, ?_⟩
    have n12 := k5_ne K c11
    obtain ⟨c13, h⟩ := h
    refine ⟨c13, ?_⟩
    intro x15 e14
    have h := h x15 e14
    have K := k5_J K e14
    exact ⟨h, K⟩
  · intro c16
    have h := h.2 c16
    obtain ⟨c17, h⟩ := h
    refine ⟨c17, ?_⟩
    have n18 := k5_ne K c17
    intro x20 e19
    have h := h x20 e19
    obtain ⟨c21, h⟩ := h
    refine ⟨c21, ?_⟩
    have n22 := k5_ne K c21
    intro x24 e23
    have h := h x24 e23
    obtain ⟨c25, h⟩ := h
    refine ⟨c25, ?_⟩
    intro x27 e26
    have h := h x27 e26
    have K := k5_J K e26
    exact ⟨h, K⟩
set_option maxRecDepth 20000 in
set_option maxHeartbeats 1000000 in
theorem kg_X1_lay_27 {Q : HS → Prop} {v0 : Nat} {v1 : Nat} {v2 : Int32} {v3 : Nat} {v4 : Int32} {s0 : Int64} {S0 S : HS} (h : P_X1_lay_27 Q v0 v1 v2 v3 v4 s0 S) (K : K5 S0 S) : P_X1_lay_27 (fun T => Q T ∧ K5 S0 T) v0 v1 v2 v3 v4 s0 S := by
  delta P_X1_lay_27 at h ⊢
  obtain ⟨c1, h⟩ := h
  refine ⟨c1, ?_⟩
  have n2 := k5_ne K c1
  intro x4 e3
  have h := h x4 e3
  intro x6 e5
  have h := h x6 e5
  obtain ⟨c7, h⟩ := h
  refine ⟨c7, ?_⟩
  have n8 := k5_ne K c7
  refine cm_X5_turnOf (kg_X5_turnOf h) h (fun x9 x10 hp h g11 => ?_)
  have h := h g11
  have K := k5_tr K hp.2
  refine cm_X5_airAlong (kg_X5_airAlong h) h (fun x12 x13 hp h g14 => ?_)
  have h := h g14
  have K := k5_tr K hp.2
  obtain ⟨c15, h⟩ := h
  refine ⟨c15, ?_⟩
  have n16 := k5_ne K c15
  obtain ⟨b17, e18, h⟩ := h
  refine ⟨b17, e18, ?_⟩
  intro x20 e19
  have h := h x20 e19
  obtain ⟨c21, h⟩ := h
  refine ⟨c21, ?_⟩
  have n22 := k5_ne K c21
  intro x24 e23
  have h := h x24 e23
  obtain ⟨c25, h⟩ := h
  refine ⟨c25, ?_⟩
  intro x27 e26
  have h := h x27 e26
  have K := k5_J K e26
  obtain ⟨b28, e29, h⟩ := h
  refine ⟨b28, e29, ?_⟩
  intro x31 e30
  have h := h x31 e30
  obtain ⟨c32, h⟩ := h
  refine ⟨c32, ?_⟩
  have n33 := k5_ne K c32
  intro x35 e34
  have h := h x35 e34
  obtain ⟨c36, h⟩ := h
  refine ⟨c36, ?_⟩
  intro x38 e37
  have h := h x38 e37
  have K := k5_J K e37
  obtain ⟨b39, e40, h⟩ := h
  refine ⟨b39, e40, ?_⟩
  intro x42 e41
  have h := h x42 e41
  obtain ⟨c43, h⟩ := h
  refine ⟨c43, ?_⟩
  have n44 := k5_ne K c43
  intro x46 e45
  have h := h x46 e45
  obtain ⟨c47, h⟩ := h
  refine ⟨c47, ?_⟩
  intro x49 e48
  have h := h x49 e48
  have K := k5_J K e48
  obtain ⟨b50, e51, h⟩ := h
  refine ⟨b50, e51, ?_⟩
  refine ⟨?_, ?_⟩
  · intro c52
    have h := h.1 c52
    exact kg_X1_lay_130 h K
  · intro c53
    have h := h.2 c53
    intro x55 e54
    have h := h x55 e54
    exact kg_X1_lay_130 h K
set_option maxRecDepth 20000 in
set_option maxHeartbeats 1000000 in
theorem kg_X1_lay_0 {Q : HS → Prop} {v0 : Nat} {v1 : Nat} {v2 : Int32} {v3 : Nat} {v4 : Int32} {S0 S : HS} (h : P_X1_lay_0 Q v0 v1 v2 v3 v4 S) (K : K5 S0 S) : P_X1_lay_0 (fun T => Q T ∧ K5 S0 T) v0 v1 v2 v3 v4 S := by
  delta P_X1_lay_0 at h ⊢
  refine ⟨?_, ?_⟩
  · intro c1
    have h := h.1 c1
    exact kg_X1_lay_27 h K
  · intro c2
    have h := h.2 c2
    obtain ⟨c3, h⟩ := h
    refine ⟨c3, ?_⟩
    have n4 := k5_ne K c3
    intro x6 e5
    have h := h x6 e5
    intro x8 e7
    have h := h x8 e7
    obtain ⟨c9, h⟩ := h
    refine ⟨c9, ?_⟩
    intro x11 e10
    have h := h x11 e10
    exact kg_X1_lay_27 h K
theorem kg_X1_lay {Q : HS → Prop} {v0 : Nat} {v1 : Nat} {v2 : Int32} {v3 : Nat} {v4 : Int32} {S : HS} (h : P_X1_lay v0 v1 v2 v3 v4 Q S) : P_X1_lay v0 v1 v2 v3 v4 (fun T => Q T ∧ K5 S T) S := kg_X1_lay_0 h (k5_rf S)
set_option maxRecDepth 20000 in
set_option maxHeartbeats 1000000 in
theorem kg_X6_shield_0 {Q : Int32 → HS → Prop} {v0 : Nat} {S0 S : HS} (h : P_X6_shield_0 Q v0 S) (K : K5 S0 S) : P_X6_shield_0 (fun r T => Q r T ∧ K5 S0 T) v0 S := by
  delta P_X6_shield_0 at h ⊢
  obtain ⟨c1, h⟩ := h
  refine ⟨c1, ?_⟩
  have n2 := k5_ne K c1
  intro x4 e3
  have h := h x4 e3
  refine ⟨?_, ?_⟩
  · intro c5
    have h := h.1 c5
    exact ⟨h, K⟩
  · intro c6
    have h := h.2 c6
    intro x8 e7
    have h := h x8 e7
    exact ⟨h, K⟩
theorem kg_X6_shield {Q : Int32 → HS → Prop} {v0 : Nat} {S : HS} (h : P_X6_shield v0 Q S) : P_X6_shield v0 (fun r T => Q r T ∧ K5 S T) S := kg_X6_shield_0 h (k5_rf S)
set_option maxRecDepth 20000 in
set_option maxHeartbeats 1000000 in
theorem kg_X1_isForward_0 {Q : Int32 → HS → Prop} {v0 : Nat} {v1 : Nat} {S0 S : HS} (h : P_X1_isForward_0 Q v0 v1 S) (K : K5 S0 S) : P_X1_isForward_0 (fun r T => Q r T ∧ K5 S0 T) v0 v1 S := by
  delta P_X1_isForward_0 at h ⊢
  obtain ⟨c1, h⟩ := h
  refine ⟨c1, ?_⟩
  have n2 := k5_ne K c1
  obtain ⟨b3, e4, h⟩ := h
  refine ⟨b3, e4, ?_⟩
  obtain ⟨c5, h⟩ := h
  refine ⟨c5, ?_⟩
  have n6 := k5_ne K c5
  obtain ⟨c7, h⟩ := h
  refine ⟨c7, ?_⟩
  intro x9 e8
  have h := h x9 e8
  obtain ⟨c10, h⟩ := h
  refine ⟨c10, ?_⟩
  have n11 := k5_ne K c10
  refine cm_X6_shield (kg_X6_shield h) h (fun x12 x13 hp h g14 => ?_)
  have h := h g14
  have K := k5_tr K hp.2
  intro x16 e15
  have h := h x16 e15
  intro x18 e17
  have h := h x18 e17
  intro x20 e19
  have h := h x20 e19
  obtain ⟨b21, e22, h⟩ := h
  refine ⟨b21, e22, ?_⟩
  obtain ⟨c23, h⟩ := h
  refine ⟨c23, ?_⟩
  have n24 := k5_ne K c23
  obtain ⟨c25, h⟩ := h
  refine ⟨c25, ?_⟩
  intro x27 e26
  have h := h x27 e26
  refine cm_X6_shield (kg_X6_shield h) h (fun x28 x29 hp h g30 => ?_)
  have h := h g30
  have K := k5_tr K hp.2
  intro x32 e31
  have h := h x32 e31
  intro x34 e33
  have h := h x34 e33
  intro x36 e35
  have h := h x36 e35
  refine ⟨?_, ?_⟩
  · intro c37
    have h := h.1 c37
    exact ⟨h, K⟩
  · intro c38
    have h := h.2 c38
    exact ⟨h, K⟩
theorem kg_X1_isForward {Q : Int32 → HS → Prop} {v0 : Nat} {v1 : Nat} {S : HS} (h : P_X1_isForward v0 v1 Q S) : P_X1_isForward v0 v1 (fun r T => Q r T ∧ K5 S T) S := kg_X1_isForward_0 h (k5_rf S)
set_option maxRecDepth 20000 in
set_option maxHeartbeats 1000000 in
theorem kg_X1_soak_35 {Q : Int64 → HS → Prop} {v0 : Nat} {v1 : Nat} {v2 : Int32} {v3 : Int32} {v5 : Int32} {s0 : Int32} {S0 S : HS} (h : P_X1_soak_35 Q v0 v1 v2 v3 v5 s0 S) (K : K5 S0 S) : P_X1_soak_35 (fun r T => Q r T ∧ K5 S0 T) v0 v1 v2 v3 v5 s0 S := by
  delta P_X1_soak_35 at h ⊢
  obtain ⟨c1, h⟩ := h
  refine ⟨c1, ?_⟩
  have n2 := k5_ne K c1
  obtain ⟨b3, e4, h⟩ := h
  refine ⟨b3, e4, ?_⟩
  obtain ⟨b5, e6, h⟩ := h
  refine ⟨b5, e6, ?_⟩
  obtain ⟨c7, h⟩ := h
  refine ⟨c7, ?_⟩
  have n8 := k5_ne K c7
  obtain ⟨c9, h⟩ := h
  refine ⟨c9, ?_⟩
  intro x11 e10
  have h := h x11 e10
  obtain ⟨c12, h⟩ := h
  refine ⟨c12, ?_⟩
  have n13 := k5_ne K c12
  intro x15 e14
  have h := h x15 e14
  intro x17 e16
  have h := h x17 e16
  obtain ⟨c18, h⟩ := h
  refine ⟨c18, ?_⟩
  have n19 := k5_ne K c18
  intro x21 e20
  have h := h x21 e20
  obtain ⟨c22, h⟩ := h
  refine ⟨c22, ?_⟩
  intro x24 e23
  have h := h x24 e23
  have K := k5_J K e23
  obtain ⟨b25, e26, h⟩ := h
  refine ⟨b25, e26, ?_⟩
  obtain ⟨b27, e28, h⟩ := h
  refine ⟨b27, e28, ?_⟩
  obtain ⟨c29, h⟩ := h
  refine ⟨c29, ?_⟩
  have n30 := k5_ne K c29
  obtain ⟨c31, h⟩ := h
  refine ⟨c31, ?_⟩
  intro x33 e32
  have h := h x33 e32
  intro x35 e34
  have h := h x35 e34
  intro x37 e36
  have h := h x37 e36
  obtain ⟨c38, h⟩ := h
  refine ⟨c38, ?_⟩
  have n39 := k5_ne K c38
  intro x41 e40
  have h := h x41 e40
  obtain ⟨c42, h⟩ := h
  refine ⟨c42, ?_⟩
  intro x44 e43
  have h := h x44 e43
  have K := k5_J K e43
  obtain ⟨b45, e46, h⟩ := h
  refine ⟨b45, e46, ?_⟩
  obtain ⟨b47, e48, h⟩ := h
  refine ⟨b47, e48, ?_⟩
  obtain ⟨c49, h⟩ := h
  refine ⟨c49, ?_⟩
  have n50 := k5_ne K c49
  obtain ⟨c51, h⟩ := h
  refine ⟨c51, ?_⟩
  intro x53 e52
  have h := h x53 e52
  intro x55 e54
  have h := h x55 e54
  intro x57 e56
  have h := h x57 e56
  obtain ⟨c58, h⟩ := h
  refine ⟨c58, ?_⟩
  have n59 := k5_ne K c58
  intro x61 e60
  have h := h x61 e60
  obtain ⟨c62, h⟩ := h
  refine ⟨c62, ?_⟩
  intro x64 e63
  have h := h x64 e63
  have K := k5_J K e63
  obtain ⟨b65, e66, h⟩ := h
  refine ⟨b65, e66, ?_⟩
  obtain ⟨b67, e68, h⟩ := h
  refine ⟨b67, e68, ?_⟩
  obtain ⟨c69, h⟩ := h
  refine ⟨c69, ?_⟩
  have n70 := k5_ne K c69
  obtain ⟨c71, h⟩ := h
  refine ⟨c71, ?_⟩
  intro x73 e72
  have h := h x73 e72
  intro x75 e74
  have h := h x75 e74
  obtain ⟨c76, h⟩ := h
  refine ⟨c76, ?_⟩
  have n77 := k5_ne K c76
  intro x79 e78
  have h := h x79 e78
  obtain ⟨c80, h⟩ := h
  refine ⟨c80, ?_⟩
  intro x82 e81
  have h := h x82 e81
  have K := k5_J K e81
  obtain ⟨b83, e84, h⟩ := h
  refine ⟨b83, e84, ?_⟩
  obtain ⟨b85, e86, h⟩ := h
  refine ⟨b85, e86, ?_⟩
  obtain ⟨c87, h⟩ := h
  refine ⟨c87, ?_⟩
  have n88 := k5_ne K c87
  obtain ⟨c89, h⟩ := h
  refine ⟨c89, ?_⟩
  intro x91 e90
  have h := h x91 e90
  intro x93 e92
  have h := h x93 e92
  obtain ⟨c94, h⟩ := h
  refine ⟨c94, ?_⟩
  have n95 := k5_ne K c94
  intro x97 e96
  have h := h x97 e96
  obtain ⟨c98, h⟩ := h
  refine ⟨c98, ?_⟩
  intro x100 e99
  have h := h x100 e99
  have K := k5_J K e99
  obtain ⟨b101, e102, h⟩ := h
  refine ⟨b101, e102, ?_⟩
  obtain ⟨c103, h⟩ := h
  refine ⟨c103, ?_⟩
  have n104 := k5_ne K c103
  obtain ⟨c105, h⟩ := h
  refine ⟨c105, ?_⟩
  intro x107 e106
  have h := h x107 e106
  obtain ⟨b108, e109, h⟩ := h
  refine ⟨b108, e109, ?_⟩
  obtain ⟨c110, h⟩ := h
  refine ⟨c110, ?_⟩
  have n111 := k5_ne K c110
  obtain ⟨c112, h⟩ := h
  refine ⟨c112, ?_⟩
  intro x114 e113
  have h := h x114 e113
  obtain ⟨b115, e116, h⟩ := h
  refine ⟨b115, e116, ?_⟩
  obtain ⟨c117, h⟩ := h
  refine ⟨c117, ?_⟩
  have n118 := k5_ne K c117
  obtain ⟨c119, h⟩ := h
  refine ⟨c119, ?_⟩
  intro x121 e120
  have h := h x121 e120
  obtain ⟨b122, e123, h⟩ := h
  refine ⟨b122, e123, ?_⟩
  obtain ⟨c124, h⟩ := h
  refine ⟨c124, ?_⟩
  have n125 := k5_ne K c124
  obtain ⟨c126, h⟩ := h
  refine ⟨c126, ?_⟩
  intro x128 e127
  have h := h x128 e127
  obtain ⟨b129, e130, h⟩ := h
  refine ⟨b129, e130, ?_⟩
  obtain ⟨c131, h⟩ := h
  refine ⟨c131, ?_⟩
  have n132 := k5_ne K c131
  obtain ⟨c133, h⟩ := h
  refine ⟨c133, ?_⟩
  intro x135 e134
  have h := h x135 e134
  exact ⟨h, K⟩
set_option maxRecDepth 20000 in
set_option maxHeartbeats 1000000 in
theorem kg_X1_soak_20 {Q : Int64 → HS → Prop} {v0 : Nat} {v1 : Nat} {v2 : Int32} {v3 : Int32} {v4 : Int32} {s0 : Int32} {S0 S : HS} (h : P_X1_soak_20 Q v0 v1 v2 v3 v4 s0 S) (K : K5 S0 S) : P_X1_soak_20 (fun r T => Q r T ∧ K5 S0 T) v0 v1 v2 v3 v4 s0 S := by
  delta P_X1_soak_20 at h ⊢
  refine ⟨?_, ?_⟩
  · intro c1
    have h := h.1 c1
    exact kg_X1_soak_35 h K
  · intro c2
    have h := h.2 c2
    obtain ⟨c3, h⟩ := h
    refine ⟨c3, ?_⟩
    have n4 := k5_ne K c3
    refine cm_X6_shield (kg_X6_shield h) h (fun x5 x6 hp h g7 => ?_)
    have h := h g7
    have K := k5_tr K hp.2
    exact kg_X1_soak_35 h K
set_option maxRecDepth 20000 in
set_option maxHeartbeats 1000000 in
theorem kg_X1_soak_0 {Q : Int64 → HS → Prop} {v0 : Nat} {v1 : Nat} {v2 : Int32} {v3 : Int32} {S0 S : HS} (h : P_X1_soak_0 Q v0 v1 v2 v3 S) (K : K5 S0 S) : P_X1_soak_0 (fun r T => Q r T ∧ K5 S0 T) v0 v1 v2 v3 S := by
  delta P_X1_soak_0 at h ⊢
  obtain ⟨c1, h⟩ := h
  refine ⟨c1, ?_⟩
  have n2 := k5_ne K c1
  refine cm_X1_isForward (kg_X1_isForward h) h (fun x3 x4 hp h g5 g6 => ?_)
  have h := h g5 g6
  have K := k5_tr K hp.2
  refine ⟨?_, ?_⟩
  · intro c7
    have h := h.1 c7
    obtain ⟨c8, h⟩ := h
    refine ⟨c8, ?_⟩
    have n9 := k5_ne K c8
    refine cm_X6_shield (kg_X6_shield h) h (fun x10 x11 hp h g12 => ?_)
    have h := h g12
    have K := k5_tr K hp.2
    exact kg_X1_soak_20 h K
  · intro c13
    have h := h.2 c13
    exact kg_X1_soak_20 h K
theorem kg_X1_soak {Q : Int64 → HS → Prop} {v0 : Nat} {v1 : Nat} {v2 : Int32} {v3 : Int32} {S : HS} (h : P_X1_soak v0 v1 v2 v3 Q S) : P_X1_soak v0 v1 v2 v3 (fun r T => Q r T ∧ K5 S T) S := kg_X1_soak_0 h (k5_rf S)
set_option maxRecDepth 20000 in
set_option maxHeartbeats 1000000 in
theorem kg_X1_wetOf_0 {Q : Int64 → HS → Prop} {v0 : Nat} {v1 : Nat} {v2 : Nat} {v3 : Int32} {v4 : Nat} {v5 : Int32} {S0 S : HS} (h : P_X1_wetOf_0 Q v0 v1 v2 v3 v4 v5 S) (K : K5 S0 S) : P_X1_wetOf_0 (fun r T => Q r T ∧ K5 S0 T) v0 v1 v2 v3 v4 v5 S := by
  delta P_X1_wetOf_0 at h ⊢
  obtain ⟨c1, h⟩ := h
  refine ⟨c1, ?_⟩
  have n2 := k5_ne K c1
  refine cm_X1_lay (kg_X1_lay h) h (fun x3 hp h g4 => ?_)
  have h := h g4
  have K := k5_tr K hp.2
  refine cm_X1_soak (kg_X1_soak h) h (fun x5 x6 hp h g7 => ?_)
  have h := h g7
  have K := k5_tr K hp.2
  exact ⟨h, K⟩
theorem kg_X1_wetOf {Q : Int64 → HS → Prop} {v0 : Nat} {v1 : Nat} {v2 : Nat} {v3 : Int32} {v4 : Nat} {v5 : Int32} {S : HS} (h : P_X1_wetOf v0 v1 v2 v3 v4 v5 Q S) : P_X1_wetOf v0 v1 v2 v3 v4 v5 (fun r T => Q r T ∧ K5 S T) S := kg_X1_wetOf_0 h (k5_rf S)
set_option maxRecDepth 20000 in
set_option maxHeartbeats 1000000 in
theorem kg_X1_bestSpeed_55 {Q : Int32 → HS → Prop} {X17 X17_2 : Nat → Nat → Nat → Int32 → Nat → Int32 → Int64 → Int32 → HS → Prop} {v0 : Nat} {v1 : Nat} {v2 : Nat} {v3 : Int32} {v4 : Nat} {v5 : Int32} {v6 : Int64} {v8 : Int32} {S0 S : HS} (h : P_X1_bestSpeed_55 Q X17 v0 v1 v2 v3 v4 v5 v6 v8 S) (K : K5 S0 S) (hX17 : ∀ (u0 : Nat) (u1 : Nat) (u2 : Nat) (u3 : Int32) (u4 : Nat) (u5 : Int32) (u6 : Int64) (u7 : Int32) (u8 : HS), X17 u0 u1 u2 u3 u4 u5 u6 u7 u8 → K5 S0 u8 → X17_2 u0 u1 u2 u3 u4 u5 u6 u7 u8) : P_X1_bestSpeed_55 (fun r T => Q r T ∧ K5 S0 T) X17_2 v0 v1 v2 v3 v4 v5 v6 v8 S := by
  delta P_X1_bestSpeed_55 at h ⊢
  intro x2 e1
  have h := h x2 e1
  exact hX17 _ _ _ _ _ _ _ _ _ h K
set_option maxRecDepth 20000 in
set_option maxHeartbeats 1000000 in
theorem kgB_X1_bestSpeed_17 {Q : Int32 → HS → Prop} {X17 X17_2 : Nat → Nat → Nat → Int32 → Nat → Int32 → Int64 → Int32 → HS → Prop} {v0 : Nat} {v1 : Nat} {v2 : Nat} {v3 : Int32} {v4 : Nat} {v5 : Int32} {v6 : Int64} {v8 : Int32} {S0 S : HS} (h : B_X1_bestSpeed_17 Q X17 v0 v1 v2 v3 v4 v5 v6 v8 S) (K : K5 S0 S) (hX17 : ∀ (u0 : Nat) (u1 : Nat) (u2 : Nat) (u3 : Int32) (u4 : Nat) (u5 : Int32) (u6 : Int64) (u7 : Int32) (u8 : HS), X17 u0 u1 u2 u3 u4 u5 u6 u7 u8 → K5 S0 u8 → X17_2 u0 u1 u2 u3 u4 u5 u6 u7 u8) : B_X1_bestSpeed_17 (fun r T => Q r T ∧ K5 S0 T) X17_2 v0 v1 v2 v3 v4 v5 v6 v8 S := by
  delta B_X1_bestSpeed_17 at h ⊢
  obtain ⟨c1, h⟩ := h
  refine ⟨c1, ?_⟩
  have n2 := k5_ne K c1
  intro x4 e3
  have h := h x4 e3
  refine ⟨?_, ?_⟩
  · intro c5
    have h := h.1 c5
    exact ⟨h, K⟩
  · intro c6
    have h := h.2 c6
    obtain ⟨c7, h⟩ := h
    refine ⟨c7, ?_⟩
    have n8 := k5_ne K c7
    refine cm_X1_wetOf (kg_X1_wetOf h) h (fun x9 x10 hp h g11 => ?_)
    have h := h g11
    have K := k5_tr K hp.2
    refine ⟨?_, ?_⟩
    · intro c12
      have h := h.1 c12
      exact kg_X1_bestSpeed_55 h K hX17
    · intro c13
      have h := h.2 c13
      exact kg_X1_bestSpeed_55 h K hX17
theorem kg_X1_bestSpeed_17 {Q : Int32 → HS → Prop} {v0 : Nat} {v1 : Nat} {v2 : Nat} {v3 : Int32} {v4 : Nat} {v5 : Int32} {v6 : Int64} {v8 : Int32} {S0 S : HS} (h : P_X1_bestSpeed_17 Q v0 v1 v2 v3 v4 v5 v6 v8 S) (K : K5 S0 S) : P_X1_bestSpeed_17 (fun r T => Q r T ∧ K5 S0 T) v0 v1 v2 v3 v4 v5 v6 v8 S := h (fun v0 v1 v2 v3 v4 v5 v6 v8 S => K5 S0 S → P_X1_bestSpeed_17 (fun r T => Q r T ∧ K5 S0 T) v0 v1 v2 v3 v4 v5 v6 v8 S) (fun v0 v1 v2 v3 v4 v5 v6 v8 S hB K => fd_X1_bestSpeed_17 (kgB_X1_bestSpeed_17 hB K (fun _ _ _ _ _ _ _ _ _ hx K => hx K))) K
set_option maxRecDepth 20000 in
set_option maxHeartbeats 1000000 in
theorem kg_X1_bestSpeed_0 {Q : Int32 → HS → Prop} {v0 : Nat} {v1 : Nat} {v2 : Nat} {v3 : Int32} {v4 : Nat} {S0 S : HS} (h : P_X1_bestSpeed_0 Q v0 v1 v2 v3 v4 S) (K : K5 S0 S) : P_X1_bestSpeed_0 (fun r T => Q r T ∧ K5 S0 T) v0 v1 v2 v3 v4 S := by
  delta P_X1_bestSpeed_0 at h ⊢
  obtain ⟨c1, h⟩ := h
  refine ⟨c1, ?_⟩
  have n2 := k5_ne K c1
  intro x4 e3
  have h := h x4 e3
  intro x6 e5
  have h := h x6 e5
  exact kg_X1_bestSpeed_17 h K
theorem kg_X1_bestSpeed {Q : Int32 → HS → Prop} {v0 : Nat} {v1 : Nat} {v2 : Nat} {v3 : Int32} {v4 : Nat} {S : HS} (h : P_X1_bestSpeed v0 v1 v2 v3 v4 Q S) : P_X1_bestSpeed v0 v1 v2 v3 v4 (fun r T => Q r T ∧ K5 S T) S := kg_X1_bestSpeed_0 h (k5_rf S)
set_option maxRecDepth 20000 in
set_option maxHeartbeats 1000000 in
theorem kg_X1_legsOf_0 {Q : Int32 → HS → Prop} {v0 : Nat} {S0 S : HS} (h : P_X1_legsOf_0 Q v0 S) (K : K5 S0 S) : P_X1_legsOf_0 (fun r T => Q r T ∧ K5 S0 T) v0 S := by
  delta P_X1_legsOf_0 at h ⊢
  obtain ⟨c1, h⟩ := h
  refine ⟨c1, ?_⟩
  have n2 := k5_ne K c1
  intro x4 e3
  have h := h x4 e3
  intro x6 e5
  have h := h x6 e5
  exact ⟨h, K⟩
theorem kg_X1_legsOf {Q : Int32 → HS → Prop} {v0 : Nat} {S : HS} (h : P_X1_legsOf v0 Q S) : P_X1_legsOf v0 (fun r T => Q r T ∧ K5 S T) S := kg_X1_legsOf_0 h (k5_rf S)
set_option maxRecDepth 20000 in
set_option maxHeartbeats 1000000 in
theorem kg_X6_canGo_0 {Q : Int32 → HS → Prop} {v0 : Nat} {v1 : Int32} {S0 S : HS} (h : P_X6_canGo_0 Q v0 v1 S) (K : K5 S0 S) : P_X6_canGo_0 (fun r T => Q r T ∧ K5 S0 T) v0 v1 S := by
  delta P_X6_canGo_0 at h ⊢
  obtain ⟨c1, h⟩ := h
  refine ⟨c1, ?_⟩
  have n2 := k5_ne K c1
  intro x4 e3
  have h := h x4 e3
  refine ⟨?_, ?_⟩
  · intro c5
    have h := h.1 c5
    exact ⟨h, K⟩
  · intro c6
    have h := h.2 c6
    intro x8 e7
    have h := h x8 e7
    refine ⟨?_, ?_⟩
    · intro c9
      have h := h.1 c9
      exact ⟨h, K⟩
    · intro c10
      have h := h.2 c10
      refine ⟨?_, ?_⟩
      · intro c11
        have h := h.1 c11
        exact ⟨h, K⟩
      · intro c12
        have h := h.2 c12
        refine ⟨?_, ?_⟩
        · intro c13
          have h := h.1 c13
          exact ⟨h, K⟩
        · intro c14
          have h := h.2 c14
          exact ⟨h, K⟩
theorem kg_X6_canGo {Q : Int32 → HS → Prop} {v0 : Nat} {v1 : Int32} {S : HS} (h : P_X6_canGo v0 v1 Q S) : P_X6_canGo v0 v1 (fun r T => Q r T ∧ K5 S T) S := kg_X6_canGo_0 h (k5_rf S)
set_option maxRecDepth 20000 in
set_option maxHeartbeats 1000000 in
theorem kg_X8_hasRoad_0 {Q : Int32 → HS → Prop} {v0 : Nat} {v1 : Int32} {S0 S : HS} (h : P_X8_hasRoad_0 Q v0 v1 S) (K : K5 S0 S) : P_X8_hasRoad_0 (fun r T => Q r T ∧ K5 S0 T) v0 v1 S := by
  delta P_X8_hasRoad_0 at h ⊢
  refine ⟨?_, ?_⟩
  · intro c1
    have h := h.1 c1
    exact ⟨h, K⟩
  · intro c2
    have h := h.2 c2
    obtain ⟨c3, h⟩ := h
    refine ⟨c3, ?_⟩
    have n4 := k5_ne K c3
    intro x6 e5
    have h := h x6 e5
    refine ⟨?_, ?_⟩
    · intro c7
      have h := h.1 c7
      exact ⟨h, K⟩
    · intro c8
      have h := h.2 c8
      obtain ⟨b9, e10, h⟩ := h
      refine ⟨b9, e10, ?_⟩
      obtain ⟨c11, h⟩ := h
      refine ⟨c11, ?_⟩
      have n12 := k5_ne K c11
      refine ⟨?_, ?_⟩
      · intro c13
        have h := h.1 c13
        exact ⟨h, K⟩
      · intro c14
        have h := h.2 c14
        exact ⟨h, K⟩
theorem kg_X8_hasRoad {Q : Int32 → HS → Prop} {v0 : Nat} {v1 : Int32} {S : HS} (h : P_X8_hasRoad v0 v1 Q S) : P_X8_hasRoad v0 v1 (fun r T => Q r T ∧ K5 S T) S := kg_X8_hasRoad_0 h (k5_rf S)
set_option maxRecDepth 20000 in
set_option maxHeartbeats 1000000 in
theorem kg_X8_hasSeen_0 {Q : Int32 → HS → Prop} {v0 : Nat} {v1 : Int32} {S0 S : HS} (h : P_X8_hasSeen_0 Q v0 v1 S) (K : K5 S0 S) : P_X8_hasSeen_0 (fun r T => Q r T ∧ K5 S0 T) v0 v1 S := by
  delta P_X8_hasSeen_0 at h ⊢
  refine ⟨?_, ?_⟩
  · intro c1
    have h := h.1 c1
    exact ⟨h, K⟩
  · intro c2
    have h := h.2 c2
    obtain ⟨c3, h⟩ := h
    refine ⟨c3, ?_⟩
    have n4 := k5_ne K c3
    intro x6 e5
    have h := h x6 e5
    refine ⟨?_, ?_⟩
    · intro c7
      have h := h.1 c7
      exact ⟨h, K⟩
    · intro c8
      have h := h.2 c8
      obtain ⟨b9, e10, h⟩ := h
      refine ⟨b9, e10, ?_⟩
      obtain ⟨c11, h⟩ := h
      refine ⟨c11, ?_⟩
      have n12 := k5_ne K c11
      refine ⟨?_, ?_⟩
      · intro c13
        have h := h.1 c13
        exact ⟨h, K⟩
      · intro c14
        have h := h.2 c14
        exact ⟨h, K⟩
theorem kg_X8_hasSeen {Q : Int32 → HS → Prop} {v0 : Nat} {v1 : Int32} {S : HS} (h : P_X8_hasSeen v0 v1 Q S) : P_X8_hasSeen v0 v1 (fun r T => Q r T ∧ K5 S T) S := kg_X8_hasSeen_0 h (k5_rf S)
set_option maxRecDepth 20000 in
set_option maxHeartbeats 1000000 in
theorem kg_X8_hasWalker_0 {Q : Int32 → HS → Prop} {v0 : Nat} {v1 : Int32} {S0 S : HS} (h : P_X8_hasWalker_0 Q v0 v1 S) (K : K5 S0 S) : P_X8_hasWalker_0 (fun r T => Q r T ∧ K5 S0 T) v0 v1 S := by
  delta P_X8_hasWalker_0 at h ⊢
  refine ⟨?_, ?_⟩
  · intro c1
    have h := h.1 c1
    exact ⟨h, K⟩
  · intro c2
    have h := h.2 c2
    obtain ⟨c3, h⟩ := h
    refine ⟨c3, ?_⟩
    have n4 := k5_ne K c3
    intro x6 e5
    have h := h x6 e5
    refine ⟨?_, ?_⟩
    · intro c7
      have h := h.1 c7
      exact ⟨h, K⟩
    · intro c8
      have h := h.2 c8
      obtain ⟨b9, e10, h⟩ := h
      refine ⟨b9, e10, ?_⟩
      obtain ⟨c11, h⟩ := h
      refine ⟨c11, ?_⟩
      have n12 := k5_ne K c11
      refine ⟨?_, ?_⟩
      · intro c13
        have h := h.1 c13
        exact ⟨h, K⟩
      · intro c14
        have h := h.2 c14
        exact ⟨h, K⟩
theorem kg_X8_hasWalker {Q : Int32 → HS → Prop} {v0 : Nat} {v1 : Int32} {S : HS} (h : P_X8_hasWalker v0 v1 Q S) : P_X8_hasWalker v0 v1 (fun r T => Q r T ∧ K5 S T) S := kg_X8_hasWalker_0 h (k5_rf S)
set_option maxRecDepth 20000 in
set_option maxHeartbeats 1000000 in
theorem kgB_X1_fitCode_141 {Q : Int32 → HS → Prop} {X141 X141_2 : Nat → Nat → Int32 → Int32 → Int32 → Int32 → Int32 → HS → Prop} {v0 : Nat} {v1 : Nat} {v2 : Int32} {v4 : Int32} {v5 : Int32} {v6 : Int32} {v8 : Int32} {S0 S : HS} (h : B_X1_fitCode_141 Q X141 v0 v1 v2 v4 v5 v6 v8 S) (K : K5 S0 S) (hX141 : ∀ (u0 : Nat) (u1 : Nat) (u2 : Int32) (u3 : Int32) (u4 : Int32) (u5 : Int32) (u6 : Int32) (u7 : HS), X141 u0 u1 u2 u3 u4 u5 u6 u7 → K5 S0 u7 → X141_2 u0 u1 u2 u3 u4 u5 u6 u7) : B_X1_fitCode_141 (fun r T => Q r T ∧ K5 S0 T) X141_2 v0 v1 v2 v4 v5 v6 v8 S := by
  delta B_X1_fitCode_141 at h ⊢
  refine ⟨?_, ?_⟩
  · intro c1
    have h := h.1 c1
    intro x3 e2
    have h := h x3 e2
    intro x5 e4
    have h := h x5 e4
    exact ⟨h, K⟩
  · intro c6
    have h := h.2 c6
    obtain ⟨c7, h⟩ := h
    refine ⟨c7, ?_⟩
    have n8 := k5_ne K c7
    obtain ⟨b9, e10, h⟩ := h
    refine ⟨b9, e10, ?_⟩
    obtain ⟨c11, h⟩ := h
    refine ⟨c11, ?_⟩
    have n12 := k5_ne K c11
    obtain ⟨c13, h⟩ := h
    refine ⟨c13, ?_⟩
    intro x15 e14
    have h := h x15 e14
    obtain ⟨c16, h⟩ := h
    refine ⟨c16, ?_⟩
    have n17 := k5_ne K c16
    obtain ⟨b18, e19, h⟩ := h
    refine ⟨b18, e19, ?_⟩
    obtain ⟨c20, h⟩ := h
    refine ⟨c20, ?_⟩
    have n21 := k5_ne K c20
    intro x23 e22
    have h := h x23 e22
    obtain ⟨c24, h⟩ := h
    refine ⟨c24, ?_⟩
    intro x26 e25
    have h := h x26 e25
    refine ⟨?_, ?_⟩
    · intro c27
      have h := h.1 c27
      intro x29 e28
      have h := h x29 e28
      exact hX141 _ _ _ _ _ _ _ _ h K
    · intro c30
      have h := h.2 c30
      exact ⟨h, K⟩
theorem kg_X1_fitCode_141 {Q : Int32 → HS → Prop} {v0 : Nat} {v1 : Nat} {v2 : Int32} {v4 : Int32} {v5 : Int32} {v6 : Int32} {v8 : Int32} {S0 S : HS} (h : P_X1_fitCode_141 Q v0 v1 v2 v4 v5 v6 v8 S) (K : K5 S0 S) : P_X1_fitCode_141 (fun r T => Q r T ∧ K5 S0 T) v0 v1 v2 v4 v5 v6 v8 S := h (fun v0 v1 v2 v4 v5 v6 v8 S => K5 S0 S → P_X1_fitCode_141 (fun r T => Q r T ∧ K5 S0 T) v0 v1 v2 v4 v5 v6 v8 S) (fun v0 v1 v2 v4 v5 v6 v8 S hB K => fd_X1_fitCode_141 (kgB_X1_fitCode_141 hB K (fun _ _ _ _ _ _ _ _ hx K => hx K))) K
set_option maxRecDepth 20000 in
set_option maxHeartbeats 1000000 in
theorem kg_X1_fitCode_0 {Q : Int32 → HS → Prop} {v0 : Nat} {v1 : Nat} {v2 : Int32} {v3 : Int32} {S0 S : HS} (h : P_X1_fitCode_0 Q v0 v1 v2 v3 S) (K : K5 S0 S) : P_X1_fitCode_0 (fun r T => Q r T ∧ K5 S0 T) v0 v1 v2 v3 S := by
  delta P_X1_fitCode_0 at h ⊢
  refine ⟨?_, ?_⟩
  · intro c1
    have h := h.1 c1
    exact ⟨h, K⟩
  · intro c2
    have h := h.2 c2
    refine cm_X1_legsOf (kg_X1_legsOf h) h (fun x3 x4 hp h g5 => ?_)
    have h := h g5
    have K := k5_tr K hp.2
    refine ⟨?_, ?_⟩
    · intro c6
      have h := h.1 c6
      exact ⟨h, K⟩
    · intro c7
      have h := h.2 c7
      obtain ⟨c8, h⟩ := h
      refine ⟨c8, ?_⟩
      have n9 := k5_ne K c8
      refine cm_X8_hasSeen (kg_X8_hasSeen h) h (fun x10 x11 hp h g12 g13 => ?_)
      have h := h g12 g13
      have K := k5_tr K hp.2
      refine ⟨?_, ?_⟩
      · intro c14
        have h := h.1 c14
        exact ⟨h, K⟩
      · intro c15
        have h := h.2 c15
        intro x17 e16
        have h := h x17 e16
        refine ⟨?_, ?_⟩
        · intro c18
          have h := h.1 c18
          intro x20 e19
          have h := h x20 e19
          intro x22 e21
          have h := h x22 e21
          intro x24 e23
          have h := h x24 e23
          intro x26 e25
          have h := h x26 e25
          obtain ⟨c27, h⟩ := h
          refine ⟨c27, ?_⟩
          intro x29 e28
          have h := h x29 e28
          intro x31 e30
          have h := h x31 e30
          intro x33 e32
          have h := h x33 e32
          obtain ⟨c34, h⟩ := h
          refine ⟨c34, ?_⟩
          intro x36 e35
          have h := h x36 e35
          obtain ⟨b37, e38, h⟩ := h
          refine ⟨b37, e38, ?_⟩
          obtain ⟨c39, h⟩ := h
          refine ⟨c39, ?_⟩
          have n40 := k5_ne K c39
          obtain ⟨c41, h⟩ := h
          refine ⟨c41, ?_⟩
          intro x43 e42
          have h := h x43 e42
          refine cm_X8_hasWalker (kg_X8_hasWalker h) h (fun x44 x45 hp h g46 g47 => ?_)
          have h := h g46 g47
          have K := k5_tr K hp.2
          refine ⟨?_, ?_⟩
          · intro c48
            have h := h.1 c48
            exact ⟨h, K⟩
          · intro c49
            have h := h.2 c49
            intro x51 e50
            have h := h x51 e50
            refine cm_X8_hasRoad (kg_X8_hasRoad h) h (fun x52 x53 hp h g54 g55 => ?_)
            have h := h g54 g55
            have K := k5_tr K hp.2
            refine ⟨?_, ?_⟩
            · intro c56
              have h := h.1 c56
              exact ⟨h, K⟩
            · intro c57
              have h := h.2 c57
              obtain ⟨b58, e59, h⟩ := h
              refine ⟨b58, e59, ?_⟩
              obtain ⟨c60, h⟩ := h
              refine ⟨c60, ?_⟩
              have n61 := k5_ne K c60
              obtain ⟨c62, h⟩ := h
              refine ⟨c62, ?_⟩
              obtain ⟨b63, e64, h⟩ := h
              refine ⟨b63, e64, ?_⟩
              obtain ⟨c65, h⟩ := h
              refine ⟨c65, ?_⟩
              have n66 := k5_ne K c65
              refine cm_X6_canGo (kg_X6_canGo h) h (fun x67 x68 hp h g69 g70 => ?_)
              have h := h g69 g70
              have K := k5_tr K hp.2
              refine ⟨?_, ?_⟩
              · intro c71
                have h := h.1 c71
                obtain ⟨b72, e73, h⟩ := h
                refine ⟨b72, e73, ?_⟩
                obtain ⟨c74, h⟩ := h
                refine ⟨c74, ?_⟩
                have n75 := k5_ne K c74
                obtain ⟨c76, h⟩ := h
                refine ⟨c76, ?_⟩
                obtain ⟨b77, e78, h⟩ := h
                refine ⟨b77, e78, ?_⟩
                obtain ⟨b79, e80, h⟩ := h
                refine ⟨b79, e80, ?_⟩
                intro x82 e81
                have h := h x82 e81
                obtain ⟨c83, h⟩ := h
                refine ⟨c83, ?_⟩
                have n84 := k5_ne K c83
                obtain ⟨c85, h⟩ := h
                refine ⟨c85, ?_⟩
                obtain ⟨b86, e87, h⟩ := h
                refine ⟨b86, e87, ?_⟩
                intro x89 e88
                have h := h x89 e88
                obtain ⟨b90, e91, h⟩ := h
                refine ⟨b90, e91, ?_⟩
                obtain ⟨c92, h⟩ := h
                refine ⟨c92, ?_⟩
                have n93 := k5_ne K c92
                obtain ⟨c94, h⟩ := h
                refine ⟨c94, ?_⟩
                obtain ⟨b95, e96, h⟩ := h
                refine ⟨b95, e96, ?_⟩
                obtain ⟨c97, h⟩ := h
                refine ⟨c97, ?_⟩
                have n98 := k5_ne K c97
                refine cm_X1_wetOf (kg_X1_wetOf h) h (fun x99 x100 hp h g101 => ?_)
                have h := h g101
                have K := k5_tr K hp.2
                exact kg_X1_fitCode_141 h K
              · intro c102
                have h := h.2 c102
                exact ⟨h, K⟩
        · intro c103
          have h := h.2 c103
          exact ⟨h, K⟩
theorem kg_X1_fitCode {Q : Int32 → HS → Prop} {v0 : Nat} {v1 : Nat} {v2 : Int32} {v3 : Int32} {S : HS} (h : P_X1_fitCode v0 v1 v2 v3 Q S) : P_X1_fitCode v0 v1 v2 v3 (fun r T => Q r T ∧ K5 S T) S := kg_X1_fitCode_0 h (k5_rf S)
set_option maxRecDepth 20000 in
set_option maxHeartbeats 1000000 in
theorem kg_X1_countFits_29 {Q : Int32 → HS → Prop} {X5 X5_2 : Nat → Nat → Int32 → Int32 → Int32 → HS → Prop} {v0 : Nat} {v1 : Nat} {v2 : Int32} {v3 : Int32} {v4 : Int32} {S0 S : HS} (h : P_X1_countFits_29 Q X5 v0 v1 v2 v3 v4 S) (K : K5 S0 S) (hX5 : ∀ (u0 : Nat) (u1 : Nat) (u2 : Int32) (u3 : Int32) (u4 : Int32) (u5 : HS), X5 u0 u1 u2 u3 u4 u5 → K5 S0 u5 → X5_2 u0 u1 u2 u3 u4 u5) : P_X1_countFits_29 (fun r T => Q r T ∧ K5 S0 T) X5_2 v0 v1 v2 v3 v4 S := by
  delta P_X1_countFits_29 at h ⊢
  intro x2 e1
  have h := h x2 e1
  exact hX5 _ _ _ _ _ _ h K
set_option maxRecDepth 20000 in
set_option maxHeartbeats 1000000 in
theorem kgB_X1_countFits_5 {Q : Int32 → HS → Prop} {X5 X5_2 : Nat → Nat → Int32 → Int32 → Int32 → HS → Prop} {v0 : Nat} {v1 : Nat} {v2 : Int32} {v3 : Int32} {v4 : Int32} {S0 S : HS} (h : B_X1_countFits_5 Q X5 v0 v1 v2 v3 v4 S) (K : K5 S0 S) (hX5 : ∀ (u0 : Nat) (u1 : Nat) (u2 : Int32) (u3 : Int32) (u4 : Int32) (u5 : HS), X5 u0 u1 u2 u3 u4 u5 → K5 S0 u5 → X5_2 u0 u1 u2 u3 u4 u5) : B_X1_countFits_5 (fun r T => Q r T ∧ K5 S0 T) X5_2 v0 v1 v2 v3 v4 S := by
  delta B_X1_countFits_5 at h ⊢
  refine cm_X1_legsOf (kg_X1_legsOf h) h (fun x1 x2 hp h g3 => ?_)
  have h := h g3
  have K := k5_tr K hp.2
  refine ⟨?_, ?_⟩
  · intro c4
    have h := h.1 c4
    exact ⟨h, K⟩
  · intro c5
    have h := h.2 c5
    obtain ⟨c6, h⟩ := h
    refine ⟨c6, ?_⟩
    have n7 := k5_ne K c6
    refine cm_X1_fitCode (kg_X1_fitCode h) h (fun x8 x9 hp h g10 => ?_)
    have h := h g10
    have K := k5_tr K hp.2
    refine ⟨?_, ?_⟩
    · intro c11
      have h := h.1 c11
      exact kg_X1_countFits_29 h K hX5
    · intro c12
      have h := h.2 c12
      intro x14 e13
      have h := h x14 e13
      exact kg_X1_countFits_29 h K hX5
theorem kg_X1_countFits_5 {Q : Int32 → HS → Prop} {v0 : Nat} {v1 : Nat} {v2 : Int32} {v3 : Int32} {v4 : Int32} {S0 S : HS} (h : P_X1_countFits_5 Q v0 v1 v2 v3 v4 S) (K : K5 S0 S) : P_X1_countFits_5 (fun r T => Q r T ∧ K5 S0 T) v0 v1 v2 v3 v4 S := h (fun v0 v1 v2 v3 v4 S => K5 S0 S → P_X1_countFits_5 (fun r T => Q r T ∧ K5 S0 T) v0 v1 v2 v3 v4 S) (fun v0 v1 v2 v3 v4 S hB K => fd_X1_countFits_5 (kgB_X1_countFits_5 hB K (fun _ _ _ _ _ _ hx K => hx K))) K
set_option maxRecDepth 20000 in
set_option maxHeartbeats 1000000 in
theorem kg_X1_countFits_0 {Q : Int32 → HS → Prop} {v0 : Nat} {v1 : Nat} {v2 : Int32} {S0 S : HS} (h : P_X1_countFits_0 Q v0 v1 v2 S) (K : K5 S0 S) : P_X1_countFits_0 (fun r T => Q r T ∧ K5 S0 T) v0 v1 v2 S := by
  delta P_X1_countFits_0 at h ⊢
  exact kg_X1_countFits_5 h K
theorem kg_X1_countFits {Q : Int32 → HS → Prop} {v0 : Nat} {v1 : Nat} {v2 : Int32} {S : HS} (h : P_X1_countFits v0 v1 v2 Q S) : P_X1_countFits v0 v1 v2 (fun r T => Q r T ∧ K5 S T) S := kg_X1_countFits_0 h (k5_rf S)
set_option maxRecDepth 20000 in
set_option maxHeartbeats 1000000 in
theorem kg_X1_findFit_48 {Q : Int32 → HS → Prop} {X6 X6_2 : Nat → Nat → Int32 → Int32 → Int32 → HS → Prop} {v0 : Nat} {v1 : Nat} {v2 : Int32} {v4 : Int32} {v5 : Int32} {S0 S : HS} (h : P_X1_findFit_48 Q X6 v0 v1 v2 v4 v5 S) (K : K5 S0 S) (hX6 : ∀ (u0 : Nat) (u1 : Nat) (u2 : Int32) (u3 : Int32) (u4 : Int32) (u5 : HS), X6 u0 u1 u2 u3 u4 u5 → K5 S0 u5 → X6_2 u0 u1 u2 u3 u4 u5) : P_X1_findFit_48 (fun r T => Q r T ∧ K5 S0 T) X6_2 v0 v1 v2 v4 v5 S := by
  delta P_X1_findFit_48 at h ⊢
  intro x2 e1
  have h := h x2 e1
  exact hX6 _ _ _ _ _ _ h K
set_option maxRecDepth 20000 in
set_option maxHeartbeats 1000000 in
theorem kg_X1_findFit_39 {Q : Int32 → HS → Prop} {X6 X6_2 : Nat → Nat → Int32 → Int32 → Int32 → HS → Prop} {v0 : Nat} {v1 : Nat} {v2 : Int32} {v4 : Int32} {v5 : Int32} {v6 : Int32} {S0 S : HS} (h : P_X1_findFit_39 Q X6 v0 v1 v2 v4 v5 v6 S) (K : K5 S0 S) (hX6 : ∀ (u0 : Nat) (u1 : Nat) (u2 : Int32) (u3 : Int32) (u4 : Int32) (u5 : HS), X6 u0 u1 u2 u3 u4 u5 → K5 S0 u5 → X6_2 u0 u1 u2 u3 u4 u5) : P_X1_findFit_39 (fun r T => Q r T ∧ K5 S0 T) X6_2 v0 v1 v2 v4 v5 v6 S := by
  delta P_X1_findFit_39 at h ⊢
  refine ⟨?_, ?_⟩
  · intro c1
    have h := h.1 c1
    exact kg_X1_findFit_48 h K hX6
  · intro c2
    have h := h.2 c2
    intro x4 e3
    have h := h x4 e3
    exact kg_X1_findFit_48 h K hX6
set_option maxRecDepth 20000 in
set_option maxHeartbeats 1000000 in
theorem kgB_X1_findFit_6 {Q : Int32 → HS → Prop} {X6 X6_2 : Nat → Nat → Int32 → Int32 → Int32 → HS → Prop} {v0 : Nat} {v1 : Nat} {v2 : Int32} {v4 : Int32} {v5 : Int32} {S0 S : HS} (h : B_X1_findFit_6 Q X6 v0 v1 v2 v4 v5 S) (K : K5 S0 S) (hX6 : ∀ (u0 : Nat) (u1 : Nat) (u2 : Int32) (u3 : Int32) (u4 : Int32) (u5 : HS), X6 u0 u1 u2 u3 u4 u5 → K5 S0 u5 → X6_2 u0 u1 u2 u3 u4 u5) : B_X1_findFit_6 (fun r T => Q r T ∧ K5 S0 T) X6_2 v0 v1 v2 v4 v5 S := by
  delta B_X1_findFit_6 at h ⊢
  refine cm_X1_legsOf (kg_X1_legsOf h) h (fun x1 x2 hp h g3 => ?_)
  have h := h g3
  have K := k5_tr K hp.2
  refine ⟨?_, ?_⟩
  · intro c4
    have h := h.1 c4
    exact ⟨h, K⟩
  · intro c5
    have h := h.2 c5
    obtain ⟨c6, h⟩ := h
    refine ⟨c6, ?_⟩
    have n7 := k5_ne K c6
    refine cm_X1_fitCode (kg_X1_fitCode h) h (fun x8 x9 hp h g10 => ?_)
    have h := h g10
    have K := k5_tr K hp.2
    refine ⟨?_, ?_⟩
    · intro c11
      have h := h.1 c11
      exact kg_X1_findFit_39 h K hX6
    · intro c12
      have h := h.2 c12
      refine ⟨?_, ?_⟩
      · intro c13
        have h := h.1 c13
        exact kg_X1_findFit_39 h K hX6
      · intro c14
        have h := h.2 c14
        exact ⟨h, K⟩
theorem kg_X1_findFit_6 {Q : Int32 → HS → Prop} {v0 : Nat} {v1 : Nat} {v2 : Int32} {v4 : Int32} {v5 : Int32} {S0 S : HS} (h : P_X1_findFit_6 Q v0 v1 v2 v4 v5 S) (K : K5 S0 S) : P_X1_findFit_6 (fun r T => Q r T ∧ K5 S0 T) v0 v1 v2 v4 v5 S := h (fun v0 v1 v2 v4 v5 S => K5 S0 S → P_X1_findFit_6 (fun r T => Q r T ∧ K5 S0 T) v0 v1 v2 v4 v5 S) (fun v0 v1 v2 v4 v5 S hB K => fd_X1_findFit_6 (kgB_X1_findFit_6 hB K (fun _ _ _ _ _ _ hx K => hx K))) K
set_option maxRecDepth 20000 in
set_option maxHeartbeats 1000000 in
theorem kg_X1_findFit_0 {Q : Int32 → HS → Prop} {v0 : Nat} {v1 : Nat} {v2 : Int32} {v3 : Int32} {S0 S : HS} (h : P_X1_findFit_0 Q v0 v1 v2 v3 S) (K : K5 S0 S) : P_X1_findFit_0 (fun r T => Q r T ∧ K5 S0 T) v0 v1 v2 v3 S := by
  delta P_X1_findFit_0 at h ⊢
  exact kg_X1_findFit_6 h K
theorem kg_X1_findFit {Q : Int32 → HS → Prop} {v0 : Nat} {v1 : Nat} {v2 : Int32} {v3 : Int32} {S : HS} (h : P_X1_findFit v0 v1 v2 v3 Q S) : P_X1_findFit v0 v1 v2 v3 (fun r T => Q r T ∧ K5 S T) S := kg_X1_findFit_0 h (k5_rf S)
set_option maxRecDepth 20000 in
set_option maxHeartbeats 1000000 in
theorem kg_X1_init_0 {Q : HS → Prop} {v0 : Nat} {S0 S : HS} (h : P_X1_init_0 Q v0 S) (K : K5 S0 S) : P_X1_init_0 (fun T => Q T ∧ K5 S0 T) v0 S := by
  delta P_X1_init_0 at h ⊢
  intro x2 e1
  have h := h x2 e1
  intro x4 e3
  have h := h x4 e3
  have K := k5_W K e1 e3
  obtain ⟨c5, h⟩ := h
  refine ⟨c5, ?_⟩
  have n6 := k5_ne K c5
  intro x8 e7
  have h := h x8 e7
  have K := k5_R K e7
  intro x10 e9
  have h := h x10 e9
  intro x12 e11
  have h := h x12 e11
  have K := k5_W K e9 e11
  intro x14 e13
  have h := h x14 e13
  have K := k5_R K e13
  exact ⟨h, K⟩
theorem kg_X1_init {Q : HS → Prop} {v0 : Nat} {S : HS} (h : P_X1_init v0 Q S) : P_X1_init v0 (fun T => Q T ∧ K5 S T) S := kg_X1_init_0 h (k5_rf S)
set_option maxRecDepth 20000 in
set_option maxHeartbeats 1000000 in
theorem kg_X1_leastWet_0 {Q : Int64 → HS → Prop} {v0 : Nat} {v1 : Nat} {v2 : Nat} {v3 : Int32} {v4 : Nat} {S0 S : HS} (h : P_X1_leastWet_0 Q v0 v1 v2 v3 v4 S) (K : K5 S0 S) : P_X1_leastWet_0 (fun r T => Q r T ∧ K5 S0 T) v0 v1 v2 v3 v4 S := by
  delta P_X1_leastWet_0 at h ⊢
  obtain ⟨c1, h⟩ := h
  refine ⟨c1, ?_⟩
  have n2 := k5_ne K c1
  refine cm_X1_bestSpeed (kg_X1_bestSpeed h) h (fun x3 x4 hp h g5 => ?_)
  have h := h g5
  have K := k5_tr K hp.2
  refine cm_X1_wetOf (kg_X1_wetOf h) h (fun x6 x7 hp h g8 => ?_)
  have h := h g8
  have K := k5_tr K hp.2
  exact ⟨h, K⟩
theorem kg_X1_leastWet {Q : Int64 → HS → Prop} {v0 : Nat} {v1 : Nat} {v2 : Nat} {v3 : Int32} {v4 : Nat} {S : HS} (h : P_X1_leastWet v0 v1 v2 v3 v4 Q S) : P_X1_leastWet v0 v1 v2 v3 v4 (fun r T => Q r T ∧ K5 S T) S := kg_X1_leastWet_0 h (k5_rf S)
set_option maxRecDepth 20000 in
set_option maxHeartbeats 1000000 in
theorem kg_X1_wetInLee_0 {Q : Int64 → HS → Prop} {v0 : Nat} {v1 : Nat} {v2 : Nat} {S0 S : HS} (h : P_X1_wetInLee_0 Q v0 v1 v2 S) (K : K5 S0 S) : P_X1_wetInLee_0 (fun r T => Q r T ∧ K5 S0 T) v0 v1 v2 S := by
  delta P_X1_wetInLee_0 at h ⊢
  obtain ⟨c1, h⟩ := h
  refine ⟨c1, ?_⟩
  have n2 := k5_ne K c1
  intro x4 e3
  have h := h x4 e3
  obtain ⟨c5, h⟩ := h
  refine ⟨c5, ?_⟩
  have n6 := k5_ne K c5
  refine cm_X1_soak (kg_X1_soak h) h (fun x7 x8 hp h g9 => ?_)
  have h := h g9
  have K := k5_tr K hp.2
  obtain ⟨c10, h⟩ := h
  refine ⟨c10, ?_⟩
  have n11 := k5_ne K c10
  intro x13 e12
  have h := h x13 e12
  refine cm_X1_soak (kg_X1_soak h) h (fun x14 x15 hp h g16 => ?_)
  have h := h g16
  have K := k5_tr K hp.2
  exact ⟨h, K⟩
theorem kg_X1_wetInLee {Q : Int64 → HS → Prop} {v0 : Nat} {v1 : Nat} {v2 : Nat} {S : HS} (h : P_X1_wetInLee v0 v1 v2 Q S) : P_X1_wetInLee v0 v1 v2 (fun r T => Q r T ∧ K5 S T) S := kg_X1_wetInLee_0 h (k5_rf S)
set_option maxRecDepth 20000 in
set_option maxHeartbeats 1000000 in
theorem kg_X1_worstSpeed_55 {Q : Int32 → HS → Prop} {X17 X17_2 : Nat → Nat → Nat → Int32 → Nat → Int32 → Int64 → Int32 → HS → Prop} {v0 : Nat} {v1 : Nat} {v2 : Nat} {v3 : Int32} {v4 : Nat} {v5 : Int32} {v6 : Int64} {v8 : Int32} {S0 S : HS} (h : P_X1_worstSpeed_55 Q X17 v0 v1 v2 v3 v4 v5 v6 v8 S) (K : K5 S0 S) (hX17 : ∀ (u0 : Nat) (u1 : Nat) (u2 : Nat) (u3 : Int32) (u4 : Nat) (u5 : Int32) (u6 : Int64) (u7 : Int32) (u8 : HS), X17 u0 u1 u2 u3 u4 u5 u6 u7 u8 → K5 S0 u8 → X17_2 u0 u1 u2 u3 u4 u5 u6 u7 u8) : P_X1_worstSpeed_55 (fun r T => Q r T ∧ K5 S0 T) X17_2 v0 v1 v2 v3 v4 v5 v6 v8 S := by
  delta P_X1_worstSpeed_55 at h ⊢
  intro x2 e1
  have h := h x2 e1
  exact hX17 _ _ _ _ _ _ _ _ _ h K
set_option maxRecDepth 20000 in
set_option maxHeartbeats 1000000 in
theorem kgB_X1_worstSpeed_17 {Q : Int32 → HS → Prop} {X17 X17_2 : Nat → Nat → Nat → Int32 → Nat → Int32 → Int64 → Int32 → HS → Prop} {v0 : Nat} {v1 : Nat} {v2 : Nat} {v3 : Int32} {v4 : Nat} {v5 : Int32} {v6 : Int64} {v8 : Int32} {S0 S : HS} (h : B_X1_worstSpeed_17 Q X17 v0 v1 v2 v3 v4 v5 v6 v8 S) (K : K5 S0 S) (hX17 : ∀ (u0 : Nat) (u1 : Nat) (u2 : Nat) (u3 : Int32) (u4 : Nat) (u5 : Int32) (u6 : Int64) (u7 : Int32) (u8 : HS), X17 u0 u1 u2 u3 u4 u5 u6 u7 u8 → K5 S0 u8 → X17_2 u0 u1 u2 u3 u4 u5 u6 u7 u8) : B_X1_worstSpeed_17 (fun r T => Q r T ∧ K5 S0 T) X17_2 v0 v1 v2 v3 v4 v5 v6 v8 S := by
  delta B_X1_worstSpeed_17 at h ⊢
  obtain ⟨c1, h⟩ := h
  refine ⟨c1, ?_⟩
  have n2 := k5_ne K c1
  intro x4 e3
  have h := h x4 e3
  refine ⟨?_, ?_⟩
  · intro c5
    have h := h.1 c5
    exact ⟨h, K⟩
  · intro c6
    have h := h.2 c6
    obtain ⟨c7, h⟩ := h
    refine ⟨c7, ?_⟩
    have n8 := k5_ne K c7
    refine cm_X1_wetOf (kg_X1_wetOf h) h (fun x9 x10 hp h g11 => ?_)
    have h := h g11
    have K := k5_tr K hp.2
    refine ⟨?_, ?_⟩
    · intro c12
      have h := h.1 c12
      exact kg_X1_worstSpeed_55 h K hX17
    · intro c13
      have h := h.2 c13
      exact kg_X1_worstSpeed_55 h K hX17
theorem kg_X1_worstSpeed_17 {Q : Int32 → HS → Prop} {v0 : Nat} {v1 : Nat} {v2 : Nat} {v3 : Int32} {v4 : Nat} {v5 : Int32} {v6 : Int64} {v8 : Int32} {S0 S : HS} (h : P_X1_worstSpeed_17 Q v0 v1 v2 v3 v4 v5 v6 v8 S) (K : K5 S0 S) : P_X1_worstSpeed_17 (fun r T => Q r T ∧ K5 S0 T) v0 v1 v2 v3 v4 v5 v6 v8 S := h (fun v0 v1 v2 v3 v4 v5 v6 v8 S => K5 S0 S → P_X1_worstSpeed_17 (fun r T => Q r T ∧ K5 S0 T) v0 v1 v2 v3 v4 v5 v6 v8 S) (fun v0 v1 v2 v3 v4 v5 v6 v8 S hB K => fd_X1_worstSpeed_17 (kgB_X1_worstSpeed_17 hB K (fun _ _ _ _ _ _ _ _ _ hx K => hx K))) K
set_option maxRecDepth 20000 in
set_option maxHeartbeats 1000000 in
theorem kg_X1_worstSpeed_0 {Q : Int32 → HS → Prop} {v0 : Nat} {v1 : Nat} {v2 : Nat} {v3 : Int32} {v4 : Nat} {S0 S : HS} (h : P_X1_worstSpeed_0 Q v0 v1 v2 v3 v4 S) (K : K5 S0 S) : P_X1_worstSpeed_0 (fun r T => Q r T ∧ K5 S0 T) v0 v1 v2 v3 v4 S := by
  delta P_X1_worstSpeed_0 at h ⊢
  obtain ⟨c1, h⟩ := h
  refine ⟨c1, ?_⟩
  have n2 := k5_ne K c1
  intro x4 e3
  have h := h x4 e3
  intro x6 e5
  have h := h x6 e5
  exact kg_X1_worstSpeed_17 h K
theorem kg_X1_worstSpeed {Q : Int32 → HS → Prop} {v0 : Nat} {v1 : Nat} {v2 : Nat} {v3 : Int32} {v4 : Nat} {S : HS} (h : P_X1_worstSpeed v0 v1 v2 v3 v4 Q S) : P_X1_worstSpeed v0 v1 v2 v3 v4 (fun r T => Q r T ∧ K5 S T) S := kg_X1_worstSpeed_0 h (k5_rf S)
set_option maxRecDepth 20000 in
set_option maxHeartbeats 1000000 in
theorem kgB_X2_addFaces_2 {Q : HS → Prop} {X2 X2_2 : Nat → Nat → Int32 → HS → Prop} {v0 : Nat} {v1 : Nat} {v2 : Int32} {S0 S : HS} (h : B_X2_addFaces_2 Q X2 v0 v1 v2 S) (K : K5 S0 S) (hX2 : ∀ (u0 : Nat) (u1 : Nat) (u2 : Int32) (u3 : HS), X2 u0 u1 u2 u3 → K5 S0 u3 → X2_2 u0 u1 u2 u3) : B_X2_addFaces_2 (fun T => Q T ∧ K5 S0 T) X2_2 v0 v1 v2 S := by
  delta B_X2_addFaces_2 at h ⊢
  refine ⟨?_, ?_⟩
  · intro c1
    have h := h.1 c1
    exact ⟨h, K⟩
  · intro c2
    have h := h.2 c2
    obtain ⟨c3, h⟩ := h
    refine ⟨c3, ?_⟩
    have n4 := k5_ne K c3
    refine ⟨?_, ?_⟩
    · intro c5
      have h := h.1 c5
      exact ⟨h, K⟩
    · intro c6
      have h := h.2 c6
      obtain ⟨c7, h⟩ := h
      refine ⟨c7, ?_⟩
      have n8 := k5_ne K c7
      obtain ⟨b9, e10, h⟩ := h
      refine ⟨b9, e10, ?_⟩
      obtain ⟨c11, h⟩ := h
      refine ⟨c11, ?_⟩
      have n12 := k5_ne K c11
      obtain ⟨c13, h⟩ := h
      refine ⟨c13, ?_⟩
      intro x15 e14
      have h := h x15 e14
      obtain ⟨c16, h⟩ := h
      refine ⟨c16, ?_⟩
      intro x18 e17
      have h := h x18 e17
      intro x20 e19
      have h := h x20 e19
      obtain ⟨c21, h⟩ := h
      refine ⟨c21, ?_⟩
      intro x23 e22
      have h := h x23 e22
      have K := k5_J K e22
      intro x25 e24
      have h := h x25 e24
      exact hX2 _ _ _ _ h K
theorem kg_X2_addFaces_2 {Q : HS → Prop} {v0 : Nat} {v1 : Nat} {v2 : Int32} {S0 S : HS} (h : P_X2_addFaces_2 Q v0 v1 v2 S) (K : K5 S0 S) : P_X2_addFaces_2 (fun T => Q T ∧ K5 S0 T) v0 v1 v2 S := h (fun v0 v1 v2 S => K5 S0 S → P_X2_addFaces_2 (fun T => Q T ∧ K5 S0 T) v0 v1 v2 S) (fun v0 v1 v2 S hB K => fd_X2_addFaces_2 (kgB_X2_addFaces_2 hB K (fun _ _ _ _ hx K => hx K))) K
set_option maxRecDepth 20000 in
set_option maxHeartbeats 1000000 in
theorem kg_X2_addFaces_0 {Q : HS → Prop} {v0 : Nat} {v1 : Nat} {S0 S : HS} (h : P_X2_addFaces_0 Q v0 v1 S) (K : K5 S0 S) : P_X2_addFaces_0 (fun T => Q T ∧ K5 S0 T) v0 v1 S := by
  delta P_X2_addFaces_0 at h ⊢
  exact kg_X2_addFaces_2 h K
theorem kg_X2_addFaces {Q : HS → Prop} {v0 : Nat} {v1 : Nat} {S : HS} (h : P_X2_addFaces v0 v1 Q S) : P_X2_addFaces v0 v1 (fun T => Q T ∧ K5 S T) S := kg_X2_addFaces_0 h (k5_rf S)
set_option maxRecDepth 20000 in
set_option maxHeartbeats 1000000 in
theorem kgB_X2_allGot_4 {Q : Int64 → HS → Prop} {X4 X4_2 : Nat → Int64 → Int32 → HS → Prop} {v0 : Nat} {v1 : Int64} {v3 : Int32} {S0 S : HS} (h : B_X2_allGot_4 Q X4 v0 v1 v3 S) (K : K5 S0 S) (hX4 : ∀ (u0 : Nat) (u1 : Int64) (u2 : Int32) (u3 : HS), X4 u0 u1 u2 u3 → K5 S0 u3 → X4_2 u0 u1 u2 u3) : B_X2_allGot_4 (fun r T => Q r T ∧ K5 S0 T) X4_2 v0 v1 v3 S := by
  delta B_X2_allGot_4 at h ⊢
  refine ⟨?_, ?_⟩
  · intro c1
    have h := h.1 c1
    exact ⟨h, K⟩
  · intro c2
    have h := h.2 c2
    obtain ⟨c3, h⟩ := h
    refine ⟨c3, ?_⟩
    have n4 := k5_ne K c3
    obtain ⟨b5, e6, h⟩ := h
    refine ⟨b5, e6, ?_⟩
    obtain ⟨c7, h⟩ := h
    refine ⟨c7, ?_⟩
    have n8 := k5_ne K c7
    obtain ⟨c9, h⟩ := h
    refine ⟨c9, ?_⟩
    intro x11 e10
    have h := h x11 e10
    intro x13 e12
    have h := h x13 e12
    intro x15 e14
    have h := h x15 e14
    exact hX4 _ _ _ _ h K
theorem kg_X2_allGot_4 {Q : Int64 → HS → Prop} {v0 : Nat} {v1 : Int64} {v3 : Int32} {S0 S : HS} (h : P_X2_allGot_4 Q v0 v1 v3 S) (K : K5 S0 S) : P_X2_allGot_4 (fun r T => Q r T ∧ K5 S0 T) v0 v1 v3 S := h (fun v0 v1 v3 S => K5 S0 S → P_X2_allGot_4 (fun r T => Q r T ∧ K5 S0 T) v0 v1 v3 S) (fun v0 v1 v3 S hB K => fd_X2_allGot_4 (kgB_X2_allGot_4 hB K (fun _ _ _ _ hx K => hx K))) K
set_option maxRecDepth 20000 in
set_option maxHeartbeats 1000000 in
theorem kg_X2_allGot_0 {Q : Int64 → HS → Prop} {v0 : Nat} {S0 S : HS} (h : P_X2_allGot_0 Q v0 S) (K : K5 S0 S) : P_X2_allGot_0 (fun r T => Q r T ∧ K5 S0 T) v0 S := by
  delta P_X2_allGot_0 at h ⊢
  exact kg_X2_allGot_4 h K
theorem kg_X2_allGot {Q : Int64 → HS → Prop} {v0 : Nat} {S : HS} (h : P_X2_allGot v0 Q S) : P_X2_allGot v0 (fun r T => Q r T ∧ K5 S T) S := kg_X2_allGot_0 h (k5_rf S)
set_option maxRecDepth 20000 in
set_option maxHeartbeats 1000000 in
theorem kg_X3_init_0 {Q : HS → Prop} {v0 : Nat} {S0 S : HS} (h : P_X3_init_0 Q v0 S) (K : K5 S0 S) : P_X3_init_0 (fun T => Q T ∧ K5 S0 T) v0 S := by
  delta P_X3_init_0 at h ⊢
  exact ⟨h, K⟩
theorem kg_X3_init {Q : HS → Prop} {v0 : Nat} {S : HS} (h : P_X3_init v0 Q S) : P_X3_init v0 (fun T => Q T ∧ K5 S T) S := kg_X3_init_0 h (k5_rf S)
set_option maxRecDepth 20000 in
set_option maxHeartbeats 1000000 in
theorem kg_X8_isTold_0 {Q : Int32 → HS → Prop} {v0 : Nat} {S0 S : HS} (h : P_X8_isTold_0 Q v0 S) (K : K5 S0 S) : P_X8_isTold_0 (fun r T => Q r T ∧ K5 S0 T) v0 S := by
  delta P_X8_isTold_0 at h ⊢
  obtain ⟨c1, h⟩ := h
  refine ⟨c1, ?_⟩
  have n2 := k5_ne K c1
  intro x4 e3
  have h := h x4 e3
  refine ⟨?_, ?_⟩
  · intro c5
    have h := h.1 c5
    exact ⟨h, K⟩
  · intro c6
    have h := h.2 c6
    exact ⟨h, K⟩
theorem kg_X8_isTold {Q : Int32 → HS → Prop} {v0 : Nat} {S : HS} (h : P_X8_isTold v0 Q S) : P_X8_isTold v0 (fun r T => Q r T ∧ K5 S T) S := kg_X8_isTold_0 h (k5_rf S)
set_option maxRecDepth 20000 in
set_option maxHeartbeats 1000000 in
theorem kg_X5_init_0 {Q : HS → Prop} {v0 : Nat} {S0 S : HS} (h : P_X5_init_0 Q v0 S) (K : K5 S0 S) : P_X5_init_0 (fun T => Q T ∧ K5 S0 T) v0 S := by
  delta P_X5_init_0 at h ⊢
  exact ⟨h, K⟩
theorem kg_X5_init {Q : HS → Prop} {v0 : Nat} {S : HS} (h : P_X5_init v0 Q S) : P_X5_init v0 (fun T => Q T ∧ K5 S T) S := kg_X5_init_0 h (k5_rf S)
set_option maxRecDepth 20000 in
set_option maxHeartbeats 1000000 in
theorem kg_X6_init_0 {Q : HS → Prop} {v0 : Nat} {S0 S : HS} (h : P_X6_init_0 Q v0 S) (K : K5 S0 S) : P_X6_init_0 (fun T => Q T ∧ K5 S0 T) v0 S := by
  delta P_X6_init_0 at h ⊢
  exact ⟨h, K⟩
theorem kg_X6_init {Q : HS → Prop} {v0 : Nat} {S : HS} (h : P_X6_init v0 Q S) : P_X6_init v0 (fun T => Q T ∧ K5 S T) S := kg_X6_init_0 h (k5_rf S)
set_option maxRecDepth 20000 in
set_option maxHeartbeats 1000000 in
theorem kgB_X8_init_115 {Q : HS → Prop} {X115 X115_2 : Nat → Int32 → Nat → Nat → HS → Prop} {v0 : Nat} {v1 : Int32} {kk : Nat} {nn : Nat} {S0 S : HS} (h : B_X8_init_115 Q X115 v0 v1 kk nn S) (K : K5 S0 S) (hX115 : ∀ (u0 : Nat) (u1 : Int32) (u2 : Nat) (u3 : Nat) (u4 : HS), X115 u0 u1 u2 u3 u4 → K5 S0 u4 → X115_2 u0 u1 u2 u3 u4) : B_X8_init_115 (fun T => Q T ∧ K5 S0 T) X115_2 v0 v1 kk nn S := by
  delta B_X8_init_115 at h ⊢
  obtain ⟨c1, h⟩ := h
  refine ⟨c1, ?_⟩
  have n2 := k5_ne K c1
  obtain ⟨b3, e4, h⟩ := h
  refine ⟨b3, e4, ?_⟩
  obtain ⟨c5, h⟩ := h
  refine ⟨c5, ?_⟩
  have n6 := k5_ne K c5
  refine ⟨?_, ?_⟩
  · intro c7
    have h := h.1 c7
    obtain ⟨c8, h⟩ := h
    refine ⟨c8, ?_⟩
    obtain ⟨c9, h⟩ := h
    refine ⟨c9, ?_⟩
    exact ⟨h, K⟩
  · intro c10
    have h := h.2 c10
    obtain ⟨b11, e12, h⟩ := h
    refine ⟨b11, e12, ?_⟩
    obtain ⟨c13, h⟩ := h
    refine ⟨c13, ?_⟩
    obtain ⟨c14, h⟩ := h
    refine ⟨c14, ?_⟩
    intro x16 e15
    have h := h x16 e15
    intro x18 e17
    have h := h x18 e17
    have K := k5_W K e15 e17
    obtain ⟨c19, h⟩ := h
    refine ⟨c19, ?_⟩
    obtain ⟨c20, h⟩ := h
    refine ⟨c20, ?_⟩
    refine cm_X6_init (kg_X6_init h) h (fun x21 hp h g22 => ?_)
    have h := h g22
    have K := k5_tr K hp.2
    obtain ⟨c23, h⟩ := h
    refine ⟨c23, ?_⟩
    have n24 := k5_ne K c23
    obtain ⟨c25, h⟩ := h
    refine ⟨c25, ?_⟩
    intro x27 e26
    have h := h x27 e26
    have K := k5_R K e26
    intro x29 e28
    have h := h x29 e28
    exact hX115 _ _ _ _ _ h K
theorem kg_X8_init_115 {Q : HS → Prop} {v0 : Nat} {v1 : Int32} {kk : Nat} {nn : Nat} {S0 S : HS} (h : P_X8_init_115 Q v0 v1 kk nn S) (K : K5 S0 S) : P_X8_init_115 (fun T => Q T ∧ K5 S0 T) v0 v1 kk nn S := h (fun v0 v1 kk nn S => K5 S0 S → P_X8_init_115 (fun T => Q T ∧ K5 S0 T) v0 v1 kk nn S) (fun v0 v1 kk nn S hB K => fd_X8_init_115 (kgB_X8_init_115 hB K (fun _ _ _ _ _ hx K => hx K))) K
set_option maxRecDepth 20000 in
set_option maxHeartbeats 1000000 in
theorem kgB_X8_init_85 {Q : HS → Prop} {X85 X85_2 : Nat → Int32 → Nat → Nat → HS → Prop} {v0 : Nat} {v1 : Int32} {kk : Nat} {nn : Nat} {S0 S : HS} (h : B_X8_init_85 Q X85 v0 v1 kk nn S) (K : K5 S0 S) (hX85 : ∀ (u0 : Nat) (u1 : Int32) (u2 : Nat) (u3 : Nat) (u4 : HS), X85 u0 u1 u2 u3 u4 → K5 S0 u4 → X85_2 u0 u1 u2 u3 u4) : B_X8_init_85 (fun T => Q T ∧ K5 S0 T) X85_2 v0 v1 kk nn S := by
  delta B_X8_init_85 at h ⊢
  obtain ⟨c1, h⟩ := h
  refine ⟨c1, ?_⟩
  have n2 := k5_ne K c1
  obtain ⟨b3, e4, h⟩ := h
  refine ⟨b3, e4, ?_⟩
  obtain ⟨c5, h⟩ := h
  refine ⟨c5, ?_⟩
  have n6 := k5_ne K c5
  refine ⟨?_, ?_⟩
  · intro c7
    have h := h.1 c7
    exact kg_X8_init_115 h K
  · intro c8
    have h := h.2 c8
    obtain ⟨b9, e10, h⟩ := h
    refine ⟨b9, e10, ?_⟩
    obtain ⟨c11, h⟩ := h
    refine ⟨c11, ?_⟩
    obtain ⟨c12, h⟩ := h
    refine ⟨c12, ?_⟩
    intro x14 e13
    have h := h x14 e13
    intro x16 e15
    have h := h x16 e15
    have K := k5_W K e13 e15
    obtain ⟨c17, h⟩ := h
    refine ⟨c17, ?_⟩
    obtain ⟨c18, h⟩ := h
    refine ⟨c18, ?_⟩
    refine cm_X5_init (kg_X5_init h) h (fun x19 hp h g20 => ?_)
    have h := h g20
    have K := k5_tr K hp.2
    obtain ⟨c21, h⟩ := h
    refine ⟨c21, ?_⟩
    have n22 := k5_ne K c21
    obtain ⟨c23, h⟩ := h
    refine ⟨c23, ?_⟩
    intro x25 e24
    have h := h x25 e24
    have K := k5_R K e24
    intro x27 e26
    have h := h x27 e26
    exact hX85 _ _ _ _ _ h K
theorem kg_X8_init_85 {Q : HS → Prop} {v0 : Nat} {v1 : Int32} {kk : Nat} {nn : Nat} {S0 S : HS} (h : P_X8_init_85 Q v0 v1 kk nn S) (K : K5 S0 S) : P_X8_init_85 (fun T => Q T ∧ K5 S0 T) v0 v1 kk nn S := h (fun v0 v1 kk nn S => K5 S0 S → P_X8_init_85 (fun T => Q T ∧ K5 S0 T) v0 v1 kk nn S) (fun v0 v1 kk nn S hB K => fd_X8_init_85 (kgB_X8_init_85 hB K (fun _ _ _ _ _ hx K => hx K))) K
set_option maxRecDepth 20000 in
set_option maxHeartbeats 1000000 in
theorem kgB_X8_init_55 {Q : HS → Prop} {X55 X55_2 : Nat → Int32 → Nat → Nat → HS → Prop} {v0 : Nat} {v1 : Int32} {kk : Nat} {nn : Nat} {S0 S : HS} (h : B_X8_init_55 Q X55 v0 v1 kk nn S) (K : K5 S0 S) (hX55 : ∀ (u0 : Nat) (u1 : Int32) (u2 : Nat) (u3 : Nat) (u4 : HS), X55 u0 u1 u2 u3 u4 → K5 S0 u4 → X55_2 u0 u1 u2 u3 u4) : B_X8_init_55 (fun T => Q T ∧ K5 S0 T) X55_2 v0 v1 kk nn S := by
  delta B_X8_init_55 at h ⊢
  obtain ⟨c1, h⟩ := h
  refine ⟨c1, ?_⟩
  have n2 := k5_ne K c1
  obtain ⟨b3, e4, h⟩ := h
  refine ⟨b3, e4, ?_⟩
  obtain ⟨c5, h⟩ := h
  refine ⟨c5, ?_⟩
  have n6 := k5_ne K c5
  refine ⟨?_, ?_⟩
  · intro c7
    have h := h.1 c7
    exact kg_X8_init_85 h K
  · intro c8
    have h := h.2 c8
    obtain ⟨b9, e10, h⟩ := h
    refine ⟨b9, e10, ?_⟩
    obtain ⟨c11, h⟩ := h
    refine ⟨c11, ?_⟩
    obtain ⟨c12, h⟩ := h
    refine ⟨c12, ?_⟩
    intro x14 e13
    have h := h x14 e13
    intro x16 e15
    have h := h x16 e15
    have K := k5_W K e13 e15
    obtain ⟨c17, h⟩ := h
    refine ⟨c17, ?_⟩
    obtain ⟨c18, h⟩ := h
    refine ⟨c18, ?_⟩
    refine cm_X3_init (kg_X3_init h) h (fun x19 hp h g20 => ?_)
    have h := h g20
    have K := k5_tr K hp.2
    obtain ⟨c21, h⟩ := h
    refine ⟨c21, ?_⟩
    have n22 := k5_ne K c21
    obtain ⟨c23, h⟩ := h
    refine ⟨c23, ?_⟩
    intro x25 e24
    have h := h x25 e24
    have K := k5_R K e24
    intro x27 e26
    have h := h x27 e26
    exact hX55 _ _ _ _ _ h K
theorem kg_X8_init_55 {Q : HS → Prop} {v0 : Nat} {v1 : Int32} {kk : Nat} {nn : Nat} {S0 S : HS} (h : P_X8_init_55 Q v0 v1 kk nn S) (K : K5 S0 S) : P_X8_init_55 (fun T => Q T ∧ K5 S0 T) v0 v1 kk nn S := h (fun v0 v1 kk nn S => K5 S0 S → P_X8_init_55 (fun T => Q T ∧ K5 S0 T) v0 v1 kk nn S) (fun v0 v1 kk nn S hB K => fd_X8_init_55 (kgB_X8_init_55 hB K (fun _ _ _ _ _ hx K => hx K))) K
set_option maxRecDepth 20000 in
set_option maxHeartbeats 1000000 in
theorem kg_X8_init_0 {Q : HS → Prop} {v0 : Nat} {kk : Nat} {nn : Nat} {S0 S : HS} (h : P_X8_init_0 Q v0 kk nn S) (K : K5 S0 S) : P_X8_init_0 (fun T => Q T ∧ K5 S0 T) v0 kk nn S := by
  delta P_X8_init_0 at h ⊢
  obtain ⟨c1, h⟩ := h
  refine ⟨c1, ?_⟩
  obtain ⟨c2, h⟩ := h
  refine ⟨c2, ?_⟩
  intro x4 e3
  have h := h x4 e3
  intro x6 e5
  have h := h x6 e5
  have K := k5_W K e3 e5
  obtain ⟨c7, h⟩ := h
  refine ⟨c7, ?_⟩
  have n8 := k5_ne K c7
  intro x10 e9
  have h := h x10 e9
  have K := k5_R K e9
  obtain ⟨c11, h⟩ := h
  refine ⟨c11, ?_⟩
  obtain ⟨c12, h⟩ := h
  refine ⟨c12, ?_⟩
  intro x14 e13
  have h := h x14 e13
  intro x16 e15
  have h := h x16 e15
  have K := k5_W K e13 e15
  intro x18 e17
  have h := h x18 e17
  have K := k5_R K e17
  obtain ⟨c19, h⟩ := h
  refine ⟨c19, ?_⟩
  obtain ⟨c20, h⟩ := h
  refine ⟨c20, ?_⟩
  intro x22 e21
  have h := h x22 e21
  intro x24 e23
  have h := h x24 e23
  have K := k5_W K e21 e23
  intro x26 e25
  have h := h x26 e25
  have K := k5_R K e25
  obtain ⟨c27, h⟩ := h
  refine ⟨c27, ?_⟩
  obtain ⟨c28, h⟩ := h
  refine ⟨c28, ?_⟩
  intro x30 e29
  have h := h x30 e29
  intro x32 e31
  have h := h x32 e31
  have K := k5_W K e29 e31
  intro x34 e33
  have h := h x34 e33
  have K := k5_R K e33
  obtain ⟨c35, h⟩ := h
  refine ⟨c35, ?_⟩
  obtain ⟨c36, h⟩ := h
  refine ⟨c36, ?_⟩
  intro x38 e37
  have h := h x38 e37
  intro x40 e39
  have h := h x40 e39
  have K := k5_W K e37 e39
  intro x42 e41
  have h := h x42 e41
  have K := k5_R K e41
  obtain ⟨c43, h⟩ := h
  refine ⟨c43, ?_⟩
  obtain ⟨c44, h⟩ := h
  refine ⟨c44, ?_⟩
  intro x46 e45
  have h := h x46 e45
  intro x48 e47
  have h := h x48 e47
  have K := k5_W K e45 e47
  intro x50 e49
  have h := h x50 e49
  have K := k5_R K e49
  exact kg_X8_init_55 h K
theorem kg_X8_init {Q : HS → Prop} {v0 : Nat} {S : HS} (h : P_X8_init v0 Q S) : P_X8_init v0 (fun T => Q T ∧ K5 S T) S := kg_X8_init_0 h (k5_rf S)
set_option maxRecDepth 20000 in
set_option maxHeartbeats 1000000 in
theorem kg_X4_init_0 {Q : HS → Prop} {v0 : Nat} {S0 S : HS} (h : P_X4_init_0 Q v0 S) (K : K5 S0 S) : P_X4_init_0 (fun T => Q T ∧ K5 S0 T) v0 S := by
  delta P_X4_init_0 at h ⊢
  intro x2 e1
  have h := h x2 e1
  intro x4 e3
  have h := h x4 e3
  have K := k5_W K e1 e3
  obtain ⟨c5, h⟩ := h
  refine ⟨c5, ?_⟩
  have n6 := k5_ne K c5
  intro x8 e7
  have h := h x8 e7
  have K := k5_R K e7
  intro x10 e9
  have h := h x10 e9
  intro x12 e11
  have h := h x12 e11
  have K := k5_W K e9 e11
  refine cm_X8_init (kg_X8_init h) h (fun x13 hp h g14 => ?_)
  have h := h g14
  have K := k5_tr K hp.2
  intro x16 e15
  have h := h x16 e15
  have K := k5_R K e15
  intro x18 e17
  have h := h x18 e17
  intro x20 e19
  have h := h x20 e19
  have K := k5_W K e17 e19
  intro x22 e21
  have h := h x22 e21
  have K := k5_R K e21
  intro x24 e23
  have h := h x24 e23
  intro x26 e25
  have h := h x26 e25
  have K := k5_W K e23 e25
  intro x28 e27
  have h := h x28 e27
  have K := k5_R K e27
  exact ⟨h, K⟩
theorem kg_X4_init {Q : HS → Prop} {v0 : Nat} {S : HS} (h : P_X4_init v0 Q S) : P_X4_init v0 (fun T => Q T ∧ K5 S T) S := kg_X4_init_0 h (k5_rf S)
end
section
set_option maxRecDepth 20000 in
set_option maxHeartbeats 1000000 in
theorem kg_X5_endOf_0 {Q : Int32 → HS → Prop} {v0 : Nat} {v1 : Int32} {S0 S : HS} (h : P_X5_endOf_0 Q v0 v1 S) (K : K5 S0 S) : P_X5_endOf_0 (fun r T => Q r T ∧ K5 S0 T) v0 v1 S := by
  delta P_X5_endOf_0 at h ⊢
  refine ⟨?_, ?_⟩
  · intro c1
    have h := h.1 c1
    obtain ⟨c2, h⟩ := h
    refine ⟨c2, ?_⟩
    have n3 := k5_ne K c2
    intro x5 e4
    have h := h x5 e4
    exact ⟨h, K⟩
  · intro c6
    have h := h.2 c6
    obtain ⟨c7, h⟩ := h
    refine ⟨c7, ?_⟩
    have n8 := k5_ne K c7
    intro x10 e9
    have h := h x10 e9
    exact ⟨h, K⟩
theorem kg_X5_endOf {Q : Int32 → HS → Prop} {v0 : Nat} {v1 : Int32} {S : HS} (h : P_X5_endOf v0 v1 Q S) : P_X5_endOf v0 v1 (fun r T => Q r T ∧ K5 S T) S := kg_X5_endOf_0 h (k5_rf S)
set_option maxRecDepth 20000 in
set_option maxHeartbeats 1000000 in
theorem kg_X5_minutesAt_0 {Q : Int32 → HS → Prop} {v0 : Nat} {v1 : Int32} {S0 S : HS} (h : P_X5_minutesAt_0 Q v0 v1 S) (K : K5 S0 S) : P_X5_minutesAt_0 (fun r T => Q r T ∧ K5 S0 T) v0 v1 S := by
  delta P_X5_minutesAt_0 at h ⊢
  refine ⟨?_, ?_⟩
  · intro c1
    have h := h.1 c1
    exact ⟨h, K⟩
  · intro c2
    have h := h.2 c2
    obtain ⟨c3, h⟩ := h
    refine ⟨c3, ?_⟩
    have n4 := k5_ne K c3
    intro x6 e5
    have h := h x6 e5
    obtain ⟨c7, h⟩ := h
    refine ⟨c7, ?_⟩
    intro x9 e8
    have h := h x9 e8
    exact ⟨h, K⟩
theorem kg_X5_minutesAt {Q : Int32 → HS → Prop} {v0 : Nat} {v1 : Int32} {S : HS} (h : P_X5_minutesAt v0 v1 Q S) : P_X5_minutesAt v0 v1 (fun r T => Q r T ∧ K5 S T) S := kg_X5_minutesAt_0 h (k5_rf S)
set_option maxRecDepth 20000 in
set_option maxHeartbeats 1000000 in
theorem kg_X5_startOf_0 {Q : Int32 → HS → Prop} {v0 : Nat} {v1 : Int32} {S0 S : HS} (h : P_X5_startOf_0 Q v0 v1 S) (K : K5 S0 S) : P_X5_startOf_0 (fun r T => Q r T ∧ K5 S0 T) v0 v1 S := by
  delta P_X5_startOf_0 at h ⊢
  refine ⟨?_, ?_⟩
  · intro c1
    have h := h.1 c1
    obtain ⟨c2, h⟩ := h
    refine ⟨c2, ?_⟩
    have n3 := k5_ne K c2
    intro x5 e4
    have h := h x5 e4
    exact ⟨h, K⟩
  · intro c6
    have h := h.2 c6
    obtain ⟨c7, h⟩ := h
    refine ⟨c7, ?_⟩
    have n8 := k5_ne K c7
    intro x10 e9
    have h := h x10 e9
    exact ⟨h, K⟩
theorem kg_X5_startOf {Q : Int32 → HS → Prop} {v0 : Nat} {v1 : Int32} {S : HS} (h : P_X5_startOf v0 v1 Q S) : P_X5_startOf v0 v1 (fun r T => Q r T ∧ K5 S T) S := kg_X5_startOf_0 h (k5_rf S)
set_option maxRecDepth 20000 in
set_option maxHeartbeats 1000000 in
theorem kg_X5_tell_0 {Q : Int32 → HS → Prop} {v0 : Nat} {v1 : Int32} {S0 S : HS} (h : P_X5_tell_0 Q v0 v1 S) (K : K5 S0 S) : P_X5_tell_0 (fun r T => Q r T ∧ K5 S0 T) v0 v1 S := by
  delta P_X5_tell_0 at h ⊢
  refine ⟨?_, ?_, ?_, ?_, ?_⟩
  · intro c1
    have h := h.1 c1
    obtain ⟨c2, h⟩ := h
    refine ⟨c2, ?_⟩
    have n3 := k5_ne K c2
    intro x5 e4
    have h := h x5 e4
    exact ⟨h, K⟩
  · intro c6
    have h := h.2.1 c6
    obtain ⟨c7, h⟩ := h
    refine ⟨c7, ?_⟩
    have n8 := k5_ne K c7
    intro x10 e9
    have h := h x10 e9
    exact ⟨h, K⟩
  · intro c11
    have h := h.2.2.1 c11
    obtain ⟨c12, h⟩ := h
    refine ⟨c12, ?_⟩
    have n13 := k5_ne K c12
    intro x15 e14
    have h := h x15 e14
    exact ⟨h, K⟩
  · intro c16
    have h := h.2.2.2.1 c16
    obtain ⟨c17, h⟩ := h
    refine ⟨c17, ?_⟩
    have n18 := k5_ne K c17
    intro x20 e19
    have h := h x20 e19
    exact ⟨h, K⟩
  · intro c21
    have h := h.2.2.2.2 c21
    obtain ⟨c22, h⟩ := h
    refine ⟨c22, ?_⟩
    have n23 := k5_ne K c22
    intro x25 e24
    have h := h x25 e24
    exact ⟨h, K⟩
theorem kg_X5_tell {Q : Int32 → HS → Prop} {v0 : Nat} {v1 : Int32} {S : HS} (h : P_X5_tell v0 v1 Q S) : P_X5_tell v0 v1 (fun r T => Q r T ∧ K5 S T) S := kg_X5_tell_0 h (k5_rf S)
set_option maxRecDepth 20000 in
set_option maxHeartbeats 1000000 in
theorem kg_X6_tell_0 {Q : Int32 → HS → Prop} {v0 : Nat} {v1 : Int32} {S0 S : HS} (h : P_X6_tell_0 Q v0 v1 S) (K : K5 S0 S) : P_X6_tell_0 (fun r T => Q r T ∧ K5 S0 T) v0 v1 S := by
  delta P_X6_tell_0 at h ⊢
  refine ⟨?_, ?_, ?_, ?_, ?_, ?_, ?_⟩
  · intro c1
    have h := h.1 c1
    obtain ⟨c2, h⟩ := h
    refine ⟨c2, ?_⟩
    have n3 := k5_ne K c2
    intro x5 e4
    have h := h x5 e4
    exact ⟨h, K⟩
  · intro c6
    have h := h.2.1 c6
    obtain ⟨c7, h⟩ := h
    refine ⟨c7, ?_⟩
    have n8 := k5_ne K c7
    intro x10 e9
    have h := h x10 e9
    exact ⟨h, K⟩
  · intro c11
    have h := h.2.2.1 c11
    obtain ⟨c12, h⟩ := h
    refine ⟨c12, ?_⟩
    have n13 := k5_ne K c12
    intro x15 e14
    have h := h x15 e14
    exact ⟨h, K⟩
  · intro c16
    have h := h.2.2.2.1 c16
    obtain ⟨c17, h⟩ := h
    refine ⟨c17, ?_⟩
    have n18 := k5_ne K c17
    intro x20 e19
    have h := h x20 e19
    exact ⟨h, K⟩
  · intro c21
    have h := h.2.2.2.2.1 c21
    obtain ⟨c22, h⟩ := h
    refine ⟨c22, ?_⟩
    have n23 := k5_ne K c22
    intro x25 e24
    have h := h x25 e24
    exact ⟨h, K⟩
  · intro c26
    have h := h.2.2.2.2.2.1 c26
    obtain ⟨c27, h⟩ := h
    refine ⟨c27, ?_⟩
    have n28 := k5_ne K c27
    intro x30 e29
    have h := h x30 e29
    exact ⟨h, K⟩
  · intro c31
    have h := h.2.2.2.2.2.2 c31
    obtain ⟨c32, h⟩ := h
    refine ⟨c32, ?_⟩
    have n33 := k5_ne K c32
    intro x35 e34
    have h := h x35 e34
    exact ⟨h, K⟩
theorem kg_X6_tell {Q : Int32 → HS → Prop} {v0 : Nat} {v1 : Int32} {S : HS} (h : P_X6_tell v0 v1 Q S) : P_X6_tell v0 v1 (fun r T => Q r T ∧ K5 S T) S := kg_X6_tell_0 h (k5_rf S)
set_option maxRecDepth 20000 in
set_option maxHeartbeats 1000000 in
theorem kg_X7_addMove_0 {Q : HS → Prop} {v0 : Nat} {v1 : Int32} {v2 : Int32} {v3 : Int32} {v4 : Int64} {v6 : Int32} {S0 S : HS} (h : P_X7_addMove_0 Q v0 v1 v2 v3 v4 v6 S) (K : K5 S0 S) : P_X7_addMove_0 (fun T => Q T ∧ K5 S0 T) v0 v1 v2 v3 v4 v6 S := by
  delta P_X7_addMove_0 at h ⊢
  obtain ⟨c1, h⟩ := h
  refine ⟨c1, ?_⟩
  have n2 := k5_ne K c1
  intro x4 e3
  have h := h x4 e3
  refine ⟨?_, ?_⟩
  · intro c5
    have h := h.1 c5
    exact ⟨h, K⟩
  · intro c6
    have h := h.2 c6
    intro x8 e7
    have h := h x8 e7
    refine ⟨?_, ?_⟩
    · intro c9
      have h := h.1 c9
      exact ⟨h, K⟩
    · intro c10
      have h := h.2 c10
      intro x12 e11
      have h := h x12 e11
      refine ⟨?_, ?_⟩
      · intro c13
        have h := h.1 c13
        obtain ⟨b14, e15, h⟩ := h
        refine ⟨b14, e15, ?_⟩
        intro x17 e16
        have h := h x17 e16
        obtain ⟨c18, h⟩ := h
        refine ⟨c18, ?_⟩
        have n19 := k5_ne K c18
        intro x21 e20
        have h := h x21 e20
        obtain ⟨c22, h⟩ := h
        refine ⟨c22, ?_⟩
        intro x24 e23
        have h := h x24 e23
        have K := k5_A K e23 n19 (by decide)
        obtain ⟨b25, e26, h⟩ := h
        refine ⟨b25, e26, ?_⟩
        intro x28 e27
        have h := h x28 e27
        obtain ⟨c29, h⟩ := h
        refine ⟨c29, ?_⟩
        have n30 := k5_ne K c29
        intro x32 e31
        have h := h x32 e31
        obtain ⟨c33, h⟩ := h
        refine ⟨c33, ?_⟩
        intro x35 e34
        have h := h x35 e34
        have K := k5_A K e34 n30 (by decide)
        obtain ⟨b36, e37, h⟩ := h
        refine ⟨b36, e37, ?_⟩
        intro x39 e38
        have h := h x39 e38
        obtain ⟨c40, h⟩ := h
        refine ⟨c40, ?_⟩
        have n41 := k5_ne K c40
        obtain ⟨c42, h⟩ := h
        refine ⟨c42, ?_⟩
        intro x44 e43
        have h := h x44 e43
        have K := k5_A K e43 n41 (by decide)
        obtain ⟨b45, e46, h⟩ := h
        refine ⟨b45, e46, ?_⟩
        intro x48 e47
        have h := h x48 e47
        obtain ⟨c49, h⟩ := h
        refine ⟨c49, ?_⟩
        have n50 := k5_ne K c49
        intro x52 e51
        have h := h x52 e51
        obtain ⟨c53, h⟩ := h
        refine ⟨c53, ?_⟩
        intro x55 e54
        have h := h x55 e54
        have K := k5_J K e54
        obtain ⟨b56, e57, h⟩ := h
        refine ⟨b56, e57, ?_⟩
        intro x59 e58
        have h := h x59 e58
        obtain ⟨c60, h⟩ := h
        refine ⟨c60, ?_⟩
        have n61 := k5_ne K c60
        obtain ⟨c62, h⟩ := h
        refine ⟨c62, ?_⟩
        intro x64 e63
        have h := h x64 e63
        have K := k5_A K e63 n61 (by decide)
        intro x66 e65
        have h := h x66 e65
        intro x68 e67
        have h := h x68 e67
        intro x70 e69
        have h := h x70 e69
        have K := k5_I K e69 n2 (by decide)
        exact ⟨h, K⟩
      · intro c71
        have h := h.2 c71
        exact ⟨h, K⟩
theorem kg_X7_addMove {Q : HS → Prop} {v0 : Nat} {v1 : Int32} {v2 : Int32} {v3 : Int32} {v4 : Int64} {v6 : Int32} {S : HS} (h : P_X7_addMove v0 v1 v2 v3 v4 v6 Q S) : P_X7_addMove v0 v1 v2 v3 v4 v6 (fun T => Q T ∧ K5 S T) S := kg_X7_addMove_0 h (k5_rf S)
set_option maxRecDepth 20000 in
set_option maxHeartbeats 1000000 in
theorem kg_X7_addLeg_82 {Q : HS → Prop} {v0 : Nat} {v1 : Nat} {v2 : Int32} {v4 : Int64} {v6 : Int32} {v7 : Int32} {S0 S : HS} (h : P_X7_addLeg_82 Q v0 v1 v2 v4 v6 v7 S) (K : K5 S0 S) : P_X7_addLeg_82 (fun T => Q T ∧ K5 S0 T) v0 v1 v2 v4 v6 v7 S := by
  delta P_X7_addLeg_82 at h ⊢
  obtain ⟨c1, h⟩ := h
  refine ⟨c1, ?_⟩
  have n2 := k5_ne K c1
  refine cm_X5_startOf (kg_X5_startOf h) h (fun x3 x4 hp h g5 => ?_)
  have h := h g5
  have K := k5_tr K hp.2
  refine cm_X5_endOf (kg_X5_endOf h) h (fun x6 x7 hp h g8 => ?_)
  have h := h g8
  have K := k5_tr K hp.2
  obtain ⟨c9, h⟩ := h
  refine ⟨c9, ?_⟩
  have n10 := k5_ne K c9
  refine cm_X7_addMove (kg_X7_addMove h) h (fun x11 hp h g12 => ?_)
  have h := h g12
  have K := k5_tr K hp.2
  exact ⟨h, K⟩
set_option maxRecDepth 20000 in
set_option maxHeartbeats 1000000 in
theorem kg_X7_addLeg_0 {Q : HS → Prop} {v0 : Nat} {v1 : Nat} {v2 : Int32} {v3 : Int32} {v4 : Int64} {v6 : Int32} {S0 S : HS} (h : P_X7_addLeg_0 Q v0 v1 v2 v3 v4 v6 S) (K : K5 S0 S) : P_X7_addLeg_0 (fun T => Q T ∧ K5 S0 T) v0 v1 v2 v3 v4 v6 S := by
  delta P_X7_addLeg_0 at h ⊢
  obtain ⟨c1, h⟩ := h
  refine ⟨c1, ?_⟩
  have n2 := k5_ne K c1
  refine cm_X5_minutesAt (kg_X5_minutesAt h) h (fun x3 x4 hp h g5 => ?_)
  have h := h g5
  have K := k5_tr K hp.2
  obtain ⟨c6, h⟩ := h
  refine ⟨c6, ?_⟩
  have n7 := k5_ne K c6
  intro x9 e8
  have h := h x9 e8
  intro x11 e10
  have h := h x11 e10
  refine ⟨?_, ?_⟩
  · intro c12
    have h := h.1 c12
    exact kg_X7_addLeg_82 h K
  · intro c13
    have h := h.2 c13
    refine ⟨?_, ?_⟩
    · intro c14
      have h := h.1 c14
      exact kg_X7_addLeg_82 h K
    · intro c15
      have h := h.2 c15
      obtain ⟨b16, e17, h⟩ := h
      refine ⟨b16, e17, ?_⟩
      obtain ⟨c18, h⟩ := h
      refine ⟨c18, ?_⟩
      have n19 := k5_ne K c18
      obtain ⟨c20, h⟩ := h
      refine ⟨c20, ?_⟩
      intro x22 e21
      have h := h x22 e21
      intro x24 e23
      have h := h x24 e23
      intro x26 e25
      have h := h x26 e25
      refine ⟨?_, ?_⟩
      · intro c27
        have h := h.1 c27
        exact kg_X7_addLeg_82 h K
      · intro c28
        have h := h.2 c28
        obtain ⟨b29, e30, h⟩ := h
        refine ⟨b29, e30, ?_⟩
        obtain ⟨c31, h⟩ := h
        refine ⟨c31, ?_⟩
        have n32 := k5_ne K c31
        obtain ⟨c33, h⟩ := h
        refine ⟨c33, ?_⟩
        intro x35 e34
        have h := h x35 e34
        refine ⟨?_, ?_⟩
        · intro c36
          have h := h.1 c36
          exact kg_X7_addLeg_82 h K
        · intro c37
          have h := h.2 c37
          obtain ⟨b38, e39, h⟩ := h
          refine ⟨b38, e39, ?_⟩
          obtain ⟨c40, h⟩ := h
          refine ⟨c40, ?_⟩
          have n41 := k5_ne K c40
          obtain ⟨c42, h⟩ := h
          refine ⟨c42, ?_⟩
          intro x44 e43
          have h := h x44 e43
          refine ⟨?_, ?_⟩
          · intro c45
            have h := h.1 c45
            intro x47 e46
            have h := h x47 e46
            have K := k5_I K e46 n7 (by decide)
            exact kg_X7_addLeg_82 h K
          · intro c48
            have h := h.2 c48
            exact ⟨h, K⟩
theorem kg_X7_addLeg {Q : HS → Prop} {v0 : Nat} {v1 : Nat} {v2 : Int32} {v3 : Int32} {v4 : Int64} {v6 : Int32} {S : HS} (h : P_X7_addLeg v0 v1 v2 v3 v4 v6 Q S) : P_X7_addLeg v0 v1 v2 v3 v4 v6 (fun T => Q T ∧ K5 S T) S := kg_X7_addLeg_0 h (k5_rf S)
set_option maxRecDepth 20000 in
set_option maxHeartbeats 1000000 in
theorem kg_X7_keyOf_0 {Q : Int64 → HS → Prop} {v0 : Nat} {v1 : Int32} {v2 : Int32} {S0 S : HS} (h : P_X7_keyOf_0 Q v0 v1 v2 S) (K : K5 S0 S) : P_X7_keyOf_0 (fun r T => Q r T ∧ K5 S0 T) v0 v1 v2 S := by
  delta P_X7_keyOf_0 at h ⊢
  intro x2 e1
  have h := h x2 e1
  refine ⟨?_, ?_⟩
  · intro c3
    have h := h.1 c3
    exact ⟨h, K⟩
  · intro c4
    have h := h.2 c4
    obtain ⟨c5, h⟩ := h
    refine ⟨c5, ?_⟩
    have n6 := k5_ne K c5
    obtain ⟨b7, e8, h⟩ := h
    refine ⟨b7, e8, ?_⟩
    obtain ⟨c9, h⟩ := h
    refine ⟨c9, ?_⟩
    have n10 := k5_ne K c9
    refine ⟨?_, ?_⟩
    · intro c11
      have h := h.1 c11
      exact ⟨h, K⟩
    · intro c12
      have h := h.2 c12
      obtain ⟨b13, e14, h⟩ := h
      refine ⟨b13, e14, ?_⟩
      obtain ⟨c15, h⟩ := h
      refine ⟨c15, ?_⟩
      have n16 := k5_ne K c15
      obtain ⟨c17, h⟩ := h
      refine ⟨c17, ?_⟩
      intro x19 e18
      have h := h x19 e18
      exact ⟨h, K⟩
theorem kg_X7_keyOf {Q : Int64 → HS → Prop} {v0 : Nat} {v1 : Int32} {v2 : Int32} {S : HS} (h : P_X7_keyOf v0 v1 v2 Q S) : P_X7_keyOf v0 v1 v2 (fun r T => Q r T ∧ K5 S T) S := kg_X7_keyOf_0 h (k5_rf S)
set_option maxRecDepth 20000 in
set_option maxHeartbeats 1000000 in
theorem kg_X7_endFrom_0 {Q : Int32 → HS → Prop} {v0 : Nat} {v1 : Int32} {v2 : Int32} {S0 S : HS} (h : P_X7_endFrom_0 Q v0 v1 v2 S) (K : K5 S0 S) : P_X7_endFrom_0 (fun r T => Q r T ∧ K5 S0 T) v0 v1 v2 S := by
  delta P_X7_endFrom_0 at h ⊢
  obtain ⟨c1, h⟩ := h
  refine ⟨c1, ?_⟩
  have n2 := k5_ne K c1
  refine cm_X7_keyOf (kg_X7_keyOf h) h (fun x3 x4 hp h g5 => ?_)
  have h := h g5
  have K := k5_tr K hp.2
  intro x7 e6
  have h := h x7 e6
  exact ⟨h, K⟩
theorem kg_X7_endFrom {Q : Int32 → HS → Prop} {v0 : Nat} {v1 : Int32} {v2 : Int32} {S : HS} (h : P_X7_endFrom v0 v1 v2 Q S) : P_X7_endFrom v0 v1 v2 (fun r T => Q r T ∧ K5 S T) S := kg_X7_endFrom_0 h (k5_rf S)
set_option maxRecDepth 20000 in
set_option maxHeartbeats 1000000 in
theorem kg_X7_init_0 {Q : HS → Prop} {v0 : Nat} {S0 S : HS} (h : P_X7_init_0 Q v0 S) (K : K5 S0 S) : P_X7_init_0 (fun T => Q T ∧ K5 S0 T) v0 S := by
  delta P_X7_init_0 at h ⊢
  intro x2 e1
  have h := h x2 e1
  intro x4 e3
  have h := h x4 e3
  have K := k5_W K e1 e3
  obtain ⟨c5, h⟩ := h
  refine ⟨c5, ?_⟩
  have n6 := k5_ne K c5
  intro x8 e7
  have h := h x8 e7
  have K := k5_R K e7
  intro x10 e9
  have h := h x10 e9
  intro x12 e11
  have h := h x12 e11
  have K := k5_W K e9 e11
  intro x14 e13
  have h := h x14 e13
  have K := k5_R K e13
  intro x16 e15
  have h := h x16 e15
  intro x18 e17
  have h := h x18 e17
  have K := k5_W K e15 e17
  intro x20 e19
  have h := h x20 e19
  have K := k5_R K e19
  intro x22 e21
  have h := h x22 e21
  intro x24 e23
  have h := h x24 e23
  have K := k5_W K e21 e23
  intro x26 e25
  have h := h x26 e25
  have K := k5_R K e25
  intro x28 e27
  have h := h x28 e27
  intro x30 e29
  have h := h x30 e29
  have K := k5_W K e27 e29
  intro x32 e31
  have h := h x32 e31
  have K := k5_R K e31
  intro x34 e33
  have h := h x34 e33
  intro x36 e35
  have h := h x36 e35
  have K := k5_W K e33 e35
  intro x38 e37
  have h := h x38 e37
  have K := k5_R K e37
  intro x40 e39
  have h := h x40 e39
  intro x42 e41
  have h := h x42 e41
  have K := k5_W K e39 e41
  intro x44 e43
  have h := h x44 e43
  have K := k5_R K e43
  intro x46 e45
  have h := h x46 e45
  intro x48 e47
  have h := h x48 e47
  have K := k5_W K e45 e47
  intro x50 e49
  have h := h x50 e49
  have K := k5_R K e49
  intro x52 e51
  have h := h x52 e51
  have K := k5_I K e51 n6 (by decide)
  intro x54 e53
  have h := h x54 e53
  have K := k5_I K e53 n6 (by decide)
  intro x56 e55
  have h := h x56 e55
  have K := k5_I K e55 n6 (by decide)
  intro x58 e57
  have h := h x58 e57
  have K := k5_I K e57 n6 (by decide)
  exact ⟨h, K⟩
theorem kg_X7_init {Q : HS → Prop} {v0 : Nat} {S : HS} (h : P_X7_init v0 Q S) : P_X7_init v0 (fun T => Q T ∧ K5 S T) S := kg_X7_init_0 h (k5_rf S)
set_option maxRecDepth 20000 in
set_option maxHeartbeats 1000000 in
theorem kg_X7_isOpen_0 {Q : Int32 → HS → Prop} {v0 : Nat} {v1 : Int32} {v2 : Int32} {S0 S : HS} (h : P_X7_isOpen_0 Q v0 v1 v2 S) (K : K5 S0 S) : P_X7_isOpen_0 (fun r T => Q r T ∧ K5 S0 T) v0 v1 v2 S := by
  delta P_X7_isOpen_0 at h ⊢
  obtain ⟨c1, h⟩ := h
  refine ⟨c1, ?_⟩
  have n2 := k5_ne K c1
  refine cm_X7_keyOf (kg_X7_keyOf h) h (fun x3 x4 hp h g5 => ?_)
  have h := h g5
  have K := k5_tr K hp.2
  refine ⟨?_, ?_⟩
  · intro c6
    have h := h.1 c6
    exact ⟨h, K⟩
  · intro c7
    have h := h.2 c7
    exact ⟨h, K⟩
theorem kg_X7_isOpen {Q : Int32 → HS → Prop} {v0 : Nat} {v1 : Int32} {v2 : Int32} {S : HS} (h : P_X7_isOpen v0 v1 v2 Q S) : P_X7_isOpen v0 v1 v2 (fun r T => Q r T ∧ K5 S T) S := kg_X7_isOpen_0 h (k5_rf S)
set_option maxRecDepth 20000 in
set_option maxHeartbeats 1000000 in
theorem kg_X7_makeRows_0 {Q : HS → Prop} {v0 : Nat} {S0 S : HS} (h : P_X7_makeRows_0 Q v0 S) (K : K5 S0 S) : P_X7_makeRows_0 (fun T => Q T ∧ K5 S0 T) v0 S := by
  delta P_X7_makeRows_0 at h ⊢
  intro x2 e1
  have h := h x2 e1
  intro x4 e3
  have h := h x4 e3
  have K := k5_W K e1 e3
  obtain ⟨c5, h⟩ := h
  refine ⟨c5, ?_⟩
  have n6 := k5_ne K c5
  intro x8 e7
  have h := h x8 e7
  have K := k5_R K e7
  intro x10 e9
  have h := h x10 e9
  intro x12 e11
  have h := h x12 e11
  have K := k5_W K e9 e11
  intro x14 e13
  have h := h x14 e13
  have K := k5_R K e13
  intro x16 e15
  have h := h x16 e15
  intro x18 e17
  have h := h x18 e17
  have K := k5_W K e15 e17
  intro x20 e19
  have h := h x20 e19
  have K := k5_R K e19
  intro x22 e21
  have h := h x22 e21
  intro x24 e23
  have h := h x24 e23
  have K := k5_W K e21 e23
  intro x26 e25
  have h := h x26 e25
  have K := k5_R K e25
  intro x28 e27
  have h := h x28 e27
  intro x30 e29
  have h := h x30 e29
  have K := k5_W K e27 e29
  intro x32 e31
  have h := h x32 e31
  have K := k5_R K e31
  intro x34 e33
  have h := h x34 e33
  intro x36 e35
  have h := h x36 e35
  have K := k5_W K e33 e35
  intro x38 e37
  have h := h x38 e37
  have K := k5_R K e37
  intro x40 e39
  have h := h x40 e39
  intro x42 e41
  have h := h x42 e41
  have K := k5_W K e39 e41
  intro x44 e43
  have h := h x44 e43
  have K := k5_R K e43
  intro x46 e45
  have h := h x46 e45
  intro x48 e47
  have h := h x48 e47
  have K := k5_W K e45 e47
  intro x50 e49
  have h := h x50 e49
  have K := k5_R K e49
  exact ⟨h, K⟩
theorem kg_X7_makeRows {Q : HS → Prop} {v0 : Nat} {S : HS} (h : P_X7_makeRows v0 Q S) : P_X7_makeRows v0 (fun T => Q T ∧ K5 S T) S := kg_X7_makeRows_0 h (k5_rf S)
set_option maxRecDepth 20000 in
set_option maxHeartbeats 1000000 in
theorem kg_X7_meanFrom_0 {Q : Int64 → HS → Prop} {v0 : Nat} {v1 : Int32} {v2 : Int32} {S0 S : HS} (h : P_X7_meanFrom_0 Q v0 v1 v2 S) (K : K5 S0 S) : P_X7_meanFrom_0 (fun r T => Q r T ∧ K5 S0 T) v0 v1 v2 S := by
  delta P_X7_meanFrom_0 at h ⊢
  obtain ⟨c1, h⟩ := h
  refine ⟨c1, ?_⟩
  have n2 := k5_ne K c1
  refine cm_X7_keyOf (kg_X7_keyOf h) h (fun x3 x4 hp h g5 => ?_)
  have h := h g5
  have K := k5_tr K hp.2
  intro x7 e6
  have h := h x7 e6
  exact ⟨h, K⟩
theorem kg_X7_meanFrom {Q : Int64 → HS → Prop} {v0 : Nat} {v1 : Int32} {v2 : Int32} {S : HS} (h : P_X7_meanFrom v0 v1 v2 Q S) : P_X7_meanFrom v0 v1 v2 (fun r T => Q r T ∧ K5 S T) S := kg_X7_meanFrom_0 h (k5_rf S)
set_option maxRecDepth 20000 in
set_option maxHeartbeats 1000000 in
theorem kg_X8_hasPlace_0 {Q : Int32 → HS → Prop} {v0 : Nat} {v1 : Int32} {S0 S : HS} (h : P_X8_hasPlace_0 Q v0 v1 S) (K : K5 S0 S) : P_X8_hasPlace_0 (fun r T => Q r T ∧ K5 S0 T) v0 v1 S := by
  delta P_X8_hasPlace_0 at h ⊢
  refine ⟨?_, ?_⟩
  · intro c1
    have h := h.1 c1
    exact ⟨h, K⟩
  · intro c2
    have h := h.2 c2
    obtain ⟨c3, h⟩ := h
    refine ⟨c3, ?_⟩
    have n4 := k5_ne K c3
    intro x6 e5
    have h := h x6 e5
    refine ⟨?_, ?_⟩
    · intro c7
      have h := h.1 c7
      exact ⟨h, K⟩
    · intro c8
      have h := h.2 c8
      obtain ⟨b9, e10, h⟩ := h
      refine ⟨b9, e10, ?_⟩
      obtain ⟨c11, h⟩ := h
      refine ⟨c11, ?_⟩
      have n12 := k5_ne K c11
      refine ⟨?_, ?_⟩
      · intro c13
        have h := h.1 c13
        exact ⟨h, K⟩
      · intro c14
        have h := h.2 c14
        exact ⟨h, K⟩
theorem kg_X8_hasPlace {Q : Int32 → HS → Prop} {v0 : Nat} {v1 : Int32} {S : HS} (h : P_X8_hasPlace v0 v1 Q S) : P_X8_hasPlace v0 v1 (fun r T => Q r T ∧ K5 S T) S := kg_X8_hasPlace_0 h (k5_rf S)
set_option maxRecDepth 20000 in
set_option maxHeartbeats 1000000 in
theorem kg_X8_canWait_0 {Q : Int32 → HS → Prop} {v0 : Nat} {v1 : Int32} {S0 S : HS} (h : P_X8_canWait_0 Q v0 v1 S) (K : K5 S0 S) : P_X8_canWait_0 (fun r T => Q r T ∧ K5 S0 T) v0 v1 S := by
  delta P_X8_canWait_0 at h ⊢
  obtain ⟨c1, h⟩ := h
  refine ⟨c1, ?_⟩
  have n2 := k5_ne K c1
  refine cm_X8_hasPlace (kg_X8_hasPlace h) h (fun x3 x4 hp h g5 g6 => ?_)
  have h := h g5 g6
  have K := k5_tr K hp.2
  refine ⟨?_, ?_⟩
  · intro c7
    have h := h.1 c7
    exact ⟨h, K⟩
  · intro c8
    have h := h.2 c8
    obtain ⟨b9, e10, h⟩ := h
    refine ⟨b9, e10, ?_⟩
    obtain ⟨c11, h⟩ := h
    refine ⟨c11, ?_⟩
    have n12 := k5_ne K c11
    obtain ⟨c13, h⟩ := h
    refine ⟨c13, ?_⟩
    intro x15 e14
    have h := h x15 e14
    refine ⟨?_, ?_⟩
    · intro c16
      have h := h.1 c16
      exact ⟨h, K⟩
    · intro c17
      have h := h.2 c17
      exact ⟨h, K⟩
theorem kg_X8_canWait {Q : Int32 → HS → Prop} {v0 : Nat} {v1 : Int32} {S : HS} (h : P_X8_canWait v0 v1 Q S) : P_X8_canWait v0 v1 (fun r T => Q r T ∧ K5 S T) S := kg_X8_canWait_0 h (k5_rf S)
set_option maxRecDepth 20000 in
set_option maxHeartbeats 1000000 in
theorem kg_X8_dripOn_0 {Q : Int32 → HS → Prop} {v0 : Nat} {v1 : Nat} {v2 : Int32} {S0 S : HS} (h : P_X8_dripOn_0 Q v0 v1 v2 S) (K : K5 S0 S) : P_X8_dripOn_0 (fun r T => Q r T ∧ K5 S0 T) v0 v1 v2 S := by
  delta P_X8_dripOn_0 at h ⊢
  obtain ⟨c1, h⟩ := h
  refine ⟨c1, ?_⟩
  have n2 := k5_ne K c1
  refine cm_X8_canWait (kg_X8_canWait h) h (fun x3 x4 hp h g5 g6 => ?_)
  have h := h g5 g6
  have K := k5_tr K hp.2
  refine ⟨?_, ?_⟩
  · intro c7
    have h := h.1 c7
    exact ⟨h, K⟩
  · intro c8
    have h := h.2 c8
    obtain ⟨b9, e10, h⟩ := h
    refine ⟨b9, e10, ?_⟩
    obtain ⟨c11, h⟩ := h
    refine ⟨c11, ?_⟩
    have n12 := k5_ne K c11
    obtain ⟨c13, h⟩ := h
    refine ⟨c13, ?_⟩
    intro x15 e14
    have h := h x15 e14
    obtain ⟨c16, h⟩ := h
    refine ⟨c16, ?_⟩
    have n17 := k5_ne K c16
    intro x19 e18
    have h := h x19 e18
    refine cm_X6_shield (kg_X6_shield h) h (fun x20 x21 hp h g22 => ?_)
    have h := h g22
    have K := k5_tr K hp.2
    intro x24 e23
    have h := h x24 e23
    exact ⟨h, K⟩
theorem kg_X8_dripOn {Q : Int32 → HS → Prop} {v0 : Nat} {v1 : Nat} {v2 : Int32} {S : HS} (h : P_X8_dripOn v0 v1 v2 Q S) : P_X8_dripOn v0 v1 v2 (fun r T => Q r T ∧ K5 S T) S := kg_X8_dripOn_0 h (k5_rf S)
set_option maxRecDepth 20000 in
set_option maxHeartbeats 1000000 in
theorem kg_X8_hasHour_0 {Q : Int32 → HS → Prop} {v0 : Nat} {v1 : Int32} {S0 S : HS} (h : P_X8_hasHour_0 Q v0 v1 S) (K : K5 S0 S) : P_X8_hasHour_0 (fun r T => Q r T ∧ K5 S0 T) v0 v1 S := by
  delta P_X8_hasHour_0 at h ⊢
  refine ⟨?_, ?_⟩
  · intro c1
    have h := h.1 c1
    exact ⟨h, K⟩
  · intro c2
    have h := h.2 c2
    obtain ⟨c3, h⟩ := h
    refine ⟨c3, ?_⟩
    have n4 := k5_ne K c3
    intro x6 e5
    have h := h x6 e5
    refine ⟨?_, ?_⟩
    · intro c7
      have h := h.1 c7
      exact ⟨h, K⟩
    · intro c8
      have h := h.2 c8
      obtain ⟨b9, e10, h⟩ := h
      refine ⟨b9, e10, ?_⟩
      obtain ⟨c11, h⟩ := h
      refine ⟨c11, ?_⟩
      have n12 := k5_ne K c11
      refine ⟨?_, ?_⟩
      · intro c13
        have h := h.1 c13
        exact ⟨h, K⟩
      · intro c14
        have h := h.2 c14
        exact ⟨h, K⟩
theorem kg_X8_hasHour {Q : Int32 → HS → Prop} {v0 : Nat} {v1 : Int32} {S : HS} (h : P_X8_hasHour v0 v1 Q S) : P_X8_hasHour v0 v1 (fun r T => Q r T ∧ K5 S T) S := kg_X8_hasHour_0 h (k5_rf S)
set_option maxRecDepth 20000 in
set_option maxHeartbeats 1000000 in
theorem kg_X7_price_134 {Q : HS → Prop} {X51 X51_2 : Nat → Nat → Nat → Int32 → Nat → Int32 → Int32 → HS → Prop} {X86 X86_2 : Nat → Nat → Nat → Int32 → Nat → Int32 → Int32 → Nat → Int32 → Int32 → HS → Prop} {v0 : Nat} {v1 : Nat} {v2 : Nat} {v3 : Int32} {v4 : Nat} {v5 : Int32} {v6 : Int32} {v7 : Nat} {v8 : Int32} {v9 : Int32} {s0 : Int64} {S0 S : HS} (h : P_X7_price_134 Q X51 X86 v0 v1 v2 v3 v4 v5 v6 v7 v8 v9 s0 S) (K : K5 S0 S) (hX51 : ∀ (u0 : Nat) (u1 : Nat) (u2 : Nat) (u3 : Int32) (u4 : Nat) (u5 : Int32) (u6 : Int32) (u7 : HS), X51 u0 u1 u2 u3 u4 u5 u6 u7 → K5 S0 u7 → X51_2 u0 u1 u2 u3 u4 u5 u6 u7) (hX86 : ∀ (u0 : Nat) (u1 : Nat) (u2 : Nat) (u3 : Int32) (u4 : Nat) (u5 : Int32) (u6 : Int32) (u7 : Nat) (u8 : Int32) (u9 : Int32) (u10 : HS), X86 u0 u1 u2 u3 u4 u5 u6 u7 u8 u9 u10 → K5 S0 u10 → X86_2 u0 u1 u2 u3 u4 u5 u6 u7 u8 u9 u10) : P_X7_price_134 (fun T => Q T ∧ K5 S0 T) X51_2 X86_2 v0 v1 v2 v3 v4 v5 v6 v7 v8 v9 s0 S := by
  delta P_X7_price_134 at h ⊢
  intro x2 e1
  have h := h x2 e1
  obtain ⟨c3, h⟩ := h
  refine ⟨c3, ?_⟩
  have n4 := k5_ne K c3
  refine cm_X7_addLeg (kg_X7_addLeg h) h (fun x5 hp h g6 => ?_)
  have h := h g6
  have K := k5_tr K hp.2
  intro x8 e7
  have h := h x8 e7
  exact hX86 _ _ _ _ _ _ _ _ _ _ _ h K
set_option maxRecDepth 20000 in
set_option maxHeartbeats 1000000 in
theorem kgB_X7_price_86 {Q : HS → Prop} {X51 X51_2 : Nat → Nat → Nat → Int32 → Nat → Int32 → Int32 → HS → Prop} {X86 X86_2 : Nat → Nat → Nat → Int32 → Nat → Int32 → Int32 → Nat → Int32 → Int32 → HS → Prop} {v0 : Nat} {v1 : Nat} {v2 : Nat} {v3 : Int32} {v4 : Nat} {v5 : Int32} {v6 : Int32} {v7 : Nat} {v8 : Int32} {v9 : Int32} {S0 S : HS} (h : B_X7_price_86 Q X51 X86 v0 v1 v2 v3 v4 v5 v6 v7 v8 v9 S) (K : K5 S0 S) (hX51 : ∀ (u0 : Nat) (u1 : Nat) (u2 : Nat) (u3 : Int32) (u4 : Nat) (u5 : Int32) (u6 : Int32) (u7 : HS), X51 u0 u1 u2 u3 u4 u5 u6 u7 → K5 S0 u7 → X51_2 u0 u1 u2 u3 u4 u5 u6 u7) (hX86 : ∀ (u0 : Nat) (u1 : Nat) (u2 : Nat) (u3 : Int32) (u4 : Nat) (u5 : Int32) (u6 : Int32) (u7 : Nat) (u8 : Int32) (u9 : Int32) (u10 : HS), X86 u0 u1 u2 u3 u4 u5 u6 u7 u8 u9 u10 → K5 S0 u10 → X86_2 u0 u1 u2 u3 u4 u5 u6 u7 u8 u9 u10) : B_X7_price_86 (fun T => Q T ∧ K5 S0 T) X51_2 X86_2 v0 v1 v2 v3 v4 v5 v6 v7 v8 v9 S := by
  delta B_X7_price_86 at h ⊢
  obtain ⟨c1, h⟩ := h
  refine ⟨c1, ?_⟩
  have n2 := k5_ne K c1
  intro x4 e3
  have h := h x4 e3
  refine ⟨?_, ?_⟩
  · intro c5
    have h := h.1 c5
    intro x7 e6
    have h := h x7 e6
    exact hX51 _ _ _ _ _ _ _ _ h K
  · intro c8
    have h := h.2 c8
    refine ⟨?_, ?_⟩
    · intro c9
      have h := h.1 c9
      obtain ⟨c10, h⟩ := h
      refine ⟨c10, ?_⟩
      have n11 := k5_ne K c10
      obtain ⟨b12, e13, h⟩ := h
      refine ⟨b12, e13, ?_⟩
      obtain ⟨c14, h⟩ := h
      refine ⟨c14, ?_⟩
      have n15 := k5_ne K c14
      obtain ⟨c16, h⟩ := h
      refine ⟨c16, ?_⟩
      obtain ⟨b17, e18, h⟩ := h
      refine ⟨b17, e18, ?_⟩
      obtain ⟨c19, h⟩ := h
      refine ⟨c19, ?_⟩
      have n20 := k5_ne K c19
      refine cm_X1_wetOf (kg_X1_wetOf h) h (fun x21 x22 hp h g23 => ?_)
      have h := h g23
      have K := k5_tr K hp.2
      obtain ⟨b24, e25, h⟩ := h
      refine ⟨b24, e25, ?_⟩
      obtain ⟨c26, h⟩ := h
      refine ⟨c26, ?_⟩
      have n27 := k5_ne K c26
      obtain ⟨c28, h⟩ := h
      refine ⟨c28, ?_⟩
      obtain ⟨b29, e30, h⟩ := h
      refine ⟨b29, e30, ?_⟩
      obtain ⟨c31, h⟩ := h
      refine ⟨c31, ?_⟩
      have n32 := k5_ne K c31
      intro x34 e33
      have h := h x34 e33
      exact kg_X7_price_134 h K hX51 hX86
    · intro c35
      have h := h.2 c35
      exact kg_X7_price_134 h K hX51 hX86
theorem kg_X7_price_86 {Q : HS → Prop} {X51 X51_2 : Nat → Nat → Nat → Int32 → Nat → Int32 → Int32 → HS → Prop} {v0 : Nat} {v1 : Nat} {v2 : Nat} {v3 : Int32} {v4 : Nat} {v5 : Int32} {v6 : Int32} {v7 : Nat} {v8 : Int32} {v9 : Int32} {S0 S : HS} (h : P_X7_price_86 Q X51 v0 v1 v2 v3 v4 v5 v6 v7 v8 v9 S) (K : K5 S0 S) (hX51 : ∀ (u0 : Nat) (u1 : Nat) (u2 : Nat) (u3 : Int32) (u4 : Nat) (u5 : Int32) (u6 : Int32) (u7 : HS), X51 u0 u1 u2 u3 u4 u5 u6 u7 → K5 S0 u7 → X51_2 u0 u1 u2 u3 u4 u5 u6 u7) : P_X7_price_86 (fun T => Q T ∧ K5 S0 T) X51_2 v0 v1 v2 v3 v4 v5 v6 v7 v8 v9 S := h (fun v0 v1 v2 v3 v4 v5 v6 v7 v8 v9 S => K5 S0 S → P_X7_price_86 (fun T => Q T ∧ K5 S0 T) X51_2 v0 v1 v2 v3 v4 v5 v6 v7 v8 v9 S) (fun v0 v1 v2 v3 v4 v5 v6 v7 v8 v9 S hB K => fd_X7_price_86 (kgB_X7_price_86 hB K hX51 (fun _ _ _ _ _ _ _ _ _ _ _ hx K => hx K))) K
set_option maxRecDepth 20000 in
set_option maxHeartbeats 1000000 in
theorem kg_X7_price_245 {Q : HS → Prop} {X179 X179_2 : Nat → Nat → Int32 → Nat → Int32 → Int32 → HS → Prop} {v0 : Nat} {v1 : Nat} {v3 : Int32} {v4 : Nat} {v5 : Int32} {v6 : Int32} {S0 S : HS} (h : P_X7_price_245 Q X179 v0 v1 v3 v4 v5 v6 S) (K : K5 S0 S) (hX179 : ∀ (u0 : Nat) (u1 : Nat) (u2 : Int32) (u3 : Nat) (u4 : Int32) (u5 : Int32) (u6 : HS), X179 u0 u1 u2 u3 u4 u5 u6 → K5 S0 u6 → X179_2 u0 u1 u2 u3 u4 u5 u6) : P_X7_price_245 (fun T => Q T ∧ K5 S0 T) X179_2 v0 v1 v3 v4 v5 v6 S := by
  delta P_X7_price_245 at h ⊢
  intro x2 e1
  have h := h x2 e1
  exact hX179 _ _ _ _ _ _ _ h K
set_option maxRecDepth 20000 in
set_option maxHeartbeats 1000000 in
theorem kg_X7_price_230 {Q : HS → Prop} {X179 X179_2 : Nat → Nat → Int32 → Nat → Int32 → Int32 → HS → Prop} {v0 : Nat} {v1 : Nat} {v3 : Int32} {v4 : Nat} {v5 : Int32} {v6 : Int32} {s0 : Int64} {S0 S : HS} (h : P_X7_price_230 Q X179 v0 v1 v3 v4 v5 v6 s0 S) (K : K5 S0 S) (hX179 : ∀ (u0 : Nat) (u1 : Nat) (u2 : Int32) (u3 : Nat) (u4 : Int32) (u5 : Int32) (u6 : HS), X179 u0 u1 u2 u3 u4 u5 u6 → K5 S0 u6 → X179_2 u0 u1 u2 u3 u4 u5 u6) : P_X7_price_230 (fun T => Q T ∧ K5 S0 T) X179_2 v0 v1 v3 v4 v5 v6 s0 S := by
  delta P_X7_price_230 at h ⊢
  obtain ⟨c1, h⟩ := h
  refine ⟨c1, ?_⟩
  have n2 := k5_ne K c1
  refine cm_X7_addMove (kg_X7_addMove h) h (fun x3 hp h g4 => ?_)
  have h := h g4
  have K := k5_tr K hp.2
  exact kg_X7_price_245 h K hX179
set_option maxRecDepth 20000 in
set_option maxHeartbeats 1000000 in
theorem kgB_X7_price_179 {Q : HS → Prop} {X179 X179_2 : Nat → Nat → Int32 → Nat → Int32 → Int32 → HS → Prop} {v0 : Nat} {v1 : Nat} {v3 : Int32} {v4 : Nat} {v5 : Int32} {v6 : Int32} {S0 S : HS} (h : B_X7_price_179 Q X179 v0 v1 v3 v4 v5 v6 S) (K : K5 S0 S) (hX179 : ∀ (u0 : Nat) (u1 : Nat) (u2 : Int32) (u3 : Nat) (u4 : Int32) (u5 : Int32) (u6 : HS), X179 u0 u1 u2 u3 u4 u5 u6 → K5 S0 u6 → X179_2 u0 u1 u2 u3 u4 u5 u6) : B_X7_price_179 (fun T => Q T ∧ K5 S0 T) X179_2 v0 v1 v3 v4 v5 v6 S := by
  delta B_X7_price_179 at h ⊢
  obtain ⟨c1, h⟩ := h
  refine ⟨c1, ?_⟩
  have n2 := k5_ne K c1
  intro x4 e3
  have h := h x4 e3
  refine ⟨?_, ?_⟩
  · intro c5
    have h := h.1 c5
    exact ⟨h, K⟩
  · intro c6
    have h := h.2 c6
    refine cm_X8_canWait (kg_X8_canWait h) h (fun x7 x8 hp h g9 g10 => ?_)
    have h := h g9 g10
    have K := k5_tr K hp.2
    refine ⟨?_, ?_⟩
    · intro c11
      have h := h.1 c11
      exact kg_X7_price_245 h K hX179
    · intro c12
      have h := h.2 c12
      refine ⟨?_, ?_⟩
      · intro c13
        have h := h.1 c13
        refine cm_X8_dripOn (kg_X8_dripOn h) h (fun x14 x15 hp h g16 => ?_)
        have h := h g16
        have K := k5_tr K hp.2
        obtain ⟨b17, e18, h⟩ := h
        refine ⟨b17, e18, ?_⟩
        obtain ⟨c19, h⟩ := h
        refine ⟨c19, ?_⟩
        have n20 := k5_ne K c19
        obtain ⟨c21, h⟩ := h
        refine ⟨c21, ?_⟩
        obtain ⟨b22, e23, h⟩ := h
        refine ⟨b22, e23, ?_⟩
        obtain ⟨c24, h⟩ := h
        refine ⟨c24, ?_⟩
        have n25 := k5_ne K c24
        intro x27 e26
        have h := h x27 e26
        exact kg_X7_price_230 h K hX179
      · intro c28
        have h := h.2 c28
        exact kg_X7_price_230 h K hX179
theorem kg_X7_price_179 {Q : HS → Prop} {v0 : Nat} {v1 : Nat} {v3 : Int32} {v4 : Nat} {v5 : Int32} {v6 : Int32} {S0 S : HS} (h : P_X7_price_179 Q v0 v1 v3 v4 v5 v6 S) (K : K5 S0 S) : P_X7_price_179 (fun T => Q T ∧ K5 S0 T) v0 v1 v3 v4 v5 v6 S := h (fun v0 v1 v3 v4 v5 v6 S => K5 S0 S → P_X7_price_179 (fun T => Q T ∧ K5 S0 T) v0 v1 v3 v4 v5 v6 S) (fun v0 v1 v3 v4 v5 v6 S hB K => fd_X7_price_179 (kgB_X7_price_179 hB K (fun _ _ _ _ _ _ _ hx K => hx K))) K
set_option maxRecDepth 20000 in
set_option maxHeartbeats 1000000 in
theorem kgB_X7_price_51 {Q : HS → Prop} {X51 X51_2 : Nat → Nat → Nat → Int32 → Nat → Int32 → Int32 → HS → Prop} {v0 : Nat} {v1 : Nat} {v2 : Nat} {v3 : Int32} {v4 : Nat} {v5 : Int32} {v6 : Int32} {S0 S : HS} (h : B_X7_price_51 Q X51 v0 v1 v2 v3 v4 v5 v6 S) (K : K5 S0 S) (hX51 : ∀ (u0 : Nat) (u1 : Nat) (u2 : Nat) (u3 : Int32) (u4 : Nat) (u5 : Int32) (u6 : Int32) (u7 : HS), X51 u0 u1 u2 u3 u4 u5 u6 u7 → K5 S0 u7 → X51_2 u0 u1 u2 u3 u4 u5 u6 u7) : B_X7_price_51 (fun T => Q T ∧ K5 S0 T) X51_2 v0 v1 v2 v3 v4 v5 v6 S := by
  delta B_X7_price_51 at h ⊢
  obtain ⟨c1, h⟩ := h
  refine ⟨c1, ?_⟩
  have n2 := k5_ne K c1
  intro x4 e3
  have h := h x4 e3
  refine ⟨?_, ?_⟩
  · intro c5
    have h := h.1 c5
    exact kg_X7_price_179 h K
  · intro c6
    have h := h.2 c6
    obtain ⟨b7, e8, h⟩ := h
    refine ⟨b7, e8, ?_⟩
    intro x10 e9
    have h := h x10 e9
    obtain ⟨c11, h⟩ := h
    refine ⟨c11, ?_⟩
    have n12 := k5_ne K c11
    obtain ⟨c13, h⟩ := h
    refine ⟨c13, ?_⟩
    obtain ⟨b14, e15, h⟩ := h
    refine ⟨b14, e15, ?_⟩
    intro x17 e16
    have h := h x17 e16
    obtain ⟨c18, h⟩ := h
    refine ⟨c18, ?_⟩
    have n19 := k5_ne K c18
    intro x21 e20
    have h := h x21 e20
    exact kg_X7_price_86 h K hX51
theorem kg_X7_price_51 {Q : HS → Prop} {v0 : Nat} {v1 : Nat} {v2 : Nat} {v3 : Int32} {v4 : Nat} {v5 : Int32} {v6 : Int32} {S0 S : HS} (h : P_X7_price_51 Q v0 v1 v2 v3 v4 v5 v6 S) (K : K5 S0 S) : P_X7_price_51 (fun T => Q T ∧ K5 S0 T) v0 v1 v2 v3 v4 v5 v6 S := h (fun v0 v1 v2 v3 v4 v5 v6 S => K5 S0 S → P_X7_price_51 (fun T => Q T ∧ K5 S0 T) v0 v1 v2 v3 v4 v5 v6 S) (fun v0 v1 v2 v3 v4 v5 v6 S hB K => fd_X7_price_51 (kgB_X7_price_51 hB K (fun _ _ _ _ _ _ _ _ hx K => hx K))) K
set_option maxRecDepth 20000 in
set_option maxHeartbeats 1000000 in
theorem kg_X7_price_46 {Q : HS → Prop} {v0 : Nat} {v1 : Nat} {v2 : Nat} {v3 : Int32} {v4 : Nat} {s0 : Int32} {S0 S : HS} (h : P_X7_price_46 Q v0 v1 v2 v3 v4 s0 S) (K : K5 S0 S) : P_X7_price_46 (fun T => Q T ∧ K5 S0 T) v0 v1 v2 v3 v4 s0 S := by
  delta P_X7_price_46 at h ⊢
  exact kg_X7_price_51 h K
set_option maxRecDepth 20000 in
set_option maxHeartbeats 1000000 in
theorem kg_X7_price_0 {Q : HS → Prop} {v0 : Nat} {v1 : Nat} {v2 : Nat} {v3 : Int32} {S0 S : HS} (h : P_X7_price_0 Q v0 v1 v2 v3 S) (K : K5 S0 S) : P_X7_price_0 (fun T => Q T ∧ K5 S0 T) v0 v1 v2 v3 S := by
  delta P_X7_price_0 at h ⊢
  obtain ⟨c1, h⟩ := h
  refine ⟨c1, ?_⟩
  have n2 := k5_ne K c1
  intro x4 e3
  have h := h x4 e3
  have K := k5_I K e3 n2 (by decide)
  intro x6 e5
  have h := h x6 e5
  have K := k5_I K e5 n2 (by decide)
  intro x8 e7
  have h := h x8 e7
  obtain ⟨c9, h⟩ := h
  refine ⟨c9, ?_⟩
  have n10 := k5_ne K c9
  refine cm_X8_hasWalker (kg_X8_hasWalker h) h (fun x11 x12 hp h g13 g14 => ?_)
  have h := h g13 g14
  have K := k5_tr K hp.2
  refine ⟨?_, ?_⟩
  · intro c15
    have h := h.1 c15
    obtain ⟨b16, e17, h⟩ := h
    refine ⟨b16, e17, ?_⟩
    intro x19 e18
    have h := h x19 e18
    obtain ⟨c20, h⟩ := h
    refine ⟨c20, ?_⟩
    have n21 := k5_ne K c20
    obtain ⟨c22, h⟩ := h
    refine ⟨c22, ?_⟩
    obtain ⟨b23, e24, h⟩ := h
    refine ⟨b23, e24, ?_⟩
    refine cm_X8_hasHour (kg_X8_hasHour h) h (fun x25 x26 hp h g27 g28 => ?_)
    have h := h g27 g28
    have K := k5_tr K hp.2
    refine ⟨?_, ?_⟩
    · intro c29
      have h := h.1 c29
      exact kg_X7_price_46 h K
    · intro c30
      have h := h.2 c30
      exact kg_X7_price_46 h K
  · intro c31
    have h := h.2 c31
    exact ⟨h, K⟩
theorem kg_X7_price {Q : HS → Prop} {v0 : Nat} {v1 : Nat} {v2 : Nat} {v3 : Int32} {S : HS} (h : P_X7_price v0 v1 v2 v3 Q S) : P_X7_price v0 v1 v2 v3 (fun T => Q T ∧ K5 S T) S := kg_X7_price_0 h (k5_rf S)
set_option maxRecDepth 20000 in
set_option maxHeartbeats 1000000 in
theorem kg_X7_reckonMinute_40 {Q : HS → Prop} {X2 X2_2 : Nat → Int32 → Int32 → Int32 → HS → Prop} {v0 : Nat} {v1 : Int32} {v2 : Int32} {v3 : Int32} {s0 : Nat} {s1 : Int32} {s2 : Int64} {S0 S : HS} (h : P_X7_reckonMinute_40 Q X2 v0 v1 v2 v3 s0 s1 s2 S) (K : K5 S0 S) (hX2 : ∀ (u0 : Nat) (u1 : Int32) (u2 : Int32) (u3 : Int32) (u4 : HS), X2 u0 u1 u2 u3 u4 → K5 S0 u4 → X2_2 u0 u1 u2 u3 u4) : P_X7_reckonMinute_40 (fun T => Q T ∧ K5 S0 T) X2_2 v0 v1 v2 v3 s0 s1 s2 S := by
  delta P_X7_reckonMinute_40 at h ⊢
  obtain ⟨c1, h⟩ := h
  refine ⟨c1, ?_⟩
  have n2 := k5_ne K c1
  obtain ⟨c3, h⟩ := h
  refine ⟨c3, ?_⟩
  intro x5 e4
  have h := h x5 e4
  have K := k5_J K e4
  obtain ⟨c6, h⟩ := h
  refine ⟨c6, ?_⟩
  have n7 := k5_ne K c6
  obtain ⟨b8, e9, h⟩ := h
  refine ⟨b8, e9, ?_⟩
  obtain ⟨c10, h⟩ := h
  refine ⟨c10, ?_⟩
  have n11 := k5_ne K c10
  obtain ⟨c12, h⟩ := h
  refine ⟨c12, ?_⟩
  intro x14 e13
  have h := h x14 e13
  have K := k5_A K e13 n11 (by decide)
  intro x16 e15
  have h := h x16 e15
  exact hX2 _ _ _ _ _ h K
set_option maxRecDepth 20000 in
set_option maxHeartbeats 1000000 in
theorem kg_X7_reckonMinute_219 {Q : HS → Prop} {X62 X62_2 : Nat → Int32 → Int32 → HS → Prop} {v0 : Nat} {v2 : Int32} {v3 : Int32} {S0 S : HS} (h : P_X7_reckonMinute_219 Q X62 v0 v2 v3 S) (K : K5 S0 S) (hX62 : ∀ (u0 : Nat) (u1 : Int32) (u2 : Int32) (u3 : HS), X62 u0 u1 u2 u3 → K5 S0 u3 → X62_2 u0 u1 u2 u3) : P_X7_reckonMinute_219 (fun T => Q T ∧ K5 S0 T) X62_2 v0 v2 v3 S := by
  delta P_X7_reckonMinute_219 at h ⊢
  intro x2 e1
  have h := h x2 e1
  exact hX62 _ _ _ _ h K
set_option maxRecDepth 20000 in
set_option maxHeartbeats 1000000 in
theorem kg_X7_reckonMinute_117 {Q : HS → Prop} {X62 X62_2 : Nat → Int32 → Int32 → HS → Prop} {v0 : Nat} {v2 : Int32} {v3 : Int32} {v4 : Int32} {v5 : Int32} {s0 : Int32} {S0 S : HS} (h : P_X7_reckonMinute_117 Q X62 v0 v2 v3 v4 v5 s0 S) (K : K5 S0 S) (hX62 : ∀ (u0 : Nat) (u1 : Int32) (u2 : Int32) (u3 : HS), X62 u0 u1 u2 u3 → K5 S0 u3 → X62_2 u0 u1 u2 u3) : P_X7_reckonMinute_117 (fun T => Q T ∧ K5 S0 T) X62_2 v0 v2 v3 v4 v5 s0 S := by
  delta P_X7_reckonMinute_117 at h ⊢
  refine ⟨?_, ?_⟩
  · intro c1
    have h := h.1 c1
    exact kg_X7_reckonMinute_219 h K hX62
  · intro c2
    have h := h.2 c2
    refine ⟨?_, ?_⟩
    · intro c3
      have h := h.1 c3
      exact kg_X7_reckonMinute_219 h K hX62
    · intro c4
      have h := h.2 c4
      obtain ⟨c5, h⟩ := h
      refine ⟨c5, ?_⟩
      have n6 := k5_ne K c5
      obtain ⟨b7, e8, h⟩ := h
      refine ⟨b7, e8, ?_⟩
      obtain ⟨c9, h⟩ := h
      refine ⟨c9, ?_⟩
      have n10 := k5_ne K c9
      refine ⟨?_, ?_⟩
      · intro c11
        have h := h.1 c11
        exact kg_X7_reckonMinute_219 h K hX62
      · intro c12
        have h := h.2 c12
        refine ⟨?_, ?_⟩
        · intro c13
          have h := h.1 c13
          exact kg_X7_reckonMinute_219 h K hX62
        · intro c14
          have h := h.2 c14
          obtain ⟨b15, e16, h⟩ := h
          refine ⟨b15, e16, ?_⟩
          obtain ⟨c17, h⟩ := h
          refine ⟨c17, ?_⟩
          have n18 := k5_ne K c17
          refine ⟨?_, ?_⟩
          · intro c19
            have h := h.1 c19
            exact kg_X7_reckonMinute_219 h K hX62
          · intro c20
            have h := h.2 c20
            obtain ⟨b21, e22, h⟩ := h
            refine ⟨b21, e22, ?_⟩
            obtain ⟨c23, h⟩ := h
            refine ⟨c23, ?_⟩
            have n24 := k5_ne K c23
            obtain ⟨c25, h⟩ := h
            refine ⟨c25, ?_⟩
            intro x27 e26
            have h := h x27 e26
            refine ⟨?_, ?_⟩
            · intro c28
              have h := h.1 c28
              exact kg_X7_reckonMinute_219 h K hX62
            · intro c29
              have h := h.2 c29
              obtain ⟨b30, e31, h⟩ := h
              refine ⟨b30, e31, ?_⟩
              obtain ⟨c32, h⟩ := h
              refine ⟨c32, ?_⟩
              have n33 := k5_ne K c32
              obtain ⟨c34, h⟩ := h
              refine ⟨c34, ?_⟩
              intro x36 e35
              have h := h x36 e35
              obtain ⟨b37, e38, h⟩ := h
              refine ⟨b37, e38, ?_⟩
              obtain ⟨c39, h⟩ := h
              refine ⟨c39, ?_⟩
              have n40 := k5_ne K c39
              obtain ⟨c41, h⟩ := h
              refine ⟨c41, ?_⟩
              intro x43 e42
              have h := h x43 e42
              intro x45 e44
              have h := h x45 e44
              obtain ⟨b46, e47, h⟩ := h
              refine ⟨b46, e47, ?_⟩
              obtain ⟨c48, h⟩ := h
              refine ⟨c48, ?_⟩
              have n49 := k5_ne K c48
              obtain ⟨c50, h⟩ := h
              refine ⟨c50, ?_⟩
              intro x52 e51
              have h := h x52 e51
              refine ⟨?_, ?_⟩
              · intro c53
                have h := h.1 c53
                exact kg_X7_reckonMinute_219 h K hX62
              · intro c54
                have h := h.2 c54
                obtain ⟨b55, e56, h⟩ := h
                refine ⟨b55, e56, ?_⟩
                obtain ⟨c57, h⟩ := h
                refine ⟨c57, ?_⟩
                have n58 := k5_ne K c57
                obtain ⟨c59, h⟩ := h
                refine ⟨c59, ?_⟩
                intro x61 e60
                have h := h x61 e60
                have K := k5_J K e60
                obtain ⟨b62, e63, h⟩ := h
                refine ⟨b62, e63, ?_⟩
                obtain ⟨b64, e65, h⟩ := h
                refine ⟨b64, e65, ?_⟩
                obtain ⟨c66, h⟩ := h
                refine ⟨c66, ?_⟩
                have n67 := k5_ne K c66
                obtain ⟨c68, h⟩ := h
                refine ⟨c68, ?_⟩
                intro x70 e69
                have h := h x70 e69
                obtain ⟨c71, h⟩ := h
                refine ⟨c71, ?_⟩
                have n72 := k5_ne K c71
                obtain ⟨c73, h⟩ := h
                refine ⟨c73, ?_⟩
                intro x75 e74
                have h := h x75 e74
                have K := k5_A K e74 n72 (by decide)
                exact kg_X7_reckonMinute_219 h K hX62
set_option maxRecDepth 20000 in
set_option maxHeartbeats 1000000 in
theorem kgB_X7_reckonMinute_62 {Q : HS → Prop} {X62 X62_2 : Nat → Int32 → Int32 → HS → Prop} {v0 : Nat} {v2 : Int32} {v3 : Int32} {S0 S : HS} (h : B_X7_reckonMinute_62 Q X62 v0 v2 v3 S) (K : K5 S0 S) (hX62 : ∀ (u0 : Nat) (u1 : Int32) (u2 : Int32) (u3 : HS), X62 u0 u1 u2 u3 → K5 S0 u3 → X62_2 u0 u1 u2 u3) : B_X7_reckonMinute_62 (fun T => Q T ∧ K5 S0 T) X62_2 v0 v2 v3 S := by
  delta B_X7_reckonMinute_62 at h ⊢
  obtain ⟨c1, h⟩ := h
  refine ⟨c1, ?_⟩
  have n2 := k5_ne K c1
  intro x4 e3
  have h := h x4 e3
  refine ⟨?_, ?_⟩
  · intro c5
    have h := h.1 c5
    exact ⟨h, K⟩
  · intro c6
    have h := h.2 c6
    refine ⟨?_, ?_⟩
    · intro c7
      have h := h.1 c7
      exact ⟨h, K⟩
    · intro c8
      have h := h.2 c8
      obtain ⟨b9, e10, h⟩ := h
      refine ⟨b9, e10, ?_⟩
      obtain ⟨c11, h⟩ := h
      refine ⟨c11, ?_⟩
      have n12 := k5_ne K c11
      obtain ⟨c13, h⟩ := h
      refine ⟨c13, ?_⟩
      intro x15 e14
      have h := h x15 e14
      intro x17 e16
      have h := h x17 e16
      obtain ⟨b18, e19, h⟩ := h
      refine ⟨b18, e19, ?_⟩
      obtain ⟨c20, h⟩ := h
      refine ⟨c20, ?_⟩
      have n21 := k5_ne K c20
      obtain ⟨c22, h⟩ := h
      refine ⟨c22, ?_⟩
      intro x24 e23
      have h := h x24 e23
      intro x26 e25
      have h := h x26 e25
      obtain ⟨b27, e28, h⟩ := h
      refine ⟨b27, e28, ?_⟩
      obtain ⟨c29, h⟩ := h
      refine ⟨c29, ?_⟩
      have n30 := k5_ne K c29
      obtain ⟨c31, h⟩ := h
      refine ⟨c31, ?_⟩
      intro x33 e32
      have h := h x33 e32
      intro x35 e34
      have h := h x35 e34
      refine ⟨?_, ?_⟩
      · intro c36
        have h := h.1 c36
        exact kg_X7_reckonMinute_117 h K hX62
      · intro c37
        have h := h.2 c37
        exact kg_X7_reckonMinute_117 h K hX62
theorem kg_X7_reckonMinute_62 {Q : HS → Prop} {v0 : Nat} {v2 : Int32} {v3 : Int32} {S0 S : HS} (h : P_X7_reckonMinute_62 Q v0 v2 v3 S) (K : K5 S0 S) : P_X7_reckonMinute_62 (fun T => Q T ∧ K5 S0 T) v0 v2 v3 S := h (fun v0 v2 v3 S => K5 S0 S → P_X7_reckonMinute_62 (fun T => Q T ∧ K5 S0 T) v0 v2 v3 S) (fun v0 v2 v3 S hB K => fd_X7_reckonMinute_62 (kgB_X7_reckonMinute_62 hB K (fun _ _ _ _ hx K => hx K))) K
set_option maxRecDepth 20000 in
set_option maxHeartbeats 1000000 in
theorem kg_X7_reckonMinute_60 {Q : HS → Prop} {v0 : Nat} {v2 : Int32} {S0 S : HS} (h : P_X7_reckonMinute_60 Q v0 v2 S) (K : K5 S0 S) : P_X7_reckonMinute_60 (fun T => Q T ∧ K5 S0 T) v0 v2 S := by
  delta P_X7_reckonMinute_60 at h ⊢
  exact kg_X7_reckonMinute_62 h K
set_option maxRecDepth 20000 in
set_option maxHeartbeats 1000000 in
theorem kgB_X7_reckonMinute_2 {Q : HS → Prop} {X2 X2_2 : Nat → Int32 → Int32 → Int32 → HS → Prop} {v0 : Nat} {v1 : Int32} {v2 : Int32} {v3 : Int32} {S0 S : HS} (h : B_X7_reckonMinute_2 Q X2 v0 v1 v2 v3 S) (K : K5 S0 S) (hX2 : ∀ (u0 : Nat) (u1 : Int32) (u2 : Int32) (u3 : Int32) (u4 : HS), X2 u0 u1 u2 u3 u4 → K5 S0 u4 → X2_2 u0 u1 u2 u3 u4) : B_X7_reckonMinute_2 (fun T => Q T ∧ K5 S0 T) X2_2 v0 v1 v2 v3 S := by
  delta B_X7_reckonMinute_2 at h ⊢
  refine ⟨?_, ?_⟩
  · intro c1
    have h := h.1 c1
    exact kg_X7_reckonMinute_60 h K
  · intro c2
    have h := h.2 c2
    refine ⟨?_, ?_⟩
    · intro c3
      have h := h.1 c3
      exact kg_X7_reckonMinute_60 h K
    · intro c4
      have h := h.2 c4
      obtain ⟨c5, h⟩ := h
      refine ⟨c5, ?_⟩
      have n6 := k5_ne K c5
      obtain ⟨b7, e8, h⟩ := h
      refine ⟨b7, e8, ?_⟩
      intro x10 e9
      have h := h x10 e9
      refine ⟨?_, ?_⟩
      · intro c11
        have h := h.1 c11
        exact kg_X7_reckonMinute_40 h K hX2
      · intro c12
        have h := h.2 c12
        exact kg_X7_reckonMinute_40 h K hX2
theorem kg_X7_reckonMinute_2 {Q : HS → Prop} {v0 : Nat} {v1 : Int32} {v2 : Int32} {v3 : Int32} {S0 S : HS} (h : P_X7_reckonMinute_2 Q v0 v1 v2 v3 S) (K : K5 S0 S) : P_X7_reckonMinute_2 (fun T => Q T ∧ K5 S0 T) v0 v1 v2 v3 S := h (fun v0 v1 v2 v3 S => K5 S0 S → P_X7_reckonMinute_2 (fun T => Q T ∧ K5 S0 T) v0 v1 v2 v3 S) (fun v0 v1 v2 v3 S hB K => fd_X7_reckonMinute_2 (kgB_X7_reckonMinute_2 hB K (fun _ _ _ _ _ hx K => hx K))) K
set_option maxRecDepth 20000 in
set_option maxHeartbeats 1000000 in
theorem kg_X7_reckonMinute_0 {Q : HS → Prop} {v0 : Nat} {v1 : Int32} {v2 : Int32} {S0 S : HS} (h : P_X7_reckonMinute_0 Q v0 v1 v2 S) (K : K5 S0 S) : P_X7_reckonMinute_0 (fun T => Q T ∧ K5 S0 T) v0 v1 v2 S := by
  delta P_X7_reckonMinute_0 at h ⊢
  exact kg_X7_reckonMinute_2 h K
theorem kg_X7_reckonMinute {Q : HS → Prop} {v0 : Nat} {v1 : Int32} {v2 : Int32} {S : HS} (h : P_X7_reckonMinute v0 v1 v2 Q S) : P_X7_reckonMinute v0 v1 v2 (fun T => Q T ∧ K5 S T) S := kg_X7_reckonMinute_0 h (k5_rf S)
set_option maxRecDepth 20000 in
set_option maxHeartbeats 1000000 in
theorem kg_X8_hourOf_0 {Q : Int32 → HS → Prop} {v0 : Nat} {v1 : Int32} {S0 S : HS} (h : P_X8_hourOf_0 Q v0 v1 S) (K : K5 S0 S) : P_X8_hourOf_0 (fun r T => Q r T ∧ K5 S0 T) v0 v1 S := by
  delta P_X8_hourOf_0 at h ⊢
  obtain ⟨c1, h⟩ := h
  refine ⟨c1, ?_⟩
  have n2 := k5_ne K c1
  intro x4 e3
  have h := h x4 e3
  refine ⟨?_, ?_⟩
  · intro c5
    have h := h.1 c5
    exact ⟨h, K⟩
  · intro c6
    have h := h.2 c6
    intro x8 e7
    have h := h x8 e7
    obtain ⟨c9, h⟩ := h
    refine ⟨c9, ?_⟩
    intro x11 e10
    have h := h x11 e10
    exact ⟨h, K⟩
theorem kg_X8_hourOf {Q : Int32 → HS → Prop} {v0 : Nat} {v1 : Int32} {S : HS} (h : P_X8_hourOf v0 v1 Q S) : P_X8_hourOf v0 v1 (fun r T => Q r T ∧ K5 S T) S := kg_X8_hourOf_0 h (k5_rf S)
set_option maxRecDepth 20000 in
set_option maxHeartbeats 1000000 in
theorem kg_X7_reckon_120 {Q : HS → Prop} {X76 X76_2 : Nat → Nat → Nat → Int32 → Int32 → HS → Prop} {v0 : Nat} {v1 : Nat} {v2 : Nat} {v6 : Int32} {v7 : Int32} {S0 S : HS} (h : P_X7_reckon_120 Q X76 v0 v1 v2 v6 v7 S) (K : K5 S0 S) (hX76 : ∀ (u0 : Nat) (u1 : Nat) (u2 : Nat) (u3 : Int32) (u4 : Int32) (u5 : HS), X76 u0 u1 u2 u3 u4 u5 → K5 S0 u5 → X76_2 u0 u1 u2 u3 u4 u5) : P_X7_reckon_120 (fun T => Q T ∧ K5 S0 T) X76_2 v0 v1 v2 v6 v7 S := by
  delta P_X7_reckon_120 at h ⊢
  obtain ⟨c1, h⟩ := h
  refine ⟨c1, ?_⟩
  have n2 := k5_ne K c1
  intro x4 e3
  have h := h x4 e3
  obtain ⟨c5, h⟩ := h
  refine ⟨c5, ?_⟩
  have n6 := k5_ne K c5
  refine cm_X7_reckonMinute (kg_X7_reckonMinute h) h (fun x7 hp h g8 => ?_)
  have h := h g8
  have K := k5_tr K hp.2
  intro x10 e9
  have h := h x10 e9
  have K := k5_I K e9 n6 (by decide)
  intro x12 e11
  have h := h x12 e11
  exact hX76 _ _ _ _ _ _ h K
set_option maxRecDepth 20000 in
set_option maxHeartbeats 1000000 in
theorem kgB_X7_reckon_76 {Q : HS → Prop} {X76 X76_2 : Nat → Nat → Nat → Int32 → Int32 → HS → Prop} {v0 : Nat} {v1 : Nat} {v2 : Nat} {v6 : Int32} {v7 : Int32} {S0 S : HS} (h : B_X7_reckon_76 Q X76 v0 v1 v2 v6 v7 S) (K : K5 S0 S) (hX76 : ∀ (u0 : Nat) (u1 : Nat) (u2 : Nat) (u3 : Int32) (u4 : Int32) (u5 : HS), X76 u0 u1 u2 u3 u4 u5 → K5 S0 u5 → X76_2 u0 u1 u2 u3 u4 u5) : B_X7_reckon_76 (fun T => Q T ∧ K5 S0 T) X76_2 v0 v1 v2 v6 v7 S := by
  delta B_X7_reckon_76 at h ⊢
  refine ⟨?_, ?_⟩
  · intro c1
    have h := h.1 c1
    exact ⟨h, K⟩
  · intro c2
    have h := h.2 c2
    refine ⟨?_, ?_⟩
    · intro c3
      have h := h.1 c3
      exact ⟨h, K⟩
    · intro c4
      have h := h.2 c4
      obtain ⟨c5, h⟩ := h
      refine ⟨c5, ?_⟩
      have n6 := k5_ne K c5
      refine cm_X8_hourOf (kg_X8_hourOf h) h (fun x7 x8 hp h g9 => ?_)
      have h := h g9
      have K := k5_tr K hp.2
      intro x11 e10
      have h := h x11 e10
      intro x13 e12
      have h := h x13 e12
      obtain ⟨c14, h⟩ := h
      refine ⟨c14, ?_⟩
      have n15 := k5_ne K c14
      intro x17 e16
      have h := h x17 e16
      refine ⟨?_, ?_⟩
      · intro c18
        have h := h.1 c18
        exact kg_X7_reckon_120 h K hX76
      · intro c19
        have h := h.2 c19
        refine cm_X7_price (kg_X7_price h) h (fun x20 hp h g21 => ?_)
        have h := h g21
        have K := k5_tr K hp.2
        exact kg_X7_reckon_120 h K hX76
theorem kg_X7_reckon_76 {Q : HS → Prop} {v0 : Nat} {v1 : Nat} {v2 : Nat} {v6 : Int32} {v7 : Int32} {S0 S : HS} (h : P_X7_reckon_76 Q v0 v1 v2 v6 v7 S) (K : K5 S0 S) : P_X7_reckon_76 (fun T => Q T ∧ K5 S0 T) v0 v1 v2 v6 v7 S := h (fun v0 v1 v2 v6 v7 S => K5 S0 S → P_X7_reckon_76 (fun T => Q T ∧ K5 S0 T) v0 v1 v2 v6 v7 S) (fun v0 v1 v2 v6 v7 S hB K => fd_X7_reckon_76 (kgB_X7_reckon_76 hB K (fun _ _ _ _ _ _ hx K => hx K))) K
set_option maxRecDepth 20000 in
set_option maxHeartbeats 1000000 in
theorem kg_X7_reckon_68 {Q : HS → Prop} {v0 : Nat} {v1 : Nat} {v2 : Nat} {v6 : Int32} {S0 S : HS} (h : P_X7_reckon_68 Q v0 v1 v2 v6 S) (K : K5 S0 S) : P_X7_reckon_68 (fun T => Q T ∧ K5 S0 T) v0 v1 v2 v6 S := by
  delta P_X7_reckon_68 at h ⊢
  obtain ⟨c1, h⟩ := h
  refine ⟨c1, ?_⟩
  have n2 := k5_ne K c1
  intro x4 e3
  have h := h x4 e3
  intro x6 e5
  have h := h x6 e5
  exact kg_X7_reckon_76 h K
set_option maxRecDepth 20000 in
set_option maxHeartbeats 1000000 in
theorem kg_X7_reckon_38 {Q : HS → Prop} {v0 : Nat} {v1 : Nat} {v2 : Nat} {v3 : Int32} {v4 : Int32} {v5 : Int32} {v6 : Int32} {S0 S : HS} (h : P_X7_reckon_38 Q v0 v1 v2 v3 v4 v5 v6 S) (K : K5 S0 S) : P_X7_reckon_38 (fun T => Q T ∧ K5 S0 T) v0 v1 v2 v3 v4 v5 v6 S := by
  delta P_X7_reckon_38 at h ⊢
  obtain ⟨c1, h⟩ := h
  refine ⟨c1, ?_⟩
  have n2 := k5_ne K c1
  intro x4 e3
  have h := h x4 e3
  have K := k5_I K e3 n2 (by decide)
  intro x6 e5
  have h := h x6 e5
  have K := k5_I K e5 n2 (by decide)
  intro x8 e7
  have h := h x8 e7
  have K := k5_I K e7 n2 (by decide)
  intro x10 e9
  have h := h x10 e9
  intro x12 e11
  have h := h x12 e11
  have K := k5_I K e11 n2 (by decide)
  intro x14 e13
  have h := h x14 e13
  have K := k5_I K e13 n2 (by decide)
  exact kg_X7_reckon_68 h K
set_option maxRecDepth 20000 in
set_option maxHeartbeats 1000000 in
theorem kg_X7_reckon_12 {Q : HS → Prop} {v0 : Nat} {v1 : Nat} {v2 : Nat} {v3 : Int32} {v4 : Int32} {v5 : Int32} {v6 : Int32} {S0 S : HS} (h : P_X7_reckon_12 Q v0 v1 v2 v3 v4 v5 v6 S) (K : K5 S0 S) : P_X7_reckon_12 (fun T => Q T ∧ K5 S0 T) v0 v1 v2 v3 v4 v5 v6 S := by
  delta P_X7_reckon_12 at h ⊢
  obtain ⟨c1, h⟩ := h
  refine ⟨c1, ?_⟩
  have n2 := k5_ne K c1
  intro x4 e3
  have h := h x4 e3
  refine ⟨?_, ?_⟩
  · intro c5
    have h := h.1 c5
    exact kg_X7_reckon_38 h K
  · intro c6
    have h := h.2 c6
    intro x8 e7
    have h := h x8 e7
    refine ⟨?_, ?_⟩
    · intro c9
      have h := h.1 c9
      exact kg_X7_reckon_38 h K
    · intro c10
      have h := h.2 c10
      intro x12 e11
      have h := h x12 e11
      refine ⟨?_, ?_⟩
      · intro c13
        have h := h.1 c13
        exact kg_X7_reckon_68 h K
      · intro c14
        have h := h.2 c14
        exact kg_X7_reckon_38 h K
set_option maxRecDepth 20000 in
set_option maxHeartbeats 1000000 in
theorem kg_X7_reckon_0 {Q : HS → Prop} {v0 : Nat} {v1 : Nat} {v2 : Nat} {v3 : Int32} {v4 : Int32} {v5 : Int32} {v6 : Int32} {S0 S : HS} (h : P_X7_reckon_0 Q v0 v1 v2 v3 v4 v5 v6 S) (K : K5 S0 S) : P_X7_reckon_0 (fun T => Q T ∧ K5 S0 T) v0 v1 v2 v3 v4 v5 v6 S := by
  delta P_X7_reckon_0 at h ⊢
  obtain ⟨c1, h⟩ := h
  refine ⟨c1, ?_⟩
  have n2 := k5_ne K c1
  obtain ⟨b3, e4, h⟩ := h
  refine ⟨b3, e4, ?_⟩
  obtain ⟨c5, h⟩ := h
  refine ⟨c5, ?_⟩
  have n6 := k5_ne K c5
  refine ⟨?_, ?_⟩
  · intro c7
    have h := h.1 c7
    exact kg_X7_reckon_12 h K
  · intro c8
    have h := h.2 c8
    refine cm_X7_makeRows (kg_X7_makeRows h) h (fun x9 hp h g10 => ?_)
    have h := h g10
    have K := k5_tr K hp.2
    exact kg_X7_reckon_12 h K
theorem kg_X7_reckon {Q : HS → Prop} {v0 : Nat} {v1 : Nat} {v2 : Nat} {v3 : Int32} {v4 : Int32} {v5 : Int32} {v6 : Int32} {S : HS} (h : P_X7_reckon v0 v1 v2 v3 v4 v5 v6 Q S) : P_X7_reckon v0 v1 v2 v3 v4 v5 v6 (fun T => Q T ∧ K5 S T) S := kg_X7_reckon_0 h (k5_rf S)
set_option maxRecDepth 20000 in
set_option maxHeartbeats 1000000 in
theorem kg_X7_trace_143 {Q : Int32 → HS → Prop} {X9 X9_2 : Nat → Nat → Int32 → Int32 → Int32 → HS → Prop} {v0 : Nat} {v1 : Nat} {v4 : Int32} {v5 : Int32} {v6 : Int32} {S0 S : HS} (h : P_X7_trace_143 Q X9 v0 v1 v4 v5 v6 S) (K : K5 S0 S) (hX9 : ∀ (u0 : Nat) (u1 : Nat) (u2 : Int32) (u3 : Int32) (u4 : Int32) (u5 : HS), X9 u0 u1 u2 u3 u4 u5 → K5 S0 u5 → X9_2 u0 u1 u2 u3 u4 u5) : P_X7_trace_143 (fun r T => Q r T ∧ K5 S0 T) X9_2 v0 v1 v4 v5 v6 S := by
  delta P_X7_trace_143 at h ⊢
  intro x2 e1
  have h := h x2 e1
  exact hX9 _ _ _ _ _ _ h K
set_option maxRecDepth 20000 in
set_option maxHeartbeats 1000000 in
theorem kg_X7_trace_56 {Q : Int32 → HS → Prop} {X9 X9_2 : Nat → Nat → Int32 → Int32 → Int32 → HS → Prop} {v0 : Nat} {v1 : Nat} {v4 : Int32} {v5 : Int32} {v6 : Int32} {s0 : Int32} {S0 S : HS} (h : P_X7_trace_56 Q X9 v0 v1 v4 v5 v6 s0 S) (K : K5 S0 S) (hX9 : ∀ (u0 : Nat) (u1 : Nat) (u2 : Int32) (u3 : Int32) (u4 : Int32) (u5 : HS), X9 u0 u1 u2 u3 u4 u5 → K5 S0 u5 → X9_2 u0 u1 u2 u3 u4 u5) : P_X7_trace_56 (fun r T => Q r T ∧ K5 S0 T) X9_2 v0 v1 v4 v5 v6 s0 S := by
  delta P_X7_trace_56 at h ⊢
  refine ⟨?_, ?_⟩
  · intro c1
    have h := h.1 c1
    obtain ⟨c2, h⟩ := h
    refine ⟨c2, ?_⟩
    have n3 := k5_ne K c2
    obtain ⟨b4, e5, h⟩ := h
    refine ⟨b4, e5, ?_⟩
    obtain ⟨c6, h⟩ := h
    refine ⟨c6, ?_⟩
    have n7 := k5_ne K c6
    obtain ⟨c8, h⟩ := h
    refine ⟨c8, ?_⟩
    intro x10 e9
    have h := h x10 e9
    have K := k5_A K e9 n7 (by decide)
    refine ⟨?_, ?_⟩
    · intro c11
      have h := h.1 c11
      intro x13 e12
      have h := h x13 e12
      obtain ⟨c14, h⟩ := h
      refine ⟨c14, ?_⟩
      have n15 := k5_ne K c14
      refine cm_X8_hasRoad (kg_X8_hasRoad h) h (fun x16 x17 hp h g18 g19 => ?_)
      have h := h g18 g19
      have K := k5_tr K hp.2
      refine ⟨?_, ?_⟩
      · intro c20
        have h := h.1 c20
        exact kg_X7_trace_143 h K hX9
      · intro c21
        have h := h.2 c21
        obtain ⟨b22, e23, h⟩ := h
        refine ⟨b22, e23, ?_⟩
        intro x25 e24
        have h := h x25 e24
        obtain ⟨c26, h⟩ := h
        refine ⟨c26, ?_⟩
        have n27 := k5_ne K c26
        obtain ⟨c28, h⟩ := h
        refine ⟨c28, ?_⟩
        obtain ⟨b29, e30, h⟩ := h
        refine ⟨b29, e30, ?_⟩
        intro x32 e31
        have h := h x32 e31
        intro x34 e33
        have h := h x34 e33
        obtain ⟨c35, h⟩ := h
        refine ⟨c35, ?_⟩
        have n36 := k5_ne K c35
        refine cm_X5_endOf (kg_X5_endOf h) h (fun x37 x38 hp h g39 => ?_)
        have h := h g39
        have K := k5_tr K hp.2
        intro x41 e40
        have h := h x41 e40
        refine cm_X5_minutesAt (kg_X5_minutesAt h) h (fun x42 x43 hp h g44 => ?_)
        have h := h g44
        have K := k5_tr K hp.2
        intro x46 e45
        have h := h x46 e45
        exact kg_X7_trace_143 h K hX9
    · intro c47
      have h := h.2 c47
      intro x49 e48
      have h := h x49 e48
      exact kg_X7_trace_143 h K hX9
  · intro c50
    have h := h.2 c50
    exact ⟨h, K⟩
set_option maxRecDepth 20000 in
set_option maxHeartbeats 1000000 in
theorem kg_X7_trace_55 {Q : Int32 → HS → Prop} {X9 X9_2 : Nat → Nat → Int32 → Int32 → Int32 → HS → Prop} {v0 : Nat} {v1 : Nat} {v4 : Int32} {v5 : Int32} {v6 : Int32} {S0 S : HS} (h : P_X7_trace_55 Q X9 v0 v1 v4 v5 v6 S) (K : K5 S0 S) (hX9 : ∀ (u0 : Nat) (u1 : Nat) (u2 : Int32) (u3 : Int32) (u4 : Int32) (u5 : HS), X9 u0 u1 u2 u3 u4 u5 → K5 S0 u5 → X9_2 u0 u1 u2 u3 u4 u5) : P_X7_trace_55 (fun r T => Q r T ∧ K5 S0 T) X9_2 v0 v1 v4 v5 v6 S := by
  delta P_X7_trace_55 at h ⊢
  exact kg_X7_trace_56 h K hX9
set_option maxRecDepth 20000 in
set_option maxHeartbeats 1000000 in
theorem kgB_X7_trace_9 {Q : Int32 → HS → Prop} {X9 X9_2 : Nat → Nat → Int32 → Int32 → Int32 → HS → Prop} {v0 : Nat} {v1 : Nat} {v4 : Int32} {v5 : Int32} {v6 : Int32} {S0 S : HS} (h : B_X7_trace_9 Q X9 v0 v1 v4 v5 v6 S) (K : K5 S0 S) (hX9 : ∀ (u0 : Nat) (u1 : Nat) (u2 : Int32) (u3 : Int32) (u4 : Int32) (u5 : HS), X9 u0 u1 u2 u3 u4 u5 → K5 S0 u5 → X9_2 u0 u1 u2 u3 u4 u5) : B_X7_trace_9 (fun r T => Q r T ∧ K5 S0 T) X9_2 v0 v1 v4 v5 v6 S := by
  delta B_X7_trace_9 at h ⊢
  obtain ⟨c1, h⟩ := h
  refine ⟨c1, ?_⟩
  have n2 := k5_ne K c1
  obtain ⟨b3, e4, h⟩ := h
  refine ⟨b3, e4, ?_⟩
  obtain ⟨c5, h⟩ := h
  refine ⟨c5, ?_⟩
  have n6 := k5_ne K c5
  refine ⟨?_, ?_⟩
  · intro c7
    have h := h.1 c7
    obtain ⟨b8, e9, h⟩ := h
    refine ⟨b8, e9, ?_⟩
    obtain ⟨c10, h⟩ := h
    refine ⟨c10, ?_⟩
    have n11 := k5_ne K c10
    exact ⟨h, K⟩
  · intro c12
    have h := h.2 c12
    intro x14 e13
    have h := h x14 e13
    refine ⟨?_, ?_⟩
    · intro c15
      have h := h.1 c15
      exact kg_X7_trace_55 h K hX9
    · intro c16
      have h := h.2 c16
      obtain ⟨b17, e18, h⟩ := h
      refine ⟨b17, e18, ?_⟩
      obtain ⟨c19, h⟩ := h
      refine ⟨c19, ?_⟩
      have n20 := k5_ne K c19
      refine ⟨?_, ?_⟩
      · intro c21
        have h := h.1 c21
        exact kg_X7_trace_55 h K hX9
      · intro c22
        have h := h.2 c22
        obtain ⟨b23, e24, h⟩ := h
        refine ⟨b23, e24, ?_⟩
        obtain ⟨c25, h⟩ := h
        refine ⟨c25, ?_⟩
        have n26 := k5_ne K c25
        obtain ⟨c27, h⟩ := h
        refine ⟨c27, ?_⟩
        intro x29 e28
        have h := h x29 e28
        exact kg_X7_trace_56 h K hX9
theorem kg_X7_trace_9 {Q : Int32 → HS → Prop} {v0 : Nat} {v1 : Nat} {v4 : Int32} {v5 : Int32} {v6 : Int32} {S0 S : HS} (h : P_X7_trace_9 Q v0 v1 v4 v5 v6 S) (K : K5 S0 S) : P_X7_trace_9 (fun r T => Q r T ∧ K5 S0 T) v0 v1 v4 v5 v6 S := h (fun v0 v1 v4 v5 v6 S => K5 S0 S → P_X7_trace_9 (fun r T => Q r T ∧ K5 S0 T) v0 v1 v4 v5 v6 S) (fun v0 v1 v4 v5 v6 S hB K => fd_X7_trace_9 (kgB_X7_trace_9 hB K (fun _ _ _ _ _ _ hx K => hx K))) K
set_option maxRecDepth 20000 in
set_option maxHeartbeats 1000000 in
theorem kg_X7_trace_0 {Q : Int32 → HS → Prop} {v0 : Nat} {v1 : Nat} {v2 : Int32} {v3 : Int32} {S0 S : HS} (h : P_X7_trace_0 Q v0 v1 v2 v3 S) (K : K5 S0 S) : P_X7_trace_0 (fun r T => Q r T ∧ K5 S0 T) v0 v1 v2 v3 S := by
  delta P_X7_trace_0 at h ⊢
  exact kg_X7_trace_9 h K
theorem kg_X7_trace {Q : Int32 → HS → Prop} {v0 : Nat} {v1 : Nat} {v2 : Int32} {v3 : Int32} {S : HS} (h : P_X7_trace v0 v1 v2 v3 Q S) : P_X7_trace v0 v1 v2 v3 (fun r T => Q r T ∧ K5 S T) S := kg_X7_trace_0 h (k5_rf S)
set_option maxRecDepth 20000 in
set_option maxHeartbeats 1000000 in
theorem kg_X9_isWay_0 {Q : Int32 → HS → Prop} {v0 : Int32} {S0 S : HS} (h : P_X9_isWay_0 Q v0 S) (K : K5 S0 S) : P_X9_isWay_0 (fun r T => Q r T ∧ K5 S0 T) v0 S := by
  delta P_X9_isWay_0 at h ⊢
  refine ⟨?_, ?_⟩
  · intro c1
    have h := h.1 c1
    exact ⟨h, K⟩
  · intro c2
    have h := h.2 c2
    refine ⟨?_, ?_⟩
    · intro c3
      have h := h.1 c3
      exact ⟨h, K⟩
    · intro c4
      have h := h.2 c4
      exact ⟨h, K⟩
theorem kg_X9_isWay {Q : Int32 → HS → Prop} {v0 : Int32} {S : HS} (h : P_X9_isWay v0 Q S) : P_X9_isWay v0 (fun r T => Q r T ∧ K5 S T) S := kg_X9_isWay_0 h (k5_rf S)
set_option maxRecDepth 20000 in
set_option maxHeartbeats 1000000 in
theorem kg_X9_tripTrouble_46 {Q : Int32 → HS → Prop} {s0 : Int32} {S0 S : HS} (h : P_X9_tripTrouble_46 Q s0 S) (K : K5 S0 S) : P_X9_tripTrouble_46 (fun r T => Q r T ∧ K5 S0 T) s0 S := by
  delta P_X9_tripTrouble_46 at h ⊢
  refine ⟨?_, ?_⟩
  · intro c1
    have h := h.1 c1
    exact ⟨h, K⟩
  · intro c2
    have h := h.2 c2
    exact ⟨h, K⟩
set_option maxRecDepth 20000 in
set_option maxHeartbeats 1000000 in
theorem kg_X9_tripTrouble_45 {Q : Int32 → HS → Prop} {S0 S : HS} (h : P_X9_tripTrouble_45 Q S) (K : K5 S0 S) : P_X9_tripTrouble_45 (fun r T => Q r T ∧ K5 S0 T) S := by
  delta P_X9_tripTrouble_45 at h ⊢
  exact kg_X9_tripTrouble_46 h K
set_option maxRecDepth 20000 in
set_option maxHeartbeats 1000000 in
theorem kg_X9_tripTrouble_0 {Q : Int32 → HS → Prop} {v0 : Nat} {v1 : Int32} {v2 : Int32} {v3 : Int32} {v4 : Int32} {S0 S : HS} (h : P_X9_tripTrouble_0 Q v0 v1 v2 v3 v4 S) (K : K5 S0 S) : P_X9_tripTrouble_0 (fun r T => Q r T ∧ K5 S0 T) v0 v1 v2 v3 v4 S := by
  delta P_X9_tripTrouble_0 at h ⊢
  obtain ⟨c1, h⟩ := h
  refine ⟨c1, ?_⟩
  have n2 := k5_ne K c1
  obtain ⟨b3, e4, h⟩ := h
  refine ⟨b3, e4, ?_⟩
  obtain ⟨c5, h⟩ := h
  refine ⟨c5, ?_⟩
  have n6 := k5_ne K c5
  refine cm_X8_hasWalker (kg_X8_hasWalker h) h (fun x7 x8 hp h g9 g10 => ?_)
  have h := h g9 g10
  have K := k5_tr K hp.2
  refine ⟨?_, ?_⟩
  · intro c11
    have h := h.1 c11
    exact kg_X9_tripTrouble_45 h K
  · intro c12
    have h := h.2 c12
    obtain ⟨b13, e14, h⟩ := h
    refine ⟨b13, e14, ?_⟩
    obtain ⟨c15, h⟩ := h
    refine ⟨c15, ?_⟩
    have n16 := k5_ne K c15
    refine cm_X8_hasRoad (kg_X8_hasRoad h) h (fun x17 x18 hp h g19 g20 => ?_)
    have h := h g19 g20
    have K := k5_tr K hp.2
    refine ⟨?_, ?_⟩
    · intro c21
      have h := h.1 c21
      exact kg_X9_tripTrouble_45 h K
    · intro c22
      have h := h.2 c22
      refine cm_X9_isWay (kg_X9_isWay h) h (fun x23 x24 hp h g25 g26 => ?_)
      have h := h g25 g26
      have K := k5_tr K hp.2
      refine ⟨?_, ?_⟩
      · intro c27
        have h := h.1 c27
        exact kg_X9_tripTrouble_45 h K
      · intro c28
        have h := h.2 c28
        obtain ⟨b29, e30, h⟩ := h
        refine ⟨b29, e30, ?_⟩
        obtain ⟨c31, h⟩ := h
        refine ⟨c31, ?_⟩
        have n32 := k5_ne K c31
        refine cm_X8_hasHour (kg_X8_hasHour h) h (fun x33 x34 hp h g35 g36 => ?_)
        have h := h g35 g36
        have K := k5_tr K hp.2
        refine ⟨?_, ?_⟩
        · intro c37
          have h := h.1 c37
          exact kg_X9_tripTrouble_45 h K
        · intro c38
          have h := h.2 c38
          exact kg_X9_tripTrouble_46 h K
theorem kg_X9_tripTrouble {Q : Int32 → HS → Prop} {v0 : Nat} {v1 : Int32} {v2 : Int32} {v3 : Int32} {v4 : Int32} {S : HS} (h : P_X9_tripTrouble v0 v1 v2 v3 v4 Q S) : P_X9_tripTrouble v0 v1 v2 v3 v4 (fun r T => Q r T ∧ K5 S T) S := kg_X9_tripTrouble_0 h (k5_rf S)
set_option maxRecDepth 20000 in
set_option maxHeartbeats 1000000 in
theorem kg_X9_coatParts_0 {Q : Int64 → HS → Prop} {v0 : Nat} {S0 S : HS} (h : P_X9_coatParts_0 Q v0 S) (K : K5 S0 S) : P_X9_coatParts_0 (fun r T => Q r T ∧ K5 S0 T) v0 S := by
  delta P_X9_coatParts_0 at h ⊢
  obtain ⟨c1, h⟩ := h
  refine ⟨c1, ?_⟩
  have n2 := k5_ne K c1
  intro x4 e3
  have h := h x4 e3
  refine ⟨?_, ?_⟩
  · intro c5
    have h := h.1 c5
    exact ⟨h, K⟩
  · intro c6
    have h := h.2 c6
    intro x8 e7
    have h := h x8 e7
    exact ⟨h, K⟩
theorem kg_X9_coatParts {Q : Int64 → HS → Prop} {v0 : Nat} {S : HS} (h : P_X9_coatParts v0 Q S) : P_X9_coatParts v0 (fun r T => Q r T ∧ K5 S T) S := kg_X9_coatParts_0 h (k5_rf S)
set_option maxRecDepth 20000 in
set_option maxHeartbeats 1000000 in
theorem kgB_X9_commonDivisor_9 {Q : Int64 → HS → Prop} {X9 X9_2 : Int64 → Int64 → Int32 → HS → Prop} {v4 : Int64} {v6 : Int64} {v8 : Int32} {S0 S : HS} (h : B_X9_commonDivisor_9 Q X9 v4 v6 v8 S) (K : K5 S0 S) (hX9 : ∀ (u0 : Int64) (u1 : Int64) (u2 : Int32) (u3 : HS), X9 u0 u1 u2 u3 → K5 S0 u3 → X9_2 u0 u1 u2 u3) : B_X9_commonDivisor_9 (fun r T => Q r T ∧ K5 S0 T) X9_2 v4 v6 v8 S := by
  delta B_X9_commonDivisor_9 at h ⊢
  refine ⟨?_, ?_⟩
  · intro c1
    have h := h.1 c1
    exact ⟨h, K⟩
  · intro c2
    have h := h.2 c2
    refine ⟨?_, ?_⟩
    · intro c3
      have h := h.1 c3
      exact ⟨h, K⟩
    · intro c4
      have h := h.2 c4
      obtain ⟨c5, h⟩ := h
      refine ⟨c5, ?_⟩
      intro x7 e6
      have h := h x7 e6
      intro x9 e8
      have h := h x9 e8
      exact hX9 _ _ _ _ h K
theorem kg_X9_commonDivisor_9 {Q : Int64 → HS → Prop} {v4 : Int64} {v6 : Int64} {v8 : Int32} {S0 S : HS} (h : P_X9_commonDivisor_9 Q v4 v6 v8 S) (K : K5 S0 S) : P_X9_commonDivisor_9 (fun r T => Q r T ∧ K5 S0 T) v4 v6 v8 S := h (fun v4 v6 v8 S => K5 S0 S → P_X9_commonDivisor_9 (fun r T => Q r T ∧ K5 S0 T) v4 v6 v8 S) (fun v4 v6 v8 S hB K => fd_X9_commonDivisor_9 (kgB_X9_commonDivisor_9 hB K (fun _ _ _ _ hx K => hx K))) K
set_option maxRecDepth 20000 in
set_option maxHeartbeats 1000000 in
theorem kg_X9_commonDivisor_0 {Q : Int64 → HS → Prop} {v0 : Int64} {v2 : Int64} {S0 S : HS} (h : P_X9_commonDivisor_0 Q v0 v2 S) (K : K5 S0 S) : P_X9_commonDivisor_0 (fun r T => Q r T ∧ K5 S0 T) v0 v2 S := by
  delta P_X9_commonDivisor_0 at h ⊢
  exact kg_X9_commonDivisor_9 h K
theorem kg_X9_commonDivisor {Q : Int64 → HS → Prop} {v0 : Int64} {v2 : Int64} {S : HS} (h : P_X9_commonDivisor v0 v2 Q S) : P_X9_commonDivisor v0 v2 (fun r T => Q r T ∧ K5 S T) S := kg_X9_commonDivisor_0 h (k5_rf S)
set_option maxRecDepth 20000 in
set_option maxHeartbeats 1000000 in
theorem kg_X9_fraction_0 {Q : Int64 → HS → Prop} {v0 : Int64} {v2 : Int64} {v4 : Int32} {S0 S : HS} (h : P_X9_fraction_0 Q v0 v2 v4 S) (K : K5 S0 S) : P_X9_fraction_0 (fun r T => Q r T ∧ K5 S0 T) v0 v2 v4 S := by
  delta P_X9_fraction_0 at h ⊢
  refine cm_X9_commonDivisor (kg_X9_commonDivisor h) h (fun x1 x2 hp h g3 => ?_)
  have h := h g3
  have K := k5_tr K hp.2
  refine ⟨?_, ?_⟩
  · intro c4
    have h := h.1 c4
    refine ⟨?_, ?_⟩
    · intro c5
      have h := h.1 c5
      obtain ⟨c6, h⟩ := h
      refine ⟨c6, ?_⟩
      intro x8 e7
      have h := h x8 e7
      exact ⟨h, K⟩
    · intro c9
      have h := h.2 c9
      obtain ⟨c10, h⟩ := h
      refine ⟨c10, ?_⟩
      intro x12 e11
      have h := h x12 e11
      exact ⟨h, K⟩
  · intro c13
    have h := h.2 c13
    refine ⟨?_, ?_⟩
    · intro c14
      have h := h.1 c14
      exact ⟨h, K⟩
    · intro c15
      have h := h.2 c15
      exact ⟨h, K⟩
theorem kg_X9_fraction {Q : Int64 → HS → Prop} {v0 : Int64} {v2 : Int64} {v4 : Int32} {S : HS} (h : P_X9_fraction v0 v2 v4 Q S) : P_X9_fraction v0 v2 v4 (fun r T => Q r T ∧ K5 S T) S := kg_X9_fraction_0 h (k5_rf S)
set_option maxRecDepth 20000 in
set_option maxHeartbeats 1000000 in
theorem kg_X9_isFace_0 {Q : Int32 → HS → Prop} {v0 : Int32} {S0 S : HS} (h : P_X9_isFace_0 Q v0 S) (K : K5 S0 S) : P_X9_isFace_0 (fun r T => Q r T ∧ K5 S0 T) v0 S := by
  delta P_X9_isFace_0 at h ⊢
  refine ⟨?_, ?_⟩
  · intro c1
    have h := h.1 c1
    exact ⟨h, K⟩
  · intro c2
    have h := h.2 c2
    refine ⟨?_, ?_⟩
    · intro c3
      have h := h.1 c3
      exact ⟨h, K⟩
    · intro c4
      have h := h.2 c4
      exact ⟨h, K⟩
theorem kg_X9_isFace {Q : Int32 → HS → Prop} {v0 : Int32} {S : HS} (h : P_X9_isFace v0 Q S) : P_X9_isFace v0 (fun r T => Q r T ∧ K5 S T) S := kg_X9_isFace_0 h (k5_rf S)
set_option maxRecDepth 20000 in
set_option maxHeartbeats 1000000 in
theorem kg_X9_legTrouble_0 {Q : Int32 → HS → Prop} {v0 : Nat} {v1 : Int32} {v2 : Int32} {v3 : Int32} {v4 : Int32} {v5 : Int32} {S0 S : HS} (h : P_X9_legTrouble_0 Q v0 v1 v2 v3 v4 v5 S) (K : K5 S0 S) : P_X9_legTrouble_0 (fun r T => Q r T ∧ K5 S0 T) v0 v1 v2 v3 v4 v5 S := by
  delta P_X9_legTrouble_0 at h ⊢
  obtain ⟨c1, h⟩ := h
  refine ⟨c1, ?_⟩
  have n2 := k5_ne K c1
  refine cm_X9_tripTrouble (kg_X9_tripTrouble h) h (fun x3 x4 hp h g5 => ?_)
  have h := h g5
  have K := k5_tr K hp.2
  refine ⟨?_, ?_⟩
  · intro c6
    have h := h.1 c6
    obtain ⟨b7, e8, h⟩ := h
    refine ⟨b7, e8, ?_⟩
    obtain ⟨c9, h⟩ := h
    refine ⟨c9, ?_⟩
    have n10 := k5_ne K c9
    obtain ⟨b11, e12, h⟩ := h
    refine ⟨b11, e12, ?_⟩
    obtain ⟨c13, h⟩ := h
    refine ⟨c13, ?_⟩
    have n14 := k5_ne K c13
    obtain ⟨c15, h⟩ := h
    refine ⟨c15, ?_⟩
    obtain ⟨b16, e17, h⟩ := h
    refine ⟨b16, e17, ?_⟩
    obtain ⟨c18, h⟩ := h
    refine ⟨c18, ?_⟩
    have n19 := k5_ne K c18
    refine cm_X6_canGo (kg_X6_canGo h) h (fun x20 x21 hp h g22 g23 => ?_)
    have h := h g22 g23
    have K := k5_tr K hp.2
    refine ⟨?_, ?_⟩
    · intro c24
      have h := h.1 c24
      exact ⟨h, K⟩
    · intro c25
      have h := h.2 c25
      exact ⟨h, K⟩
  · intro c26
    have h := h.2 c26
    exact ⟨h, K⟩
theorem kg_X9_legTrouble {Q : Int32 → HS → Prop} {v0 : Nat} {v1 : Int32} {v2 : Int32} {v3 : Int32} {v4 : Int32} {v5 : Int32} {S : HS} (h : P_X9_legTrouble v0 v1 v2 v3 v4 v5 Q S) : P_X9_legTrouble v0 v1 v2 v3 v4 v5 (fun r T => Q r T ∧ K5 S T) S := kg_X9_legTrouble_0 h (k5_rf S)
set_option maxRecDepth 20000 in
set_option maxHeartbeats 1000000 in
theorem kg_X9_leeTrouble_0 {Q : Int32 → HS → Prop} {v0 : Nat} {v1 : Int32} {v2 : Int32} {v3 : Int32} {v4 : Int32} {v5 : Int32} {v6 : Int32} {S0 S : HS} (h : P_X9_leeTrouble_0 Q v0 v1 v2 v3 v4 v5 v6 S) (K : K5 S0 S) : P_X9_leeTrouble_0 (fun r T => Q r T ∧ K5 S0 T) v0 v1 v2 v3 v4 v5 v6 S := by
  delta P_X9_leeTrouble_0 at h ⊢
  refine ⟨?_, ?_⟩
  · intro c1
    have h := h.1 c1
    exact ⟨h, K⟩
  · intro c2
    have h := h.2 c2
    obtain ⟨c3, h⟩ := h
    refine ⟨c3, ?_⟩
    have n4 := k5_ne K c3
    obtain ⟨b5, e6, h⟩ := h
    refine ⟨b5, e6, ?_⟩
    obtain ⟨c7, h⟩ := h
    refine ⟨c7, ?_⟩
    have n8 := k5_ne K c7
    refine cm_X8_hasWalker (kg_X8_hasWalker h) h (fun x9 x10 hp h g11 g12 => ?_)
    have h := h g11 g12
    have K := k5_tr K hp.2
    refine ⟨?_, ?_⟩
    · intro c13
      have h := h.1 c13
      exact ⟨h, K⟩
    · intro c14
      have h := h.2 c14
      obtain ⟨b15, e16, h⟩ := h
      refine ⟨b15, e16, ?_⟩
      obtain ⟨c17, h⟩ := h
      refine ⟨c17, ?_⟩
      have n18 := k5_ne K c17
      refine cm_X8_hasWalker (kg_X8_hasWalker h) h (fun x19 x20 hp h g21 g22 => ?_)
      have h := h g21 g22
      have K := k5_tr K hp.2
      refine ⟨?_, ?_⟩
      · intro c23
        have h := h.1 c23
        refine cm_X9_legTrouble (kg_X9_legTrouble h) h (fun x24 x25 hp h g26 => ?_)
        have h := h g26
        have K := k5_tr K hp.2
        refine ⟨?_, ?_⟩
        · intro c27
          have h := h.1 c27
          obtain ⟨b28, e29, h⟩ := h
          refine ⟨b28, e29, ?_⟩
          obtain ⟨c30, h⟩ := h
          refine ⟨c30, ?_⟩
          have n31 := k5_ne K c30
          obtain ⟨b32, e33, h⟩ := h
          refine ⟨b32, e33, ?_⟩
          obtain ⟨c34, h⟩ := h
          refine ⟨c34, ?_⟩
          have n35 := k5_ne K c34
          obtain ⟨c36, h⟩ := h
          refine ⟨c36, ?_⟩
          obtain ⟨b37, e38, h⟩ := h
          refine ⟨b37, e38, ?_⟩
          obtain ⟨c39, h⟩ := h
          refine ⟨c39, ?_⟩
          have n40 := k5_ne K c39
          refine cm_X6_canGo (kg_X6_canGo h) h (fun x41 x42 hp h g43 g44 => ?_)
          have h := h g43 g44
          have K := k5_tr K hp.2
          refine ⟨?_, ?_⟩
          · intro c45
            have h := h.1 c45
            exact ⟨h, K⟩
          · intro c46
            have h := h.2 c46
            exact ⟨h, K⟩
        · intro c47
          have h := h.2 c47
          exact ⟨h, K⟩
      · intro c48
        have h := h.2 c48
        exact ⟨h, K⟩
theorem kg_X9_leeTrouble {Q : Int32 → HS → Prop} {v0 : Nat} {v1 : Int32} {v2 : Int32} {v3 : Int32} {v4 : Int32} {v5 : Int32} {v6 : Int32} {S : HS} (h : P_X9_leeTrouble v0 v1 v2 v3 v4 v5 v6 Q S) : P_X9_leeTrouble v0 v1 v2 v3 v4 v5 v6 (fun r T => Q r T ∧ K5 S T) S := kg_X9_leeTrouble_0 h (k5_rf S)
set_option maxRecDepth 20000 in
set_option maxHeartbeats 1000000 in
theorem kg_X9_init_0 {Q : HS → Prop} {v0 : Nat} {S0 S : HS} (h : P_X9_init_0 Q v0 S) (K : K5 S0 S) : P_X9_init_0 (fun T => Q T ∧ K5 S0 T) v0 S := by
  delta P_X9_init_0 at h ⊢
  intro x2 e1
  have h := h x2 e1
  intro x4 e3
  have h := h x4 e3
  have K := k5_W K e1 e3
  obtain ⟨c5, h⟩ := h
  refine ⟨c5, ?_⟩
  have n6 := k5_ne K c5
  intro x8 e7
  have h := h x8 e7
  have K := k5_R K e7
  intro x10 e9
  have h := h x10 e9
  intro x12 e11
  have h := h x12 e11
  have K := k5_W K e9 e11
  refine cm_X8_init (kg_X8_init h) h (fun x13 hp h g14 => ?_)
  have h := h g14
  have K := k5_tr K hp.2
  intro x16 e15
  have h := h x16 e15
  have K := k5_R K e15
  intro x18 e17
  have h := h x18 e17
  intro x20 e19
  have h := h x20 e19
  have K := k5_W K e17 e19
  refine cm_X4_init (kg_X4_init h) h (fun x21 hp h g22 => ?_)
  have h := h g22
  have K := k5_tr K hp.2
  intro x24 e23
  have h := h x24 e23
  have K := k5_R K e23
  intro x26 e25
  have h := h x26 e25
  intro x28 e27
  have h := h x28 e27
  have K := k5_W K e25 e27
  refine cm_X1_init (kg_X1_init h) h (fun x29 hp h g30 => ?_)
  have h := h g30
  have K := k5_tr K hp.2
  intro x32 e31
  have h := h x32 e31
  have K := k5_R K e31
  intro x34 e33
  have h := h x34 e33
  intro x36 e35
  have h := h x36 e35
  have K := k5_W K e33 e35
  refine cm_X7_init (kg_X7_init h) h (fun x37 hp h g38 => ?_)
  have h := h g38
  have K := k5_tr K hp.2
  intro x40 e39
  have h := h x40 e39
  have K := k5_R K e39
  intro x42 e41
  have h := h x42 e41
  intro x44 e43
  have h := h x44 e43
  have K := k5_W K e41 e43
  refine cm_X0_init (kg_X0_init h) h (fun x45 hp h g46 => ?_)
  have h := h g46
  have K := k5_tr K hp.2
  intro x48 e47
  have h := h x48 e47
  have K := k5_R K e47
  exact ⟨h, K⟩
theorem kg_X9_init {Q : HS → Prop} {v0 : Nat} {S : HS} (h : P_X9_init v0 Q S) : P_X9_init v0 (fun T => Q T ∧ K5 S T) S := kg_X9_init_0 h (k5_rf S)
set_option maxRecDepth 20000 in
set_option maxHeartbeats 1000000 in
theorem kg_X9_isTill_0 {Q : Int32 → HS → Prop} {v0 : Int32} {S0 S : HS} (h : P_X9_isTill_0 Q v0 S) (K : K5 S0 S) : P_X9_isTill_0 (fun r T => Q r T ∧ K5 S0 T) v0 S := by
  delta P_X9_isTill_0 at h ⊢
  refine ⟨?_, ?_⟩
  · intro c1
    have h := h.1 c1
    exact ⟨h, K⟩
  · intro c2
    have h := h.2 c2
    refine ⟨?_, ?_⟩
    · intro c3
      have h := h.1 c3
      exact ⟨h, K⟩
    · intro c4
      have h := h.2 c4
      exact ⟨h, K⟩
theorem kg_X9_isTill {Q : Int32 → HS → Prop} {v0 : Int32} {S : HS} (h : P_X9_isTill v0 Q S) : P_X9_isTill v0 (fun r T => Q r T ∧ K5 S T) S := kg_X9_isTill_0 h (k5_rf S)
set_option maxRecDepth 20000 in
set_option maxHeartbeats 1000000 in
theorem kg_X9_placesTrouble_38 {Q : Int32 → HS → Prop} {s0 : Int32} {S0 S : HS} (h : P_X9_placesTrouble_38 Q s0 S) (K : K5 S0 S) : P_X9_placesTrouble_38 (fun r T => Q r T ∧ K5 S0 T) s0 S := by
  delta P_X9_placesTrouble_38 at h ⊢
  refine ⟨?_, ?_⟩
  · intro c1
    have h := h.1 c1
    exact ⟨h, K⟩
  · intro c2
    have h := h.2 c2
    exact ⟨h, K⟩
set_option maxRecDepth 20000 in
set_option maxHeartbeats 1000000 in
theorem kg_X9_placesTrouble_37 {Q : Int32 → HS → Prop} {S0 S : HS} (h : P_X9_placesTrouble_37 Q S) (K : K5 S0 S) : P_X9_placesTrouble_37 (fun r T => Q r T ∧ K5 S0 T) S := by
  delta P_X9_placesTrouble_37 at h ⊢
  exact kg_X9_placesTrouble_38 h K
set_option maxRecDepth 20000 in
set_option maxHeartbeats 1000000 in
theorem kg_X9_placesTrouble_0 {Q : Int32 → HS → Prop} {v0 : Nat} {v1 : Int32} {v2 : Int32} {v3 : Int32} {S0 S : HS} (h : P_X9_placesTrouble_0 Q v0 v1 v2 v3 S) (K : K5 S0 S) : P_X9_placesTrouble_0 (fun r T => Q r T ∧ K5 S0 T) v0 v1 v2 v3 S := by
  delta P_X9_placesTrouble_0 at h ⊢
  obtain ⟨c1, h⟩ := h
  refine ⟨c1, ?_⟩
  have n2 := k5_ne K c1
  obtain ⟨b3, e4, h⟩ := h
  refine ⟨b3, e4, ?_⟩
  obtain ⟨c5, h⟩ := h
  refine ⟨c5, ?_⟩
  have n6 := k5_ne K c5
  refine cm_X8_hasWalker (kg_X8_hasWalker h) h (fun x7 x8 hp h g9 g10 => ?_)
  have h := h g9 g10
  have K := k5_tr K hp.2
  refine ⟨?_, ?_⟩
  · intro c11
    have h := h.1 c11
    exact kg_X9_placesTrouble_37 h K
  · intro c12
    have h := h.2 c12
    obtain ⟨b13, e14, h⟩ := h
    refine ⟨b13, e14, ?_⟩
    obtain ⟨c15, h⟩ := h
    refine ⟨c15, ?_⟩
    have n16 := k5_ne K c15
    refine cm_X8_hasPlace (kg_X8_hasPlace h) h (fun x17 x18 hp h g19 g20 => ?_)
    have h := h g19 g20
    have K := k5_tr K hp.2
    refine ⟨?_, ?_⟩
    · intro c21
      have h := h.1 c21
      exact kg_X9_placesTrouble_37 h K
    · intro c22
      have h := h.2 c22
      obtain ⟨b23, e24, h⟩ := h
      refine ⟨b23, e24, ?_⟩
      obtain ⟨c25, h⟩ := h
      refine ⟨c25, ?_⟩
      have n26 := k5_ne K c25
      refine cm_X8_hasPlace (kg_X8_hasPlace h) h (fun x27 x28 hp h g29 g30 => ?_)
      have h := h g29 g30
      have K := k5_tr K hp.2
      refine ⟨?_, ?_⟩
      · intro c31
        have h := h.1 c31
        exact kg_X9_placesTrouble_37 h K
      · intro c32
        have h := h.2 c32
        exact kg_X9_placesTrouble_38 h K
theorem kg_X9_placesTrouble {Q : Int32 → HS → Prop} {v0 : Nat} {v1 : Int32} {v2 : Int32} {v3 : Int32} {S : HS} (h : P_X9_placesTrouble v0 v1 v2 v3 Q S) : P_X9_placesTrouble v0 v1 v2 v3 (fun r T => Q r T ∧ K5 S T) S := kg_X9_placesTrouble_0 h (k5_rf S)
set_option maxRecDepth 20000 in
set_option maxHeartbeats 1000000 in
theorem kg_X9_wayTrouble_0 {Q : Int32 → HS → Prop} {v0 : Nat} {v1 : Int32} {v2 : Int32} {v3 : Int32} {v4 : Int32} {v5 : Int32} {S0 S : HS} (h : P_X9_wayTrouble_0 Q v0 v1 v2 v3 v4 v5 S) (K : K5 S0 S) : P_X9_wayTrouble_0 (fun r T => Q r T ∧ K5 S0 T) v0 v1 v2 v3 v4 v5 S := by
  delta P_X9_wayTrouble_0 at h ⊢
  obtain ⟨c1, h⟩ := h
  refine ⟨c1, ?_⟩
  have n2 := k5_ne K c1
  refine cm_X9_placesTrouble (kg_X9_placesTrouble h) h (fun x3 x4 hp h g5 => ?_)
  have h := h g5
  have K := k5_tr K hp.2
  refine ⟨?_, ?_⟩
  · intro c6
    have h := h.1 c6
    refine cm_X9_isTill (kg_X9_isTill h) h (fun x7 x8 hp h g9 g10 => ?_)
    have h := h g9 g10
    have K := k5_tr K hp.2
    refine ⟨?_, ?_⟩
    · intro c11
      have h := h.1 c11
      exact ⟨h, K⟩
    · intro c12
      have h := h.2 c12
      refine ⟨?_, ?_⟩
      · intro c13
        have h := h.1 c13
        exact ⟨h, K⟩
      · intro c14
        have h := h.2 c14
        refine ⟨?_, ?_⟩
        · intro c15
          have h := h.1 c15
          obtain ⟨b16, e17, h⟩ := h
          refine ⟨b16, e17, ?_⟩
          obtain ⟨b18, e19, h⟩ := h
          refine ⟨b18, e19, ?_⟩
          obtain ⟨b20, e21, h⟩ := h
          refine ⟨b20, e21, ?_⟩
          obtain ⟨c22, h⟩ := h
          refine ⟨c22, ?_⟩
          have n23 := k5_ne K c22
          refine cm_X7_reckon (kg_X7_reckon h) h (fun x24 hp h g25 => ?_)
          have h := h g25
          have K := k5_tr K hp.2
          obtain ⟨b26, e27, h⟩ := h
          refine ⟨b26, e27, ?_⟩
          obtain ⟨c28, h⟩ := h
          refine ⟨c28, ?_⟩
          have n29 := k5_ne K c28
          refine cm_X7_isOpen (kg_X7_isOpen h) h (fun x30 x31 hp h g32 g33 => ?_)
          have h := h g32 g33
          have K := k5_tr K hp.2
          refine ⟨?_, ?_⟩
          · intro c34
            have h := h.1 c34
            exact ⟨h, K⟩
          · intro c35
            have h := h.2 c35
            exact ⟨h, K⟩
        · intro c36
          have h := h.2 c36
          exact ⟨h, K⟩
  · intro c37
    have h := h.2 c37
    exact ⟨h, K⟩
theorem kg_X9_wayTrouble {Q : Int32 → HS → Prop} {v0 : Nat} {v1 : Int32} {v2 : Int32} {v3 : Int32} {v4 : Int32} {v5 : Int32} {S : HS} (h : P_X9_wayTrouble v0 v1 v2 v3 v4 v5 Q S) : P_X9_wayTrouble v0 v1 v2 v3 v4 v5 (fun r T => Q r T ∧ K5 S T) S := kg_X9_wayTrouble_0 h (k5_rf S)
set_option maxRecDepth 20000 in
set_option maxHeartbeats 1000000 in
theorem kg_X9_stayTrouble_0 {Q : Int32 → HS → Prop} {v0 : Nat} {v1 : Int32} {S0 S : HS} (h : P_X9_stayTrouble_0 Q v0 v1 S) (K : K5 S0 S) : P_X9_stayTrouble_0 (fun r T => Q r T ∧ K5 S0 T) v0 v1 S := by
  delta P_X9_stayTrouble_0 at h ⊢
  obtain ⟨c1, h⟩ := h
  refine ⟨c1, ?_⟩
  have n2 := k5_ne K c1
  obtain ⟨b3, e4, h⟩ := h
  refine ⟨b3, e4, ?_⟩
  obtain ⟨c5, h⟩ := h
  refine ⟨c5, ?_⟩
  have n6 := k5_ne K c5
  refine cm_X0_isOn (kg_X0_isOn h) h (fun x7 x8 hp h g9 g10 => ?_)
  have h := h g9 g10
  have K := k5_tr K hp.2
  refine ⟨?_, ?_⟩
  · intro c11
    have h := h.1 c11
    exact ⟨h, K⟩
  · intro c12
    have h := h.2 c12
    obtain ⟨b13, e14, h⟩ := h
    refine ⟨b13, e14, ?_⟩
    obtain ⟨b15, e16, h⟩ := h
    refine ⟨b15, e16, ?_⟩
    obtain ⟨c17, h⟩ := h
    refine ⟨c17, ?_⟩
    have n18 := k5_ne K c17
    intro x20 e19
    have h := h x20 e19
    obtain ⟨c21, h⟩ := h
    refine ⟨c21, ?_⟩
    have n22 := k5_ne K c21
    refine cm_X8_hasWalker (kg_X8_hasWalker h) h (fun x23 x24 hp h g25 g26 => ?_)
    have h := h g25 g26
    have K := k5_tr K hp.2
    refine ⟨?_, ?_⟩
    · intro c27
      have h := h.1 c27
      refine ⟨?_, ?_⟩
      · intro c28
        have h := h.1 c28
        exact ⟨h, K⟩
      · intro c29
        have h := h.2 c29
        refine ⟨?_, ?_⟩
        · intro c30
          have h := h.1 c30
          obtain ⟨b31, e32, h⟩ := h
          refine ⟨b31, e32, ?_⟩
          obtain ⟨b33, e34, h⟩ := h
          refine ⟨b33, e34, ?_⟩
          obtain ⟨c35, h⟩ := h
          refine ⟨c35, ?_⟩
          have n36 := k5_ne K c35
          obtain ⟨b37, e38, h⟩ := h
          refine ⟨b37, e38, ?_⟩
          obtain ⟨c39, h⟩ := h
          refine ⟨c39, ?_⟩
          have n40 := k5_ne K c39
          intro x42 e41
          have h := h x42 e41
          obtain ⟨c43, h⟩ := h
          refine ⟨c43, ?_⟩
          have n44 := k5_ne K c43
          refine cm_X8_canWait (kg_X8_canWait h) h (fun x45 x46 hp h g47 g48 => ?_)
          have h := h g47 g48
          have K := k5_tr K hp.2
          refine ⟨?_, ?_⟩
          · intro c49
            have h := h.1 c49
            obtain ⟨b50, e51, h⟩ := h
            refine ⟨b50, e51, ?_⟩
            obtain ⟨c52, h⟩ := h
            refine ⟨c52, ?_⟩
            have n53 := k5_ne K c52
            obtain ⟨b54, e55, h⟩ := h
            refine ⟨b54, e55, ?_⟩
            obtain ⟨c56, h⟩ := h
            refine ⟨c56, ?_⟩
            have n57 := k5_ne K c56
            intro x59 e58
            have h := h x59 e58
            refine ⟨?_, ?_⟩
            · intro c60
              have h := h.1 c60
              exact ⟨h, K⟩
            · intro c61
              have h := h.2 c61
              exact ⟨h, K⟩
          · intro c62
            have h := h.2 c62
            exact ⟨h, K⟩
        · intro c63
          have h := h.2 c63
          exact ⟨h, K⟩
    · intro c64
      have h := h.2 c64
      exact ⟨h, K⟩
theorem kg_X9_stayTrouble {Q : Int32 → HS → Prop} {v0 : Nat} {v1 : Int32} {S : HS} (h : P_X9_stayTrouble v0 v1 Q S) : P_X9_stayTrouble v0 v1 (fun r T => Q r T ∧ K5 S T) S := kg_X9_stayTrouble_0 h (k5_rf S)
end
