/-- the tape a of c, t bytes of it as f says -/
def TP (fl tf : Nat) (f : Nat → Int32) (t a c : Nat) (S : HS) : Prop := fR S c fl = some a ∧ fI S c tf = nI t ∧ hN S a = 900 ∧ ob S a 12 ∧ a ≠ c ∧ ∀ j, j < t → fI S a j = f j
def FT (W : List Nat) (a c : Nat) (S T : HS) : Prop := Bas S T ∧ fJ T = fJ S ∧ (∀ b, b ≠ a → b ≠ c → fI T b = fI S b) ∧ ∀ j, j ∉ W → fI T c j = fI S c j
section Tape
variable {fl tf t a c : Nat} {f : Nat → Int32} {S T U V : HS} {W : List Nat}
theorem ft_rf (W : List Nat) (a c : Nat) (S : HS) : FT W a c S S := ⟨⟨rfl, rfl, rfl, rfl⟩, rfl, fun _ _ _ => rfl, fun _ _ => rfl⟩
theorem ft_tr (h : FT W a c S T) (g : FT W a c T U) : FT W a c S U := ⟨⟨g.1.1.trans h.1.1, g.1.2.1.trans h.1.2.1, g.1.2.2.1.trans h.1.2.2.1, g.1.2.2.2.trans h.1.2.2.2⟩, g.2.1.trans h.2.1, fun b x y => (g.2.2.1 b x y).trans (h.2.2.1 b x y), fun j hj => (g.2.2.2 j hj).trans (h.2.2.2 j hj)⟩
theorem tp_step {x y w : Int32} (P : TP fl tf f t a c S) (ht : t < 900) (hW : tf ∈ W) (hx : x = nI t) (e1 : U = sI S a x.toNatClampNeg w) (hy : y = fI U c tf + 1) (e2 : V = sI U c tf y) (hw : w = f t) : TP fl tf f (t + 1) a c V ∧ FT W a c S V := by
  obtain ⟨p1, p2, p3, p4, p5, p6⟩ := P
  have B : Bas S V := by rw [e2, e1]; exact ⟨rfl, rfl, rfl, rfl⟩
  have hc : fI U c = fI S c := rw_I e1 (Ne.symm p5)
  have ha : fI V a = fI U a := rw_I e2 p5
  refine ⟨⟨by rw [B.2.2.2]; exact p1, ?_, by rw [B.2.2.1]; exact p3, bb_ob' B p4, p5, fun j hj => ?_⟩, B, by rw [e2, e1]; rfl, fun b h1 h2 => by rw [rw_I e2 h2, rw_I e1 h1], fun j hj => ?_⟩
  · rw [wI_at e2, hy, hc, p2]; exact nI_1 t
  · rw [ha]
    rw [hx, nI_cl (by omega)] at e1
    by_cases hjt : j = t
    · rw [hjt, wI_at e1, hw]
    · rw [wI_ne e1 hjt]; exact p6 j (by omega)
  · rw [wI_ne (i := j) e2 (fun z => hj (by rw [z]; exact hW)), hc]
def InvPB (f : Nat → Int32) (t a c : Nat) (S0 : HS) (v0 : Nat) (v2 : Int32) (S : HS) : Prop := ∃ k, c = v0 ∧ k ≤ 4 ∧ v2 = 24 - 8 * nI k ∧ TP 0 1 f (t + k) a c S ∧ FT [1] a c S0 S
theorem lpPB {Q : HS → Prop} {v : Int32} {S0 : HS} {v0 : Nat} {v1 v2 : Int32} (ht : t + 4 ≤ 900) (hf : ∀ i, i < 4 → f (t + i) = bt4 v i) (hv : v1 = v) (h : P_X9_putBytes_3 Q v0 v1 v2 S) (hi : InvPB f t a c S0 v0 v2 S) : P_X9_putBytes_3 (fun T => Q T ∧ TP 0 1 f (t + 4) a c T ∧ FT [1] a c S0 T) v0 v1 v2 S := by
  refine h (fun v0 v1 v2 S => v1 = v → InvPB f t a c S0 v0 v2 S → P_X9_putBytes_3 (fun T => Q T ∧ TP 0 1 f (t + 4) a c T ∧ FT [1] a c S0 T) v0 v1 v2 S) ?_ hv hi
  intro v0 v1 v2 S h hv hi
  obtain ⟨k, rfl, hk, hv2, P, F⟩ := hi
  subst hv
  have e0 : (0 : Int32).toInt = 0 := by decide
  have e9 : (nI 900).toInt = 900 := nI_i (by omega)
  have ki : k = 0 ∨ k = 1 ∨ k = 2 ∨ k = 3 ∨ k = 4 := by omega
  have e2 : v2.toInt = 24 - 8 * (k : Int) := by
    rw [hv2]
    rcases ki with rfl | rfl | rfl | rfl | rfl <;> decide
  have P0 := P
  obtain ⟨p1, p2, p3, p4, p5, p6⟩ := P
  have pt : (fI S c 1).toInt = ((t + k : Nat) : Int) := by rw [p2]; exact nI_i (by omega)
  refine fd_X9_putBytes_3 ?_
  delta B_X9_putBytes_3
  refine ⟨?_, ?_⟩
  · intro c1
    have := lt_i c1
    have hk4 : k = 4 := by omega
    rw [hk4] at P0
    exact ⟨h.1 c1, P0, F⟩
  · intro c2
    have := nlt_i c2
    have h := h.2 c2
    obtain ⟨o3, h⟩ := h
    refine ⟨o3, ?_⟩
    intro x4 ex4
    have h := h x4 ex4
    refine ⟨?_, ?_⟩
    · intro c5
      have := lt_i c5
      rw [ex4, pt] at this
      omega
    · intro c7
      have h := h.2 c7
      intro x8 ex8
      have h := h x8 ex8
      obtain ⟨a9, ea9, h⟩ := h
      refine ⟨a9, ea9, ?_⟩
      cases p1.symm.trans ea9
      obtain ⟨o10, h⟩ := h
      refine ⟨o10, ?_⟩
      refine ⟨?_, ?_⟩
      · intro c11
        have := le_i c11
        rw [ex8, pt, p3, e9] at this
        omega
      · intro c13
        have h := h.2 c13
        obtain ⟨a14, ea14, h⟩ := h
        refine ⟨a14, ea14, ?_⟩
        cases p1.symm.trans ea14
        intro x15 ex15
        have h := h x15 ex15
        obtain ⟨o16, h⟩ := h
        refine ⟨o16, ?_⟩
        intro x17 ex17
        have h := h x17 ex17
        obtain ⟨o18, h⟩ := h
        refine ⟨o18, ?_⟩
        intro S19 eS19
        have h := h S19 eS19
        intro x20 ex20
        have h := h x20 ex20
        intro x21 ex21
        have h := h x21 ex21
        intro S22 eS22
        have h := h S22 eS22
        delta P_X9_putBytes_49
        intro x23 ex23
        have h := h x23 ex23
        have hk3 : k < 4 := by omega
        have hw : vp_nar .byte x17 = f (t + k) := by
          rw [hf k hk3, ex17, hv2, bt_c _ k hk3, nar_bt]
        obtain ⟨P2, F2⟩ := tp_step (W := [1]) P0 (by omega) (by decide) (ex15.trans p2) eS19 (by rw [ex21, ex20]) eS22 hw
        refine h rfl ⟨k + 1, rfl, by omega, ?_, P2, ft_tr F F2⟩
        rw [ex23, hv2]
        rcases ki with rfl | rfl | rfl | rfl | rfl <;> decide
theorem sp_X9_putBytes {Q : HS → Prop} {v1 : Int32} (h : P_X9_putBytes c v1 Q S) (P : TP 0 1 f t a c S) (ht : t + 4 ≤ 900) (hf : ∀ i, i < 4 → f (t + i) = bt4 v1 i) : P_X9_putBytes c v1 (fun T => Q T ∧ TP 0 1 f (t + 4) a c T ∧ FT [1] a c S T) S := by
  delta P_X9_putBytes P_X9_putBytes_0
  exact lpPB ht hf rfl h ⟨0, rfl, by omega, by decide, P, ft_rf _ _ _ _⟩
/-- the byte i of twenty -/
def fd20 (v1 v2 v3 v4 v5 : Int32) (i : Nat) : Int32 := bt4 (if i < 4 then v1 else if i < 8 then v2 else if i < 12 then v3 else if i < 16 then v4 else v5) (i % 4)
theorem sp_X9_feed {Q : Int32 → HS → Prop} {v1 v2 v3 v4 v5 : Int32} (h : P_X9_feed c v1 v2 v3 v4 v5 Q S) (P : TP 0 1 f t a c S) (ht : t ≤ 900) (hf : ∀ i, i < 20 → f (t + i) = fd20 v1 v2 v3 v4 v5 i) : P_X9_feed c v1 v2 v3 v4 v5 (fun r T => Q r T ∧ FT [1] a c S T ∧ ((t + 20 ≤ 900 ∧ r = nI (t + 20) ∧ TP 0 1 f (t + 20) a c T) ∨ (900 < t + 20 ∧ r = -1 ∧ S = T))) S := by
  have e9 : (900 : Int32).toInt = 900 := by decide
  have e20 : (20 : Int32).toInt = 20 := by decide
  delta P_X9_feed P_X9_feed_0
  obtain ⟨o1, h⟩ := h
  refine ⟨o1, ?_⟩
  intro x2 ex2
  have h := h x2 ex2
  have i2 : (x2 + 20).toInt = ((t + 20 : Nat) : Int) := by
    rw [ex2, P.2.1, Int32.toInt_add, nI_i (by omega), e20, Int.bmod_eq_of_le (by omega) (by omega)]
    omega
  have g : ∀ b i, b = 0 ∨ b = 4 ∨ b = 8 ∨ b = 12 ∨ b = 16 → i < 4 → f (t + b + i) = bt4 (if b < 4 then v1 else if b < 8 then v2 else if b < 12 then v3 else if b < 16 then v4 else v5) i := fun b i hb hi => by
    rw [Nat.add_assoc, hf (b + i) (by omega)]
    unfold fd20
    rcases hb with rfl | rfl | rfl | rfl | rfl
    · rw [if_pos (by omega), if_pos (by omega), show (0 + i) % 4 = i by omega]
    · rw [if_neg (by omega), if_pos (by omega), show (4 + i) % 4 = i by omega]; rfl
    · rw [if_neg (by omega), if_neg (by omega), if_pos (by omega), show (8 + i) % 4 = i by omega]; rfl
    · rw [if_neg (by omega), if_neg (by omega), if_neg (by omega), if_pos (by omega), show (12 + i) % 4 = i by omega]; rfl
    · rw [if_neg (by omega), if_neg (by omega), if_neg (by omega), if_neg (by omega), show (16 + i) % 4 = i by omega]; rfl
  refine ⟨?_, ?_⟩
  · intro c3
    have := le_i c3
    have h := h.1 c3
    refine cm_X9_putBytes (sp_X9_putBytes h P (by omega) (fun i hi => g 0 i (by omega) hi)) h (fun S4 hp h g5 => ?_)
    have h := h g5
    obtain ⟨-, P, F⟩ := hp
    refine cm_X9_putBytes (sp_X9_putBytes h P (by omega) (fun i hi => g 4 i (by omega) hi)) h (fun S6 hp h g7 => ?_)
    have h := h g7
    obtain ⟨-, P, G⟩ := hp
    have F := ft_tr F G
    refine cm_X9_putBytes (sp_X9_putBytes h P (by omega) (fun i hi => g 8 i (by omega) hi)) h (fun S8 hp h g9 => ?_)
    have h := h g9
    obtain ⟨-, P, G⟩ := hp
    have F := ft_tr F G
    refine cm_X9_putBytes (sp_X9_putBytes h P (by omega) (fun i hi => g 12 i (by omega) hi)) h (fun S10 hp h g11 => ?_)
    have h := h g11
    obtain ⟨-, P, G⟩ := hp
    have F := ft_tr F G
    refine cm_X9_putBytes (sp_X9_putBytes h P (by omega) (fun i hi => g 16 i (by omega) hi)) h (fun S12 hp h g13 => ?_)
    have h := h g13
    obtain ⟨-, P, G⟩ := hp
    have F := ft_tr F G
    intro x14 ex14
    have h := h x14 ex14
    exact ⟨h, F, Or.inl ⟨by omega, ex14.trans P.2.1, P⟩⟩
  · intro c15
    have := nle_i c15
    exact ⟨h.2 c15, ft_rf _ _ _ _, Or.inr ⟨by omega, rfl, rfl⟩⟩

set_option maxRecDepth 10000 in
theorem mod4_ : ∀ k : Nat, k < 20 → nI k - nI k / (4 : Int32) * (4 : Int32) = nI (k % 4) := by decide
def InvFd (f : Nat → Int32) (t a c : Nat) (S0 : HS) (v1 v2 v3 v4 v5 : Int32) (u0 : Nat) (u1 u2 u3 u4 u5 u6 : Int32) (S : HS) : Prop := ∃ k, c = u0 ∧ u1 = v1 ∧ u2 = v2 ∧ u3 = v3 ∧ u4 = v4 ∧ u5 = v5 ∧ k ≤ 20 ∧ u6 = nI k ∧ TP 5 6 f (t + k) a c S ∧ FT [0, 6] a c S0 S
theorem b76 {Q : Int32 → HS → Prop} {k : Nat} {S0 : HS} {v1 v2 v3 v4 v5 w6 w : Int32} {X X' : Nat → Int32 → Int32 → Int32 → Int32 → Int32 → Int32 → HS → Prop} (ht : t + 20 ≤ 900) (hk : k < 20) (h6 : w6 = nI k) (hw : f (t + k) = bt4 w (k % 4)) (P : TP 5 6 f (t + k) a c S) (F : FT [0, 6] a c S0 S) (h : P_X11_feed_76 Q X c v1 v2 v3 v4 v5 w6 w S) (hX : ∀ (y : Int32) (U : HS), X c v1 v2 v3 v4 v5 y U → InvFd f t a c S0 v1 v2 v3 v4 v5 c v1 v2 v3 v4 v5 y U → X' c v1 v2 v3 v4 v5 y U) {Q' : Int32 → HS → Prop} : P_X11_feed_76 Q' X' c v1 v2 v3 v4 v5 w6 w S := by
  delta P_X11_feed_76 at h ⊢
  obtain ⟨o9, h⟩ := h
  refine ⟨o9, ?_⟩
  obtain ⟨a10, ea10, h⟩ := h
  refine ⟨a10, ea10, ?_⟩
  cases P.1.symm.trans ea10
  intro x11 ex11
  have h := h x11 ex11
  intro x12 ex12
  have h := h x12 ex12
  obtain ⟨o13, h⟩ := h
  refine ⟨o13, ?_⟩
  intro x14 ex14
  have h := h x14 ex14
  obtain ⟨o15, h⟩ := h
  refine ⟨o15, ?_⟩
  intro S16 eS16
  have h := h S16 eS16
  intro x17 ex17
  have h := h x17 ex17
  intro x18 ex18
  have h := h x18 ex18
  intro S19 eS19
  have h := h S19 eS19
  intro x20 ex20
  have h := h x20 ex20
  have hb : vp_nar .byte x14 = f (t + k) := by
    rw [hw, ex14, ex12, h6, mod4_ k hk]
    exact nar_bt w (k % 4)
  obtain ⟨P2, F2⟩ := tp_step (W := [0, 6]) P (by omega) (by decide) (ex11.trans P.2.1) eS16 (by rw [ex18, ex17]) eS19 hb
  exact hX _ _ h ⟨k + 1, rfl, rfl, rfl, rfl, rfl, rfl, by omega, by rw [ex20, h6]; exact nI_1 k, P2, ft_tr F F2⟩
set_option maxHeartbeats 1000000 in
theorem lpFd {Q : Int32 → HS → Prop} {S0 : HS} {v1 v2 v3 v4 v5 : Int32} {u0 : Nat} {u1 u2 u3 u4 u5 u6 : Int32} (ht : t + 20 ≤ 900) (hf : ∀ i, i < 20 → f (t + i) = fd20 v1 v2 v3 v4 v5 i) (h : P_X11_feed_23 Q u0 u1 u2 u3 u4 u5 u6 S) (hi : InvFd f t a c S0 v1 v2 v3 v4 v5 u0 u1 u2 u3 u4 u5 u6 S) : P_X11_feed_23 (fun r T => Q r T ∧ FT [0, 6] a c S0 T ∧ r = nI (t + 20) ∧ TP 5 6 f (t + 20) a c T) u0 u1 u2 u3 u4 u5 u6 S := by
  refine h (fun u0 u1 u2 u3 u4 u5 u6 S => InvFd f t a c S0 v1 v2 v3 v4 v5 u0 u1 u2 u3 u4 u5 u6 S → P_X11_feed_23 (fun r T => Q r T ∧ FT [0, 6] a c S0 T ∧ r = nI (t + 20) ∧ TP 5 6 f (t + 20) a c T) u0 u1 u2 u3 u4 u5 u6 S) ?_ hi
  intro u0 u1 u2 u3 u4 u5 u6 S h hi
  obtain ⟨k, rfl, rfl, rfl, rfl, rfl, rfl, hk, h6, P, F⟩ := hi
  have e20 : (20 : Int32).toInt = 20 := by decide
  have e16 : (16 : Int32).toInt = 16 := by decide
  have e12 : (12 : Int32).toInt = 12 := by decide
  have e8 : (8 : Int32).toInt = 8 := by decide
  have e4 : (4 : Int32).toInt = 4 := by decide
  have e6 : u6.toInt = (k : Int) := by rw [h6]; exact nI_i (by omega)
  refine fd_X11_feed_23 ?_
  delta B_X11_feed_23
  refine ⟨?_, ?_⟩
  · intro c1
    have := le_i c1
    have h := h.1 c1
    obtain ⟨o2, h⟩ := h
    refine ⟨o2, ?_⟩
    intro x3 ex3
    have h := h x3 ex3
    have hk20 : k = 20 := by omega
    rw [hk20] at P
    exact ⟨h, F, ex3.trans P.2.1, P⟩
  · intro c4
    have := nle_i c4
    have hk20 : k < 20 := by omega
    have h := h.2 c4
    have hfk := hf k hk20
    unfold fd20 at hfk
    refine ⟨?_, ?_⟩
    · intro c5
      have := le_i c5
      have h := h.1 c5
      rw [if_neg (by omega)] at hfk
      refine ⟨?_, ?_⟩
      · intro c6
        have := le_i c6
        have h := h.1 c6
        rw [if_neg (by omega)] at hfk
        refine ⟨?_, ?_⟩
        · intro c7
          have := le_i c7
          have h := h.1 c7
          rw [if_neg (by omega)] at hfk
          refine ⟨?_, ?_⟩
          · intro c8
            have := le_i c8
            rw [if_neg (by omega)] at hfk
            exact b76 ht hk20 h6 hfk P F (h.1 c8) (fun y U hx iv => hx iv)
          · intro c8
            have := nle_i c8
            rw [if_pos (by omega)] at hfk
            exact b76 ht hk20 h6 hfk P F (h.2 c8) (fun y U hx iv => hx iv)
        · intro c7
          have := nle_i c7
          rw [if_pos (by omega)] at hfk
          exact b76 ht hk20 h6 hfk P F (h.2 c7) (fun y U hx iv => hx iv)
      · intro c6
        have := nle_i c6
        rw [if_pos (by omega)] at hfk
        exact b76 ht hk20 h6 hfk P F (h.2 c6) (fun y U hx iv => hx iv)
    · intro c5
      have := nle_i c5
      rw [if_pos (by omega)] at hfk
      exact b76 ht hk20 h6 hfk P F (h.2 c5) (fun y U hx iv => hx iv)
theorem sp_X11_feed {Q : Int32 → HS → Prop} {v1 v2 v3 v4 v5 : Int32} (h : P_X11_feed c v1 v2 v3 v4 v5 Q S) (P : TP 5 6 f t a c S) (ht : t ≤ 900) (hf : ∀ i, i < 20 → f (t + i) = fd20 v1 v2 v3 v4 v5 i) : P_X11_feed c v1 v2 v3 v4 v5 (fun r T => Q r T ∧ FT [0, 6] a c S T ∧ ((t + 20 ≤ 900 ∧ r = nI (t + 20) ∧ TP 5 6 f (t + 20) a c T) ∨ (900 < t + 20 ∧ r = -1 ∧ TP 5 6 f t a c T))) S := by
  have e9 : (900 : Int32).toInt = 900 := by decide
  have e20 : (20 : Int32).toInt = 20 := by decide
  delta P_X11_feed P_X11_feed_0
  obtain ⟨o1, h⟩ := h
  refine ⟨o1, ?_⟩
  intro S2 e2
  have h := h S2 e2
  intro x3 ex3
  have h := h x3 ex3
  have B : Bas S S2 := bs_I e2
  have F2 : FT [0, 6] a c S S2 := ⟨B, jj_I e2, fun b _ h2 => rw_I e2 h2, fun j hj => wI_ne e2 (fun z => hj (by rw [z]; decide))⟩
  obtain ⟨p1, p2, p3, p4, p5, p6⟩ := P
  have P2 : TP 5 6 f t a c S2 := ⟨by rw [B.2.2.2]; exact p1, by rw [wI_ne e2 (by decide)]; exact p2, by rw [B.2.2.1]; exact p3, bb_ob' B p4, p5, fun j hj => by rw [rw_I e2 p5]; exact p6 j hj⟩
  have i3 : (x3 + 20).toInt = ((t + 20 : Nat) : Int) := by
    rw [ex3, P2.2.1, Int32.toInt_add, nI_i (by omega), e20, Int.bmod_eq_of_le (by omega) (by omega)]
    omega
  refine ⟨?_, ?_⟩
  · intro c4
    have := le_i c4
    have h := h.1 c4
    have h20 : t + 20 ≤ 900 := by omega
    refine cm_X11_feed_23 (lpFd (S0 := S) h20 hf h ⟨0, rfl, rfl, rfl, rfl, rfl, rfl, by omega, nI_0.symm, P2, F2⟩) h (fun r T h1 h2 => ⟨h2, h1.2.1, Or.inl ⟨h20, h1.2.2.1, h1.2.2.2⟩⟩)
  · intro c5
    have := nle_i c5
    exact ⟨h.2 c5, F2, Or.inr ⟨by omega, rfl, P2⟩⟩
end Tape
