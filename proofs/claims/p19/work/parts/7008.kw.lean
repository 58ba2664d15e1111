/-! which rows a run leaves as they were: ints and booleans of nobody's own, and joints in rows -/
abbrev nwT : List (Nat × Nat) := [(7, 0), (7, 2), (7, 4), (7, 5), (7, 6), (7, 8), (11, 17), (11, 18)]
def NWq (S : HS) (a : Nat) : Prop := ∀ q ∈ nwT, ∀ x, ob S x q.1 → fR S x q.2 ≠ some a
def PRq (S : HS) (a : Nat) : Prop := (ob S a 13 ∨ ob S a 15) ∧ NWq S a
def K7 (S T : HS) : Prop := Gr S T ∧ (∀ a k, 17 ≤ k → ob S a k → fR T a = fR S a) ∧ ∀ a, PRq S a → fI T a = fI S a ∧ NWq T a
def KNb (S : HS) (b : Nat) : Prop := ∀ a, PRq S a → a ≠ b
section K7s
variable {S T U : HS} {a b k j x : Nat}
theorem pr_gr (g : Gr S T) (h : PRq S a) : ob T a 13 ∨ ob T a 15 := h.1.elim (fun o => Or.inl (gr_ob g o)) (fun o => Or.inr (gr_ob g o))
theorem k7_rf (S : HS) : K7 S S := ⟨gr_rf S, fun _ _ _ _ => rfl, fun _ h => ⟨rfl, h.2⟩⟩
theorem k7_tr (h : K7 S T) (g : K7 T U) : K7 S U := ⟨gr_tr h.1 g.1, fun a k hk o => (g.2.1 a k hk (gr_ob h.1 o)).trans (h.2.1 a k hk o), fun a p => by
  have q := h.2.2 a p
  have r := g.2.2 a ⟨pr_gr h.1 p, q.2⟩
  exact ⟨r.1.trans q.1, r.2⟩⟩
theorem k7_I {v : Int32} (h : K7 S T) (e : U = sI T b j v) (hb : KNb S b) : K7 S U := by
  rw [e]
  exact ⟨h.1, h.2.1, fun a p => ⟨(u2_row _ _ (hb a p)).trans (h.2.2 a p).1, (h.2.2 a p).2⟩⟩
theorem k7_J {v : Int64} (h : K7 S T) (e : U = sJ T b j v) : K7 S U := by
  rw [e]
  exact h
theorem k7_R {v : Option Nat} (h : K7 S T) (e : U = sR T b j v) (o : ob T b k) (hn : (k, j) ∉ nwT) (hk : k < 17) : K7 S U := by
  have r : ∀ x i, ¬ (x = b ∧ i = j) → fR U x i = fR T x i := fun x i hx => by rw [e]; exact u2_ne _ _ hx
  have i : fI U = fI T := by rw [e]; rfl
  refine ⟨by rw [e]; exact h.1, fun a q hq oa => ?_, fun a p => ⟨by rw [i]; exact (h.2.2 a p).1, fun q hq x ox z => ?_⟩⟩
  · have hne : a ≠ b := fun z => by
      have := ob_inj (gr_ob h.1 oa) (z ▸ o)
      omega
    exact (funext fun i => r a i (fun z => hne z.1)).trans (h.2.1 a q hq oa)
  · have ox : ob T x q.1 := by rw [e] at ox; exact ox
    by_cases c : x = b ∧ q.2 = j
    · have : q.1 = k := ob_inj ox (c.1 ▸ o)
      exact hn (by rw [← this, ← c.2]; exact hq)
    · rw [r x q.2 c] at z
      exact (h.2.2 a p).2 q hq x ox z
theorem k7_RA {v : Option Nat} (h : K7 S T) (e : U = sR T b j v) (o : ob T b k) (hn : ∀ q ∈ nwT, q.1 ≠ k) (hk : k < 17) : K7 S U := by
  have r : ∀ x i, ¬ (x = b ∧ i = j) → fR U x i = fR T x i := fun x i hx => by rw [e]; exact u2_ne _ _ hx
  have i : fI U = fI T := by rw [e]; rfl
  refine ⟨by rw [e]; exact h.1, fun a q hq oa => ?_, fun a p => ⟨by rw [i]; exact (h.2.2 a p).1, fun q hq x ox z => ?_⟩⟩
  · have hne : a ≠ b := fun z => by
      have := ob_inj (gr_ob h.1 oa) (z ▸ o)
      omega
    exact (funext fun i => r a i (fun z => hne z.1)).trans (h.2.1 a q hq oa)
  · have ox : ob T x q.1 := by rw [e] at ox; exact ox
    by_cases c : x = b ∧ q.2 = j
    · have : q.1 = k := ob_inj ox (c.1 ▸ o)
      exact hn q hq this
    · rw [r x q.2 c] at z
      exact (h.2.2 a p).2 q hq x ox z
theorem k7_S (h : K7 S T) (e : U = sR T b j (some x)) (o : ob T b k) (hx : KNb S x) (hk : k < 17) : K7 S U := by
  have r : ∀ x i, ¬ (x = b ∧ i = j) → fR U x i = fR T x i := fun x i hx => by rw [e]; exact u2_ne _ _ hx
  have i : fI U = fI T := by rw [e]; rfl
  refine ⟨by rw [e]; exact h.1, fun a q hq oa => ?_, fun a p => ⟨by rw [i]; exact (h.2.2 a p).1, fun q hq y oy z => ?_⟩⟩
  · have hne : a ≠ b := fun z => by
      have := ob_inj (gr_ob h.1 oa) (z ▸ o)
      omega
    exact (funext fun i => r a i (fun z => hne z.1)).trans (h.2.1 a q hq oa)
  · have oy : ob T y q.1 := by rw [e] at oy; exact oy
    by_cases c : y = b ∧ q.2 = j
    · rw [c.1, c.2, e] at z
      have z : u2 (fR T) b j (some x) b j = some a := z
      rw [u2_self] at z
      cases z
      exact hx x p rfl
    · rw [r y q.2 c] at z
      exact (h.2.2 a p).2 q hq y oy z
theorem k7_W {n : Nat} (h : K7 S T) (ha : b ∉ hL T) (e : U = nW T b k n) : K7 S U := by
  have r : ∀ x, x ≠ b → fR U x = fR T x ∧ fI U x = fI T x := fun x hx => by rw [e]; exact ⟨va_up_ne _ _ hx, va_up_ne _ _ hx⟩
  have g := gr_of_new e ha
  refine ⟨gr_tr h.1 g, fun a q hq oa => ?_, fun a p => ?_⟩
  · have : a ≠ b := fun z => ha (z ▸ (gr_ob h.1 oa).1)
    exact (r a this).1.trans (h.2.1 a q hq oa)
  · have ao := pr_gr h.1 p
    have al : a ∈ hL T := ao.elim (fun o => o.1) (fun o => o.1)
    have hne : a ≠ b := fun z => ha (z ▸ al)
    refine ⟨(r a hne).2.trans (h.2.2 a p).1, fun q hq x ox z => ?_⟩
    by_cases c : x = b
    · rw [c, e] at z
      have z : va_up (fR T) b (fun _ => none) b q.2 = some a := z
      rw [va_up_self] at z
      cases z
    · rw [(r x c).1] at z
      have ox : ob T x q.1 := by
        rw [e] at ox
        obtain ⟨o1, o2⟩ := ox
        refine ⟨?_, ?_⟩
        · have o1 : x ∈ hL T ++ [b] := o1
          rcases List.mem_append.mp o1 with q | q
          · exact q
          · exact absurd (List.mem_singleton.mp q) c
        · have o2 : va_up (hK T) b k x = q.1 := o2
          rw [va_up_ne _ _ c] at o2
          exact o2
      exact (h.2.2 a p).2 q hq x ox z
theorem k7_nf (h : K7 S T) (ha : b ∉ hL T) : KNb S b := fun a p z => by
  have ao := pr_gr h.1 p
  exact ha (z ▸ ao.elim (fun o => o.1) (fun o => o.1))
theorem k7_nk (h : K7 S T) (o : ob T b k) (hk : k ≠ 13 ∧ k ≠ 15) : KNb S b := fun a p z => by
  rcases pr_gr h.1 p with q | q
  · exact hk.1 (ob_inj o (z ▸ q))
  · exact hk.2 (ob_inj o (z ▸ q))
theorem k7_nr (h : K7 S T) (e : fR T x j = some b) (o : ob T x k) (hk : (k, j) ∈ nwT) : KNb S b := fun a p z => (h.2.2 a p).2 (k, j) hk x o (z ▸ e)
end K7s
set_option maxRecDepth 20000 in
set_option maxHeartbeats 1000000 in
theorem kw_X0_end_0 {Q : HS → Prop} {v0 : Nat} {S0 S : HS} (h : P_X0_end_0 Q v0 S) (K : K7 S0 S) : P_X0_end_0 (fun T => Q T ∧ K7 S0 T) v0 S := by
  delta P_X0_end_0 at h ⊢
  obtain ⟨c1, h⟩ := h
  refine ⟨c1, ?_⟩
  have n2 := k7_nk K c1 (by decide)
  intro x4 e3
  have h := h x4 e3
  have K := k7_I K e3 n2
  intro x6 e5
  have h := h x6 e5
  have K := k7_I K e5 n2
  intro x8 e7
  have h := h x8 e7
  have K := k7_I K e7 n2
  exact ⟨h, K⟩
theorem kw_X0_end {Q : HS → Prop} {v0 : Nat} {S : HS} (h : P_X0_end v0 Q S) : P_X0_end v0 (fun T => Q T ∧ K7 S T) S := kw_X0_end_0 h (k7_rf S)
set_option maxRecDepth 20000 in
set_option maxHeartbeats 1000000 in
theorem kwB_X0_begin_28 {Q : HS → Prop} {X28 X28_2 : Nat → Int32 → HS → Prop} {v0 : Nat} {v4 : Int32} {S0 S : HS} (h : B_X0_begin_28 Q X28 v0 v4 S) (K : K7 S0 S) (hX28 : ∀ (u0 : Nat) (u1 : Int32) (u2 : HS), X28 u0 u1 u2 → K7 S0 u2 → X28_2 u0 u1 u2) : B_X0_begin_28 (fun T => Q T ∧ K7 S0 T) X28_2 v0 v4 S := by
  delta B_X0_begin_28 at h ⊢
  refine ⟨?_, ?_⟩
  · intro c1
    have h := h.1 c1
    exact ⟨h, K⟩
  · intro c2
    have h := h.2 c2
    obtain ⟨c3, h⟩ := h
    refine ⟨c3, ?_⟩
    have n4 := k7_nk K c3 (by decide)
    obtain ⟨b5, e6, h⟩ := h
    refine ⟨b5, e6, ?_⟩
    obtain ⟨c7, h⟩ := h
    refine ⟨c7, ?_⟩
    have n8 := k7_nk K c7 (by decide)
    obtain ⟨b9, e10, h⟩ := h
    refine ⟨b9, e10, ?_⟩
    obtain ⟨c11, h⟩ := h
    refine ⟨c11, ?_⟩
    have n12 := k7_nk K c11 (by decide)
    obtain ⟨c13, h⟩ := h
    refine ⟨c13, ?_⟩
    intro x15 e14
    have h := h x15 e14
    have K := k7_J K e14
    intro x17 e16
    have h := h x17 e16
    exact hX28 _ _ _ h K
theorem kw_X0_begin_28 {Q : HS → Prop} {v0 : Nat} {v4 : Int32} {S0 S : HS} (h : P_X0_begin_28 Q v0 v4 S) (K : K7 S0 S) : P_X0_begin_28 (fun T => Q T ∧ K7 S0 T) v0 v4 S := h (fun v0 v4 S => K7 S0 S → P_X0_begin_28 (fun T => Q T ∧ K7 S0 T) v0 v4 S) (fun v0 v4 S hB K => fd_X0_begin_28 (kwB_X0_begin_28 hB K (fun _ _ _ hx K => hx K))) K
set_option maxRecDepth 20000 in
set_option maxHeartbeats 1000000 in
theorem kw_X0_begin_0 {Q : HS → Prop} {v0 : Nat} {v1 : Int32} {v2 : Int32} {v3 : Int32} {S0 S : HS} (h : P_X0_begin_0 Q v0 v1 v2 v3 S) (K : K7 S0 S) : P_X0_begin_0 (fun T => Q T ∧ K7 S0 T) v0 v1 v2 v3 S := by
  delta P_X0_begin_0 at h ⊢
  obtain ⟨c1, h⟩ := h
  refine ⟨c1, ?_⟩
  have n2 := k7_nk K c1 (by decide)
  refine cm_X0_end (kw_X0_end h) h (fun x3 p5 h g4 => ?_)
  have h := h g4
  have K := k7_tr K p5.2
  intro x7 e6
  have h := h x7 e6
  have K := k7_I K e6 n2
  obtain ⟨b8, e9, h⟩ := h
  refine ⟨b8, e9, ?_⟩
  obtain ⟨c10, h⟩ := h
  refine ⟨c10, ?_⟩
  have n11 := k7_nk K c10 (by decide)
  intro x13 e12
  have h := h x13 e12
  have K := k7_I K e12 n11
  obtain ⟨b14, e15, h⟩ := h
  refine ⟨b14, e15, ?_⟩
  obtain ⟨c16, h⟩ := h
  refine ⟨c16, ?_⟩
  have n17 := k7_nk K c16 (by decide)
  intro x19 e18
  have h := h x19 e18
  have K := k7_I K e18 n17
  exact kw_X0_begin_28 h K
theorem kw_X0_begin {Q : HS → Prop} {v0 : Nat} {v1 : Int32} {v2 : Int32} {v3 : Int32} {S : HS} (h : P_X0_begin v0 v1 v2 v3 Q S) : P_X0_begin v0 v1 v2 v3 (fun T => Q T ∧ K7 S T) S := kw_X0_begin_0 h (k7_rf S)
set_option maxRecDepth 20000 in
set_option maxHeartbeats 1000000 in
theorem kw_X0_draw_60 {Q : HS → Prop} {X10 X10_2 : Nat → Nat → Int32 → Int32 → HS → Prop} {v0 : Nat} {v1 : Nat} {v3 : Int32} {v4 : Int32} {S0 S : HS} (h : P_X0_draw_60 Q X10 v0 v1 v3 v4 S) (K : K7 S0 S) (hX10 : ∀ (u0 : Nat) (u1 : Nat) (u2 : Int32) (u3 : Int32) (u4 : HS), X10 u0 u1 u2 u3 u4 → K7 S0 u4 → X10_2 u0 u1 u2 u3 u4) : P_X0_draw_60 (fun T => Q T ∧ K7 S0 T) X10_2 v0 v1 v3 v4 S := by
  delta P_X0_draw_60 at h ⊢
  intro x2 e1
  have h := h x2 e1
  exact hX10 _ _ _ _ _ h K
set_option maxRecDepth 20000 in
set_option maxHeartbeats 1000000 in
theorem kwB_X0_draw_10 {Q : HS → Prop} {X10 X10_2 : Nat → Nat → Int32 → Int32 → HS → Prop} {v0 : Nat} {v1 : Nat} {v3 : Int32} {v4 : Int32} {S0 S : HS} (h : B_X0_draw_10 Q X10 v0 v1 v3 v4 S) (K : K7 S0 S) (hX10 : ∀ (u0 : Nat) (u1 : Nat) (u2 : Int32) (u3 : Int32) (u4 : HS), X10 u0 u1 u2 u3 u4 → K7 S0 u4 → X10_2 u0 u1 u2 u3 u4) : B_X0_draw_10 (fun T => Q T ∧ K7 S0 T) X10_2 v0 v1 v3 v4 S := by
  delta B_X0_draw_10 at h ⊢
  obtain ⟨c1, h⟩ := h
  refine ⟨c1, ?_⟩
  have n2 := k7_nk K c1 (by decide)
  intro x4 e3
  have h := h x4 e3
  refine ⟨?_, ?_⟩
  · intro c5
    have h := h.1 c5
    exact ⟨h, K⟩
  · intro c6
    have h := h.2 c6
    intro x8 e7
    have h := h x8 e7
    intro x10 e9
    have h := h x10 e9
    obtain ⟨b11, e12, h⟩ := h
    refine ⟨b11, e12, ?_⟩
    obtain ⟨c13, h⟩ := h
    refine ⟨c13, ?_⟩
    have n14 := k7_nk K c13 (by decide)
    obtain ⟨c15, h⟩ := h
    refine ⟨c15, ?_⟩
    obtain ⟨b16, e17, h⟩ := h
    refine ⟨b16, e17, ?_⟩
    obtain ⟨c18, h⟩ := h
    refine ⟨c18, ?_⟩
    have n19 := k7_nk K c18 (by decide)
    intro x21 e20
    have h := h x21 e20
    refine ⟨?_, ?_⟩
    · intro c22
      have h := h.1 c22
      exact kw_X0_draw_60 h K hX10
    · intro c23
      have h := h.2 c23
      obtain ⟨c24, h⟩ := h
      refine ⟨c24, ?_⟩
      have n25 := k7_nk K c24 (by decide)
      intro x27 e26
      have h := h x27 e26
      intro x29 e28
      have h := h x29 e28
      intro x31 e30
      have h := h x31 e30
      have K := k7_I K e30 n25
      exact kw_X0_draw_60 h K hX10
theorem kw_X0_draw_10 {Q : HS → Prop} {v0 : Nat} {v1 : Nat} {v3 : Int32} {v4 : Int32} {S0 S : HS} (h : P_X0_draw_10 Q v0 v1 v3 v4 S) (K : K7 S0 S) : P_X0_draw_10 (fun T => Q T ∧ K7 S0 T) v0 v1 v3 v4 S := h (fun v0 v1 v3 v4 S => K7 S0 S → P_X0_draw_10 (fun T => Q T ∧ K7 S0 T) v0 v1 v3 v4 S) (fun v0 v1 v3 v4 S hB K => fd_X0_draw_10 (kwB_X0_draw_10 hB K (fun _ _ _ _ _ hx K => hx K))) K
set_option maxRecDepth 20000 in
set_option maxHeartbeats 1000000 in
theorem kw_X0_draw_0 {Q : HS → Prop} {v0 : Nat} {v1 : Nat} {v2 : Int32} {S0 S : HS} (h : P_X0_draw_0 Q v0 v1 v2 S) (K : K7 S0 S) : P_X0_draw_0 (fun T => Q T ∧ K7 S0 T) v0 v1 v2 S := by
  delta P_X0_draw_0 at h ⊢
  obtain ⟨c1, h⟩ := h
  refine ⟨c1, ?_⟩
  have n2 := k7_nk K c1 (by decide)
  intro x4 e3
  have h := h x4 e3
  have K := k7_I K e3 n2
  exact kw_X0_draw_10 h K
theorem kw_X0_draw {Q : HS → Prop} {v0 : Nat} {v1 : Nat} {v2 : Int32} {S : HS} (h : P_X0_draw v0 v1 v2 Q S) : P_X0_draw v0 v1 v2 (fun T => Q T ∧ K7 S T) S := kw_X0_draw_0 h (k7_rf S)
set_option maxRecDepth 20000 in
set_option maxHeartbeats 1000000 in
theorem kw_X0_isOn_0 {Q : Int32 → HS → Prop} {v0 : Nat} {S0 S : HS} (h : P_X0_isOn_0 Q v0 S) (K : K7 S0 S) : P_X0_isOn_0 (fun r T => Q r T ∧ K7 S0 T) v0 S := by
  delta P_X0_isOn_0 at h ⊢
  obtain ⟨c1, h⟩ := h
  refine ⟨c1, ?_⟩
  have n2 := k7_nk K c1 (by decide)
  intro x4 e3
  have h := h x4 e3
  refine ⟨?_, ?_⟩
  · intro c5
    have h := h.1 c5
    exact ⟨h, K⟩
  · intro c6
    have h := h.2 c6
    exact ⟨h, K⟩
theorem kw_X0_isOn {Q : Int32 → HS → Prop} {v0 : Nat} {S : HS} (h : P_X0_isOn v0 Q S) : P_X0_isOn v0 (fun r T => Q r T ∧ K7 S T) S := kw_X0_isOn_0 h (k7_rf S)
set_option maxRecDepth 20000 in
set_option maxHeartbeats 1000000 in
theorem kwB_X2_copy_18 {Q : HS → Prop} {X18 X18_2 : Nat → Nat → Int32 → HS → Prop} {v0 : Nat} {v1 : Nat} {v2 : Int32} {S0 S : HS} (h : B_X2_copy_18 Q X18 v0 v1 v2 S) (K : K7 S0 S) (hX18 : ∀ (u0 : Nat) (u1 : Nat) (u2 : Int32) (u3 : HS), X18 u0 u1 u2 u3 → K7 S0 u3 → X18_2 u0 u1 u2 u3) : B_X2_copy_18 (fun T => Q T ∧ K7 S0 T) X18_2 v0 v1 v2 S := by
  delta B_X2_copy_18 at h ⊢
  refine ⟨?_, ?_⟩
  · intro c1
    have h := h.1 c1
    exact ⟨h, K⟩
  · intro c2
    have h := h.2 c2
    obtain ⟨c3, h⟩ := h
    refine ⟨c3, ?_⟩
    have n4 := k7_nk K c3 (by decide)
    obtain ⟨b5, e6, h⟩ := h
    refine ⟨b5, e6, ?_⟩
    obtain ⟨c7, h⟩ := h
    refine ⟨c7, ?_⟩
    have n8 := k7_nk K c7 (by decide)
    obtain ⟨b9, e10, h⟩ := h
    refine ⟨b9, e10, ?_⟩
    obtain ⟨c11, h⟩ := h
    refine ⟨c11, ?_⟩
    have n12 := k7_nk K c11 (by decide)
    obtain ⟨c13, h⟩ := h
    refine ⟨c13, ?_⟩
    intro x15 e14
    have h := h x15 e14
    obtain ⟨c16, h⟩ := h
    refine ⟨c16, ?_⟩
    have n17 := k7_nk K c16 (by decide)
    obtain ⟨c18, h⟩ := h
    refine ⟨c18, ?_⟩
    intro x20 e19
    have h := h x20 e19
    have K := k7_J K e19
    intro x22 e21
    have h := h x22 e21
    exact hX18 _ _ _ _ h K
theorem kw_X2_copy_18 {Q : HS → Prop} {v0 : Nat} {v1 : Nat} {v2 : Int32} {S0 S : HS} (h : P_X2_copy_18 Q v0 v1 v2 S) (K : K7 S0 S) : P_X2_copy_18 (fun T => Q T ∧ K7 S0 T) v0 v1 v2 S := h (fun v0 v1 v2 S => K7 S0 S → P_X2_copy_18 (fun T => Q T ∧ K7 S0 T) v0 v1 v2 S) (fun v0 v1 v2 S hB K => fd_X2_copy_18 (kwB_X2_copy_18 hB K (fun _ _ _ _ hx K => hx K))) K
set_option maxRecDepth 20000 in
set_option maxHeartbeats 1000000 in
theorem kw_X2_copy_0 {Q : HS → Prop} {v0 : Nat} {v1 : Nat} {S0 S : HS} (h : P_X2_copy_0 Q v0 v1 S) (K : K7 S0 S) : P_X2_copy_0 (fun T => Q T ∧ K7 S0 T) v0 v1 S := by
  delta P_X2_copy_0 at h ⊢
  obtain ⟨c1, h⟩ := h
  refine ⟨c1, ?_⟩
  have n2 := k7_nk K c1 (by decide)
  intro x4 e3
  have h := h x4 e3
  obtain ⟨c5, h⟩ := h
  refine ⟨c5, ?_⟩
  have n6 := k7_nk K c5 (by decide)
  intro x8 e7
  have h := h x8 e7
  have K := k7_I K e7 n6
  intro x10 e9
  have h := h x10 e9
  intro x12 e11
  have h := h x12 e11
  have K := k7_I K e11 n6
  exact kw_X2_copy_18 h K
theorem kw_X2_copy {Q : HS → Prop} {v0 : Nat} {v1 : Nat} {S : HS} (h : P_X2_copy v0 v1 Q S) : P_X2_copy v0 v1 (fun T => Q T ∧ K7 S T) S := kw_X2_copy_0 h (k7_rf S)
set_option maxRecDepth 20000 in
set_option maxHeartbeats 1000000 in
theorem kw_X0_keepForUndo_58 {Q : HS → Prop} {v0 : Nat} {S0 S : HS} (h : P_X0_keepForUndo_58 Q v0 S) (K : K7 S0 S) : P_X0_keepForUndo_58 (fun T => Q T ∧ K7 S0 T) v0 S := by
  delta P_X0_keepForUndo_58 at h ⊢
  obtain ⟨c1, h⟩ := h
  refine ⟨c1, ?_⟩
  have n2 := k7_nk K c1 (by decide)
  obtain ⟨b3, e4, h⟩ := h
  refine ⟨b3, e4, ?_⟩
  intro x6 e5
  have h := h x6 e5
  obtain ⟨c7, h⟩ := h
  refine ⟨c7, ?_⟩
  have n8 := k7_nk K c7 (by decide)
  obtain ⟨c9, h⟩ := h
  refine ⟨c9, ?_⟩
  obtain ⟨b10, e11, h⟩ := h
  refine ⟨b10, e11, ?_⟩
  obtain ⟨b12, e13, h⟩ := h
  refine ⟨b12, e13, ?_⟩
  obtain ⟨c14, h⟩ := h
  refine ⟨c14, ?_⟩
  have n15 := k7_nk K c14 (by decide)
  refine cm_X2_copy (kw_X2_copy h) h (fun x16 p18 h g17 => ?_)
  have h := h g17
  have K := k7_tr K p18.2
  intro x20 e19
  have h := h x20 e19
  intro x22 e21
  have h := h x22 e21
  intro x24 e23
  have h := h x24 e23
  have K := k7_I K e23 n2
  exact ⟨h, K⟩
set_option maxRecDepth 20000 in
set_option maxHeartbeats 1000000 in
theorem kwB_X0_keepForUndo_18 {Q : HS → Prop} {X18 X18_2 : Nat → Nat → Int32 → HS → Prop} {v0 : Nat} {v1 : Nat} {v2 : Int32} {S0 S : HS} (h : B_X0_keepForUndo_18 Q X18 v0 v1 v2 S) (K : K7 S0 S) (hX18 : ∀ (u0 : Nat) (u1 : Nat) (u2 : Int32) (u3 : HS), X18 u0 u1 u2 u3 → K7 S0 u3 → X18_2 u0 u1 u2 u3) : B_X0_keepForUndo_18 (fun T => Q T ∧ K7 S0 T) X18_2 v0 v1 v2 S := by
  delta B_X0_keepForUndo_18 at h ⊢
  refine ⟨?_, ?_⟩
  · intro c1
    have h := h.1 c1
    obtain ⟨c2, h⟩ := h
    refine ⟨c2, ?_⟩
    have n3 := k7_nk K c2 (by decide)
    obtain ⟨b4, e5, h⟩ := h
    refine ⟨b4, e5, ?_⟩
    obtain ⟨c6, h⟩ := h
    refine ⟨c6, ?_⟩
    have n7 := k7_nk K c6 (by decide)
    have o8 := c6
    obtain ⟨c9, h⟩ := h
    refine ⟨c9, ?_⟩
    have n10 := k7_nk K c9 (by decide)
    obtain ⟨c11, h⟩ := h
    refine ⟨c11, ?_⟩
    intro x13 e12
    have h := h x13 e12
    have K := k7_RA K e12 o8 (by decide) (by decide)
    have o8 := ob_wR o8 e12
    intro x15 e14
    have h := h x15 e14
    have K := k7_I K e14 n3
    have o8 := ob_wI o8 e14
    exact kw_X0_keepForUndo_58 h K
  · intro c16
    have h := h.2 c16
    obtain ⟨c17, h⟩ := h
    refine ⟨c17, ?_⟩
    have n18 := k7_nk K c17 (by decide)
    obtain ⟨b19, e20, h⟩ := h
    refine ⟨b19, e20, ?_⟩
    obtain ⟨b21, e22, h⟩ := h
    refine ⟨b21, e22, ?_⟩
    obtain ⟨c23, h⟩ := h
    refine ⟨c23, ?_⟩
    have n24 := k7_nk K c23 (by decide)
    obtain ⟨c25, h⟩ := h
    refine ⟨c25, ?_⟩
    obtain ⟨b26, e27, h⟩ := h
    refine ⟨b26, e27, ?_⟩
    obtain ⟨c28, h⟩ := h
    refine ⟨c28, ?_⟩
    have n29 := k7_nk K c28 (by decide)
    have o30 := c28
    obtain ⟨c31, h⟩ := h
    refine ⟨c31, ?_⟩
    have n32 := k7_nk K c31 (by decide)
    obtain ⟨c33, h⟩ := h
    refine ⟨c33, ?_⟩
    intro x35 e34
    have h := h x35 e34
    have K := k7_RA K e34 o30 (by decide) (by decide)
    have o30 := ob_wR o30 e34
    intro x37 e36
    have h := h x37 e36
    exact hX18 _ _ _ _ h K
theorem kw_X0_keepForUndo_18 {Q : HS → Prop} {v0 : Nat} {v1 : Nat} {v2 : Int32} {S0 S : HS} (h : P_X0_keepForUndo_18 Q v0 v1 v2 S) (K : K7 S0 S) : P_X0_keepForUndo_18 (fun T => Q T ∧ K7 S0 T) v0 v1 v2 S := h (fun v0 v1 v2 S => K7 S0 S → P_X0_keepForUndo_18 (fun T => Q T ∧ K7 S0 T) v0 v1 v2 S) (fun v0 v1 v2 S hB K => fd_X0_keepForUndo_18 (kwB_X0_keepForUndo_18 hB K (fun _ _ _ _ hx K => hx K))) K
set_option maxRecDepth 20000 in
set_option maxHeartbeats 1000000 in
theorem kw_X0_keepForUndo_0 {Q : HS → Prop} {v0 : Nat} {S0 S : HS} (h : P_X0_keepForUndo_0 Q v0 S) (K : K7 S0 S) : P_X0_keepForUndo_0 (fun T => Q T ∧ K7 S0 T) v0 S := by
  delta P_X0_keepForUndo_0 at h ⊢
  obtain ⟨c1, h⟩ := h
  refine ⟨c1, ?_⟩
  have n2 := k7_nk K c1 (by decide)
  intro x4 e3
  have h := h x4 e3
  refine ⟨?_, ?_⟩
  · intro c5
    have h := h.1 c5
    exact kw_X0_keepForUndo_58 h K
  · intro c6
    have h := h.2 c6
    obtain ⟨b7, e8, h⟩ := h
    refine ⟨b7, e8, ?_⟩
    obtain ⟨c9, h⟩ := h
    refine ⟨c9, ?_⟩
    have n10 := k7_nk K c9 (by decide)
    obtain ⟨c11, h⟩ := h
    refine ⟨c11, ?_⟩
    obtain ⟨b12, e13, h⟩ := h
    refine ⟨b12, e13, ?_⟩
    exact kw_X0_keepForUndo_18 h K
theorem kw_X0_keepForUndo {Q : HS → Prop} {v0 : Nat} {S : HS} (h : P_X0_keepForUndo v0 Q S) : P_X0_keepForUndo v0 (fun T => Q T ∧ K7 S T) S := kw_X0_keepForUndo_0 h (k7_rf S)
set_option maxRecDepth 20000 in
set_option maxHeartbeats 1000000 in
theorem kw_X0_rainsIn_0 {Q : Int32 → HS → Prop} {v0 : Nat} {v1 : Int32} {S0 S : HS} (h : P_X0_rainsIn_0 Q v0 v1 S) (K : K7 S0 S) : P_X0_rainsIn_0 (fun r T => Q r T ∧ K7 S0 T) v0 v1 S := by
  delta P_X0_rainsIn_0 at h ⊢
  refine ⟨?_, ?_⟩
  · intro c1
    have h := h.1 c1
    exact ⟨h, K⟩
  · intro c2
    have h := h.2 c2
    refine ⟨?_, ?_⟩
    · intro c3
      have h := h.1 c3
      exact ⟨h, K⟩
    · intro c4
      have h := h.2 c4
      obtain ⟨c5, h⟩ := h
      refine ⟨c5, ?_⟩
      have n6 := k7_nk K c5 (by decide)
      intro x8 e7
      have h := h x8 e7
      refine ⟨?_, ?_⟩
      · intro c9
        have h := h.1 c9
        exact ⟨h, K⟩
      · intro c10
        have h := h.2 c10
        exact ⟨h, K⟩
theorem kw_X0_rainsIn {Q : Int32 → HS → Prop} {v0 : Nat} {v1 : Int32} {S : HS} (h : P_X0_rainsIn v0 v1 Q S) : P_X0_rainsIn v0 v1 (fun r T => Q r T ∧ K7 S T) S := kw_X0_rainsIn_0 h (k7_rf S)
set_option maxRecDepth 20000 in
set_option maxHeartbeats 1000000 in
theorem kw_X0_returnTo_0 {Q : Int32 → HS → Prop} {v0 : Nat} {v1 : Int32} {S0 S : HS} (h : P_X0_returnTo_0 Q v0 v1 S) (K : K7 S0 S) : P_X0_returnTo_0 (fun r T => Q r T ∧ K7 S0 T) v0 v1 S := by
  delta P_X0_returnTo_0 at h ⊢
  refine ⟨?_, ?_⟩
  · intro c1
    have h := h.1 c1
    exact ⟨h, K⟩
  · intro c2
    have h := h.2 c2
    obtain ⟨c3, h⟩ := h
    refine ⟨c3, ?_⟩
    have n4 := k7_nk K c3 (by decide)
    intro x6 e5
    have h := h x6 e5
    refine ⟨?_, ?_⟩
    · intro c7
      have h := h.1 c7
      obtain ⟨b8, e9, h⟩ := h
      refine ⟨b8, e9, ?_⟩
      obtain ⟨b10, e11, h⟩ := h
      refine ⟨b10, e11, ?_⟩
      obtain ⟨c12, h⟩ := h
      refine ⟨c12, ?_⟩
      have n13 := k7_nk K c12 (by decide)
      obtain ⟨c14, h⟩ := h
      refine ⟨c14, ?_⟩
      obtain ⟨b15, e16, h⟩ := h
      refine ⟨b15, e16, ?_⟩
      obtain ⟨c17, h⟩ := h
      refine ⟨c17, ?_⟩
      have n18 := k7_nk K c17 (by decide)
      refine cm_X2_copy (kw_X2_copy h) h (fun x19 p21 h g20 => ?_)
      have h := h g20
      have K := k7_tr K p21.2
      intro x23 e22
      have h := h x23 e22
      have K := k7_I K e22 n4
      exact ⟨h, K⟩
    · intro c24
      have h := h.2 c24
      exact ⟨h, K⟩
theorem kw_X0_returnTo {Q : Int32 → HS → Prop} {v0 : Nat} {v1 : Int32} {S : HS} (h : P_X0_returnTo v0 v1 Q S) : P_X0_returnTo v0 v1 (fun r T => Q r T ∧ K7 S T) S := kw_X0_returnTo_0 h (k7_rf S)
set_option maxRecDepth 20000 in
set_option maxHeartbeats 1000000 in
theorem kw_X0_setMark_0 {Q : Int32 → HS → Prop} {v0 : Nat} {S0 S : HS} (h : P_X0_setMark_0 Q v0 S) (K : K7 S0 S) : P_X0_setMark_0 (fun r T => Q r T ∧ K7 S0 T) v0 S := by
  delta P_X0_setMark_0 at h ⊢
  obtain ⟨c1, h⟩ := h
  refine ⟨c1, ?_⟩
  have n2 := k7_nk K c1 (by decide)
  intro x4 e3
  have h := h x4 e3
  refine ⟨?_, ?_⟩
  · intro c5
    have h := h.1 c5
    obtain ⟨b6, e7, h⟩ := h
    refine ⟨b6, e7, ?_⟩
    intro x9 e8
    have h := h x9 e8
    obtain ⟨c10, h⟩ := h
    refine ⟨c10, ?_⟩
    have n11 := k7_nk K c10 (by decide)
    obtain ⟨c12, h⟩ := h
    refine ⟨c12, ?_⟩
    obtain ⟨b13, e14, h⟩ := h
    refine ⟨b13, e14, ?_⟩
    obtain ⟨b15, e16, h⟩ := h
    refine ⟨b15, e16, ?_⟩
    obtain ⟨c17, h⟩ := h
    refine ⟨c17, ?_⟩
    have n18 := k7_nk K c17 (by decide)
    refine cm_X2_copy (kw_X2_copy h) h (fun x19 p21 h g20 => ?_)
    have h := h g20
    have K := k7_tr K p21.2
    intro x23 e22
    have h := h x23 e22
    intro x25 e24
    have h := h x25 e24
    intro x27 e26
    have h := h x27 e26
    have K := k7_I K e26 n2
    intro x29 e28
    have h := h x29 e28
    exact ⟨h, K⟩
  · intro c30
    have h := h.2 c30
    exact ⟨h, K⟩
theorem kw_X0_setMark {Q : Int32 → HS → Prop} {v0 : Nat} {S : HS} (h : P_X0_setMark v0 Q S) : P_X0_setMark v0 (fun r T => Q r T ∧ K7 S T) S := kw_X0_setMark_0 h (k7_rf S)
set_option maxRecDepth 20000 in
set_option maxHeartbeats 1000000 in
theorem kw_X0_takeBack_0 {Q : Int32 → HS → Prop} {v0 : Nat} {S0 S : HS} (h : P_X0_takeBack_0 Q v0 S) (K : K7 S0 S) : P_X0_takeBack_0 (fun r T => Q r T ∧ K7 S0 T) v0 S := by
  delta P_X0_takeBack_0 at h ⊢
  obtain ⟨c1, h⟩ := h
  refine ⟨c1, ?_⟩
  have n2 := k7_nk K c1 (by decide)
  intro x4 e3
  have h := h x4 e3
  refine ⟨?_, ?_⟩
  · intro c5
    have h := h.1 c5
    intro x7 e6
    have h := h x7 e6
    intro x9 e8
    have h := h x9 e8
    intro x11 e10
    have h := h x11 e10
    have K := k7_I K e10 n2
    obtain ⟨b12, e13, h⟩ := h
    refine ⟨b12, e13, ?_⟩
    obtain ⟨b14, e15, h⟩ := h
    refine ⟨b14, e15, ?_⟩
    intro x17 e16
    have h := h x17 e16
    obtain ⟨c18, h⟩ := h
    refine ⟨c18, ?_⟩
    have n19 := k7_nk K c18 (by decide)
    obtain ⟨c20, h⟩ := h
    refine ⟨c20, ?_⟩
    obtain ⟨b21, e22, h⟩ := h
    refine ⟨b21, e22, ?_⟩
    obtain ⟨c23, h⟩ := h
    refine ⟨c23, ?_⟩
    have n24 := k7_nk K c23 (by decide)
    refine cm_X2_copy (kw_X2_copy h) h (fun x25 p27 h g26 => ?_)
    have h := h g26
    have K := k7_tr K p27.2
    exact ⟨h, K⟩
  · intro c28
    have h := h.2 c28
    exact ⟨h, K⟩
theorem kw_X0_takeBack {Q : Int32 → HS → Prop} {v0 : Nat} {S : HS} (h : P_X0_takeBack v0 Q S) : P_X0_takeBack v0 (fun r T => Q r T ∧ K7 S T) S := kw_X0_takeBack_0 h (k7_rf S)
set_option maxRecDepth 20000 in
set_option maxHeartbeats 1000000 in
theorem kw_X10_facing_0 {Q : Int32 → HS → Prop} {v0 : Nat} {v1 : Int32} {v2 : Int32} {S0 S : HS} (h : P_X10_facing_0 Q v0 v1 v2 S) (K : K7 S0 S) : P_X10_facing_0 (fun r T => Q r T ∧ K7 S0 T) v0 v1 v2 S := by
  delta P_X10_facing_0 at h ⊢
  refine ⟨?_, ?_⟩
  · intro c1
    have h := h.1 c1
    obtain ⟨c2, h⟩ := h
    refine ⟨c2, ?_⟩
    have n3 := k7_nk K c2 (by decide)
    obtain ⟨b4, e5, h⟩ := h
    refine ⟨b4, e5, ?_⟩
    obtain ⟨c6, h⟩ := h
    refine ⟨c6, ?_⟩
    obtain ⟨c7, h⟩ := h
    refine ⟨c7, ?_⟩
    intro x9 e8
    have h := h x9 e8
    exact ⟨h, K⟩
  · intro c10
    have h := h.2 c10
    obtain ⟨c11, h⟩ := h
    refine ⟨c11, ?_⟩
    have n12 := k7_nk K c11 (by decide)
    obtain ⟨b13, e14, h⟩ := h
    refine ⟨b13, e14, ?_⟩
    obtain ⟨c15, h⟩ := h
    refine ⟨c15, ?_⟩
    obtain ⟨c16, h⟩ := h
    refine ⟨c16, ?_⟩
    intro x18 e17
    have h := h x18 e17
    exact ⟨h, K⟩
theorem kw_X10_facing {Q : Int32 → HS → Prop} {v0 : Nat} {v1 : Int32} {v2 : Int32} {S : HS} (h : P_X10_facing v0 v1 v2 Q S) : P_X10_facing v0 v1 v2 (fun r T => Q r T ∧ K7 S T) S := kw_X10_facing_0 h (k7_rf S)
set_option maxRecDepth 20000 in
set_option maxHeartbeats 1000000 in
theorem kw_X10_across_0 {Q : Int32 → HS → Prop} {v0 : Nat} {v1 : Int32} {v2 : Int32} {v3 : Int32} {S0 S : HS} (h : P_X10_across_0 Q v0 v1 v2 v3 S) (K : K7 S0 S) : P_X10_across_0 (fun r T => Q r T ∧ K7 S0 T) v0 v1 v2 v3 S := by
  delta P_X10_across_0 at h ⊢
  obtain ⟨c1, h⟩ := h
  refine ⟨c1, ?_⟩
  have n2 := k7_nk K c1 (by decide)
  obtain ⟨b3, e4, h⟩ := h
  refine ⟨b3, e4, ?_⟩
  obtain ⟨c5, h⟩ := h
  refine ⟨c5, ?_⟩
  obtain ⟨c6, h⟩ := h
  refine ⟨c6, ?_⟩
  intro x8 e7
  have h := h x8 e7
  refine cm_X10_facing (kw_X10_facing h) h (fun x9 x10 p12 h g11 => ?_)
  have h := h g11
  have K := k7_tr K p12.2
  intro x14 e13
  have h := h x14 e13
  refine ⟨?_, ?_⟩
  · intro c15
    have h := h.1 c15
    refine ⟨?_, ?_⟩
    · intro c16
      have h := h.1 c16
      exact ⟨h, K⟩
    · intro c17
      have h := h.2 c17
      obtain ⟨b18, e19, h⟩ := h
      refine ⟨b18, e19, ?_⟩
      obtain ⟨c20, h⟩ := h
      refine ⟨c20, ?_⟩
      obtain ⟨c21, h⟩ := h
      refine ⟨c21, ?_⟩
      intro x23 e22
      have h := h x23 e22
      exact ⟨h, K⟩
  · intro c24
    have h := h.2 c24
    obtain ⟨b25, e26, h⟩ := h
    refine ⟨b25, e26, ?_⟩
    obtain ⟨c27, h⟩ := h
    refine ⟨c27, ?_⟩
    obtain ⟨c28, h⟩ := h
    refine ⟨c28, ?_⟩
    intro x30 e29
    have h := h x30 e29
    exact ⟨h, K⟩
theorem kw_X10_across {Q : Int32 → HS → Prop} {v0 : Nat} {v1 : Int32} {v2 : Int32} {v3 : Int32} {S : HS} (h : P_X10_across v0 v1 v2 v3 Q S) : P_X10_across v0 v1 v2 v3 (fun r T => Q r T ∧ K7 S T) S := kw_X10_across_0 h (k7_rf S)
set_option maxRecDepth 20000 in
set_option maxHeartbeats 1000000 in
theorem kw_X10_air_0 {Q : Int32 → HS → Prop} {v0 : Nat} {v1 : Int32} {v2 : Int32} {v3 : Int32} {S0 S : HS} (h : P_X10_air_0 Q v0 v1 v2 v3 S) (K : K7 S0 S) : P_X10_air_0 (fun r T => Q r T ∧ K7 S0 T) v0 v1 v2 v3 S := by
  delta P_X10_air_0 at h ⊢
  obtain ⟨c1, h⟩ := h
  refine ⟨c1, ?_⟩
  have n2 := k7_nk K c1 (by decide)
  obtain ⟨b3, e4, h⟩ := h
  refine ⟨b3, e4, ?_⟩
  obtain ⟨c5, h⟩ := h
  refine ⟨c5, ?_⟩
  obtain ⟨c6, h⟩ := h
  refine ⟨c6, ?_⟩
  intro x8 e7
  have h := h x8 e7
  refine cm_X10_facing (kw_X10_facing h) h (fun x9 x10 p12 h g11 => ?_)
  have h := h g11
  have K := k7_tr K p12.2
  intro x14 e13
  have h := h x14 e13
  refine ⟨?_, ?_⟩
  · intro c15
    have h := h.1 c15
    refine ⟨?_, ?_⟩
    · intro c16
      have h := h.1 c16
      exact ⟨h, K⟩
    · intro c17
      have h := h.2 c17
      obtain ⟨b18, e19, h⟩ := h
      refine ⟨b18, e19, ?_⟩
      obtain ⟨c20, h⟩ := h
      refine ⟨c20, ?_⟩
      obtain ⟨c21, h⟩ := h
      refine ⟨c21, ?_⟩
      intro x23 e22
      have h := h x23 e22
      exact ⟨h, K⟩
  · intro c24
    have h := h.2 c24
    obtain ⟨b25, e26, h⟩ := h
    refine ⟨b25, e26, ?_⟩
    obtain ⟨c27, h⟩ := h
    refine ⟨c27, ?_⟩
    obtain ⟨c28, h⟩ := h
    refine ⟨c28, ?_⟩
    intro x30 e29
    have h := h x30 e29
    exact ⟨h, K⟩
theorem kw_X10_air {Q : Int32 → HS → Prop} {v0 : Nat} {v1 : Int32} {v2 : Int32} {v3 : Int32} {S : HS} (h : P_X10_air v0 v1 v2 v3 Q S) : P_X10_air v0 v1 v2 v3 (fun r T => Q r T ∧ K7 S T) S := kw_X10_air_0 h (k7_rf S)
set_option maxRecDepth 20000 in
set_option maxHeartbeats 1000000 in
theorem kw_X10_begins_0 {Q : Int32 → HS → Prop} {v0 : Nat} {v1 : Int32} {v2 : Int32} {S0 S : HS} (h : P_X10_begins_0 Q v0 v1 v2 S) (K : K7 S0 S) : P_X10_begins_0 (fun r T => Q r T ∧ K7 S0 T) v0 v1 v2 S := by
  delta P_X10_begins_0 at h ⊢
  refine ⟨?_, ?_⟩
  · intro c1
    have h := h.1 c1
    obtain ⟨c2, h⟩ := h
    refine ⟨c2, ?_⟩
    have n3 := k7_nk K c2 (by decide)
    obtain ⟨b4, e5, h⟩ := h
    refine ⟨b4, e5, ?_⟩
    obtain ⟨c6, h⟩ := h
    refine ⟨c6, ?_⟩
    obtain ⟨c7, h⟩ := h
    refine ⟨c7, ?_⟩
    intro x9 e8
    have h := h x9 e8
    exact ⟨h, K⟩
  · intro c10
    have h := h.2 c10
    obtain ⟨c11, h⟩ := h
    refine ⟨c11, ?_⟩
    have n12 := k7_nk K c11 (by decide)
    obtain ⟨b13, e14, h⟩ := h
    refine ⟨b13, e14, ?_⟩
    obtain ⟨c15, h⟩ := h
    refine ⟨c15, ?_⟩
    obtain ⟨c16, h⟩ := h
    refine ⟨c16, ?_⟩
    intro x18 e17
    have h := h x18 e17
    exact ⟨h, K⟩
theorem kw_X10_begins {Q : Int32 → HS → Prop} {v0 : Nat} {v1 : Int32} {v2 : Int32} {S : HS} (h : P_X10_begins v0 v1 v2 Q S) : P_X10_begins v0 v1 v2 (fun r T => Q r T ∧ K7 S T) S := kw_X10_begins_0 h (k7_rf S)
set_option maxRecDepth 20000 in
set_option maxHeartbeats 1000000 in
theorem kw_X10_ends_0 {Q : Int32 → HS → Prop} {v0 : Nat} {v1 : Int32} {v2 : Int32} {S0 S : HS} (h : P_X10_ends_0 Q v0 v1 v2 S) (K : K7 S0 S) : P_X10_ends_0 (fun r T => Q r T ∧ K7 S0 T) v0 v1 v2 S := by
  delta P_X10_ends_0 at h ⊢
  refine ⟨?_, ?_⟩
  · intro c1
    have h := h.1 c1
    obtain ⟨c2, h⟩ := h
    refine ⟨c2, ?_⟩
    have n3 := k7_nk K c2 (by decide)
    obtain ⟨b4, e5, h⟩ := h
    refine ⟨b4, e5, ?_⟩
    obtain ⟨c6, h⟩ := h
    refine ⟨c6, ?_⟩
    obtain ⟨c7, h⟩ := h
    refine ⟨c7, ?_⟩
    intro x9 e8
    have h := h x9 e8
    exact ⟨h, K⟩
  · intro c10
    have h := h.2 c10
    obtain ⟨c11, h⟩ := h
    refine ⟨c11, ?_⟩
    have n12 := k7_nk K c11 (by decide)
    obtain ⟨b13, e14, h⟩ := h
    refine ⟨b13, e14, ?_⟩
    obtain ⟨c15, h⟩ := h
    refine ⟨c15, ?_⟩
    obtain ⟨c16, h⟩ := h
    refine ⟨c16, ?_⟩
    intro x18 e17
    have h := h x18 e17
    exact ⟨h, K⟩
theorem kw_X10_ends {Q : Int32 → HS → Prop} {v0 : Nat} {v1 : Int32} {v2 : Int32} {S : HS} (h : P_X10_ends v0 v1 v2 Q S) : P_X10_ends v0 v1 v2 (fun r T => Q r T ∧ K7 S T) S := kw_X10_ends_0 h (k7_rf S)
set_option maxRecDepth 20000 in
set_option maxHeartbeats 1000000 in
theorem kw_X10_minutes_0 {Q : Int32 → HS → Prop} {v0 : Nat} {v1 : Int32} {v2 : Int32} {S0 S : HS} (h : P_X10_minutes_0 Q v0 v1 v2 S) (K : K7 S0 S) : P_X10_minutes_0 (fun r T => Q r T ∧ K7 S0 T) v0 v1 v2 S := by
  delta P_X10_minutes_0 at h ⊢
  obtain ⟨c1, h⟩ := h
  refine ⟨c1, ?_⟩
  have n2 := k7_nk K c1 (by decide)
  obtain ⟨b3, e4, h⟩ := h
  refine ⟨b3, e4, ?_⟩
  obtain ⟨c5, h⟩ := h
  refine ⟨c5, ?_⟩
  obtain ⟨c6, h⟩ := h
  refine ⟨c6, ?_⟩
  intro x8 e7
  have h := h x8 e7
  obtain ⟨c9, h⟩ := h
  refine ⟨c9, ?_⟩
  intro x11 e10
  have h := h x11 e10
  exact ⟨h, K⟩
theorem kw_X10_minutes {Q : Int32 → HS → Prop} {v0 : Nat} {v1 : Int32} {v2 : Int32} {S : HS} (h : P_X10_minutes v0 v1 v2 Q S) : P_X10_minutes v0 v1 v2 (fun r T => Q r T ∧ K7 S T) S := kw_X10_minutes_0 h (k7_rf S)
set_option maxRecDepth 20000 in
set_option maxHeartbeats 1000000 in
theorem kw_X10_shield_0 {Q : Int32 → HS → Prop} {v0 : Nat} {v1 : Int32} {S0 S : HS} (h : P_X10_shield_0 Q v0 v1 S) (K : K7 S0 S) : P_X10_shield_0 (fun r T => Q r T ∧ K7 S0 T) v0 v1 S := by
  delta P_X10_shield_0 at h ⊢
  obtain ⟨c1, h⟩ := h
  refine ⟨c1, ?_⟩
  have n2 := k7_nk K c1 (by decide)
  obtain ⟨b3, e4, h⟩ := h
  refine ⟨b3, e4, ?_⟩
  obtain ⟨c5, h⟩ := h
  refine ⟨c5, ?_⟩
  obtain ⟨c6, h⟩ := h
  refine ⟨c6, ?_⟩
  intro x8 e7
  have h := h x8 e7
  refine ⟨?_, ?_⟩
  · intro c9
    have h := h.1 c9
    exact ⟨h, K⟩
  · intro c10
    have h := h.2 c10
    obtain ⟨b11, e12, h⟩ := h
    refine ⟨b11, e12, ?_⟩
    obtain ⟨c13, h⟩ := h
    refine ⟨c13, ?_⟩
    obtain ⟨c14, h⟩ := h
    refine ⟨c14, ?_⟩
    intro x16 e15
    have h := h x16 e15
    exact ⟨h, K⟩
theorem kw_X10_shield {Q : Int32 → HS → Prop} {v0 : Nat} {v1 : Int32} {S : HS} (h : P_X10_shield v0 v1 Q S) : P_X10_shield v0 v1 (fun r T => Q r T ∧ K7 S T) S := kw_X10_shield_0 h (k7_rf S)
set_option maxRecDepth 20000 in
set_option maxHeartbeats 1000000 in
theorem kw_X11_good_0 {Q : Int32 → HS → Prop} {v0 : Nat} {v1 : Int32} {S0 S : HS} (h : P_X11_good_0 Q v0 v1 S) (K : K7 S0 S) : P_X11_good_0 (fun r T => Q r T ∧ K7 S0 T) v0 v1 S := by
  delta P_X11_good_0 at h ⊢
  obtain ⟨c1, h⟩ := h
  refine ⟨c1, ?_⟩
  have n2 := k7_nk K c1 (by decide)
  have o3 := c1
  intro x5 e4
  have h := h x5 e4
  have K := k7_I K e4 n2
  have o3 := ob_wI o3 e4
  intro x7 e6
  have h := h x7 e6
  have K := k7_I K e6 n2
  have o3 := ob_wI o3 e6
  exact ⟨h, K⟩
theorem kw_X11_good {Q : Int32 → HS → Prop} {v0 : Nat} {v1 : Int32} {S : HS} (h : P_X11_good v0 v1 Q S) : P_X11_good v0 v1 (fun r T => Q r T ∧ K7 S T) S := kw_X11_good_0 h (k7_rf S)
set_option maxRecDepth 20000 in
set_option maxHeartbeats 1000000 in
theorem kw_X11_in_0 {Q : Int32 → HS → Prop} {v0 : Int32} {v1 : Int32} {v2 : Int32} {S0 S : HS} (h : P_X11_in_0 Q v0 v1 v2 S) (K : K7 S0 S) : P_X11_in_0 (fun r T => Q r T ∧ K7 S0 T) v0 v1 v2 S := by
  delta P_X11_in_0 at h ⊢
  refine ⟨?_, ?_⟩
  · intro c1
    have h := h.1 c1
    exact ⟨h, K⟩
  · intro c2
    have h := h.2 c2
    refine ⟨?_, ?_⟩
    · intro c3
      have h := h.1 c3
      exact ⟨h, K⟩
    · intro c4
      have h := h.2 c4
      exact ⟨h, K⟩
theorem kw_X11_in {Q : Int32 → HS → Prop} {v0 : Int32} {v1 : Int32} {v2 : Int32} {S : HS} (h : P_X11_in v0 v1 v2 Q S) : P_X11_in v0 v1 v2 (fun r T => Q r T ∧ K7 S T) S := kw_X11_in_0 h (k7_rf S)
set_option maxRecDepth 20000 in
set_option maxHeartbeats 1000000 in
theorem kw_X11_isHour_0 {Q : Int32 → HS → Prop} {v0 : Nat} {v1 : Int32} {S0 S : HS} (h : P_X11_isHour_0 Q v0 v1 S) (K : K7 S0 S) : P_X11_isHour_0 (fun r T => Q r T ∧ K7 S0 T) v0 v1 S := by
  delta P_X11_isHour_0 at h ⊢
  obtain ⟨c1, h⟩ := h
  refine ⟨c1, ?_⟩
  have n2 := k7_nk K c1 (by decide)
  have o3 := c1
  refine ⟨?_, ?_⟩
  · intro c4
    have h := h.1 c4
    exact ⟨h, K⟩
  · intro x5 c6
    have h := h.2 x5 c6
    refine ⟨?_, ?_⟩
    · intro c7
      have h := h.1 c7
      exact ⟨h, K⟩
    · intro c8
      have h := h.2 c8
      obtain ⟨b9, e10, h⟩ := h
      refine ⟨b9, e10, ?_⟩
      obtain ⟨c11, h⟩ := h
      refine ⟨c11, ?_⟩
      have n12 := k7_nk K c11 (by decide)
      intro x14 e13
      have h := h x14 e13
      refine ⟨?_, ?_⟩
      · intro c15
        have h := h.1 c15
        exact ⟨h, K⟩
      · intro c16
        have h := h.2 c16
        exact ⟨h, K⟩
theorem kw_X11_isHour {Q : Int32 → HS → Prop} {v0 : Nat} {v1 : Int32} {S : HS} (h : P_X11_isHour v0 v1 Q S) : P_X11_isHour v0 v1 (fun r T => Q r T ∧ K7 S T) S := kw_X11_isHour_0 h (k7_rf S)
set_option maxRecDepth 20000 in
set_option maxHeartbeats 1000000 in
theorem kw_X11_isRoad_0 {Q : Int32 → HS → Prop} {v0 : Nat} {v1 : Int32} {S0 S : HS} (h : P_X11_isRoad_0 Q v0 v1 S) (K : K7 S0 S) : P_X11_isRoad_0 (fun r T => Q r T ∧ K7 S0 T) v0 v1 S := by
  delta P_X11_isRoad_0 at h ⊢
  obtain ⟨c1, h⟩ := h
  refine ⟨c1, ?_⟩
  have n2 := k7_nk K c1 (by decide)
  have o3 := c1
  refine ⟨?_, ?_⟩
  · intro c4
    have h := h.1 c4
    exact ⟨h, K⟩
  · intro x5 c6
    have h := h.2 x5 c6
    refine ⟨?_, ?_⟩
    · intro c7
      have h := h.1 c7
      exact ⟨h, K⟩
    · intro c8
      have h := h.2 c8
      obtain ⟨b9, e10, h⟩ := h
      refine ⟨b9, e10, ?_⟩
      obtain ⟨c11, h⟩ := h
      refine ⟨c11, ?_⟩
      have n12 := k7_nk K c11 (by decide)
      intro x14 e13
      have h := h x14 e13
      refine ⟨?_, ?_⟩
      · intro c15
        have h := h.1 c15
        exact ⟨h, K⟩
      · intro c16
        have h := h.2 c16
        exact ⟨h, K⟩
theorem kw_X11_isRoad {Q : Int32 → HS → Prop} {v0 : Nat} {v1 : Int32} {S : HS} (h : P_X11_isRoad v0 v1 Q S) : P_X11_isRoad v0 v1 (fun r T => Q r T ∧ K7 S T) S := kw_X11_isRoad_0 h (k7_rf S)
set_option maxRecDepth 20000 in
set_option maxHeartbeats 1000000 in
theorem kw_X11_refused_0 {Q : Int32 → HS → Prop} {v0 : Nat} {v1 : Int32} {S0 S : HS} (h : P_X11_refused_0 Q v0 v1 S) (K : K7 S0 S) : P_X11_refused_0 (fun r T => Q r T ∧ K7 S0 T) v0 v1 S := by
  delta P_X11_refused_0 at h ⊢
  obtain ⟨c1, h⟩ := h
  refine ⟨c1, ?_⟩
  have n2 := k7_nk K c1 (by decide)
  have o3 := c1
  intro x5 e4
  have h := h x5 e4
  have K := k7_I K e4 n2
  have o3 := ob_wI o3 e4
  intro x7 e6
  have h := h x7 e6
  have K := k7_I K e6 n2
  have o3 := ob_wI o3 e6
  exact ⟨h, K⟩
theorem kw_X11_refused {Q : Int32 → HS → Prop} {v0 : Nat} {v1 : Int32} {S : HS} (h : P_X11_refused v0 v1 Q S) : P_X11_refused v0 v1 (fun r T => Q r T ∧ K7 S T) S := kw_X11_refused_0 h (k7_rf S)
set_option maxRecDepth 20000 in
set_option maxHeartbeats 1000000 in
theorem kw_X11_lost_0 {Q : Int32 → HS → Prop} {v0 : Nat} {v1 : Int32} {S0 S : HS} (h : P_X11_lost_0 Q v0 v1 S) (K : K7 S0 S) : P_X11_lost_0 (fun r T => Q r T ∧ K7 S0 T) v0 v1 S := by
  delta P_X11_lost_0 at h ⊢
  obtain ⟨c1, h⟩ := h
  refine ⟨c1, ?_⟩
  have n2 := k7_nk K c1 (by decide)
  have o3 := c1
  refine cm_X11_refused (kw_X11_refused h) h (fun x4 x5 p7 h g6 => ?_)
  have h := h g6
  have K := k7_tr K p7.2
  have o3 := gr_ob p7.2.1 o3
  exact ⟨h, K⟩
theorem kw_X11_lost {Q : Int32 → HS → Prop} {v0 : Nat} {v1 : Int32} {S : HS} (h : P_X11_lost v0 v1 Q S) : P_X11_lost v0 v1 (fun r T => Q r T ∧ K7 S T) S := kw_X11_lost_0 h (k7_rf S)
set_option maxRecDepth 20000 in
set_option maxHeartbeats 1000000 in
theorem kw_X11_air_30 {Q : Int32 → HS → Prop} {v0 : Nat} {S0 S : HS} (h : P_X11_air_30 Q v0 S) (K : K7 S0 S) : P_X11_air_30 (fun r T => Q r T ∧ K7 S0 T) v0 S := by
  delta P_X11_air_30 at h ⊢
  obtain ⟨c1, h⟩ := h
  refine ⟨c1, ?_⟩
  have n2 := k7_nk K c1 (by decide)
  have o3 := c1
  refine cm_X11_lost (kw_X11_lost h) h (fun x4 x5 p7 h g6 => ?_)
  have h := h g6
  have K := k7_tr K p7.2
  have o3 := gr_ob p7.2.1 o3
  exact ⟨h, K⟩
set_option maxRecDepth 20000 in
set_option maxHeartbeats 1000000 in
theorem kw_X11_air_0 {Q : Int32 → HS → Prop} {v0 : Nat} {v1 : Int32} {v2 : Int32} {v3 : Int32} {S0 S : HS} (h : P_X11_air_0 Q v0 v1 v2 v3 S) (K : K7 S0 S) : P_X11_air_0 (fun r T => Q r T ∧ K7 S0 T) v0 v1 v2 v3 S := by
  delta P_X11_air_0 at h ⊢
  obtain ⟨c1, h⟩ := h
  refine ⟨c1, ?_⟩
  have n2 := k7_nk K c1 (by decide)
  have o3 := c1
  intro x5 e4
  have h := h x5 e4
  have K := k7_I K e4 n2
  have o3 := ob_wI o3 e4
  refine cm_X11_isRoad (kw_X11_isRoad h) h (fun x6 x7 p10 h g8 g9 => ?_)
  have h := h g8 g9
  have K := k7_tr K p10.2
  have o3 := gr_ob p10.2.1 o3
  refine ⟨?_, ?_⟩
  · intro c11
    have h := h.1 c11
    exact kw_X11_air_30 h K
  · intro c12
    have h := h.2 c12
    refine cm_X11_in (kw_X11_in h) h (fun x13 x14 p17 h g15 g16 => ?_)
    have h := h g15 g16
    have K := k7_tr K p17.2
    have o3 := gr_ob p17.2.1 o3
    refine ⟨?_, ?_⟩
    · intro c18
      have h := h.1 c18
      exact kw_X11_air_30 h K
    · intro c19
      have h := h.2 c19
      refine cm_X11_isHour (kw_X11_isHour h) h (fun x20 x21 p24 h g22 g23 => ?_)
      have h := h g22 g23
      have K := k7_tr K p24.2
      have o3 := gr_ob p24.2.1 o3
      refine ⟨?_, ?_⟩
      · intro c25
        have h := h.1 c25
        obtain ⟨b26, e27, h⟩ := h
        refine ⟨b26, e27, ?_⟩
        obtain ⟨c28, h⟩ := h
        refine ⟨c28, ?_⟩
        have n29 := k7_nk K c28 (by decide)
        refine cm_X10_air (kw_X10_air h) h (fun x30 x31 p33 h g32 => ?_)
        have h := h g32
        have K := k7_tr K p33.2
        have o3 := gr_ob p33.2.1 o3
        refine cm_X11_good (kw_X11_good h) h (fun x34 x35 p37 h g36 => ?_)
        have h := h g36
        have K := k7_tr K p37.2
        have o3 := gr_ob p37.2.1 o3
        exact ⟨h, K⟩
      · intro c38
        have h := h.2 c38
        exact kw_X11_air_30 h K
theorem kw_X11_air {Q : Int32 → HS → Prop} {v0 : Nat} {v1 : Int32} {v2 : Int32} {v3 : Int32} {S : HS} (h : P_X11_air v0 v1 v2 v3 Q S) : P_X11_air v0 v1 v2 v3 (fun r T => Q r T ∧ K7 S T) S := kw_X11_air_0 h (k7_rf S)
set_option maxRecDepth 20000 in
set_option maxHeartbeats 1000000 in
theorem kw_X11_denied_0 {Q : Int32 → HS → Prop} {v0 : Nat} {v1 : Int32} {S0 S : HS} (h : P_X11_denied_0 Q v0 v1 S) (K : K7 S0 S) : P_X11_denied_0 (fun r T => Q r T ∧ K7 S0 T) v0 v1 S := by
  delta P_X11_denied_0 at h ⊢
  obtain ⟨c1, h⟩ := h
  refine ⟨c1, ?_⟩
  have n2 := k7_nk K c1 (by decide)
  have o3 := c1
  refine cm_X11_refused (kw_X11_refused h) h (fun x4 x5 p7 h g6 => ?_)
  have h := h g6
  have K := k7_tr K p7.2
  have o3 := gr_ob p7.2.1 o3
  exact ⟨h, K⟩
theorem kw_X11_denied {Q : Int32 → HS → Prop} {v0 : Nat} {v1 : Int32} {S : HS} (h : P_X11_denied v0 v1 Q S) : P_X11_denied v0 v1 (fun r T => Q r T ∧ K7 S T) S := kw_X11_denied_0 h (k7_rf S)
set_option maxRecDepth 20000 in
set_option maxHeartbeats 1000000 in
theorem kw_X11_granted_0 {Q : Int32 → HS → Prop} {v0 : Nat} {S0 S : HS} (h : P_X11_granted_0 Q v0 S) (K : K7 S0 S) : P_X11_granted_0 (fun r T => Q r T ∧ K7 S0 T) v0 S := by
  delta P_X11_granted_0 at h ⊢
  obtain ⟨c1, h⟩ := h
  refine ⟨c1, ?_⟩
  have n2 := k7_nk K c1 (by decide)
  have o3 := c1
  refine cm_X11_good (kw_X11_good h) h (fun x4 x5 p7 h g6 => ?_)
  have h := h g6
  have K := k7_tr K p7.2
  have o3 := gr_ob p7.2.1 o3
  exact ⟨h, K⟩
theorem kw_X11_granted {Q : Int32 → HS → Prop} {v0 : Nat} {S : HS} (h : P_X11_granted v0 Q S) : P_X11_granted v0 (fun r T => Q r T ∧ K7 S T) S := kw_X11_granted_0 h (k7_rf S)
set_option maxRecDepth 20000 in
set_option maxHeartbeats 1000000 in
theorem kw_X11_isDay_0 {Q : Int32 → HS → Prop} {v0 : Nat} {S0 S : HS} (h : P_X11_isDay_0 Q v0 S) (K : K7 S0 S) : P_X11_isDay_0 (fun r T => Q r T ∧ K7 S0 T) v0 S := by
  delta P_X11_isDay_0 at h ⊢
  obtain ⟨c1, h⟩ := h
  refine ⟨c1, ?_⟩
  have n2 := k7_nk K c1 (by decide)
  have o3 := c1
  refine ⟨?_, ?_⟩
  · intro c4
    have h := h.1 c4
    exact ⟨h, K⟩
  · intro x5 c6
    have h := h.2 x5 c6
    intro x8 e7
    have h := h x8 e7
    refine ⟨?_, ?_⟩
    · intro c9
      have h := h.1 c9
      exact ⟨h, K⟩
    · intro c10
      have h := h.2 c10
      exact ⟨h, K⟩
theorem kw_X11_isDay {Q : Int32 → HS → Prop} {v0 : Nat} {S : HS} (h : P_X11_isDay v0 Q S) : P_X11_isDay v0 (fun r T => Q r T ∧ K7 S T) S := kw_X11_isDay_0 h (k7_rf S)
set_option maxRecDepth 20000 in
set_option maxHeartbeats 1000000 in
theorem kw_X11_back_24 {Q : Int32 → HS → Prop} {v0 : Nat} {S0 S : HS} (h : P_X11_back_24 Q v0 S) (K : K7 S0 S) : P_X11_back_24 (fun r T => Q r T ∧ K7 S0 T) v0 S := by
  delta P_X11_back_24 at h ⊢
  obtain ⟨c1, h⟩ := h
  refine ⟨c1, ?_⟩
  have n2 := k7_nk K c1 (by decide)
  have o3 := c1
  refine cm_X11_denied (kw_X11_denied h) h (fun x4 x5 p8 h g6 g7 => ?_)
  have h := h g6 g7
  have K := k7_tr K p8.2
  have o3 := gr_ob p8.2.1 o3
  obtain ⟨c9, h⟩ := h
  refine ⟨c9, ?_⟩
  exact ⟨h, K⟩
set_option maxRecDepth 20000 in
set_option maxHeartbeats 1000000 in
theorem kwB_X11_back_32 {Q : Int32 → HS → Prop} {X32 X32_2 : Nat → Int32 → Int32 → HS → Prop} {v0 : Nat} {v1 : Int32} {v2 : Int32} {S0 S : HS} (h : B_X11_back_32 Q X32 v0 v1 v2 S) (K : K7 S0 S) (hX32 : ∀ (u0 : Nat) (u1 : Int32) (u2 : Int32) (u3 : HS), X32 u0 u1 u2 u3 → K7 S0 u3 → X32_2 u0 u1 u2 u3) : B_X11_back_32 (fun r T => Q r T ∧ K7 S0 T) X32_2 v0 v1 v2 S := by
  delta B_X11_back_32 at h ⊢
  refine ⟨?_, ?_⟩
  · intro c1
    have h := h.1 c1
    obtain ⟨c2, h⟩ := h
    refine ⟨c2, ?_⟩
    have n3 := k7_nk K c2 (by decide)
    have o4 := c2
    intro x6 e5
    have h := h x6 e5
    have K := k7_I K e5 n3
    have o4 := ob_wI o4 e5
    refine cm_X11_granted (kw_X11_granted h) h (fun x7 x8 p11 h g9 g10 => ?_)
    have h := h g9 g10
    have K := k7_tr K p11.2
    have o4 := gr_ob p11.2.1 o4
    obtain ⟨c12, h⟩ := h
    refine ⟨c12, ?_⟩
    exact ⟨h, K⟩
  · intro c13
    have h := h.2 c13
    obtain ⟨c14, h⟩ := h
    refine ⟨c14, ?_⟩
    have n15 := k7_nk K c14 (by decide)
    have o16 := c14
    obtain ⟨b17, e18, h⟩ := h
    refine ⟨b17, e18, ?_⟩
    obtain ⟨b19, e20, h⟩ := h
    refine ⟨b19, e20, ?_⟩
    obtain ⟨c21, h⟩ := h
    refine ⟨c21, ?_⟩
    have n22 := k7_nk K c21 (by decide)
    intro x24 e23
    have h := h x24 e23
    obtain ⟨c25, h⟩ := h
    refine ⟨c25, ?_⟩
    intro x27 e26
    have h := h x27 e26
    obtain ⟨c28, h⟩ := h
    refine ⟨c28, ?_⟩
    have n29 := k7_nk K c28 (by decide)
    obtain ⟨c30, h⟩ := h
    refine ⟨c30, ?_⟩
    intro x32 e31
    have h := h x32 e31
    have K := k7_J K e31
    have o16 := ob_wJ o16 e31
    intro x34 e33
    have h := h x34 e33
    exact hX32 _ _ _ _ h K
theorem kw_X11_back_32 {Q : Int32 → HS → Prop} {v0 : Nat} {v1 : Int32} {v2 : Int32} {S0 S : HS} (h : P_X11_back_32 Q v0 v1 v2 S) (K : K7 S0 S) : P_X11_back_32 (fun r T => Q r T ∧ K7 S0 T) v0 v1 v2 S := h (fun v0 v1 v2 S => K7 S0 S → P_X11_back_32 (fun r T => Q r T ∧ K7 S0 T) v0 v1 v2 S) (fun v0 v1 v2 S hB K => fd_X11_back_32 (kwB_X11_back_32 hB K (fun _ _ _ _ hx K => hx K))) K
set_option maxRecDepth 20000 in
set_option maxHeartbeats 1000000 in
theorem kw_X11_back_0 {Q : Int32 → HS → Prop} {v0 : Nat} {v1 : Int32} {S0 S : HS} (h : P_X11_back_0 Q v0 v1 S) (K : K7 S0 S) : P_X11_back_0 (fun r T => Q r T ∧ K7 S0 T) v0 v1 S := by
  delta P_X11_back_0 at h ⊢
  obtain ⟨c1, h⟩ := h
  refine ⟨c1, ?_⟩
  have n2 := k7_nk K c1 (by decide)
  have o3 := c1
  intro x5 e4
  have h := h x5 e4
  have K := k7_I K e4 n2
  have o3 := ob_wI o3 e4
  refine cm_X11_isDay (kw_X11_isDay h) h (fun x6 x7 p10 h g8 g9 => ?_)
  have h := h g8 g9
  have K := k7_tr K p10.2
  have o3 := gr_ob p10.2.1 o3
  refine ⟨?_, ?_⟩
  · intro c11
    have h := h.1 c11
    exact kw_X11_back_24 h K
  · intro c12
    have h := h.2 c12
    refine ⟨?_, ?_⟩
    · intro c13
      have h := h.1 c13
      exact kw_X11_back_24 h K
    · intro c14
      have h := h.2 c14
      intro x16 e15
      have h := h x16 e15
      refine ⟨?_, ?_⟩
      · intro c17
        have h := h.1 c17
        exact kw_X11_back_32 h K
      · intro c18
        have h := h.2 c18
        exact kw_X11_back_24 h K
theorem kw_X11_back {Q : Int32 → HS → Prop} {v0 : Nat} {v1 : Int32} {S : HS} (h : P_X11_back v0 v1 Q S) : P_X11_back v0 v1 (fun r T => Q r T ∧ K7 S T) S := kw_X11_back_0 h (k7_rf S)
set_option maxRecDepth 20000 in
set_option maxHeartbeats 1000000 in
theorem kw_X11_isForward_112 {Q : Int32 → HS → Prop} {v0 : Nat} {v4 : Int32} {v7 : Int32} {v8 : Int32} {v9 : Int32} {s0 : Int32} {S0 S : HS} (h : P_X11_isForward_112 Q v0 v4 v7 v8 v9 s0 S) (K : K7 S0 S) : P_X11_isForward_112 (fun r T => Q r T ∧ K7 S0 T) v0 v4 v7 v8 v9 s0 S := by
  delta P_X11_isForward_112 at h ⊢
  refine ⟨?_, ?_⟩
  · intro c1
    have h := h.1 c1
    exact ⟨h, K⟩
  · intro c2
    have h := h.2 c2
    refine ⟨?_, ?_⟩
    · intro c3
      have h := h.1 c3
      exact ⟨h, K⟩
    · intro c4
      have h := h.2 c4
      obtain ⟨c5, h⟩ := h
      refine ⟨c5, ?_⟩
      have n6 := k7_nk K c5 (by decide)
      have o7 := c5
      obtain ⟨b8, e9, h⟩ := h
      refine ⟨b8, e9, ?_⟩
      obtain ⟨c10, h⟩ := h
      refine ⟨c10, ?_⟩
      have n11 := k7_nk K c10 (by decide)
      obtain ⟨b12, e13, h⟩ := h
      refine ⟨b12, e13, ?_⟩
      obtain ⟨c14, h⟩ := h
      refine ⟨c14, ?_⟩
      obtain ⟨c15, h⟩ := h
      refine ⟨c15, ?_⟩
      intro x17 e16
      have h := h x17 e16
      obtain ⟨b18, e19, h⟩ := h
      refine ⟨b18, e19, ?_⟩
      obtain ⟨c20, h⟩ := h
      refine ⟨c20, ?_⟩
      have n21 := k7_nk K c20 (by decide)
      obtain ⟨b22, e23, h⟩ := h
      refine ⟨b22, e23, ?_⟩
      obtain ⟨c24, h⟩ := h
      refine ⟨c24, ?_⟩
      obtain ⟨c25, h⟩ := h
      refine ⟨c25, ?_⟩
      intro x27 e26
      have h := h x27 e26
      obtain ⟨b28, e29, h⟩ := h
      refine ⟨b28, e29, ?_⟩
      obtain ⟨c30, h⟩ := h
      refine ⟨c30, ?_⟩
      have n31 := k7_nk K c30 (by decide)
      obtain ⟨b32, e33, h⟩ := h
      refine ⟨b32, e33, ?_⟩
      obtain ⟨c34, h⟩ := h
      refine ⟨c34, ?_⟩
      obtain ⟨c35, h⟩ := h
      refine ⟨c35, ?_⟩
      intro x37 e36
      have h := h x37 e36
      refine ⟨?_, ?_⟩
      · intro c38
        have h := h.1 c38
        exact ⟨h, K⟩
      · intro c39
        have h := h.2 c39
        exact ⟨h, K⟩
set_option maxRecDepth 20000 in
set_option maxHeartbeats 1000000 in
theorem kw_X11_isForward_84 {Q : Int32 → HS → Prop} {v0 : Nat} {v2 : Int32} {v4 : Int32} {v7 : Int32} {v8 : Int32} {s0 : Int32} {S0 S : HS} (h : P_X11_isForward_84 Q v0 v2 v4 v7 v8 s0 S) (K : K7 S0 S) : P_X11_isForward_84 (fun r T => Q r T ∧ K7 S0 T) v0 v2 v4 v7 v8 s0 S := by
  delta P_X11_isForward_84 at h ⊢
  obtain ⟨c1, h⟩ := h
  refine ⟨c1, ?_⟩
  have n2 := k7_nk K c1 (by decide)
  have o3 := c1
  obtain ⟨b4, e5, h⟩ := h
  refine ⟨b4, e5, ?_⟩
  obtain ⟨c6, h⟩ := h
  refine ⟨c6, ?_⟩
  have n7 := k7_nk K c6 (by decide)
  obtain ⟨b8, e9, h⟩ := h
  refine ⟨b8, e9, ?_⟩
  obtain ⟨c10, h⟩ := h
  refine ⟨c10, ?_⟩
  obtain ⟨c11, h⟩ := h
  refine ⟨c11, ?_⟩
  intro x13 e12
  have h := h x13 e12
  obtain ⟨b14, e15, h⟩ := h
  refine ⟨b14, e15, ?_⟩
  obtain ⟨c16, h⟩ := h
  refine ⟨c16, ?_⟩
  have n17 := k7_nk K c16 (by decide)
  obtain ⟨b18, e19, h⟩ := h
  refine ⟨b18, e19, ?_⟩
  obtain ⟨c20, h⟩ := h
  refine ⟨c20, ?_⟩
  obtain ⟨c21, h⟩ := h
  refine ⟨c21, ?_⟩
  intro x23 e22
  have h := h x23 e22
  refine ⟨?_, ?_⟩
  · intro c24
    have h := h.1 c24
    exact kw_X11_isForward_112 h K
  · intro c25
    have h := h.2 c25
    exact kw_X11_isForward_112 h K
set_option maxRecDepth 20000 in
set_option maxHeartbeats 1000000 in
theorem kw_X11_isForward_54 {Q : Int32 → HS → Prop} {v0 : Nat} {v1 : Int32} {v2 : Int32} {v4 : Int32} {v6 : Int32} {v7 : Int32} {s0 : Int32} {S0 S : HS} (h : P_X11_isForward_54 Q v0 v1 v2 v4 v6 v7 s0 S) (K : K7 S0 S) : P_X11_isForward_54 (fun r T => Q r T ∧ K7 S0 T) v0 v1 v2 v4 v6 v7 s0 S := by
  delta P_X11_isForward_54 at h ⊢
  obtain ⟨c1, h⟩ := h
  refine ⟨c1, ?_⟩
  have n2 := k7_nk K c1 (by decide)
  have o3 := c1
  obtain ⟨b4, e5, h⟩ := h
  refine ⟨b4, e5, ?_⟩
  obtain ⟨c6, h⟩ := h
  refine ⟨c6, ?_⟩
  have n7 := k7_nk K c6 (by decide)
  obtain ⟨b8, e9, h⟩ := h
  refine ⟨b8, e9, ?_⟩
  obtain ⟨c10, h⟩ := h
  refine ⟨c10, ?_⟩
  obtain ⟨c11, h⟩ := h
  refine ⟨c11, ?_⟩
  intro x13 e12
  have h := h x13 e12
  refine ⟨?_, ?_⟩
  · intro c14
    have h := h.1 c14
    obtain ⟨b15, e16, h⟩ := h
    refine ⟨b15, e16, ?_⟩
    obtain ⟨c17, h⟩ := h
    refine ⟨c17, ?_⟩
    have n18 := k7_nk K c17 (by decide)
    obtain ⟨b19, e20, h⟩ := h
    refine ⟨b19, e20, ?_⟩
    obtain ⟨c21, h⟩ := h
    refine ⟨c21, ?_⟩
    obtain ⟨c22, h⟩ := h
    refine ⟨c22, ?_⟩
    intro x24 e23
    have h := h x24 e23
    exact kw_X11_isForward_84 h K
  · intro c25
    have h := h.2 c25
    exact kw_X11_isForward_84 h K
set_option maxRecDepth 20000 in
set_option maxHeartbeats 1000000 in
theorem kw_X11_isForward_0 {Q : Int32 → HS → Prop} {v0 : Nat} {v1 : Int32} {v2 : Int32} {v3 : Int32} {v4 : Int32} {v5 : Int32} {S0 S : HS} (h : P_X11_isForward_0 Q v0 v1 v2 v3 v4 v5 S) (K : K7 S0 S) : P_X11_isForward_0 (fun r T => Q r T ∧ K7 S0 T) v0 v1 v2 v3 v4 v5 S := by
  delta P_X11_isForward_0 at h ⊢
  obtain ⟨c1, h⟩ := h
  refine ⟨c1, ?_⟩
  have n2 := k7_nk K c1 (by decide)
  have o3 := c1
  obtain ⟨b4, e5, h⟩ := h
  refine ⟨b4, e5, ?_⟩
  obtain ⟨c6, h⟩ := h
  refine ⟨c6, ?_⟩
  have n7 := k7_nk K c6 (by decide)
  refine cm_X10_shield (kw_X10_shield h) h (fun x8 x9 p11 h g10 => ?_)
  have h := h g10
  have K := k7_tr K p11.2
  have o3 := gr_ob p11.2.1 o3
  obtain ⟨b12, e13, h⟩ := h
  refine ⟨b12, e13, ?_⟩
  obtain ⟨c14, h⟩ := h
  refine ⟨c14, ?_⟩
  have n15 := k7_nk K c14 (by decide)
  refine cm_X10_air (kw_X10_air h) h (fun x16 x17 p19 h g18 => ?_)
  have h := h g18
  have K := k7_tr K p19.2
  have o3 := gr_ob p19.2.1 o3
  intro x21 e20
  have h := h x21 e20
  obtain ⟨b22, e23, h⟩ := h
  refine ⟨b22, e23, ?_⟩
  obtain ⟨c24, h⟩ := h
  refine ⟨c24, ?_⟩
  have n25 := k7_nk K c24 (by decide)
  obtain ⟨b26, e27, h⟩ := h
  refine ⟨b26, e27, ?_⟩
  obtain ⟨c28, h⟩ := h
  refine ⟨c28, ?_⟩
  obtain ⟨c29, h⟩ := h
  refine ⟨c29, ?_⟩
  intro x31 e30
  have h := h x31 e30
  refine ⟨?_, ?_⟩
  · intro c32
    have h := h.1 c32
    obtain ⟨b33, e34, h⟩ := h
    refine ⟨b33, e34, ?_⟩
    obtain ⟨c35, h⟩ := h
    refine ⟨c35, ?_⟩
    have n36 := k7_nk K c35 (by decide)
    obtain ⟨b37, e38, h⟩ := h
    refine ⟨b37, e38, ?_⟩
    obtain ⟨c39, h⟩ := h
    refine ⟨c39, ?_⟩
    obtain ⟨c40, h⟩ := h
    refine ⟨c40, ?_⟩
    intro x42 e41
    have h := h x42 e41
    exact kw_X11_isForward_54 h K
  · intro c43
    have h := h.2 c43
    exact kw_X11_isForward_54 h K
theorem kw_X11_isForward {Q : Int32 → HS → Prop} {v0 : Nat} {v1 : Int32} {v2 : Int32} {v3 : Int32} {v4 : Int32} {v5 : Int32} {S : HS} (h : P_X11_isForward v0 v1 v2 v3 v4 v5 Q S) : P_X11_isForward v0 v1 v2 v3 v4 v5 (fun r T => Q r T ∧ K7 S T) S := kw_X11_isForward_0 h (k7_rf S)
set_option maxRecDepth 20000 in
set_option maxHeartbeats 1000000 in
theorem kw_X11_less_0 {Q : Int32 → HS → Prop} {v0 : Int32} {v1 : Int32} {S0 S : HS} (h : P_X11_less_0 Q v0 v1 S) (K : K7 S0 S) : P_X11_less_0 (fun r T => Q r T ∧ K7 S0 T) v0 v1 S := by
  delta P_X11_less_0 at h ⊢
  refine ⟨?_, ?_⟩
  · intro c1
    have h := h.1 c1
    exact ⟨h, K⟩
  · intro c2
    have h := h.2 c2
    exact ⟨h, K⟩
theorem kw_X11_less {Q : Int32 → HS → Prop} {v0 : Int32} {v1 : Int32} {S : HS} (h : P_X11_less v0 v1 Q S) : P_X11_less v0 v1 (fun r T => Q r T ∧ K7 S T) S := kw_X11_less_0 h (k7_rf S)
set_option maxRecDepth 20000 in
set_option maxHeartbeats 1000000 in
theorem kw_X11_inTime_129 {Q : Int32 → HS → Prop} {s0 : Int32} {s1 : Int32} {s2 : Int32} {S0 S : HS} (h : P_X11_inTime_129 Q s0 s1 s2 S) (K : K7 S0 S) : P_X11_inTime_129 (fun r T => Q r T ∧ K7 S0 T) s0 s1 s2 S := by
  delta P_X11_inTime_129 at h ⊢
  refine cm_X11_less (kw_X11_less h) h (fun x1 x2 p4 h g3 => ?_)
  have h := h g3
  have K := k7_tr K p4.2
  exact ⟨h, K⟩
set_option maxRecDepth 20000 in
set_option maxHeartbeats 1000000 in
theorem kw_X11_inTime_164 {Q : Int32 → HS → Prop} {v7 : Int32} {s0 : Int32} {s1 : Int32} {s2 : Int32} {S0 S : HS} (h : P_X11_inTime_164 Q v7 s0 s1 s2 S) (K : K7 S0 S) : P_X11_inTime_164 (fun r T => Q r T ∧ K7 S0 T) v7 s0 s1 s2 S := by
  delta P_X11_inTime_164 at h ⊢
  refine cm_X11_less (kw_X11_less h) h (fun x1 x2 p4 h g3 => ?_)
  have h := h g3
  have K := k7_tr K p4.2
  refine cm_X11_less (kw_X11_less h) h (fun x5 x6 p8 h g7 => ?_)
  have h := h g7
  have K := k7_tr K p8.2
  exact ⟨h, K⟩
set_option maxRecDepth 20000 in
set_option maxHeartbeats 1000000 in
theorem kw_X11_inTime_0 {Q : Int32 → HS → Prop} {v0 : Nat} {v1 : Int32} {v2 : Int32} {v3 : Int32} {v4 : Int32} {v5 : Int32} {v6 : Int32} {v7 : Int32} {v8 : Int32} {S0 S : HS} (h : P_X11_inTime_0 Q v0 v1 v2 v3 v4 v5 v6 v7 v8 S) (K : K7 S0 S) : P_X11_inTime_0 (fun r T => Q r T ∧ K7 S0 T) v0 v1 v2 v3 v4 v5 v6 v7 v8 S := by
  delta P_X11_inTime_0 at h ⊢
  obtain ⟨c1, h⟩ := h
  refine ⟨c1, ?_⟩
  have n2 := k7_nk K c1 (by decide)
  have o3 := c1
  obtain ⟨b4, e5, h⟩ := h
  refine ⟨b4, e5, ?_⟩
  obtain ⟨c6, h⟩ := h
  refine ⟨c6, ?_⟩
  have n7 := k7_nk K c6 (by decide)
  obtain ⟨b8, e9, h⟩ := h
  refine ⟨b8, e9, ?_⟩
  obtain ⟨c10, h⟩ := h
  refine ⟨c10, ?_⟩
  obtain ⟨c11, h⟩ := h
  refine ⟨c11, ?_⟩
  intro x13 e12
  have h := h x13 e12
  obtain ⟨b14, e15, h⟩ := h
  refine ⟨b14, e15, ?_⟩
  obtain ⟨c16, h⟩ := h
  refine ⟨c16, ?_⟩
  have n17 := k7_nk K c16 (by decide)
  refine cm_X10_air (kw_X10_air h) h (fun x18 x19 p21 h g20 => ?_)
  have h := h g20
  have K := k7_tr K p21.2
  have o3 := gr_ob p21.2.1 o3
  intro x23 e22
  have h := h x23 e22
  obtain ⟨b24, e25, h⟩ := h
  refine ⟨b24, e25, ?_⟩
  obtain ⟨c26, h⟩ := h
  refine ⟨c26, ?_⟩
  have n27 := k7_nk K c26 (by decide)
  refine cm_X10_across (kw_X10_across h) h (fun x28 x29 p31 h g30 => ?_)
  have h := h g30
  have K := k7_tr K p31.2
  have o3 := gr_ob p31.2.1 o3
  refine cm_X11_isForward (kw_X11_isForward h) h (fun x32 x33 p36 h g34 g35 => ?_)
  have h := h g34 g35
  have K := k7_tr K p36.2
  have o3 := gr_ob p36.2.1 o3
  obtain ⟨b37, e38, h⟩ := h
  refine ⟨b37, e38, ?_⟩
  obtain ⟨c39, h⟩ := h
  refine ⟨c39, ?_⟩
  have n40 := k7_nk K c39 (by decide)
  refine cm_X10_shield (kw_X10_shield h) h (fun x41 x42 p44 h g43 => ?_)
  have h := h g43
  have K := k7_tr K p44.2
  have o3 := gr_ob p44.2.1 o3
  refine ⟨?_, ?_, ?_, ?_, ?_⟩
  · intro c45
    have h := h.1 c45
    refine ⟨?_, ?_⟩
    · intro c46
      have h := h.1 c46
      exact ⟨h, K⟩
    · intro c47
      have h := h.2 c47
      obtain ⟨b48, e49, h⟩ := h
      refine ⟨b48, e49, ?_⟩
      obtain ⟨c50, h⟩ := h
      refine ⟨c50, ?_⟩
      have n51 := k7_nk K c50 (by decide)
      obtain ⟨b52, e53, h⟩ := h
      refine ⟨b52, e53, ?_⟩
      obtain ⟨c54, h⟩ := h
      refine ⟨c54, ?_⟩
      obtain ⟨c55, h⟩ := h
      refine ⟨c55, ?_⟩
      intro x57 e56
      have h := h x57 e56
      exact ⟨h, K⟩
  · intro c58
    have h := h.2.1 c58
    obtain ⟨b59, e60, h⟩ := h
    refine ⟨b59, e60, ?_⟩
    obtain ⟨c61, h⟩ := h
    refine ⟨c61, ?_⟩
    have n62 := k7_nk K c61 (by decide)
    obtain ⟨b63, e64, h⟩ := h
    refine ⟨b63, e64, ?_⟩
    obtain ⟨c65, h⟩ := h
    refine ⟨c65, ?_⟩
    obtain ⟨c66, h⟩ := h
    refine ⟨c66, ?_⟩
    intro x68 e67
    have h := h x68 e67
    obtain ⟨b69, e70, h⟩ := h
    refine ⟨b69, e70, ?_⟩
    obtain ⟨c71, h⟩ := h
    refine ⟨c71, ?_⟩
    have n72 := k7_nk K c71 (by decide)
    obtain ⟨b73, e74, h⟩ := h
    refine ⟨b73, e74, ?_⟩
    obtain ⟨c75, h⟩ := h
    refine ⟨c75, ?_⟩
    obtain ⟨c76, h⟩ := h
    refine ⟨c76, ?_⟩
    intro x78 e77
    have h := h x78 e77
    refine ⟨?_, ?_⟩
    · intro c79
      have h := h.1 c79
      exact kw_X11_inTime_129 h K
    · intro c80
      have h := h.2 c80
      exact kw_X11_inTime_129 h K
  · intro c81
    have h := h.2.2.1 c81
    refine ⟨?_, ?_⟩
    · intro c82
      have h := h.1 c82
      exact ⟨h, K⟩
    · intro c83
      have h := h.2 c83
      obtain ⟨b84, e85, h⟩ := h
      refine ⟨b84, e85, ?_⟩
      obtain ⟨c86, h⟩ := h
      refine ⟨c86, ?_⟩
      have n87 := k7_nk K c86 (by decide)
      obtain ⟨b88, e89, h⟩ := h
      refine ⟨b88, e89, ?_⟩
      obtain ⟨c90, h⟩ := h
      refine ⟨c90, ?_⟩
      obtain ⟨c91, h⟩ := h
      refine ⟨c91, ?_⟩
      intro x93 e92
      have h := h x93 e92
      refine ⟨?_, ?_⟩
      · intro c94
        have h := h.1 c94
        exact kw_X11_inTime_164 h K
      · intro c95
        have h := h.2 c95
        exact kw_X11_inTime_164 h K
  · intro c96
    have h := h.2.2.2.1 c96
    refine ⟨?_, ?_⟩
    · intro c97
      have h := h.1 c97
      exact ⟨h, K⟩
    · intro c98
      have h := h.2 c98
      obtain ⟨b99, e100, h⟩ := h
      refine ⟨b99, e100, ?_⟩
      obtain ⟨c101, h⟩ := h
      refine ⟨c101, ?_⟩
      have n102 := k7_nk K c101 (by decide)
      obtain ⟨b103, e104, h⟩ := h
      refine ⟨b103, e104, ?_⟩
      obtain ⟨c105, h⟩ := h
      refine ⟨c105, ?_⟩
      obtain ⟨c106, h⟩ := h
      refine ⟨c106, ?_⟩
      intro x108 e107
      have h := h x108 e107
      refine cm_X11_less (kw_X11_less h) h (fun x109 x110 p112 h g111 => ?_)
      have h := h g111
      have K := k7_tr K p112.2
      have o3 := gr_ob p112.2.1 o3
      exact ⟨h, K⟩
  · intro c113
    have h := h.2.2.2.2 c113
    refine ⟨?_, ?_⟩
    · intro c114
      have h := h.1 c114
      exact ⟨h, K⟩
    · intro c115
      have h := h.2 c115
      obtain ⟨b116, e117, h⟩ := h
      refine ⟨b116, e117, ?_⟩
      obtain ⟨c118, h⟩ := h
      refine ⟨c118, ?_⟩
      have n119 := k7_nk K c118 (by decide)
      obtain ⟨b120, e121, h⟩ := h
      refine ⟨b120, e121, ?_⟩
      obtain ⟨c122, h⟩ := h
      refine ⟨c122, ?_⟩
      obtain ⟨c123, h⟩ := h
      refine ⟨c123, ?_⟩
      intro x125 e124
      have h := h x125 e124
      exact ⟨h, K⟩
theorem kw_X11_inTime {Q : Int32 → HS → Prop} {v0 : Nat} {v1 : Int32} {v2 : Int32} {v3 : Int32} {v4 : Int32} {v5 : Int32} {v6 : Int32} {v7 : Int32} {v8 : Int32} {S : HS} (h : P_X11_inTime v0 v1 v2 v3 v4 v5 v6 v7 v8 Q S) : P_X11_inTime v0 v1 v2 v3 v4 v5 v6 v7 v8 (fun r T => Q r T ∧ K7 S T) S := kw_X11_inTime_0 h (k7_rf S)
set_option maxRecDepth 20000 in
set_option maxHeartbeats 1000000 in
theorem kw_X11_partsOf_0 {Q : Int64 → HS → Prop} {v0 : Nat} {v1 : Int32} {v2 : Int32} {v3 : Int32} {v4 : Int32} {v5 : Int32} {v6 : Int32} {S0 S : HS} (h : P_X11_partsOf_0 Q v0 v1 v2 v3 v4 v5 v6 S) (K : K7 S0 S) : P_X11_partsOf_0 (fun r T => Q r T ∧ K7 S0 T) v0 v1 v2 v3 v4 v5 v6 S := by
  delta P_X11_partsOf_0 at h ⊢
  obtain ⟨c1, h⟩ := h
  refine ⟨c1, ?_⟩
  have n2 := k7_nk K c1 (by decide)
  have o3 := c1
  refine cm_X11_inTime (kw_X11_inTime h) h (fun x4 x5 p7 h g6 => ?_)
  have h := h g6
  have K := k7_tr K p7.2
  have o3 := gr_ob p7.2.1 o3
  obtain ⟨b8, e9, h⟩ := h
  refine ⟨b8, e9, ?_⟩
  obtain ⟨c10, h⟩ := h
  refine ⟨c10, ?_⟩
  have n11 := k7_nk K c10 (by decide)
  obtain ⟨b12, e13, h⟩ := h
  refine ⟨b12, e13, ?_⟩
  obtain ⟨c14, h⟩ := h
  refine ⟨c14, ?_⟩
  obtain ⟨c15, h⟩ := h
  refine ⟨c15, ?_⟩
  intro x17 e16
  have h := h x17 e16
  obtain ⟨b18, e19, h⟩ := h
  refine ⟨b18, e19, ?_⟩
  obtain ⟨c20, h⟩ := h
  refine ⟨c20, ?_⟩
  have n21 := k7_nk K c20 (by decide)
  obtain ⟨b22, e23, h⟩ := h
  refine ⟨b22, e23, ?_⟩
  obtain ⟨c24, h⟩ := h
  refine ⟨c24, ?_⟩
  obtain ⟨c25, h⟩ := h
  refine ⟨c25, ?_⟩
  intro x27 e26
  have h := h x27 e26
  obtain ⟨c28, h⟩ := h
  refine ⟨c28, ?_⟩
  intro x30 e29
  have h := h x30 e29
  exact ⟨h, K⟩
theorem kw_X11_partsOf {Q : Int64 → HS → Prop} {v0 : Nat} {v1 : Int32} {v2 : Int32} {v3 : Int32} {v4 : Int32} {v5 : Int32} {v6 : Int32} {S : HS} (h : P_X11_partsOf v0 v1 v2 v3 v4 v5 v6 Q S) : P_X11_partsOf v0 v1 v2 v3 v4 v5 v6 (fun r T => Q r T ∧ K7 S T) S := kw_X11_partsOf_0 h (k7_rf S)
set_option maxRecDepth 20000 in
set_option maxHeartbeats 1000000 in
theorem kwB_X11_wetOf_6 {Q : Int64 → HS → Prop} {X6 X6_2 : Nat → Int32 → Int32 → Int32 → Int32 → Int32 → Int64 → Int32 → HS → Prop} {v0 : Nat} {v1 : Int32} {v2 : Int32} {v3 : Int32} {v4 : Int32} {v5 : Int32} {v6 : Int64} {v8 : Int32} {S0 S : HS} (h : B_X11_wetOf_6 Q X6 v0 v1 v2 v3 v4 v5 v6 v8 S) (K : K7 S0 S) (hX6 : ∀ (u0 : Nat) (u1 : Int32) (u2 : Int32) (u3 : Int32) (u4 : Int32) (u5 : Int32) (u6 : Int64) (u7 : Int32) (u8 : HS), X6 u0 u1 u2 u3 u4 u5 u6 u7 u8 → K7 S0 u8 → X6_2 u0 u1 u2 u3 u4 u5 u6 u7 u8) : B_X11_wetOf_6 (fun r T => Q r T ∧ K7 S0 T) X6_2 v0 v1 v2 v3 v4 v5 v6 v8 S := by
  delta B_X11_wetOf_6 at h ⊢
  refine ⟨?_, ?_⟩
  · intro c1
    have h := h.1 c1
    exact ⟨h, K⟩
  · intro c2
    have h := h.2 c2
    obtain ⟨c3, h⟩ := h
    refine ⟨c3, ?_⟩
    have n4 := k7_nk K c3 (by decide)
    have o5 := c3
    refine cm_X11_partsOf (kw_X11_partsOf h) h (fun x6 x7 p9 h g8 => ?_)
    have h := h g8
    have K := k7_tr K p9.2
    have o5 := gr_ob p9.2.1 o5
    intro x11 e10
    have h := h x11 e10
    intro x13 e12
    have h := h x13 e12
    exact hX6 _ _ _ _ _ _ _ _ _ h K
theorem kw_X11_wetOf_6 {Q : Int64 → HS → Prop} {v0 : Nat} {v1 : Int32} {v2 : Int32} {v3 : Int32} {v4 : Int32} {v5 : Int32} {v6 : Int64} {v8 : Int32} {S0 S : HS} (h : P_X11_wetOf_6 Q v0 v1 v2 v3 v4 v5 v6 v8 S) (K : K7 S0 S) : P_X11_wetOf_6 (fun r T => Q r T ∧ K7 S0 T) v0 v1 v2 v3 v4 v5 v6 v8 S := h (fun v0 v1 v2 v3 v4 v5 v6 v8 S => K7 S0 S → P_X11_wetOf_6 (fun r T => Q r T ∧ K7 S0 T) v0 v1 v2 v3 v4 v5 v6 v8 S) (fun v0 v1 v2 v3 v4 v5 v6 v8 S hB K => fd_X11_wetOf_6 (kwB_X11_wetOf_6 hB K (fun _ _ _ _ _ _ _ _ _ hx K => hx K))) K
set_option maxRecDepth 20000 in
set_option maxHeartbeats 1000000 in
theorem kw_X11_wetOf_0 {Q : Int64 → HS → Prop} {v0 : Nat} {v1 : Int32} {v2 : Int32} {v3 : Int32} {v4 : Int32} {v5 : Int32} {S0 S : HS} (h : P_X11_wetOf_0 Q v0 v1 v2 v3 v4 v5 S) (K : K7 S0 S) : P_X11_wetOf_0 (fun r T => Q r T ∧ K7 S0 T) v0 v1 v2 v3 v4 v5 S := by
  delta P_X11_wetOf_0 at h ⊢
  exact kw_X11_wetOf_6 h K
theorem kw_X11_wetOf {Q : Int64 → HS → Prop} {v0 : Nat} {v1 : Int32} {v2 : Int32} {v3 : Int32} {v4 : Int32} {v5 : Int32} {S : HS} (h : P_X11_wetOf v0 v1 v2 v3 v4 v5 Q S) : P_X11_wetOf v0 v1 v2 v3 v4 v5 (fun r T => Q r T ∧ K7 S T) S := kw_X11_wetOf_0 h (k7_rf S)
set_option maxRecDepth 20000 in
set_option maxHeartbeats 1000000 in
theorem kw_X11_bestOf_61 {Q : Int32 → HS → Prop} {X17 X17_2 : Nat → Int32 → Int32 → Int32 → Int32 → Int32 → Int32 → HS → Prop} {v0 : Nat} {v1 : Int32} {v2 : Int32} {v3 : Int32} {v4 : Int32} {v5 : Int32} {v6 : Int32} {S0 S : HS} (h : P_X11_bestOf_61 Q X17 v0 v1 v2 v3 v4 v5 v6 S) (K : K7 S0 S) (hX17 : ∀ (u0 : Nat) (u1 : Int32) (u2 : Int32) (u3 : Int32) (u4 : Int32) (u5 : Int32) (u6 : Int32) (u7 : HS), X17 u0 u1 u2 u3 u4 u5 u6 u7 → K7 S0 u7 → X17_2 u0 u1 u2 u3 u4 u5 u6 u7) : P_X11_bestOf_61 (fun r T => Q r T ∧ K7 S0 T) X17_2 v0 v1 v2 v3 v4 v5 v6 S := by
  delta P_X11_bestOf_61 at h ⊢
  intro x2 e1
  have h := h x2 e1
  exact hX17 _ _ _ _ _ _ _ _ h K
set_option maxRecDepth 20000 in
set_option maxHeartbeats 1000000 in
theorem kwB_X11_bestOf_17 {Q : Int32 → HS → Prop} {X17 X17_2 : Nat → Int32 → Int32 → Int32 → Int32 → Int32 → Int32 → HS → Prop} {v0 : Nat} {v1 : Int32} {v2 : Int32} {v3 : Int32} {v4 : Int32} {v5 : Int32} {v6 : Int32} {S0 S : HS} (h : B_X11_bestOf_17 Q X17 v0 v1 v2 v3 v4 v5 v6 S) (K : K7 S0 S) (hX17 : ∀ (u0 : Nat) (u1 : Int32) (u2 : Int32) (u3 : Int32) (u4 : Int32) (u5 : Int32) (u6 : Int32) (u7 : HS), X17 u0 u1 u2 u3 u4 u5 u6 u7 → K7 S0 u7 → X17_2 u0 u1 u2 u3 u4 u5 u6 u7) : B_X11_bestOf_17 (fun r T => Q r T ∧ K7 S0 T) X17_2 v0 v1 v2 v3 v4 v5 v6 S := by
  delta B_X11_bestOf_17 at h ⊢
  obtain ⟨c1, h⟩ := h
  refine ⟨c1, ?_⟩
  have n2 := k7_nk K c1 (by decide)
  have o3 := c1
  obtain ⟨b4, e5, h⟩ := h
  refine ⟨b4, e5, ?_⟩
  obtain ⟨c6, h⟩ := h
  refine ⟨c6, ?_⟩
  have n7 := k7_nk K c6 (by decide)
  obtain ⟨b8, e9, h⟩ := h
  refine ⟨b8, e9, ?_⟩
  obtain ⟨c10, h⟩ := h
  refine ⟨c10, ?_⟩
  obtain ⟨c11, h⟩ := h
  refine ⟨c11, ?_⟩
  intro x13 e12
  have h := h x13 e12
  refine ⟨?_, ?_⟩
  · intro c14
    have h := h.1 c14
    exact ⟨h, K⟩
  · intro c15
    have h := h.2 c15
    refine cm_X11_wetOf (kw_X11_wetOf h) h (fun x16 x17 p19 h g18 => ?_)
    have h := h g18
    have K := k7_tr K p19.2
    have o3 := gr_ob p19.2.1 o3
    refine cm_X11_wetOf (kw_X11_wetOf h) h (fun x20 x21 p23 h g22 => ?_)
    have h := h g22
    have K := k7_tr K p23.2
    have o3 := gr_ob p23.2.1 o3
    refine ⟨?_, ?_⟩
    · intro c24
      have h := h.1 c24
      exact kw_X11_bestOf_61 h K hX17
    · intro c25
      have h := h.2 c25
      exact kw_X11_bestOf_61 h K hX17
theorem kw_X11_bestOf_17 {Q : Int32 → HS → Prop} {v0 : Nat} {v1 : Int32} {v2 : Int32} {v3 : Int32} {v4 : Int32} {v5 : Int32} {v6 : Int32} {S0 S : HS} (h : P_X11_bestOf_17 Q v0 v1 v2 v3 v4 v5 v6 S) (K : K7 S0 S) : P_X11_bestOf_17 (fun r T => Q r T ∧ K7 S0 T) v0 v1 v2 v3 v4 v5 v6 S := h (fun v0 v1 v2 v3 v4 v5 v6 S => K7 S0 S → P_X11_bestOf_17 (fun r T => Q r T ∧ K7 S0 T) v0 v1 v2 v3 v4 v5 v6 S) (fun v0 v1 v2 v3 v4 v5 v6 S hB K => fd_X11_bestOf_17 (kwB_X11_bestOf_17 hB K (fun _ _ _ _ _ _ _ _ hx K => hx K))) K
set_option maxRecDepth 20000 in
set_option maxHeartbeats 1000000 in
theorem kw_X11_bestOf_0 {Q : Int32 → HS → Prop} {v0 : Nat} {v1 : Int32} {v2 : Int32} {v3 : Int32} {v4 : Int32} {S0 S : HS} (h : P_X11_bestOf_0 Q v0 v1 v2 v3 v4 S) (K : K7 S0 S) : P_X11_bestOf_0 (fun r T => Q r T ∧ K7 S0 T) v0 v1 v2 v3 v4 S := by
  delta P_X11_bestOf_0 at h ⊢
  obtain ⟨c1, h⟩ := h
  refine ⟨c1, ?_⟩
  have n2 := k7_nk K c1 (by decide)
  have o3 := c1
  obtain ⟨b4, e5, h⟩ := h
  refine ⟨b4, e5, ?_⟩
  obtain ⟨c6, h⟩ := h
  refine ⟨c6, ?_⟩
  have n7 := k7_nk K c6 (by decide)
  obtain ⟨b8, e9, h⟩ := h
  refine ⟨b8, e9, ?_⟩
  obtain ⟨c10, h⟩ := h
  refine ⟨c10, ?_⟩
  obtain ⟨c11, h⟩ := h
  refine ⟨c11, ?_⟩
  intro x13 e12
  have h := h x13 e12
  intro x15 e14
  have h := h x15 e14
  exact kw_X11_bestOf_17 h K
theorem kw_X11_bestOf {Q : Int32 → HS → Prop} {v0 : Nat} {v1 : Int32} {v2 : Int32} {v3 : Int32} {v4 : Int32} {S : HS} (h : P_X11_bestOf v0 v1 v2 v3 v4 Q S) : P_X11_bestOf v0 v1 v2 v3 v4 (fun r T => Q r T ∧ K7 S T) S := kw_X11_bestOf_0 h (k7_rf S)
set_option maxRecDepth 20000 in
set_option maxHeartbeats 1000000 in
theorem kw_X11_isWalker_0 {Q : Int32 → HS → Prop} {v0 : Nat} {v1 : Int32} {S0 S : HS} (h : P_X11_isWalker_0 Q v0 v1 S) (K : K7 S0 S) : P_X11_isWalker_0 (fun r T => Q r T ∧ K7 S0 T) v0 v1 S := by
  delta P_X11_isWalker_0 at h ⊢
  obtain ⟨c1, h⟩ := h
  refine ⟨c1, ?_⟩
  have n2 := k7_nk K c1 (by decide)
  have o3 := c1
  refine ⟨?_, ?_⟩
  · intro c4
    have h := h.1 c4
    exact ⟨h, K⟩
  · intro x5 c6
    have h := h.2 x5 c6
    refine ⟨?_, ?_⟩
    · intro c7
      have h := h.1 c7
      exact ⟨h, K⟩
    · intro c8
      have h := h.2 c8
      obtain ⟨b9, e10, h⟩ := h
      refine ⟨b9, e10, ?_⟩
      obtain ⟨c11, h⟩ := h
      refine ⟨c11, ?_⟩
      have n12 := k7_nk K c11 (by decide)
      intro x14 e13
      have h := h x14 e13
      refine ⟨?_, ?_⟩
      · intro c15
        have h := h.1 c15
        exact ⟨h, K⟩
      · intro c16
        have h := h.2 c16
        exact ⟨h, K⟩
theorem kw_X11_isWalker {Q : Int32 → HS → Prop} {v0 : Nat} {v1 : Int32} {S : HS} (h : P_X11_isWalker v0 v1 Q S) : P_X11_isWalker v0 v1 (fun r T => Q r T ∧ K7 S T) S := kw_X11_isWalker_0 h (k7_rf S)
set_option maxRecDepth 20000 in
set_option maxHeartbeats 1000000 in
theorem kw_X11_best_39 {Q : Int32 → HS → Prop} {v0 : Nat} {S0 S : HS} (h : P_X11_best_39 Q v0 S) (K : K7 S0 S) : P_X11_best_39 (fun r T => Q r T ∧ K7 S0 T) v0 S := by
  delta P_X11_best_39 at h ⊢
  obtain ⟨c1, h⟩ := h
  refine ⟨c1, ?_⟩
  have n2 := k7_nk K c1 (by decide)
  have o3 := c1
  refine cm_X11_refused (kw_X11_refused h) h (fun x4 x5 p7 h g6 => ?_)
  have h := h g6
  have K := k7_tr K p7.2
  have o3 := gr_ob p7.2.1 o3
  exact ⟨h, K⟩
set_option maxRecDepth 20000 in
set_option maxHeartbeats 1000000 in
theorem kw_X11_best_0 {Q : Int32 → HS → Prop} {v0 : Nat} {v1 : Int32} {v2 : Int32} {v3 : Int32} {v4 : Int32} {S0 S : HS} (h : P_X11_best_0 Q v0 v1 v2 v3 v4 S) (K : K7 S0 S) : P_X11_best_0 (fun r T => Q r T ∧ K7 S0 T) v0 v1 v2 v3 v4 S := by
  delta P_X11_best_0 at h ⊢
  obtain ⟨c1, h⟩ := h
  refine ⟨c1, ?_⟩
  have n2 := k7_nk K c1 (by decide)
  have o3 := c1
  intro x5 e4
  have h := h x5 e4
  have K := k7_I K e4 n2
  have o3 := ob_wI o3 e4
  refine cm_X11_isWalker (kw_X11_isWalker h) h (fun x6 x7 p10 h g8 g9 => ?_)
  have h := h g8 g9
  have K := k7_tr K p10.2
  have o3 := gr_ob p10.2.1 o3
  refine ⟨?_, ?_⟩
  · intro c11
    have h := h.1 c11
    exact kw_X11_best_39 h K
  · intro c12
    have h := h.2 c12
    refine cm_X11_isRoad (kw_X11_isRoad h) h (fun x13 x14 p17 h g15 g16 => ?_)
    have h := h g15 g16
    have K := k7_tr K p17.2
    have o3 := gr_ob p17.2.1 o3
    refine ⟨?_, ?_⟩
    · intro c18
      have h := h.1 c18
      exact kw_X11_best_39 h K
    · intro c19
      have h := h.2 c19
      refine cm_X11_in (kw_X11_in h) h (fun x20 x21 p24 h g22 g23 => ?_)
      have h := h g22 g23
      have K := k7_tr K p24.2
      have o3 := gr_ob p24.2.1 o3
      refine ⟨?_, ?_⟩
      · intro c25
        have h := h.1 c25
        exact kw_X11_best_39 h K
      · intro c26
        have h := h.2 c26
        refine cm_X11_isHour (kw_X11_isHour h) h (fun x27 x28 p31 h g29 g30 => ?_)
        have h := h g29 g30
        have K := k7_tr K p31.2
        have o3 := gr_ob p31.2.1 o3
        refine ⟨?_, ?_⟩
        · intro c32
          have h := h.1 c32
          refine cm_X11_bestOf (kw_X11_bestOf h) h (fun x33 x34 p36 h g35 => ?_)
          have h := h g35
          have K := k7_tr K p36.2
          have o3 := gr_ob p36.2.1 o3
          refine cm_X11_good (kw_X11_good h) h (fun x37 x38 p40 h g39 => ?_)
          have h := h g39
          have K := k7_tr K p40.2
          have o3 := gr_ob p40.2.1 o3
          exact ⟨h, K⟩
        · intro c41
          have h := h.2 c41
          exact kw_X11_best_39 h K
theorem kw_X11_best {Q : Int32 → HS → Prop} {v0 : Nat} {v1 : Int32} {v2 : Int32} {v3 : Int32} {v4 : Int32} {S : HS} (h : P_X11_best v0 v1 v2 v3 v4 Q S) : P_X11_best v0 v1 v2 v3 v4 (fun r T => Q r T ∧ K7 S T) S := kw_X11_best_0 h (k7_rf S)
set_option maxRecDepth 20000 in
set_option maxHeartbeats 1000000 in
theorem kw_X11_canWait_0 {Q : Int32 → HS → Prop} {v0 : Nat} {v1 : Int32} {S0 S : HS} (h : P_X11_canWait_0 Q v0 v1 S) (K : K7 S0 S) : P_X11_canWait_0 (fun r T => Q r T ∧ K7 S0 T) v0 v1 S := by
  delta P_X11_canWait_0 at h ⊢
  obtain ⟨c1, h⟩ := h
  refine ⟨c1, ?_⟩
  have n2 := k7_nk K c1 (by decide)
  have o3 := c1
  obtain ⟨b4, e5, h⟩ := h
  refine ⟨b4, e5, ?_⟩
  obtain ⟨c6, h⟩ := h
  refine ⟨c6, ?_⟩
  have n7 := k7_nk K c6 (by decide)
  obtain ⟨b8, e9, h⟩ := h
  refine ⟨b8, e9, ?_⟩
  obtain ⟨c10, h⟩ := h
  refine ⟨c10, ?_⟩
  obtain ⟨c11, h⟩ := h
  refine ⟨c11, ?_⟩
  intro x13 e12
  have h := h x13 e12
  refine ⟨?_, ?_⟩
  · intro c14
    have h := h.1 c14
    exact ⟨h, K⟩
  · intro c15
    have h := h.2 c15
    obtain ⟨b16, e17, h⟩ := h
    refine ⟨b16, e17, ?_⟩
    obtain ⟨c18, h⟩ := h
    refine ⟨c18, ?_⟩
    have n19 := k7_nk K c18 (by decide)
    obtain ⟨b20, e21, h⟩ := h
    refine ⟨b20, e21, ?_⟩
    obtain ⟨c22, h⟩ := h
    refine ⟨c22, ?_⟩
    obtain ⟨c23, h⟩ := h
    refine ⟨c23, ?_⟩
    intro x25 e24
    have h := h x25 e24
    refine ⟨?_, ?_⟩
    · intro c26
      have h := h.1 c26
      exact ⟨h, K⟩
    · intro c27
      have h := h.2 c27
      exact ⟨h, K⟩
theorem kw_X11_canWait {Q : Int32 → HS → Prop} {v0 : Nat} {v1 : Int32} {S : HS} (h : P_X11_canWait v0 v1 Q S) : P_X11_canWait v0 v1 (fun r T => Q r T ∧ K7 S T) S := kw_X11_canWait_0 h (k7_rf S)
set_option maxRecDepth 20000 in
set_option maxHeartbeats 1000000 in
theorem kw_X11_isPlace_0 {Q : Int32 → HS → Prop} {v0 : Nat} {v1 : Int32} {S0 S : HS} (h : P_X11_isPlace_0 Q v0 v1 S) (K : K7 S0 S) : P_X11_isPlace_0 (fun r T => Q r T ∧ K7 S0 T) v0 v1 S := by
  delta P_X11_isPlace_0 at h ⊢
  obtain ⟨c1, h⟩ := h
  refine ⟨c1, ?_⟩
  have n2 := k7_nk K c1 (by decide)
  have o3 := c1
  refine ⟨?_, ?_⟩
  · intro c4
    have h := h.1 c4
    exact ⟨h, K⟩
  · intro x5 c6
    have h := h.2 x5 c6
    refine ⟨?_, ?_⟩
    · intro c7
      have h := h.1 c7
      exact ⟨h, K⟩
    · intro c8
      have h := h.2 c8
      obtain ⟨b9, e10, h⟩ := h
      refine ⟨b9, e10, ?_⟩
      obtain ⟨c11, h⟩ := h
      refine ⟨c11, ?_⟩
      have n12 := k7_nk K c11 (by decide)
      intro x14 e13
      have h := h x14 e13
      refine ⟨?_, ?_⟩
      · intro c15
        have h := h.1 c15
        exact ⟨h, K⟩
      · intro c16
        have h := h.2 c16
        exact ⟨h, K⟩
theorem kw_X11_isPlace {Q : Int32 → HS → Prop} {v0 : Nat} {v1 : Int32} {S : HS} (h : P_X11_isPlace v0 v1 Q S) : P_X11_isPlace v0 v1 (fun r T => Q r T ∧ K7 S T) S := kw_X11_isPlace_0 h (k7_rf S)
set_option maxRecDepth 20000 in
set_option maxHeartbeats 1000000 in
theorem kw_X11_day_21 {Q : Int32 → HS → Prop} {v0 : Nat} {S0 S : HS} (h : P_X11_day_21 Q v0 S) (K : K7 S0 S) : P_X11_day_21 (fun r T => Q r T ∧ K7 S0 T) v0 S := by
  delta P_X11_day_21 at h ⊢
  obtain ⟨c1, h⟩ := h
  refine ⟨c1, ?_⟩
  have n2 := k7_nk K c1 (by decide)
  have o3 := c1
  refine cm_X11_refused (kw_X11_refused h) h (fun x4 x5 p7 h g6 => ?_)
  have h := h g6
  have K := k7_tr K p7.2
  have o3 := gr_ob p7.2.1 o3
  exact ⟨h, K⟩
set_option maxRecDepth 20000 in
set_option maxHeartbeats 1000000 in
theorem kw_X11_day_50 {Q : Int32 → HS → Prop} {v0 : Nat} {S0 S : HS} (h : P_X11_day_50 Q v0 S) (K : K7 S0 S) : P_X11_day_50 (fun r T => Q r T ∧ K7 S0 T) v0 S := by
  delta P_X11_day_50 at h ⊢
  obtain ⟨c1, h⟩ := h
  refine ⟨c1, ?_⟩
  have n2 := k7_nk K c1 (by decide)
  have o3 := c1
  refine cm_X11_refused (kw_X11_refused h) h (fun x4 x5 p7 h g6 => ?_)
  have h := h g6
  have K := k7_tr K p7.2
  have o3 := gr_ob p7.2.1 o3
  exact ⟨h, K⟩
set_option maxRecDepth 20000 in
set_option maxHeartbeats 1000000 in
theorem kw_X11_day_134 {Q : Int32 → HS → Prop} {X73 X73_2 : Nat → Int32 → Int32 → Int32 → Int32 → HS → Prop} {v0 : Nat} {v2 : Int32} {v3 : Int32} {v5 : Int32} {v6 : Int32} {s0 : Nat} {s1 : Int32} {s2 : Int32} {S0 S : HS} (h : P_X11_day_134 Q X73 v0 v2 v3 v5 v6 s0 s1 s2 S) (K : K7 S0 S) (hX73 : ∀ (u0 : Nat) (u1 : Int32) (u2 : Int32) (u3 : Int32) (u4 : Int32) (u5 : HS), X73 u0 u1 u2 u3 u4 u5 → K7 S0 u5 → X73_2 u0 u1 u2 u3 u4 u5) : P_X11_day_134 (fun r T => Q r T ∧ K7 S0 T) X73_2 v0 v2 v3 v5 v6 s0 s1 s2 S := by
  delta P_X11_day_134 at h ⊢
  obtain ⟨c1, h⟩ := h
  refine ⟨c1, ?_⟩
  have n2 := k7_nk K c1 (by decide)
  have o3 := c1
  intro x5 e4
  have h := h x5 e4
  intro x7 e6
  have h := h x7 e6
  have K := k7_I K e6 n2
  have o3 := ob_wI o3 e6
  intro x9 e8
  have h := h x9 e8
  exact hX73 _ _ _ _ _ _ h K
set_option maxRecDepth 20000 in
set_option maxHeartbeats 1000000 in
theorem kwB_X11_day_147 {Q : Int32 → HS → Prop} {X147 X147_2 : Nat → Int32 → Int32 → Int32 → HS → Prop} {v0 : Nat} {v2 : Int32} {v3 : Int32} {v6 : Int32} {S0 S : HS} (h : B_X11_day_147 Q X147 v0 v2 v3 v6 S) (K : K7 S0 S) (hX147 : ∀ (u0 : Nat) (u1 : Int32) (u2 : Int32) (u3 : Int32) (u4 : HS), X147 u0 u1 u2 u3 u4 → K7 S0 u4 → X147_2 u0 u1 u2 u3 u4) : B_X11_day_147 (fun r T => Q r T ∧ K7 S0 T) X147_2 v0 v2 v3 v6 S := by
  delta B_X11_day_147 at h ⊢
  refine ⟨?_, ?_⟩
  · intro c1
    have h := h.1 c1
    obtain ⟨c2, h⟩ := h
    refine ⟨c2, ?_⟩
    have n3 := k7_nk K c2 (by decide)
    have o4 := c2
    obtain ⟨b5, e6, h⟩ := h
    refine ⟨b5, e6, ?_⟩
    obtain ⟨c7, h⟩ := h
    refine ⟨c7, ?_⟩
    have n8 := k7_nk K c7 (by decide)
    intro x10 e9
    have h := h x10 e9
    obtain ⟨c11, h⟩ := h
    refine ⟨c11, ?_⟩
    intro x13 e12
    have h := h x13 e12
    have K := k7_J K e12
    have o4 := ob_wJ o4 e12
    obtain ⟨b14, e15, h⟩ := h
    refine ⟨b14, e15, ?_⟩
    obtain ⟨c16, h⟩ := h
    refine ⟨c16, ?_⟩
    have n17 := k7_nk K c16 (by decide)
    intro x19 e18
    have h := h x19 e18
    obtain ⟨c20, h⟩ := h
    refine ⟨c20, ?_⟩
    intro x22 e21
    have h := h x22 e21
    have K := k7_J K e21
    have o4 := ob_wJ o4 e21
    intro x24 e23
    have h := h x24 e23
    have K := k7_I K e23 n3
    have o4 := ob_wI o4 e23
    intro x26 e25
    have h := h x26 e25
    have K := k7_I K e25 n3
    have o4 := ob_wI o4 e25
    intro x28 e27
    have h := h x28 e27
    refine cm_X11_good (kw_X11_good h) h (fun x29 x30 p32 h g31 => ?_)
    have h := h g31
    have K := k7_tr K p32.2
    have o4 := gr_ob p32.2.1 o4
    exact ⟨h, K⟩
  · intro c33
    have h := h.2 c33
    obtain ⟨c34, h⟩ := h
    refine ⟨c34, ?_⟩
    have n35 := k7_nk K c34 (by decide)
    have o36 := c34
    obtain ⟨b37, e38, h⟩ := h
    refine ⟨b37, e38, ?_⟩
    obtain ⟨c39, h⟩ := h
    refine ⟨c39, ?_⟩
    have n40 := k7_nk K c39 (by decide)
    obtain ⟨c41, h⟩ := h
    refine ⟨c41, ?_⟩
    intro x43 e42
    have h := h x43 e42
    have K := k7_J K e42
    have o36 := ob_wJ o36 e42
    intro x45 e44
    have h := h x45 e44
    exact hX147 _ _ _ _ _ h K
theorem kw_X11_day_147 {Q : Int32 → HS → Prop} {v0 : Nat} {v2 : Int32} {v3 : Int32} {v6 : Int32} {S0 S : HS} (h : P_X11_day_147 Q v0 v2 v3 v6 S) (K : K7 S0 S) : P_X11_day_147 (fun r T => Q r T ∧ K7 S0 T) v0 v2 v3 v6 S := h (fun v0 v2 v3 v6 S => K7 S0 S → P_X11_day_147 (fun r T => Q r T ∧ K7 S0 T) v0 v2 v3 v6 S) (fun v0 v2 v3 v6 S hB K => fd_X11_day_147 (kwB_X11_day_147 hB K (fun _ _ _ _ _ hx K => hx K))) K
set_option maxRecDepth 20000 in
set_option maxHeartbeats 1000000 in
theorem kwB_X11_day_73 {Q : Int32 → HS → Prop} {X73 X73_2 : Nat → Int32 → Int32 → Int32 → Int32 → HS → Prop} {v0 : Nat} {v2 : Int32} {v3 : Int32} {v5 : Int32} {v6 : Int32} {S0 S : HS} (h : B_X11_day_73 Q X73 v0 v2 v3 v5 v6 S) (K : K7 S0 S) (hX73 : ∀ (u0 : Nat) (u1 : Int32) (u2 : Int32) (u3 : Int32) (u4 : Int32) (u5 : HS), X73 u0 u1 u2 u3 u4 u5 → K7 S0 u5 → X73_2 u0 u1 u2 u3 u4 u5) : B_X11_day_73 (fun r T => Q r T ∧ K7 S0 T) X73_2 v0 v2 v3 v5 v6 S := by
  delta B_X11_day_73 at h ⊢
  obtain ⟨c1, h⟩ := h
  refine ⟨c1, ?_⟩
  have n2 := k7_nk K c1 (by decide)
  have o3 := c1
  obtain ⟨b4, e5, h⟩ := h
  refine ⟨b4, e5, ?_⟩
  obtain ⟨c6, h⟩ := h
  refine ⟨c6, ?_⟩
  have n7 := k7_nk K c6 (by decide)
  intro x9 e8
  have h := h x9 e8
  refine ⟨?_, ?_⟩
  · intro c10
    have h := h.1 c10
    exact kw_X11_day_147 h K
  · intro c11
    have h := h.2 c11
    intro x13 e12
    have h := h x13 e12
    intro x15 e14
    have h := h x15 e14
    intro x17 e16
    have h := h x17 e16
    intro x19 e18
    have h := h x19 e18
    obtain ⟨b20, e21, h⟩ := h
    refine ⟨b20, e21, ?_⟩
    obtain ⟨c22, h⟩ := h
    refine ⟨c22, ?_⟩
    have n23 := k7_nk K c22 (by decide)
    obtain ⟨b24, e25, h⟩ := h
    refine ⟨b24, e25, ?_⟩
    obtain ⟨c26, h⟩ := h
    refine ⟨c26, ?_⟩
    obtain ⟨c27, h⟩ := h
    refine ⟨c27, ?_⟩
    intro x29 e28
    have h := h x29 e28
    refine ⟨?_, ?_⟩
    · intro c30
      have h := h.1 c30
      exact kw_X11_day_134 h K hX73
    · intro c31
      have h := h.2 c31
      exact kw_X11_day_134 h K hX73
theorem kw_X11_day_73 {Q : Int32 → HS → Prop} {v0 : Nat} {v2 : Int32} {v3 : Int32} {v5 : Int32} {v6 : Int32} {S0 S : HS} (h : P_X11_day_73 Q v0 v2 v3 v5 v6 S) (K : K7 S0 S) : P_X11_day_73 (fun r T => Q r T ∧ K7 S0 T) v0 v2 v3 v5 v6 S := h (fun v0 v2 v3 v5 v6 S => K7 S0 S → P_X11_day_73 (fun r T => Q r T ∧ K7 S0 T) v0 v2 v3 v5 v6 S) (fun v0 v2 v3 v5 v6 S hB K => fd_X11_day_73 (kwB_X11_day_73 hB K (fun _ _ _ _ _ _ hx K => hx K))) K
set_option maxRecDepth 20000 in
set_option maxHeartbeats 1000000 in
theorem kw_X11_day_0 {Q : Int32 → HS → Prop} {v0 : Nat} {v1 : Int32} {v2 : Int32} {v3 : Int32} {v4 : Int32} {S0 S : HS} (h : P_X11_day_0 Q v0 v1 v2 v3 v4 S) (K : K7 S0 S) : P_X11_day_0 (fun r T => Q r T ∧ K7 S0 T) v0 v1 v2 v3 v4 S := by
  delta P_X11_day_0 at h ⊢
  obtain ⟨c1, h⟩ := h
  refine ⟨c1, ?_⟩
  have n2 := k7_nk K c1 (by decide)
  have o3 := c1
  intro x5 e4
  have h := h x5 e4
  have K := k7_I K e4 n2
  have o3 := ob_wI o3 e4
  refine cm_X11_isWalker (kw_X11_isWalker h) h (fun x6 x7 p10 h g8 g9 => ?_)
  have h := h g8 g9
  have K := k7_tr K p10.2
  have o3 := gr_ob p10.2.1 o3
  refine ⟨?_, ?_⟩
  · intro c11
    have h := h.1 c11
    exact kw_X11_day_21 h K
  · intro c12
    have h := h.2 c12
    refine cm_X11_isPlace (kw_X11_isPlace h) h (fun x13 x14 p17 h g15 g16 => ?_)
    have h := h g15 g16
    have K := k7_tr K p17.2
    have o3 := gr_ob p17.2.1 o3
    refine ⟨?_, ?_⟩
    · intro c18
      have h := h.1 c18
      refine cm_X11_in (kw_X11_in h) h (fun x19 x20 p23 h g21 g22 => ?_)
      have h := h g21 g22
      have K := k7_tr K p23.2
      have o3 := gr_ob p23.2.1 o3
      refine ⟨?_, ?_⟩
      · intro c24
        have h := h.1 c24
        exact kw_X11_day_50 h K
      · intro c25
        have h := h.2 c25
        refine cm_X11_in (kw_X11_in h) h (fun x26 x27 p30 h g28 g29 => ?_)
        have h := h g28 g29
        have K := k7_tr K p30.2
        have o3 := gr_ob p30.2.1 o3
        refine ⟨?_, ?_⟩
        · intro c31
          have h := h.1 c31
          intro x33 e32
          have h := h x33 e32
          have K := k7_I K e32 n2
          have o3 := ob_wI o3 e32
          intro x35 e34
          have h := h x35 e34
          have K := k7_I K e34 n2
          have o3 := ob_wI o3 e34
          exact kw_X11_day_73 h K
        · intro c36
          have h := h.2 c36
          exact kw_X11_day_50 h K
    · intro c37
      have h := h.2 c37
      exact kw_X11_day_21 h K
theorem kw_X11_day {Q : Int32 → HS → Prop} {v0 : Nat} {v1 : Int32} {v2 : Int32} {v3 : Int32} {v4 : Int32} {S : HS} (h : P_X11_day v0 v1 v2 v3 v4 Q S) : P_X11_day v0 v1 v2 v3 v4 (fun r T => Q r T ∧ K7 S T) S := kw_X11_day_0 h (k7_rf S)
set_option maxRecDepth 20000 in
set_option maxHeartbeats 1000000 in
theorem kw_X11_wetAtBest_0 {Q : Int64 → HS → Prop} {v0 : Nat} {v1 : Int32} {v2 : Int32} {v3 : Int32} {v4 : Int32} {S0 S : HS} (h : P_X11_wetAtBest_0 Q v0 v1 v2 v3 v4 S) (K : K7 S0 S) : P_X11_wetAtBest_0 (fun r T => Q r T ∧ K7 S0 T) v0 v1 v2 v3 v4 S := by
  delta P_X11_wetAtBest_0 at h ⊢
  obtain ⟨c1, h⟩ := h
  refine ⟨c1, ?_⟩
  have n2 := k7_nk K c1 (by decide)
  have o3 := c1
  refine cm_X11_bestOf (kw_X11_bestOf h) h (fun x4 x5 p7 h g6 => ?_)
  have h := h g6
  have K := k7_tr K p7.2
  have o3 := gr_ob p7.2.1 o3
  refine cm_X11_wetOf (kw_X11_wetOf h) h (fun x8 x9 p11 h g10 => ?_)
  have h := h g10
  have K := k7_tr K p11.2
  have o3 := gr_ob p11.2.1 o3
  exact ⟨h, K⟩
theorem kw_X11_wetAtBest {Q : Int64 → HS → Prop} {v0 : Nat} {v1 : Int32} {v2 : Int32} {v3 : Int32} {v4 : Int32} {S : HS} (h : P_X11_wetAtBest v0 v1 v2 v3 v4 Q S) : P_X11_wetAtBest v0 v1 v2 v3 v4 (fun r T => Q r T ∧ K7 S T) S := kw_X11_wetAtBest_0 h (k7_rf S)
set_option maxRecDepth 20000 in
set_option maxHeartbeats 1000000 in
theorem kw_X11_driest_30 {Q : Int32 → HS → Prop} {v0 : Nat} {S0 S : HS} (h : P_X11_driest_30 Q v0 S) (K : K7 S0 S) : P_X11_driest_30 (fun r T => Q r T ∧ K7 S0 T) v0 S := by
  delta P_X11_driest_30 at h ⊢
  obtain ⟨c1, h⟩ := h
  refine ⟨c1, ?_⟩
  have n2 := k7_nk K c1 (by decide)
  have o3 := c1
  refine cm_X11_refused (kw_X11_refused h) h (fun x4 x5 p7 h g6 => ?_)
  have h := h g6
  have K := k7_tr K p7.2
  have o3 := gr_ob p7.2.1 o3
  exact ⟨h, K⟩
set_option maxRecDepth 20000 in
set_option maxHeartbeats 1000000 in
theorem kw_X11_driest_105 {Q : Int32 → HS → Prop} {X45 X45_2 : Nat → Int32 → Int32 → Int32 → Int32 → Int64 → Int32 → HS → Prop} {v0 : Nat} {v1 : Int32} {v2 : Int32} {v3 : Int32} {v4 : Int32} {v5 : Int64} {v7 : Int32} {S0 S : HS} (h : P_X11_driest_105 Q X45 v0 v1 v2 v3 v4 v5 v7 S) (K : K7 S0 S) (hX45 : ∀ (u0 : Nat) (u1 : Int32) (u2 : Int32) (u3 : Int32) (u4 : Int32) (u5 : Int64) (u6 : Int32) (u7 : HS), X45 u0 u1 u2 u3 u4 u5 u6 u7 → K7 S0 u7 → X45_2 u0 u1 u2 u3 u4 u5 u6 u7) : P_X11_driest_105 (fun r T => Q r T ∧ K7 S0 T) X45_2 v0 v1 v2 v3 v4 v5 v7 S := by
  delta P_X11_driest_105 at h ⊢
  intro x2 e1
  have h := h x2 e1
  exact hX45 _ _ _ _ _ _ _ _ h K
set_option maxRecDepth 20000 in
set_option maxHeartbeats 1000000 in
theorem kw_X11_driest_97 {Q : Int32 → HS → Prop} {X45 X45_2 : Nat → Int32 → Int32 → Int32 → Int32 → Int64 → Int32 → HS → Prop} {v0 : Nat} {v1 : Int32} {v2 : Int32} {v3 : Int32} {v7 : Int32} {v8 : Int64} {S0 S : HS} (h : P_X11_driest_97 Q X45 v0 v1 v2 v3 v7 v8 S) (K : K7 S0 S) (hX45 : ∀ (u0 : Nat) (u1 : Int32) (u2 : Int32) (u3 : Int32) (u4 : Int32) (u5 : Int64) (u6 : Int32) (u7 : HS), X45 u0 u1 u2 u3 u4 u5 u6 u7 → K7 S0 u7 → X45_2 u0 u1 u2 u3 u4 u5 u6 u7) : P_X11_driest_97 (fun r T => Q r T ∧ K7 S0 T) X45_2 v0 v1 v2 v3 v7 v8 S := by
  delta P_X11_driest_97 at h ⊢
  exact kw_X11_driest_105 h K hX45
set_option maxRecDepth 20000 in
set_option maxHeartbeats 1000000 in
theorem kwB_X11_driest_45 {Q : Int32 → HS → Prop} {X45 X45_2 : Nat → Int32 → Int32 → Int32 → Int32 → Int64 → Int32 → HS → Prop} {v0 : Nat} {v1 : Int32} {v2 : Int32} {v3 : Int32} {v4 : Int32} {v5 : Int64} {v7 : Int32} {S0 S : HS} (h : B_X11_driest_45 Q X45 v0 v1 v2 v3 v4 v5 v7 S) (K : K7 S0 S) (hX45 : ∀ (u0 : Nat) (u1 : Int32) (u2 : Int32) (u3 : Int32) (u4 : Int32) (u5 : Int64) (u6 : Int32) (u7 : HS), X45 u0 u1 u2 u3 u4 u5 u6 u7 → K7 S0 u7 → X45_2 u0 u1 u2 u3 u4 u5 u6 u7) : B_X11_driest_45 (fun r T => Q r T ∧ K7 S0 T) X45_2 v0 v1 v2 v3 v4 v5 v7 S := by
  delta B_X11_driest_45 at h ⊢
  obtain ⟨c1, h⟩ := h
  refine ⟨c1, ?_⟩
  have n2 := k7_nk K c1 (by decide)
  have o3 := c1
  obtain ⟨b4, e5, h⟩ := h
  refine ⟨b4, e5, ?_⟩
  obtain ⟨c6, h⟩ := h
  refine ⟨c6, ?_⟩
  have n7 := k7_nk K c6 (by decide)
  intro x9 e8
  have h := h x9 e8
  refine ⟨?_, ?_⟩
  · intro c10
    have h := h.1 c10
    refine ⟨?_, ?_⟩
    · intro c11
      have h := h.1 c11
      refine cm_X11_good (kw_X11_good h) h (fun x12 x13 p15 h g14 => ?_)
      have h := h g14
      have K := k7_tr K p15.2
      have o3 := gr_ob p15.2.1 o3
      exact ⟨h, K⟩
    · intro c16
      have h := h.2 c16
      refine cm_X11_refused (kw_X11_refused h) h (fun x17 x18 p20 h g19 => ?_)
      have h := h g19
      have K := k7_tr K p20.2
      have o3 := gr_ob p20.2.1 o3
      exact ⟨h, K⟩
  · intro c21
    have h := h.2 c21
    refine cm_X11_wetAtBest (kw_X11_wetAtBest h) h (fun x22 x23 p25 h g24 => ?_)
    have h := h g24
    have K := k7_tr K p25.2
    have o3 := gr_ob p25.2.1 o3
    obtain ⟨b26, e27, h⟩ := h
    refine ⟨b26, e27, ?_⟩
    obtain ⟨c28, h⟩ := h
    refine ⟨c28, ?_⟩
    have n29 := k7_nk K c28 (by decide)
    obtain ⟨b30, e31, h⟩ := h
    refine ⟨b30, e31, ?_⟩
    obtain ⟨c32, h⟩ := h
    refine ⟨c32, ?_⟩
    obtain ⟨c33, h⟩ := h
    refine ⟨c33, ?_⟩
    intro x35 e34
    have h := h x35 e34
    intro x37 e36
    have h := h x37 e36
    refine ⟨?_, ?_⟩
    · intro c38
      have h := h.1 c38
      exact kw_X11_driest_97 h K hX45
    · intro c39
      have h := h.2 c39
      refine ⟨?_, ?_⟩
      · intro c40
        have h := h.1 c40
        exact kw_X11_driest_97 h K hX45
      · intro c41
        have h := h.2 c41
        exact kw_X11_driest_105 h K hX45
theorem kw_X11_driest_45 {Q : Int32 → HS → Prop} {v0 : Nat} {v1 : Int32} {v2 : Int32} {v3 : Int32} {v4 : Int32} {v5 : Int64} {v7 : Int32} {S0 S : HS} (h : P_X11_driest_45 Q v0 v1 v2 v3 v4 v5 v7 S) (K : K7 S0 S) : P_X11_driest_45 (fun r T => Q r T ∧ K7 S0 T) v0 v1 v2 v3 v4 v5 v7 S := h (fun v0 v1 v2 v3 v4 v5 v7 S => K7 S0 S → P_X11_driest_45 (fun r T => Q r T ∧ K7 S0 T) v0 v1 v2 v3 v4 v5 v7 S) (fun v0 v1 v2 v3 v4 v5 v7 S hB K => fd_X11_driest_45 (kwB_X11_driest_45 hB K (fun _ _ _ _ _ _ _ _ hx K => hx K))) K
set_option maxRecDepth 20000 in
set_option maxHeartbeats 1000000 in
theorem kw_X11_driest_0 {Q : Int32 → HS → Prop} {v0 : Nat} {v1 : Int32} {v2 : Int32} {v3 : Int32} {S0 S : HS} (h : P_X11_driest_0 Q v0 v1 v2 v3 S) (K : K7 S0 S) : P_X11_driest_0 (fun r T => Q r T ∧ K7 S0 T) v0 v1 v2 v3 S := by
  delta P_X11_driest_0 at h ⊢
  obtain ⟨c1, h⟩ := h
  refine ⟨c1, ?_⟩
  have n2 := k7_nk K c1 (by decide)
  have o3 := c1
  intro x5 e4
  have h := h x5 e4
  have K := k7_I K e4 n2
  have o3 := ob_wI o3 e4
  refine cm_X11_isWalker (kw_X11_isWalker h) h (fun x6 x7 p10 h g8 g9 => ?_)
  have h := h g8 g9
  have K := k7_tr K p10.2
  have o3 := gr_ob p10.2.1 o3
  refine ⟨?_, ?_⟩
  · intro c11
    have h := h.1 c11
    exact kw_X11_driest_30 h K
  · intro c12
    have h := h.2 c12
    refine cm_X11_isRoad (kw_X11_isRoad h) h (fun x13 x14 p17 h g15 g16 => ?_)
    have h := h g15 g16
    have K := k7_tr K p17.2
    have o3 := gr_ob p17.2.1 o3
    refine ⟨?_, ?_⟩
    · intro c18
      have h := h.1 c18
      exact kw_X11_driest_30 h K
    · intro c19
      have h := h.2 c19
      refine cm_X11_in (kw_X11_in h) h (fun x20 x21 p24 h g22 g23 => ?_)
      have h := h g22 g23
      have K := k7_tr K p24.2
      have o3 := gr_ob p24.2.1 o3
      refine ⟨?_, ?_⟩
      · intro c25
        have h := h.1 c25
        exact kw_X11_driest_45 h K
      · intro c26
        have h := h.2 c26
        exact kw_X11_driest_30 h K
theorem kw_X11_driest {Q : Int32 → HS → Prop} {v0 : Nat} {v1 : Int32} {v2 : Int32} {v3 : Int32} {S : HS} (h : P_X11_driest v0 v1 v2 v3 Q S) : P_X11_driest v0 v1 v2 v3 (fun r T => Q r T ∧ K7 S T) S := kw_X11_driest_0 h (k7_rf S)
set_option maxRecDepth 20000 in
set_option maxHeartbeats 1000000 in
theorem kw_X11_drips_0 {Q : Int64 → HS → Prop} {v0 : Nat} {v1 : Int32} {v2 : Int32} {S0 S : HS} (h : P_X11_drips_0 Q v0 v1 v2 S) (K : K7 S0 S) : P_X11_drips_0 (fun r T => Q r T ∧ K7 S0 T) v0 v1 v2 S := by
  delta P_X11_drips_0 at h ⊢
  obtain ⟨c1, h⟩ := h
  refine ⟨c1, ?_⟩
  have n2 := k7_nk K c1 (by decide)
  have o3 := c1
  obtain ⟨b4, e5, h⟩ := h
  refine ⟨b4, e5, ?_⟩
  obtain ⟨c6, h⟩ := h
  refine ⟨c6, ?_⟩
  have n7 := k7_nk K c6 (by decide)
  obtain ⟨b8, e9, h⟩ := h
  refine ⟨b8, e9, ?_⟩
  obtain ⟨c10, h⟩ := h
  refine ⟨c10, ?_⟩
  obtain ⟨c11, h⟩ := h
  refine ⟨c11, ?_⟩
  intro x13 e12
  have h := h x13 e12
  obtain ⟨b14, e15, h⟩ := h
  refine ⟨b14, e15, ?_⟩
  obtain ⟨c16, h⟩ := h
  refine ⟨c16, ?_⟩
  have n17 := k7_nk K c16 (by decide)
  obtain ⟨b18, e19, h⟩ := h
  refine ⟨b18, e19, ?_⟩
  obtain ⟨c20, h⟩ := h
  refine ⟨c20, ?_⟩
  obtain ⟨c21, h⟩ := h
  refine ⟨c21, ?_⟩
  intro x23 e22
  have h := h x23 e22
  obtain ⟨b24, e25, h⟩ := h
  refine ⟨b24, e25, ?_⟩
  obtain ⟨c26, h⟩ := h
  refine ⟨c26, ?_⟩
  have n27 := k7_nk K c26 (by decide)
  refine cm_X10_shield (kw_X10_shield h) h (fun x28 x29 p31 h g30 => ?_)
  have h := h g30
  have K := k7_tr K p31.2
  have o3 := gr_ob p31.2.1 o3
  refine cm_X11_less (kw_X11_less h) h (fun x32 x33 p35 h g34 => ?_)
  have h := h g34
  have K := k7_tr K p35.2
  have o3 := gr_ob p35.2.1 o3
  exact ⟨h, K⟩
theorem kw_X11_drips {Q : Int64 → HS → Prop} {v0 : Nat} {v1 : Int32} {v2 : Int32} {S : HS} (h : P_X11_drips v0 v1 v2 Q S) : P_X11_drips v0 v1 v2 (fun r T => Q r T ∧ K7 S T) S := kw_X11_drips_0 h (k7_rf S)
set_option maxRecDepth 20000 in
set_option maxHeartbeats 1000000 in
theorem kw_X11_even_39 {Q : Int32 → HS → Prop} {v0 : Nat} {S0 S : HS} (h : P_X11_even_39 Q v0 S) (K : K7 S0 S) : P_X11_even_39 (fun r T => Q r T ∧ K7 S0 T) v0 S := by
  delta P_X11_even_39 at h ⊢
  obtain ⟨c1, h⟩ := h
  refine ⟨c1, ?_⟩
  have n2 := k7_nk K c1 (by decide)
  have o3 := c1
  refine cm_X11_refused (kw_X11_refused h) h (fun x4 x5 p7 h g6 => ?_)
  have h := h g6
  have K := k7_tr K p7.2
  have o3 := gr_ob p7.2.1 o3
  exact ⟨h, K⟩
set_option maxRecDepth 20000 in
set_option maxHeartbeats 1000000 in
theorem kw_X11_even_111 {Q : Int32 → HS → Prop} {X59 X59_2 : Nat → Int32 → Int32 → Int32 → Int32 → Int32 → Int32 → HS → Prop} {v0 : Nat} {v1 : Int32} {v2 : Int32} {v3 : Int32} {v4 : Int32} {v6 : Int32} {s0 : Int32} {S0 S : HS} (h : P_X11_even_111 Q X59 v0 v1 v2 v3 v4 v6 s0 S) (K : K7 S0 S) (hX59 : ∀ (u0 : Nat) (u1 : Int32) (u2 : Int32) (u3 : Int32) (u4 : Int32) (u5 : Int32) (u6 : Int32) (u7 : HS), X59 u0 u1 u2 u3 u4 u5 u6 u7 → K7 S0 u7 → X59_2 u0 u1 u2 u3 u4 u5 u6 u7) : P_X11_even_111 (fun r T => Q r T ∧ K7 S0 T) X59_2 v0 v1 v2 v3 v4 v6 s0 S := by
  delta P_X11_even_111 at h ⊢
  intro x2 e1
  have h := h x2 e1
  exact hX59 _ _ _ _ _ _ _ _ h K
set_option maxRecDepth 20000 in
set_option maxHeartbeats 1000000 in
theorem kw_X11_even_110 {Q : Int32 → HS → Prop} {X59 X59_2 : Nat → Int32 → Int32 → Int32 → Int32 → Int32 → Int32 → HS → Prop} {v0 : Nat} {v1 : Int32} {v2 : Int32} {v3 : Int32} {v4 : Int32} {v6 : Int32} {S0 S : HS} (h : P_X11_even_110 Q X59 v0 v1 v2 v3 v4 v6 S) (K : K7 S0 S) (hX59 : ∀ (u0 : Nat) (u1 : Int32) (u2 : Int32) (u3 : Int32) (u4 : Int32) (u5 : Int32) (u6 : Int32) (u7 : HS), X59 u0 u1 u2 u3 u4 u5 u6 u7 → K7 S0 u7 → X59_2 u0 u1 u2 u3 u4 u5 u6 u7) : P_X11_even_110 (fun r T => Q r T ∧ K7 S0 T) X59_2 v0 v1 v2 v3 v4 v6 S := by
  delta P_X11_even_110 at h ⊢
  exact kw_X11_even_111 h K hX59
set_option maxRecDepth 20000 in
set_option maxHeartbeats 1000000 in
theorem kw_X11_even_130 {Q : Int32 → HS → Prop} {s0 : Nat} {s1 : Int32} {S0 S : HS} (h : P_X11_even_130 Q s0 s1 S) (K : K7 S0 S) : P_X11_even_130 (fun r T => Q r T ∧ K7 S0 T) s0 s1 S := by
  delta P_X11_even_130 at h ⊢
  obtain ⟨c1, h⟩ := h
  refine ⟨c1, ?_⟩
  have n2 := k7_nk K c1 (by decide)
  have o3 := c1
  refine cm_X11_good (kw_X11_good h) h (fun x4 x5 p7 h g6 => ?_)
  have h := h g6
  have K := k7_tr K p7.2
  have o3 := gr_ob p7.2.1 o3
  exact ⟨h, K⟩
set_option maxRecDepth 20000 in
set_option maxHeartbeats 1000000 in
theorem kwB_X11_even_59 {Q : Int32 → HS → Prop} {X59 X59_2 : Nat → Int32 → Int32 → Int32 → Int32 → Int32 → Int32 → HS → Prop} {v0 : Nat} {v1 : Int32} {v2 : Int32} {v3 : Int32} {v4 : Int32} {v5 : Int32} {v6 : Int32} {S0 S : HS} (h : B_X11_even_59 Q X59 v0 v1 v2 v3 v4 v5 v6 S) (K : K7 S0 S) (hX59 : ∀ (u0 : Nat) (u1 : Int32) (u2 : Int32) (u3 : Int32) (u4 : Int32) (u5 : Int32) (u6 : Int32) (u7 : HS), X59 u0 u1 u2 u3 u4 u5 u6 u7 → K7 S0 u7 → X59_2 u0 u1 u2 u3 u4 u5 u6 u7) : B_X11_even_59 (fun r T => Q r T ∧ K7 S0 T) X59_2 v0 v1 v2 v3 v4 v5 v6 S := by
  delta B_X11_even_59 at h ⊢
  obtain ⟨c1, h⟩ := h
  refine ⟨c1, ?_⟩
  have n2 := k7_nk K c1 (by decide)
  have o3 := c1
  obtain ⟨b4, e5, h⟩ := h
  refine ⟨b4, e5, ?_⟩
  obtain ⟨c6, h⟩ := h
  refine ⟨c6, ?_⟩
  have n7 := k7_nk K c6 (by decide)
  obtain ⟨b8, e9, h⟩ := h
  refine ⟨b8, e9, ?_⟩
  obtain ⟨c10, h⟩ := h
  refine ⟨c10, ?_⟩
  obtain ⟨c11, h⟩ := h
  refine ⟨c11, ?_⟩
  intro x13 e12
  have h := h x13 e12
  refine ⟨?_, ?_⟩
  · intro c14
    have h := h.1 c14
    refine ⟨?_, ?_⟩
    · intro c15
      have h := h.1 c15
      exact kw_X11_even_130 h K
    · intro c16
      have h := h.2 c16
      exact kw_X11_even_130 h K
  · intro c17
    have h := h.2 c17
    refine ⟨?_, ?_⟩
    · intro c18
      have h := h.1 c18
      exact kw_X11_even_110 h K hX59
    · intro c19
      have h := h.2 c19
      refine cm_X11_wetOf (kw_X11_wetOf h) h (fun x20 x21 p23 h g22 => ?_)
      have h := h g22
      have K := k7_tr K p23.2
      have o3 := gr_ob p23.2.1 o3
      refine cm_X11_wetOf (kw_X11_wetOf h) h (fun x24 x25 p27 h g26 => ?_)
      have h := h g26
      have K := k7_tr K p27.2
      have o3 := gr_ob p27.2.1 o3
      refine ⟨?_, ?_⟩
      · intro c28
        have h := h.1 c28
        exact kw_X11_even_110 h K hX59
      · intro c29
        have h := h.2 c29
        exact kw_X11_even_111 h K hX59
theorem kw_X11_even_59 {Q : Int32 → HS → Prop} {v0 : Nat} {v1 : Int32} {v2 : Int32} {v3 : Int32} {v4 : Int32} {v5 : Int32} {v6 : Int32} {S0 S : HS} (h : P_X11_even_59 Q v0 v1 v2 v3 v4 v5 v6 S) (K : K7 S0 S) : P_X11_even_59 (fun r T => Q r T ∧ K7 S0 T) v0 v1 v2 v3 v4 v5 v6 S := h (fun v0 v1 v2 v3 v4 v5 v6 S => K7 S0 S → P_X11_even_59 (fun r T => Q r T ∧ K7 S0 T) v0 v1 v2 v3 v4 v5 v6 S) (fun v0 v1 v2 v3 v4 v5 v6 S hB K => fd_X11_even_59 (kwB_X11_even_59 hB K (fun _ _ _ _ _ _ _ _ hx K => hx K))) K
set_option maxRecDepth 20000 in
set_option maxHeartbeats 1000000 in
theorem kw_X11_even_0 {Q : Int32 → HS → Prop} {v0 : Nat} {v1 : Int32} {v2 : Int32} {v3 : Int32} {v4 : Int32} {S0 S : HS} (h : P_X11_even_0 Q v0 v1 v2 v3 v4 S) (K : K7 S0 S) : P_X11_even_0 (fun r T => Q r T ∧ K7 S0 T) v0 v1 v2 v3 v4 S := by
  delta P_X11_even_0 at h ⊢
  obtain ⟨c1, h⟩ := h
  refine ⟨c1, ?_⟩
  have n2 := k7_nk K c1 (by decide)
  have o3 := c1
  intro x5 e4
  have h := h x5 e4
  have K := k7_I K e4 n2
  have o3 := ob_wI o3 e4
  refine cm_X11_isWalker (kw_X11_isWalker h) h (fun x6 x7 p10 h g8 g9 => ?_)
  have h := h g8 g9
  have K := k7_tr K p10.2
  have o3 := gr_ob p10.2.1 o3
  refine ⟨?_, ?_⟩
  · intro c11
    have h := h.1 c11
    exact kw_X11_even_39 h K
  · intro c12
    have h := h.2 c12
    refine cm_X11_isRoad (kw_X11_isRoad h) h (fun x13 x14 p17 h g15 g16 => ?_)
    have h := h g15 g16
    have K := k7_tr K p17.2
    have o3 := gr_ob p17.2.1 o3
    refine ⟨?_, ?_⟩
    · intro c18
      have h := h.1 c18
      exact kw_X11_even_39 h K
    · intro c19
      have h := h.2 c19
      refine cm_X11_in (kw_X11_in h) h (fun x20 x21 p24 h g22 g23 => ?_)
      have h := h g22 g23
      have K := k7_tr K p24.2
      have o3 := gr_ob p24.2.1 o3
      refine ⟨?_, ?_⟩
      · intro c25
        have h := h.1 c25
        exact kw_X11_even_39 h K
      · intro c26
        have h := h.2 c26
        refine cm_X11_isHour (kw_X11_isHour h) h (fun x27 x28 p31 h g29 g30 => ?_)
        have h := h g29 g30
        have K := k7_tr K p31.2
        have o3 := gr_ob p31.2.1 o3
        refine ⟨?_, ?_⟩
        · intro c32
          have h := h.1 c32
          obtain ⟨b33, e34, h⟩ := h
          refine ⟨b33, e34, ?_⟩
          obtain ⟨c35, h⟩ := h
          refine ⟨c35, ?_⟩
          have n36 := k7_nk K c35 (by decide)
          obtain ⟨b37, e38, h⟩ := h
          refine ⟨b37, e38, ?_⟩
          obtain ⟨c39, h⟩ := h
          refine ⟨c39, ?_⟩
          obtain ⟨c40, h⟩ := h
          refine ⟨c40, ?_⟩
          intro x42 e41
          have h := h x42 e41
          exact kw_X11_even_59 h K
        · intro c43
          have h := h.2 c43
          exact kw_X11_even_39 h K
theorem kw_X11_even {Q : Int32 → HS → Prop} {v0 : Nat} {v1 : Int32} {v2 : Int32} {v3 : Int32} {v4 : Int32} {S : HS} (h : P_X11_even v0 v1 v2 v3 v4 Q S) : P_X11_even v0 v1 v2 v3 v4 (fun r T => Q r T ∧ K7 S T) S := kw_X11_even_0 h (k7_rf S)
set_option maxRecDepth 20000 in
set_option maxHeartbeats 1000000 in
theorem kw_X11_isSpeed_0 {Q : Int32 → HS → Prop} {v0 : Nat} {v1 : Int32} {v2 : Int32} {S0 S : HS} (h : P_X11_isSpeed_0 Q v0 v1 v2 S) (K : K7 S0 S) : P_X11_isSpeed_0 (fun r T => Q r T ∧ K7 S0 T) v0 v1 v2 S := by
  delta P_X11_isSpeed_0 at h ⊢
  obtain ⟨c1, h⟩ := h
  refine ⟨c1, ?_⟩
  have n2 := k7_nk K c1 (by decide)
  have o3 := c1
  obtain ⟨b4, e5, h⟩ := h
  refine ⟨b4, e5, ?_⟩
  obtain ⟨c6, h⟩ := h
  refine ⟨c6, ?_⟩
  have n7 := k7_nk K c6 (by decide)
  obtain ⟨b8, e9, h⟩ := h
  refine ⟨b8, e9, ?_⟩
  obtain ⟨c10, h⟩ := h
  refine ⟨c10, ?_⟩
  obtain ⟨c11, h⟩ := h
  refine ⟨c11, ?_⟩
  intro x13 e12
  have h := h x13 e12
  obtain ⟨b14, e15, h⟩ := h
  refine ⟨b14, e15, ?_⟩
  obtain ⟨c16, h⟩ := h
  refine ⟨c16, ?_⟩
  have n17 := k7_nk K c16 (by decide)
  obtain ⟨b18, e19, h⟩ := h
  refine ⟨b18, e19, ?_⟩
  obtain ⟨c20, h⟩ := h
  refine ⟨c20, ?_⟩
  obtain ⟨c21, h⟩ := h
  refine ⟨c21, ?_⟩
  intro x23 e22
  have h := h x23 e22
  refine cm_X11_in (kw_X11_in h) h (fun x24 x25 p28 h g26 g27 => ?_)
  have h := h g26 g27
  have K := k7_tr K p28.2
  have o3 := gr_ob p28.2.1 o3
  obtain ⟨c29, h⟩ := h
  refine ⟨c29, ?_⟩
  exact ⟨h, K⟩
theorem kw_X11_isSpeed {Q : Int32 → HS → Prop} {v0 : Nat} {v1 : Int32} {v2 : Int32} {S : HS} (h : P_X11_isSpeed v0 v1 v2 Q S) : P_X11_isSpeed v0 v1 v2 (fun r T => Q r T ∧ K7 S T) S := kw_X11_isSpeed_0 h (k7_rf S)
set_option maxRecDepth 20000 in
set_option maxHeartbeats 1000000 in
theorem kw_X11_refuses_0 {Q : Int32 → HS → Prop} {v0 : Nat} {v1 : Int32} {v2 : Int32} {v3 : Int32} {v4 : Int32} {v5 : Int32} {S0 S : HS} (h : P_X11_refuses_0 Q v0 v1 v2 v3 v4 v5 S) (K : K7 S0 S) : P_X11_refuses_0 (fun r T => Q r T ∧ K7 S0 T) v0 v1 v2 v3 v4 v5 S := by
  delta P_X11_refuses_0 at h ⊢
  obtain ⟨c1, h⟩ := h
  refine ⟨c1, ?_⟩
  have n2 := k7_nk K c1 (by decide)
  have o3 := c1
  refine cm_X11_isWalker (kw_X11_isWalker h) h (fun x4 x5 p8 h g6 g7 => ?_)
  have h := h g6 g7
  have K := k7_tr K p8.2
  have o3 := gr_ob p8.2.1 o3
  refine ⟨?_, ?_⟩
  · intro c9
    have h := h.1 c9
    exact ⟨h, K⟩
  · intro c10
    have h := h.2 c10
    refine cm_X11_isRoad (kw_X11_isRoad h) h (fun x11 x12 p15 h g13 g14 => ?_)
    have h := h g13 g14
    have K := k7_tr K p15.2
    have o3 := gr_ob p15.2.1 o3
    refine ⟨?_, ?_⟩
    · intro c16
      have h := h.1 c16
      exact ⟨h, K⟩
    · intro c17
      have h := h.2 c17
      refine cm_X11_in (kw_X11_in h) h (fun x18 x19 p22 h g20 g21 => ?_)
      have h := h g20 g21
      have K := k7_tr K p22.2
      have o3 := gr_ob p22.2.1 o3
      refine ⟨?_, ?_⟩
      · intro c23
        have h := h.1 c23
        exact ⟨h, K⟩
      · intro c24
        have h := h.2 c24
        refine cm_X11_isHour (kw_X11_isHour h) h (fun x25 x26 p29 h g27 g28 => ?_)
        have h := h g27 g28
        have K := k7_tr K p29.2
        have o3 := gr_ob p29.2.1 o3
        refine ⟨?_, ?_⟩
        · intro c30
          have h := h.1 c30
          refine cm_X11_isSpeed (kw_X11_isSpeed h) h (fun x31 x32 p35 h g33 g34 => ?_)
          have h := h g33 g34
          have K := k7_tr K p35.2
          have o3 := gr_ob p35.2.1 o3
          refine ⟨?_, ?_⟩
          · intro c36
            have h := h.1 c36
            exact ⟨h, K⟩
          · intro c37
            have h := h.2 c37
            exact ⟨h, K⟩
        · intro c38
          have h := h.2 c38
          exact ⟨h, K⟩
theorem kw_X11_refuses {Q : Int32 → HS → Prop} {v0 : Nat} {v1 : Int32} {v2 : Int32} {v3 : Int32} {v4 : Int32} {v5 : Int32} {S : HS} (h : P_X11_refuses v0 v1 v2 v3 v4 v5 Q S) : P_X11_refuses v0 v1 v2 v3 v4 v5 (fun r T => Q r T ∧ K7 S T) S := kw_X11_refuses_0 h (k7_rf S)
set_option maxRecDepth 20000 in
set_option maxHeartbeats 1000000 in
theorem kwB_X11_told_12 {Q : Int64 → HS → Prop} {X12 X12_2 : Int64 → Int64 → Int32 → Int64 → Int64 → HS → Prop} {v1 : Int64} {v3 : Int64} {v5 : Int32} {v6 : Int64} {v8 : Int64} {S0 S : HS} (h : B_X11_told_12 Q X12 v1 v3 v5 v6 v8 S) (K : K7 S0 S) (hX12 : ∀ (u0 : Int64) (u1 : Int64) (u2 : Int32) (u3 : Int64) (u4 : Int64) (u5 : HS), X12 u0 u1 u2 u3 u4 u5 → K7 S0 u5 → X12_2 u0 u1 u2 u3 u4 u5) : B_X11_told_12 (fun r T => Q r T ∧ K7 S0 T) X12_2 v1 v3 v5 v6 v8 S := by
  delta B_X11_told_12 at h ⊢
  refine ⟨?_, ?_⟩
  · intro c1
    have h := h.1 c1
    refine ⟨?_, ?_⟩
    · intro c2
      have h := h.1 c2
      obtain ⟨c3, h⟩ := h
      refine ⟨c3, ?_⟩
      intro x5 e4
      have h := h x5 e4
      exact ⟨h, K⟩
    · intro c6
      have h := h.2 c6
      obtain ⟨c7, h⟩ := h
      refine ⟨c7, ?_⟩
      intro x9 e8
      have h := h x9 e8
      exact ⟨h, K⟩
  · intro c10
    have h := h.2 c10
    obtain ⟨c11, h⟩ := h
    refine ⟨c11, ?_⟩
    intro x13 e12
    have h := h x13 e12
    exact hX12 _ _ _ _ _ _ h K
theorem kw_X11_told_12 {Q : Int64 → HS → Prop} {v1 : Int64} {v3 : Int64} {v5 : Int32} {v6 : Int64} {v8 : Int64} {S0 S : HS} (h : P_X11_told_12 Q v1 v3 v5 v6 v8 S) (K : K7 S0 S) : P_X11_told_12 (fun r T => Q r T ∧ K7 S0 T) v1 v3 v5 v6 v8 S := h (fun v1 v3 v5 v6 v8 S => K7 S0 S → P_X11_told_12 (fun r T => Q r T ∧ K7 S0 T) v1 v3 v5 v6 v8 S) (fun v1 v3 v5 v6 v8 S hB K => fd_X11_told_12 (kwB_X11_told_12 hB K (fun _ _ _ _ _ _ hx K => hx K))) K
set_option maxRecDepth 20000 in
set_option maxHeartbeats 1000000 in
theorem kw_X11_told_0 {Q : Int64 → HS → Prop} {v0 : Nat} {v1 : Int64} {v3 : Int64} {v5 : Int32} {S0 S : HS} (h : P_X11_told_0 Q v0 v1 v3 v5 S) (K : K7 S0 S) : P_X11_told_0 (fun r T => Q r T ∧ K7 S0 T) v0 v1 v3 v5 S := by
  delta P_X11_told_0 at h ⊢
  obtain ⟨c1, h⟩ := h
  refine ⟨c1, ?_⟩
  have n2 := k7_nk K c1 (by decide)
  have o3 := c1
  refine cm_X11_good (kw_X11_good h) h (fun x4 x5 p7 h g6 => ?_)
  have h := h g6
  have K := k7_tr K p7.2
  have o3 := gr_ob p7.2.1 o3
  exact kw_X11_told_12 h K
theorem kw_X11_told {Q : Int64 → HS → Prop} {v0 : Nat} {v1 : Int64} {v3 : Int64} {v5 : Int32} {S : HS} (h : P_X11_told v0 v1 v3 v5 Q S) : P_X11_told v0 v1 v3 v5 (fun r T => Q r T ∧ K7 S T) S := kw_X11_told_0 h (k7_rf S)
set_option maxRecDepth 20000 in
set_option maxHeartbeats 1000000 in
theorem kw_X11_face_30 {Q : Int64 → HS → Prop} {v0 : Nat} {v1 : Int32} {v2 : Int32} {v3 : Int32} {v4 : Int32} {v5 : Int32} {v6 : Int32} {v7 : Int32} {s0 : Int32} {S0 S : HS} (h : P_X11_face_30 Q v0 v1 v2 v3 v4 v5 v6 v7 s0 S) (K : K7 S0 S) : P_X11_face_30 (fun r T => Q r T ∧ K7 S0 T) v0 v1 v2 v3 v4 v5 v6 v7 s0 S := by
  delta P_X11_face_30 at h ⊢
  refine ⟨?_, ?_⟩
  · intro c1
    have h := h.1 c1
    obtain ⟨c2, h⟩ := h
    refine ⟨c2, ?_⟩
    have n3 := k7_nk K c2 (by decide)
    have o4 := c2
    refine cm_X11_partsOf (kw_X11_partsOf h) h (fun x5 x6 p8 h g7 => ?_)
    have h := h g7
    have K := k7_tr K p8.2
    have o4 := gr_ob p8.2.1 o4
    refine cm_X11_told (kw_X11_told h) h (fun x9 x10 p12 h g11 => ?_)
    have h := h g11
    have K := k7_tr K p12.2
    have o4 := gr_ob p12.2.1 o4
    exact ⟨h, K⟩
  · intro c13
    have h := h.2 c13
    obtain ⟨c14, h⟩ := h
    refine ⟨c14, ?_⟩
    have n15 := k7_nk K c14 (by decide)
    have o16 := c14
    refine cm_X11_refused (kw_X11_refused h) h (fun x17 x18 p20 h g19 => ?_)
    have h := h g19
    have K := k7_tr K p20.2
    have o16 := gr_ob p20.2.1 o16
    exact ⟨h, K⟩
set_option maxRecDepth 20000 in
set_option maxHeartbeats 1000000 in
theorem kw_X11_face_0 {Q : Int64 → HS → Prop} {v0 : Nat} {v1 : Int32} {v2 : Int32} {v3 : Int32} {v4 : Int32} {v5 : Int32} {v6 : Int32} {v7 : Int32} {S0 S : HS} (h : P_X11_face_0 Q v0 v1 v2 v3 v4 v5 v6 v7 S) (K : K7 S0 S) : P_X11_face_0 (fun r T => Q r T ∧ K7 S0 T) v0 v1 v2 v3 v4 v5 v6 v7 S := by
  delta P_X11_face_0 at h ⊢
  obtain ⟨c1, h⟩ := h
  refine ⟨c1, ?_⟩
  have n2 := k7_nk K c1 (by decide)
  have o3 := c1
  intro x5 e4
  have h := h x5 e4
  have K := k7_I K e4 n2
  have o3 := ob_wI o3 e4
  refine cm_X11_in (kw_X11_in h) h (fun x6 x7 p10 h g8 g9 => ?_)
  have h := h g8 g9
  have K := k7_tr K p10.2
  have o3 := gr_ob p10.2.1 o3
  refine ⟨?_, ?_⟩
  · intro c11
    have h := h.1 c11
    exact kw_X11_face_30 h K
  · intro c12
    have h := h.2 c12
    refine cm_X11_refuses (kw_X11_refuses h) h (fun x13 x14 p16 h g15 => ?_)
    have h := h g15
    have K := k7_tr K p16.2
    have o3 := gr_ob p16.2.1 o3
    exact kw_X11_face_30 h K
theorem kw_X11_face {Q : Int64 → HS → Prop} {v0 : Nat} {v1 : Int32} {v2 : Int32} {v3 : Int32} {v4 : Int32} {v5 : Int32} {v6 : Int32} {v7 : Int32} {S : HS} (h : P_X11_face v0 v1 v2 v3 v4 v5 v6 v7 Q S) : P_X11_face v0 v1 v2 v3 v4 v5 v6 v7 (fun r T => Q r T ∧ K7 S T) S := kw_X11_face_0 h (k7_rf S)
set_option maxRecDepth 20000 in
set_option maxHeartbeats 1000000 in
theorem kw_X11_fault_0 {Q : Int32 → HS → Prop} {v0 : Nat} {S0 S : HS} (h : P_X11_fault_0 Q v0 S) (K : K7 S0 S) : P_X11_fault_0 (fun r T => Q r T ∧ K7 S0 T) v0 S := by
  delta P_X11_fault_0 at h ⊢
  obtain ⟨c1, h⟩ := h
  refine ⟨c1, ?_⟩
  have n2 := k7_nk K c1 (by decide)
  have o3 := c1
  intro x5 e4
  have h := h x5 e4
  have K := k7_I K e4 n2
  have o3 := ob_wI o3 e4
  intro x7 e6
  have h := h x7 e6
  exact ⟨h, K⟩
theorem kw_X11_fault {Q : Int32 → HS → Prop} {v0 : Nat} {S : HS} (h : P_X11_fault v0 Q S) : P_X11_fault v0 (fun r T => Q r T ∧ K7 S T) S := kw_X11_fault_0 h (k7_rf S)
set_option maxRecDepth 20000 in
set_option maxHeartbeats 1000000 in
theorem kw_X11_feed_76 {Q : Int32 → HS → Prop} {X23 X23_2 : Nat → Int32 → Int32 → Int32 → Int32 → Int32 → Int32 → HS → Prop} {v0 : Nat} {v1 : Int32} {v2 : Int32} {v3 : Int32} {v4 : Int32} {v5 : Int32} {v6 : Int32} {s0 : Int32} {S0 S : HS} (h : P_X11_feed_76 Q X23 v0 v1 v2 v3 v4 v5 v6 s0 S) (K : K7 S0 S) (hX23 : ∀ (u0 : Nat) (u1 : Int32) (u2 : Int32) (u3 : Int32) (u4 : Int32) (u5 : Int32) (u6 : Int32) (u7 : HS), X23 u0 u1 u2 u3 u4 u5 u6 u7 → K7 S0 u7 → X23_2 u0 u1 u2 u3 u4 u5 u6 u7) : P_X11_feed_76 (fun r T => Q r T ∧ K7 S0 T) X23_2 v0 v1 v2 v3 v4 v5 v6 s0 S := by
  delta P_X11_feed_76 at h ⊢
  obtain ⟨c1, h⟩ := h
  refine ⟨c1, ?_⟩
  have n2 := k7_nk K c1 (by decide)
  have o3 := c1
  obtain ⟨b4, e5, h⟩ := h
  refine ⟨b4, e5, ?_⟩
  intro x7 e6
  have h := h x7 e6
  intro x9 e8
  have h := h x9 e8
  obtain ⟨c10, h⟩ := h
  refine ⟨c10, ?_⟩
  have n11 := k7_nk K c10 (by decide)
  intro x13 e12
  have h := h x13 e12
  obtain ⟨c14, h⟩ := h
  refine ⟨c14, ?_⟩
  intro x16 e15
  have h := h x16 e15
  have K := k7_I K e15 n11
  have o3 := ob_wI o3 e15
  intro x18 e17
  have h := h x18 e17
  intro x20 e19
  have h := h x20 e19
  intro x22 e21
  have h := h x22 e21
  have K := k7_I K e21 n2
  have o3 := ob_wI o3 e21
  intro x24 e23
  have h := h x24 e23
  exact hX23 _ _ _ _ _ _ _ _ h K
set_option maxRecDepth 20000 in
set_option maxHeartbeats 1000000 in
theorem kwB_X11_feed_23 {Q : Int32 → HS → Prop} {X23 X23_2 : Nat → Int32 → Int32 → Int32 → Int32 → Int32 → Int32 → HS → Prop} {v0 : Nat} {v1 : Int32} {v2 : Int32} {v3 : Int32} {v4 : Int32} {v5 : Int32} {v6 : Int32} {S0 S : HS} (h : B_X11_feed_23 Q X23 v0 v1 v2 v3 v4 v5 v6 S) (K : K7 S0 S) (hX23 : ∀ (u0 : Nat) (u1 : Int32) (u2 : Int32) (u3 : Int32) (u4 : Int32) (u5 : Int32) (u6 : Int32) (u7 : HS), X23 u0 u1 u2 u3 u4 u5 u6 u7 → K7 S0 u7 → X23_2 u0 u1 u2 u3 u4 u5 u6 u7) : B_X11_feed_23 (fun r T => Q r T ∧ K7 S0 T) X23_2 v0 v1 v2 v3 v4 v5 v6 S := by
  delta B_X11_feed_23 at h ⊢
  refine ⟨?_, ?_⟩
  · intro c1
    have h := h.1 c1
    obtain ⟨c2, h⟩ := h
    refine ⟨c2, ?_⟩
    have n3 := k7_nk K c2 (by decide)
    have o4 := c2
    intro x6 e5
    have h := h x6 e5
    exact ⟨h, K⟩
  · intro c7
    have h := h.2 c7
    refine ⟨?_, ?_⟩
    · intro c8
      have h := h.1 c8
      refine ⟨?_, ?_⟩
      · intro c9
        have h := h.1 c9
        refine ⟨?_, ?_⟩
        · intro c10
          have h := h.1 c10
          refine ⟨?_, ?_⟩
          · intro c11
            have h := h.1 c11
            exact kw_X11_feed_76 h K hX23
          · intro c12
            have h := h.2 c12
            exact kw_X11_feed_76 h K hX23
        · intro c13
          have h := h.2 c13
          exact kw_X11_feed_76 h K hX23
      · intro c14
        have h := h.2 c14
        exact kw_X11_feed_76 h K hX23
    · intro c15
      have h := h.2 c15
      exact kw_X11_feed_76 h K hX23
theorem kw_X11_feed_23 {Q : Int32 → HS → Prop} {v0 : Nat} {v1 : Int32} {v2 : Int32} {v3 : Int32} {v4 : Int32} {v5 : Int32} {v6 : Int32} {S0 S : HS} (h : P_X11_feed_23 Q v0 v1 v2 v3 v4 v5 v6 S) (K : K7 S0 S) : P_X11_feed_23 (fun r T => Q r T ∧ K7 S0 T) v0 v1 v2 v3 v4 v5 v6 S := h (fun v0 v1 v2 v3 v4 v5 v6 S => K7 S0 S → P_X11_feed_23 (fun r T => Q r T ∧ K7 S0 T) v0 v1 v2 v3 v4 v5 v6 S) (fun v0 v1 v2 v3 v4 v5 v6 S hB K => fd_X11_feed_23 (kwB_X11_feed_23 hB K (fun _ _ _ _ _ _ _ _ hx K => hx K))) K
set_option maxRecDepth 20000 in
set_option maxHeartbeats 1000000 in
theorem kw_X11_feed_0 {Q : Int32 → HS → Prop} {v0 : Nat} {v1 : Int32} {v2 : Int32} {v3 : Int32} {v4 : Int32} {v5 : Int32} {S0 S : HS} (h : P_X11_feed_0 Q v0 v1 v2 v3 v4 v5 S) (K : K7 S0 S) : P_X11_feed_0 (fun r T => Q r T ∧ K7 S0 T) v0 v1 v2 v3 v4 v5 S := by
  delta P_X11_feed_0 at h ⊢
  obtain ⟨c1, h⟩ := h
  refine ⟨c1, ?_⟩
  have n2 := k7_nk K c1 (by decide)
  have o3 := c1
  intro x5 e4
  have h := h x5 e4
  have K := k7_I K e4 n2
  have o3 := ob_wI o3 e4
  intro x7 e6
  have h := h x7 e6
  refine ⟨?_, ?_⟩
  · intro c8
    have h := h.1 c8
    exact kw_X11_feed_23 h K
  · intro c9
    have h := h.2 c9
    exact ⟨h, K⟩
theorem kw_X11_feed {Q : Int32 → HS → Prop} {v0 : Nat} {v1 : Int32} {v2 : Int32} {v3 : Int32} {v4 : Int32} {v5 : Int32} {S : HS} (h : P_X11_feed v0 v1 v2 v3 v4 v5 Q S) : P_X11_feed v0 v1 v2 v3 v4 v5 (fun r T => Q r T ∧ K7 S T) S := kw_X11_feed_0 h (k7_rf S)
set_option maxRecDepth 20000 in
set_option maxHeartbeats 1000000 in
theorem kw_X11_refusesTwo_0 {Q : Int32 → HS → Prop} {v0 : Nat} {v1 : Int32} {v2 : Int32} {v3 : Int32} {v4 : Int32} {v5 : Int32} {v6 : Int32} {S0 S : HS} (h : P_X11_refusesTwo_0 Q v0 v1 v2 v3 v4 v5 v6 S) (K : K7 S0 S) : P_X11_refusesTwo_0 (fun r T => Q r T ∧ K7 S0 T) v0 v1 v2 v3 v4 v5 v6 S := by
  delta P_X11_refusesTwo_0 at h ⊢
  refine ⟨?_, ?_⟩
  · intro c1
    have h := h.1 c1
    exact ⟨h, K⟩
  · intro c2
    have h := h.2 c2
    obtain ⟨c3, h⟩ := h
    refine ⟨c3, ?_⟩
    have n4 := k7_nk K c3 (by decide)
    have o5 := c3
    refine cm_X11_isWalker (kw_X11_isWalker h) h (fun x6 x7 p10 h g8 g9 => ?_)
    have h := h g8 g9
    have K := k7_tr K p10.2
    have o5 := gr_ob p10.2.1 o5
    refine ⟨?_, ?_⟩
    · intro c11
      have h := h.1 c11
      refine cm_X11_refuses (kw_X11_refuses h) h (fun x12 x13 p15 h g14 => ?_)
      have h := h g14
      have K := k7_tr K p15.2
      have o5 := gr_ob p15.2.1 o5
      refine ⟨?_, ?_⟩
      · intro c16
        have h := h.1 c16
        refine cm_X11_isSpeed (kw_X11_isSpeed h) h (fun x17 x18 p21 h g19 g20 => ?_)
        have h := h g19 g20
        have K := k7_tr K p21.2
        have o5 := gr_ob p21.2.1 o5
        refine ⟨?_, ?_⟩
        · intro c22
          have h := h.1 c22
          exact ⟨h, K⟩
        · intro c23
          have h := h.2 c23
          exact ⟨h, K⟩
      · intro c24
        have h := h.2 c24
        exact ⟨h, K⟩
    · intro c25
      have h := h.2 c25
      exact ⟨h, K⟩
theorem kw_X11_refusesTwo {Q : Int32 → HS → Prop} {v0 : Nat} {v1 : Int32} {v2 : Int32} {v3 : Int32} {v4 : Int32} {v5 : Int32} {v6 : Int32} {S : HS} (h : P_X11_refusesTwo v0 v1 v2 v3 v4 v5 v6 Q S) : P_X11_refusesTwo v0 v1 v2 v3 v4 v5 v6 (fun r T => Q r T ∧ K7 S T) S := kw_X11_refusesTwo_0 h (k7_rf S)
set_option maxRecDepth 20000 in
set_option maxHeartbeats 1000000 in
theorem kwB_X11_together_6 {Q : Int64 → HS → Prop} {X6 X6_2 : Nat → Int32 → Int32 → Int32 → Int32 → Int32 → Int32 → Int64 → Int32 → HS → Prop} {v0 : Nat} {v1 : Int32} {v2 : Int32} {v3 : Int32} {v4 : Int32} {v5 : Int32} {v6 : Int32} {v7 : Int64} {v9 : Int32} {S0 S : HS} (h : B_X11_together_6 Q X6 v0 v1 v2 v3 v4 v5 v6 v7 v9 S) (K : K7 S0 S) (hX6 : ∀ (u0 : Nat) (u1 : Int32) (u2 : Int32) (u3 : Int32) (u4 : Int32) (u5 : Int32) (u6 : Int32) (u7 : Int64) (u8 : Int32) (u9 : HS), X6 u0 u1 u2 u3 u4 u5 u6 u7 u8 u9 → K7 S0 u9 → X6_2 u0 u1 u2 u3 u4 u5 u6 u7 u8 u9) : B_X11_together_6 (fun r T => Q r T ∧ K7 S0 T) X6_2 v0 v1 v2 v3 v4 v5 v6 v7 v9 S := by
  delta B_X11_together_6 at h ⊢
  refine ⟨?_, ?_⟩
  · intro c1
    have h := h.1 c1
    obtain ⟨c2, h⟩ := h
    refine ⟨c2, ?_⟩
    have n3 := k7_nk K c2 (by decide)
    have o4 := c2
    obtain ⟨b5, e6, h⟩ := h
    refine ⟨b5, e6, ?_⟩
    obtain ⟨c7, h⟩ := h
    refine ⟨c7, ?_⟩
    have n8 := k7_nk K c7 (by decide)
    obtain ⟨b9, e10, h⟩ := h
    refine ⟨b9, e10, ?_⟩
    obtain ⟨c11, h⟩ := h
    refine ⟨c11, ?_⟩
    obtain ⟨c12, h⟩ := h
    refine ⟨c12, ?_⟩
    intro x14 e13
    have h := h x14 e13
    obtain ⟨b15, e16, h⟩ := h
    refine ⟨b15, e16, ?_⟩
    obtain ⟨c17, h⟩ := h
    refine ⟨c17, ?_⟩
    have n18 := k7_nk K c17 (by decide)
    obtain ⟨b19, e20, h⟩ := h
    refine ⟨b19, e20, ?_⟩
    obtain ⟨c21, h⟩ := h
    refine ⟨c21, ?_⟩
    obtain ⟨c22, h⟩ := h
    refine ⟨c22, ?_⟩
    intro x24 e23
    have h := h x24 e23
    obtain ⟨c25, h⟩ := h
    refine ⟨c25, ?_⟩
    intro x27 e26
    have h := h x27 e26
    exact ⟨h, K⟩
  · intro c28
    have h := h.2 c28
    obtain ⟨c29, h⟩ := h
    refine ⟨c29, ?_⟩
    have n30 := k7_nk K c29 (by decide)
    have o31 := c29
    obtain ⟨b32, e33, h⟩ := h
    refine ⟨b32, e33, ?_⟩
    obtain ⟨c34, h⟩ := h
    refine ⟨c34, ?_⟩
    have n35 := k7_nk K c34 (by decide)
    obtain ⟨b36, e37, h⟩ := h
    refine ⟨b36, e37, ?_⟩
    obtain ⟨c38, h⟩ := h
    refine ⟨c38, ?_⟩
    obtain ⟨c39, h⟩ := h
    refine ⟨c39, ?_⟩
    intro x41 e40
    have h := h x41 e40
    refine cm_X11_inTime (kw_X11_inTime h) h (fun x42 x43 p45 h g44 => ?_)
    have h := h g44
    have K := k7_tr K p45.2
    have o31 := gr_ob p45.2.1 o31
    intro x47 e46
    have h := h x47 e46
    obtain ⟨b48, e49, h⟩ := h
    refine ⟨b48, e49, ?_⟩
    obtain ⟨c50, h⟩ := h
    refine ⟨c50, ?_⟩
    have n51 := k7_nk K c50 (by decide)
    obtain ⟨b52, e53, h⟩ := h
    refine ⟨b52, e53, ?_⟩
    obtain ⟨c54, h⟩ := h
    refine ⟨c54, ?_⟩
    obtain ⟨c55, h⟩ := h
    refine ⟨c55, ?_⟩
    intro x57 e56
    have h := h x57 e56
    refine cm_X11_inTime (kw_X11_inTime h) h (fun x58 x59 p61 h g60 => ?_)
    have h := h g60
    have K := k7_tr K p61.2
    have o31 := gr_ob p61.2.1 o31
    intro x63 e62
    have h := h x63 e62
    intro x65 e64
    have h := h x65 e64
    exact hX6 _ _ _ _ _ _ _ _ _ _ h K
theorem kw_X11_together_6 {Q : Int64 → HS → Prop} {v0 : Nat} {v1 : Int32} {v2 : Int32} {v3 : Int32} {v4 : Int32} {v5 : Int32} {v6 : Int32} {v7 : Int64} {v9 : Int32} {S0 S : HS} (h : P_X11_together_6 Q v0 v1 v2 v3 v4 v5 v6 v7 v9 S) (K : K7 S0 S) : P_X11_together_6 (fun r T => Q r T ∧ K7 S0 T) v0 v1 v2 v3 v4 v5 v6 v7 v9 S := h (fun v0 v1 v2 v3 v4 v5 v6 v7 v9 S => K7 S0 S → P_X11_together_6 (fun r T => Q r T ∧ K7 S0 T) v0 v1 v2 v3 v4 v5 v6 v7 v9 S) (fun v0 v1 v2 v3 v4 v5 v6 v7 v9 S hB K => fd_X11_together_6 (kwB_X11_together_6 hB K (fun _ _ _ _ _ _ _ _ _ _ hx K => hx K))) K
set_option maxRecDepth 20000 in
set_option maxHeartbeats 1000000 in
theorem kw_X11_together_0 {Q : Int64 → HS → Prop} {v0 : Nat} {v1 : Int32} {v2 : Int32} {v3 : Int32} {v4 : Int32} {v5 : Int32} {v6 : Int32} {S0 S : HS} (h : P_X11_together_0 Q v0 v1 v2 v3 v4 v5 v6 S) (K : K7 S0 S) : P_X11_together_0 (fun r T => Q r T ∧ K7 S0 T) v0 v1 v2 v3 v4 v5 v6 S := by
  delta P_X11_together_0 at h ⊢
  exact kw_X11_together_6 h K
theorem kw_X11_together {Q : Int64 → HS → Prop} {v0 : Nat} {v1 : Int32} {v2 : Int32} {v3 : Int32} {v4 : Int32} {v5 : Int32} {v6 : Int32} {S : HS} (h : P_X11_together v0 v1 v2 v3 v4 v5 v6 Q S) : P_X11_together v0 v1 v2 v3 v4 v5 v6 (fun r T => Q r T ∧ K7 S T) S := kw_X11_together_0 h (k7_rf S)
set_option maxRecDepth 20000 in
set_option maxHeartbeats 1000000 in
theorem kw_X11_first_89 {Q : Int32 → HS → Prop} {s0 : Nat} {s1 : Int32} {S0 S : HS} (h : P_X11_first_89 Q s0 s1 S) (K : K7 S0 S) : P_X11_first_89 (fun r T => Q r T ∧ K7 S0 T) s0 s1 S := by
  delta P_X11_first_89 at h ⊢
  obtain ⟨c1, h⟩ := h
  refine ⟨c1, ?_⟩
  have n2 := k7_nk K c1 (by decide)
  have o3 := c1
  refine cm_X11_good (kw_X11_good h) h (fun x4 x5 p7 h g6 => ?_)
  have h := h g6
  have K := k7_tr K p7.2
  have o3 := gr_ob p7.2.1 o3
  exact ⟨h, K⟩
set_option maxRecDepth 20000 in
set_option maxHeartbeats 1000000 in
theorem kw_X11_first_0 {Q : Int32 → HS → Prop} {v0 : Nat} {v1 : Int32} {v2 : Int32} {v3 : Int32} {v4 : Int32} {v5 : Int32} {v6 : Int32} {S0 S : HS} (h : P_X11_first_0 Q v0 v1 v2 v3 v4 v5 v6 S) (K : K7 S0 S) : P_X11_first_0 (fun r T => Q r T ∧ K7 S0 T) v0 v1 v2 v3 v4 v5 v6 S := by
  delta P_X11_first_0 at h ⊢
  obtain ⟨c1, h⟩ := h
  refine ⟨c1, ?_⟩
  have n2 := k7_nk K c1 (by decide)
  have o3 := c1
  intro x5 e4
  have h := h x5 e4
  have K := k7_I K e4 n2
  have o3 := ob_wI o3 e4
  refine cm_X11_refusesTwo (kw_X11_refusesTwo h) h (fun x6 x7 p9 h g8 => ?_)
  have h := h g8
  have K := k7_tr K p9.2
  have o3 := gr_ob p9.2.1 o3
  refine ⟨?_, ?_⟩
  · intro c10
    have h := h.1 c10
    refine cm_X11_together (kw_X11_together h) h (fun x11 x12 p14 h g13 => ?_)
    have h := h g13
    have K := k7_tr K p14.2
    have o3 := gr_ob p14.2.1 o3
    refine cm_X11_together (kw_X11_together h) h (fun x15 x16 p18 h g17 => ?_)
    have h := h g17
    have K := k7_tr K p18.2
    have o3 := gr_ob p18.2.1 o3
    refine ⟨?_, ?_⟩
    · intro c19
      have h := h.1 c19
      refine ⟨?_, ?_⟩
      · intro c20
        have h := h.1 c20
        exact kw_X11_first_89 h K
      · intro c21
        have h := h.2 c21
        exact kw_X11_first_89 h K
    · intro c22
      have h := h.2 c22
      exact kw_X11_first_89 h K
  · intro c23
    have h := h.2 c23
    refine cm_X11_refused (kw_X11_refused h) h (fun x24 x25 p27 h g26 => ?_)
    have h := h g26
    have K := k7_tr K p27.2
    have o3 := gr_ob p27.2.1 o3
    exact ⟨h, K⟩
theorem kw_X11_first {Q : Int32 → HS → Prop} {v0 : Nat} {v1 : Int32} {v2 : Int32} {v3 : Int32} {v4 : Int32} {v5 : Int32} {v6 : Int32} {S : HS} (h : P_X11_first v0 v1 v2 v3 v4 v5 v6 Q S) : P_X11_first v0 v1 v2 v3 v4 v5 v6 (fun r T => Q r T ∧ K7 S T) S := kw_X11_first_0 h (k7_rf S)
set_option maxRecDepth 20000 in
set_option maxHeartbeats 1000000 in
theorem kw_X11_fitOf_137 {Q : Int32 → HS → Prop} {X16 X16_2 : Nat → Int32 → Int32 → Int32 → Int32 → Int32 → HS → Prop} {X31 X31_2 : Nat → Int32 → Int32 → Int32 → Int32 → Int32 → Int32 → HS → Prop} {X40 X40_2 : Nat → Int32 → Int32 → Int32 → Int32 → Int32 → Int32 → Int32 → HS → Prop} {X63 X63_2 : Nat → Int32 → Int32 → Int32 → Int32 → Int32 → Int32 → Int32 → Int32 → HS → Prop} {X83 X83_2 : Nat → Int32 → Int32 → Int32 → Int32 → Int32 → Int32 → Int32 → Int32 → Int32 → Int32 → HS → Prop} {v0 : Nat} {v1 : Int32} {v2 : Int32} {v3 : Int32} {v4 : Int32} {v5 : Int32} {v6 : Int32} {v7 : Int32} {v8 : Int32} {v10 : Int32} {s0 : Int32} {S0 S : HS} (h : P_X11_fitOf_137 Q X16 X31 X40 X63 X83 v0 v1 v2 v3 v4 v5 v6 v7 v8 v10 s0 S) (K : K7 S0 S) (hX16 : ∀ (u0 : Nat) (u1 : Int32) (u2 : Int32) (u3 : Int32) (u4 : Int32) (u5 : Int32) (u6 : HS), X16 u0 u1 u2 u3 u4 u5 u6 → K7 S0 u6 → X16_2 u0 u1 u2 u3 u4 u5 u6) (hX31 : ∀ (u0 : Nat) (u1 : Int32) (u2 : Int32) (u3 : Int32) (u4 : Int32) (u5 : Int32) (u6 : Int32) (u7 : HS), X31 u0 u1 u2 u3 u4 u5 u6 u7 → K7 S0 u7 → X31_2 u0 u1 u2 u3 u4 u5 u6 u7) (hX40 : ∀ (u0 : Nat) (u1 : Int32) (u2 : Int32) (u3 : Int32) (u4 : Int32) (u5 : Int32) (u6 : Int32) (u7 : Int32) (u8 : HS), X40 u0 u1 u2 u3 u4 u5 u6 u7 u8 → K7 S0 u8 → X40_2 u0 u1 u2 u3 u4 u5 u6 u7 u8) (hX63 : ∀ (u0 : Nat) (u1 : Int32) (u2 : Int32) (u3 : Int32) (u4 : Int32) (u5 : Int32) (u6 : Int32) (u7 : Int32) (u8 : Int32) (u9 : HS), X63 u0 u1 u2 u3 u4 u5 u6 u7 u8 u9 → K7 S0 u9 → X63_2 u0 u1 u2 u3 u4 u5 u6 u7 u8 u9) (hX83 : ∀ (u0 : Nat) (u1 : Int32) (u2 : Int32) (u3 : Int32) (u4 : Int32) (u5 : Int32) (u6 : Int32) (u7 : Int32) (u8 : Int32) (u9 : Int32) (u10 : Int32) (u11 : HS), X83 u0 u1 u2 u3 u4 u5 u6 u7 u8 u9 u10 u11 → K7 S0 u11 → X83_2 u0 u1 u2 u3 u4 u5 u6 u7 u8 u9 u10 u11) : P_X11_fitOf_137 (fun r T => Q r T ∧ K7 S0 T) X16_2 X31_2 X40_2 X63_2 X83_2 v0 v1 v2 v3 v4 v5 v6 v7 v8 v10 s0 S := by
  delta P_X11_fitOf_137 at h ⊢
  intro x2 e1
  have h := h x2 e1
  exact hX83 _ _ _ _ _ _ _ _ _ _ _ _ h K
set_option maxRecDepth 20000 in
set_option maxHeartbeats 1000000 in
theorem kw_X11_fitOf_136 {Q : Int32 → HS → Prop} {X16 X16_2 : Nat → Int32 → Int32 → Int32 → Int32 → Int32 → HS → Prop} {X31 X31_2 : Nat → Int32 → Int32 → Int32 → Int32 → Int32 → Int32 → HS → Prop} {X40 X40_2 : Nat → Int32 → Int32 → Int32 → Int32 → Int32 → Int32 → Int32 → HS → Prop} {X63 X63_2 : Nat → Int32 → Int32 → Int32 → Int32 → Int32 → Int32 → Int32 → Int32 → HS → Prop} {X83 X83_2 : Nat → Int32 → Int32 → Int32 → Int32 → Int32 → Int32 → Int32 → Int32 → Int32 → Int32 → HS → Prop} {v0 : Nat} {v1 : Int32} {v2 : Int32} {v3 : Int32} {v4 : Int32} {v5 : Int32} {v6 : Int32} {v7 : Int32} {v8 : Int32} {v10 : Int32} {S0 S : HS} (h : P_X11_fitOf_136 Q X16 X31 X40 X63 X83 v0 v1 v2 v3 v4 v5 v6 v7 v8 v10 S) (K : K7 S0 S) (hX16 : ∀ (u0 : Nat) (u1 : Int32) (u2 : Int32) (u3 : Int32) (u4 : Int32) (u5 : Int32) (u6 : HS), X16 u0 u1 u2 u3 u4 u5 u6 → K7 S0 u6 → X16_2 u0 u1 u2 u3 u4 u5 u6) (hX31 : ∀ (u0 : Nat) (u1 : Int32) (u2 : Int32) (u3 : Int32) (u4 : Int32) (u5 : Int32) (u6 : Int32) (u7 : HS), X31 u0 u1 u2 u3 u4 u5 u6 u7 → K7 S0 u7 → X31_2 u0 u1 u2 u3 u4 u5 u6 u7) (hX40 : ∀ (u0 : Nat) (u1 : Int32) (u2 : Int32) (u3 : Int32) (u4 : Int32) (u5 : Int32) (u6 : Int32) (u7 : Int32) (u8 : HS), X40 u0 u1 u2 u3 u4 u5 u6 u7 u8 → K7 S0 u8 → X40_2 u0 u1 u2 u3 u4 u5 u6 u7 u8) (hX63 : ∀ (u0 : Nat) (u1 : Int32) (u2 : Int32) (u3 : Int32) (u4 : Int32) (u5 : Int32) (u6 : Int32) (u7 : Int32) (u8 : Int32) (u9 : HS), X63 u0 u1 u2 u3 u4 u5 u6 u7 u8 u9 → K7 S0 u9 → X63_2 u0 u1 u2 u3 u4 u5 u6 u7 u8 u9) (hX83 : ∀ (u0 : Nat) (u1 : Int32) (u2 : Int32) (u3 : Int32) (u4 : Int32) (u5 : Int32) (u6 : Int32) (u7 : Int32) (u8 : Int32) (u9 : Int32) (u10 : Int32) (u11 : HS), X83 u0 u1 u2 u3 u4 u5 u6 u7 u8 u9 u10 u11 → K7 S0 u11 → X83_2 u0 u1 u2 u3 u4 u5 u6 u7 u8 u9 u10 u11) : P_X11_fitOf_136 (fun r T => Q r T ∧ K7 S0 T) X16_2 X31_2 X40_2 X63_2 X83_2 v0 v1 v2 v3 v4 v5 v6 v7 v8 v10 S := by
  delta P_X11_fitOf_136 at h ⊢
  exact kw_X11_fitOf_137 h K hX16 hX31 hX40 hX63 hX83
set_option maxRecDepth 20000 in
set_option maxHeartbeats 1000000 in
theorem kw_X11_fitOf_184 {Q : Int32 → HS → Prop} {X16 X16_2 : Nat → Int32 → Int32 → Int32 → Int32 → Int32 → HS → Prop} {X31 X31_2 : Nat → Int32 → Int32 → Int32 → Int32 → Int32 → Int32 → HS → Prop} {X40 X40_2 : Nat → Int32 → Int32 → Int32 → Int32 → Int32 → Int32 → Int32 → HS → Prop} {X63 X63_2 : Nat → Int32 → Int32 → Int32 → Int32 → Int32 → Int32 → Int32 → Int32 → HS → Prop} {v0 : Nat} {v1 : Int32} {v2 : Int32} {v3 : Int32} {v4 : Int32} {v5 : Int32} {v6 : Int32} {v7 : Int32} {v8 : Int32} {S0 S : HS} (h : P_X11_fitOf_184 Q X16 X31 X40 X63 v0 v1 v2 v3 v4 v5 v6 v7 v8 S) (K : K7 S0 S) (hX16 : ∀ (u0 : Nat) (u1 : Int32) (u2 : Int32) (u3 : Int32) (u4 : Int32) (u5 : Int32) (u6 : HS), X16 u0 u1 u2 u3 u4 u5 u6 → K7 S0 u6 → X16_2 u0 u1 u2 u3 u4 u5 u6) (hX31 : ∀ (u0 : Nat) (u1 : Int32) (u2 : Int32) (u3 : Int32) (u4 : Int32) (u5 : Int32) (u6 : Int32) (u7 : HS), X31 u0 u1 u2 u3 u4 u5 u6 u7 → K7 S0 u7 → X31_2 u0 u1 u2 u3 u4 u5 u6 u7) (hX40 : ∀ (u0 : Nat) (u1 : Int32) (u2 : Int32) (u3 : Int32) (u4 : Int32) (u5 : Int32) (u6 : Int32) (u7 : Int32) (u8 : HS), X40 u0 u1 u2 u3 u4 u5 u6 u7 u8 → K7 S0 u8 → X40_2 u0 u1 u2 u3 u4 u5 u6 u7 u8) (hX63 : ∀ (u0 : Nat) (u1 : Int32) (u2 : Int32) (u3 : Int32) (u4 : Int32) (u5 : Int32) (u6 : Int32) (u7 : Int32) (u8 : Int32) (u9 : HS), X63 u0 u1 u2 u3 u4 u5 u6 u7 u8 u9 → K7 S0 u9 → X63_2 u0 u1 u2 u3 u4 u5 u6 u7 u8 u9) : P_X11_fitOf_184 (fun r T => Q r T ∧ K7 S0 T) X16_2 X31_2 X40_2 X63_2 v0 v1 v2 v3 v4 v5 v6 v7 v8 S := by
  delta P_X11_fitOf_184 at h ⊢
  intro x2 e1
  have h := h x2 e1
  exact hX63 _ _ _ _ _ _ _ _ _ _ h K
set_option maxRecDepth 20000 in
set_option maxHeartbeats 1000000 in
theorem kwB_X11_fitOf_83 {Q : Int32 → HS → Prop} {X16 X16_2 : Nat → Int32 → Int32 → Int32 → Int32 → Int32 → HS → Prop} {X31 X31_2 : Nat → Int32 → Int32 → Int32 → Int32 → Int32 → Int32 → HS → Prop} {X40 X40_2 : Nat → Int32 → Int32 → Int32 → Int32 → Int32 → Int32 → Int32 → HS → Prop} {X63 X63_2 : Nat → Int32 → Int32 → Int32 → Int32 → Int32 → Int32 → Int32 → Int32 → HS → Prop} {X83 X83_2 : Nat → Int32 → Int32 → Int32 → Int32 → Int32 → Int32 → Int32 → Int32 → Int32 → Int32 → HS → Prop} {v0 : Nat} {v1 : Int32} {v2 : Int32} {v3 : Int32} {v4 : Int32} {v5 : Int32} {v6 : Int32} {v7 : Int32} {v8 : Int32} {v9 : Int32} {v10 : Int32} {S0 S : HS} (h : B_X11_fitOf_83 Q X16 X31 X40 X63 X83 v0 v1 v2 v3 v4 v5 v6 v7 v8 v9 v10 S) (K : K7 S0 S) (hX16 : ∀ (u0 : Nat) (u1 : Int32) (u2 : Int32) (u3 : Int32) (u4 : Int32) (u5 : Int32) (u6 : HS), X16 u0 u1 u2 u3 u4 u5 u6 → K7 S0 u6 → X16_2 u0 u1 u2 u3 u4 u5 u6) (hX31 : ∀ (u0 : Nat) (u1 : Int32) (u2 : Int32) (u3 : Int32) (u4 : Int32) (u5 : Int32) (u6 : Int32) (u7 : HS), X31 u0 u1 u2 u3 u4 u5 u6 u7 → K7 S0 u7 → X31_2 u0 u1 u2 u3 u4 u5 u6 u7) (hX40 : ∀ (u0 : Nat) (u1 : Int32) (u2 : Int32) (u3 : Int32) (u4 : Int32) (u5 : Int32) (u6 : Int32) (u7 : Int32) (u8 : HS), X40 u0 u1 u2 u3 u4 u5 u6 u7 u8 → K7 S0 u8 → X40_2 u0 u1 u2 u3 u4 u5 u6 u7 u8) (hX63 : ∀ (u0 : Nat) (u1 : Int32) (u2 : Int32) (u3 : Int32) (u4 : Int32) (u5 : Int32) (u6 : Int32) (u7 : Int32) (u8 : Int32) (u9 : HS), X63 u0 u1 u2 u3 u4 u5 u6 u7 u8 u9 → K7 S0 u9 → X63_2 u0 u1 u2 u3 u4 u5 u6 u7 u8 u9) (hX83 : ∀ (u0 : Nat) (u1 : Int32) (u2 : Int32) (u3 : Int32) (u4 : Int32) (u5 : Int32) (u6 : Int32) (u7 : Int32) (u8 : Int32) (u9 : Int32) (u10 : Int32) (u11 : HS), X83 u0 u1 u2 u3 u4 u5 u6 u7 u8 u9 u10 u11 → K7 S0 u11 → X83_2 u0 u1 u2 u3 u4 u5 u6 u7 u8 u9 u10 u11) : B_X11_fitOf_83 (fun r T => Q r T ∧ K7 S0 T) X16_2 X31_2 X40_2 X63_2 X83_2 v0 v1 v2 v3 v4 v5 v6 v7 v8 v9 v10 S := by
  delta B_X11_fitOf_83 at h ⊢
  refine ⟨?_, ?_⟩
  · intro c1
    have h := h.1 c1
    refine ⟨?_, ?_⟩
    · intro c2
      have h := h.1 c2
      refine ⟨?_, ?_⟩
      · intro c3
        have h := h.1 c3
        intro x5 e4
        have h := h x5 e4
        exact kw_X11_fitOf_184 h K hX16 hX31 hX40 hX63
      · intro c6
        have h := h.2 c6
        exact ⟨h, K⟩
    · intro c7
      have h := h.2 c7
      exact kw_X11_fitOf_184 h K hX16 hX31 hX40 hX63
  · intro c8
    have h := h.2 c8
    refine ⟨?_, ?_⟩
    · intro c9
      have h := h.1 c9
      exact kw_X11_fitOf_136 h K hX16 hX31 hX40 hX63 hX83
    · intro c10
      have h := h.2 c10
      obtain ⟨c11, h⟩ := h
      refine ⟨c11, ?_⟩
      have n12 := k7_nk K c11 (by decide)
      have o13 := c11
      refine cm_X11_partsOf (kw_X11_partsOf h) h (fun x14 x15 p17 h g16 => ?_)
      have h := h g16
      have K := k7_tr K p17.2
      have o13 := gr_ob p17.2.1 o13
      obtain ⟨b18, e19, h⟩ := h
      refine ⟨b18, e19, ?_⟩
      obtain ⟨c20, h⟩ := h
      refine ⟨c20, ?_⟩
      have n21 := k7_nk K c20 (by decide)
      obtain ⟨b22, e23, h⟩ := h
      refine ⟨b22, e23, ?_⟩
      obtain ⟨c24, h⟩ := h
      refine ⟨c24, ?_⟩
      intro x26 e25
      have h := h x26 e25
      obtain ⟨c27, h⟩ := h
      refine ⟨c27, ?_⟩
      intro x29 e28
      have h := h x29 e28
      refine ⟨?_, ?_⟩
      · intro c30
        have h := h.1 c30
        exact kw_X11_fitOf_136 h K hX16 hX31 hX40 hX63 hX83
      · intro c31
        have h := h.2 c31
        exact kw_X11_fitOf_137 h K hX16 hX31 hX40 hX63 hX83
theorem kw_X11_fitOf_83 {Q : Int32 → HS → Prop} {X16 X16_2 : Nat → Int32 → Int32 → Int32 → Int32 → Int32 → HS → Prop} {X31 X31_2 : Nat → Int32 → Int32 → Int32 → Int32 → Int32 → Int32 → HS → Prop} {X40 X40_2 : Nat → Int32 → Int32 → Int32 → Int32 → Int32 → Int32 → Int32 → HS → Prop} {X63 X63_2 : Nat → Int32 → Int32 → Int32 → Int32 → Int32 → Int32 → Int32 → Int32 → HS → Prop} {v0 : Nat} {v1 : Int32} {v2 : Int32} {v3 : Int32} {v4 : Int32} {v5 : Int32} {v6 : Int32} {v7 : Int32} {v8 : Int32} {v9 : Int32} {v10 : Int32} {S0 S : HS} (h : P_X11_fitOf_83 Q X16 X31 X40 X63 v0 v1 v2 v3 v4 v5 v6 v7 v8 v9 v10 S) (K : K7 S0 S) (hX16 : ∀ (u0 : Nat) (u1 : Int32) (u2 : Int32) (u3 : Int32) (u4 : Int32) (u5 : Int32) (u6 : HS), X16 u0 u1 u2 u3 u4 u5 u6 → K7 S0 u6 → X16_2 u0 u1 u2 u3 u4 u5 u6) (hX31 : ∀ (u0 : Nat) (u1 : Int32) (u2 : Int32) (u3 : Int32) (u4 : Int32) (u5 : Int32) (u6 : Int32) (u7 : HS), X31 u0 u1 u2 u3 u4 u5 u6 u7 → K7 S0 u7 → X31_2 u0 u1 u2 u3 u4 u5 u6 u7) (hX40 : ∀ (u0 : Nat) (u1 : Int32) (u2 : Int32) (u3 : Int32) (u4 : Int32) (u5 : Int32) (u6 : Int32) (u7 : Int32) (u8 : HS), X40 u0 u1 u2 u3 u4 u5 u6 u7 u8 → K7 S0 u8 → X40_2 u0 u1 u2 u3 u4 u5 u6 u7 u8) (hX63 : ∀ (u0 : Nat) (u1 : Int32) (u2 : Int32) (u3 : Int32) (u4 : Int32) (u5 : Int32) (u6 : Int32) (u7 : Int32) (u8 : Int32) (u9 : HS), X63 u0 u1 u2 u3 u4 u5 u6 u7 u8 u9 → K7 S0 u9 → X63_2 u0 u1 u2 u3 u4 u5 u6 u7 u8 u9) : P_X11_fitOf_83 (fun r T => Q r T ∧ K7 S0 T) X16_2 X31_2 X40_2 X63_2 v0 v1 v2 v3 v4 v5 v6 v7 v8 v9 v10 S := h (fun v0 v1 v2 v3 v4 v5 v6 v7 v8 v9 v10 S => K7 S0 S → P_X11_fitOf_83 (fun r T => Q r T ∧ K7 S0 T) X16_2 X31_2 X40_2 X63_2 v0 v1 v2 v3 v4 v5 v6 v7 v8 v9 v10 S) (fun v0 v1 v2 v3 v4 v5 v6 v7 v8 v9 v10 S hB K => fd_X11_fitOf_83 (kwB_X11_fitOf_83 hB K hX16 hX31 hX40 hX63 (fun _ _ _ _ _ _ _ _ _ _ _ _ hx K => hx K))) K
set_option maxRecDepth 20000 in
set_option maxHeartbeats 1000000 in
theorem kwB_X11_fitOf_63 {Q : Int32 → HS → Prop} {X16 X16_2 : Nat → Int32 → Int32 → Int32 → Int32 → Int32 → HS → Prop} {X31 X31_2 : Nat → Int32 → Int32 → Int32 → Int32 → Int32 → Int32 → HS → Prop} {X40 X40_2 : Nat → Int32 → Int32 → Int32 → Int32 → Int32 → Int32 → Int32 → HS → Prop} {X63 X63_2 : Nat → Int32 → Int32 → Int32 → Int32 → Int32 → Int32 → Int32 → Int32 → HS → Prop} {v0 : Nat} {v1 : Int32} {v2 : Int32} {v3 : Int32} {v4 : Int32} {v5 : Int32} {v6 : Int32} {v7 : Int32} {v8 : Int32} {S0 S : HS} (h : B_X11_fitOf_63 Q X16 X31 X40 X63 v0 v1 v2 v3 v4 v5 v6 v7 v8 S) (K : K7 S0 S) (hX16 : ∀ (u0 : Nat) (u1 : Int32) (u2 : Int32) (u3 : Int32) (u4 : Int32) (u5 : Int32) (u6 : HS), X16 u0 u1 u2 u3 u4 u5 u6 → K7 S0 u6 → X16_2 u0 u1 u2 u3 u4 u5 u6) (hX31 : ∀ (u0 : Nat) (u1 : Int32) (u2 : Int32) (u3 : Int32) (u4 : Int32) (u5 : Int32) (u6 : Int32) (u7 : HS), X31 u0 u1 u2 u3 u4 u5 u6 u7 → K7 S0 u7 → X31_2 u0 u1 u2 u3 u4 u5 u6 u7) (hX40 : ∀ (u0 : Nat) (u1 : Int32) (u2 : Int32) (u3 : Int32) (u4 : Int32) (u5 : Int32) (u6 : Int32) (u7 : Int32) (u8 : HS), X40 u0 u1 u2 u3 u4 u5 u6 u7 u8 → K7 S0 u8 → X40_2 u0 u1 u2 u3 u4 u5 u6 u7 u8) (hX63 : ∀ (u0 : Nat) (u1 : Int32) (u2 : Int32) (u3 : Int32) (u4 : Int32) (u5 : Int32) (u6 : Int32) (u7 : Int32) (u8 : Int32) (u9 : HS), X63 u0 u1 u2 u3 u4 u5 u6 u7 u8 u9 → K7 S0 u9 → X63_2 u0 u1 u2 u3 u4 u5 u6 u7 u8 u9) : B_X11_fitOf_63 (fun r T => Q r T ∧ K7 S0 T) X16_2 X31_2 X40_2 X63_2 v0 v1 v2 v3 v4 v5 v6 v7 v8 S := by
  delta B_X11_fitOf_63 at h ⊢
  obtain ⟨c1, h⟩ := h
  refine ⟨c1, ?_⟩
  have n2 := k7_nk K c1 (by decide)
  have o3 := c1
  obtain ⟨b4, e5, h⟩ := h
  refine ⟨b4, e5, ?_⟩
  obtain ⟨c6, h⟩ := h
  refine ⟨c6, ?_⟩
  have n7 := k7_nk K c6 (by decide)
  obtain ⟨b8, e9, h⟩ := h
  refine ⟨b8, e9, ?_⟩
  obtain ⟨c10, h⟩ := h
  refine ⟨c10, ?_⟩
  obtain ⟨c11, h⟩ := h
  refine ⟨c11, ?_⟩
  intro x13 e12
  have h := h x13 e12
  refine ⟨?_, ?_⟩
  · intro c14
    have h := h.1 c14
    intro x16 e15
    have h := h x16 e15
    exact hX40 _ _ _ _ _ _ _ _ _ h K
  · intro c17
    have h := h.2 c17
    exact kw_X11_fitOf_83 h K hX16 hX31 hX40 hX63
theorem kw_X11_fitOf_63 {Q : Int32 → HS → Prop} {X16 X16_2 : Nat → Int32 → Int32 → Int32 → Int32 → Int32 → HS → Prop} {X31 X31_2 : Nat → Int32 → Int32 → Int32 → Int32 → Int32 → Int32 → HS → Prop} {X40 X40_2 : Nat → Int32 → Int32 → Int32 → Int32 → Int32 → Int32 → Int32 → HS → Prop} {v0 : Nat} {v1 : Int32} {v2 : Int32} {v3 : Int32} {v4 : Int32} {v5 : Int32} {v6 : Int32} {v7 : Int32} {v8 : Int32} {S0 S : HS} (h : P_X11_fitOf_63 Q X16 X31 X40 v0 v1 v2 v3 v4 v5 v6 v7 v8 S) (K : K7 S0 S) (hX16 : ∀ (u0 : Nat) (u1 : Int32) (u2 : Int32) (u3 : Int32) (u4 : Int32) (u5 : Int32) (u6 : HS), X16 u0 u1 u2 u3 u4 u5 u6 → K7 S0 u6 → X16_2 u0 u1 u2 u3 u4 u5 u6) (hX31 : ∀ (u0 : Nat) (u1 : Int32) (u2 : Int32) (u3 : Int32) (u4 : Int32) (u5 : Int32) (u6 : Int32) (u7 : HS), X31 u0 u1 u2 u3 u4 u5 u6 u7 → K7 S0 u7 → X31_2 u0 u1 u2 u3 u4 u5 u6 u7) (hX40 : ∀ (u0 : Nat) (u1 : Int32) (u2 : Int32) (u3 : Int32) (u4 : Int32) (u5 : Int32) (u6 : Int32) (u7 : Int32) (u8 : HS), X40 u0 u1 u2 u3 u4 u5 u6 u7 u8 → K7 S0 u8 → X40_2 u0 u1 u2 u3 u4 u5 u6 u7 u8) : P_X11_fitOf_63 (fun r T => Q r T ∧ K7 S0 T) X16_2 X31_2 X40_2 v0 v1 v2 v3 v4 v5 v6 v7 v8 S := h (fun v0 v1 v2 v3 v4 v5 v6 v7 v8 S => K7 S0 S → P_X11_fitOf_63 (fun r T => Q r T ∧ K7 S0 T) X16_2 X31_2 X40_2 v0 v1 v2 v3 v4 v5 v6 v7 v8 S) (fun v0 v1 v2 v3 v4 v5 v6 v7 v8 S hB K => fd_X11_fitOf_63 (kwB_X11_fitOf_63 hB K hX16 hX31 hX40 (fun _ _ _ _ _ _ _ _ _ _ hx K => hx K))) K
set_option maxRecDepth 20000 in
set_option maxHeartbeats 1000000 in
theorem kwB_X11_fitOf_40 {Q : Int32 → HS → Prop} {X16 X16_2 : Nat → Int32 → Int32 → Int32 → Int32 → Int32 → HS → Prop} {X31 X31_2 : Nat → Int32 → Int32 → Int32 → Int32 → Int32 → Int32 → HS → Prop} {X40 X40_2 : Nat → Int32 → Int32 → Int32 → Int32 → Int32 → Int32 → Int32 → HS → Prop} {v0 : Nat} {v1 : Int32} {v2 : Int32} {v3 : Int32} {v4 : Int32} {v5 : Int32} {v6 : Int32} {v7 : Int32} {S0 S : HS} (h : B_X11_fitOf_40 Q X16 X31 X40 v0 v1 v2 v3 v4 v5 v6 v7 S) (K : K7 S0 S) (hX16 : ∀ (u0 : Nat) (u1 : Int32) (u2 : Int32) (u3 : Int32) (u4 : Int32) (u5 : Int32) (u6 : HS), X16 u0 u1 u2 u3 u4 u5 u6 → K7 S0 u6 → X16_2 u0 u1 u2 u3 u4 u5 u6) (hX31 : ∀ (u0 : Nat) (u1 : Int32) (u2 : Int32) (u3 : Int32) (u4 : Int32) (u5 : Int32) (u6 : Int32) (u7 : HS), X31 u0 u1 u2 u3 u4 u5 u6 u7 → K7 S0 u7 → X31_2 u0 u1 u2 u3 u4 u5 u6 u7) (hX40 : ∀ (u0 : Nat) (u1 : Int32) (u2 : Int32) (u3 : Int32) (u4 : Int32) (u5 : Int32) (u6 : Int32) (u7 : Int32) (u8 : HS), X40 u0 u1 u2 u3 u4 u5 u6 u7 u8 → K7 S0 u8 → X40_2 u0 u1 u2 u3 u4 u5 u6 u7 u8) : B_X11_fitOf_40 (fun r T => Q r T ∧ K7 S0 T) X16_2 X31_2 X40_2 v0 v1 v2 v3 v4 v5 v6 v7 S := by
  delta B_X11_fitOf_40 at h ⊢
  obtain ⟨c1, h⟩ := h
  refine ⟨c1, ?_⟩
  have n2 := k7_nk K c1 (by decide)
  have o3 := c1
  obtain ⟨b4, e5, h⟩ := h
  refine ⟨b4, e5, ?_⟩
  obtain ⟨c6, h⟩ := h
  refine ⟨c6, ?_⟩
  have n7 := k7_nk K c6 (by decide)
  intro x9 e8
  have h := h x9 e8
  refine ⟨?_, ?_⟩
  · intro c10
    have h := h.1 c10
    intro x12 e11
    have h := h x12 e11
    exact hX31 _ _ _ _ _ _ _ _ h K
  · intro c13
    have h := h.2 c13
    obtain ⟨b14, e15, h⟩ := h
    refine ⟨b14, e15, ?_⟩
    obtain ⟨c16, h⟩ := h
    refine ⟨c16, ?_⟩
    have n17 := k7_nk K c16 (by decide)
    obtain ⟨b18, e19, h⟩ := h
    refine ⟨b18, e19, ?_⟩
    obtain ⟨c20, h⟩ := h
    refine ⟨c20, ?_⟩
    obtain ⟨c21, h⟩ := h
    refine ⟨c21, ?_⟩
    intro x23 e22
    have h := h x23 e22
    exact kw_X11_fitOf_63 h K hX16 hX31 hX40
theorem kw_X11_fitOf_40 {Q : Int32 → HS → Prop} {X16 X16_2 : Nat → Int32 → Int32 → Int32 → Int32 → Int32 → HS → Prop} {X31 X31_2 : Nat → Int32 → Int32 → Int32 → Int32 → Int32 → Int32 → HS → Prop} {v0 : Nat} {v1 : Int32} {v2 : Int32} {v3 : Int32} {v4 : Int32} {v5 : Int32} {v6 : Int32} {v7 : Int32} {S0 S : HS} (h : P_X11_fitOf_40 Q X16 X31 v0 v1 v2 v3 v4 v5 v6 v7 S) (K : K7 S0 S) (hX16 : ∀ (u0 : Nat) (u1 : Int32) (u2 : Int32) (u3 : Int32) (u4 : Int32) (u5 : Int32) (u6 : HS), X16 u0 u1 u2 u3 u4 u5 u6 → K7 S0 u6 → X16_2 u0 u1 u2 u3 u4 u5 u6) (hX31 : ∀ (u0 : Nat) (u1 : Int32) (u2 : Int32) (u3 : Int32) (u4 : Int32) (u5 : Int32) (u6 : Int32) (u7 : HS), X31 u0 u1 u2 u3 u4 u5 u6 u7 → K7 S0 u7 → X31_2 u0 u1 u2 u3 u4 u5 u6 u7) : P_X11_fitOf_40 (fun r T => Q r T ∧ K7 S0 T) X16_2 X31_2 v0 v1 v2 v3 v4 v5 v6 v7 S := h (fun v0 v1 v2 v3 v4 v5 v6 v7 S => K7 S0 S → P_X11_fitOf_40 (fun r T => Q r T ∧ K7 S0 T) X16_2 X31_2 v0 v1 v2 v3 v4 v5 v6 v7 S) (fun v0 v1 v2 v3 v4 v5 v6 v7 S hB K => fd_X11_fitOf_40 (kwB_X11_fitOf_40 hB K hX16 hX31 (fun _ _ _ _ _ _ _ _ _ hx K => hx K))) K
set_option maxRecDepth 20000 in
set_option maxHeartbeats 1000000 in
theorem kwB_X11_fitOf_31 {Q : Int32 → HS → Prop} {X16 X16_2 : Nat → Int32 → Int32 → Int32 → Int32 → Int32 → HS → Prop} {X31 X31_2 : Nat → Int32 → Int32 → Int32 → Int32 → Int32 → Int32 → HS → Prop} {v0 : Nat} {v1 : Int32} {v2 : Int32} {v3 : Int32} {v4 : Int32} {v5 : Int32} {v6 : Int32} {S0 S : HS} (h : B_X11_fitOf_31 Q X16 X31 v0 v1 v2 v3 v4 v5 v6 S) (K : K7 S0 S) (hX16 : ∀ (u0 : Nat) (u1 : Int32) (u2 : Int32) (u3 : Int32) (u4 : Int32) (u5 : Int32) (u6 : HS), X16 u0 u1 u2 u3 u4 u5 u6 → K7 S0 u6 → X16_2 u0 u1 u2 u3 u4 u5 u6) (hX31 : ∀ (u0 : Nat) (u1 : Int32) (u2 : Int32) (u3 : Int32) (u4 : Int32) (u5 : Int32) (u6 : Int32) (u7 : HS), X31 u0 u1 u2 u3 u4 u5 u6 u7 → K7 S0 u7 → X31_2 u0 u1 u2 u3 u4 u5 u6 u7) : B_X11_fitOf_31 (fun r T => Q r T ∧ K7 S0 T) X16_2 X31_2 v0 v1 v2 v3 v4 v5 v6 S := by
  delta B_X11_fitOf_31 at h ⊢
  refine ⟨?_, ?_⟩
  · intro c1
    have h := h.1 c1
    intro x3 e2
    have h := h x3 e2
    exact hX16 _ _ _ _ _ _ _ h K
  · intro c4
    have h := h.2 c4
    exact kw_X11_fitOf_40 h K hX16 hX31
theorem kw_X11_fitOf_31 {Q : Int32 → HS → Prop} {X16 X16_2 : Nat → Int32 → Int32 → Int32 → Int32 → Int32 → HS → Prop} {v0 : Nat} {v1 : Int32} {v2 : Int32} {v3 : Int32} {v4 : Int32} {v5 : Int32} {v6 : Int32} {S0 S : HS} (h : P_X11_fitOf_31 Q X16 v0 v1 v2 v3 v4 v5 v6 S) (K : K7 S0 S) (hX16 : ∀ (u0 : Nat) (u1 : Int32) (u2 : Int32) (u3 : Int32) (u4 : Int32) (u5 : Int32) (u6 : HS), X16 u0 u1 u2 u3 u4 u5 u6 → K7 S0 u6 → X16_2 u0 u1 u2 u3 u4 u5 u6) : P_X11_fitOf_31 (fun r T => Q r T ∧ K7 S0 T) X16_2 v0 v1 v2 v3 v4 v5 v6 S := h (fun v0 v1 v2 v3 v4 v5 v6 S => K7 S0 S → P_X11_fitOf_31 (fun r T => Q r T ∧ K7 S0 T) X16_2 v0 v1 v2 v3 v4 v5 v6 S) (fun v0 v1 v2 v3 v4 v5 v6 S hB K => fd_X11_fitOf_31 (kwB_X11_fitOf_31 hB K hX16 (fun _ _ _ _ _ _ _ _ hx K => hx K))) K
set_option maxRecDepth 20000 in
set_option maxHeartbeats 1000000 in
theorem kwB_X11_fitOf_16 {Q : Int32 → HS → Prop} {X16 X16_2 : Nat → Int32 → Int32 → Int32 → Int32 → Int32 → HS → Prop} {v0 : Nat} {v1 : Int32} {v2 : Int32} {v3 : Int32} {v4 : Int32} {v5 : Int32} {S0 S : HS} (h : B_X11_fitOf_16 Q X16 v0 v1 v2 v3 v4 v5 S) (K : K7 S0 S) (hX16 : ∀ (u0 : Nat) (u1 : Int32) (u2 : Int32) (u3 : Int32) (u4 : Int32) (u5 : Int32) (u6 : HS), X16 u0 u1 u2 u3 u4 u5 u6 → K7 S0 u6 → X16_2 u0 u1 u2 u3 u4 u5 u6) : B_X11_fitOf_16 (fun r T => Q r T ∧ K7 S0 T) X16_2 v0 v1 v2 v3 v4 v5 S := by
  delta B_X11_fitOf_16 at h ⊢
  obtain ⟨c1, h⟩ := h
  refine ⟨c1, ?_⟩
  have n2 := k7_nk K c1 (by decide)
  have o3 := c1
  obtain ⟨b4, e5, h⟩ := h
  refine ⟨b4, e5, ?_⟩
  obtain ⟨c6, h⟩ := h
  refine ⟨c6, ?_⟩
  have n7 := k7_nk K c6 (by decide)
  intro x9 e8
  have h := h x9 e8
  refine ⟨?_, ?_⟩
  · intro c10
    have h := h.1 c10
    refine ⟨?_, ?_⟩
    · intro c11
      have h := h.1 c11
      exact ⟨h, K⟩
    · intro c12
      have h := h.2 c12
      exact ⟨h, K⟩
  · intro c13
    have h := h.2 c13
    exact kw_X11_fitOf_31 h K hX16
theorem kw_X11_fitOf_16 {Q : Int32 → HS → Prop} {v0 : Nat} {v1 : Int32} {v2 : Int32} {v3 : Int32} {v4 : Int32} {v5 : Int32} {S0 S : HS} (h : P_X11_fitOf_16 Q v0 v1 v2 v3 v4 v5 S) (K : K7 S0 S) : P_X11_fitOf_16 (fun r T => Q r T ∧ K7 S0 T) v0 v1 v2 v3 v4 v5 S := h (fun v0 v1 v2 v3 v4 v5 S => K7 S0 S → P_X11_fitOf_16 (fun r T => Q r T ∧ K7 S0 T) v0 v1 v2 v3 v4 v5 S) (fun v0 v1 v2 v3 v4 v5 S hB K => fd_X11_fitOf_16 (kwB_X11_fitOf_16 hB K (fun _ _ _ _ _ _ _ hx K => hx K))) K
set_option maxRecDepth 20000 in
set_option maxHeartbeats 1000000 in
theorem kw_X11_fitOf_0 {Q : Int32 → HS → Prop} {v0 : Nat} {v1 : Int32} {v2 : Int32} {S0 S : HS} (h : P_X11_fitOf_0 Q v0 v1 v2 S) (K : K7 S0 S) : P_X11_fitOf_0 (fun r T => Q r T ∧ K7 S0 T) v0 v1 v2 S := by
  delta P_X11_fitOf_0 at h ⊢
  obtain ⟨c1, h⟩ := h
  refine ⟨c1, ?_⟩
  have n2 := k7_nk K c1 (by decide)
  have o3 := c1
  obtain ⟨b4, e5, h⟩ := h
  refine ⟨b4, e5, ?_⟩
  obtain ⟨c6, h⟩ := h
  refine ⟨c6, ?_⟩
  have n7 := k7_nk K c6 (by decide)
  obtain ⟨b8, e9, h⟩ := h
  refine ⟨b8, e9, ?_⟩
  obtain ⟨c10, h⟩ := h
  refine ⟨c10, ?_⟩
  obtain ⟨c11, h⟩ := h
  refine ⟨c11, ?_⟩
  intro x13 e12
  have h := h x13 e12
  exact kw_X11_fitOf_16 h K
theorem kw_X11_fitOf {Q : Int32 → HS → Prop} {v0 : Nat} {v1 : Int32} {v2 : Int32} {S : HS} (h : P_X11_fitOf v0 v1 v2 Q S) : P_X11_fitOf v0 v1 v2 (fun r T => Q r T ∧ K7 S T) S := kw_X11_fitOf_0 h (k7_rf S)
set_option maxRecDepth 20000 in
set_option maxHeartbeats 1000000 in
theorem kw_X11_isSeen_0 {Q : Int32 → HS → Prop} {v0 : Nat} {v1 : Int32} {S0 S : HS} (h : P_X11_isSeen_0 Q v0 v1 S) (K : K7 S0 S) : P_X11_isSeen_0 (fun r T => Q r T ∧ K7 S0 T) v0 v1 S := by
  delta P_X11_isSeen_0 at h ⊢
  obtain ⟨c1, h⟩ := h
  refine ⟨c1, ?_⟩
  have n2 := k7_nk K c1 (by decide)
  have o3 := c1
  refine ⟨?_, ?_⟩
  · intro c4
    have h := h.1 c4
    exact ⟨h, K⟩
  · intro x5 c6
    have h := h.2 x5 c6
    refine ⟨?_, ?_⟩
    · intro c7
      have h := h.1 c7
      exact ⟨h, K⟩
    · intro c8
      have h := h.2 c8
      obtain ⟨b9, e10, h⟩ := h
      refine ⟨b9, e10, ?_⟩
      obtain ⟨c11, h⟩ := h
      refine ⟨c11, ?_⟩
      have n12 := k7_nk K c11 (by decide)
      intro x14 e13
      have h := h x14 e13
      refine ⟨?_, ?_⟩
      · intro c15
        have h := h.1 c15
        exact ⟨h, K⟩
      · intro c16
        have h := h.2 c16
        exact ⟨h, K⟩
theorem kw_X11_isSeen {Q : Int32 → HS → Prop} {v0 : Nat} {v1 : Int32} {S : HS} (h : P_X11_isSeen v0 v1 Q S) : P_X11_isSeen v0 v1 (fun r T => Q r T ∧ K7 S T) S := kw_X11_isSeen_0 h (k7_rf S)
set_option maxRecDepth 20000 in
set_option maxHeartbeats 1000000 in
theorem kw_X11_fit_27 {Q : Int32 → HS → Prop} {v0 : Nat} {s0 : Int32} {S0 S : HS} (h : P_X11_fit_27 Q v0 s0 S) (K : K7 S0 S) : P_X11_fit_27 (fun r T => Q r T ∧ K7 S0 T) v0 s0 S := by
  delta P_X11_fit_27 at h ⊢
  refine ⟨?_, ?_⟩
  · intro c1
    have h := h.1 c1
    obtain ⟨c2, h⟩ := h
    refine ⟨c2, ?_⟩
    have n3 := k7_nk K c2 (by decide)
    have o4 := c2
    refine cm_X11_good (kw_X11_good h) h (fun x5 x6 p8 h g7 => ?_)
    have h := h g7
    have K := k7_tr K p8.2
    have o4 := gr_ob p8.2.1 o4
    exact ⟨h, K⟩
  · intro c9
    have h := h.2 c9
    obtain ⟨c10, h⟩ := h
    refine ⟨c10, ?_⟩
    have n11 := k7_nk K c10 (by decide)
    have o12 := c10
    refine cm_X11_refused (kw_X11_refused h) h (fun x13 x14 p16 h g15 => ?_)
    have h := h g15
    have K := k7_tr K p16.2
    have o12 := gr_ob p16.2.1 o12
    exact ⟨h, K⟩
set_option maxRecDepth 20000 in
set_option maxHeartbeats 1000000 in
theorem kw_X11_fit_26 {Q : Int32 → HS → Prop} {v0 : Nat} {S0 S : HS} (h : P_X11_fit_26 Q v0 S) (K : K7 S0 S) : P_X11_fit_26 (fun r T => Q r T ∧ K7 S0 T) v0 S := by
  delta P_X11_fit_26 at h ⊢
  exact kw_X11_fit_27 h K
set_option maxRecDepth 20000 in
set_option maxHeartbeats 1000000 in
theorem kw_X11_fit_0 {Q : Int32 → HS → Prop} {v0 : Nat} {v1 : Int32} {v2 : Int32} {S0 S : HS} (h : P_X11_fit_0 Q v0 v1 v2 S) (K : K7 S0 S) : P_X11_fit_0 (fun r T => Q r T ∧ K7 S0 T) v0 v1 v2 S := by
  delta P_X11_fit_0 at h ⊢
  obtain ⟨c1, h⟩ := h
  refine ⟨c1, ?_⟩
  have n2 := k7_nk K c1 (by decide)
  have o3 := c1
  intro x5 e4
  have h := h x5 e4
  have K := k7_I K e4 n2
  have o3 := ob_wI o3 e4
  refine cm_X11_isSeen (kw_X11_isSeen h) h (fun x6 x7 p10 h g8 g9 => ?_)
  have h := h g8 g9
  have K := k7_tr K p10.2
  have o3 := gr_ob p10.2.1 o3
  refine ⟨?_, ?_⟩
  · intro c11
    have h := h.1 c11
    exact kw_X11_fit_26 h K
  · intro c12
    have h := h.2 c12
    refine ⟨?_, ?_⟩
    · intro c13
      have h := h.1 c13
      exact kw_X11_fit_26 h K
    · intro c14
      have h := h.2 c14
      refine cm_X11_fitOf (kw_X11_fitOf h) h (fun x15 x16 p18 h g17 => ?_)
      have h := h g17
      have K := k7_tr K p18.2
      have o3 := gr_ob p18.2.1 o3
      exact kw_X11_fit_27 h K
theorem kw_X11_fit {Q : Int32 → HS → Prop} {v0 : Nat} {v1 : Int32} {v2 : Int32} {S : HS} (h : P_X11_fit v0 v1 v2 Q S) : P_X11_fit v0 v1 v2 (fun r T => Q r T ∧ K7 S T) S := kw_X11_fit_0 h (k7_rf S)
set_option maxRecDepth 20000 in
set_option maxHeartbeats 1000000 in
theorem kw_X11_fits_0 {Q : Int32 → HS → Prop} {v0 : Nat} {v1 : Int32} {S0 S : HS} (h : P_X11_fits_0 Q v0 v1 S) (K : K7 S0 S) : P_X11_fits_0 (fun r T => Q r T ∧ K7 S0 T) v0 v1 S := by
  delta P_X11_fits_0 at h ⊢
  obtain ⟨c1, h⟩ := h
  refine ⟨c1, ?_⟩
  have n2 := k7_nk K c1 (by decide)
  have o3 := c1
  intro x5 e4
  have h := h x5 e4
  have K := k7_I K e4 n2
  have o3 := ob_wI o3 e4
  refine cm_X11_isSeen (kw_X11_isSeen h) h (fun x6 x7 p10 h g8 g9 => ?_)
  have h := h g8 g9
  have K := k7_tr K p10.2
  have o3 := gr_ob p10.2.1 o3
  refine ⟨?_, ?_⟩
  · intro c11
    have h := h.1 c11
    refine cm_X11_refused (kw_X11_refused h) h (fun x12 x13 p15 h g14 => ?_)
    have h := h g14
    have K := k7_tr K p15.2
    have o3 := gr_ob p15.2.1 o3
    exact ⟨h, K⟩
  · intro c16
    have h := h.2 c16
    refine cm_X11_fitOf (kw_X11_fitOf h) h (fun x17 x18 p20 h g19 => ?_)
    have h := h g19
    have K := k7_tr K p20.2
    have o3 := gr_ob p20.2.1 o3
    refine cm_X11_good (kw_X11_good h) h (fun x21 x22 p24 h g23 => ?_)
    have h := h g23
    have K := k7_tr K p24.2
    have o3 := gr_ob p24.2.1 o3
    exact ⟨h, K⟩
theorem kw_X11_fits {Q : Int32 → HS → Prop} {v0 : Nat} {v1 : Int32} {S : HS} (h : P_X11_fits v0 v1 Q S) : P_X11_fits v0 v1 (fun r T => Q r T ∧ K7 S T) S := kw_X11_fits_0 h (k7_rf S)
set_option maxRecDepth 20000 in
set_option maxHeartbeats 1000000 in
theorem kw_X11_hourOf_0 {Q : Int32 → HS → Prop} {v0 : Nat} {v1 : Int32} {S0 S : HS} (h : P_X11_hourOf_0 Q v0 v1 S) (K : K7 S0 S) : P_X11_hourOf_0 (fun r T => Q r T ∧ K7 S0 T) v0 v1 S := by
  delta P_X11_hourOf_0 at h ⊢
  obtain ⟨c1, h⟩ := h
  refine ⟨c1, ?_⟩
  have n2 := k7_nk K c1 (by decide)
  have o3 := c1
  obtain ⟨b4, e5, h⟩ := h
  refine ⟨b4, e5, ?_⟩
  obtain ⟨c6, h⟩ := h
  refine ⟨c6, ?_⟩
  have n7 := k7_nk K c6 (by decide)
  intro x9 e8
  have h := h x9 e8
  obtain ⟨c10, h⟩ := h
  refine ⟨c10, ?_⟩
  intro x12 e11
  have h := h x12 e11
  exact ⟨h, K⟩
theorem kw_X11_hourOf {Q : Int32 → HS → Prop} {v0 : Nat} {v1 : Int32} {S : HS} (h : P_X11_hourOf v0 v1 Q S) : P_X11_hourOf v0 v1 (fun r T => Q r T ∧ K7 S T) S := kw_X11_hourOf_0 h (k7_rf S)
set_option maxRecDepth 20000 in
set_option maxHeartbeats 1000000 in
theorem kwB_X11_keeps_50 {Q : HS → Prop} {X50 X50_2 : Nat → Int32 → HS → Prop} {v0 : Nat} {v1 : Int32} {S0 S : HS} (h : B_X11_keeps_50 Q X50 v0 v1 S) (K : K7 S0 S) (hX50 : ∀ (u0 : Nat) (u1 : Int32) (u2 : HS), X50 u0 u1 u2 → K7 S0 u2 → X50_2 u0 u1 u2) : B_X11_keeps_50 (fun T => Q T ∧ K7 S0 T) X50_2 v0 v1 S := by
  delta B_X11_keeps_50 at h ⊢
  refine ⟨?_, ?_⟩
  · intro c1
    have h := h.1 c1
    obtain ⟨c2, h⟩ := h
    refine ⟨c2, ?_⟩
    have n3 := k7_nk K c2 (by decide)
    have o4 := c2
    intro x6 e5
    have h := h x6 e5
    intro x8 e7
    have h := h x8 e7
    intro x10 e9
    have h := h x10 e9
    have K := k7_I K e9 n3
    have o4 := ob_wI o4 e9
    exact ⟨h, K⟩
  · intro c11
    have h := h.2 c11
    obtain ⟨c12, h⟩ := h
    refine ⟨c12, ?_⟩
    have n13 := k7_nk K c12 (by decide)
    have o14 := c12
    obtain ⟨b15, e16, h⟩ := h
    refine ⟨b15, e16, ?_⟩
    intro x18 e17
    have h := h x18 e17
    obtain ⟨b19, e20, h⟩ := h
    refine ⟨b19, e20, ?_⟩
    obtain ⟨c21, h⟩ := h
    refine ⟨c21, ?_⟩
    have n22 := k7_nk K c21 (by decide)
    obtain ⟨c23, h⟩ := h
    refine ⟨c23, ?_⟩
    intro x25 e24
    have h := h x25 e24
    obtain ⟨c26, h⟩ := h
    refine ⟨c26, ?_⟩
    have n27 := k7_nk K c26 (by decide)
    obtain ⟨c28, h⟩ := h
    refine ⟨c28, ?_⟩
    intro x30 e29
    have h := h x30 e29
    have K := k7_J K e29
    have o14 := ob_wJ o14 e29
    intro x32 e31
    have h := h x32 e31
    exact hX50 _ _ _ h K
theorem kw_X11_keeps_50 {Q : HS → Prop} {v0 : Nat} {v1 : Int32} {S0 S : HS} (h : P_X11_keeps_50 Q v0 v1 S) (K : K7 S0 S) : P_X11_keeps_50 (fun T => Q T ∧ K7 S0 T) v0 v1 S := h (fun v0 v1 S => K7 S0 S → P_X11_keeps_50 (fun T => Q T ∧ K7 S0 T) v0 v1 S) (fun v0 v1 S hB K => fd_X11_keeps_50 (kwB_X11_keeps_50 hB K (fun _ _ _ hx K => hx K))) K
set_option maxRecDepth 20000 in
set_option maxHeartbeats 1000000 in
theorem kw_X11_keeps_48 {Q : HS → Prop} {v0 : Nat} {S0 S : HS} (h : P_X11_keeps_48 Q v0 S) (K : K7 S0 S) : P_X11_keeps_48 (fun T => Q T ∧ K7 S0 T) v0 S := by
  delta P_X11_keeps_48 at h ⊢
  exact kw_X11_keeps_50 h K
set_option maxRecDepth 20000 in
set_option maxHeartbeats 1000000 in
theorem kwB_X11_keeps_11 {Q : HS → Prop} {X11 X11_2 : Nat → Int32 → HS → Prop} {v0 : Nat} {v1 : Int32} {S0 S : HS} (h : B_X11_keeps_11 Q X11 v0 v1 S) (K : K7 S0 S) (hX11 : ∀ (u0 : Nat) (u1 : Int32) (u2 : HS), X11 u0 u1 u2 → K7 S0 u2 → X11_2 u0 u1 u2) : B_X11_keeps_11 (fun T => Q T ∧ K7 S0 T) X11_2 v0 v1 S := by
  delta B_X11_keeps_11 at h ⊢
  refine ⟨?_, ?_⟩
  · intro c1
    have h := h.1 c1
    obtain ⟨c2, h⟩ := h
    refine ⟨c2, ?_⟩
    have n3 := k7_nk K c2 (by decide)
    have o4 := c2
    intro x6 e5
    have h := h x6 e5
    intro x8 e7
    have h := h x8 e7
    intro x10 e9
    have h := h x10 e9
    have K := k7_I K e9 n3
    have o4 := ob_wI o4 e9
    exact kw_X11_keeps_48 h K
  · intro c11
    have h := h.2 c11
    obtain ⟨c12, h⟩ := h
    refine ⟨c12, ?_⟩
    have n13 := k7_nk K c12 (by decide)
    have o14 := c12
    obtain ⟨b15, e16, h⟩ := h
    refine ⟨b15, e16, ?_⟩
    obtain ⟨b17, e18, h⟩ := h
    refine ⟨b17, e18, ?_⟩
    obtain ⟨c19, h⟩ := h
    refine ⟨c19, ?_⟩
    have n20 := k7_nk K c19 (by decide)
    intro x22 e21
    have h := h x22 e21
    obtain ⟨c23, h⟩ := h
    refine ⟨c23, ?_⟩
    intro x25 e24
    have h := h x25 e24
    obtain ⟨c26, h⟩ := h
    refine ⟨c26, ?_⟩
    have n27 := k7_nk K c26 (by decide)
    obtain ⟨c28, h⟩ := h
    refine ⟨c28, ?_⟩
    intro x30 e29
    have h := h x30 e29
    have K := k7_J K e29
    have o14 := ob_wJ o14 e29
    intro x32 e31
    have h := h x32 e31
    exact hX11 _ _ _ h K
theorem kw_X11_keeps_11 {Q : HS → Prop} {v0 : Nat} {v1 : Int32} {S0 S : HS} (h : P_X11_keeps_11 Q v0 v1 S) (K : K7 S0 S) : P_X11_keeps_11 (fun T => Q T ∧ K7 S0 T) v0 v1 S := h (fun v0 v1 S => K7 S0 S → P_X11_keeps_11 (fun T => Q T ∧ K7 S0 T) v0 v1 S) (fun v0 v1 S hB K => fd_X11_keeps_11 (kwB_X11_keeps_11 hB K (fun _ _ _ hx K => hx K))) K
set_option maxRecDepth 20000 in
set_option maxHeartbeats 1000000 in
theorem kw_X11_keeps_0 {Q : HS → Prop} {v0 : Nat} {S0 S : HS} (h : P_X11_keeps_0 Q v0 S) (K : K7 S0 S) : P_X11_keeps_0 (fun T => Q T ∧ K7 S0 T) v0 S := by
  delta P_X11_keeps_0 at h ⊢
  obtain ⟨c1, h⟩ := h
  refine ⟨c1, ?_⟩
  have n2 := k7_nk K c1 (by decide)
  have o3 := c1
  intro x5 e4
  have h := h x5 e4
  refine ⟨?_, ?_⟩
  · intro c6
    have h := h.1 c6
    exact kw_X11_keeps_48 h K
  · intro c7
    have h := h.2 c7
    exact kw_X11_keeps_11 h K
theorem kw_X11_keeps {Q : HS → Prop} {v0 : Nat} {S : HS} (h : P_X11_keeps v0 Q S) : P_X11_keeps v0 (fun T => Q T ∧ K7 S T) S := kw_X11_keeps_0 h (k7_rf S)
set_option maxRecDepth 20000 in
set_option maxHeartbeats 1000000 in
theorem kw_X11_rainsIn_0 {Q : Int32 → HS → Prop} {v0 : Nat} {v1 : Int32} {S0 S : HS} (h : P_X11_rainsIn_0 Q v0 v1 S) (K : K7 S0 S) : P_X11_rainsIn_0 (fun r T => Q r T ∧ K7 S0 T) v0 v1 S := by
  delta P_X11_rainsIn_0 at h ⊢
  obtain ⟨c1, h⟩ := h
  refine ⟨c1, ?_⟩
  have n2 := k7_nk K c1 (by decide)
  have o3 := c1
  refine cm_X11_hourOf (kw_X11_hourOf h) h (fun x4 x5 p7 h g6 => ?_)
  have h := h g6
  have K := k7_tr K p7.2
  have o3 := gr_ob p7.2.1 o3
  obtain ⟨b8, e9, h⟩ := h
  refine ⟨b8, e9, ?_⟩
  obtain ⟨c10, h⟩ := h
  refine ⟨c10, ?_⟩
  have n11 := k7_nk K c10 (by decide)
  intro x13 e12
  have h := h x13 e12
  refine ⟨?_, ?_⟩
  · intro c14
    have h := h.1 c14
    exact ⟨h, K⟩
  · intro c15
    have h := h.2 c15
    intro x17 e16
    have h := h x17 e16
    refine ⟨?_, ?_⟩
    · intro c18
      have h := h.1 c18
      exact ⟨h, K⟩
    · intro c19
      have h := h.2 c19
      exact ⟨h, K⟩
theorem kw_X11_rainsIn {Q : Int32 → HS → Prop} {v0 : Nat} {v1 : Int32} {S : HS} (h : P_X11_rainsIn v0 v1 Q S) : P_X11_rainsIn v0 v1 (fun r T => Q r T ∧ K7 S T) S := kw_X11_rainsIn_0 h (k7_rf S)
set_option maxRecDepth 20000 in
set_option maxHeartbeats 1000000 in
theorem kw_X11_go_29 {Q : Int32 → HS → Prop} {v0 : Nat} {S0 S : HS} (h : P_X11_go_29 Q v0 S) (K : K7 S0 S) : P_X11_go_29 (fun r T => Q r T ∧ K7 S0 T) v0 S := by
  delta P_X11_go_29 at h ⊢
  obtain ⟨c1, h⟩ := h
  refine ⟨c1, ?_⟩
  have n2 := k7_nk K c1 (by decide)
  have o3 := c1
  refine cm_X11_refused (kw_X11_refused h) h (fun x4 x5 p7 h g6 => ?_)
  have h := h g6
  have K := k7_tr K p7.2
  have o3 := gr_ob p7.2.1 o3
  exact ⟨h, K⟩
set_option maxRecDepth 20000 in
set_option maxHeartbeats 1000000 in
theorem kw_X11_go_171 {Q : Int32 → HS → Prop} {v0 : Nat} {v1 : Int32} {v2 : Int32} {v3 : Int32} {v4 : Int32} {S0 S : HS} (h : P_X11_go_171 Q v0 v1 v2 v3 v4 S) (K : K7 S0 S) : P_X11_go_171 (fun r T => Q r T ∧ K7 S0 T) v0 v1 v2 v3 v4 S := by
  delta P_X11_go_171 at h ⊢
  obtain ⟨c1, h⟩ := h
  refine ⟨c1, ?_⟩
  have n2 := k7_nk K c1 (by decide)
  have o3 := c1
  obtain ⟨b4, e5, h⟩ := h
  refine ⟨b4, e5, ?_⟩
  obtain ⟨b6, e7, h⟩ := h
  refine ⟨b6, e7, ?_⟩
  obtain ⟨c8, h⟩ := h
  refine ⟨c8, ?_⟩
  have n9 := k7_nk K c8 (by decide)
  refine cm_X10_ends (kw_X10_ends h) h (fun x10 x11 p13 h g12 => ?_)
  have h := h g12
  have K := k7_tr K p13.2
  have o3 := gr_ob p13.2.1 o3
  obtain ⟨c14, h⟩ := h
  refine ⟨c14, ?_⟩
  have n15 := k7_nk K c14 (by decide)
  intro x17 e16
  have h := h x17 e16
  obtain ⟨c18, h⟩ := h
  refine ⟨c18, ?_⟩
  intro x20 e19
  have h := h x20 e19
  have K := k7_J K e19
  have o3 := ob_wJ o3 e19
  obtain ⟨b21, e22, h⟩ := h
  refine ⟨b21, e22, ?_⟩
  obtain ⟨b23, e24, h⟩ := h
  refine ⟨b23, e24, ?_⟩
  obtain ⟨c25, h⟩ := h
  refine ⟨c25, ?_⟩
  have n26 := k7_nk K c25 (by decide)
  refine cm_X10_minutes (kw_X10_minutes h) h (fun x27 x28 p30 h g29 => ?_)
  have h := h g29
  have K := k7_tr K p30.2
  have o3 := gr_ob p30.2.1 o3
  obtain ⟨c31, h⟩ := h
  refine ⟨c31, ?_⟩
  have n32 := k7_nk K c31 (by decide)
  intro x34 e33
  have h := h x34 e33
  obtain ⟨c35, h⟩ := h
  refine ⟨c35, ?_⟩
  intro x37 e36
  have h := h x37 e36
  have K := k7_J K e36
  have o3 := ob_wJ o3 e36
  obtain ⟨b38, e39, h⟩ := h
  refine ⟨b38, e39, ?_⟩
  obtain ⟨c40, h⟩ := h
  refine ⟨c40, ?_⟩
  have n41 := k7_nk K c40 (by decide)
  obtain ⟨c42, h⟩ := h
  refine ⟨c42, ?_⟩
  intro x44 e43
  have h := h x44 e43
  refine cm_X11_good (kw_X11_good h) h (fun x45 x46 p48 h g47 => ?_)
  have h := h g47
  have K := k7_tr K p48.2
  have o3 := gr_ob p48.2.1 o3
  exact ⟨h, K⟩
set_option maxRecDepth 20000 in
set_option maxHeartbeats 1000000 in
theorem kwB_X11_go_119 {Q : Int32 → HS → Prop} {X119 X119_2 : Nat → Int32 → Int32 → Int32 → Int32 → Int32 → HS → Prop} {v0 : Nat} {v1 : Int32} {v2 : Int32} {v3 : Int32} {v4 : Int32} {v5 : Int32} {S0 S : HS} (h : B_X11_go_119 Q X119 v0 v1 v2 v3 v4 v5 S) (K : K7 S0 S) (hX119 : ∀ (u0 : Nat) (u1 : Int32) (u2 : Int32) (u3 : Int32) (u4 : Int32) (u5 : Int32) (u6 : HS), X119 u0 u1 u2 u3 u4 u5 u6 → K7 S0 u6 → X119_2 u0 u1 u2 u3 u4 u5 u6) : B_X11_go_119 (fun r T => Q r T ∧ K7 S0 T) X119_2 v0 v1 v2 v3 v4 v5 S := by
  delta B_X11_go_119 at h ⊢
  refine ⟨?_, ?_⟩
  · intro c1
    have h := h.1 c1
    exact kw_X11_go_171 h K
  · intro c2
    have h := h.2 c2
    obtain ⟨c3, h⟩ := h
    refine ⟨c3, ?_⟩
    have n4 := k7_nk K c3 (by decide)
    have o5 := c3
    refine cm_X11_rainsIn (kw_X11_rainsIn h) h (fun x6 x7 p10 h g8 g9 => ?_)
    have h := h g8 g9
    have K := k7_tr K p10.2
    have o5 := gr_ob p10.2.1 o5
    refine ⟨?_, ?_⟩
    · intro c11
      have h := h.1 c11
      exact kw_X11_go_171 h K
    · intro c12
      have h := h.2 c12
      obtain ⟨b13, e14, h⟩ := h
      refine ⟨b13, e14, ?_⟩
      obtain ⟨c15, h⟩ := h
      refine ⟨c15, ?_⟩
      have n16 := k7_nk K c15 (by decide)
      intro x18 e17
      have h := h x18 e17
      obtain ⟨c19, h⟩ := h
      refine ⟨c19, ?_⟩
      intro x21 e20
      have h := h x21 e20
      intro x23 e22
      have h := h x23 e22
      refine cm_X11_hourOf (kw_X11_hourOf h) h (fun x24 x25 p27 h g26 => ?_)
      have h := h g26
      have K := k7_tr K p27.2
      have o5 := gr_ob p27.2.1 o5
      refine cm_X11_partsOf (kw_X11_partsOf h) h (fun x28 x29 p31 h g30 => ?_)
      have h := h g30
      have K := k7_tr K p31.2
      have o5 := gr_ob p31.2.1 o5
      intro x33 e32
      have h := h x33 e32
      obtain ⟨c34, h⟩ := h
      refine ⟨c34, ?_⟩
      intro x36 e35
      have h := h x36 e35
      have K := k7_J K e35
      have o5 := ob_wJ o5 e35
      intro x38 e37
      have h := h x38 e37
      exact hX119 _ _ _ _ _ _ _ h K
theorem kw_X11_go_119 {Q : Int32 → HS → Prop} {v0 : Nat} {v1 : Int32} {v2 : Int32} {v3 : Int32} {v4 : Int32} {v5 : Int32} {S0 S : HS} (h : P_X11_go_119 Q v0 v1 v2 v3 v4 v5 S) (K : K7 S0 S) : P_X11_go_119 (fun r T => Q r T ∧ K7 S0 T) v0 v1 v2 v3 v4 v5 S := h (fun v0 v1 v2 v3 v4 v5 S => K7 S0 S → P_X11_go_119 (fun r T => Q r T ∧ K7 S0 T) v0 v1 v2 v3 v4 v5 S) (fun v0 v1 v2 v3 v4 v5 S hB K => fd_X11_go_119 (kwB_X11_go_119 hB K (fun _ _ _ _ _ _ _ hx K => hx K))) K
set_option maxRecDepth 20000 in
set_option maxHeartbeats 1000000 in
theorem kw_X11_go_0 {Q : Int32 → HS → Prop} {v0 : Nat} {v1 : Int32} {v2 : Int32} {v3 : Int32} {S0 S : HS} (h : P_X11_go_0 Q v0 v1 v2 v3 S) (K : K7 S0 S) : P_X11_go_0 (fun r T => Q r T ∧ K7 S0 T) v0 v1 v2 v3 S := by
  delta P_X11_go_0 at h ⊢
  obtain ⟨c1, h⟩ := h
  refine ⟨c1, ?_⟩
  have n2 := k7_nk K c1 (by decide)
  have o3 := c1
  intro x5 e4
  have h := h x5 e4
  have K := k7_I K e4 n2
  have o3 := ob_wI o3 e4
  refine cm_X11_isDay (kw_X11_isDay h) h (fun x6 x7 p10 h g8 g9 => ?_)
  have h := h g8 g9
  have K := k7_tr K p10.2
  have o3 := gr_ob p10.2.1 o3
  refine ⟨?_, ?_⟩
  · intro c11
    have h := h.1 c11
    exact kw_X11_go_29 h K
  · intro c12
    have h := h.2 c12
    refine cm_X11_isRoad (kw_X11_isRoad h) h (fun x13 x14 p17 h g15 g16 => ?_)
    have h := h g15 g16
    have K := k7_tr K p17.2
    have o3 := gr_ob p17.2.1 o3
    refine ⟨?_, ?_⟩
    · intro c18
      have h := h.1 c18
      exact kw_X11_go_29 h K
    · intro c19
      have h := h.2 c19
      refine cm_X11_in (kw_X11_in h) h (fun x20 x21 p24 h g22 g23 => ?_)
      have h := h g22 g23
      have K := k7_tr K p24.2
      have o3 := gr_ob p24.2.1 o3
      refine ⟨?_, ?_⟩
      · intro c25
        have h := h.1 c25
        intro x27 e26
        have h := h x27 e26
        refine cm_X11_isSpeed (kw_X11_isSpeed h) h (fun x28 x29 p32 h g30 g31 => ?_)
        have h := h g30 g31
        have K := k7_tr K p32.2
        have o3 := gr_ob p32.2.1 o3
        refine ⟨?_, ?_⟩
        · intro c33
          have h := h.1 c33
          obtain ⟨b34, e35, h⟩ := h
          refine ⟨b34, e35, ?_⟩
          obtain ⟨c36, h⟩ := h
          refine ⟨c36, ?_⟩
          have n37 := k7_nk K c36 (by decide)
          refine cm_X10_begins (kw_X10_begins h) h (fun x38 x39 p41 h g40 => ?_)
          have h := h g40
          have K := k7_tr K p41.2
          have o3 := gr_ob p41.2.1 o3
          obtain ⟨b42, e43, h⟩ := h
          refine ⟨b42, e43, ?_⟩
          obtain ⟨c44, h⟩ := h
          refine ⟨c44, ?_⟩
          have n45 := k7_nk K c44 (by decide)
          obtain ⟨c46, h⟩ := h
          refine ⟨c46, ?_⟩
          intro x48 e47
          have h := h x48 e47
          refine ⟨?_, ?_⟩
          · intro c49
            have h := h.1 c49
            obtain ⟨b50, e51, h⟩ := h
            refine ⟨b50, e51, ?_⟩
            obtain ⟨c52, h⟩ := h
            refine ⟨c52, ?_⟩
            have n53 := k7_nk K c52 (by decide)
            obtain ⟨c54, h⟩ := h
            refine ⟨c54, ?_⟩
            intro x56 e55
            have h := h x56 e55
            intro x58 e57
            have h := h x58 e57
            obtain ⟨b59, e60, h⟩ := h
            refine ⟨b59, e60, ?_⟩
            obtain ⟨c61, h⟩ := h
            refine ⟨c61, ?_⟩
            have n62 := k7_nk K c61 (by decide)
            refine cm_X10_minutes (kw_X10_minutes h) h (fun x63 x64 p66 h g65 => ?_)
            have h := h g65
            have K := k7_tr K p66.2
            have o3 := gr_ob p66.2.1 o3
            refine ⟨?_, ?_⟩
            · intro c67
              have h := h.1 c67
              refine cm_X11_keeps (kw_X11_keeps h) h (fun x68 p70 h g69 => ?_)
              have h := h g69
              have K := k7_tr K p70.2
              have o3 := gr_ob p70.2.1 o3
              exact kw_X11_go_119 h K
            · intro c71
              have h := h.2 c71
              refine cm_X11_refused (kw_X11_refused h) h (fun x72 x73 p75 h g74 => ?_)
              have h := h g74
              have K := k7_tr K p75.2
              have o3 := gr_ob p75.2.1 o3
              exact ⟨h, K⟩
          · intro c76
            have h := h.2 c76
            refine cm_X11_refused (kw_X11_refused h) h (fun x77 x78 p80 h g79 => ?_)
            have h := h g79
            have K := k7_tr K p80.2
            have o3 := gr_ob p80.2.1 o3
            exact ⟨h, K⟩
        · intro c81
          have h := h.2 c81
          refine cm_X11_refused (kw_X11_refused h) h (fun x82 x83 p85 h g84 => ?_)
          have h := h g84
          have K := k7_tr K p85.2
          have o3 := gr_ob p85.2.1 o3
          exact ⟨h, K⟩
      · intro c86
        have h := h.2 c86
        exact kw_X11_go_29 h K
theorem kw_X11_go {Q : Int32 → HS → Prop} {v0 : Nat} {v1 : Int32} {v2 : Int32} {v3 : Int32} {S : HS} (h : P_X11_go v0 v1 v2 v3 Q S) : P_X11_go v0 v1 v2 v3 (fun r T => Q r T ∧ K7 S T) S := kw_X11_go_0 h (k7_rf S)
set_option maxRecDepth 20000 in
set_option maxHeartbeats 1000000 in
theorem kw_X11_got_40 {Q : Int64 → HS → Prop} {v0 : Nat} {S0 S : HS} (h : P_X11_got_40 Q v0 S) (K : K7 S0 S) : P_X11_got_40 (fun r T => Q r T ∧ K7 S0 T) v0 S := by
  delta P_X11_got_40 at h ⊢
  obtain ⟨c1, h⟩ := h
  refine ⟨c1, ?_⟩
  have n2 := k7_nk K c1 (by decide)
  have o3 := c1
  refine cm_X11_refused (kw_X11_refused h) h (fun x4 x5 p7 h g6 => ?_)
  have h := h g6
  have K := k7_tr K p7.2
  have o3 := gr_ob p7.2.1 o3
  exact ⟨h, K⟩
set_option maxRecDepth 20000 in
set_option maxHeartbeats 1000000 in
theorem kw_X11_got_0 {Q : Int64 → HS → Prop} {v0 : Nat} {v1 : Int32} {v2 : Int32} {S0 S : HS} (h : P_X11_got_0 Q v0 v1 v2 S) (K : K7 S0 S) : P_X11_got_0 (fun r T => Q r T ∧ K7 S0 T) v0 v1 v2 S := by
  delta P_X11_got_0 at h ⊢
  obtain ⟨c1, h⟩ := h
  refine ⟨c1, ?_⟩
  have n2 := k7_nk K c1 (by decide)
  have o3 := c1
  intro x5 e4
  have h := h x5 e4
  have K := k7_I K e4 n2
  have o3 := ob_wI o3 e4
  refine cm_X11_isDay (kw_X11_isDay h) h (fun x6 x7 p10 h g8 g9 => ?_)
  have h := h g8 g9
  have K := k7_tr K p10.2
  have o3 := gr_ob p10.2.1 o3
  refine ⟨?_, ?_⟩
  · intro c11
    have h := h.1 c11
    exact kw_X11_got_40 h K
  · intro c12
    have h := h.2 c12
    refine cm_X11_in (kw_X11_in h) h (fun x13 x14 p17 h g15 g16 => ?_)
    have h := h g15 g16
    have K := k7_tr K p17.2
    have o3 := gr_ob p17.2.1 o3
    refine ⟨?_, ?_⟩
    · intro c18
      have h := h.1 c18
      exact kw_X11_got_40 h K
    · intro c19
      have h := h.2 c19
      obtain ⟨b20, e21, h⟩ := h
      refine ⟨b20, e21, ?_⟩
      obtain ⟨c22, h⟩ := h
      refine ⟨c22, ?_⟩
      have n23 := k7_nk K c22 (by decide)
      intro x25 e24
      have h := h x25 e24
      obtain ⟨c26, h⟩ := h
      refine ⟨c26, ?_⟩
      intro x28 e27
      have h := h x28 e27
      refine cm_X11_told (kw_X11_told h) h (fun x29 x30 p32 h g31 => ?_)
      have h := h g31
      have K := k7_tr K p32.2
      have o3 := gr_ob p32.2.1 o3
      exact ⟨h, K⟩
theorem kw_X11_got {Q : Int64 → HS → Prop} {v0 : Nat} {v1 : Int32} {v2 : Int32} {S : HS} (h : P_X11_got v0 v1 v2 Q S) : P_X11_got v0 v1 v2 (fun r T => Q r T ∧ K7 S T) S := kw_X11_got_0 h (k7_rf S)
set_option maxRecDepth 20000 in
set_option maxHeartbeats 1000000 in
theorem kwB_X11_gotInAll_4 {Q : Int64 → HS → Prop} {X4 X4_2 : Nat → Int64 → Int32 → HS → Prop} {v0 : Nat} {v1 : Int64} {v3 : Int32} {S0 S : HS} (h : B_X11_gotInAll_4 Q X4 v0 v1 v3 S) (K : K7 S0 S) (hX4 : ∀ (u0 : Nat) (u1 : Int64) (u2 : Int32) (u3 : HS), X4 u0 u1 u2 u3 → K7 S0 u3 → X4_2 u0 u1 u2 u3) : B_X11_gotInAll_4 (fun r T => Q r T ∧ K7 S0 T) X4_2 v0 v1 v3 S := by
  delta B_X11_gotInAll_4 at h ⊢
  refine ⟨?_, ?_⟩
  · intro c1
    have h := h.1 c1
    exact ⟨h, K⟩
  · intro c2
    have h := h.2 c2
    obtain ⟨c3, h⟩ := h
    refine ⟨c3, ?_⟩
    have n4 := k7_nk K c3 (by decide)
    have o5 := c3
    obtain ⟨b6, e7, h⟩ := h
    refine ⟨b6, e7, ?_⟩
    obtain ⟨c8, h⟩ := h
    refine ⟨c8, ?_⟩
    have n9 := k7_nk K c8 (by decide)
    intro x11 e10
    have h := h x11 e10
    obtain ⟨c12, h⟩ := h
    refine ⟨c12, ?_⟩
    intro x14 e13
    have h := h x14 e13
    intro x16 e15
    have h := h x16 e15
    intro x18 e17
    have h := h x18 e17
    exact hX4 _ _ _ _ h K
theorem kw_X11_gotInAll_4 {Q : Int64 → HS → Prop} {v0 : Nat} {v1 : Int64} {v3 : Int32} {S0 S : HS} (h : P_X11_gotInAll_4 Q v0 v1 v3 S) (K : K7 S0 S) : P_X11_gotInAll_4 (fun r T => Q r T ∧ K7 S0 T) v0 v1 v3 S := h (fun v0 v1 v3 S => K7 S0 S → P_X11_gotInAll_4 (fun r T => Q r T ∧ K7 S0 T) v0 v1 v3 S) (fun v0 v1 v3 S hB K => fd_X11_gotInAll_4 (kwB_X11_gotInAll_4 hB K (fun _ _ _ _ hx K => hx K))) K
set_option maxRecDepth 20000 in
set_option maxHeartbeats 1000000 in
theorem kw_X11_gotInAll_0 {Q : Int64 → HS → Prop} {v0 : Nat} {S0 S : HS} (h : P_X11_gotInAll_0 Q v0 S) (K : K7 S0 S) : P_X11_gotInAll_0 (fun r T => Q r T ∧ K7 S0 T) v0 S := by
  delta P_X11_gotInAll_0 at h ⊢
  exact kw_X11_gotInAll_4 h K
theorem kw_X11_gotInAll {Q : Int64 → HS → Prop} {v0 : Nat} {S : HS} (h : P_X11_gotInAll v0 Q S) : P_X11_gotInAll v0 (fun r T => Q r T ∧ K7 S T) S := kw_X11_gotInAll_0 h (k7_rf S)
set_option maxRecDepth 20000 in
set_option maxHeartbeats 1000000 in
theorem kw_X11_held_68 {Q : Int32 → HS → Prop} {s0 : Nat} {s1 : Int32} {S0 S : HS} (h : P_X11_held_68 Q s0 s1 S) (K : K7 S0 S) : P_X11_held_68 (fun r T => Q r T ∧ K7 S0 T) s0 s1 S := by
  delta P_X11_held_68 at h ⊢
  obtain ⟨c1, h⟩ := h
  refine ⟨c1, ?_⟩
  have n2 := k7_nk K c1 (by decide)
  have o3 := c1
  refine cm_X11_good (kw_X11_good h) h (fun x4 x5 p7 h g6 => ?_)
  have h := h g6
  have K := k7_tr K p7.2
  have o3 := gr_ob p7.2.1 o3
  exact ⟨h, K⟩
set_option maxRecDepth 20000 in
set_option maxHeartbeats 1000000 in
theorem kw_X11_held_0 {Q : Int32 → HS → Prop} {v0 : Nat} {v1 : Int32} {v2 : Int32} {v3 : Int32} {v4 : Int32} {v5 : Int32} {S0 S : HS} (h : P_X11_held_0 Q v0 v1 v2 v3 v4 v5 S) (K : K7 S0 S) : P_X11_held_0 (fun r T => Q r T ∧ K7 S0 T) v0 v1 v2 v3 v4 v5 S := by
  delta P_X11_held_0 at h ⊢
  obtain ⟨c1, h⟩ := h
  refine ⟨c1, ?_⟩
  have n2 := k7_nk K c1 (by decide)
  have o3 := c1
  intro x5 e4
  have h := h x5 e4
  have K := k7_I K e4 n2
  have o3 := ob_wI o3 e4
  refine cm_X11_refuses (kw_X11_refuses h) h (fun x6 x7 p9 h g8 => ?_)
  have h := h g8
  have K := k7_tr K p9.2
  have o3 := gr_ob p9.2.1 o3
  refine ⟨?_, ?_⟩
  · intro c10
    have h := h.1 c10
    obtain ⟨b11, e12, h⟩ := h
    refine ⟨b11, e12, ?_⟩
    obtain ⟨c13, h⟩ := h
    refine ⟨c13, ?_⟩
    have n14 := k7_nk K c13 (by decide)
    obtain ⟨b15, e16, h⟩ := h
    refine ⟨b15, e16, ?_⟩
    obtain ⟨c17, h⟩ := h
    refine ⟨c17, ?_⟩
    obtain ⟨c18, h⟩ := h
    refine ⟨c18, ?_⟩
    intro x20 e19
    have h := h x20 e19
    refine ⟨?_, ?_⟩
    · intro c21
      have h := h.1 c21
      refine cm_X11_isForward (kw_X11_isForward h) h (fun x22 x23 p26 h g24 g25 => ?_)
      have h := h g24 g25
      have K := k7_tr K p26.2
      have o3 := gr_ob p26.2.1 o3
      refine ⟨?_, ?_⟩
      · intro c27
        have h := h.1 c27
        exact kw_X11_held_68 h K
      · intro c28
        have h := h.2 c28
        exact kw_X11_held_68 h K
    · intro c29
      have h := h.2 c29
      exact kw_X11_held_68 h K
  · intro c30
    have h := h.2 c30
    refine cm_X11_refused (kw_X11_refused h) h (fun x31 x32 p34 h g33 => ?_)
    have h := h g33
    have K := k7_tr K p34.2
    have o3 := gr_ob p34.2.1 o3
    exact ⟨h, K⟩
theorem kw_X11_held {Q : Int32 → HS → Prop} {v0 : Nat} {v1 : Int32} {v2 : Int32} {v3 : Int32} {v4 : Int32} {v5 : Int32} {S : HS} (h : P_X11_held v0 v1 v2 v3 v4 v5 Q S) : P_X11_held v0 v1 v2 v3 v4 v5 (fun r T => Q r T ∧ K7 S T) S := kw_X11_held_0 h (k7_rf S)
set_option maxRecDepth 20000 in
set_option maxHeartbeats 1000000 in
theorem kw_X11_holds_0 {Q : Int64 → HS → Prop} {v0 : Nat} {S0 S : HS} (h : P_X11_holds_0 Q v0 S) (K : K7 S0 S) : P_X11_holds_0 (fun r T => Q r T ∧ K7 S0 T) v0 S := by
  delta P_X11_holds_0 at h ⊢
  obtain ⟨c1, h⟩ := h
  refine ⟨c1, ?_⟩
  have n2 := k7_nk K c1 (by decide)
  have o3 := c1
  obtain ⟨b4, e5, h⟩ := h
  refine ⟨b4, e5, ?_⟩
  obtain ⟨c6, h⟩ := h
  refine ⟨c6, ?_⟩
  have n7 := k7_nk K c6 (by decide)
  obtain ⟨b8, e9, h⟩ := h
  refine ⟨b8, e9, ?_⟩
  intro x11 e10
  have h := h x11 e10
  obtain ⟨c12, h⟩ := h
  refine ⟨c12, ?_⟩
  obtain ⟨c13, h⟩ := h
  refine ⟨c13, ?_⟩
  intro x15 e14
  have h := h x15 e14
  refine ⟨?_, ?_⟩
  · intro c16
    have h := h.1 c16
    exact ⟨h, K⟩
  · intro c17
    have h := h.2 c17
    obtain ⟨b18, e19, h⟩ := h
    refine ⟨b18, e19, ?_⟩
    obtain ⟨c20, h⟩ := h
    refine ⟨c20, ?_⟩
    have n21 := k7_nk K c20 (by decide)
    obtain ⟨b22, e23, h⟩ := h
    refine ⟨b22, e23, ?_⟩
    intro x25 e24
    have h := h x25 e24
    obtain ⟨c26, h⟩ := h
    refine ⟨c26, ?_⟩
    obtain ⟨c27, h⟩ := h
    refine ⟨c27, ?_⟩
    intro x29 e28
    have h := h x29 e28
    exact ⟨h, K⟩
theorem kw_X11_holds {Q : Int64 → HS → Prop} {v0 : Nat} {S : HS} (h : P_X11_holds v0 Q S) : P_X11_holds v0 (fun r T => Q r T ∧ K7 S T) S := kw_X11_holds_0 h (k7_rf S)
set_option maxRecDepth 20000 in
set_option maxHeartbeats 1000000 in
theorem kw_X11_spotOf_0 {Q : Int32 → HS → Prop} {v0 : Int32} {v1 : Int32} {S0 S : HS} (h : P_X11_spotOf_0 Q v0 v1 S) (K : K7 S0 S) : P_X11_spotOf_0 (fun r T => Q r T ∧ K7 S0 T) v0 v1 S := by
  delta P_X11_spotOf_0 at h ⊢
  exact ⟨h, K⟩
theorem kw_X11_spotOf {Q : Int32 → HS → Prop} {v0 : Int32} {v1 : Int32} {S : HS} (h : P_X11_spotOf v0 v1 Q S) : P_X11_spotOf v0 v1 (fun r T => Q r T ∧ K7 S T) S := kw_X11_spotOf_0 h (k7_rf S)
set_option maxRecDepth 20000 in
set_option maxHeartbeats 1000000 in
theorem kw_X11_meanOf_0 {Q : Int64 → HS → Prop} {v0 : Nat} {v1 : Int32} {v2 : Int32} {v3 : Int32} {v4 : Int32} {v5 : Int32} {S0 S : HS} (h : P_X11_meanOf_0 Q v0 v1 v2 v3 v4 v5 S) (K : K7 S0 S) : P_X11_meanOf_0 (fun r T => Q r T ∧ K7 S0 T) v0 v1 v2 v3 v4 v5 S := by
  delta P_X11_meanOf_0 at h ⊢
  obtain ⟨c1, h⟩ := h
  refine ⟨c1, ?_⟩
  have n2 := k7_nk K c1 (by decide)
  have o3 := c1
  refine cm_X11_hourOf (kw_X11_hourOf h) h (fun x4 x5 p7 h g6 => ?_)
  have h := h g6
  have K := k7_tr K p7.2
  have o3 := gr_ob p7.2.1 o3
  obtain ⟨b8, e9, h⟩ := h
  refine ⟨b8, e9, ?_⟩
  obtain ⟨c10, h⟩ := h
  refine ⟨c10, ?_⟩
  have n11 := k7_nk K c10 (by decide)
  intro x13 e12
  have h := h x13 e12
  refine ⟨?_, ?_⟩
  · intro c14
    have h := h.1 c14
    exact ⟨h, K⟩
  · intro c15
    have h := h.2 c15
    refine cm_X11_wetOf (kw_X11_wetOf h) h (fun x16 x17 p19 h g18 => ?_)
    have h := h g18
    have K := k7_tr K p19.2
    have o3 := gr_ob p19.2.1 o3
    obtain ⟨b20, e21, h⟩ := h
    refine ⟨b20, e21, ?_⟩
    obtain ⟨c22, h⟩ := h
    refine ⟨c22, ?_⟩
    have n23 := k7_nk K c22 (by decide)
    obtain ⟨b24, e25, h⟩ := h
    refine ⟨b24, e25, ?_⟩
    obtain ⟨c26, h⟩ := h
    refine ⟨c26, ?_⟩
    obtain ⟨c27, h⟩ := h
    refine ⟨c27, ?_⟩
    intro x29 e28
    have h := h x29 e28
    exact ⟨h, K⟩
theorem kw_X11_meanOf {Q : Int64 → HS → Prop} {v0 : Nat} {v1 : Int32} {v2 : Int32} {v3 : Int32} {v4 : Int32} {v5 : Int32} {S : HS} (h : P_X11_meanOf v0 v1 v2 v3 v4 v5 Q S) : P_X11_meanOf v0 v1 v2 v3 v4 v5 (fun r T => Q r T ∧ K7 S T) S := kw_X11_meanOf_0 h (k7_rf S)
set_option maxRecDepth 20000 in
set_option maxHeartbeats 1000000 in
theorem kw_X11_takes_77 {Q : HS → Prop} {v0 : Nat} {v1 : Int32} {v2 : Int32} {v5 : Int32} {v6 : Int64} {S0 S : HS} (h : P_X11_takes_77 Q v0 v1 v2 v5 v6 S) (K : K7 S0 S) : P_X11_takes_77 (fun T => Q T ∧ K7 S0 T) v0 v1 v2 v5 v6 S := by
  delta P_X11_takes_77 at h ⊢
  obtain ⟨c1, h⟩ := h
  refine ⟨c1, ?_⟩
  have n2 := k7_nk K c1 (by decide)
  have o3 := c1
  obtain ⟨b4, e5, h⟩ := h
  refine ⟨b4, e5, ?_⟩
  obtain ⟨c6, h⟩ := h
  refine ⟨c6, ?_⟩
  have n7 := k7_nk K c6 (by decide)
  obtain ⟨c8, h⟩ := h
  refine ⟨c8, ?_⟩
  intro x10 e9
  have h := h x10 e9
  have K := k7_J K e9
  have o3 := ob_wJ o3 e9
  obtain ⟨b11, e12, h⟩ := h
  refine ⟨b11, e12, ?_⟩
  have n13 := k7_nr K e12 o3 (by decide)
  obtain ⟨b14, e15, h⟩ := h
  refine ⟨b14, e15, ?_⟩
  have n16 := k7_nr K e15 o3 (by decide)
  obtain ⟨c17, h⟩ := h
  refine ⟨c17, ?_⟩
  obtain ⟨c18, h⟩ := h
  refine ⟨c18, ?_⟩
  intro x20 e19
  have h := h x20 e19
  obtain ⟨c21, h⟩ := h
  refine ⟨c21, ?_⟩
  obtain ⟨c22, h⟩ := h
  refine ⟨c22, ?_⟩
  intro x24 e23
  have h := h x24 e23
  have K := k7_I K e23 n13
  have o3 := ob_wI o3 e23
  obtain ⟨b25, e26, h⟩ := h
  refine ⟨b25, e26, ?_⟩
  have n27 := k7_nr K e26 o3 (by decide)
  obtain ⟨c28, h⟩ := h
  refine ⟨c28, ?_⟩
  obtain ⟨c29, h⟩ := h
  refine ⟨c29, ?_⟩
  intro x31 e30
  have h := h x31 e30
  have K := k7_I K e30 n27
  have o3 := ob_wI o3 e30
  exact ⟨h, K⟩
set_option maxRecDepth 20000 in
set_option maxHeartbeats 1000000 in
theorem kw_X11_takes_0 {Q : HS → Prop} {v0 : Nat} {v1 : Int32} {v2 : Int32} {v3 : Int64} {v5 : Int32} {S0 S : HS} (h : P_X11_takes_0 Q v0 v1 v2 v3 v5 S) (K : K7 S0 S) : P_X11_takes_0 (fun T => Q T ∧ K7 S0 T) v0 v1 v2 v3 v5 S := by
  delta P_X11_takes_0 at h ⊢
  obtain ⟨c1, h⟩ := h
  refine ⟨c1, ?_⟩
  have n2 := k7_nk K c1 (by decide)
  have o3 := c1
  obtain ⟨b4, e5, h⟩ := h
  refine ⟨b4, e5, ?_⟩
  obtain ⟨c6, h⟩ := h
  refine ⟨c6, ?_⟩
  have n7 := k7_nk K c6 (by decide)
  obtain ⟨c8, h⟩ := h
  refine ⟨c8, ?_⟩
  intro x10 e9
  have h := h x10 e9
  refine ⟨?_, ?_⟩
  · intro c11
    have h := h.1 c11
    obtain ⟨b12, e13, h⟩ := h
    refine ⟨b12, e13, ?_⟩
    obtain ⟨c14, h⟩ := h
    refine ⟨c14, ?_⟩
    have n15 := k7_nk K c14 (by decide)
    obtain ⟨c16, h⟩ := h
    refine ⟨c16, ?_⟩
    intro x18 e17
    have h := h x18 e17
    intro x20 e19
    have h := h x20 e19
    obtain ⟨b21, e22, h⟩ := h
    refine ⟨b21, e22, ?_⟩
    obtain ⟨c23, h⟩ := h
    refine ⟨c23, ?_⟩
    have n24 := k7_nk K c23 (by decide)
    obtain ⟨c25, h⟩ := h
    refine ⟨c25, ?_⟩
    intro x27 e26
    have h := h x27 e26
    refine ⟨?_, ?_⟩
    · intro c28
      have h := h.1 c28
      exact kw_X11_takes_77 h K
    · intro c29
      have h := h.2 c29
      obtain ⟨b30, e31, h⟩ := h
      refine ⟨b30, e31, ?_⟩
      obtain ⟨c32, h⟩ := h
      refine ⟨c32, ?_⟩
      have n33 := k7_nk K c32 (by decide)
      obtain ⟨c34, h⟩ := h
      refine ⟨c34, ?_⟩
      intro x36 e35
      have h := h x36 e35
      refine ⟨?_, ?_⟩
      · intro c37
        have h := h.1 c37
        exact ⟨h, K⟩
      · intro c38
        have h := h.2 c38
        obtain ⟨b39, e40, h⟩ := h
        refine ⟨b39, e40, ?_⟩
        obtain ⟨c41, h⟩ := h
        refine ⟨c41, ?_⟩
        have n42 := k7_nk K c41 (by decide)
        obtain ⟨c43, h⟩ := h
        refine ⟨c43, ?_⟩
        intro x45 e44
        have h := h x45 e44
        refine ⟨?_, ?_⟩
        · intro c46
          have h := h.1 c46
          exact kw_X11_takes_77 h K
        · intro c47
          have h := h.2 c47
          obtain ⟨b48, e49, h⟩ := h
          refine ⟨b48, e49, ?_⟩
          have n50 := k7_nr K e49 o3 (by decide)
          obtain ⟨c51, h⟩ := h
          refine ⟨c51, ?_⟩
          obtain ⟨c52, h⟩ := h
          refine ⟨c52, ?_⟩
          intro x54 e53
          have h := h x54 e53
          obtain ⟨b55, e56, h⟩ := h
          refine ⟨b55, e56, ?_⟩
          have n57 := k7_nr K e56 o3 (by decide)
          obtain ⟨c58, h⟩ := h
          refine ⟨c58, ?_⟩
          obtain ⟨c59, h⟩ := h
          refine ⟨c59, ?_⟩
          intro x61 e60
          have h := h x61 e60
          refine ⟨?_, ?_⟩
          · intro c62
            have h := h.1 c62
            exact kw_X11_takes_77 h K
          · intro c63
            have h := h.2 c63
            exact ⟨h, K⟩
  · intro c64
    have h := h.2 c64
    exact ⟨h, K⟩
theorem kw_X11_takes {Q : HS → Prop} {v0 : Nat} {v1 : Int32} {v2 : Int32} {v3 : Int64} {v5 : Int32} {S : HS} (h : P_X11_takes v0 v1 v2 v3 v5 Q S) : P_X11_takes v0 v1 v2 v3 v5 (fun T => Q T ∧ K7 S T) S := kw_X11_takes_0 h (k7_rf S)
set_option maxRecDepth 20000 in
set_option maxHeartbeats 1000000 in
theorem kw_X11_waitsOf_0 {Q : Int64 → HS → Prop} {v0 : Nat} {v1 : Int32} {v2 : Int32} {v3 : Int32} {S0 S : HS} (h : P_X11_waitsOf_0 Q v0 v1 v2 v3 S) (K : K7 S0 S) : P_X11_waitsOf_0 (fun r T => Q r T ∧ K7 S0 T) v0 v1 v2 v3 S := by
  delta P_X11_waitsOf_0 at h ⊢
  obtain ⟨c1, h⟩ := h
  refine ⟨c1, ?_⟩
  have n2 := k7_nk K c1 (by decide)
  have o3 := c1
  refine cm_X11_hourOf (kw_X11_hourOf h) h (fun x4 x5 p7 h g6 => ?_)
  have h := h g6
  have K := k7_tr K p7.2
  have o3 := gr_ob p7.2.1 o3
  obtain ⟨b8, e9, h⟩ := h
  refine ⟨b8, e9, ?_⟩
  obtain ⟨c10, h⟩ := h
  refine ⟨c10, ?_⟩
  have n11 := k7_nk K c10 (by decide)
  obtain ⟨b12, e13, h⟩ := h
  refine ⟨b12, e13, ?_⟩
  obtain ⟨c14, h⟩ := h
  refine ⟨c14, ?_⟩
  obtain ⟨c15, h⟩ := h
  refine ⟨c15, ?_⟩
  intro x17 e16
  have h := h x17 e16
  refine ⟨?_, ?_⟩
  · intro c18
    have h := h.1 c18
    exact ⟨h, K⟩
  · intro c19
    have h := h.2 c19
    obtain ⟨b20, e21, h⟩ := h
    refine ⟨b20, e21, ?_⟩
    obtain ⟨c22, h⟩ := h
    refine ⟨c22, ?_⟩
    have n23 := k7_nk K c22 (by decide)
    intro x25 e24
    have h := h x25 e24
    refine ⟨?_, ?_⟩
    · intro c26
      have h := h.1 c26
      refine cm_X11_drips (kw_X11_drips h) h (fun x27 x28 p30 h g29 => ?_)
      have h := h g29
      have K := k7_tr K p30.2
      have o3 := gr_ob p30.2.1 o3
      obtain ⟨b31, e32, h⟩ := h
      refine ⟨b31, e32, ?_⟩
      obtain ⟨c33, h⟩ := h
      refine ⟨c33, ?_⟩
      have n34 := k7_nk K c33 (by decide)
      obtain ⟨b35, e36, h⟩ := h
      refine ⟨b35, e36, ?_⟩
      obtain ⟨c37, h⟩ := h
      refine ⟨c37, ?_⟩
      obtain ⟨c38, h⟩ := h
      refine ⟨c38, ?_⟩
      intro x40 e39
      have h := h x40 e39
      exact ⟨h, K⟩
    · intro c41
      have h := h.2 c41
      exact ⟨h, K⟩
theorem kw_X11_waitsOf {Q : Int64 → HS → Prop} {v0 : Nat} {v1 : Int32} {v2 : Int32} {v3 : Int32} {S : HS} (h : P_X11_waitsOf v0 v1 v2 v3 Q S) : P_X11_waitsOf v0 v1 v2 v3 (fun r T => Q r T ∧ K7 S T) S := kw_X11_waitsOf_0 h (k7_rf S)
set_option maxRecDepth 20000 in
set_option maxHeartbeats 1000000 in
theorem kw_X11_tries_140 {Q : HS → Prop} {X3 X3_2 : Nat → Int32 → Int32 → Int32 → Int32 → Int32 → HS → Prop} {X18 X18_2 : Nat → Int32 → Int32 → Int32 → Int32 → Int32 → Int32 → HS → Prop} {X53 X53_2 : Nat → Int32 → Int32 → Int32 → Int32 → Int32 → Int32 → Int32 → HS → Prop} {v0 : Nat} {v1 : Int32} {v2 : Int32} {v3 : Int32} {v4 : Int32} {v5 : Int32} {v6 : Int32} {v7 : Int32} {S0 S : HS} (h : P_X11_tries_140 Q X3 X18 X53 v0 v1 v2 v3 v4 v5 v6 v7 S) (K : K7 S0 S) (hX3 : ∀ (u0 : Nat) (u1 : Int32) (u2 : Int32) (u3 : Int32) (u4 : Int32) (u5 : Int32) (u6 : HS), X3 u0 u1 u2 u3 u4 u5 u6 → K7 S0 u6 → X3_2 u0 u1 u2 u3 u4 u5 u6) (hX18 : ∀ (u0 : Nat) (u1 : Int32) (u2 : Int32) (u3 : Int32) (u4 : Int32) (u5 : Int32) (u6 : Int32) (u7 : HS), X18 u0 u1 u2 u3 u4 u5 u6 u7 → K7 S0 u7 → X18_2 u0 u1 u2 u3 u4 u5 u6 u7) (hX53 : ∀ (u0 : Nat) (u1 : Int32) (u2 : Int32) (u3 : Int32) (u4 : Int32) (u5 : Int32) (u6 : Int32) (u7 : Int32) (u8 : HS), X53 u0 u1 u2 u3 u4 u5 u6 u7 u8 → K7 S0 u8 → X53_2 u0 u1 u2 u3 u4 u5 u6 u7 u8) : P_X11_tries_140 (fun T => Q T ∧ K7 S0 T) X3_2 X18_2 X53_2 v0 v1 v2 v3 v4 v5 v6 v7 S := by
  delta P_X11_tries_140 at h ⊢
  intro x2 e1
  have h := h x2 e1
  exact hX53 _ _ _ _ _ _ _ _ _ h K
set_option maxRecDepth 20000 in
set_option maxHeartbeats 1000000 in
theorem kw_X11_tries_146 {Q : HS → Prop} {X3 X3_2 : Nat → Int32 → Int32 → Int32 → Int32 → Int32 → HS → Prop} {X18 X18_2 : Nat → Int32 → Int32 → Int32 → Int32 → Int32 → Int32 → HS → Prop} {v0 : Nat} {v1 : Int32} {v2 : Int32} {v3 : Int32} {v4 : Int32} {v5 : Int32} {v6 : Int32} {S0 S : HS} (h : P_X11_tries_146 Q X3 X18 v0 v1 v2 v3 v4 v5 v6 S) (K : K7 S0 S) (hX3 : ∀ (u0 : Nat) (u1 : Int32) (u2 : Int32) (u3 : Int32) (u4 : Int32) (u5 : Int32) (u6 : HS), X3 u0 u1 u2 u3 u4 u5 u6 → K7 S0 u6 → X3_2 u0 u1 u2 u3 u4 u5 u6) (hX18 : ∀ (u0 : Nat) (u1 : Int32) (u2 : Int32) (u3 : Int32) (u4 : Int32) (u5 : Int32) (u6 : Int32) (u7 : HS), X18 u0 u1 u2 u3 u4 u5 u6 u7 → K7 S0 u7 → X18_2 u0 u1 u2 u3 u4 u5 u6 u7) : P_X11_tries_146 (fun T => Q T ∧ K7 S0 T) X3_2 X18_2 v0 v1 v2 v3 v4 v5 v6 S := by
  delta P_X11_tries_146 at h ⊢
  intro x2 e1
  have h := h x2 e1
  exact hX18 _ _ _ _ _ _ _ _ h K
set_option maxRecDepth 20000 in
set_option maxHeartbeats 1000000 in
theorem kwB_X11_tries_53 {Q : HS → Prop} {X3 X3_2 : Nat → Int32 → Int32 → Int32 → Int32 → Int32 → HS → Prop} {X18 X18_2 : Nat → Int32 → Int32 → Int32 → Int32 → Int32 → Int32 → HS → Prop} {X53 X53_2 : Nat → Int32 → Int32 → Int32 → Int32 → Int32 → Int32 → Int32 → HS → Prop} {v0 : Nat} {v1 : Int32} {v2 : Int32} {v3 : Int32} {v4 : Int32} {v5 : Int32} {v6 : Int32} {v7 : Int32} {S0 S : HS} (h : B_X11_tries_53 Q X3 X18 X53 v0 v1 v2 v3 v4 v5 v6 v7 S) (K : K7 S0 S) (hX3 : ∀ (u0 : Nat) (u1 : Int32) (u2 : Int32) (u3 : Int32) (u4 : Int32) (u5 : Int32) (u6 : HS), X3 u0 u1 u2 u3 u4 u5 u6 → K7 S0 u6 → X3_2 u0 u1 u2 u3 u4 u5 u6) (hX18 : ∀ (u0 : Nat) (u1 : Int32) (u2 : Int32) (u3 : Int32) (u4 : Int32) (u5 : Int32) (u6 : Int32) (u7 : HS), X18 u0 u1 u2 u3 u4 u5 u6 u7 → K7 S0 u7 → X18_2 u0 u1 u2 u3 u4 u5 u6 u7) (hX53 : ∀ (u0 : Nat) (u1 : Int32) (u2 : Int32) (u3 : Int32) (u4 : Int32) (u5 : Int32) (u6 : Int32) (u7 : Int32) (u8 : HS), X53 u0 u1 u2 u3 u4 u5 u6 u7 u8 → K7 S0 u8 → X53_2 u0 u1 u2 u3 u4 u5 u6 u7 u8) : B_X11_tries_53 (fun T => Q T ∧ K7 S0 T) X3_2 X18_2 X53_2 v0 v1 v2 v3 v4 v5 v6 v7 S := by
  delta B_X11_tries_53 at h ⊢
  obtain ⟨c1, h⟩ := h
  refine ⟨c1, ?_⟩
  have n2 := k7_nk K c1 (by decide)
  have o3 := c1
  obtain ⟨b4, e5, h⟩ := h
  refine ⟨b4, e5, ?_⟩
  obtain ⟨c6, h⟩ := h
  refine ⟨c6, ?_⟩
  have n7 := k7_nk K c6 (by decide)
  obtain ⟨b8, e9, h⟩ := h
  refine ⟨b8, e9, ?_⟩
  obtain ⟨c10, h⟩ := h
  refine ⟨c10, ?_⟩
  obtain ⟨c11, h⟩ := h
  refine ⟨c11, ?_⟩
  intro x13 e12
  have h := h x13 e12
  refine ⟨?_, ?_⟩
  · intro c14
    have h := h.1 c14
    exact kw_X11_tries_146 h K hX3 hX18
  · intro c15
    have h := h.2 c15
    obtain ⟨b16, e17, h⟩ := h
    refine ⟨b16, e17, ?_⟩
    obtain ⟨c18, h⟩ := h
    refine ⟨c18, ?_⟩
    have n19 := k7_nk K c18 (by decide)
    refine cm_X10_minutes (kw_X10_minutes h) h (fun x20 x21 p23 h g22 => ?_)
    have h := h g22
    have K := k7_tr K p23.2
    have o3 := gr_ob p23.2.1 o3
    intro x25 e24
    have h := h x25 e24
    refine ⟨?_, ?_⟩
    · intro c26
      have h := h.1 c26
      exact kw_X11_tries_140 h K hX3 hX18 hX53
    · intro c27
      have h := h.2 c27
      refine cm_X11_spotOf (kw_X11_spotOf h) h (fun x28 x29 p31 h g30 => ?_)
      have h := h g30
      have K := k7_tr K p31.2
      have o3 := gr_ob p31.2.1 o3
      obtain ⟨b32, e33, h⟩ := h
      refine ⟨b32, e33, ?_⟩
      obtain ⟨c34, h⟩ := h
      refine ⟨c34, ?_⟩
      have n35 := k7_nk K c34 (by decide)
      refine cm_X10_ends (kw_X10_ends h) h (fun x36 x37 p39 h g38 => ?_)
      have h := h g38
      have K := k7_tr K p39.2
      have o3 := gr_ob p39.2.1 o3
      refine cm_X11_spotOf (kw_X11_spotOf h) h (fun x40 x41 p43 h g42 => ?_)
      have h := h g42
      have K := k7_tr K p43.2
      have o3 := gr_ob p43.2.1 o3
      refine cm_X11_meanOf (kw_X11_meanOf h) h (fun x44 x45 p47 h g46 => ?_)
      have h := h g46
      have K := k7_tr K p47.2
      have o3 := gr_ob p47.2.1 o3
      refine cm_X11_takes (kw_X11_takes h) h (fun x48 p50 h g49 => ?_)
      have h := h g49
      have K := k7_tr K p50.2
      have o3 := gr_ob p50.2.1 o3
      exact kw_X11_tries_140 h K hX3 hX18 hX53
theorem kw_X11_tries_53 {Q : HS → Prop} {X3 X3_2 : Nat → Int32 → Int32 → Int32 → Int32 → Int32 → HS → Prop} {X18 X18_2 : Nat → Int32 → Int32 → Int32 → Int32 → Int32 → Int32 → HS → Prop} {v0 : Nat} {v1 : Int32} {v2 : Int32} {v3 : Int32} {v4 : Int32} {v5 : Int32} {v6 : Int32} {v7 : Int32} {S0 S : HS} (h : P_X11_tries_53 Q X3 X18 v0 v1 v2 v3 v4 v5 v6 v7 S) (K : K7 S0 S) (hX3 : ∀ (u0 : Nat) (u1 : Int32) (u2 : Int32) (u3 : Int32) (u4 : Int32) (u5 : Int32) (u6 : HS), X3 u0 u1 u2 u3 u4 u5 u6 → K7 S0 u6 → X3_2 u0 u1 u2 u3 u4 u5 u6) (hX18 : ∀ (u0 : Nat) (u1 : Int32) (u2 : Int32) (u3 : Int32) (u4 : Int32) (u5 : Int32) (u6 : Int32) (u7 : HS), X18 u0 u1 u2 u3 u4 u5 u6 u7 → K7 S0 u7 → X18_2 u0 u1 u2 u3 u4 u5 u6 u7) : P_X11_tries_53 (fun T => Q T ∧ K7 S0 T) X3_2 X18_2 v0 v1 v2 v3 v4 v5 v6 v7 S := h (fun v0 v1 v2 v3 v4 v5 v6 v7 S => K7 S0 S → P_X11_tries_53 (fun T => Q T ∧ K7 S0 T) X3_2 X18_2 v0 v1 v2 v3 v4 v5 v6 v7 S) (fun v0 v1 v2 v3 v4 v5 v6 v7 S hB K => fd_X11_tries_53 (kwB_X11_tries_53 hB K hX3 hX18 (fun _ _ _ _ _ _ _ _ _ hx K => hx K))) K
set_option maxRecDepth 20000 in
set_option maxHeartbeats 1000000 in
theorem kwB_X11_tries_18 {Q : HS → Prop} {X3 X3_2 : Nat → Int32 → Int32 → Int32 → Int32 → Int32 → HS → Prop} {X18 X18_2 : Nat → Int32 → Int32 → Int32 → Int32 → Int32 → Int32 → HS → Prop} {v0 : Nat} {v1 : Int32} {v2 : Int32} {v3 : Int32} {v4 : Int32} {v5 : Int32} {v6 : Int32} {S0 S : HS} (h : B_X11_tries_18 Q X3 X18 v0 v1 v2 v3 v4 v5 v6 S) (K : K7 S0 S) (hX3 : ∀ (u0 : Nat) (u1 : Int32) (u2 : Int32) (u3 : Int32) (u4 : Int32) (u5 : Int32) (u6 : HS), X3 u0 u1 u2 u3 u4 u5 u6 → K7 S0 u6 → X3_2 u0 u1 u2 u3 u4 u5 u6) (hX18 : ∀ (u0 : Nat) (u1 : Int32) (u2 : Int32) (u3 : Int32) (u4 : Int32) (u5 : Int32) (u6 : Int32) (u7 : HS), X18 u0 u1 u2 u3 u4 u5 u6 u7 → K7 S0 u7 → X18_2 u0 u1 u2 u3 u4 u5 u6 u7) : B_X11_tries_18 (fun T => Q T ∧ K7 S0 T) X3_2 X18_2 v0 v1 v2 v3 v4 v5 v6 S := by
  delta B_X11_tries_18 at h ⊢
  refine ⟨?_, ?_⟩
  · intro c1
    have h := h.1 c1
    intro x3 e2
    have h := h x3 e2
    exact hX3 _ _ _ _ _ _ _ h K
  · intro c4
    have h := h.2 c4
    obtain ⟨c5, h⟩ := h
    refine ⟨c5, ?_⟩
    have n6 := k7_nk K c5 (by decide)
    have o7 := c5
    obtain ⟨b8, e9, h⟩ := h
    refine ⟨b8, e9, ?_⟩
    obtain ⟨c10, h⟩ := h
    refine ⟨c10, ?_⟩
    have n11 := k7_nk K c10 (by decide)
    refine cm_X10_begins (kw_X10_begins h) h (fun x12 x13 p15 h g14 => ?_)
    have h := h g14
    have K := k7_tr K p15.2
    have o7 := gr_ob p15.2.1 o7
    refine ⟨?_, ?_⟩
    · intro c16
      have h := h.1 c16
      obtain ⟨b17, e18, h⟩ := h
      refine ⟨b17, e18, ?_⟩
      obtain ⟨c19, h⟩ := h
      refine ⟨c19, ?_⟩
      have n20 := k7_nk K c19 (by decide)
      obtain ⟨b21, e22, h⟩ := h
      refine ⟨b21, e22, ?_⟩
      obtain ⟨c23, h⟩ := h
      refine ⟨c23, ?_⟩
      obtain ⟨c24, h⟩ := h
      refine ⟨c24, ?_⟩
      intro x26 e25
      have h := h x26 e25
      exact kw_X11_tries_53 h K hX3 hX18
    · intro c27
      have h := h.2 c27
      exact kw_X11_tries_146 h K hX3 hX18
theorem kw_X11_tries_18 {Q : HS → Prop} {X3 X3_2 : Nat → Int32 → Int32 → Int32 → Int32 → Int32 → HS → Prop} {v0 : Nat} {v1 : Int32} {v2 : Int32} {v3 : Int32} {v4 : Int32} {v5 : Int32} {v6 : Int32} {S0 S : HS} (h : P_X11_tries_18 Q X3 v0 v1 v2 v3 v4 v5 v6 S) (K : K7 S0 S) (hX3 : ∀ (u0 : Nat) (u1 : Int32) (u2 : Int32) (u3 : Int32) (u4 : Int32) (u5 : Int32) (u6 : HS), X3 u0 u1 u2 u3 u4 u5 u6 → K7 S0 u6 → X3_2 u0 u1 u2 u3 u4 u5 u6) : P_X11_tries_18 (fun T => Q T ∧ K7 S0 T) X3_2 v0 v1 v2 v3 v4 v5 v6 S := h (fun v0 v1 v2 v3 v4 v5 v6 S => K7 S0 S → P_X11_tries_18 (fun T => Q T ∧ K7 S0 T) X3_2 v0 v1 v2 v3 v4 v5 v6 S) (fun v0 v1 v2 v3 v4 v5 v6 S hB K => fd_X11_tries_18 (kwB_X11_tries_18 hB K hX3 (fun _ _ _ _ _ _ _ _ hx K => hx K))) K
set_option maxRecDepth 20000 in
set_option maxHeartbeats 1000000 in
theorem kwB_X11_tries_3 {Q : HS → Prop} {X3 X3_2 : Nat → Int32 → Int32 → Int32 → Int32 → Int32 → HS → Prop} {v0 : Nat} {v1 : Int32} {v2 : Int32} {v3 : Int32} {v4 : Int32} {v5 : Int32} {S0 S : HS} (h : B_X11_tries_3 Q X3 v0 v1 v2 v3 v4 v5 S) (K : K7 S0 S) (hX3 : ∀ (u0 : Nat) (u1 : Int32) (u2 : Int32) (u3 : Int32) (u4 : Int32) (u5 : Int32) (u6 : HS), X3 u0 u1 u2 u3 u4 u5 u6 → K7 S0 u6 → X3_2 u0 u1 u2 u3 u4 u5 u6) : B_X11_tries_3 (fun T => Q T ∧ K7 S0 T) X3_2 v0 v1 v2 v3 v4 v5 S := by
  delta B_X11_tries_3 at h ⊢
  obtain ⟨c1, h⟩ := h
  refine ⟨c1, ?_⟩
  have n2 := k7_nk K c1 (by decide)
  have o3 := c1
  obtain ⟨b4, e5, h⟩ := h
  refine ⟨b4, e5, ?_⟩
  obtain ⟨c6, h⟩ := h
  refine ⟨c6, ?_⟩
  have n7 := k7_nk K c6 (by decide)
  intro x9 e8
  have h := h x9 e8
  refine ⟨?_, ?_⟩
  · intro c10
    have h := h.1 c10
    refine cm_X11_canWait (kw_X11_canWait h) h (fun x11 x12 p15 h g13 g14 => ?_)
    have h := h g13 g14
    have K := k7_tr K p15.2
    have o3 := gr_ob p15.2.1 o3
    refine ⟨?_, ?_⟩
    · intro c16
      have h := h.1 c16
      exact ⟨h, K⟩
    · intro c17
      have h := h.2 c17
      refine ⟨?_, ?_⟩
      · intro c18
        have h := h.1 c18
        exact ⟨h, K⟩
      · intro c19
        have h := h.2 c19
        refine cm_X11_spotOf (kw_X11_spotOf h) h (fun x20 x21 p23 h g22 => ?_)
        have h := h g22
        have K := k7_tr K p23.2
        have o3 := gr_ob p23.2.1 o3
        refine cm_X11_spotOf (kw_X11_spotOf h) h (fun x24 x25 p27 h g26 => ?_)
        have h := h g26
        have K := k7_tr K p27.2
        have o3 := gr_ob p27.2.1 o3
        refine cm_X11_waitsOf (kw_X11_waitsOf h) h (fun x28 x29 p31 h g30 => ?_)
        have h := h g30
        have K := k7_tr K p31.2
        have o3 := gr_ob p31.2.1 o3
        refine cm_X11_takes (kw_X11_takes h) h (fun x32 p34 h g33 => ?_)
        have h := h g33
        have K := k7_tr K p34.2
        have o3 := gr_ob p34.2.1 o3
        exact ⟨h, K⟩
  · intro c35
    have h := h.2 c35
    exact kw_X11_tries_18 h K hX3
theorem kw_X11_tries_3 {Q : HS → Prop} {v0 : Nat} {v1 : Int32} {v2 : Int32} {v3 : Int32} {v4 : Int32} {v5 : Int32} {S0 S : HS} (h : P_X11_tries_3 Q v0 v1 v2 v3 v4 v5 S) (K : K7 S0 S) : P_X11_tries_3 (fun T => Q T ∧ K7 S0 T) v0 v1 v2 v3 v4 v5 S := h (fun v0 v1 v2 v3 v4 v5 S => K7 S0 S → P_X11_tries_3 (fun T => Q T ∧ K7 S0 T) v0 v1 v2 v3 v4 v5 S) (fun v0 v1 v2 v3 v4 v5 S hB K => fd_X11_tries_3 (kwB_X11_tries_3 hB K (fun _ _ _ _ _ _ _ hx K => hx K))) K
set_option maxRecDepth 20000 in
set_option maxHeartbeats 1000000 in
theorem kw_X11_tries_0 {Q : HS → Prop} {v0 : Nat} {v1 : Int32} {v2 : Int32} {v3 : Int32} {v4 : Int32} {S0 S : HS} (h : P_X11_tries_0 Q v0 v1 v2 v3 v4 S) (K : K7 S0 S) : P_X11_tries_0 (fun T => Q T ∧ K7 S0 T) v0 v1 v2 v3 v4 S := by
  delta P_X11_tries_0 at h ⊢
  exact kw_X11_tries_3 h K
theorem kw_X11_tries {Q : HS → Prop} {v0 : Nat} {v1 : Int32} {v2 : Int32} {v3 : Int32} {v4 : Int32} {S : HS} (h : P_X11_tries v0 v1 v2 v3 v4 Q S) : P_X11_tries v0 v1 v2 v3 v4 (fun T => Q T ∧ K7 S T) S := kw_X11_tries_0 h (k7_rf S)
set_option maxRecDepth 20000 in
set_option maxHeartbeats 1000000 in
theorem kw_X11_laysWays_85 {Q : HS → Prop} {X3 X3_2 : Nat → Int32 → Int32 → Int32 → Int32 → HS → Prop} {X11 X11_2 : Nat → Int32 → Int32 → Int32 → Int32 → Int32 → HS → Prop} {v0 : Nat} {v1 : Int32} {v2 : Int32} {v3 : Int32} {v4 : Int32} {v5 : Int32} {S0 S : HS} (h : P_X11_laysWays_85 Q X3 X11 v0 v1 v2 v3 v4 v5 S) (K : K7 S0 S) (hX3 : ∀ (u0 : Nat) (u1 : Int32) (u2 : Int32) (u3 : Int32) (u4 : Int32) (u5 : HS), X3 u0 u1 u2 u3 u4 u5 → K7 S0 u5 → X3_2 u0 u1 u2 u3 u4 u5) (hX11 : ∀ (u0 : Nat) (u1 : Int32) (u2 : Int32) (u3 : Int32) (u4 : Int32) (u5 : Int32) (u6 : HS), X11 u0 u1 u2 u3 u4 u5 u6 → K7 S0 u6 → X11_2 u0 u1 u2 u3 u4 u5 u6) : P_X11_laysWays_85 (fun T => Q T ∧ K7 S0 T) X3_2 X11_2 v0 v1 v2 v3 v4 v5 S := by
  delta P_X11_laysWays_85 at h ⊢
  intro x2 e1
  have h := h x2 e1
  exact hX11 _ _ _ _ _ _ _ h K
set_option maxRecDepth 20000 in
set_option maxHeartbeats 1000000 in
theorem kw_X11_laysWays_51 {Q : HS → Prop} {X3 X3_2 : Nat → Int32 → Int32 → Int32 → Int32 → HS → Prop} {X11 X11_2 : Nat → Int32 → Int32 → Int32 → Int32 → Int32 → HS → Prop} {v0 : Nat} {v1 : Int32} {v2 : Int32} {v3 : Int32} {v4 : Int32} {v5 : Int32} {v6 : Int32} {s0 : Nat} {s1 : Int32} {s2 : Int64} {S0 S : HS} (h : P_X11_laysWays_51 Q X3 X11 v0 v1 v2 v3 v4 v5 v6 s0 s1 s2 S) (K : K7 S0 S) (hX3 : ∀ (u0 : Nat) (u1 : Int32) (u2 : Int32) (u3 : Int32) (u4 : Int32) (u5 : HS), X3 u0 u1 u2 u3 u4 u5 → K7 S0 u5 → X3_2 u0 u1 u2 u3 u4 u5) (hX11 : ∀ (u0 : Nat) (u1 : Int32) (u2 : Int32) (u3 : Int32) (u4 : Int32) (u5 : Int32) (u6 : HS), X11 u0 u1 u2 u3 u4 u5 u6 → K7 S0 u6 → X11_2 u0 u1 u2 u3 u4 u5 u6) : P_X11_laysWays_51 (fun T => Q T ∧ K7 S0 T) X3_2 X11_2 v0 v1 v2 v3 v4 v5 v6 s0 s1 s2 S := by
  delta P_X11_laysWays_51 at h ⊢
  obtain ⟨c1, h⟩ := h
  refine ⟨c1, ?_⟩
  have n2 := k7_nk K c1 (by decide)
  obtain ⟨c3, h⟩ := h
  refine ⟨c3, ?_⟩
  intro x5 e4
  have h := h x5 e4
  have K := k7_J K e4
  obtain ⟨c6, h⟩ := h
  refine ⟨c6, ?_⟩
  have n7 := k7_nk K c6 (by decide)
  have o8 := c6
  obtain ⟨b9, e10, h⟩ := h
  refine ⟨b9, e10, ?_⟩
  have n11 := k7_nr K e10 o8 (by decide)
  obtain ⟨c12, h⟩ := h
  refine ⟨c12, ?_⟩
  obtain ⟨c13, h⟩ := h
  refine ⟨c13, ?_⟩
  intro x15 e14
  have h := h x15 e14
  have K := k7_I K e14 n11
  have o8 := ob_wI o8 e14
  obtain ⟨b16, e17, h⟩ := h
  refine ⟨b16, e17, ?_⟩
  have n18 := k7_nr K e17 o8 (by decide)
  obtain ⟨c19, h⟩ := h
  refine ⟨c19, ?_⟩
  obtain ⟨c20, h⟩ := h
  refine ⟨c20, ?_⟩
  intro x22 e21
  have h := h x22 e21
  have K := k7_I K e21 n18
  have o8 := ob_wI o8 e21
  refine ⟨?_, ?_⟩
  · intro c23
    have h := h.1 c23
    exact kw_X11_laysWays_85 h K hX3 hX11
  · intro c24
    have h := h.2 c24
    refine cm_X11_tries (kw_X11_tries h) h (fun x25 p27 h g26 => ?_)
    have h := h g26
    have K := k7_tr K p27.2
    have o8 := gr_ob p27.2.1 o8
    exact kw_X11_laysWays_85 h K hX3 hX11
set_option maxRecDepth 20000 in
set_option maxHeartbeats 1000000 in
theorem kwB_X11_laysWays_11 {Q : HS → Prop} {X3 X3_2 : Nat → Int32 → Int32 → Int32 → Int32 → HS → Prop} {X11 X11_2 : Nat → Int32 → Int32 → Int32 → Int32 → Int32 → HS → Prop} {v0 : Nat} {v1 : Int32} {v2 : Int32} {v3 : Int32} {v4 : Int32} {v5 : Int32} {S0 S : HS} (h : B_X11_laysWays_11 Q X3 X11 v0 v1 v2 v3 v4 v5 S) (K : K7 S0 S) (hX3 : ∀ (u0 : Nat) (u1 : Int32) (u2 : Int32) (u3 : Int32) (u4 : Int32) (u5 : HS), X3 u0 u1 u2 u3 u4 u5 → K7 S0 u5 → X3_2 u0 u1 u2 u3 u4 u5) (hX11 : ∀ (u0 : Nat) (u1 : Int32) (u2 : Int32) (u3 : Int32) (u4 : Int32) (u5 : Int32) (u6 : HS), X11 u0 u1 u2 u3 u4 u5 u6 → K7 S0 u6 → X11_2 u0 u1 u2 u3 u4 u5 u6) : B_X11_laysWays_11 (fun T => Q T ∧ K7 S0 T) X3_2 X11_2 v0 v1 v2 v3 v4 v5 S := by
  delta B_X11_laysWays_11 at h ⊢
  obtain ⟨c1, h⟩ := h
  refine ⟨c1, ?_⟩
  have n2 := k7_nk K c1 (by decide)
  have o3 := c1
  obtain ⟨b4, e5, h⟩ := h
  refine ⟨b4, e5, ?_⟩
  obtain ⟨c6, h⟩ := h
  refine ⟨c6, ?_⟩
  have n7 := k7_nk K c6 (by decide)
  intro x9 e8
  have h := h x9 e8
  refine ⟨?_, ?_⟩
  · intro c10
    have h := h.1 c10
    intro x12 e11
    have h := h x12 e11
    exact hX3 _ _ _ _ _ _ h K
  · intro c13
    have h := h.2 c13
    refine cm_X11_spotOf (kw_X11_spotOf h) h (fun x14 x15 p17 h g16 => ?_)
    have h := h g16
    have K := k7_tr K p17.2
    have o3 := gr_ob p17.2.1 o3
    obtain ⟨b18, e19, h⟩ := h
    refine ⟨b18, e19, ?_⟩
    refine ⟨?_, ?_⟩
    · intro c20
      have h := h.1 c20
      exact kw_X11_laysWays_51 h K hX3 hX11
    · intro c21
      have h := h.2 c21
      exact kw_X11_laysWays_51 h K hX3 hX11
theorem kw_X11_laysWays_11 {Q : HS → Prop} {X3 X3_2 : Nat → Int32 → Int32 → Int32 → Int32 → HS → Prop} {v0 : Nat} {v1 : Int32} {v2 : Int32} {v3 : Int32} {v4 : Int32} {v5 : Int32} {S0 S : HS} (h : P_X11_laysWays_11 Q X3 v0 v1 v2 v3 v4 v5 S) (K : K7 S0 S) (hX3 : ∀ (u0 : Nat) (u1 : Int32) (u2 : Int32) (u3 : Int32) (u4 : Int32) (u5 : HS), X3 u0 u1 u2 u3 u4 u5 → K7 S0 u5 → X3_2 u0 u1 u2 u3 u4 u5) : P_X11_laysWays_11 (fun T => Q T ∧ K7 S0 T) X3_2 v0 v1 v2 v3 v4 v5 S := h (fun v0 v1 v2 v3 v4 v5 S => K7 S0 S → P_X11_laysWays_11 (fun T => Q T ∧ K7 S0 T) X3_2 v0 v1 v2 v3 v4 v5 S) (fun v0 v1 v2 v3 v4 v5 S hB K => fd_X11_laysWays_11 (kwB_X11_laysWays_11 hB K hX3 (fun _ _ _ _ _ _ _ hx K => hx K))) K
set_option maxRecDepth 20000 in
set_option maxHeartbeats 1000000 in
theorem kwB_X11_laysWays_3 {Q : HS → Prop} {X3 X3_2 : Nat → Int32 → Int32 → Int32 → Int32 → HS → Prop} {v0 : Nat} {v1 : Int32} {v2 : Int32} {v3 : Int32} {v4 : Int32} {S0 S : HS} (h : B_X11_laysWays_3 Q X3 v0 v1 v2 v3 v4 S) (K : K7 S0 S) (hX3 : ∀ (u0 : Nat) (u1 : Int32) (u2 : Int32) (u3 : Int32) (u4 : Int32) (u5 : HS), X3 u0 u1 u2 u3 u4 u5 → K7 S0 u5 → X3_2 u0 u1 u2 u3 u4 u5) : B_X11_laysWays_3 (fun T => Q T ∧ K7 S0 T) X3_2 v0 v1 v2 v3 v4 S := by
  delta B_X11_laysWays_3 at h ⊢
  refine ⟨?_, ?_⟩
  · intro c1
    have h := h.1 c1
    exact ⟨h, K⟩
  · intro c2
    have h := h.2 c2
    exact kw_X11_laysWays_11 h K hX3
theorem kw_X11_laysWays_3 {Q : HS → Prop} {v0 : Nat} {v1 : Int32} {v2 : Int32} {v3 : Int32} {v4 : Int32} {S0 S : HS} (h : P_X11_laysWays_3 Q v0 v1 v2 v3 v4 S) (K : K7 S0 S) : P_X11_laysWays_3 (fun T => Q T ∧ K7 S0 T) v0 v1 v2 v3 v4 S := h (fun v0 v1 v2 v3 v4 S => K7 S0 S → P_X11_laysWays_3 (fun T => Q T ∧ K7 S0 T) v0 v1 v2 v3 v4 S) (fun v0 v1 v2 v3 v4 S hB K => fd_X11_laysWays_3 (kwB_X11_laysWays_3 hB K (fun _ _ _ _ _ _ hx K => hx K))) K
set_option maxRecDepth 20000 in
set_option maxHeartbeats 1000000 in
theorem kw_X11_laysWays_0 {Q : HS → Prop} {v0 : Nat} {v1 : Int32} {v2 : Int32} {v3 : Int32} {S0 S : HS} (h : P_X11_laysWays_0 Q v0 v1 v2 v3 S) (K : K7 S0 S) : P_X11_laysWays_0 (fun T => Q T ∧ K7 S0 T) v0 v1 v2 v3 S := by
  delta P_X11_laysWays_0 at h ⊢
  exact kw_X11_laysWays_3 h K
theorem kw_X11_laysWays {Q : HS → Prop} {v0 : Nat} {v1 : Int32} {v2 : Int32} {v3 : Int32} {S : HS} (h : P_X11_laysWays v0 v1 v2 v3 Q S) : P_X11_laysWays v0 v1 v2 v3 (fun T => Q T ∧ K7 S T) S := kw_X11_laysWays_0 h (k7_rf S)
set_option maxRecDepth 20000 in
set_option maxHeartbeats 1000000 in
theorem kw_X11_refusesWay_0 {Q : Int32 → HS → Prop} {v0 : Nat} {v1 : Int32} {v2 : Int32} {v3 : Int32} {v4 : Int32} {v5 : Int32} {S0 S : HS} (h : P_X11_refusesWay_0 Q v0 v1 v2 v3 v4 v5 S) (K : K7 S0 S) : P_X11_refusesWay_0 (fun r T => Q r T ∧ K7 S0 T) v0 v1 v2 v3 v4 v5 S := by
  delta P_X11_refusesWay_0 at h ⊢
  obtain ⟨c1, h⟩ := h
  refine ⟨c1, ?_⟩
  have n2 := k7_nk K c1 (by decide)
  have o3 := c1
  refine cm_X11_isWalker (kw_X11_isWalker h) h (fun x4 x5 p8 h g6 g7 => ?_)
  have h := h g6 g7
  have K := k7_tr K p8.2
  have o3 := gr_ob p8.2.1 o3
  refine ⟨?_, ?_⟩
  · intro c9
    have h := h.1 c9
    exact ⟨h, K⟩
  · intro c10
    have h := h.2 c10
    refine cm_X11_isPlace (kw_X11_isPlace h) h (fun x11 x12 p15 h g13 g14 => ?_)
    have h := h g13 g14
    have K := k7_tr K p15.2
    have o3 := gr_ob p15.2.1 o3
    refine ⟨?_, ?_⟩
    · intro c16
      have h := h.1 c16
      exact ⟨h, K⟩
    · intro c17
      have h := h.2 c17
      refine cm_X11_isPlace (kw_X11_isPlace h) h (fun x18 x19 p22 h g20 g21 => ?_)
      have h := h g20 g21
      have K := k7_tr K p22.2
      have o3 := gr_ob p22.2.1 o3
      refine ⟨?_, ?_⟩
      · intro c23
        have h := h.1 c23
        refine cm_X11_in (kw_X11_in h) h (fun x24 x25 p28 h g26 g27 => ?_)
        have h := h g26 g27
        have K := k7_tr K p28.2
        have o3 := gr_ob p28.2.1 o3
        refine ⟨?_, ?_⟩
        · intro c29
          have h := h.1 c29
          exact ⟨h, K⟩
        · intro c30
          have h := h.2 c30
          refine cm_X11_in (kw_X11_in h) h (fun x31 x32 p35 h g33 g34 => ?_)
          have h := h g33 g34
          have K := k7_tr K p35.2
          have o3 := gr_ob p35.2.1 o3
          refine ⟨?_, ?_⟩
          · intro c36
            have h := h.1 c36
            refine cm_X11_laysWays (kw_X11_laysWays h) h (fun x37 p39 h g38 => ?_)
            have h := h g38
            have K := k7_tr K p39.2
            have o3 := gr_ob p39.2.1 o3
            obtain ⟨b40, e41, h⟩ := h
            refine ⟨b40, e41, ?_⟩
            refine cm_X11_spotOf (kw_X11_spotOf h) h (fun x42 x43 p45 h g44 => ?_)
            have h := h g44
            have K := k7_tr K p45.2
            have o3 := gr_ob p45.2.1 o3
            obtain ⟨c46, h⟩ := h
            refine ⟨c46, ?_⟩
            have n47 := k7_nk K c46 (by decide)
            obtain ⟨c48, h⟩ := h
            refine ⟨c48, ?_⟩
            intro x50 e49
            have h := h x50 e49
            refine ⟨?_, ?_⟩
            · intro c51
              have h := h.1 c51
              exact ⟨h, K⟩
            · intro c52
              have h := h.2 c52
              exact ⟨h, K⟩
          · intro c53
            have h := h.2 c53
            exact ⟨h, K⟩
      · intro c54
        have h := h.2 c54
        exact ⟨h, K⟩
theorem kw_X11_refusesWay {Q : Int32 → HS → Prop} {v0 : Nat} {v1 : Int32} {v2 : Int32} {v3 : Int32} {v4 : Int32} {v5 : Int32} {S : HS} (h : P_X11_refusesWay v0 v1 v2 v3 v4 v5 Q S) : P_X11_refusesWay v0 v1 v2 v3 v4 v5 (fun r T => Q r T ∧ K7 S T) S := kw_X11_refusesWay_0 h (k7_rf S)
set_option maxRecDepth 20000 in
set_option maxHeartbeats 1000000 in
theorem kw_X11_least_0 {Q : Int64 → HS → Prop} {v0 : Nat} {v1 : Int32} {v2 : Int32} {v3 : Int32} {v4 : Int32} {v5 : Int32} {v6 : Int32} {S0 S : HS} (h : P_X11_least_0 Q v0 v1 v2 v3 v4 v5 v6 S) (K : K7 S0 S) : P_X11_least_0 (fun r T => Q r T ∧ K7 S0 T) v0 v1 v2 v3 v4 v5 v6 S := by
  delta P_X11_least_0 at h ⊢
  obtain ⟨c1, h⟩ := h
  refine ⟨c1, ?_⟩
  have n2 := k7_nk K c1 (by decide)
  have o3 := c1
  intro x5 e4
  have h := h x5 e4
  have K := k7_I K e4 n2
  have o3 := ob_wI o3 e4
  refine cm_X11_refusesWay (kw_X11_refusesWay h) h (fun x6 x7 p9 h g8 => ?_)
  have h := h g8
  have K := k7_tr K p9.2
  have o3 := gr_ob p9.2.1 o3
  refine ⟨?_, ?_⟩
  · intro c10
    have h := h.1 c10
    obtain ⟨b11, e12, h⟩ := h
    refine ⟨b11, e12, ?_⟩
    refine cm_X11_spotOf (kw_X11_spotOf h) h (fun x13 x14 p16 h g15 => ?_)
    have h := h g15
    have K := k7_tr K p16.2
    have o3 := gr_ob p16.2.1 o3
    obtain ⟨c17, h⟩ := h
    refine ⟨c17, ?_⟩
    have n18 := k7_nk K c17 (by decide)
    obtain ⟨c19, h⟩ := h
    refine ⟨c19, ?_⟩
    intro x21 e20
    have h := h x21 e20
    refine cm_X11_told (kw_X11_told h) h (fun x22 x23 p25 h g24 => ?_)
    have h := h g24
    have K := k7_tr K p25.2
    have o3 := gr_ob p25.2.1 o3
    exact ⟨h, K⟩
  · intro c26
    have h := h.2 c26
    refine cm_X11_refused (kw_X11_refused h) h (fun x27 x28 p30 h g29 => ?_)
    have h := h g29
    have K := k7_tr K p30.2
    have o3 := gr_ob p30.2.1 o3
    exact ⟨h, K⟩
theorem kw_X11_least {Q : Int64 → HS → Prop} {v0 : Nat} {v1 : Int32} {v2 : Int32} {v3 : Int32} {v4 : Int32} {v5 : Int32} {v6 : Int32} {S : HS} (h : P_X11_least v0 v1 v2 v3 v4 v5 v6 Q S) : P_X11_least v0 v1 v2 v3 v4 v5 v6 (fun r T => Q r T ∧ K7 S T) S := kw_X11_least_0 h (k7_rf S)
set_option maxRecDepth 20000 in
set_option maxHeartbeats 1000000 in
theorem kw_X11_led_80 {Q : Int32 → HS → Prop} {X9 X9_2 : Nat → Int32 → Int32 → Int32 → HS → Prop} {v0 : Nat} {v1 : Int32} {v2 : Int32} {v3 : Int32} {S0 S : HS} (h : P_X11_led_80 Q X9 v0 v1 v2 v3 S) (K : K7 S0 S) (hX9 : ∀ (u0 : Nat) (u1 : Int32) (u2 : Int32) (u3 : Int32) (u4 : HS), X9 u0 u1 u2 u3 u4 → K7 S0 u4 → X9_2 u0 u1 u2 u3 u4) : P_X11_led_80 (fun r T => Q r T ∧ K7 S0 T) X9_2 v0 v1 v2 v3 S := by
  delta P_X11_led_80 at h ⊢
  intro x2 e1
  have h := h x2 e1
  exact hX9 _ _ _ _ _ h K
set_option maxRecDepth 20000 in
set_option maxHeartbeats 1000000 in
theorem kw_X11_led_70 {Q : Int32 → HS → Prop} {X9 X9_2 : Nat → Int32 → Int32 → Int32 → HS → Prop} {v0 : Nat} {v1 : Int32} {v2 : Int32} {v3 : Int32} {S0 S : HS} (h : P_X11_led_70 Q X9 v0 v1 v2 v3 S) (K : K7 S0 S) (hX9 : ∀ (u0 : Nat) (u1 : Int32) (u2 : Int32) (u3 : Int32) (u4 : HS), X9 u0 u1 u2 u3 u4 → K7 S0 u4 → X9_2 u0 u1 u2 u3 u4) : P_X11_led_70 (fun r T => Q r T ∧ K7 S0 T) X9_2 v0 v1 v2 v3 S := by
  delta P_X11_led_70 at h ⊢
  refine ⟨?_, ?_⟩
  · intro c1
    have h := h.1 c1
    intro x3 e2
    have h := h x3 e2
    exact kw_X11_led_80 h K hX9
  · intro c4
    have h := h.2 c4
    exact ⟨h, K⟩
set_option maxRecDepth 20000 in
set_option maxHeartbeats 1000000 in
theorem kwB_X11_led_9 {Q : Int32 → HS → Prop} {X9 X9_2 : Nat → Int32 → Int32 → Int32 → HS → Prop} {v0 : Nat} {v1 : Int32} {v2 : Int32} {v3 : Int32} {S0 S : HS} (h : B_X11_led_9 Q X9 v0 v1 v2 v3 S) (K : K7 S0 S) (hX9 : ∀ (u0 : Nat) (u1 : Int32) (u2 : Int32) (u3 : Int32) (u4 : HS), X9 u0 u1 u2 u3 u4 → K7 S0 u4 → X9_2 u0 u1 u2 u3 u4) : B_X11_led_9 (fun r T => Q r T ∧ K7 S0 T) X9_2 v0 v1 v2 v3 S := by
  delta B_X11_led_9 at h ⊢
  obtain ⟨c1, h⟩ := h
  refine ⟨c1, ?_⟩
  have n2 := k7_nk K c1 (by decide)
  have o3 := c1
  refine cm_X11_isDay (kw_X11_isDay h) h (fun x4 x5 p8 h g6 g7 => ?_)
  have h := h g6 g7
  have K := k7_tr K p8.2
  have o3 := gr_ob p8.2.1 o3
  refine ⟨?_, ?_⟩
  · intro c9
    have h := h.1 c9
    intro x11 e10
    have h := h x11 e10
    have K := k7_I K e10 n2
    have o3 := ob_wI o3 e10
    exact ⟨h, K⟩
  · intro c12
    have h := h.2 c12
    obtain ⟨b13, e14, h⟩ := h
    refine ⟨b13, e14, ?_⟩
    obtain ⟨c15, h⟩ := h
    refine ⟨c15, ?_⟩
    have n16 := k7_nk K c15 (by decide)
    intro x18 e17
    have h := h x18 e17
    refine ⟨?_, ?_⟩
    · intro c19
      have h := h.1 c19
      intro x21 e20
      have h := h x21 e20
      have K := k7_I K e20 n2
      have o3 := ob_wI o3 e20
      exact ⟨h, K⟩
    · intro c22
      have h := h.2 c22
      obtain ⟨b23, e24, h⟩ := h
      refine ⟨b23, e24, ?_⟩
      obtain ⟨c25, h⟩ := h
      refine ⟨c25, ?_⟩
      have n26 := k7_nk K c25 (by decide)
      obtain ⟨b27, e28, h⟩ := h
      refine ⟨b27, e28, ?_⟩
      obtain ⟨c29, h⟩ := h
      refine ⟨c29, ?_⟩
      obtain ⟨c30, h⟩ := h
      refine ⟨c30, ?_⟩
      intro x32 e31
      have h := h x32 e31
      obtain ⟨b33, e34, h⟩ := h
      refine ⟨b33, e34, ?_⟩
      obtain ⟨c35, h⟩ := h
      refine ⟨c35, ?_⟩
      have n36 := k7_nk K c35 (by decide)
      obtain ⟨c37, h⟩ := h
      refine ⟨c37, ?_⟩
      intro x39 e38
      have h := h x39 e38
      refine ⟨?_, ?_⟩
      · intro c40
        have h := h.1 c40
        exact kw_X11_led_70 h K hX9
      · intro c41
        have h := h.2 c41
        obtain ⟨b42, e43, h⟩ := h
        refine ⟨b42, e43, ?_⟩
        obtain ⟨c44, h⟩ := h
        refine ⟨c44, ?_⟩
        have n45 := k7_nk K c44 (by decide)
        obtain ⟨b46, e47, h⟩ := h
        refine ⟨b46, e47, ?_⟩
        obtain ⟨c48, h⟩ := h
        refine ⟨c48, ?_⟩
        obtain ⟨c49, h⟩ := h
        refine ⟨c49, ?_⟩
        intro x51 e50
        have h := h x51 e50
        obtain ⟨b52, e53, h⟩ := h
        refine ⟨b52, e53, ?_⟩
        obtain ⟨c54, h⟩ := h
        refine ⟨c54, ?_⟩
        have n55 := k7_nk K c54 (by decide)
        obtain ⟨c56, h⟩ := h
        refine ⟨c56, ?_⟩
        intro x58 e57
        have h := h x58 e57
        refine ⟨?_, ?_⟩
        · intro c59
          have h := h.1 c59
          exact kw_X11_led_70 h K hX9
        · intro c60
          have h := h.2 c60
          exact kw_X11_led_80 h K hX9
theorem kw_X11_led_9 {Q : Int32 → HS → Prop} {v0 : Nat} {v1 : Int32} {v2 : Int32} {v3 : Int32} {S0 S : HS} (h : P_X11_led_9 Q v0 v1 v2 v3 S) (K : K7 S0 S) : P_X11_led_9 (fun r T => Q r T ∧ K7 S0 T) v0 v1 v2 v3 S := h (fun v0 v1 v2 v3 S => K7 S0 S → P_X11_led_9 (fun r T => Q r T ∧ K7 S0 T) v0 v1 v2 v3 S) (fun v0 v1 v2 v3 S hB K => fd_X11_led_9 (kwB_X11_led_9 hB K (fun _ _ _ _ _ hx K => hx K))) K
set_option maxRecDepth 20000 in
set_option maxHeartbeats 1000000 in
theorem kw_X11_led_0 {Q : Int32 → HS → Prop} {v0 : Nat} {v1 : Int32} {S0 S : HS} (h : P_X11_led_0 Q v0 v1 S) (K : K7 S0 S) : P_X11_led_0 (fun r T => Q r T ∧ K7 S0 T) v0 v1 S := by
  delta P_X11_led_0 at h ⊢
  obtain ⟨c1, h⟩ := h
  refine ⟨c1, ?_⟩
  have n2 := k7_nk K c1 (by decide)
  have o3 := c1
  intro x5 e4
  have h := h x5 e4
  have K := k7_I K e4 n2
  have o3 := ob_wI o3 e4
  exact kw_X11_led_9 h K
theorem kw_X11_led {Q : Int32 → HS → Prop} {v0 : Nat} {v1 : Int32} {S : HS} (h : P_X11_led v0 v1 Q S) : P_X11_led v0 v1 (fun r T => Q r T ∧ K7 S T) S := kw_X11_led_0 h (k7_rf S)
set_option maxRecDepth 20000 in
set_option maxHeartbeats 1000000 in
theorem kw_X11_lee_0 {Q : Int64 → HS → Prop} {v0 : Nat} {v1 : Int32} {v2 : Int32} {v3 : Int32} {v4 : Int32} {v5 : Int32} {v6 : Int32} {v7 : Int32} {S0 S : HS} (h : P_X11_lee_0 Q v0 v1 v2 v3 v4 v5 v6 v7 S) (K : K7 S0 S) : P_X11_lee_0 (fun r T => Q r T ∧ K7 S0 T) v0 v1 v2 v3 v4 v5 v6 v7 S := by
  delta P_X11_lee_0 at h ⊢
  obtain ⟨c1, h⟩ := h
  refine ⟨c1, ?_⟩
  have n2 := k7_nk K c1 (by decide)
  have o3 := c1
  intro x5 e4
  have h := h x5 e4
  have K := k7_I K e4 n2
  have o3 := ob_wI o3 e4
  refine cm_X11_refusesTwo (kw_X11_refusesTwo h) h (fun x6 x7 p9 h g8 => ?_)
  have h := h g8
  have K := k7_tr K p9.2
  have o3 := gr_ob p9.2.1 o3
  refine ⟨?_, ?_⟩
  · intro c10
    have h := h.1 c10
    refine cm_X11_together (kw_X11_together h) h (fun x11 x12 p14 h g13 => ?_)
    have h := h g13
    have K := k7_tr K p14.2
    have o3 := gr_ob p14.2.1 o3
    refine cm_X11_told (kw_X11_told h) h (fun x15 x16 p18 h g17 => ?_)
    have h := h g17
    have K := k7_tr K p18.2
    have o3 := gr_ob p18.2.1 o3
    exact ⟨h, K⟩
  · intro c19
    have h := h.2 c19
    refine cm_X11_refused (kw_X11_refused h) h (fun x20 x21 p23 h g22 => ?_)
    have h := h g22
    have K := k7_tr K p23.2
    have o3 := gr_ob p23.2.1 o3
    exact ⟨h, K⟩
theorem kw_X11_lee {Q : Int64 → HS → Prop} {v0 : Nat} {v1 : Int32} {v2 : Int32} {v3 : Int32} {v4 : Int32} {v5 : Int32} {v6 : Int32} {v7 : Int32} {S : HS} (h : P_X11_lee v0 v1 v2 v3 v4 v5 v6 v7 Q S) : P_X11_lee v0 v1 v2 v3 v4 v5 v6 v7 (fun r T => Q r T ∧ K7 S T) S := kw_X11_lee_0 h (k7_rf S)
set_option maxRecDepth 20000 in
set_option maxHeartbeats 1000000 in
theorem kw_X11_lies_50 {Q : Int32 → HS → Prop} {X22 X22_2 : Nat → Int32 → Int32 → HS → Prop} {v0 : Nat} {v2 : Int32} {s0 : Int32} {s1 : Int32} {S0 S : HS} (h : P_X11_lies_50 Q X22 v0 v2 s0 s1 S) (K : K7 S0 S) (hX22 : ∀ (u0 : Nat) (u1 : Int32) (u2 : Int32) (u3 : HS), X22 u0 u1 u2 u3 → K7 S0 u3 → X22_2 u0 u1 u2 u3) : P_X11_lies_50 (fun r T => Q r T ∧ K7 S0 T) X22_2 v0 v2 s0 s1 S := by
  delta P_X11_lies_50 at h ⊢
  intro x2 e1
  have h := h x2 e1
  intro x4 e3
  have h := h x4 e3
  exact hX22 _ _ _ _ h K
set_option maxRecDepth 20000 in
set_option maxHeartbeats 1000000 in
theorem kwB_X11_lies_22 {Q : Int32 → HS → Prop} {X22 X22_2 : Nat → Int32 → Int32 → HS → Prop} {v0 : Nat} {v1 : Int32} {v2 : Int32} {S0 S : HS} (h : B_X11_lies_22 Q X22 v0 v1 v2 S) (K : K7 S0 S) (hX22 : ∀ (u0 : Nat) (u1 : Int32) (u2 : Int32) (u3 : HS), X22 u0 u1 u2 u3 → K7 S0 u3 → X22_2 u0 u1 u2 u3) : B_X11_lies_22 (fun r T => Q r T ∧ K7 S0 T) X22_2 v0 v1 v2 S := by
  delta B_X11_lies_22 at h ⊢
  obtain ⟨c1, h⟩ := h
  refine ⟨c1, ?_⟩
  have n2 := k7_nk K c1 (by decide)
  have o3 := c1
  obtain ⟨b4, e5, h⟩ := h
  refine ⟨b4, e5, ?_⟩
  obtain ⟨c6, h⟩ := h
  refine ⟨c6, ?_⟩
  have n7 := k7_nk K c6 (by decide)
  intro x9 e8
  have h := h x9 e8
  refine ⟨?_, ?_⟩
  · intro c10
    have h := h.1 c10
    refine cm_X11_good (kw_X11_good h) h (fun x11 x12 p14 h g13 => ?_)
    have h := h g13
    have K := k7_tr K p14.2
    have o3 := gr_ob p14.2.1 o3
    exact ⟨h, K⟩
  · intro c15
    have h := h.2 c15
    refine cm_X11_fitOf (kw_X11_fitOf h) h (fun x16 x17 p19 h g18 => ?_)
    have h := h g18
    have K := k7_tr K p19.2
    have o3 := gr_ob p19.2.1 o3
    refine ⟨?_, ?_⟩
    · intro c20
      have h := h.1 c20
      exact kw_X11_lies_50 h K hX22
    · intro c21
      have h := h.2 c21
      exact kw_X11_lies_50 h K hX22
theorem kw_X11_lies_22 {Q : Int32 → HS → Prop} {v0 : Nat} {v1 : Int32} {v2 : Int32} {S0 S : HS} (h : P_X11_lies_22 Q v0 v1 v2 S) (K : K7 S0 S) : P_X11_lies_22 (fun r T => Q r T ∧ K7 S0 T) v0 v1 v2 S := h (fun v0 v1 v2 S => K7 S0 S → P_X11_lies_22 (fun r T => Q r T ∧ K7 S0 T) v0 v1 v2 S) (fun v0 v1 v2 S hB K => fd_X11_lies_22 (kwB_X11_lies_22 hB K (fun _ _ _ _ hx K => hx K))) K
set_option maxRecDepth 20000 in
set_option maxHeartbeats 1000000 in
theorem kw_X11_lies_0 {Q : Int32 → HS → Prop} {v0 : Nat} {S0 S : HS} (h : P_X11_lies_0 Q v0 S) (K : K7 S0 S) : P_X11_lies_0 (fun r T => Q r T ∧ K7 S0 T) v0 S := by
  delta P_X11_lies_0 at h ⊢
  obtain ⟨c1, h⟩ := h
  refine ⟨c1, ?_⟩
  have n2 := k7_nk K c1 (by decide)
  have o3 := c1
  intro x5 e4
  have h := h x5 e4
  have K := k7_I K e4 n2
  have o3 := ob_wI o3 e4
  refine ⟨?_, ?_⟩
  · intro c6
    have h := h.1 c6
    refine cm_X11_refused (kw_X11_refused h) h (fun x7 x8 p10 h g9 => ?_)
    have h := h g9
    have K := k7_tr K p10.2
    have o3 := gr_ob p10.2.1 o3
    exact ⟨h, K⟩
  · intro x11 c12
    have h := h.2 x11 c12
    exact kw_X11_lies_22 h K
theorem kw_X11_lies {Q : Int32 → HS → Prop} {v0 : Nat} {S : HS} (h : P_X11_lies v0 Q S) : P_X11_lies v0 (fun r T => Q r T ∧ K7 S T) S := kw_X11_lies_0 h (k7_rf S)
set_option maxRecDepth 20000 in
set_option maxHeartbeats 1000000 in
theorem kwB_X11_mark_34 {Q : Int32 → HS → Prop} {X34 X34_2 : Nat → Int32 → HS → Prop} {v0 : Nat} {v1 : Int32} {S0 S : HS} (h : B_X11_mark_34 Q X34 v0 v1 S) (K : K7 S0 S) (hX34 : ∀ (u0 : Nat) (u1 : Int32) (u2 : HS), X34 u0 u1 u2 → K7 S0 u2 → X34_2 u0 u1 u2) : B_X11_mark_34 (fun r T => Q r T ∧ K7 S0 T) X34_2 v0 v1 S := by
  delta B_X11_mark_34 at h ⊢
  refine ⟨?_, ?_⟩
  · intro c1
    have h := h.1 c1
    obtain ⟨c2, h⟩ := h
    refine ⟨c2, ?_⟩
    have n3 := k7_nk K c2 (by decide)
    have o4 := c2
    intro x6 e5
    have h := h x6 e5
    intro x8 e7
    have h := h x8 e7
    intro x10 e9
    have h := h x10 e9
    have K := k7_I K e9 n3
    have o4 := ob_wI o4 e9
    intro x12 e11
    have h := h x12 e11
    refine cm_X11_good (kw_X11_good h) h (fun x13 x14 p16 h g15 => ?_)
    have h := h g15
    have K := k7_tr K p16.2
    have o4 := gr_ob p16.2.1 o4
    exact ⟨h, K⟩
  · intro c17
    have h := h.2 c17
    obtain ⟨c18, h⟩ := h
    refine ⟨c18, ?_⟩
    have n19 := k7_nk K c18 (by decide)
    have o20 := c18
    obtain ⟨b21, e22, h⟩ := h
    refine ⟨b21, e22, ?_⟩
    intro x24 e23
    have h := h x24 e23
    obtain ⟨b25, e26, h⟩ := h
    refine ⟨b25, e26, ?_⟩
    obtain ⟨c27, h⟩ := h
    refine ⟨c27, ?_⟩
    have n28 := k7_nk K c27 (by decide)
    obtain ⟨c29, h⟩ := h
    refine ⟨c29, ?_⟩
    intro x31 e30
    have h := h x31 e30
    obtain ⟨c32, h⟩ := h
    refine ⟨c32, ?_⟩
    have n33 := k7_nk K c32 (by decide)
    obtain ⟨c34, h⟩ := h
    refine ⟨c34, ?_⟩
    intro x36 e35
    have h := h x36 e35
    have K := k7_J K e35
    have o20 := ob_wJ o20 e35
    intro x38 e37
    have h := h x38 e37
    exact hX34 _ _ _ h K
theorem kw_X11_mark_34 {Q : Int32 → HS → Prop} {v0 : Nat} {v1 : Int32} {S0 S : HS} (h : P_X11_mark_34 Q v0 v1 S) (K : K7 S0 S) : P_X11_mark_34 (fun r T => Q r T ∧ K7 S0 T) v0 v1 S := h (fun v0 v1 S => K7 S0 S → P_X11_mark_34 (fun r T => Q r T ∧ K7 S0 T) v0 v1 S) (fun v0 v1 S hB K => fd_X11_mark_34 (kwB_X11_mark_34 hB K (fun _ _ _ hx K => hx K))) K
set_option maxRecDepth 20000 in
set_option maxHeartbeats 1000000 in
theorem kw_X11_mark_0 {Q : Int32 → HS → Prop} {v0 : Nat} {S0 S : HS} (h : P_X11_mark_0 Q v0 S) (K : K7 S0 S) : P_X11_mark_0 (fun r T => Q r T ∧ K7 S0 T) v0 S := by
  delta P_X11_mark_0 at h ⊢
  obtain ⟨c1, h⟩ := h
  refine ⟨c1, ?_⟩
  have n2 := k7_nk K c1 (by decide)
  have o3 := c1
  intro x5 e4
  have h := h x5 e4
  have K := k7_I K e4 n2
  have o3 := ob_wI o3 e4
  refine cm_X11_isDay (kw_X11_isDay h) h (fun x6 x7 p10 h g8 g9 => ?_)
  have h := h g8 g9
  have K := k7_tr K p10.2
  have o3 := gr_ob p10.2.1 o3
  refine ⟨?_, ?_⟩
  · intro c11
    have h := h.1 c11
    intro x13 e12
    have h := h x13 e12
    refine ⟨?_, ?_⟩
    · intro c14
      have h := h.1 c14
      exact kw_X11_mark_34 h K
    · intro c15
      have h := h.2 c15
      refine cm_X11_refused (kw_X11_refused h) h (fun x16 x17 p19 h g18 => ?_)
      have h := h g18
      have K := k7_tr K p19.2
      have o3 := gr_ob p19.2.1 o3
      exact ⟨h, K⟩
  · intro c20
    have h := h.2 c20
    refine cm_X11_refused (kw_X11_refused h) h (fun x21 x22 p24 h g23 => ?_)
    have h := h g23
    have K := k7_tr K p24.2
    have o3 := gr_ob p24.2.1 o3
    exact ⟨h, K⟩
theorem kw_X11_mark {Q : Int32 → HS → Prop} {v0 : Nat} {S : HS} (h : P_X11_mark v0 Q S) : P_X11_mark v0 (fun r T => Q r T ∧ K7 S T) S := kw_X11_mark_0 h (k7_rf S)
set_option maxRecDepth 20000 in
set_option maxHeartbeats 1000000 in
theorem kw_X11_mean_0 {Q : Int64 → HS → Prop} {v0 : Nat} {v1 : Int32} {v2 : Int32} {v3 : Int32} {v4 : Int32} {v5 : Int32} {v6 : Int32} {S0 S : HS} (h : P_X11_mean_0 Q v0 v1 v2 v3 v4 v5 v6 S) (K : K7 S0 S) : P_X11_mean_0 (fun r T => Q r T ∧ K7 S0 T) v0 v1 v2 v3 v4 v5 v6 S := by
  delta P_X11_mean_0 at h ⊢
  obtain ⟨c1, h⟩ := h
  refine ⟨c1, ?_⟩
  have n2 := k7_nk K c1 (by decide)
  have o3 := c1
  intro x5 e4
  have h := h x5 e4
  have K := k7_I K e4 n2
  have o3 := ob_wI o3 e4
  refine cm_X11_refuses (kw_X11_refuses h) h (fun x6 x7 p9 h g8 => ?_)
  have h := h g8
  have K := k7_tr K p9.2
  have o3 := gr_ob p9.2.1 o3
  refine ⟨?_, ?_⟩
  · intro c10
    have h := h.1 c10
    refine cm_X11_wetOf (kw_X11_wetOf h) h (fun x11 x12 p14 h g13 => ?_)
    have h := h g13
    have K := k7_tr K p14.2
    have o3 := gr_ob p14.2.1 o3
    obtain ⟨b15, e16, h⟩ := h
    refine ⟨b15, e16, ?_⟩
    obtain ⟨c17, h⟩ := h
    refine ⟨c17, ?_⟩
    have n18 := k7_nk K c17 (by decide)
    obtain ⟨b19, e20, h⟩ := h
    refine ⟨b19, e20, ?_⟩
    obtain ⟨c21, h⟩ := h
    refine ⟨c21, ?_⟩
    obtain ⟨c22, h⟩ := h
    refine ⟨c22, ?_⟩
    intro x24 e23
    have h := h x24 e23
    refine cm_X11_told (kw_X11_told h) h (fun x25 x26 p28 h g27 => ?_)
    have h := h g27
    have K := k7_tr K p28.2
    have o3 := gr_ob p28.2.1 o3
    exact ⟨h, K⟩
  · intro c29
    have h := h.2 c29
    refine cm_X11_refused (kw_X11_refused h) h (fun x30 x31 p33 h g32 => ?_)
    have h := h g32
    have K := k7_tr K p33.2
    have o3 := gr_ob p33.2.1 o3
    exact ⟨h, K⟩
theorem kw_X11_mean {Q : Int64 → HS → Prop} {v0 : Nat} {v1 : Int32} {v2 : Int32} {v3 : Int32} {v4 : Int32} {v5 : Int32} {v6 : Int32} {S : HS} (h : P_X11_mean v0 v1 v2 v3 v4 v5 v6 Q S) : P_X11_mean v0 v1 v2 v3 v4 v5 v6 (fun r T => Q r T ∧ K7 S T) S := kw_X11_mean_0 h (k7_rf S)
set_option maxRecDepth 20000 in
set_option maxHeartbeats 1000000 in
theorem kw_X11_minutes_21 {Q : Int32 → HS → Prop} {v0 : Nat} {S0 S : HS} (h : P_X11_minutes_21 Q v0 S) (K : K7 S0 S) : P_X11_minutes_21 (fun r T => Q r T ∧ K7 S0 T) v0 S := by
  delta P_X11_minutes_21 at h ⊢
  obtain ⟨c1, h⟩ := h
  refine ⟨c1, ?_⟩
  have n2 := k7_nk K c1 (by decide)
  have o3 := c1
  refine cm_X11_refused (kw_X11_refused h) h (fun x4 x5 p7 h g6 => ?_)
  have h := h g6
  have K := k7_tr K p7.2
  have o3 := gr_ob p7.2.1 o3
  exact ⟨h, K⟩
set_option maxRecDepth 20000 in
set_option maxHeartbeats 1000000 in
theorem kw_X11_minutes_0 {Q : Int32 → HS → Prop} {v0 : Nat} {v1 : Int32} {v2 : Int32} {v3 : Int32} {S0 S : HS} (h : P_X11_minutes_0 Q v0 v1 v2 v3 S) (K : K7 S0 S) : P_X11_minutes_0 (fun r T => Q r T ∧ K7 S0 T) v0 v1 v2 v3 S := by
  delta P_X11_minutes_0 at h ⊢
  obtain ⟨c1, h⟩ := h
  refine ⟨c1, ?_⟩
  have n2 := k7_nk K c1 (by decide)
  have o3 := c1
  intro x5 e4
  have h := h x5 e4
  have K := k7_I K e4 n2
  have o3 := ob_wI o3 e4
  refine cm_X11_isWalker (kw_X11_isWalker h) h (fun x6 x7 p10 h g8 g9 => ?_)
  have h := h g8 g9
  have K := k7_tr K p10.2
  have o3 := gr_ob p10.2.1 o3
  refine ⟨?_, ?_⟩
  · intro c11
    have h := h.1 c11
    exact kw_X11_minutes_21 h K
  · intro c12
    have h := h.2 c12
    refine cm_X11_isRoad (kw_X11_isRoad h) h (fun x13 x14 p17 h g15 g16 => ?_)
    have h := h g15 g16
    have K := k7_tr K p17.2
    have o3 := gr_ob p17.2.1 o3
    refine ⟨?_, ?_⟩
    · intro c18
      have h := h.1 c18
      refine cm_X11_isSpeed (kw_X11_isSpeed h) h (fun x19 x20 p23 h g21 g22 => ?_)
      have h := h g21 g22
      have K := k7_tr K p23.2
      have o3 := gr_ob p23.2.1 o3
      refine ⟨?_, ?_⟩
      · intro c24
        have h := h.1 c24
        refine cm_X11_refused (kw_X11_refused h) h (fun x25 x26 p28 h g27 => ?_)
        have h := h g27
        have K := k7_tr K p28.2
        have o3 := gr_ob p28.2.1 o3
        exact ⟨h, K⟩
      · intro c29
        have h := h.2 c29
        obtain ⟨b30, e31, h⟩ := h
        refine ⟨b30, e31, ?_⟩
        obtain ⟨c32, h⟩ := h
        refine ⟨c32, ?_⟩
        have n33 := k7_nk K c32 (by decide)
        refine cm_X10_minutes (kw_X10_minutes h) h (fun x34 x35 p37 h g36 => ?_)
        have h := h g36
        have K := k7_tr K p37.2
        have o3 := gr_ob p37.2.1 o3
        refine cm_X11_good (kw_X11_good h) h (fun x38 x39 p41 h g40 => ?_)
        have h := h g40
        have K := k7_tr K p41.2
        have o3 := gr_ob p41.2.1 o3
        exact ⟨h, K⟩
    · intro c42
      have h := h.2 c42
      exact kw_X11_minutes_21 h K
theorem kw_X11_minutes {Q : Int32 → HS → Prop} {v0 : Nat} {v1 : Int32} {v2 : Int32} {v3 : Int32} {S : HS} (h : P_X11_minutes v0 v1 v2 v3 Q S) : P_X11_minutes v0 v1 v2 v3 (fun r T => Q r T ∧ K7 S T) S := kw_X11_minutes_0 h (k7_rf S)
set_option maxRecDepth 20000 in
set_option maxHeartbeats 1000000 in
theorem kw_X11_off_29 {Q : Int32 → HS → Prop} {v0 : Nat} {S0 S : HS} (h : P_X11_off_29 Q v0 S) (K : K7 S0 S) : P_X11_off_29 (fun r T => Q r T ∧ K7 S0 T) v0 S := by
  delta P_X11_off_29 at h ⊢
  obtain ⟨c1, h⟩ := h
  refine ⟨c1, ?_⟩
  have n2 := k7_nk K c1 (by decide)
  have o3 := c1
  refine cm_X11_refused (kw_X11_refused h) h (fun x4 x5 p7 h g6 => ?_)
  have h := h g6
  have K := k7_tr K p7.2
  have o3 := gr_ob p7.2.1 o3
  exact ⟨h, K⟩
set_option maxRecDepth 20000 in
set_option maxHeartbeats 1000000 in
theorem kw_X11_off_128 {Q : Int32 → HS → Prop} {X67 X67_2 : Nat → Int32 → Int32 → Int32 → Int32 → HS → Prop} {v0 : Nat} {v2 : Int32} {v4 : Int32} {v5 : Int32} {v6 : Int32} {S0 S : HS} (h : P_X11_off_128 Q X67 v0 v2 v4 v5 v6 S) (K : K7 S0 S) (hX67 : ∀ (u0 : Nat) (u1 : Int32) (u2 : Int32) (u3 : Int32) (u4 : Int32) (u5 : HS), X67 u0 u1 u2 u3 u4 u5 → K7 S0 u5 → X67_2 u0 u1 u2 u3 u4 u5) : P_X11_off_128 (fun r T => Q r T ∧ K7 S0 T) X67_2 v0 v2 v4 v5 v6 S := by
  delta P_X11_off_128 at h ⊢
  intro x2 e1
  have h := h x2 e1
  exact hX67 _ _ _ _ _ _ h K
set_option maxRecDepth 20000 in
set_option maxHeartbeats 1000000 in
theorem kw_X11_off_124 {Q : Int32 → HS → Prop} {X67 X67_2 : Nat → Int32 → Int32 → Int32 → Int32 → HS → Prop} {v0 : Nat} {v2 : Int32} {v4 : Int32} {v6 : Int32} {S0 S : HS} (h : P_X11_off_124 Q X67 v0 v2 v4 v6 S) (K : K7 S0 S) (hX67 : ∀ (u0 : Nat) (u1 : Int32) (u2 : Int32) (u3 : Int32) (u4 : Int32) (u5 : HS), X67 u0 u1 u2 u3 u4 u5 → K7 S0 u5 → X67_2 u0 u1 u2 u3 u4 u5) : P_X11_off_124 (fun r T => Q r T ∧ K7 S0 T) X67_2 v0 v2 v4 v6 S := by
  delta P_X11_off_124 at h ⊢
  exact kw_X11_off_128 h K hX67
set_option maxRecDepth 20000 in
set_option maxHeartbeats 1000000 in
theorem kwB_X11_off_67 {Q : Int32 → HS → Prop} {X67 X67_2 : Nat → Int32 → Int32 → Int32 → Int32 → HS → Prop} {v0 : Nat} {v2 : Int32} {v4 : Int32} {v5 : Int32} {v6 : Int32} {S0 S : HS} (h : B_X11_off_67 Q X67 v0 v2 v4 v5 v6 S) (K : K7 S0 S) (hX67 : ∀ (u0 : Nat) (u1 : Int32) (u2 : Int32) (u3 : Int32) (u4 : Int32) (u5 : HS), X67 u0 u1 u2 u3 u4 u5 → K7 S0 u5 → X67_2 u0 u1 u2 u3 u4 u5) : B_X11_off_67 (fun r T => Q r T ∧ K7 S0 T) X67_2 v0 v2 v4 v5 v6 S := by
  delta B_X11_off_67 at h ⊢
  refine ⟨?_, ?_⟩
  · intro c1
    have h := h.1 c1
    refine ⟨?_, ?_⟩
    · intro c2
      have h := h.1 c2
      obtain ⟨c3, h⟩ := h
      refine ⟨c3, ?_⟩
      have n4 := k7_nk K c3 (by decide)
      have o5 := c3
      refine cm_X11_good (kw_X11_good h) h (fun x6 x7 p9 h g8 => ?_)
      have h := h g8
      have K := k7_tr K p9.2
      have o5 := gr_ob p9.2.1 o5
      exact ⟨h, K⟩
    · intro c10
      have h := h.2 c10
      obtain ⟨c11, h⟩ := h
      refine ⟨c11, ?_⟩
      have n12 := k7_nk K c11 (by decide)
      have o13 := c11
      refine cm_X11_refused (kw_X11_refused h) h (fun x14 x15 p17 h g16 => ?_)
      have h := h g16
      have K := k7_tr K p17.2
      have o13 := gr_ob p17.2.1 o13
      exact ⟨h, K⟩
  · intro c18
    have h := h.2 c18
    obtain ⟨c19, h⟩ := h
    refine ⟨c19, ?_⟩
    have n20 := k7_nk K c19 (by decide)
    have o21 := c19
    obtain ⟨b22, e23, h⟩ := h
    refine ⟨b22, e23, ?_⟩
    refine cm_X11_spotOf (kw_X11_spotOf h) h (fun x24 x25 p27 h g26 => ?_)
    have h := h g26
    have K := k7_tr K p27.2
    have o21 := gr_ob p27.2.1 o21
    obtain ⟨c28, h⟩ := h
    refine ⟨c28, ?_⟩
    have n29 := k7_nk K c28 (by decide)
    obtain ⟨c30, h⟩ := h
    refine ⟨c30, ?_⟩
    intro x32 e31
    have h := h x32 e31
    refine ⟨?_, ?_⟩
    · intro c33
      have h := h.1 c33
      exact kw_X11_off_128 h K hX67
    · intro c34
      have h := h.2 c34
      refine ⟨?_, ?_⟩
      · intro c35
        have h := h.1 c35
        exact kw_X11_off_124 h K hX67
      · intro c36
        have h := h.2 c36
        obtain ⟨b37, e38, h⟩ := h
        refine ⟨b37, e38, ?_⟩
        refine cm_X11_spotOf (kw_X11_spotOf h) h (fun x39 x40 p42 h g41 => ?_)
        have h := h g41
        have K := k7_tr K p42.2
        have o21 := gr_ob p42.2.1 o21
        obtain ⟨c43, h⟩ := h
        refine ⟨c43, ?_⟩
        have n44 := k7_nk K c43 (by decide)
        obtain ⟨c45, h⟩ := h
        refine ⟨c45, ?_⟩
        intro x47 e46
        have h := h x47 e46
        obtain ⟨b48, e49, h⟩ := h
        refine ⟨b48, e49, ?_⟩
        refine cm_X11_spotOf (kw_X11_spotOf h) h (fun x50 x51 p53 h g52 => ?_)
        have h := h g52
        have K := k7_tr K p53.2
        have o21 := gr_ob p53.2.1 o21
        obtain ⟨c54, h⟩ := h
        refine ⟨c54, ?_⟩
        have n55 := k7_nk K c54 (by decide)
        obtain ⟨c56, h⟩ := h
        refine ⟨c56, ?_⟩
        intro x58 e57
        have h := h x58 e57
        refine ⟨?_, ?_⟩
        · intro c59
          have h := h.1 c59
          exact kw_X11_off_128 h K hX67
        · intro c60
          have h := h.2 c60
          exact kw_X11_off_124 h K hX67
theorem kw_X11_off_67 {Q : Int32 → HS → Prop} {v0 : Nat} {v2 : Int32} {v4 : Int32} {v5 : Int32} {v6 : Int32} {S0 S : HS} (h : P_X11_off_67 Q v0 v2 v4 v5 v6 S) (K : K7 S0 S) : P_X11_off_67 (fun r T => Q r T ∧ K7 S0 T) v0 v2 v4 v5 v6 S := h (fun v0 v2 v4 v5 v6 S => K7 S0 S → P_X11_off_67 (fun r T => Q r T ∧ K7 S0 T) v0 v2 v4 v5 v6 S) (fun v0 v2 v4 v5 v6 S hB K => fd_X11_off_67 (kwB_X11_off_67 hB K (fun _ _ _ _ _ _ hx K => hx K))) K
set_option maxRecDepth 20000 in
set_option maxHeartbeats 1000000 in
theorem kw_X11_off_0 {Q : Int32 → HS → Prop} {v0 : Nat} {v1 : Int32} {v2 : Int32} {v3 : Int32} {v4 : Int32} {S0 S : HS} (h : P_X11_off_0 Q v0 v1 v2 v3 v4 S) (K : K7 S0 S) : P_X11_off_0 (fun r T => Q r T ∧ K7 S0 T) v0 v1 v2 v3 v4 S := by
  delta P_X11_off_0 at h ⊢
  obtain ⟨c1, h⟩ := h
  refine ⟨c1, ?_⟩
  have n2 := k7_nk K c1 (by decide)
  have o3 := c1
  intro x5 e4
  have h := h x5 e4
  have K := k7_I K e4 n2
  have o3 := ob_wI o3 e4
  refine cm_X11_isWalker (kw_X11_isWalker h) h (fun x6 x7 p10 h g8 g9 => ?_)
  have h := h g8 g9
  have K := k7_tr K p10.2
  have o3 := gr_ob p10.2.1 o3
  refine ⟨?_, ?_⟩
  · intro c11
    have h := h.1 c11
    exact kw_X11_off_29 h K
  · intro c12
    have h := h.2 c12
    refine cm_X11_isPlace (kw_X11_isPlace h) h (fun x13 x14 p17 h g15 g16 => ?_)
    have h := h g15 g16
    have K := k7_tr K p17.2
    have o3 := gr_ob p17.2.1 o3
    refine ⟨?_, ?_⟩
    · intro c18
      have h := h.1 c18
      exact kw_X11_off_29 h K
    · intro c19
      have h := h.2 c19
      refine cm_X11_isPlace (kw_X11_isPlace h) h (fun x20 x21 p24 h g22 g23 => ?_)
      have h := h g22 g23
      have K := k7_tr K p24.2
      have o3 := gr_ob p24.2.1 o3
      refine ⟨?_, ?_⟩
      · intro c25
        have h := h.1 c25
        refine cm_X11_in (kw_X11_in h) h (fun x26 x27 p30 h g28 g29 => ?_)
        have h := h g28 g29
        have K := k7_tr K p30.2
        have o3 := gr_ob p30.2.1 o3
        refine ⟨?_, ?_⟩
        · intro c31
          have h := h.1 c31
          refine cm_X11_laysWays (kw_X11_laysWays h) h (fun x32 p34 h g33 => ?_)
          have h := h g33
          have K := k7_tr K p34.2
          have o3 := gr_ob p34.2.1 o3
          exact kw_X11_off_67 h K
        · intro c35
          have h := h.2 c35
          refine cm_X11_refused (kw_X11_refused h) h (fun x36 x37 p39 h g38 => ?_)
          have h := h g38
          have K := k7_tr K p39.2
          have o3 := gr_ob p39.2.1 o3
          exact ⟨h, K⟩
      · intro c40
        have h := h.2 c40
        exact kw_X11_off_29 h K
theorem kw_X11_off {Q : Int32 → HS → Prop} {v0 : Nat} {v1 : Int32} {v2 : Int32} {v3 : Int32} {v4 : Int32} {S : HS} (h : P_X11_off v0 v1 v2 v3 v4 Q S) : P_X11_off v0 v1 v2 v3 v4 (fun r T => Q r T ∧ K7 S T) S := kw_X11_off_0 h (k7_rf S)
