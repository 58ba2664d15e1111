section
/-! what the readers' methods may write -/
def KZ (S T : HS) : Prop := fR T = fR S ∧ fI T = fI S
def KV (v : Nat) (S T : HS) : Prop := fR T = fR S ∧ ∀ b, b ≠ v → fI T b = fI S b
section KZs
variable {S T U : HS} {a j v0 : Nat}
theorem kz_rf (S : HS) : KZ S S := ⟨rfl, rfl⟩
theorem kz_Z (K : KZ S T) (G : KZ T U) : KZ S U := ⟨G.1.trans K.1, G.2.trans K.2⟩
theorem kz_J {v : Int64} (K : KZ S T) (e : U = sJ T a j v) : KZ S U := by
  rw [e]
  exact K
theorem kv_rf (v0 : Nat) (S : HS) : KV v0 S S := ⟨rfl, fun _ _ => rfl⟩
theorem kv_tr (K : KV v0 S T) (G : KV v0 T U) : KV v0 S U := ⟨G.1.trans K.1, fun b hb => (G.2 b hb).trans (K.2 b hb)⟩
theorem kv_Z (K : KV v0 S T) (G : KZ T U) : KV v0 S U := ⟨G.1.trans K.1, fun b hb => (congrFun G.2 b).trans (K.2 b hb)⟩
theorem kv_I {v : Int32} (K : KV v0 S T) (e : U = sI T v0 j v) : KV v0 S U := by
  refine ⟨?_, fun b hb => ?_⟩
  · rw [e]; exact K.1
  · rw [e]
    exact (u2_row _ _ hb).trans (K.2 b hb)
theorem kv_J {v : Int64} (K : KV v0 S T) (e : U = sJ T a j v) : KV v0 S U := by
  rw [e]
  exact K
end KZs
def OwS_C (r : Nat) (S : HS) (b : Nat) : Prop := b = r ∨ (∃ w, fR S r 5 = some w ∧ (b = w ∨ (∃ j ∈ ([7, 10, 11] : List Nat), fR S w j = some b) ∨ (∃ j ∈ ([6, 8, 9] : List Nat), ∃ ra i, fR S w j = some ra ∧ fR S ra i = some b))) ∨ (∃ j ∈ ([11, 12] : List Nat), fR S r j = some b)
def KO_C (r : Nat) (S T : HS) : Prop := fR T = fR S ∧ ∀ b, ¬ OwS_C r S b → fI T b = fI S b
section KOC
variable {S T U : HS} {r a b j w ra i : Nat}
theorem koc_rf (r : Nat) (S : HS) : KO_C r S S := ⟨rfl, fun _ _ => rfl⟩
theorem owc_eq (h : fR T = fR S) : OwS_C r T b ↔ OwS_C r S b := by
  unfold OwS_C
  rw [h]
theorem owtc (K : KO_C r S T) (h : OwS_C r S b) : OwS_C r T b := (owc_eq K.1).mpr h
theorem koc_tr (K : KO_C r S T) (G : KO_C r T U) : KO_C r S U := ⟨G.1.trans K.1, fun b hb => (G.2 b (fun z => hb ((owc_eq K.1).mp z))).trans (K.2 b hb)⟩
theorem koc_I {v : Int32} (K : KO_C r S T) (e : U = sI T a j v) (ho : OwS_C r S a) : KO_C r S U := by
  refine ⟨?_, fun b hb => ?_⟩
  · rw [e]; exact K.1
  · rw [e]
    have hne : b ≠ a := fun z => hb (z ▸ ho)
    exact (u2_row _ _ hne).trans (K.2 b hb)
theorem koc_J {v : Int64} (K : KO_C r S T) (e : U = sJ T a j v) : KO_C r S U := by
  rw [e]
  exact K
theorem koc_Z (K : KO_C r S T) (G : KZ T U) : KO_C r S U := ⟨G.1.trans K.1, fun b hb => (congrFun G.2 b).trans (K.2 b hb)⟩
theorem koc_V (K : KO_C r S T) (G : KV a T U) (ho : OwS_C r S a) : KO_C r S U := ⟨G.1.trans K.1, fun b hb => (G.2 b (fun z => hb (z ▸ ho))).trans (K.2 b hb)⟩
theorem koc_f {x : Nat} (K : KO_C r S T) (e : fR T x j = some a) : fR S x j = some a := by
  rw [← K.1]
  exact e
theorem owc_r : OwS_C r S r := Or.inl rfl
theorem owc_w (f : fR S r 5 = some w) : OwS_C r S w := Or.inr (Or.inl ⟨w, f, Or.inl rfl⟩)
theorem owc_d (f : fR S r 5 = some w) (g : fR S w j = some a) (hj : j ∈ ([7, 10, 11] : List Nat)) : OwS_C r S a := Or.inr (Or.inl ⟨w, f, Or.inr (Or.inl ⟨j, hj, g⟩)⟩)
theorem owc_a (g : fR S r j = some a) (hj : j ∈ ([11, 12] : List Nat)) : OwS_C r S a := Or.inr (Or.inr ⟨j, hj, g⟩)
theorem owc_e (f : fR S r 5 = some w) (g : fR S w j = some ra) (e : fR S ra i = some a) (hj : j ∈ ([6, 8, 9] : List Nat)) : OwS_C r S a := Or.inr (Or.inl ⟨w, f, Or.inr (Or.inr ⟨j, hj, ra, i, g, e⟩)⟩)
end KOC
def OwS_M (r : Nat) (S : HS) (b : Nat) : Prop := b = r ∨ (∃ w, fR S r 4 = some w ∧ (b = w ∨ (∃ j ∈ (List.range 31), fR S w j = some b)))
def KO_M (r : Nat) (S T : HS) : Prop := fR T = fR S ∧ ∀ b, ¬ OwS_M r S b → fI T b = fI S b
section KOM
variable {S T U : HS} {r a b j w ra i : Nat}
theorem kom_rf (r : Nat) (S : HS) : KO_M r S S := ⟨rfl, fun _ _ => rfl⟩
theorem owm_eq (h : fR T = fR S) : OwS_M r T b ↔ OwS_M r S b := by
  unfold OwS_M
  rw [h]
theorem owtm (K : KO_M r S T) (h : OwS_M r S b) : OwS_M r T b := (owm_eq K.1).mpr h
theorem kom_tr (K : KO_M r S T) (G : KO_M r T U) : KO_M r S U := ⟨G.1.trans K.1, fun b hb => (G.2 b (fun z => hb ((owm_eq K.1).mp z))).trans (K.2 b hb)⟩
theorem kom_I {v : Int32} (K : KO_M r S T) (e : U = sI T a j v) (ho : OwS_M r S a) : KO_M r S U := by
  refine ⟨?_, fun b hb => ?_⟩
  · rw [e]; exact K.1
  · rw [e]
    have hne : b ≠ a := fun z => hb (z ▸ ho)
    exact (u2_row _ _ hne).trans (K.2 b hb)
theorem kom_J {v : Int64} (K : KO_M r S T) (e : U = sJ T a j v) : KO_M r S U := by
  rw [e]
  exact K
theorem kom_Z (K : KO_M r S T) (G : KZ T U) : KO_M r S U := ⟨G.1.trans K.1, fun b hb => (congrFun G.2 b).trans (K.2 b hb)⟩
theorem kom_V (K : KO_M r S T) (G : KV a T U) (ho : OwS_M r S a) : KO_M r S U := ⟨G.1.trans K.1, fun b hb => (G.2 b (fun z => hb (z ▸ ho))).trans (K.2 b hb)⟩
theorem kom_f {x : Nat} (K : KO_M r S T) (e : fR T x j = some a) : fR S x j = some a := by
  rw [← K.1]
  exact e
theorem owm_r : OwS_M r S r := Or.inl rfl
theorem owm_w (f : fR S r 4 = some w) : OwS_M r S w := Or.inr (⟨w, f, Or.inl rfl⟩)
theorem owm_d (f : fR S r 4 = some w) (g : fR S w j = some a) (hj : j ∈ (List.range 31)) : OwS_M r S a := Or.inr (⟨w, f, Or.inr (⟨j, hj, g⟩)⟩)
end KOM
set_option maxRecDepth 20000 in
set_option maxHeartbeats 1000000 in
theorem kz_X10_facing_0 {Q : Int32 → HS → Prop} {v0 : Nat} {v1 : Int32} {v2 : Int32} {S0 S : HS} (h : P_X10_facing_0 Q v0 v1 v2 S) (K : KZ S0 S) : P_X10_facing_0 (fun r T => Q r T ∧ KZ S0 T) v0 v1 v2 S := by
  delta P_X10_facing_0 at h ⊢
  refine ⟨?_, ?_⟩
  · intro c1
    have h := h.1 c1
    obtain ⟨c2, h⟩ := h
    refine ⟨c2, ?_⟩
    obtain ⟨b3, e4, h⟩ := h
    refine ⟨b3, e4, ?_⟩
    obtain ⟨c5, h⟩ := h
    refine ⟨c5, ?_⟩
    obtain ⟨c6, h⟩ := h
    refine ⟨c6, ?_⟩
    intro x8 e7
    have h := h x8 e7
    exact ⟨h, K⟩
  · intro c9
    have h := h.2 c9
    obtain ⟨c10, h⟩ := h
    refine ⟨c10, ?_⟩
    obtain ⟨b11, e12, h⟩ := h
    refine ⟨b11, e12, ?_⟩
    obtain ⟨c13, h⟩ := h
    refine ⟨c13, ?_⟩
    obtain ⟨c14, h⟩ := h
    refine ⟨c14, ?_⟩
    intro x16 e15
    have h := h x16 e15
    exact ⟨h, K⟩
theorem kz_X10_facing {Q : Int32 → HS → Prop} {v0 : Nat} {v1 : Int32} {v2 : Int32} {S : HS} (h : P_X10_facing v0 v1 v2 Q S) : P_X10_facing v0 v1 v2 (fun r T => Q r T ∧ KZ S T) S := kz_X10_facing_0 h (kz_rf S)
set_option maxRecDepth 20000 in
set_option maxHeartbeats 1000000 in
theorem kz_X10_across_0 {Q : Int32 → HS → Prop} {v0 : Nat} {v1 : Int32} {v2 : Int32} {v3 : Int32} {S0 S : HS} (h : P_X10_across_0 Q v0 v1 v2 v3 S) (K : KZ S0 S) : P_X10_across_0 (fun r T => Q r T ∧ KZ S0 T) v0 v1 v2 v3 S := by
  delta P_X10_across_0 at h ⊢
  obtain ⟨c1, h⟩ := h
  refine ⟨c1, ?_⟩
  obtain ⟨b2, e3, h⟩ := h
  refine ⟨b2, e3, ?_⟩
  obtain ⟨c4, h⟩ := h
  refine ⟨c4, ?_⟩
  obtain ⟨c5, h⟩ := h
  refine ⟨c5, ?_⟩
  intro x7 e6
  have h := h x7 e6
  refine cm_X10_facing (kz_X10_facing h) h (fun x8 x9 p11 h g10 => ?_)
  have h := h g10
  have K := kz_Z K p11.2
  intro x13 e12
  have h := h x13 e12
  refine ⟨?_, ?_⟩
  · intro c14
    have h := h.1 c14
    refine ⟨?_, ?_⟩
    · intro c15
      have h := h.1 c15
      exact ⟨h, K⟩
    · intro c16
      have h := h.2 c16
      obtain ⟨b17, e18, h⟩ := h
      refine ⟨b17, e18, ?_⟩
      obtain ⟨c19, h⟩ := h
      refine ⟨c19, ?_⟩
      obtain ⟨c20, h⟩ := h
      refine ⟨c20, ?_⟩
      intro x22 e21
      have h := h x22 e21
      exact ⟨h, K⟩
  · intro c23
    have h := h.2 c23
    obtain ⟨b24, e25, h⟩ := h
    refine ⟨b24, e25, ?_⟩
    obtain ⟨c26, h⟩ := h
    refine ⟨c26, ?_⟩
    obtain ⟨c27, h⟩ := h
    refine ⟨c27, ?_⟩
    intro x29 e28
    have h := h x29 e28
    exact ⟨h, K⟩
theorem kz_X10_across {Q : Int32 → HS → Prop} {v0 : Nat} {v1 : Int32} {v2 : Int32} {v3 : Int32} {S : HS} (h : P_X10_across v0 v1 v2 v3 Q S) : P_X10_across v0 v1 v2 v3 (fun r T => Q r T ∧ KZ S T) S := kz_X10_across_0 h (kz_rf S)
set_option maxRecDepth 20000 in
set_option maxHeartbeats 1000000 in
theorem kz_X10_air_0 {Q : Int32 → HS → Prop} {v0 : Nat} {v1 : Int32} {v2 : Int32} {v3 : Int32} {S0 S : HS} (h : P_X10_air_0 Q v0 v1 v2 v3 S) (K : KZ S0 S) : P_X10_air_0 (fun r T => Q r T ∧ KZ S0 T) v0 v1 v2 v3 S := by
  delta P_X10_air_0 at h ⊢
  obtain ⟨c1, h⟩ := h
  refine ⟨c1, ?_⟩
  obtain ⟨b2, e3, h⟩ := h
  refine ⟨b2, e3, ?_⟩
  obtain ⟨c4, h⟩ := h
  refine ⟨c4, ?_⟩
  obtain ⟨c5, h⟩ := h
  refine ⟨c5, ?_⟩
  intro x7 e6
  have h := h x7 e6
  refine cm_X10_facing (kz_X10_facing h) h (fun x8 x9 p11 h g10 => ?_)
  have h := h g10
  have K := kz_Z K p11.2
  intro x13 e12
  have h := h x13 e12
  refine ⟨?_, ?_⟩
  · intro c14
    have h := h.1 c14
    refine ⟨?_, ?_⟩
    · intro c15
      have h := h.1 c15
      exact ⟨h, K⟩
    · intro c16
      have h := h.2 c16
      obtain ⟨b17, e18, h⟩ := h
      refine ⟨b17, e18, ?_⟩
      obtain ⟨c19, h⟩ := h
      refine ⟨c19, ?_⟩
      obtain ⟨c20, h⟩ := h
      refine ⟨c20, ?_⟩
      intro x22 e21
      have h := h x22 e21
      exact ⟨h, K⟩
  · intro c23
    have h := h.2 c23
    obtain ⟨b24, e25, h⟩ := h
    refine ⟨b24, e25, ?_⟩
    obtain ⟨c26, h⟩ := h
    refine ⟨c26, ?_⟩
    obtain ⟨c27, h⟩ := h
    refine ⟨c27, ?_⟩
    intro x29 e28
    have h := h x29 e28
    exact ⟨h, K⟩
theorem kz_X10_air {Q : Int32 → HS → Prop} {v0 : Nat} {v1 : Int32} {v2 : Int32} {v3 : Int32} {S : HS} (h : P_X10_air v0 v1 v2 v3 Q S) : P_X10_air v0 v1 v2 v3 (fun r T => Q r T ∧ KZ S T) S := kz_X10_air_0 h (kz_rf S)
set_option maxRecDepth 20000 in
set_option maxHeartbeats 1000000 in
theorem kz_X10_begins_0 {Q : Int32 → HS → Prop} {v0 : Nat} {v1 : Int32} {v2 : Int32} {S0 S : HS} (h : P_X10_begins_0 Q v0 v1 v2 S) (K : KZ S0 S) : P_X10_begins_0 (fun r T => Q r T ∧ KZ S0 T) v0 v1 v2 S := by
  delta P_X10_begins_0 at h ⊢
  refine ⟨?_, ?_⟩
  · intro c1
    have h := h.1 c1
    obtain ⟨c2, h⟩ := h
    refine ⟨c2, ?_⟩
    obtain ⟨b3, e4, h⟩ := h
    refine ⟨b3, e4, ?_⟩
    obtain ⟨c5, h⟩ := h
    refine ⟨c5, ?_⟩
    obtain ⟨c6, h⟩ := h
    refine ⟨c6, ?_⟩
    intro x8 e7
    have h := h x8 e7
    exact ⟨h, K⟩
  · intro c9
    have h := h.2 c9
    obtain ⟨c10, h⟩ := h
    refine ⟨c10, ?_⟩
    obtain ⟨b11, e12, h⟩ := h
    refine ⟨b11, e12, ?_⟩
    obtain ⟨c13, h⟩ := h
    refine ⟨c13, ?_⟩
    obtain ⟨c14, h⟩ := h
    refine ⟨c14, ?_⟩
    intro x16 e15
    have h := h x16 e15
    exact ⟨h, K⟩
theorem kz_X10_begins {Q : Int32 → HS → Prop} {v0 : Nat} {v1 : Int32} {v2 : Int32} {S : HS} (h : P_X10_begins v0 v1 v2 Q S) : P_X10_begins v0 v1 v2 (fun r T => Q r T ∧ KZ S T) S := kz_X10_begins_0 h (kz_rf S)
set_option maxRecDepth 20000 in
set_option maxHeartbeats 1000000 in
theorem kz_X10_ends_0 {Q : Int32 → HS → Prop} {v0 : Nat} {v1 : Int32} {v2 : Int32} {S0 S : HS} (h : P_X10_ends_0 Q v0 v1 v2 S) (K : KZ S0 S) : P_X10_ends_0 (fun r T => Q r T ∧ KZ S0 T) v0 v1 v2 S := by
  delta P_X10_ends_0 at h ⊢
  refine ⟨?_, ?_⟩
  · intro c1
    have h := h.1 c1
    obtain ⟨c2, h⟩ := h
    refine ⟨c2, ?_⟩
    obtain ⟨b3, e4, h⟩ := h
    refine ⟨b3, e4, ?_⟩
    obtain ⟨c5, h⟩ := h
    refine ⟨c5, ?_⟩
    obtain ⟨c6, h⟩ := h
    refine ⟨c6, ?_⟩
    intro x8 e7
    have h := h x8 e7
    exact ⟨h, K⟩
  · intro c9
    have h := h.2 c9
    obtain ⟨c10, h⟩ := h
    refine ⟨c10, ?_⟩
    obtain ⟨b11, e12, h⟩ := h
    refine ⟨b11, e12, ?_⟩
    obtain ⟨c13, h⟩ := h
    refine ⟨c13, ?_⟩
    obtain ⟨c14, h⟩ := h
    refine ⟨c14, ?_⟩
    intro x16 e15
    have h := h x16 e15
    exact ⟨h, K⟩
theorem kz_X10_ends {Q : Int32 → HS → Prop} {v0 : Nat} {v1 : Int32} {v2 : Int32} {S : HS} (h : P_X10_ends v0 v1 v2 Q S) : P_X10_ends v0 v1 v2 (fun r T => Q r T ∧ KZ S T) S := kz_X10_ends_0 h (kz_rf S)
set_option maxRecDepth 20000 in
set_option maxHeartbeats 1000000 in
theorem kzB_X10_find_2 {Q : Int32 → HS → Prop} {X2 X2_2 : Nat → Int64 → Int32 → HS → Prop} {v0 : Nat} {v1 : Int64} {v3 : Int32} {S0 S : HS} (h : B_X10_find_2 Q X2 v0 v1 v3 S) (K : KZ S0 S) (hX2 : ∀ (u0 : Nat) (u1 : Int64) (u2 : Int32) (u3 : HS), X2 u0 u1 u2 u3 → KZ S0 u3 → X2_2 u0 u1 u2 u3) : B_X10_find_2 (fun r T => Q r T ∧ KZ S0 T) X2_2 v0 v1 v3 S := by
  delta B_X10_find_2 at h ⊢
  obtain ⟨c1, h⟩ := h
  refine ⟨c1, ?_⟩
  intro x3 e2
  have h := h x3 e2
  refine ⟨?_, ?_⟩
  · intro c4
    have h := h.1 c4
    exact ⟨h, K⟩
  · intro c5
    have h := h.2 c5
    obtain ⟨b6, e7, h⟩ := h
    refine ⟨b6, e7, ?_⟩
    obtain ⟨c8, h⟩ := h
    refine ⟨c8, ?_⟩
    obtain ⟨c9, h⟩ := h
    refine ⟨c9, ?_⟩
    intro x11 e10
    have h := h x11 e10
    refine ⟨?_, ?_⟩
    · intro c12
      have h := h.1 c12
      intro x14 e13
      have h := h x14 e13
      exact hX2 _ _ _ _ h K
    · intro c15
      have h := h.2 c15
      exact ⟨h, K⟩
theorem kz_X10_find_2 {Q : Int32 → HS → Prop} {v0 : Nat} {v1 : Int64} {v3 : Int32} {S0 S : HS} (h : P_X10_find_2 Q v0 v1 v3 S) (K : KZ S0 S) : P_X10_find_2 (fun r T => Q r T ∧ KZ S0 T) v0 v1 v3 S := h (fun w0 v1 v3 S => KZ S0 S → P_X10_find_2 (fun r T => Q r T ∧ KZ S0 T) w0 v1 v3 S) (fun w0 v1 v3 S hB K => by
  exact fd_X10_find_2 (kzB_X10_find_2 hB K (fun _ _ _ _ hx K => hx K))) K
set_option maxRecDepth 20000 in
set_option maxHeartbeats 1000000 in
theorem kz_X10_find_0 {Q : Int32 → HS → Prop} {v0 : Nat} {v1 : Int64} {S0 S : HS} (h : P_X10_find_0 Q v0 v1 S) (K : KZ S0 S) : P_X10_find_0 (fun r T => Q r T ∧ KZ S0 T) v0 v1 S := by
  delta P_X10_find_0 at h ⊢
  exact kz_X10_find_2 h K
theorem kz_X10_find {Q : Int32 → HS → Prop} {v0 : Nat} {v1 : Int64} {S : HS} (h : P_X10_find v0 v1 Q S) : P_X10_find v0 v1 (fun r T => Q r T ∧ KZ S T) S := kz_X10_find_0 h (kz_rf S)
set_option maxRecDepth 20000 in
set_option maxHeartbeats 1000000 in
theorem kz_X10_minutes_0 {Q : Int32 → HS → Prop} {v0 : Nat} {v1 : Int32} {v2 : Int32} {S0 S : HS} (h : P_X10_minutes_0 Q v0 v1 v2 S) (K : KZ S0 S) : P_X10_minutes_0 (fun r T => Q r T ∧ KZ S0 T) v0 v1 v2 S := by
  delta P_X10_minutes_0 at h ⊢
  obtain ⟨c1, h⟩ := h
  refine ⟨c1, ?_⟩
  obtain ⟨b2, e3, h⟩ := h
  refine ⟨b2, e3, ?_⟩
  obtain ⟨c4, h⟩ := h
  refine ⟨c4, ?_⟩
  obtain ⟨c5, h⟩ := h
  refine ⟨c5, ?_⟩
  intro x7 e6
  have h := h x7 e6
  obtain ⟨c8, h⟩ := h
  refine ⟨c8, ?_⟩
  intro x10 e9
  have h := h x10 e9
  exact ⟨h, K⟩
theorem kz_X10_minutes {Q : Int32 → HS → Prop} {v0 : Nat} {v1 : Int32} {v2 : Int32} {S : HS} (h : P_X10_minutes v0 v1 v2 Q S) : P_X10_minutes v0 v1 v2 (fun r T => Q r T ∧ KZ S T) S := kz_X10_minutes_0 h (kz_rf S)
set_option maxRecDepth 20000 in
set_option maxHeartbeats 1000000 in
theorem kz_X10_shield_0 {Q : Int32 → HS → Prop} {v0 : Nat} {v1 : Int32} {S0 S : HS} (h : P_X10_shield_0 Q v0 v1 S) (K : KZ S0 S) : P_X10_shield_0 (fun r T => Q r T ∧ KZ S0 T) v0 v1 S := by
  delta P_X10_shield_0 at h ⊢
  obtain ⟨c1, h⟩ := h
  refine ⟨c1, ?_⟩
  obtain ⟨b2, e3, h⟩ := h
  refine ⟨b2, e3, ?_⟩
  obtain ⟨c4, h⟩ := h
  refine ⟨c4, ?_⟩
  obtain ⟨c5, h⟩ := h
  refine ⟨c5, ?_⟩
  intro x7 e6
  have h := h x7 e6
  refine ⟨?_, ?_⟩
  · intro c8
    have h := h.1 c8
    exact ⟨h, K⟩
  · intro c9
    have h := h.2 c9
    obtain ⟨b10, e11, h⟩ := h
    refine ⟨b10, e11, ?_⟩
    obtain ⟨c12, h⟩ := h
    refine ⟨c12, ?_⟩
    obtain ⟨c13, h⟩ := h
    refine ⟨c13, ?_⟩
    intro x15 e14
    have h := h x15 e14
    exact ⟨h, K⟩
theorem kz_X10_shield {Q : Int32 → HS → Prop} {v0 : Nat} {v1 : Int32} {S : HS} (h : P_X10_shield v0 v1 Q S) : P_X10_shield v0 v1 (fun r T => Q r T ∧ KZ S T) S := kz_X10_shield_0 h (kz_rf S)
set_option maxRecDepth 20000 in
set_option maxHeartbeats 1000000 in
theorem kv_X11_good_0 {Q : Int32 → HS → Prop} {v0 : Nat} {v1 : Int32} {S0 S : HS} (h : P_X11_good_0 Q v0 v1 S) (K : KV v0 S0 S) : P_X11_good_0 (fun r T => Q r T ∧ KV v0 S0 T) v0 v1 S := by
  delta P_X11_good_0 at h ⊢
  obtain ⟨c1, h⟩ := h
  refine ⟨c1, ?_⟩
  intro x3 e2
  have h := h x3 e2
  have K := kv_I K e2
  intro x5 e4
  have h := h x5 e4
  have K := kv_I K e4
  exact ⟨h, K⟩
theorem kv_X11_good {Q : Int32 → HS → Prop} {v0 : Nat} {v1 : Int32} {S : HS} (h : P_X11_good v0 v1 Q S) : P_X11_good v0 v1 (fun r T => Q r T ∧ KV v0 S T) S := kv_X11_good_0 h (kv_rf _ S)
set_option maxRecDepth 20000 in
set_option maxHeartbeats 1000000 in
theorem kz_X11_in_0 {Q : Int32 → HS → Prop} {v0 : Int32} {v1 : Int32} {v2 : Int32} {S0 S : HS} (h : P_X11_in_0 Q v0 v1 v2 S) (K : KZ S0 S) : P_X11_in_0 (fun r T => Q r T ∧ KZ S0 T) v0 v1 v2 S := by
  delta P_X11_in_0 at h ⊢
  refine ⟨?_, ?_⟩
  · intro c1
    have h := h.1 c1
    exact ⟨h, K⟩
  · intro c2
    have h := h.2 c2
    refine ⟨?_, ?_⟩
    · intro c3
      have h := h.1 c3
      exact ⟨h, K⟩
    · intro c4
      have h := h.2 c4
      exact ⟨h, K⟩
theorem kz_X11_in {Q : Int32 → HS → Prop} {v0 : Int32} {v1 : Int32} {v2 : Int32} {S : HS} (h : P_X11_in v0 v1 v2 Q S) : P_X11_in v0 v1 v2 (fun r T => Q r T ∧ KZ S T) S := kz_X11_in_0 h (kz_rf S)
set_option maxRecDepth 20000 in
set_option maxHeartbeats 1000000 in
theorem kz_X11_isHour_0 {Q : Int32 → HS → Prop} {v0 : Nat} {v1 : Int32} {S0 S : HS} (h : P_X11_isHour_0 Q v0 v1 S) (K : KZ S0 S) : P_X11_isHour_0 (fun r T => Q r T ∧ KZ S0 T) v0 v1 S := by
  delta P_X11_isHour_0 at h ⊢
  obtain ⟨c1, h⟩ := h
  refine ⟨c1, ?_⟩
  refine ⟨?_, ?_⟩
  · intro c2
    have h := h.1 c2
    exact ⟨h, K⟩
  · intro x3 c4
    have h := h.2 x3 c4
    refine ⟨?_, ?_⟩
    · intro c5
      have h := h.1 c5
      exact ⟨h, K⟩
    · intro c6
      have h := h.2 c6
      obtain ⟨b7, e8, h⟩ := h
      refine ⟨b7, e8, ?_⟩
      obtain ⟨c9, h⟩ := h
      refine ⟨c9, ?_⟩
      intro x11 e10
      have h := h x11 e10
      refine ⟨?_, ?_⟩
      · intro c12
        have h := h.1 c12
        exact ⟨h, K⟩
      · intro c13
        have h := h.2 c13
        exact ⟨h, K⟩
theorem kz_X11_isHour {Q : Int32 → HS → Prop} {v0 : Nat} {v1 : Int32} {S : HS} (h : P_X11_isHour v0 v1 Q S) : P_X11_isHour v0 v1 (fun r T => Q r T ∧ KZ S T) S := kz_X11_isHour_0 h (kz_rf S)
set_option maxRecDepth 20000 in
set_option maxHeartbeats 1000000 in
theorem kz_X11_isRoad_0 {Q : Int32 → HS → Prop} {v0 : Nat} {v1 : Int32} {S0 S : HS} (h : P_X11_isRoad_0 Q v0 v1 S) (K : KZ S0 S) : P_X11_isRoad_0 (fun r T => Q r T ∧ KZ S0 T) v0 v1 S := by
  delta P_X11_isRoad_0 at h ⊢
  obtain ⟨c1, h⟩ := h
  refine ⟨c1, ?_⟩
  refine ⟨?_, ?_⟩
  · intro c2
    have h := h.1 c2
    exact ⟨h, K⟩
  · intro x3 c4
    have h := h.2 x3 c4
    refine ⟨?_, ?_⟩
    · intro c5
      have h := h.1 c5
      exact ⟨h, K⟩
    · intro c6
      have h := h.2 c6
      obtain ⟨b7, e8, h⟩ := h
      refine ⟨b7, e8, ?_⟩
      obtain ⟨c9, h⟩ := h
      refine ⟨c9, ?_⟩
      intro x11 e10
      have h := h x11 e10
      refine ⟨?_, ?_⟩
      · intro c12
        have h := h.1 c12
        exact ⟨h, K⟩
      · intro c13
        have h := h.2 c13
        exact ⟨h, K⟩
theorem kz_X11_isRoad {Q : Int32 → HS → Prop} {v0 : Nat} {v1 : Int32} {S : HS} (h : P_X11_isRoad v0 v1 Q S) : P_X11_isRoad v0 v1 (fun r T => Q r T ∧ KZ S T) S := kz_X11_isRoad_0 h (kz_rf S)
set_option maxRecDepth 20000 in
set_option maxHeartbeats 1000000 in
theorem kv_X11_refused_0 {Q : Int32 → HS → Prop} {v0 : Nat} {v1 : Int32} {S0 S : HS} (h : P_X11_refused_0 Q v0 v1 S) (K : KV v0 S0 S) : P_X11_refused_0 (fun r T => Q r T ∧ KV v0 S0 T) v0 v1 S := by
  delta P_X11_refused_0 at h ⊢
  obtain ⟨c1, h⟩ := h
  refine ⟨c1, ?_⟩
  intro x3 e2
  have h := h x3 e2
  have K := kv_I K e2
  intro x5 e4
  have h := h x5 e4
  have K := kv_I K e4
  exact ⟨h, K⟩
theorem kv_X11_refused {Q : Int32 → HS → Prop} {v0 : Nat} {v1 : Int32} {S : HS} (h : P_X11_refused v0 v1 Q S) : P_X11_refused v0 v1 (fun r T => Q r T ∧ KV v0 S T) S := kv_X11_refused_0 h (kv_rf _ S)
set_option maxRecDepth 20000 in
set_option maxHeartbeats 1000000 in
theorem kv_X11_lost_0 {Q : Int32 → HS → Prop} {v0 : Nat} {v1 : Int32} {S0 S : HS} (h : P_X11_lost_0 Q v0 v1 S) (K : KV v0 S0 S) : P_X11_lost_0 (fun r T => Q r T ∧ KV v0 S0 T) v0 v1 S := by
  delta P_X11_lost_0 at h ⊢
  obtain ⟨c1, h⟩ := h
  refine ⟨c1, ?_⟩
  refine cm_X11_refused (kv_X11_refused h) h (fun x2 x3 p5 h g4 => ?_)
  have h := h g4
  have K := kv_tr K p5.2
  exact ⟨h, K⟩
theorem kv_X11_lost {Q : Int32 → HS → Prop} {v0 : Nat} {v1 : Int32} {S : HS} (h : P_X11_lost v0 v1 Q S) : P_X11_lost v0 v1 (fun r T => Q r T ∧ KV v0 S T) S := kv_X11_lost_0 h (kv_rf _ S)
set_option maxRecDepth 20000 in
set_option maxHeartbeats 1000000 in
theorem kv_X11_air_30 {Q : Int32 → HS → Prop} {v0 : Nat} {S0 S : HS} (h : P_X11_air_30 Q v0 S) (K : KV v0 S0 S) : P_X11_air_30 (fun r T => Q r T ∧ KV v0 S0 T) v0 S := by
  delta P_X11_air_30 at h ⊢
  obtain ⟨c1, h⟩ := h
  refine ⟨c1, ?_⟩
  refine cm_X11_lost (kv_X11_lost h) h (fun x2 x3 p5 h g4 => ?_)
  have h := h g4
  have K := kv_tr K p5.2
  exact ⟨h, K⟩
set_option maxRecDepth 20000 in
set_option maxHeartbeats 1000000 in
theorem kv_X11_air_0 {Q : Int32 → HS → Prop} {v0 : Nat} {v1 : Int32} {v2 : Int32} {v3 : Int32} {S0 S : HS} (h : P_X11_air_0 Q v0 v1 v2 v3 S) (K : KV v0 S0 S) : P_X11_air_0 (fun r T => Q r T ∧ KV v0 S0 T) v0 v1 v2 v3 S := by
  delta P_X11_air_0 at h ⊢
  obtain ⟨c1, h⟩ := h
  refine ⟨c1, ?_⟩
  intro x3 e2
  have h := h x3 e2
  have K := kv_I K e2
  refine cm_X11_isRoad (kz_X11_isRoad h) h (fun x4 x5 p8 h g6 g7 => ?_)
  have h := h g6 g7
  have K := kv_Z K p8.2
  refine ⟨?_, ?_⟩
  · intro c9
    have h := h.1 c9
    exact kv_X11_air_30 h K
  · intro c10
    have h := h.2 c10
    refine cm_X11_in (kz_X11_in h) h (fun x11 x12 p15 h g13 g14 => ?_)
    have h := h g13 g14
    have K := kv_Z K p15.2
    refine ⟨?_, ?_⟩
    · intro c16
      have h := h.1 c16
      exact kv_X11_air_30 h K
    · intro c17
      have h := h.2 c17
      refine cm_X11_isHour (kz_X11_isHour h) h (fun x18 x19 p22 h g20 g21 => ?_)
      have h := h g20 g21
      have K := kv_Z K p22.2
      refine ⟨?_, ?_⟩
      · intro c23
        have h := h.1 c23
        obtain ⟨b24, e25, h⟩ := h
        refine ⟨b24, e25, ?_⟩
        obtain ⟨c26, h⟩ := h
        refine ⟨c26, ?_⟩
        refine cm_X10_air (kz_X10_air h) h (fun x27 x28 p30 h g29 => ?_)
        have h := h g29
        have K := kv_Z K p30.2
        refine cm_X11_good (kv_X11_good h) h (fun x31 x32 p34 h g33 => ?_)
        have h := h g33
        have K := kv_tr K p34.2
        exact ⟨h, K⟩
      · intro c35
        have h := h.2 c35
        exact kv_X11_air_30 h K
theorem kv_X11_air {Q : Int32 → HS → Prop} {v0 : Nat} {v1 : Int32} {v2 : Int32} {v3 : Int32} {S : HS} (h : P_X11_air v0 v1 v2 v3 Q S) : P_X11_air v0 v1 v2 v3 (fun r T => Q r T ∧ KV v0 S T) S := kv_X11_air_0 h (kv_rf _ S)
set_option maxRecDepth 20000 in
set_option maxHeartbeats 1000000 in
theorem kv_X11_denied_0 {Q : Int32 → HS → Prop} {v0 : Nat} {v1 : Int32} {S0 S : HS} (h : P_X11_denied_0 Q v0 v1 S) (K : KV v0 S0 S) : P_X11_denied_0 (fun r T => Q r T ∧ KV v0 S0 T) v0 v1 S := by
  delta P_X11_denied_0 at h ⊢
  obtain ⟨c1, h⟩ := h
  refine ⟨c1, ?_⟩
  refine cm_X11_refused (kv_X11_refused h) h (fun x2 x3 p5 h g4 => ?_)
  have h := h g4
  have K := kv_tr K p5.2
  exact ⟨h, K⟩
theorem kv_X11_denied {Q : Int32 → HS → Prop} {v0 : Nat} {v1 : Int32} {S : HS} (h : P_X11_denied v0 v1 Q S) : P_X11_denied v0 v1 (fun r T => Q r T ∧ KV v0 S T) S := kv_X11_denied_0 h (kv_rf _ S)
set_option maxRecDepth 20000 in
set_option maxHeartbeats 1000000 in
theorem kv_X11_granted_0 {Q : Int32 → HS → Prop} {v0 : Nat} {S0 S : HS} (h : P_X11_granted_0 Q v0 S) (K : KV v0 S0 S) : P_X11_granted_0 (fun r T => Q r T ∧ KV v0 S0 T) v0 S := by
  delta P_X11_granted_0 at h ⊢
  obtain ⟨c1, h⟩ := h
  refine ⟨c1, ?_⟩
  refine cm_X11_good (kv_X11_good h) h (fun x2 x3 p5 h g4 => ?_)
  have h := h g4
  have K := kv_tr K p5.2
  exact ⟨h, K⟩
theorem kv_X11_granted {Q : Int32 → HS → Prop} {v0 : Nat} {S : HS} (h : P_X11_granted v0 Q S) : P_X11_granted v0 (fun r T => Q r T ∧ KV v0 S T) S := kv_X11_granted_0 h (kv_rf _ S)
set_option maxRecDepth 20000 in
set_option maxHeartbeats 1000000 in
theorem kz_X11_isDay_0 {Q : Int32 → HS → Prop} {v0 : Nat} {S0 S : HS} (h : P_X11_isDay_0 Q v0 S) (K : KZ S0 S) : P_X11_isDay_0 (fun r T => Q r T ∧ KZ S0 T) v0 S := by
  delta P_X11_isDay_0 at h ⊢
  obtain ⟨c1, h⟩ := h
  refine ⟨c1, ?_⟩
  refine ⟨?_, ?_⟩
  · intro c2
    have h := h.1 c2
    exact ⟨h, K⟩
  · intro x3 c4
    have h := h.2 x3 c4
    intro x6 e5
    have h := h x6 e5
    refine ⟨?_, ?_⟩
    · intro c7
      have h := h.1 c7
      exact ⟨h, K⟩
    · intro c8
      have h := h.2 c8
      exact ⟨h, K⟩
theorem kz_X11_isDay {Q : Int32 → HS → Prop} {v0 : Nat} {S : HS} (h : P_X11_isDay v0 Q S) : P_X11_isDay v0 (fun r T => Q r T ∧ KZ S T) S := kz_X11_isDay_0 h (kz_rf S)
set_option maxRecDepth 20000 in
set_option maxHeartbeats 1000000 in
theorem kv_X11_back_24 {Q : Int32 → HS → Prop} {v0 : Nat} {S0 S : HS} (h : P_X11_back_24 Q v0 S) (K : KV v0 S0 S) : P_X11_back_24 (fun r T => Q r T ∧ KV v0 S0 T) v0 S := by
  delta P_X11_back_24 at h ⊢
  obtain ⟨c1, h⟩ := h
  refine ⟨c1, ?_⟩
  refine cm_X11_denied (kv_X11_denied h) h (fun x2 x3 p6 h g4 g5 => ?_)
  have h := h g4 g5
  have K := kv_tr K p6.2
  obtain ⟨c7, h⟩ := h
  refine ⟨c7, ?_⟩
  exact ⟨h, K⟩
set_option maxRecDepth 20000 in
set_option maxHeartbeats 1000000 in
theorem kvB_X11_back_32 {Q : Int32 → HS → Prop} {X32 X32_2 : Nat → Int32 → Int32 → HS → Prop} {v0 : Nat} {v1 : Int32} {v2 : Int32} {S0 S : HS} (h : B_X11_back_32 Q X32 v0 v1 v2 S) (K : KV v0 S0 S) (hX32 : ∀ (u0 : Nat) (u1 : Int32) (u2 : Int32) (u3 : HS), X32 u0 u1 u2 u3 → u0 = v0 → KV v0 S0 u3 → X32_2 u0 u1 u2 u3) : B_X11_back_32 (fun r T => Q r T ∧ KV v0 S0 T) X32_2 v0 v1 v2 S := by
  delta B_X11_back_32 at h ⊢
  refine ⟨?_, ?_⟩
  · intro c1
    have h := h.1 c1
    obtain ⟨c2, h⟩ := h
    refine ⟨c2, ?_⟩
    intro x4 e3
    have h := h x4 e3
    have K := kv_I K e3
    refine cm_X11_granted (kv_X11_granted h) h (fun x5 x6 p9 h g7 g8 => ?_)
    have h := h g7 g8
    have K := kv_tr K p9.2
    obtain ⟨c10, h⟩ := h
    refine ⟨c10, ?_⟩
    exact ⟨h, K⟩
  · intro c11
    have h := h.2 c11
    obtain ⟨c12, h⟩ := h
    refine ⟨c12, ?_⟩
    obtain ⟨b13, e14, h⟩ := h
    refine ⟨b13, e14, ?_⟩
    obtain ⟨b15, e16, h⟩ := h
    refine ⟨b15, e16, ?_⟩
    obtain ⟨c17, h⟩ := h
    refine ⟨c17, ?_⟩
    intro x19 e18
    have h := h x19 e18
    obtain ⟨c20, h⟩ := h
    refine ⟨c20, ?_⟩
    intro x22 e21
    have h := h x22 e21
    obtain ⟨c23, h⟩ := h
    refine ⟨c23, ?_⟩
    obtain ⟨c24, h⟩ := h
    refine ⟨c24, ?_⟩
    intro x26 e25
    have h := h x26 e25
    have K := kv_J K e25
    intro x28 e27
    have h := h x28 e27
    exact hX32 _ _ _ _ h rfl K
theorem kv_X11_back_32 {Q : Int32 → HS → Prop} {v0 : Nat} {v1 : Int32} {v2 : Int32} {S0 S : HS} (h : P_X11_back_32 Q v0 v1 v2 S) (K : KV v0 S0 S) : P_X11_back_32 (fun r T => Q r T ∧ KV v0 S0 T) v0 v1 v2 S := h (fun w0 v1 v2 S => w0 = v0 → KV v0 S0 S → P_X11_back_32 (fun r T => Q r T ∧ KV v0 S0 T) w0 v1 v2 S) (fun w0 v1 v2 S hB e K => by
  subst e; exact fd_X11_back_32 (kvB_X11_back_32 hB K (fun _ _ _ _ hx e K => hx e K))) rfl K
set_option maxRecDepth 20000 in
set_option maxHeartbeats 1000000 in
theorem kv_X11_back_0 {Q : Int32 → HS → Prop} {v0 : Nat} {v1 : Int32} {S0 S : HS} (h : P_X11_back_0 Q v0 v1 S) (K : KV v0 S0 S) : P_X11_back_0 (fun r T => Q r T ∧ KV v0 S0 T) v0 v1 S := by
  delta P_X11_back_0 at h ⊢
  obtain ⟨c1, h⟩ := h
  refine ⟨c1, ?_⟩
  intro x3 e2
  have h := h x3 e2
  have K := kv_I K e2
  refine cm_X11_isDay (kz_X11_isDay h) h (fun x4 x5 p8 h g6 g7 => ?_)
  have h := h g6 g7
  have K := kv_Z K p8.2
  refine ⟨?_, ?_⟩
  · intro c9
    have h := h.1 c9
    exact kv_X11_back_24 h K
  · intro c10
    have h := h.2 c10
    refine ⟨?_, ?_⟩
    · intro c11
      have h := h.1 c11
      exact kv_X11_back_24 h K
    · intro c12
      have h := h.2 c12
      intro x14 e13
      have h := h x14 e13
      refine ⟨?_, ?_⟩
      · intro c15
        have h := h.1 c15
        exact kv_X11_back_32 h K
      · intro c16
        have h := h.2 c16
        exact kv_X11_back_24 h K
theorem kv_X11_back {Q : Int32 → HS → Prop} {v0 : Nat} {v1 : Int32} {S : HS} (h : P_X11_back v0 v1 Q S) : P_X11_back v0 v1 (fun r T => Q r T ∧ KV v0 S T) S := kv_X11_back_0 h (kv_rf _ S)
set_option maxRecDepth 20000 in
set_option maxHeartbeats 1000000 in
theorem kv_X11_flaw_0 {Q : HS → Prop} {v0 : Nat} {v1 : Int32} {S0 S : HS} (h : P_X11_flaw_0 Q v0 v1 S) (K : KV v0 S0 S) : P_X11_flaw_0 (fun T => Q T ∧ KV v0 S0 T) v0 v1 S := by
  delta P_X11_flaw_0 at h ⊢
  obtain ⟨c1, h⟩ := h
  refine ⟨c1, ?_⟩
  intro x3 e2
  have h := h x3 e2
  refine ⟨?_, ?_⟩
  · intro c4
    have h := h.1 c4
    intro x6 e5
    have h := h x6 e5
    have K := kv_I K e5
    intro x8 e7
    have h := h x8 e7
    intro x10 e9
    have h := h x10 e9
    have K := kv_I K e9
    intro x12 e11
    have h := h x12 e11
    have K := kv_I K e11
    exact ⟨h, K⟩
  · intro c13
    have h := h.2 c13
    exact ⟨h, K⟩
theorem kv_X11_flaw {Q : HS → Prop} {v0 : Nat} {v1 : Int32} {S : HS} (h : P_X11_flaw v0 v1 Q S) : P_X11_flaw v0 v1 (fun T => Q T ∧ KV v0 S T) S := kv_X11_flaw_0 h (kv_rf _ S)
set_option maxRecDepth 20000 in
set_option maxHeartbeats 1000000 in
theorem kz_X11_byteAt_0 {Q : Int32 → HS → Prop} {v0 : Nat} {v1 : Int32} {S0 S : HS} (h : P_X11_byteAt_0 Q v0 v1 S) (K : KZ S0 S) : P_X11_byteAt_0 (fun r T => Q r T ∧ KZ S0 T) v0 v1 S := by
  delta P_X11_byteAt_0 at h ⊢
  obtain ⟨c1, h⟩ := h
  refine ⟨c1, ?_⟩
  intro x3 e2
  have h := h x3 e2
  refine ⟨?_, ?_⟩
  · intro c4
    have h := h.1 c4
    exact ⟨h, K⟩
  · intro c5
    have h := h.2 c5
    obtain ⟨b6, e7, h⟩ := h
    refine ⟨b6, e7, ?_⟩
    obtain ⟨c8, h⟩ := h
    refine ⟨c8, ?_⟩
    obtain ⟨c9, h⟩ := h
    refine ⟨c9, ?_⟩
    intro x11 e10
    have h := h x11 e10
    exact ⟨h, K⟩
theorem kz_X11_byteAt {Q : Int32 → HS → Prop} {v0 : Nat} {v1 : Int32} {S : HS} (h : P_X11_byteAt v0 v1 Q S) : P_X11_byteAt v0 v1 (fun r T => Q r T ∧ KZ S T) S := kz_X11_byteAt_0 h (kz_rf S)
set_option maxRecDepth 20000 in
set_option maxHeartbeats 1000000 in
theorem kz_X11_isDigit_0 {Q : Int32 → HS → Prop} {v0 : Int32} {S0 S : HS} (h : P_X11_isDigit_0 Q v0 S) (K : KZ S0 S) : P_X11_isDigit_0 (fun r T => Q r T ∧ KZ S0 T) v0 S := by
  delta P_X11_isDigit_0 at h ⊢
  refine ⟨?_, ?_⟩
  · intro c1
    have h := h.1 c1
    exact ⟨h, K⟩
  · intro c2
    have h := h.2 c2
    refine ⟨?_, ?_⟩
    · intro c3
      have h := h.1 c3
      exact ⟨h, K⟩
    · intro c4
      have h := h.2 c4
      exact ⟨h, K⟩
theorem kz_X11_isDigit {Q : Int32 → HS → Prop} {v0 : Int32} {S : HS} (h : P_X11_isDigit v0 Q S) : P_X11_isDigit v0 (fun r T => Q r T ∧ KZ S T) S := kz_X11_isDigit_0 h (kz_rf S)
set_option maxRecDepth 20000 in
set_option maxHeartbeats 1000000 in
theorem kz_X11_isLetter_0 {Q : Int32 → HS → Prop} {v0 : Int32} {S0 S : HS} (h : P_X11_isLetter_0 Q v0 S) (K : KZ S0 S) : P_X11_isLetter_0 (fun r T => Q r T ∧ KZ S0 T) v0 S := by
  delta P_X11_isLetter_0 at h ⊢
  refine ⟨?_, ?_⟩
  · intro c1
    have h := h.1 c1
    exact ⟨h, K⟩
  · intro c2
    have h := h.2 c2
    refine ⟨?_, ?_⟩
    · intro c3
      have h := h.1 c3
      exact ⟨h, K⟩
    · intro c4
      have h := h.2 c4
      exact ⟨h, K⟩
theorem kz_X11_isLetter {Q : Int32 → HS → Prop} {v0 : Int32} {S : HS} (h : P_X11_isLetter v0 Q S) : P_X11_isLetter v0 (fun r T => Q r T ∧ KZ S T) S := kz_X11_isLetter_0 h (kz_rf S)
set_option maxRecDepth 20000 in
set_option maxHeartbeats 1000000 in
theorem kv_X11_goesOn_136 {Q : HS → Prop} {X89 X89_2 : Nat → Int32 → HS → Prop} {v0 : Nat} {v2 : Int32} {S0 S : HS} (h : P_X11_goesOn_136 Q X89 v0 v2 S) (K : KV v0 S0 S) (hX89 : ∀ (u0 : Nat) (u1 : Int32) (u2 : HS), X89 u0 u1 u2 → u0 = v0 → KV v0 S0 u2 → X89_2 u0 u1 u2) : P_X11_goesOn_136 (fun T => Q T ∧ KV v0 S0 T) X89_2 v0 v2 S := by
  delta P_X11_goesOn_136 at h ⊢
  intro x2 e1
  have h := h x2 e1
  obtain ⟨c3, h⟩ := h
  refine ⟨c3, ?_⟩
  intro x5 e4
  have h := h x5 e4
  intro x7 e6
  have h := h x7 e6
  intro x9 e8
  have h := h x9 e8
  have K := kv_I K e8
  exact hX89 _ _ _ h rfl K
set_option maxRecDepth 20000 in
set_option maxHeartbeats 1000000 in
theorem kvB_X11_goesOn_89 {Q : HS → Prop} {X89 X89_2 : Nat → Int32 → HS → Prop} {v0 : Nat} {v2 : Int32} {S0 S : HS} (h : B_X11_goesOn_89 Q X89 v0 v2 S) (K : KV v0 S0 S) (hX89 : ∀ (u0 : Nat) (u1 : Int32) (u2 : HS), X89 u0 u1 u2 → u0 = v0 → KV v0 S0 u2 → X89_2 u0 u1 u2) : B_X11_goesOn_89 (fun T => Q T ∧ KV v0 S0 T) X89_2 v0 v2 S := by
  delta B_X11_goesOn_89 at h ⊢
  obtain ⟨c1, h⟩ := h
  refine ⟨c1, ?_⟩
  intro x3 e2
  have h := h x3 e2
  refine cm_X11_byteAt (kz_X11_byteAt h) h (fun x4 x5 p7 h g6 => ?_)
  have h := h g6
  have K := kv_Z K p7.2
  refine cm_X11_isLetter (kz_X11_isLetter h) h (fun x8 x9 p12 h g10 g11 => ?_)
  have h := h g10 g11
  have K := kv_Z K p12.2
  refine ⟨?_, ?_⟩
  · intro c13
    have h := h.1 c13
    refine ⟨?_, ?_⟩
    · intro c14
      have h := h.1 c14
      exact ⟨h, K⟩
    · intro c15
      have h := h.2 c15
      intro x17 e16
      have h := h x17 e16
      have K := kv_I K e16
      exact ⟨h, K⟩
  · intro c18
    have h := h.2 c18
    refine ⟨?_, ?_⟩
    · intro c19
      have h := h.1 c19
      exact kv_X11_goesOn_136 h K hX89
    · intro c20
      have h := h.2 c20
      intro x22 e21
      have h := h x22 e21
      intro x24 e23
      have h := h x24 e23
      refine cm_X11_byteAt (kz_X11_byteAt h) h (fun x25 x26 p28 h g27 => ?_)
      have h := h g27
      have K := kv_Z K p28.2
      intro x30 e29
      have h := h x30 e29
      intro x32 e31
      have h := h x32 e31
      have K := kv_J K e31
      exact kv_X11_goesOn_136 h K hX89
theorem kv_X11_goesOn_89 {Q : HS → Prop} {v0 : Nat} {v2 : Int32} {S0 S : HS} (h : P_X11_goesOn_89 Q v0 v2 S) (K : KV v0 S0 S) : P_X11_goesOn_89 (fun T => Q T ∧ KV v0 S0 T) v0 v2 S := h (fun w0 v2 S => w0 = v0 → KV v0 S0 S → P_X11_goesOn_89 (fun T => Q T ∧ KV v0 S0 T) w0 v2 S) (fun w0 v2 S hB e K => by
  subst e; exact fd_X11_goesOn_89 (kvB_X11_goesOn_89 hB K (fun _ _ _ hx e K => hx e K))) rfl K
set_option maxRecDepth 20000 in
set_option maxHeartbeats 1000000 in
theorem kv_X11_goesOn_220 {Q : HS → Prop} {X178 X178_2 : Nat → Int32 → HS → Prop} {v0 : Nat} {v2 : Int32} {S0 S : HS} (h : P_X11_goesOn_220 Q X178 v0 v2 S) (K : KV v0 S0 S) (hX178 : ∀ (u0 : Nat) (u1 : Int32) (u2 : HS), X178 u0 u1 u2 → u0 = v0 → KV v0 S0 u2 → X178_2 u0 u1 u2) : P_X11_goesOn_220 (fun T => Q T ∧ KV v0 S0 T) X178_2 v0 v2 S := by
  delta P_X11_goesOn_220 at h ⊢
  intro x2 e1
  have h := h x2 e1
  obtain ⟨c3, h⟩ := h
  refine ⟨c3, ?_⟩
  intro x5 e4
  have h := h x5 e4
  intro x7 e6
  have h := h x7 e6
  intro x9 e8
  have h := h x9 e8
  have K := kv_I K e8
  exact hX178 _ _ _ h rfl K
set_option maxRecDepth 20000 in
set_option maxHeartbeats 1000000 in
theorem kvB_X11_goesOn_178 {Q : HS → Prop} {X178 X178_2 : Nat → Int32 → HS → Prop} {v0 : Nat} {v2 : Int32} {S0 S : HS} (h : B_X11_goesOn_178 Q X178 v0 v2 S) (K : KV v0 S0 S) (hX178 : ∀ (u0 : Nat) (u1 : Int32) (u2 : HS), X178 u0 u1 u2 → u0 = v0 → KV v0 S0 u2 → X178_2 u0 u1 u2) : B_X11_goesOn_178 (fun T => Q T ∧ KV v0 S0 T) X178_2 v0 v2 S := by
  delta B_X11_goesOn_178 at h ⊢
  obtain ⟨c1, h⟩ := h
  refine ⟨c1, ?_⟩
  intro x3 e2
  have h := h x3 e2
  refine cm_X11_byteAt (kz_X11_byteAt h) h (fun x4 x5 p7 h g6 => ?_)
  have h := h g6
  have K := kv_Z K p7.2
  refine cm_X11_isDigit (kz_X11_isDigit h) h (fun x8 x9 p12 h g10 g11 => ?_)
  have h := h g10 g11
  have K := kv_Z K p12.2
  refine ⟨?_, ?_⟩
  · intro c13
    have h := h.1 c13
    refine ⟨?_, ?_⟩
    · intro c14
      have h := h.1 c14
      exact ⟨h, K⟩
    · intro c15
      have h := h.2 c15
      intro x17 e16
      have h := h x17 e16
      have K := kv_I K e16
      exact ⟨h, K⟩
  · intro c18
    have h := h.2 c18
    refine ⟨?_, ?_⟩
    · intro c19
      have h := h.1 c19
      exact kv_X11_goesOn_220 h K hX178
    · intro c20
      have h := h.2 c20
      intro x22 e21
      have h := h x22 e21
      intro x24 e23
      have h := h x24 e23
      refine cm_X11_byteAt (kz_X11_byteAt h) h (fun x25 x26 p28 h g27 => ?_)
      have h := h g27
      have K := kv_Z K p28.2
      intro x30 e29
      have h := h x30 e29
      intro x32 e31
      have h := h x32 e31
      have K := kv_I K e31
      exact kv_X11_goesOn_220 h K hX178
theorem kv_X11_goesOn_178 {Q : HS → Prop} {v0 : Nat} {v2 : Int32} {S0 S : HS} (h : P_X11_goesOn_178 Q v0 v2 S) (K : KV v0 S0 S) : P_X11_goesOn_178 (fun T => Q T ∧ KV v0 S0 T) v0 v2 S := h (fun w0 v2 S => w0 = v0 → KV v0 S0 S → P_X11_goesOn_178 (fun T => Q T ∧ KV v0 S0 T) w0 v2 S) (fun w0 v2 S hB e K => by
  subst e; exact fd_X11_goesOn_178 (kvB_X11_goesOn_178 hB K (fun _ _ _ hx e K => hx e K))) rfl K
set_option maxRecDepth 20000 in
set_option maxHeartbeats 1000000 in
theorem kv_X11_goesOn_261 {Q : HS → Prop} {v0 : Nat} {v1 : Int32} {S0 S : HS} (h : P_X11_goesOn_261 Q v0 v1 S) (K : KV v0 S0 S) : P_X11_goesOn_261 (fun T => Q T ∧ KV v0 S0 T) v0 v1 S := by
  delta P_X11_goesOn_261 at h ⊢
  obtain ⟨c1, h⟩ := h
  refine ⟨c1, ?_⟩
  intro x3 e2
  have h := h x3 e2
  have K := kv_I K e2
  intro x5 e4
  have h := h x5 e4
  have K := kv_I K e4
  intro x7 e6
  have h := h x7 e6
  intro x9 e8
  have h := h x9 e8
  intro x11 e10
  have h := h x11 e10
  have K := kv_I K e10
  exact ⟨h, K⟩
set_option maxRecDepth 20000 in
set_option maxHeartbeats 1000000 in
theorem kvB_X11_goesOn_9 {Q : HS → Prop} {X9 X9_2 : Nat → HS → Prop} {v0 : Nat} {S0 S : HS} (h : B_X11_goesOn_9 Q X9 v0 S) (K : KV v0 S0 S) (hX9 : ∀ (u0 : Nat) (u1 : HS), X9 u0 u1 → u0 = v0 → KV v0 S0 u1 → X9_2 u0 u1) : B_X11_goesOn_9 (fun T => Q T ∧ KV v0 S0 T) X9_2 v0 S := by
  delta B_X11_goesOn_9 at h ⊢
  obtain ⟨c1, h⟩ := h
  refine ⟨c1, ?_⟩
  intro x3 e2
  have h := h x3 e2
  refine cm_X11_byteAt (kz_X11_byteAt h) h (fun x4 x5 p7 h g6 => ?_)
  have h := h g6
  have K := kv_Z K p7.2
  refine ⟨?_, ?_⟩
  · intro c8
    have h := h.1 c8
    intro x10 e9
    have h := h x10 e9
    intro x12 e11
    have h := h x12 e11
    have K := kv_I K e11
    intro x14 e13
    have h := h x14 e13
    have K := kv_I K e13
    intro x16 e15
    have h := h x16 e15
    have K := kv_I K e15
    intro x18 e17
    have h := h x18 e17
    refine cm_X11_byteAt (kz_X11_byteAt h) h (fun x19 x20 p22 h g21 => ?_)
    have h := h g21
    have K := kv_Z K p22.2
    refine ⟨?_, ?_⟩
    · intro c23
      have h := h.1 c23
      refine cm_X11_isLetter (kz_X11_isLetter h) h (fun x24 x25 p28 h g26 g27 => ?_)
      have h := h g26 g27
      have K := kv_Z K p28.2
      refine ⟨?_, ?_⟩
      · intro c29
        have h := h.1 c29
        refine cm_X11_isDigit (kz_X11_isDigit h) h (fun x30 x31 p34 h g32 g33 => ?_)
        have h := h g32 g33
        have K := kv_Z K p34.2
        refine ⟨?_, ?_⟩
        · intro c35
          have h := h.1 c35
          refine ⟨?_, ?_⟩
          · intro c36
            have h := h.1 c36
            exact kv_X11_goesOn_261 h K
          · intro c37
            have h := h.2 c37
            refine ⟨?_, ?_⟩
            · intro c38
              have h := h.1 c38
              exact ⟨h, K⟩
            · intro c39
              have h := h.2 c39
              exact kv_X11_goesOn_261 h K
        · intro c40
          have h := h.2 c40
          intro x42 e41
          have h := h x42 e41
          have K := kv_I K e41
          exact kv_X11_goesOn_178 h K
      · intro c43
        have h := h.2 c43
        intro x45 e44
        have h := h x45 e44
        have K := kv_J K e44
        exact kv_X11_goesOn_89 h K
    · intro c46
      have h := h.2 c46
      intro x48 e47
      have h := h x48 e47
      have K := kv_I K e47
      exact ⟨h, K⟩
  · intro c49
    have h := h.2 c49
    intro x51 e50
    have h := h x51 e50
    intro x53 e52
    have h := h x53 e52
    intro x55 e54
    have h := h x55 e54
    have K := kv_I K e54
    exact hX9 _ _ h rfl K
theorem kv_X11_goesOn_9 {Q : HS → Prop} {v0 : Nat} {S0 S : HS} (h : P_X11_goesOn_9 Q v0 S) (K : KV v0 S0 S) : P_X11_goesOn_9 (fun T => Q T ∧ KV v0 S0 T) v0 S := h (fun w0 S => w0 = v0 → KV v0 S0 S → P_X11_goesOn_9 (fun T => Q T ∧ KV v0 S0 T) w0 S) (fun w0 S hB e K => by
  subst e; exact fd_X11_goesOn_9 (kvB_X11_goesOn_9 hB K (fun _ _ hx e K => hx e K))) rfl K
set_option maxRecDepth 20000 in
set_option maxHeartbeats 1000000 in
theorem kv_X11_goesOn_0 {Q : HS → Prop} {v0 : Nat} {S0 S : HS} (h : P_X11_goesOn_0 Q v0 S) (K : KV v0 S0 S) : P_X11_goesOn_0 (fun T => Q T ∧ KV v0 S0 T) v0 S := by
  delta P_X11_goesOn_0 at h ⊢
  obtain ⟨c1, h⟩ := h
  refine ⟨c1, ?_⟩
  intro x3 e2
  have h := h x3 e2
  refine ⟨?_, ?_⟩
  · intro c4
    have h := h.1 c4
    exact kv_X11_goesOn_9 h K
  · intro c5
    have h := h.2 c5
    exact ⟨h, K⟩
theorem kv_X11_goesOn {Q : HS → Prop} {v0 : Nat} {S : HS} (h : P_X11_goesOn v0 Q S) : P_X11_goesOn v0 (fun T => Q T ∧ KV v0 S T) S := kv_X11_goesOn_0 h (kv_rf _ S)
set_option maxRecDepth 20000 in
set_option maxHeartbeats 1000000 in
theorem kv_X11_begins_26 {Q : HS → Prop} {v0 : Nat} {S0 S : HS} (h : P_X11_begins_26 Q v0 S) (K : KV v0 S0 S) : P_X11_begins_26 (fun T => Q T ∧ KV v0 S0 T) v0 S := by
  delta P_X11_begins_26 at h ⊢
  obtain ⟨c1, h⟩ := h
  refine ⟨c1, ?_⟩
  refine cm_X11_goesOn (kv_X11_goesOn h) h (fun x2 p4 h g3 => ?_)
  have h := h g3
  have K := kv_tr K p4.2
  exact ⟨h, K⟩
set_option maxRecDepth 20000 in
set_option maxHeartbeats 1000000 in
theorem kv_X11_begins_10 {Q : HS → Prop} {v0 : Nat} {S0 S : HS} (h : P_X11_begins_10 Q v0 S) (K : KV v0 S0 S) : P_X11_begins_10 (fun T => Q T ∧ KV v0 S0 T) v0 S := by
  delta P_X11_begins_10 at h ⊢
  obtain ⟨c1, h⟩ := h
  refine ⟨c1, ?_⟩
  obtain ⟨b2, e3, h⟩ := h
  refine ⟨b2, e3, ?_⟩
  obtain ⟨c4, h⟩ := h
  refine ⟨c4, ?_⟩
  intro x6 e5
  have h := h x6 e5
  refine ⟨?_, ?_⟩
  · intro c7
    have h := h.1 c7
    exact kv_X11_begins_26 h K
  · intro c8
    have h := h.2 c8
    refine cm_X11_flaw (kv_X11_flaw h) h (fun x9 p11 h g10 => ?_)
    have h := h g10
    have K := kv_tr K p11.2
    exact kv_X11_begins_26 h K
set_option maxRecDepth 20000 in
set_option maxHeartbeats 1000000 in
theorem kv_X11_begins_0 {Q : HS → Prop} {v0 : Nat} {v1 : Int32} {v2 : Int32} {S0 S : HS} (h : P_X11_begins_0 Q v0 v1 v2 S) (K : KV v0 S0 S) : P_X11_begins_0 (fun T => Q T ∧ KV v0 S0 T) v0 v1 v2 S := by
  delta P_X11_begins_0 at h ⊢
  refine ⟨?_, ?_⟩
  · intro c1
    have h := h.1 c1
    exact kv_X11_begins_10 h K
  · intro c2
    have h := h.2 c2
    obtain ⟨c3, h⟩ := h
    refine ⟨c3, ?_⟩
    refine cm_X11_flaw (kv_X11_flaw h) h (fun x4 p6 h g5 => ?_)
    have h := h g5
    have K := kv_tr K p6.2
    exact kv_X11_begins_10 h K
theorem kv_X11_begins {Q : HS → Prop} {v0 : Nat} {v1 : Int32} {v2 : Int32} {S : HS} (h : P_X11_begins v0 v1 v2 Q S) : P_X11_begins v0 v1 v2 (fun T => Q T ∧ KV v0 S T) S := kv_X11_begins_0 h (kv_rf _ S)
set_option maxRecDepth 20000 in
set_option maxHeartbeats 1000000 in
theorem kz_X11_isForward_112 {Q : Int32 → HS → Prop} {v0 : Nat} {v4 : Int32} {v7 : Int32} {v8 : Int32} {v9 : Int32} {s0 : Int32} {S0 S : HS} (h : P_X11_isForward_112 Q v0 v4 v7 v8 v9 s0 S) (K : KZ S0 S) : P_X11_isForward_112 (fun r T => Q r T ∧ KZ S0 T) v0 v4 v7 v8 v9 s0 S := by
  delta P_X11_isForward_112 at h ⊢
  refine ⟨?_, ?_⟩
  · intro c1
    have h := h.1 c1
    exact ⟨h, K⟩
  · intro c2
    have h := h.2 c2
    refine ⟨?_, ?_⟩
    · intro c3
      have h := h.1 c3
      exact ⟨h, K⟩
    · intro c4
      have h := h.2 c4
      obtain ⟨c5, h⟩ := h
      refine ⟨c5, ?_⟩
      obtain ⟨b6, e7, h⟩ := h
      refine ⟨b6, e7, ?_⟩
      obtain ⟨c8, h⟩ := h
      refine ⟨c8, ?_⟩
      obtain ⟨b9, e10, h⟩ := h
      refine ⟨b9, e10, ?_⟩
      obtain ⟨c11, h⟩ := h
      refine ⟨c11, ?_⟩
      obtain ⟨c12, h⟩ := h
      refine ⟨c12, ?_⟩
      intro x14 e13
      have h := h x14 e13
      obtain ⟨b15, e16, h⟩ := h
      refine ⟨b15, e16, ?_⟩
      obtain ⟨c17, h⟩ := h
      refine ⟨c17, ?_⟩
      obtain ⟨b18, e19, h⟩ := h
      refine ⟨b18, e19, ?_⟩
      obtain ⟨c20, h⟩ := h
      refine ⟨c20, ?_⟩
      obtain ⟨c21, h⟩ := h
      refine ⟨c21, ?_⟩
      intro x23 e22
      have h := h x23 e22
      obtain ⟨b24, e25, h⟩ := h
      refine ⟨b24, e25, ?_⟩
      obtain ⟨c26, h⟩ := h
      refine ⟨c26, ?_⟩
      obtain ⟨b27, e28, h⟩ := h
      refine ⟨b27, e28, ?_⟩
      obtain ⟨c29, h⟩ := h
      refine ⟨c29, ?_⟩
      obtain ⟨c30, h⟩ := h
      refine ⟨c30, ?_⟩
      intro x32 e31
      have h := h x32 e31
      refine ⟨?_, ?_⟩
      · intro c33
        have h := h.1 c33
        exact ⟨h, K⟩
      · intro c34
        have h := h.2 c34
        exact ⟨h, K⟩
set_option maxRecDepth 20000 in
set_option maxHeartbeats 1000000 in
theorem kz_X11_isForward_84 {Q : Int32 → HS → Prop} {v0 : Nat} {v2 : Int32} {v4 : Int32} {v7 : Int32} {v8 : Int32} {s0 : Int32} {S0 S : HS} (h : P_X11_isForward_84 Q v0 v2 v4 v7 v8 s0 S) (K : KZ S0 S) : P_X11_isForward_84 (fun r T => Q r T ∧ KZ S0 T) v0 v2 v4 v7 v8 s0 S := by
  delta P_X11_isForward_84 at h ⊢
  obtain ⟨c1, h⟩ := h
  refine ⟨c1, ?_⟩
  obtain ⟨b2, e3, h⟩ := h
  refine ⟨b2, e3, ?_⟩
  obtain ⟨c4, h⟩ := h
  refine ⟨c4, ?_⟩
  obtain ⟨b5, e6, h⟩ := h
  refine ⟨b5, e6, ?_⟩
  obtain ⟨c7, h⟩ := h
  refine ⟨c7, ?_⟩
  obtain ⟨c8, h⟩ := h
  refine ⟨c8, ?_⟩
  intro x10 e9
  have h := h x10 e9
  obtain ⟨b11, e12, h⟩ := h
  refine ⟨b11, e12, ?_⟩
  obtain ⟨c13, h⟩ := h
  refine ⟨c13, ?_⟩
  obtain ⟨b14, e15, h⟩ := h
  refine ⟨b14, e15, ?_⟩
  obtain ⟨c16, h⟩ := h
  refine ⟨c16, ?_⟩
  obtain ⟨c17, h⟩ := h
  refine ⟨c17, ?_⟩
  intro x19 e18
  have h := h x19 e18
  refine ⟨?_, ?_⟩
  · intro c20
    have h := h.1 c20
    exact kz_X11_isForward_112 h K
  · intro c21
    have h := h.2 c21
    exact kz_X11_isForward_112 h K
set_option maxRecDepth 20000 in
set_option maxHeartbeats 1000000 in
theorem kz_X11_isForward_54 {Q : Int32 → HS → Prop} {v0 : Nat} {v1 : Int32} {v2 : Int32} {v4 : Int32} {v6 : Int32} {v7 : Int32} {s0 : Int32} {S0 S : HS} (h : P_X11_isForward_54 Q v0 v1 v2 v4 v6 v7 s0 S) (K : KZ S0 S) : P_X11_isForward_54 (fun r T => Q r T ∧ KZ S0 T) v0 v1 v2 v4 v6 v7 s0 S := by
  delta P_X11_isForward_54 at h ⊢
  obtain ⟨c1, h⟩ := h
  refine ⟨c1, ?_⟩
  obtain ⟨b2, e3, h⟩ := h
  refine ⟨b2, e3, ?_⟩
  obtain ⟨c4, h⟩ := h
  refine ⟨c4, ?_⟩
  obtain ⟨b5, e6, h⟩ := h
  refine ⟨b5, e6, ?_⟩
  obtain ⟨c7, h⟩ := h
  refine ⟨c7, ?_⟩
  obtain ⟨c8, h⟩ := h
  refine ⟨c8, ?_⟩
  intro x10 e9
  have h := h x10 e9
  refine ⟨?_, ?_⟩
  · intro c11
    have h := h.1 c11
    obtain ⟨b12, e13, h⟩ := h
    refine ⟨b12, e13, ?_⟩
    obtain ⟨c14, h⟩ := h
    refine ⟨c14, ?_⟩
    obtain ⟨b15, e16, h⟩ := h
    refine ⟨b15, e16, ?_⟩
    obtain ⟨c17, h⟩ := h
    refine ⟨c17, ?_⟩
    obtain ⟨c18, h⟩ := h
    refine ⟨c18, ?_⟩
    intro x20 e19
    have h := h x20 e19
    exact kz_X11_isForward_84 h K
  · intro c21
    have h := h.2 c21
    exact kz_X11_isForward_84 h K
set_option maxRecDepth 20000 in
set_option maxHeartbeats 1000000 in
theorem kz_X11_isForward_0 {Q : Int32 → HS → Prop} {v0 : Nat} {v1 : Int32} {v2 : Int32} {v3 : Int32} {v4 : Int32} {v5 : Int32} {S0 S : HS} (h : P_X11_isForward_0 Q v0 v1 v2 v3 v4 v5 S) (K : KZ S0 S) : P_X11_isForward_0 (fun r T => Q r T ∧ KZ S0 T) v0 v1 v2 v3 v4 v5 S := by
  delta P_X11_isForward_0 at h ⊢
  obtain ⟨c1, h⟩ := h
  refine ⟨c1, ?_⟩
  obtain ⟨b2, e3, h⟩ := h
  refine ⟨b2, e3, ?_⟩
  obtain ⟨c4, h⟩ := h
  refine ⟨c4, ?_⟩
  refine cm_X10_shield (kz_X10_shield h) h (fun x5 x6 p8 h g7 => ?_)
  have h := h g7
  have K := kz_Z K p8.2
  obtain ⟨b9, e10, h⟩ := h
  refine ⟨b9, e10, ?_⟩
  obtain ⟨c11, h⟩ := h
  refine ⟨c11, ?_⟩
  refine cm_X10_air (kz_X10_air h) h (fun x12 x13 p15 h g14 => ?_)
  have h := h g14
  have K := kz_Z K p15.2
  intro x17 e16
  have h := h x17 e16
  obtain ⟨b18, e19, h⟩ := h
  refine ⟨b18, e19, ?_⟩
  obtain ⟨c20, h⟩ := h
  refine ⟨c20, ?_⟩
  obtain ⟨b21, e22, h⟩ := h
  refine ⟨b21, e22, ?_⟩
  obtain ⟨c23, h⟩ := h
  refine ⟨c23, ?_⟩
  obtain ⟨c24, h⟩ := h
  refine ⟨c24, ?_⟩
  intro x26 e25
  have h := h x26 e25
  refine ⟨?_, ?_⟩
  · intro c27
    have h := h.1 c27
    obtain ⟨b28, e29, h⟩ := h
    refine ⟨b28, e29, ?_⟩
    obtain ⟨c30, h⟩ := h
    refine ⟨c30, ?_⟩
    obtain ⟨b31, e32, h⟩ := h
    refine ⟨b31, e32, ?_⟩
    obtain ⟨c33, h⟩ := h
    refine ⟨c33, ?_⟩
    obtain ⟨c34, h⟩ := h
    refine ⟨c34, ?_⟩
    intro x36 e35
    have h := h x36 e35
    exact kz_X11_isForward_54 h K
  · intro c37
    have h := h.2 c37
    exact kz_X11_isForward_54 h K
theorem kz_X11_isForward {Q : Int32 → HS → Prop} {v0 : Nat} {v1 : Int32} {v2 : Int32} {v3 : Int32} {v4 : Int32} {v5 : Int32} {S : HS} (h : P_X11_isForward v0 v1 v2 v3 v4 v5 Q S) : P_X11_isForward v0 v1 v2 v3 v4 v5 (fun r T => Q r T ∧ KZ S T) S := kz_X11_isForward_0 h (kz_rf S)
set_option maxRecDepth 20000 in
set_option maxHeartbeats 1000000 in
theorem kz_X11_less_0 {Q : Int32 → HS → Prop} {v0 : Int32} {v1 : Int32} {S0 S : HS} (h : P_X11_less_0 Q v0 v1 S) (K : KZ S0 S) : P_X11_less_0 (fun r T => Q r T ∧ KZ S0 T) v0 v1 S := by
  delta P_X11_less_0 at h ⊢
  refine ⟨?_, ?_⟩
  · intro c1
    have h := h.1 c1
    exact ⟨h, K⟩
  · intro c2
    have h := h.2 c2
    exact ⟨h, K⟩
theorem kz_X11_less {Q : Int32 → HS → Prop} {v0 : Int32} {v1 : Int32} {S : HS} (h : P_X11_less v0 v1 Q S) : P_X11_less v0 v1 (fun r T => Q r T ∧ KZ S T) S := kz_X11_less_0 h (kz_rf S)
set_option maxRecDepth 20000 in
set_option maxHeartbeats 1000000 in
theorem kz_X11_inTime_129 {Q : Int32 → HS → Prop} {s0 : Int32} {s1 : Int32} {s2 : Int32} {S0 S : HS} (h : P_X11_inTime_129 Q s0 s1 s2 S) (K : KZ S0 S) : P_X11_inTime_129 (fun r T => Q r T ∧ KZ S0 T) s0 s1 s2 S := by
  delta P_X11_inTime_129 at h ⊢
  refine cm_X11_less (kz_X11_less h) h (fun x1 x2 p4 h g3 => ?_)
  have h := h g3
  have K := kz_Z K p4.2
  exact ⟨h, K⟩
set_option maxRecDepth 20000 in
set_option maxHeartbeats 1000000 in
theorem kz_X11_inTime_164 {Q : Int32 → HS → Prop} {v7 : Int32} {s0 : Int32} {s1 : Int32} {s2 : Int32} {S0 S : HS} (h : P_X11_inTime_164 Q v7 s0 s1 s2 S) (K : KZ S0 S) : P_X11_inTime_164 (fun r T => Q r T ∧ KZ S0 T) v7 s0 s1 s2 S := by
  delta P_X11_inTime_164 at h ⊢
  refine cm_X11_less (kz_X11_less h) h (fun x1 x2 p4 h g3 => ?_)
  have h := h g3
  have K := kz_Z K p4.2
  refine cm_X11_less (kz_X11_less h) h (fun x5 x6 p8 h g7 => ?_)
  have h := h g7
  have K := kz_Z K p8.2
  exact ⟨h, K⟩
set_option maxRecDepth 20000 in
set_option maxHeartbeats 1000000 in
theorem kz_X11_inTime_0 {Q : Int32 → HS → Prop} {v0 : Nat} {v1 : Int32} {v2 : Int32} {v3 : Int32} {v4 : Int32} {v5 : Int32} {v6 : Int32} {v7 : Int32} {v8 : Int32} {S0 S : HS} (h : P_X11_inTime_0 Q v0 v1 v2 v3 v4 v5 v6 v7 v8 S) (K : KZ S0 S) : P_X11_inTime_0 (fun r T => Q r T ∧ KZ S0 T) v0 v1 v2 v3 v4 v5 v6 v7 v8 S := by
  delta P_X11_inTime_0 at h ⊢
  obtain ⟨c1, h⟩ := h
  refine ⟨c1, ?_⟩
  obtain ⟨b2, e3, h⟩ := h
  refine ⟨b2, e3, ?_⟩
  obtain ⟨c4, h⟩ := h
  refine ⟨c4, ?_⟩
  obtain ⟨b5, e6, h⟩ := h
  refine ⟨b5, e6, ?_⟩
  obtain ⟨c7, h⟩ := h
  refine ⟨c7, ?_⟩
  obtain ⟨c8, h⟩ := h
  refine ⟨c8, ?_⟩
  intro x10 e9
  have h := h x10 e9
  obtain ⟨b11, e12, h⟩ := h
  refine ⟨b11, e12, ?_⟩
  obtain ⟨c13, h⟩ := h
  refine ⟨c13, ?_⟩
  refine cm_X10_air (kz_X10_air h) h (fun x14 x15 p17 h g16 => ?_)
  have h := h g16
  have K := kz_Z K p17.2
  intro x19 e18
  have h := h x19 e18
  obtain ⟨b20, e21, h⟩ := h
  refine ⟨b20, e21, ?_⟩
  obtain ⟨c22, h⟩ := h
  refine ⟨c22, ?_⟩
  refine cm_X10_across (kz_X10_across h) h (fun x23 x24 p26 h g25 => ?_)
  have h := h g25
  have K := kz_Z K p26.2
  refine cm_X11_isForward (kz_X11_isForward h) h (fun x27 x28 p31 h g29 g30 => ?_)
  have h := h g29 g30
  have K := kz_Z K p31.2
  obtain ⟨b32, e33, h⟩ := h
  refine ⟨b32, e33, ?_⟩
  obtain ⟨c34, h⟩ := h
  refine ⟨c34, ?_⟩
  refine cm_X10_shield (kz_X10_shield h) h (fun x35 x36 p38 h g37 => ?_)
  have h := h g37
  have K := kz_Z K p38.2
  refine ⟨?_, ?_, ?_, ?_, ?_⟩
  · intro c39
    have h := h.1 c39
    refine ⟨?_, ?_⟩
    · intro c40
      have h := h.1 c40
      exact ⟨h, K⟩
    · intro c41
      have h := h.2 c41
      obtain ⟨b42, e43, h⟩ := h
      refine ⟨b42, e43, ?_⟩
      obtain ⟨c44, h⟩ := h
      refine ⟨c44, ?_⟩
      obtain ⟨b45, e46, h⟩ := h
      refine ⟨b45, e46, ?_⟩
      obtain ⟨c47, h⟩ := h
      refine ⟨c47, ?_⟩
      obtain ⟨c48, h⟩ := h
      refine ⟨c48, ?_⟩
      intro x50 e49
      have h := h x50 e49
      exact ⟨h, K⟩
  · intro c51
    have h := h.2.1 c51
    obtain ⟨b52, e53, h⟩ := h
    refine ⟨b52, e53, ?_⟩
    obtain ⟨c54, h⟩ := h
    refine ⟨c54, ?_⟩
    obtain ⟨b55, e56, h⟩ := h
    refine ⟨b55, e56, ?_⟩
    obtain ⟨c57, h⟩ := h
    refine ⟨c57, ?_⟩
    obtain ⟨c58, h⟩ := h
    refine ⟨c58, ?_⟩
    intro x60 e59
    have h := h x60 e59
    obtain ⟨b61, e62, h⟩ := h
    refine ⟨b61, e62, ?_⟩
    obtain ⟨c63, h⟩ := h
    refine ⟨c63, ?_⟩
    obtain ⟨b64, e65, h⟩ := h
    refine ⟨b64, e65, ?_⟩
    obtain ⟨c66, h⟩ := h
    refine ⟨c66, ?_⟩
    obtain ⟨c67, h⟩ := h
    refine ⟨c67, ?_⟩
    intro x69 e68
    have h := h x69 e68
    refine ⟨?_, ?_⟩
    · intro c70
      have h := h.1 c70
      exact kz_X11_inTime_129 h K
    · intro c71
      have h := h.2 c71
      exact kz_X11_inTime_129 h K
  · intro c72
    have h := h.2.2.1 c72
    refine ⟨?_, ?_⟩
    · intro c73
      have h := h.1 c73
      exact ⟨h, K⟩
    · intro c74
      have h := h.2 c74
      obtain ⟨b75, e76, h⟩ := h
      refine ⟨b75, e76, ?_⟩
      obtain ⟨c77, h⟩ := h
      refine ⟨c77, ?_⟩
      obtain ⟨b78, e79, h⟩ := h
      refine ⟨b78, e79, ?_⟩
      obtain ⟨c80, h⟩ := h
      refine ⟨c80, ?_⟩
      obtain ⟨c81, h⟩ := h
      refine ⟨c81, ?_⟩
      intro x83 e82
      have h := h x83 e82
      refine ⟨?_, ?_⟩
      · intro c84
        have h := h.1 c84
        exact kz_X11_inTime_164 h K
      · intro c85
        have h := h.2 c85
        exact kz_X11_inTime_164 h K
  · intro c86
    have h := h.2.2.2.1 c86
    refine ⟨?_, ?_⟩
    · intro c87
      have h := h.1 c87
      exact ⟨h, K⟩
    · intro c88
      have h := h.2 c88
      obtain ⟨b89, e90, h⟩ := h
      refine ⟨b89, e90, ?_⟩
      obtain ⟨c91, h⟩ := h
      refine ⟨c91, ?_⟩
      obtain ⟨b92, e93, h⟩ := h
      refine ⟨b92, e93, ?_⟩
      obtain ⟨c94, h⟩ := h
      refine ⟨c94, ?_⟩
      obtain ⟨c95, h⟩ := h
      refine ⟨c95, ?_⟩
      intro x97 e96
      have h := h x97 e96
      refine cm_X11_less (kz_X11_less h) h (fun x98 x99 p101 h g100 => ?_)
      have h := h g100
      have K := kz_Z K p101.2
      exact ⟨h, K⟩
  · intro c102
    have h := h.2.2.2.2 c102
    refine ⟨?_, ?_⟩
    · intro c103
      have h := h.1 c103
      exact ⟨h, K⟩
    · intro c104
      have h := h.2 c104
      obtain ⟨b105, e106, h⟩ := h
      refine ⟨b105, e106, ?_⟩
      obtain ⟨c107, h⟩ := h
      refine ⟨c107, ?_⟩
      obtain ⟨b108, e109, h⟩ := h
      refine ⟨b108, e109, ?_⟩
      obtain ⟨c110, h⟩ := h
      refine ⟨c110, ?_⟩
      obtain ⟨c111, h⟩ := h
      refine ⟨c111, ?_⟩
      intro x113 e112
      have h := h x113 e112
      exact ⟨h, K⟩
theorem kz_X11_inTime {Q : Int32 → HS → Prop} {v0 : Nat} {v1 : Int32} {v2 : Int32} {v3 : Int32} {v4 : Int32} {v5 : Int32} {v6 : Int32} {v7 : Int32} {v8 : Int32} {S : HS} (h : P_X11_inTime v0 v1 v2 v3 v4 v5 v6 v7 v8 Q S) : P_X11_inTime v0 v1 v2 v3 v4 v5 v6 v7 v8 (fun r T => Q r T ∧ KZ S T) S := kz_X11_inTime_0 h (kz_rf S)
set_option maxRecDepth 20000 in
set_option maxHeartbeats 1000000 in
theorem kz_X11_partsOf_0 {Q : Int64 → HS → Prop} {v0 : Nat} {v1 : Int32} {v2 : Int32} {v3 : Int32} {v4 : Int32} {v5 : Int32} {v6 : Int32} {S0 S : HS} (h : P_X11_partsOf_0 Q v0 v1 v2 v3 v4 v5 v6 S) (K : KZ S0 S) : P_X11_partsOf_0 (fun r T => Q r T ∧ KZ S0 T) v0 v1 v2 v3 v4 v5 v6 S := by
  delta P_X11_partsOf_0 at h ⊢
  obtain ⟨c1, h⟩ := h
  refine ⟨c1, ?_⟩
  refine cm_X11_inTime (kz_X11_inTime h) h (fun x2 x3 p5 h g4 => ?_)
  have h := h g4
  have K := kz_Z K p5.2
  obtain ⟨b6, e7, h⟩ := h
  refine ⟨b6, e7, ?_⟩
  obtain ⟨c8, h⟩ := h
  refine ⟨c8, ?_⟩
  obtain ⟨b9, e10, h⟩ := h
  refine ⟨b9, e10, ?_⟩
  obtain ⟨c11, h⟩ := h
  refine ⟨c11, ?_⟩
  obtain ⟨c12, h⟩ := h
  refine ⟨c12, ?_⟩
  intro x14 e13
  have h := h x14 e13
  obtain ⟨b15, e16, h⟩ := h
  refine ⟨b15, e16, ?_⟩
  obtain ⟨c17, h⟩ := h
  refine ⟨c17, ?_⟩
  obtain ⟨b18, e19, h⟩ := h
  refine ⟨b18, e19, ?_⟩
  obtain ⟨c20, h⟩ := h
  refine ⟨c20, ?_⟩
  obtain ⟨c21, h⟩ := h
  refine ⟨c21, ?_⟩
  intro x23 e22
  have h := h x23 e22
  obtain ⟨c24, h⟩ := h
  refine ⟨c24, ?_⟩
  intro x26 e25
  have h := h x26 e25
  exact ⟨h, K⟩
theorem kz_X11_partsOf {Q : Int64 → HS → Prop} {v0 : Nat} {v1 : Int32} {v2 : Int32} {v3 : Int32} {v4 : Int32} {v5 : Int32} {v6 : Int32} {S : HS} (h : P_X11_partsOf v0 v1 v2 v3 v4 v5 v6 Q S) : P_X11_partsOf v0 v1 v2 v3 v4 v5 v6 (fun r T => Q r T ∧ KZ S T) S := kz_X11_partsOf_0 h (kz_rf S)
set_option maxRecDepth 20000 in
set_option maxHeartbeats 1000000 in
theorem kzB_X11_wetOf_6 {Q : Int64 → HS → Prop} {X6 X6_2 : Nat → Int32 → Int32 → Int32 → Int32 → Int32 → Int64 → Int32 → HS → Prop} {v0 : Nat} {v1 : Int32} {v2 : Int32} {v3 : Int32} {v4 : Int32} {v5 : Int32} {v6 : Int64} {v8 : Int32} {S0 S : HS} (h : B_X11_wetOf_6 Q X6 v0 v1 v2 v3 v4 v5 v6 v8 S) (K : KZ S0 S) (hX6 : ∀ (u0 : Nat) (u1 : Int32) (u2 : Int32) (u3 : Int32) (u4 : Int32) (u5 : Int32) (u6 : Int64) (u7 : Int32) (u8 : HS), X6 u0 u1 u2 u3 u4 u5 u6 u7 u8 → KZ S0 u8 → X6_2 u0 u1 u2 u3 u4 u5 u6 u7 u8) : B_X11_wetOf_6 (fun r T => Q r T ∧ KZ S0 T) X6_2 v0 v1 v2 v3 v4 v5 v6 v8 S := by
  delta B_X11_wetOf_6 at h ⊢
  refine ⟨?_, ?_⟩
  · intro c1
    have h := h.1 c1
    exact ⟨h, K⟩
  · intro c2
    have h := h.2 c2
    obtain ⟨c3, h⟩ := h
    refine ⟨c3, ?_⟩
    refine cm_X11_partsOf (kz_X11_partsOf h) h (fun x4 x5 p7 h g6 => ?_)
    have h := h g6
    have K := kz_Z K p7.2
    intro x9 e8
    have h := h x9 e8
    intro x11 e10
    have h := h x11 e10
    exact hX6 _ _ _ _ _ _ _ _ _ h K
theorem kz_X11_wetOf_6 {Q : Int64 → HS → Prop} {v0 : Nat} {v1 : Int32} {v2 : Int32} {v3 : Int32} {v4 : Int32} {v5 : Int32} {v6 : Int64} {v8 : Int32} {S0 S : HS} (h : P_X11_wetOf_6 Q v0 v1 v2 v3 v4 v5 v6 v8 S) (K : KZ S0 S) : P_X11_wetOf_6 (fun r T => Q r T ∧ KZ S0 T) v0 v1 v2 v3 v4 v5 v6 v8 S := h (fun w0 v1 v2 v3 v4 v5 v6 v8 S => KZ S0 S → P_X11_wetOf_6 (fun r T => Q r T ∧ KZ S0 T) w0 v1 v2 v3 v4 v5 v6 v8 S) (fun w0 v1 v2 v3 v4 v5 v6 v8 S hB K => by
  exact fd_X11_wetOf_6 (kzB_X11_wetOf_6 hB K (fun _ _ _ _ _ _ _ _ _ hx K => hx K))) K
set_option maxRecDepth 20000 in
set_option maxHeartbeats 1000000 in
theorem kz_X11_wetOf_0 {Q : Int64 → HS → Prop} {v0 : Nat} {v1 : Int32} {v2 : Int32} {v3 : Int32} {v4 : Int32} {v5 : Int32} {S0 S : HS} (h : P_X11_wetOf_0 Q v0 v1 v2 v3 v4 v5 S) (K : KZ S0 S) : P_X11_wetOf_0 (fun r T => Q r T ∧ KZ S0 T) v0 v1 v2 v3 v4 v5 S := by
  delta P_X11_wetOf_0 at h ⊢
  exact kz_X11_wetOf_6 h K
theorem kz_X11_wetOf {Q : Int64 → HS → Prop} {v0 : Nat} {v1 : Int32} {v2 : Int32} {v3 : Int32} {v4 : Int32} {v5 : Int32} {S : HS} (h : P_X11_wetOf v0 v1 v2 v3 v4 v5 Q S) : P_X11_wetOf v0 v1 v2 v3 v4 v5 (fun r T => Q r T ∧ KZ S T) S := kz_X11_wetOf_0 h (kz_rf S)
set_option maxRecDepth 20000 in
set_option maxHeartbeats 1000000 in
theorem kz_X11_bestOf_61 {Q : Int32 → HS → Prop} {X17 X17_2 : Nat → Int32 → Int32 → Int32 → Int32 → Int32 → Int32 → HS → Prop} {v0 : Nat} {v1 : Int32} {v2 : Int32} {v3 : Int32} {v4 : Int32} {v5 : Int32} {v6 : Int32} {S0 S : HS} (h : P_X11_bestOf_61 Q X17 v0 v1 v2 v3 v4 v5 v6 S) (K : KZ S0 S) (hX17 : ∀ (u0 : Nat) (u1 : Int32) (u2 : Int32) (u3 : Int32) (u4 : Int32) (u5 : Int32) (u6 : Int32) (u7 : HS), X17 u0 u1 u2 u3 u4 u5 u6 u7 → KZ S0 u7 → X17_2 u0 u1 u2 u3 u4 u5 u6 u7) : P_X11_bestOf_61 (fun r T => Q r T ∧ KZ S0 T) X17_2 v0 v1 v2 v3 v4 v5 v6 S := by
  delta P_X11_bestOf_61 at h ⊢
  intro x2 e1
  have h := h x2 e1
  exact hX17 _ _ _ _ _ _ _ _ h K
set_option maxRecDepth 20000 in
set_option maxHeartbeats 1000000 in
theorem kzB_X11_bestOf_17 {Q : Int32 → HS → Prop} {X17 X17_2 : Nat → Int32 → Int32 → Int32 → Int32 → Int32 → Int32 → HS → Prop} {v0 : Nat} {v1 : Int32} {v2 : Int32} {v3 : Int32} {v4 : Int32} {v5 : Int32} {v6 : Int32} {S0 S : HS} (h : B_X11_bestOf_17 Q X17 v0 v1 v2 v3 v4 v5 v6 S) (K : KZ S0 S) (hX17 : ∀ (u0 : Nat) (u1 : Int32) (u2 : Int32) (u3 : Int32) (u4 : Int32) (u5 : Int32) (u6 : Int32) (u7 : HS), X17 u0 u1 u2 u3 u4 u5 u6 u7 → KZ S0 u7 → X17_2 u0 u1 u2 u3 u4 u5 u6 u7) : B_X11_bestOf_17 (fun r T => Q r T ∧ KZ S0 T) X17_2 v0 v1 v2 v3 v4 v5 v6 S := by
  delta B_X11_bestOf_17 at h ⊢
  obtain ⟨c1, h⟩ := h
  refine ⟨c1, ?_⟩
  obtain ⟨b2, e3, h⟩ := h
  refine ⟨b2, e3, ?_⟩
  obtain ⟨c4, h⟩ := h
  refine ⟨c4, ?_⟩
  obtain ⟨b5, e6, h⟩ := h
  refine ⟨b5, e6, ?_⟩
  obtain ⟨c7, h⟩ := h
  refine ⟨c7, ?_⟩
  obtain ⟨c8, h⟩ := h
  refine ⟨c8, ?_⟩
  intro x10 e9
  have h := h x10 e9
  refine ⟨?_, ?_⟩
  · intro c11
    have h := h.1 c11
    exact ⟨h, K⟩
  · intro c12
    have h := h.2 c12
    refine cm_X11_wetOf (kz_X11_wetOf h) h (fun x13 x14 p16 h g15 => ?_)
    have h := h g15
    have K := kz_Z K p16.2
    refine cm_X11_wetOf (kz_X11_wetOf h) h (fun x17 x18 p20 h g19 => ?_)
    have h := h g19
    have K := kz_Z K p20.2
    refine ⟨?_, ?_⟩
    · intro c21
      have h := h.1 c21
      exact kz_X11_bestOf_61 h K hX17
    · intro c22
      have h := h.2 c22
      exact kz_X11_bestOf_61 h K hX17
theorem kz_X11_bestOf_17 {Q : Int32 → HS → Prop} {v0 : Nat} {v1 : Int32} {v2 : Int32} {v3 : Int32} {v4 : Int32} {v5 : Int32} {v6 : Int32} {S0 S : HS} (h : P_X11_bestOf_17 Q v0 v1 v2 v3 v4 v5 v6 S) (K : KZ S0 S) : P_X11_bestOf_17 (fun r T => Q r T ∧ KZ S0 T) v0 v1 v2 v3 v4 v5 v6 S := h (fun w0 v1 v2 v3 v4 v5 v6 S => KZ S0 S → P_X11_bestOf_17 (fun r T => Q r T ∧ KZ S0 T) w0 v1 v2 v3 v4 v5 v6 S) (fun w0 v1 v2 v3 v4 v5 v6 S hB K => by
  exact fd_X11_bestOf_17 (kzB_X11_bestOf_17 hB K (fun _ _ _ _ _ _ _ _ hx K => hx K))) K
set_option maxRecDepth 20000 in
set_option maxHeartbeats 1000000 in
theorem kz_X11_bestOf_0 {Q : Int32 → HS → Prop} {v0 : Nat} {v1 : Int32} {v2 : Int32} {v3 : Int32} {v4 : Int32} {S0 S : HS} (h : P_X11_bestOf_0 Q v0 v1 v2 v3 v4 S) (K : KZ S0 S) : P_X11_bestOf_0 (fun r T => Q r T ∧ KZ S0 T) v0 v1 v2 v3 v4 S := by
  delta P_X11_bestOf_0 at h ⊢
  obtain ⟨c1, h⟩ := h
  refine ⟨c1, ?_⟩
  obtain ⟨b2, e3, h⟩ := h
  refine ⟨b2, e3, ?_⟩
  obtain ⟨c4, h⟩ := h
  refine ⟨c4, ?_⟩
  obtain ⟨b5, e6, h⟩ := h
  refine ⟨b5, e6, ?_⟩
  obtain ⟨c7, h⟩ := h
  refine ⟨c7, ?_⟩
  obtain ⟨c8, h⟩ := h
  refine ⟨c8, ?_⟩
  intro x10 e9
  have h := h x10 e9
  intro x12 e11
  have h := h x12 e11
  exact kz_X11_bestOf_17 h K
theorem kz_X11_bestOf {Q : Int32 → HS → Prop} {v0 : Nat} {v1 : Int32} {v2 : Int32} {v3 : Int32} {v4 : Int32} {S : HS} (h : P_X11_bestOf v0 v1 v2 v3 v4 Q S) : P_X11_bestOf v0 v1 v2 v3 v4 (fun r T => Q r T ∧ KZ S T) S := kz_X11_bestOf_0 h (kz_rf S)
set_option maxRecDepth 20000 in
set_option maxHeartbeats 1000000 in
theorem kz_X11_isWalker_0 {Q : Int32 → HS → Prop} {v0 : Nat} {v1 : Int32} {S0 S : HS} (h : P_X11_isWalker_0 Q v0 v1 S) (K : KZ S0 S) : P_X11_isWalker_0 (fun r T => Q r T ∧ KZ S0 T) v0 v1 S := by
  delta P_X11_isWalker_0 at h ⊢
  obtain ⟨c1, h⟩ := h
  refine ⟨c1, ?_⟩
  refine ⟨?_, ?_⟩
  · intro c2
    have h := h.1 c2
    exact ⟨h, K⟩
  · intro x3 c4
    have h := h.2 x3 c4
    refine ⟨?_, ?_⟩
    · intro c5
      have h := h.1 c5
      exact ⟨h, K⟩
    · intro c6
      have h := h.2 c6
      obtain ⟨b7, e8, h⟩ := h
      refine ⟨b7, e8, ?_⟩
      obtain ⟨c9, h⟩ := h
      refine ⟨c9, ?_⟩
      intro x11 e10
      have h := h x11 e10
      refine ⟨?_, ?_⟩
      · intro c12
        have h := h.1 c12
        exact ⟨h, K⟩
      · intro c13
        have h := h.2 c13
        exact ⟨h, K⟩
theorem kz_X11_isWalker {Q : Int32 → HS → Prop} {v0 : Nat} {v1 : Int32} {S : HS} (h : P_X11_isWalker v0 v1 Q S) : P_X11_isWalker v0 v1 (fun r T => Q r T ∧ KZ S T) S := kz_X11_isWalker_0 h (kz_rf S)
set_option maxRecDepth 20000 in
set_option maxHeartbeats 1000000 in
theorem kv_X11_best_39 {Q : Int32 → HS → Prop} {v0 : Nat} {S0 S : HS} (h : P_X11_best_39 Q v0 S) (K : KV v0 S0 S) : P_X11_best_39 (fun r T => Q r T ∧ KV v0 S0 T) v0 S := by
  delta P_X11_best_39 at h ⊢
  obtain ⟨c1, h⟩ := h
  refine ⟨c1, ?_⟩
  refine cm_X11_refused (kv_X11_refused h) h (fun x2 x3 p5 h g4 => ?_)
  have h := h g4
  have K := kv_tr K p5.2
  exact ⟨h, K⟩
set_option maxRecDepth 20000 in
set_option maxHeartbeats 1000000 in
theorem kv_X11_best_0 {Q : Int32 → HS → Prop} {v0 : Nat} {v1 : Int32} {v2 : Int32} {v3 : Int32} {v4 : Int32} {S0 S : HS} (h : P_X11_best_0 Q v0 v1 v2 v3 v4 S) (K : KV v0 S0 S) : P_X11_best_0 (fun r T => Q r T ∧ KV v0 S0 T) v0 v1 v2 v3 v4 S := by
  delta P_X11_best_0 at h ⊢
  obtain ⟨c1, h⟩ := h
  refine ⟨c1, ?_⟩
  intro x3 e2
  have h := h x3 e2
  have K := kv_I K e2
  refine cm_X11_isWalker (kz_X11_isWalker h) h (fun x4 x5 p8 h g6 g7 => ?_)
  have h := h g6 g7
  have K := kv_Z K p8.2
  refine ⟨?_, ?_⟩
  · intro c9
    have h := h.1 c9
    exact kv_X11_best_39 h K
  · intro c10
    have h := h.2 c10
    refine cm_X11_isRoad (kz_X11_isRoad h) h (fun x11 x12 p15 h g13 g14 => ?_)
    have h := h g13 g14
    have K := kv_Z K p15.2
    refine ⟨?_, ?_⟩
    · intro c16
      have h := h.1 c16
      exact kv_X11_best_39 h K
    · intro c17
      have h := h.2 c17
      refine cm_X11_in (kz_X11_in h) h (fun x18 x19 p22 h g20 g21 => ?_)
      have h := h g20 g21
      have K := kv_Z K p22.2
      refine ⟨?_, ?_⟩
      · intro c23
        have h := h.1 c23
        exact kv_X11_best_39 h K
      · intro c24
        have h := h.2 c24
        refine cm_X11_isHour (kz_X11_isHour h) h (fun x25 x26 p29 h g27 g28 => ?_)
        have h := h g27 g28
        have K := kv_Z K p29.2
        refine ⟨?_, ?_⟩
        · intro c30
          have h := h.1 c30
          refine cm_X11_bestOf (kz_X11_bestOf h) h (fun x31 x32 p34 h g33 => ?_)
          have h := h g33
          have K := kv_Z K p34.2
          refine cm_X11_good (kv_X11_good h) h (fun x35 x36 p38 h g37 => ?_)
          have h := h g37
          have K := kv_tr K p38.2
          exact ⟨h, K⟩
        · intro c39
          have h := h.2 c39
          exact kv_X11_best_39 h K
theorem kv_X11_best {Q : Int32 → HS → Prop} {v0 : Nat} {v1 : Int32} {v2 : Int32} {v3 : Int32} {v4 : Int32} {S : HS} (h : P_X11_best v0 v1 v2 v3 v4 Q S) : P_X11_best v0 v1 v2 v3 v4 (fun r T => Q r T ∧ KV v0 S T) S := kv_X11_best_0 h (kv_rf _ S)
set_option maxRecDepth 20000 in
set_option maxHeartbeats 1000000 in
theorem kz_X11_canWait_0 {Q : Int32 → HS → Prop} {v0 : Nat} {v1 : Int32} {S0 S : HS} (h : P_X11_canWait_0 Q v0 v1 S) (K : KZ S0 S) : P_X11_canWait_0 (fun r T => Q r T ∧ KZ S0 T) v0 v1 S := by
  delta P_X11_canWait_0 at h ⊢
  obtain ⟨c1, h⟩ := h
  refine ⟨c1, ?_⟩
  obtain ⟨b2, e3, h⟩ := h
  refine ⟨b2, e3, ?_⟩
  obtain ⟨c4, h⟩ := h
  refine ⟨c4, ?_⟩
  obtain ⟨b5, e6, h⟩ := h
  refine ⟨b5, e6, ?_⟩
  obtain ⟨c7, h⟩ := h
  refine ⟨c7, ?_⟩
  obtain ⟨c8, h⟩ := h
  refine ⟨c8, ?_⟩
  intro x10 e9
  have h := h x10 e9
  refine ⟨?_, ?_⟩
  · intro c11
    have h := h.1 c11
    exact ⟨h, K⟩
  · intro c12
    have h := h.2 c12
    obtain ⟨b13, e14, h⟩ := h
    refine ⟨b13, e14, ?_⟩
    obtain ⟨c15, h⟩ := h
    refine ⟨c15, ?_⟩
    obtain ⟨b16, e17, h⟩ := h
    refine ⟨b16, e17, ?_⟩
    obtain ⟨c18, h⟩ := h
    refine ⟨c18, ?_⟩
    obtain ⟨c19, h⟩ := h
    refine ⟨c19, ?_⟩
    intro x21 e20
    have h := h x21 e20
    refine ⟨?_, ?_⟩
    · intro c22
      have h := h.1 c22
      exact ⟨h, K⟩
    · intro c23
      have h := h.2 c23
      exact ⟨h, K⟩
theorem kz_X11_canWait {Q : Int32 → HS → Prop} {v0 : Nat} {v1 : Int32} {S : HS} (h : P_X11_canWait v0 v1 Q S) : P_X11_canWait v0 v1 (fun r T => Q r T ∧ KZ S T) S := kz_X11_canWait_0 h (kz_rf S)
set_option maxRecDepth 20000 in
set_option maxHeartbeats 1000000 in
theorem kz_X11_isPlace_0 {Q : Int32 → HS → Prop} {v0 : Nat} {v1 : Int32} {S0 S : HS} (h : P_X11_isPlace_0 Q v0 v1 S) (K : KZ S0 S) : P_X11_isPlace_0 (fun r T => Q r T ∧ KZ S0 T) v0 v1 S := by
  delta P_X11_isPlace_0 at h ⊢
  obtain ⟨c1, h⟩ := h
  refine ⟨c1, ?_⟩
  refine ⟨?_, ?_⟩
  · intro c2
    have h := h.1 c2
    exact ⟨h, K⟩
  · intro x3 c4
    have h := h.2 x3 c4
    refine ⟨?_, ?_⟩
    · intro c5
      have h := h.1 c5
      exact ⟨h, K⟩
    · intro c6
      have h := h.2 c6
      obtain ⟨b7, e8, h⟩ := h
      refine ⟨b7, e8, ?_⟩
      obtain ⟨c9, h⟩ := h
      refine ⟨c9, ?_⟩
      intro x11 e10
      have h := h x11 e10
      refine ⟨?_, ?_⟩
      · intro c12
        have h := h.1 c12
        exact ⟨h, K⟩
      · intro c13
        have h := h.2 c13
        exact ⟨h, K⟩
theorem kz_X11_isPlace {Q : Int32 → HS → Prop} {v0 : Nat} {v1 : Int32} {S : HS} (h : P_X11_isPlace v0 v1 Q S) : P_X11_isPlace v0 v1 (fun r T => Q r T ∧ KZ S T) S := kz_X11_isPlace_0 h (kz_rf S)
set_option maxRecDepth 20000 in
set_option maxHeartbeats 1000000 in
theorem ko_X11_day_21 {Q : Int32 → HS → Prop} {v0 : Nat} {S0 S : HS} (h : P_X11_day_21 Q v0 S) (K : KO_M v0 S0 S) : P_X11_day_21 (fun r T => Q r T ∧ KO_M v0 S0 T) v0 S := by
  delta P_X11_day_21 at h ⊢
  obtain ⟨c1, h⟩ := h
  refine ⟨c1, ?_⟩
  refine cm_X11_refused (kv_X11_refused h) h (fun x2 x3 p5 h g4 => ?_)
  have h := h g4
  have K := kom_V K p5.2 owm_r
  exact ⟨h, K⟩
set_option maxRecDepth 20000 in
set_option maxHeartbeats 1000000 in
theorem ko_X11_day_50 {Q : Int32 → HS → Prop} {v0 : Nat} {S0 S : HS} (h : P_X11_day_50 Q v0 S) (K : KO_M v0 S0 S) : P_X11_day_50 (fun r T => Q r T ∧ KO_M v0 S0 T) v0 S := by
  delta P_X11_day_50 at h ⊢
  obtain ⟨c1, h⟩ := h
  refine ⟨c1, ?_⟩
  refine cm_X11_refused (kv_X11_refused h) h (fun x2 x3 p5 h g4 => ?_)
  have h := h g4
  have K := kom_V K p5.2 owm_r
  exact ⟨h, K⟩
set_option maxRecDepth 20000 in
set_option maxHeartbeats 1000000 in
theorem ko_X11_day_134 {Q : Int32 → HS → Prop} {X73 X73_2 : Nat → Int32 → Int32 → Int32 → Int32 → HS → Prop} {v0 : Nat} {v2 : Int32} {v3 : Int32} {v5 : Int32} {v6 : Int32} {s0 : Nat} {s1 : Int32} {s2 : Int32} {S0 S : HS} (h : P_X11_day_134 Q X73 v0 v2 v3 v5 v6 s0 s1 s2 S) (K : KO_M v0 S0 S) (o_s0 : OwS_M v0 S0 s0) (hX73 : ∀ (u0 : Nat) (u1 : Int32) (u2 : Int32) (u3 : Int32) (u4 : Int32) (u5 : HS), X73 u0 u1 u2 u3 u4 u5 → u0 = v0 → KO_M v0 S0 u5 → X73_2 u0 u1 u2 u3 u4 u5) : P_X11_day_134 (fun r T => Q r T ∧ KO_M v0 S0 T) X73_2 v0 v2 v3 v5 v6 s0 s1 s2 S := by
  delta P_X11_day_134 at h ⊢
  obtain ⟨c1, h⟩ := h
  refine ⟨c1, ?_⟩
  intro x3 e2
  have h := h x3 e2
  intro x5 e4
  have h := h x5 e4
  have K := kom_I K e4 o_s0
  intro x7 e6
  have h := h x7 e6
  exact hX73 _ _ _ _ _ _ h rfl K
set_option maxRecDepth 20000 in
set_option maxHeartbeats 1000000 in
theorem koB_X11_day_147 {Q : Int32 → HS → Prop} {X147 X147_2 : Nat → Int32 → Int32 → Int32 → HS → Prop} {v0 : Nat} {v2 : Int32} {v3 : Int32} {v6 : Int32} {S0 S : HS} (h : B_X11_day_147 Q X147 v0 v2 v3 v6 S) (K : KO_M v0 S0 S) (hX147 : ∀ (u0 : Nat) (u1 : Int32) (u2 : Int32) (u3 : Int32) (u4 : HS), X147 u0 u1 u2 u3 u4 → u0 = v0 → KO_M v0 S0 u4 → X147_2 u0 u1 u2 u3 u4) : B_X11_day_147 (fun r T => Q r T ∧ KO_M v0 S0 T) X147_2 v0 v2 v3 v6 S := by
  delta B_X11_day_147 at h ⊢
  refine ⟨?_, ?_⟩
  · intro c1
    have h := h.1 c1
    obtain ⟨c2, h⟩ := h
    refine ⟨c2, ?_⟩
    obtain ⟨b3, e4, h⟩ := h
    refine ⟨b3, e4, ?_⟩
    obtain ⟨c5, h⟩ := h
    refine ⟨c5, ?_⟩
    intro x7 e6
    have h := h x7 e6
    obtain ⟨c8, h⟩ := h
    refine ⟨c8, ?_⟩
    intro x10 e9
    have h := h x10 e9
    have K := kom_J K e9
    obtain ⟨b11, e12, h⟩ := h
    refine ⟨b11, e12, ?_⟩
    obtain ⟨c13, h⟩ := h
    refine ⟨c13, ?_⟩
    intro x15 e14
    have h := h x15 e14
    obtain ⟨c16, h⟩ := h
    refine ⟨c16, ?_⟩
    intro x18 e17
    have h := h x18 e17
    have K := kom_J K e17
    intro x20 e19
    have h := h x20 e19
    have K := kom_I K e19 owm_r
    intro x22 e21
    have h := h x22 e21
    have K := kom_I K e21 owm_r
    intro x24 e23
    have h := h x24 e23
    refine cm_X11_good (kv_X11_good h) h (fun x25 x26 p28 h g27 => ?_)
    have h := h g27
    have K := kom_V K p28.2 owm_r
    exact ⟨h, K⟩
  · intro c29
    have h := h.2 c29
    obtain ⟨c30, h⟩ := h
    refine ⟨c30, ?_⟩
    obtain ⟨b31, e32, h⟩ := h
    refine ⟨b31, e32, ?_⟩
    obtain ⟨c33, h⟩ := h
    refine ⟨c33, ?_⟩
    obtain ⟨c34, h⟩ := h
    refine ⟨c34, ?_⟩
    intro x36 e35
    have h := h x36 e35
    have K := kom_J K e35
    intro x38 e37
    have h := h x38 e37
    exact hX147 _ _ _ _ _ h rfl K
theorem ko_X11_day_147 {Q : Int32 → HS → Prop} {v0 : Nat} {v2 : Int32} {v3 : Int32} {v6 : Int32} {S0 S : HS} (h : P_X11_day_147 Q v0 v2 v3 v6 S) (K : KO_M v0 S0 S) : P_X11_day_147 (fun r T => Q r T ∧ KO_M v0 S0 T) v0 v2 v3 v6 S := h (fun w0 v2 v3 v6 S => w0 = v0 → KO_M v0 S0 S → P_X11_day_147 (fun r T => Q r T ∧ KO_M v0 S0 T) w0 v2 v3 v6 S) (fun w0 v2 v3 v6 S hB e K => by
  subst e; exact fd_X11_day_147 (koB_X11_day_147 hB K (fun _ _ _ _ _ hx e K => hx e K))) rfl K
set_option maxRecDepth 20000 in
set_option maxHeartbeats 1000000 in
theorem koB_X11_day_73 {Q : Int32 → HS → Prop} {X73 X73_2 : Nat → Int32 → Int32 → Int32 → Int32 → HS → Prop} {v0 : Nat} {v2 : Int32} {v3 : Int32} {v5 : Int32} {v6 : Int32} {S0 S : HS} (h : B_X11_day_73 Q X73 v0 v2 v3 v5 v6 S) (K : KO_M v0 S0 S) (hX73 : ∀ (u0 : Nat) (u1 : Int32) (u2 : Int32) (u3 : Int32) (u4 : Int32) (u5 : HS), X73 u0 u1 u2 u3 u4 u5 → u0 = v0 → KO_M v0 S0 u5 → X73_2 u0 u1 u2 u3 u4 u5) : B_X11_day_73 (fun r T => Q r T ∧ KO_M v0 S0 T) X73_2 v0 v2 v3 v5 v6 S := by
  delta B_X11_day_73 at h ⊢
  obtain ⟨c1, h⟩ := h
  refine ⟨c1, ?_⟩
  obtain ⟨b2, e3, h⟩ := h
  refine ⟨b2, e3, ?_⟩
  obtain ⟨c4, h⟩ := h
  refine ⟨c4, ?_⟩
  intro x6 e5
  have h := h x6 e5
  refine ⟨?_, ?_⟩
  · intro c7
    have h := h.1 c7
    exact ko_X11_day_147 h K
  · intro c8
    have h := h.2 c8
    intro x10 e9
    have h := h x10 e9
    intro x12 e11
    have h := h x12 e11
    intro x14 e13
    have h := h x14 e13
    intro x16 e15
    have h := h x16 e15
    obtain ⟨b17, e18, h⟩ := h
    refine ⟨b17, e18, ?_⟩
    obtain ⟨c19, h⟩ := h
    refine ⟨c19, ?_⟩
    obtain ⟨b20, e21, h⟩ := h
    refine ⟨b20, e21, ?_⟩
    obtain ⟨c22, h⟩ := h
    refine ⟨c22, ?_⟩
    obtain ⟨c23, h⟩ := h
    refine ⟨c23, ?_⟩
    intro x25 e24
    have h := h x25 e24
    refine ⟨?_, ?_⟩
    · intro c26
      have h := h.1 c26
      exact ko_X11_day_134 h K owm_r hX73
    · intro c27
      have h := h.2 c27
      exact ko_X11_day_134 h K owm_r hX73
theorem ko_X11_day_73 {Q : Int32 → HS → Prop} {v0 : Nat} {v2 : Int32} {v3 : Int32} {v5 : Int32} {v6 : Int32} {S0 S : HS} (h : P_X11_day_73 Q v0 v2 v3 v5 v6 S) (K : KO_M v0 S0 S) : P_X11_day_73 (fun r T => Q r T ∧ KO_M v0 S0 T) v0 v2 v3 v5 v6 S := h (fun w0 v2 v3 v5 v6 S => w0 = v0 → KO_M v0 S0 S → P_X11_day_73 (fun r T => Q r T ∧ KO_M v0 S0 T) w0 v2 v3 v5 v6 S) (fun w0 v2 v3 v5 v6 S hB e K => by
  subst e; exact fd_X11_day_73 (koB_X11_day_73 hB K (fun _ _ _ _ _ _ hx e K => hx e K))) rfl K
set_option maxRecDepth 20000 in
set_option maxHeartbeats 1000000 in
theorem ko_X11_day_0 {Q : Int32 → HS → Prop} {v0 : Nat} {v1 : Int32} {v2 : Int32} {v3 : Int32} {v4 : Int32} {S0 S : HS} (h : P_X11_day_0 Q v0 v1 v2 v3 v4 S) (K : KO_M v0 S0 S) : P_X11_day_0 (fun r T => Q r T ∧ KO_M v0 S0 T) v0 v1 v2 v3 v4 S := by
  delta P_X11_day_0 at h ⊢
  obtain ⟨c1, h⟩ := h
  refine ⟨c1, ?_⟩
  intro x3 e2
  have h := h x3 e2
  have K := kom_I K e2 owm_r
  refine cm_X11_isWalker (kz_X11_isWalker h) h (fun x4 x5 p8 h g6 g7 => ?_)
  have h := h g6 g7
  have K := kom_Z K p8.2
  refine ⟨?_, ?_⟩
  · intro c9
    have h := h.1 c9
    exact ko_X11_day_21 h K
  · intro c10
    have h := h.2 c10
    refine cm_X11_isPlace (kz_X11_isPlace h) h (fun x11 x12 p15 h g13 g14 => ?_)
    have h := h g13 g14
    have K := kom_Z K p15.2
    refine ⟨?_, ?_⟩
    · intro c16
      have h := h.1 c16
      refine cm_X11_in (kz_X11_in h) h (fun x17 x18 p21 h g19 g20 => ?_)
      have h := h g19 g20
      have K := kom_Z K p21.2
      refine ⟨?_, ?_⟩
      · intro c22
        have h := h.1 c22
        exact ko_X11_day_50 h K
      · intro c23
        have h := h.2 c23
        refine cm_X11_in (kz_X11_in h) h (fun x24 x25 p28 h g26 g27 => ?_)
        have h := h g26 g27
        have K := kom_Z K p28.2
        refine ⟨?_, ?_⟩
        · intro c29
          have h := h.1 c29
          intro x31 e30
          have h := h x31 e30
          have K := kom_I K e30 owm_r
          intro x33 e32
          have h := h x33 e32
          have K := kom_I K e32 owm_r
          exact ko_X11_day_73 h K
        · intro c34
          have h := h.2 c34
          exact ko_X11_day_50 h K
    · intro c35
      have h := h.2 c35
      exact ko_X11_day_21 h K
theorem ko_X11_day {Q : Int32 → HS → Prop} {v0 : Nat} {v1 : Int32} {v2 : Int32} {v3 : Int32} {v4 : Int32} {S : HS} (h : P_X11_day v0 v1 v2 v3 v4 Q S) : P_X11_day v0 v1 v2 v3 v4 (fun r T => Q r T ∧ KO_M v0 S T) S := ko_X11_day_0 h (kom_rf _ S)
set_option maxRecDepth 20000 in
set_option maxHeartbeats 1000000 in
theorem kz_X11_wetAtBest_0 {Q : Int64 → HS → Prop} {v0 : Nat} {v1 : Int32} {v2 : Int32} {v3 : Int32} {v4 : Int32} {S0 S : HS} (h : P_X11_wetAtBest_0 Q v0 v1 v2 v3 v4 S) (K : KZ S0 S) : P_X11_wetAtBest_0 (fun r T => Q r T ∧ KZ S0 T) v0 v1 v2 v3 v4 S := by
  delta P_X11_wetAtBest_0 at h ⊢
  obtain ⟨c1, h⟩ := h
  refine ⟨c1, ?_⟩
  refine cm_X11_bestOf (kz_X11_bestOf h) h (fun x2 x3 p5 h g4 => ?_)
  have h := h g4
  have K := kz_Z K p5.2
  refine cm_X11_wetOf (kz_X11_wetOf h) h (fun x6 x7 p9 h g8 => ?_)
  have h := h g8
  have K := kz_Z K p9.2
  exact ⟨h, K⟩
theorem kz_X11_wetAtBest {Q : Int64 → HS → Prop} {v0 : Nat} {v1 : Int32} {v2 : Int32} {v3 : Int32} {v4 : Int32} {S : HS} (h : P_X11_wetAtBest v0 v1 v2 v3 v4 Q S) : P_X11_wetAtBest v0 v1 v2 v3 v4 (fun r T => Q r T ∧ KZ S T) S := kz_X11_wetAtBest_0 h (kz_rf S)
set_option maxRecDepth 20000 in
set_option maxHeartbeats 1000000 in
theorem kv_X11_driest_30 {Q : Int32 → HS → Prop} {v0 : Nat} {S0 S : HS} (h : P_X11_driest_30 Q v0 S) (K : KV v0 S0 S) : P_X11_driest_30 (fun r T => Q r T ∧ KV v0 S0 T) v0 S := by
  delta P_X11_driest_30 at h ⊢
  obtain ⟨c1, h⟩ := h
  refine ⟨c1, ?_⟩
  refine cm_X11_refused (kv_X11_refused h) h (fun x2 x3 p5 h g4 => ?_)
  have h := h g4
  have K := kv_tr K p5.2
  exact ⟨h, K⟩
set_option maxRecDepth 20000 in
set_option maxHeartbeats 1000000 in
theorem kv_X11_driest_105 {Q : Int32 → HS → Prop} {X45 X45_2 : Nat → Int32 → Int32 → Int32 → Int32 → Int64 → Int32 → HS → Prop} {v0 : Nat} {v1 : Int32} {v2 : Int32} {v3 : Int32} {v4 : Int32} {v5 : Int64} {v7 : Int32} {S0 S : HS} (h : P_X11_driest_105 Q X45 v0 v1 v2 v3 v4 v5 v7 S) (K : KV v0 S0 S) (hX45 : ∀ (u0 : Nat) (u1 : Int32) (u2 : Int32) (u3 : Int32) (u4 : Int32) (u5 : Int64) (u6 : Int32) (u7 : HS), X45 u0 u1 u2 u3 u4 u5 u6 u7 → u0 = v0 → KV v0 S0 u7 → X45_2 u0 u1 u2 u3 u4 u5 u6 u7) : P_X11_driest_105 (fun r T => Q r T ∧ KV v0 S0 T) X45_2 v0 v1 v2 v3 v4 v5 v7 S := by
  delta P_X11_driest_105 at h ⊢
  intro x2 e1
  have h := h x2 e1
  exact hX45 _ _ _ _ _ _ _ _ h rfl K
set_option maxRecDepth 20000 in
set_option maxHeartbeats 1000000 in
theorem kv_X11_driest_97 {Q : Int32 → HS → Prop} {X45 X45_2 : Nat → Int32 → Int32 → Int32 → Int32 → Int64 → Int32 → HS → Prop} {v0 : Nat} {v1 : Int32} {v2 : Int32} {v3 : Int32} {v7 : Int32} {v8 : Int64} {S0 S : HS} (h : P_X11_driest_97 Q X45 v0 v1 v2 v3 v7 v8 S) (K : KV v0 S0 S) (hX45 : ∀ (u0 : Nat) (u1 : Int32) (u2 : Int32) (u3 : Int32) (u4 : Int32) (u5 : Int64) (u6 : Int32) (u7 : HS), X45 u0 u1 u2 u3 u4 u5 u6 u7 → u0 = v0 → KV v0 S0 u7 → X45_2 u0 u1 u2 u3 u4 u5 u6 u7) : P_X11_driest_97 (fun r T => Q r T ∧ KV v0 S0 T) X45_2 v0 v1 v2 v3 v7 v8 S := by
  delta P_X11_driest_97 at h ⊢
  exact kv_X11_driest_105 h K hX45
set_option maxRecDepth 20000 in
set_option maxHeartbeats 1000000 in
theorem kvB_X11_driest_45 {Q : Int32 → HS → Prop} {X45 X45_2 : Nat → Int32 → Int32 → Int32 → Int32 → Int64 → Int32 → HS → Prop} {v0 : Nat} {v1 : Int32} {v2 : Int32} {v3 : Int32} {v4 : Int32} {v5 : Int64} {v7 : Int32} {S0 S : HS} (h : B_X11_driest_45 Q X45 v0 v1 v2 v3 v4 v5 v7 S) (K : KV v0 S0 S) (hX45 : ∀ (u0 : Nat) (u1 : Int32) (u2 : Int32) (u3 : Int32) (u4 : Int32) (u5 : Int64) (u6 : Int32) (u7 : HS), X45 u0 u1 u2 u3 u4 u5 u6 u7 → u0 = v0 → KV v0 S0 u7 → X45_2 u0 u1 u2 u3 u4 u5 u6 u7) : B_X11_driest_45 (fun r T => Q r T ∧ KV v0 S0 T) X45_2 v0 v1 v2 v3 v4 v5 v7 S := by
  delta B_X11_driest_45 at h ⊢
  obtain ⟨c1, h⟩ := h
  refine ⟨c1, ?_⟩
  obtain ⟨b2, e3, h⟩ := h
  refine ⟨b2, e3, ?_⟩
  obtain ⟨c4, h⟩ := h
  refine ⟨c4, ?_⟩
  intro x6 e5
  have h := h x6 e5
  refine ⟨?_, ?_⟩
  · intro c7
    have h := h.1 c7
    refine ⟨?_, ?_⟩
    · intro c8
      have h := h.1 c8
      refine cm_X11_good (kv_X11_good h) h (fun x9 x10 p12 h g11 => ?_)
      have h := h g11
      have K := kv_tr K p12.2
      exact ⟨h, K⟩
    · intro c13
      have h := h.2 c13
      refine cm_X11_refused (kv_X11_refused h) h (fun x14 x15 p17 h g16 => ?_)
      have h := h g16
      have K := kv_tr K p17.2
      exact ⟨h, K⟩
  · intro c18
    have h := h.2 c18
    refine cm_X11_wetAtBest (kz_X11_wetAtBest h) h (fun x19 x20 p22 h g21 => ?_)
    have h := h g21
    have K := kv_Z K p22.2
    obtain ⟨b23, e24, h⟩ := h
    refine ⟨b23, e24, ?_⟩
    obtain ⟨c25, h⟩ := h
    refine ⟨c25, ?_⟩
    obtain ⟨b26, e27, h⟩ := h
    refine ⟨b26, e27, ?_⟩
    obtain ⟨c28, h⟩ := h
    refine ⟨c28, ?_⟩
    obtain ⟨c29, h⟩ := h
    refine ⟨c29, ?_⟩
    intro x31 e30
    have h := h x31 e30
    intro x33 e32
    have h := h x33 e32
    refine ⟨?_, ?_⟩
    · intro c34
      have h := h.1 c34
      exact kv_X11_driest_97 h K hX45
    · intro c35
      have h := h.2 c35
      refine ⟨?_, ?_⟩
      · intro c36
        have h := h.1 c36
        exact kv_X11_driest_97 h K hX45
      · intro c37
        have h := h.2 c37
        exact kv_X11_driest_105 h K hX45
theorem kv_X11_driest_45 {Q : Int32 → HS → Prop} {v0 : Nat} {v1 : Int32} {v2 : Int32} {v3 : Int32} {v4 : Int32} {v5 : Int64} {v7 : Int32} {S0 S : HS} (h : P_X11_driest_45 Q v0 v1 v2 v3 v4 v5 v7 S) (K : KV v0 S0 S) : P_X11_driest_45 (fun r T => Q r T ∧ KV v0 S0 T) v0 v1 v2 v3 v4 v5 v7 S := h (fun w0 v1 v2 v3 v4 v5 v7 S => w0 = v0 → KV v0 S0 S → P_X11_driest_45 (fun r T => Q r T ∧ KV v0 S0 T) w0 v1 v2 v3 v4 v5 v7 S) (fun w0 v1 v2 v3 v4 v5 v7 S hB e K => by
  subst e; exact fd_X11_driest_45 (kvB_X11_driest_45 hB K (fun _ _ _ _ _ _ _ _ hx e K => hx e K))) rfl K
set_option maxRecDepth 20000 in
set_option maxHeartbeats 1000000 in
theorem kv_X11_driest_0 {Q : Int32 → HS → Prop} {v0 : Nat} {v1 : Int32} {v2 : Int32} {v3 : Int32} {S0 S : HS} (h : P_X11_driest_0 Q v0 v1 v2 v3 S) (K : KV v0 S0 S) : P_X11_driest_0 (fun r T => Q r T ∧ KV v0 S0 T) v0 v1 v2 v3 S := by
  delta P_X11_driest_0 at h ⊢
  obtain ⟨c1, h⟩ := h
  refine ⟨c1, ?_⟩
  intro x3 e2
  have h := h x3 e2
  have K := kv_I K e2
  refine cm_X11_isWalker (kz_X11_isWalker h) h (fun x4 x5 p8 h g6 g7 => ?_)
  have h := h g6 g7
  have K := kv_Z K p8.2
  refine ⟨?_, ?_⟩
  · intro c9
    have h := h.1 c9
    exact kv_X11_driest_30 h K
  · intro c10
    have h := h.2 c10
    refine cm_X11_isRoad (kz_X11_isRoad h) h (fun x11 x12 p15 h g13 g14 => ?_)
    have h := h g13 g14
    have K := kv_Z K p15.2
    refine ⟨?_, ?_⟩
    · intro c16
      have h := h.1 c16
      exact kv_X11_driest_30 h K
    · intro c17
      have h := h.2 c17
      refine cm_X11_in (kz_X11_in h) h (fun x18 x19 p22 h g20 g21 => ?_)
      have h := h g20 g21
      have K := kv_Z K p22.2
      refine ⟨?_, ?_⟩
      · intro c23
        have h := h.1 c23
        exact kv_X11_driest_45 h K
      · intro c24
        have h := h.2 c24
        exact kv_X11_driest_30 h K
theorem kv_X11_driest {Q : Int32 → HS → Prop} {v0 : Nat} {v1 : Int32} {v2 : Int32} {v3 : Int32} {S : HS} (h : P_X11_driest v0 v1 v2 v3 Q S) : P_X11_driest v0 v1 v2 v3 (fun r T => Q r T ∧ KV v0 S T) S := kv_X11_driest_0 h (kv_rf _ S)
set_option maxRecDepth 20000 in
set_option maxHeartbeats 1000000 in
theorem kz_X11_drips_0 {Q : Int64 → HS → Prop} {v0 : Nat} {v1 : Int32} {v2 : Int32} {S0 S : HS} (h : P_X11_drips_0 Q v0 v1 v2 S) (K : KZ S0 S) : P_X11_drips_0 (fun r T => Q r T ∧ KZ S0 T) v0 v1 v2 S := by
  delta P_X11_drips_0 at h ⊢
  obtain ⟨c1, h⟩ := h
  refine ⟨c1, ?_⟩
  obtain ⟨b2, e3, h⟩ := h
  refine ⟨b2, e3, ?_⟩
  obtain ⟨c4, h⟩ := h
  refine ⟨c4, ?_⟩
  obtain ⟨b5, e6, h⟩ := h
  refine ⟨b5, e6, ?_⟩
  obtain ⟨c7, h⟩ := h
  refine ⟨c7, ?_⟩
  obtain ⟨c8, h⟩ := h
  refine ⟨c8, ?_⟩
  intro x10 e9
  have h := h x10 e9
  obtain ⟨b11, e12, h⟩ := h
  refine ⟨b11, e12, ?_⟩
  obtain ⟨c13, h⟩ := h
  refine ⟨c13, ?_⟩
  obtain ⟨b14, e15, h⟩ := h
  refine ⟨b14, e15, ?_⟩
  obtain ⟨c16, h⟩ := h
  refine ⟨c16, ?_⟩
  obtain ⟨c17, h⟩ := h
  refine ⟨c17, ?_⟩
  intro x19 e18
  have h := h x19 e18
  obtain ⟨b20, e21, h⟩ := h
  refine ⟨b20, e21, ?_⟩
  obtain ⟨c22, h⟩ := h
  refine ⟨c22, ?_⟩
  refine cm_X10_shield (kz_X10_shield h) h (fun x23 x24 p26 h g25 => ?_)
  have h := h g25
  have K := kz_Z K p26.2
  refine cm_X11_less (kz_X11_less h) h (fun x27 x28 p30 h g29 => ?_)
  have h := h g29
  have K := kz_Z K p30.2
  exact ⟨h, K⟩
theorem kz_X11_drips {Q : Int64 → HS → Prop} {v0 : Nat} {v1 : Int32} {v2 : Int32} {S : HS} (h : P_X11_drips v0 v1 v2 Q S) : P_X11_drips v0 v1 v2 (fun r T => Q r T ∧ KZ S T) S := kz_X11_drips_0 h (kz_rf S)
set_option maxRecDepth 20000 in
set_option maxHeartbeats 1000000 in
theorem kv_X11_eatsSign_21 {Q : Int32 → HS → Prop} {v0 : Nat} {s0 : Int32} {S0 S : HS} (h : P_X11_eatsSign_21 Q v0 s0 S) (K : KV v0 S0 S) : P_X11_eatsSign_21 (fun r T => Q r T ∧ KV v0 S0 T) v0 s0 S := by
  delta P_X11_eatsSign_21 at h ⊢
  refine ⟨?_, ?_⟩
  · intro c1
    have h := h.1 c1
    obtain ⟨c2, h⟩ := h
    refine ⟨c2, ?_⟩
    exact ⟨h, K⟩
  · intro c3
    have h := h.2 c3
    obtain ⟨c4, h⟩ := h
    refine ⟨c4, ?_⟩
    refine cm_X11_goesOn (kv_X11_goesOn h) h (fun x5 p7 h g6 => ?_)
    have h := h g6
    have K := kv_tr K p7.2
    obtain ⟨c8, h⟩ := h
    refine ⟨c8, ?_⟩
    exact ⟨h, K⟩
set_option maxRecDepth 20000 in
set_option maxHeartbeats 1000000 in
theorem kv_X11_eatsSign_20 {Q : Int32 → HS → Prop} {v0 : Nat} {S0 S : HS} (h : P_X11_eatsSign_20 Q v0 S) (K : KV v0 S0 S) : P_X11_eatsSign_20 (fun r T => Q r T ∧ KV v0 S0 T) v0 S := by
  delta P_X11_eatsSign_20 at h ⊢
  exact kv_X11_eatsSign_21 h K
set_option maxRecDepth 20000 in
set_option maxHeartbeats 1000000 in
theorem kv_X11_eatsSign_0 {Q : Int32 → HS → Prop} {v0 : Nat} {v1 : Int32} {S0 S : HS} (h : P_X11_eatsSign_0 Q v0 v1 S) (K : KV v0 S0 S) : P_X11_eatsSign_0 (fun r T => Q r T ∧ KV v0 S0 T) v0 v1 S := by
  delta P_X11_eatsSign_0 at h ⊢
  obtain ⟨c1, h⟩ := h
  refine ⟨c1, ?_⟩
  intro x3 e2
  have h := h x3 e2
  refine ⟨?_, ?_⟩
  · intro c4
    have h := h.1 c4
    exact kv_X11_eatsSign_20 h K
  · intro c5
    have h := h.2 c5
    intro x7 e6
    have h := h x7 e6
    refine ⟨?_, ?_⟩
    · intro c8
      have h := h.1 c8
      exact kv_X11_eatsSign_20 h K
    · intro c9
      have h := h.2 c9
      exact kv_X11_eatsSign_21 h K
theorem kv_X11_eatsSign {Q : Int32 → HS → Prop} {v0 : Nat} {v1 : Int32} {S : HS} (h : P_X11_eatsSign v0 v1 Q S) : P_X11_eatsSign v0 v1 (fun r T => Q r T ∧ KV v0 S T) S := kv_X11_eatsSign_0 h (kv_rf _ S)
set_option maxRecDepth 20000 in
set_option maxHeartbeats 1000000 in
theorem kzB_X11_wordOf_4 {Q : Int64 → HS → Prop} {X4 X4_2 : Nat → Int64 → Int32 → HS → Prop} {v0 : Nat} {v1 : Int64} {v3 : Int32} {S0 S : HS} (h : B_X11_wordOf_4 Q X4 v0 v1 v3 S) (K : KZ S0 S) (hX4 : ∀ (u0 : Nat) (u1 : Int64) (u2 : Int32) (u3 : HS), X4 u0 u1 u2 u3 → KZ S0 u3 → X4_2 u0 u1 u2 u3) : B_X11_wordOf_4 (fun r T => Q r T ∧ KZ S0 T) X4_2 v0 v1 v3 S := by
  delta B_X11_wordOf_4 at h ⊢
  obtain ⟨c1, h⟩ := h
  refine ⟨c1, ?_⟩
  intro x3 e2
  have h := h x3 e2
  refine ⟨?_, ?_⟩
  · intro c4
    have h := h.1 c4
    exact ⟨h, K⟩
  · intro c5
    have h := h.2 c5
    obtain ⟨c6, h⟩ := h
    refine ⟨c6, ?_⟩
    obtain ⟨c7, h⟩ := h
    refine ⟨c7, ?_⟩
    intro x9 e8
    have h := h x9 e8
    intro x11 e10
    have h := h x11 e10
    intro x13 e12
    have h := h x13 e12
    exact hX4 _ _ _ _ h K
theorem kz_X11_wordOf_4 {Q : Int64 → HS → Prop} {v0 : Nat} {v1 : Int64} {v3 : Int32} {S0 S : HS} (h : P_X11_wordOf_4 Q v0 v1 v3 S) (K : KZ S0 S) : P_X11_wordOf_4 (fun r T => Q r T ∧ KZ S0 T) v0 v1 v3 S := h (fun w0 v1 v3 S => KZ S0 S → P_X11_wordOf_4 (fun r T => Q r T ∧ KZ S0 T) w0 v1 v3 S) (fun w0 v1 v3 S hB K => by
  exact fd_X11_wordOf_4 (kzB_X11_wordOf_4 hB K (fun _ _ _ _ hx K => hx K))) K
set_option maxRecDepth 20000 in
set_option maxHeartbeats 1000000 in
theorem kz_X11_wordOf_0 {Q : Int64 → HS → Prop} {v0 : Nat} {S0 S : HS} (h : P_X11_wordOf_0 Q v0 S) (K : KZ S0 S) : P_X11_wordOf_0 (fun r T => Q r T ∧ KZ S0 T) v0 S := by
  delta P_X11_wordOf_0 at h ⊢
  exact kz_X11_wordOf_4 h K
theorem kz_X11_wordOf {Q : Int64 → HS → Prop} {v0 : Nat} {S : HS} (h : P_X11_wordOf v0 Q S) : P_X11_wordOf v0 (fun r T => Q r T ∧ KZ S T) S := kz_X11_wordOf_0 h (kz_rf S)
set_option maxRecDepth 20000 in
set_option maxHeartbeats 1000000 in
theorem kz_X11_isWord_0 {Q : Int32 → HS → Prop} {v0 : Nat} {v1 : Nat} {S0 S : HS} (h : P_X11_isWord_0 Q v0 v1 S) (K : KZ S0 S) : P_X11_isWord_0 (fun r T => Q r T ∧ KZ S0 T) v0 v1 S := by
  delta P_X11_isWord_0 at h ⊢
  obtain ⟨c1, h⟩ := h
  refine ⟨c1, ?_⟩
  intro x3 e2
  have h := h x3 e2
  refine ⟨?_, ?_⟩
  · intro c4
    have h := h.1 c4
    exact ⟨h, K⟩
  · intro c5
    have h := h.2 c5
    intro x7 e6
    have h := h x7 e6
    refine cm_X11_wordOf (kz_X11_wordOf h) h (fun x8 x9 p11 h g10 => ?_)
    have h := h g10
    have K := kz_Z K p11.2
    refine ⟨?_, ?_⟩
    · intro c12
      have h := h.1 c12
      exact ⟨h, K⟩
    · intro c13
      have h := h.2 c13
      exact ⟨h, K⟩
theorem kz_X11_isWord {Q : Int32 → HS → Prop} {v0 : Nat} {v1 : Nat} {S : HS} (h : P_X11_isWord v0 v1 Q S) : P_X11_isWord v0 v1 (fun r T => Q r T ∧ KZ S T) S := kz_X11_isWord_0 h (kz_rf S)
set_option maxRecDepth 20000 in
set_option maxHeartbeats 1000000 in
theorem kv_X11_eatsWord_0 {Q : Int32 → HS → Prop} {v0 : Nat} {v1 : Nat} {S0 S : HS} (h : P_X11_eatsWord_0 Q v0 v1 S) (K : KV v0 S0 S) : P_X11_eatsWord_0 (fun r T => Q r T ∧ KV v0 S0 T) v0 v1 S := by
  delta P_X11_eatsWord_0 at h ⊢
  obtain ⟨c1, h⟩ := h
  refine ⟨c1, ?_⟩
  refine cm_X11_isWord (kz_X11_isWord h) h (fun x2 x3 p6 h g4 g5 => ?_)
  have h := h g4 g5
  have K := kv_Z K p6.2
  refine ⟨?_, ?_⟩
  · intro c7
    have h := h.1 c7
    obtain ⟨c8, h⟩ := h
    refine ⟨c8, ?_⟩
    exact ⟨h, K⟩
  · intro c9
    have h := h.2 c9
    refine cm_X11_goesOn (kv_X11_goesOn h) h (fun x10 p12 h g11 => ?_)
    have h := h g11
    have K := kv_tr K p12.2
    obtain ⟨c13, h⟩ := h
    refine ⟨c13, ?_⟩
    exact ⟨h, K⟩
theorem kv_X11_eatsWord {Q : Int32 → HS → Prop} {v0 : Nat} {v1 : Nat} {S : HS} (h : P_X11_eatsWord v0 v1 Q S) : P_X11_eatsWord v0 v1 (fun r T => Q r T ∧ KV v0 S T) S := kv_X11_eatsWord_0 h (kv_rf _ S)
set_option maxRecDepth 20000 in
set_option maxHeartbeats 1000000 in
theorem ko_X11_even_39 {Q : Int32 → HS → Prop} {v0 : Nat} {S0 S : HS} (h : P_X11_even_39 Q v0 S) (K : KO_M v0 S0 S) : P_X11_even_39 (fun r T => Q r T ∧ KO_M v0 S0 T) v0 S := by
  delta P_X11_even_39 at h ⊢
  obtain ⟨c1, h⟩ := h
  refine ⟨c1, ?_⟩
  refine cm_X11_refused (kv_X11_refused h) h (fun x2 x3 p5 h g4 => ?_)
  have h := h g4
  have K := kom_V K p5.2 owm_r
  exact ⟨h, K⟩
set_option maxRecDepth 20000 in
set_option maxHeartbeats 1000000 in
theorem ko_X11_even_111 {Q : Int32 → HS → Prop} {X59 X59_2 : Nat → Int32 → Int32 → Int32 → Int32 → Int32 → Int32 → HS → Prop} {v0 : Nat} {v1 : Int32} {v2 : Int32} {v3 : Int32} {v4 : Int32} {v6 : Int32} {s0 : Int32} {S0 S : HS} (h : P_X11_even_111 Q X59 v0 v1 v2 v3 v4 v6 s0 S) (K : KO_M v0 S0 S) (hX59 : ∀ (u0 : Nat) (u1 : Int32) (u2 : Int32) (u3 : Int32) (u4 : Int32) (u5 : Int32) (u6 : Int32) (u7 : HS), X59 u0 u1 u2 u3 u4 u5 u6 u7 → u0 = v0 → KO_M v0 S0 u7 → X59_2 u0 u1 u2 u3 u4 u5 u6 u7) : P_X11_even_111 (fun r T => Q r T ∧ KO_M v0 S0 T) X59_2 v0 v1 v2 v3 v4 v6 s0 S := by
  delta P_X11_even_111 at h ⊢
  intro x2 e1
  have h := h x2 e1
  exact hX59 _ _ _ _ _ _ _ _ h rfl K
set_option maxRecDepth 20000 in
set_option maxHeartbeats 1000000 in
theorem ko_X11_even_110 {Q : Int32 → HS → Prop} {X59 X59_2 : Nat → Int32 → Int32 → Int32 → Int32 → Int32 → Int32 → HS → Prop} {v0 : Nat} {v1 : Int32} {v2 : Int32} {v3 : Int32} {v4 : Int32} {v6 : Int32} {S0 S : HS} (h : P_X11_even_110 Q X59 v0 v1 v2 v3 v4 v6 S) (K : KO_M v0 S0 S) (hX59 : ∀ (u0 : Nat) (u1 : Int32) (u2 : Int32) (u3 : Int32) (u4 : Int32) (u5 : Int32) (u6 : Int32) (u7 : HS), X59 u0 u1 u2 u3 u4 u5 u6 u7 → u0 = v0 → KO_M v0 S0 u7 → X59_2 u0 u1 u2 u3 u4 u5 u6 u7) : P_X11_even_110 (fun r T => Q r T ∧ KO_M v0 S0 T) X59_2 v0 v1 v2 v3 v4 v6 S := by
  delta P_X11_even_110 at h ⊢
  exact ko_X11_even_111 h K hX59
set_option maxRecDepth 20000 in
set_option maxHeartbeats 1000000 in
theorem ko_X11_even_130 {Q : Int32 → HS → Prop} {s0 : Nat} {s1 : Int32} {v0 : Nat} {S0 S : HS} (h : P_X11_even_130 Q s0 s1 S) (K : KO_M v0 S0 S) (o_s0 : OwS_M v0 S0 s0) : P_X11_even_130 (fun r T => Q r T ∧ KO_M v0 S0 T) s0 s1 S := by
  delta P_X11_even_130 at h ⊢
  obtain ⟨c1, h⟩ := h
  refine ⟨c1, ?_⟩
  refine cm_X11_good (kv_X11_good h) h (fun x2 x3 p5 h g4 => ?_)
  have h := h g4
  have K := kom_V K p5.2 o_s0
  exact ⟨h, K⟩
set_option maxRecDepth 20000 in
set_option maxHeartbeats 1000000 in
theorem koB_X11_even_59 {Q : Int32 → HS → Prop} {X59 X59_2 : Nat → Int32 → Int32 → Int32 → Int32 → Int32 → Int32 → HS → Prop} {v0 : Nat} {v1 : Int32} {v2 : Int32} {v3 : Int32} {v4 : Int32} {v5 : Int32} {v6 : Int32} {S0 S : HS} (h : B_X11_even_59 Q X59 v0 v1 v2 v3 v4 v5 v6 S) (K : KO_M v0 S0 S) (hX59 : ∀ (u0 : Nat) (u1 : Int32) (u2 : Int32) (u3 : Int32) (u4 : Int32) (u5 : Int32) (u6 : Int32) (u7 : HS), X59 u0 u1 u2 u3 u4 u5 u6 u7 → u0 = v0 → KO_M v0 S0 u7 → X59_2 u0 u1 u2 u3 u4 u5 u6 u7) : B_X11_even_59 (fun r T => Q r T ∧ KO_M v0 S0 T) X59_2 v0 v1 v2 v3 v4 v5 v6 S := by
  delta B_X11_even_59 at h ⊢
  obtain ⟨c1, h⟩ := h
  refine ⟨c1, ?_⟩
  obtain ⟨b2, e3, h⟩ := h
  refine ⟨b2, e3, ?_⟩
  obtain ⟨c4, h⟩ := h
  refine ⟨c4, ?_⟩
  obtain ⟨b5, e6, h⟩ := h
  refine ⟨b5, e6, ?_⟩
  obtain ⟨c7, h⟩ := h
  refine ⟨c7, ?_⟩
  obtain ⟨c8, h⟩ := h
  refine ⟨c8, ?_⟩
  intro x10 e9
  have h := h x10 e9
  refine ⟨?_, ?_⟩
  · intro c11
    have h := h.1 c11
    refine ⟨?_, ?_⟩
    · intro c12
      have h := h.1 c12
      exact ko_X11_even_130 h K owm_r
    · intro c13
      have h := h.2 c13
      exact ko_X11_even_130 h K owm_r
  · intro c14
    have h := h.2 c14
    refine ⟨?_, ?_⟩
    · intro c15
      have h := h.1 c15
      exact ko_X11_even_110 h K hX59
    · intro c16
      have h := h.2 c16
      refine cm_X11_wetOf (kz_X11_wetOf h) h (fun x17 x18 p20 h g19 => ?_)
      have h := h g19
      have K := kom_Z K p20.2
      refine cm_X11_wetOf (kz_X11_wetOf h) h (fun x21 x22 p24 h g23 => ?_)
      have h := h g23
      have K := kom_Z K p24.2
      refine ⟨?_, ?_⟩
      · intro c25
        have h := h.1 c25
        exact ko_X11_even_110 h K hX59
      · intro c26
        have h := h.2 c26
        exact ko_X11_even_111 h K hX59
theorem ko_X11_even_59 {Q : Int32 → HS → Prop} {v0 : Nat} {v1 : Int32} {v2 : Int32} {v3 : Int32} {v4 : Int32} {v5 : Int32} {v6 : Int32} {S0 S : HS} (h : P_X11_even_59 Q v0 v1 v2 v3 v4 v5 v6 S) (K : KO_M v0 S0 S) : P_X11_even_59 (fun r T => Q r T ∧ KO_M v0 S0 T) v0 v1 v2 v3 v4 v5 v6 S := h (fun w0 v1 v2 v3 v4 v5 v6 S => w0 = v0 → KO_M v0 S0 S → P_X11_even_59 (fun r T => Q r T ∧ KO_M v0 S0 T) w0 v1 v2 v3 v4 v5 v6 S) (fun w0 v1 v2 v3 v4 v5 v6 S hB e K => by
  subst e; exact fd_X11_even_59 (koB_X11_even_59 hB K (fun _ _ _ _ _ _ _ _ hx e K => hx e K))) rfl K
set_option maxRecDepth 20000 in
set_option maxHeartbeats 1000000 in
theorem ko_X11_even_0 {Q : Int32 → HS → Prop} {v0 : Nat} {v1 : Int32} {v2 : Int32} {v3 : Int32} {v4 : Int32} {S0 S : HS} (h : P_X11_even_0 Q v0 v1 v2 v3 v4 S) (K : KO_M v0 S0 S) : P_X11_even_0 (fun r T => Q r T ∧ KO_M v0 S0 T) v0 v1 v2 v3 v4 S := by
  delta P_X11_even_0 at h ⊢
  obtain ⟨c1, h⟩ := h
  refine ⟨c1, ?_⟩
  intro x3 e2
  have h := h x3 e2
  have K := kom_I K e2 owm_r
  refine cm_X11_isWalker (kz_X11_isWalker h) h (fun x4 x5 p8 h g6 g7 => ?_)
  have h := h g6 g7
  have K := kom_Z K p8.2
  refine ⟨?_, ?_⟩
  · intro c9
    have h := h.1 c9
    exact ko_X11_even_39 h K
  · intro c10
    have h := h.2 c10
    refine cm_X11_isRoad (kz_X11_isRoad h) h (fun x11 x12 p15 h g13 g14 => ?_)
    have h := h g13 g14
    have K := kom_Z K p15.2
    refine ⟨?_, ?_⟩
    · intro c16
      have h := h.1 c16
      exact ko_X11_even_39 h K
    · intro c17
      have h := h.2 c17
      refine cm_X11_in (kz_X11_in h) h (fun x18 x19 p22 h g20 g21 => ?_)
      have h := h g20 g21
      have K := kom_Z K p22.2
      refine ⟨?_, ?_⟩
      · intro c23
        have h := h.1 c23
        exact ko_X11_even_39 h K
      · intro c24
        have h := h.2 c24
        refine cm_X11_isHour (kz_X11_isHour h) h (fun x25 x26 p29 h g27 g28 => ?_)
        have h := h g27 g28
        have K := kom_Z K p29.2
        refine ⟨?_, ?_⟩
        · intro c30
          have h := h.1 c30
          obtain ⟨b31, e32, h⟩ := h
          refine ⟨b31, e32, ?_⟩
          obtain ⟨c33, h⟩ := h
          refine ⟨c33, ?_⟩
          obtain ⟨b34, e35, h⟩ := h
          refine ⟨b34, e35, ?_⟩
          obtain ⟨c36, h⟩ := h
          refine ⟨c36, ?_⟩
          obtain ⟨c37, h⟩ := h
          refine ⟨c37, ?_⟩
          intro x39 e38
          have h := h x39 e38
          exact ko_X11_even_59 h K
        · intro c40
          have h := h.2 c40
          exact ko_X11_even_39 h K
theorem ko_X11_even {Q : Int32 → HS → Prop} {v0 : Nat} {v1 : Int32} {v2 : Int32} {v3 : Int32} {v4 : Int32} {S : HS} (h : P_X11_even v0 v1 v2 v3 v4 Q S) : P_X11_even v0 v1 v2 v3 v4 (fun r T => Q r T ∧ KO_M v0 S T) S := ko_X11_even_0 h (kom_rf _ S)
set_option maxRecDepth 20000 in
set_option maxHeartbeats 1000000 in
theorem kz_X11_isSpeed_0 {Q : Int32 → HS → Prop} {v0 : Nat} {v1 : Int32} {v2 : Int32} {S0 S : HS} (h : P_X11_isSpeed_0 Q v0 v1 v2 S) (K : KZ S0 S) : P_X11_isSpeed_0 (fun r T => Q r T ∧ KZ S0 T) v0 v1 v2 S := by
  delta P_X11_isSpeed_0 at h ⊢
  obtain ⟨c1, h⟩ := h
  refine ⟨c1, ?_⟩
  obtain ⟨b2, e3, h⟩ := h
  refine ⟨b2, e3, ?_⟩
  obtain ⟨c4, h⟩ := h
  refine ⟨c4, ?_⟩
  obtain ⟨b5, e6, h⟩ := h
  refine ⟨b5, e6, ?_⟩
  obtain ⟨c7, h⟩ := h
  refine ⟨c7, ?_⟩
  obtain ⟨c8, h⟩ := h
  refine ⟨c8, ?_⟩
  intro x10 e9
  have h := h x10 e9
  obtain ⟨b11, e12, h⟩ := h
  refine ⟨b11, e12, ?_⟩
  obtain ⟨c13, h⟩ := h
  refine ⟨c13, ?_⟩
  obtain ⟨b14, e15, h⟩ := h
  refine ⟨b14, e15, ?_⟩
  obtain ⟨c16, h⟩ := h
  refine ⟨c16, ?_⟩
  obtain ⟨c17, h⟩ := h
  refine ⟨c17, ?_⟩
  intro x19 e18
  have h := h x19 e18
  refine cm_X11_in (kz_X11_in h) h (fun x20 x21 p24 h g22 g23 => ?_)
  have h := h g22 g23
  have K := kz_Z K p24.2
  obtain ⟨c25, h⟩ := h
  refine ⟨c25, ?_⟩
  exact ⟨h, K⟩
theorem kz_X11_isSpeed {Q : Int32 → HS → Prop} {v0 : Nat} {v1 : Int32} {v2 : Int32} {S : HS} (h : P_X11_isSpeed v0 v1 v2 Q S) : P_X11_isSpeed v0 v1 v2 (fun r T => Q r T ∧ KZ S T) S := kz_X11_isSpeed_0 h (kz_rf S)
set_option maxRecDepth 20000 in
set_option maxHeartbeats 1000000 in
theorem kz_X11_refuses_0 {Q : Int32 → HS → Prop} {v0 : Nat} {v1 : Int32} {v2 : Int32} {v3 : Int32} {v4 : Int32} {v5 : Int32} {S0 S : HS} (h : P_X11_refuses_0 Q v0 v1 v2 v3 v4 v5 S) (K : KZ S0 S) : P_X11_refuses_0 (fun r T => Q r T ∧ KZ S0 T) v0 v1 v2 v3 v4 v5 S := by
  delta P_X11_refuses_0 at h ⊢
  obtain ⟨c1, h⟩ := h
  refine ⟨c1, ?_⟩
  refine cm_X11_isWalker (kz_X11_isWalker h) h (fun x2 x3 p6 h g4 g5 => ?_)
  have h := h g4 g5
  have K := kz_Z K p6.2
  refine ⟨?_, ?_⟩
  · intro c7
    have h := h.1 c7
    exact ⟨h, K⟩
  · intro c8
    have h := h.2 c8
    refine cm_X11_isRoad (kz_X11_isRoad h) h (fun x9 x10 p13 h g11 g12 => ?_)
    have h := h g11 g12
    have K := kz_Z K p13.2
    refine ⟨?_, ?_⟩
    · intro c14
      have h := h.1 c14
      exact ⟨h, K⟩
    · intro c15
      have h := h.2 c15
      refine cm_X11_in (kz_X11_in h) h (fun x16 x17 p20 h g18 g19 => ?_)
      have h := h g18 g19
      have K := kz_Z K p20.2
      refine ⟨?_, ?_⟩
      · intro c21
        have h := h.1 c21
        exact ⟨h, K⟩
      · intro c22
        have h := h.2 c22
        refine cm_X11_isHour (kz_X11_isHour h) h (fun x23 x24 p27 h g25 g26 => ?_)
        have h := h g25 g26
        have K := kz_Z K p27.2
        refine ⟨?_, ?_⟩
        · intro c28
          have h := h.1 c28
          refine cm_X11_isSpeed (kz_X11_isSpeed h) h (fun x29 x30 p33 h g31 g32 => ?_)
          have h := h g31 g32
          have K := kz_Z K p33.2
          refine ⟨?_, ?_⟩
          · intro c34
            have h := h.1 c34
            exact ⟨h, K⟩
          · intro c35
            have h := h.2 c35
            exact ⟨h, K⟩
        · intro c36
          have h := h.2 c36
          exact ⟨h, K⟩
theorem kz_X11_refuses {Q : Int32 → HS → Prop} {v0 : Nat} {v1 : Int32} {v2 : Int32} {v3 : Int32} {v4 : Int32} {v5 : Int32} {S : HS} (h : P_X11_refuses v0 v1 v2 v3 v4 v5 Q S) : P_X11_refuses v0 v1 v2 v3 v4 v5 (fun r T => Q r T ∧ KZ S T) S := kz_X11_refuses_0 h (kz_rf S)
set_option maxRecDepth 20000 in
set_option maxHeartbeats 1000000 in
theorem kvB_X11_told_12 {Q : Int64 → HS → Prop} {X12 X12_2 : Int64 → Int64 → Int32 → Int64 → Int64 → HS → Prop} {v1 : Int64} {v3 : Int64} {v5 : Int32} {v6 : Int64} {v8 : Int64} {v0 : Nat} {S0 S : HS} (h : B_X11_told_12 Q X12 v1 v3 v5 v6 v8 S) (K : KV v0 S0 S) (hX12 : ∀ (u0 : Int64) (u1 : Int64) (u2 : Int32) (u3 : Int64) (u4 : Int64) (u5 : HS), X12 u0 u1 u2 u3 u4 u5 → KV v0 S0 u5 → X12_2 u0 u1 u2 u3 u4 u5) : B_X11_told_12 (fun r T => Q r T ∧ KV v0 S0 T) X12_2 v1 v3 v5 v6 v8 S := by
  delta B_X11_told_12 at h ⊢
  refine ⟨?_, ?_⟩
  · intro c1
    have h := h.1 c1
    refine ⟨?_, ?_⟩
    · intro c2
      have h := h.1 c2
      obtain ⟨c3, h⟩ := h
      refine ⟨c3, ?_⟩
      intro x5 e4
      have h := h x5 e4
      exact ⟨h, K⟩
    · intro c6
      have h := h.2 c6
      obtain ⟨c7, h⟩ := h
      refine ⟨c7, ?_⟩
      intro x9 e8
      have h := h x9 e8
      exact ⟨h, K⟩
  · intro c10
    have h := h.2 c10
    obtain ⟨c11, h⟩ := h
    refine ⟨c11, ?_⟩
    intro x13 e12
    have h := h x13 e12
    exact hX12 _ _ _ _ _ _ h K
theorem kv_X11_told_12 {Q : Int64 → HS → Prop} {v1 : Int64} {v3 : Int64} {v5 : Int32} {v6 : Int64} {v8 : Int64} {v0 : Nat} {S0 S : HS} (h : P_X11_told_12 Q v1 v3 v5 v6 v8 S) (K : KV v0 S0 S) : P_X11_told_12 (fun r T => Q r T ∧ KV v0 S0 T) v1 v3 v5 v6 v8 S := h (fun v1 v3 v5 v6 v8 S => KV v0 S0 S → P_X11_told_12 (fun r T => Q r T ∧ KV v0 S0 T) v1 v3 v5 v6 v8 S) (fun v1 v3 v5 v6 v8 S hB K => by
  exact fd_X11_told_12 (kvB_X11_told_12 hB K (fun _ _ _ _ _ _ hx K => hx K))) K
set_option maxRecDepth 20000 in
set_option maxHeartbeats 1000000 in
theorem kv_X11_told_0 {Q : Int64 → HS → Prop} {v0 : Nat} {v1 : Int64} {v3 : Int64} {v5 : Int32} {S0 S : HS} (h : P_X11_told_0 Q v0 v1 v3 v5 S) (K : KV v0 S0 S) : P_X11_told_0 (fun r T => Q r T ∧ KV v0 S0 T) v0 v1 v3 v5 S := by
  delta P_X11_told_0 at h ⊢
  obtain ⟨c1, h⟩ := h
  refine ⟨c1, ?_⟩
  refine cm_X11_good (kv_X11_good h) h (fun x2 x3 p5 h g4 => ?_)
  have h := h g4
  have K := kv_tr K p5.2
  exact kv_X11_told_12 h K
theorem kv_X11_told {Q : Int64 → HS → Prop} {v0 : Nat} {v1 : Int64} {v3 : Int64} {v5 : Int32} {S : HS} (h : P_X11_told v0 v1 v3 v5 Q S) : P_X11_told v0 v1 v3 v5 (fun r T => Q r T ∧ KV v0 S T) S := kv_X11_told_0 h (kv_rf _ S)
set_option maxRecDepth 20000 in
set_option maxHeartbeats 1000000 in
theorem kv_X11_face_30 {Q : Int64 → HS → Prop} {v0 : Nat} {v1 : Int32} {v2 : Int32} {v3 : Int32} {v4 : Int32} {v5 : Int32} {v6 : Int32} {v7 : Int32} {s0 : Int32} {S0 S : HS} (h : P_X11_face_30 Q v0 v1 v2 v3 v4 v5 v6 v7 s0 S) (K : KV v0 S0 S) : P_X11_face_30 (fun r T => Q r T ∧ KV v0 S0 T) v0 v1 v2 v3 v4 v5 v6 v7 s0 S := by
  delta P_X11_face_30 at h ⊢
  refine ⟨?_, ?_⟩
  · intro c1
    have h := h.1 c1
    obtain ⟨c2, h⟩ := h
    refine ⟨c2, ?_⟩
    refine cm_X11_partsOf (kz_X11_partsOf h) h (fun x3 x4 p6 h g5 => ?_)
    have h := h g5
    have K := kv_Z K p6.2
    refine cm_X11_told (kv_X11_told h) h (fun x7 x8 p10 h g9 => ?_)
    have h := h g9
    have K := kv_tr K p10.2
    exact ⟨h, K⟩
  · intro c11
    have h := h.2 c11
    obtain ⟨c12, h⟩ := h
    refine ⟨c12, ?_⟩
    refine cm_X11_refused (kv_X11_refused h) h (fun x13 x14 p16 h g15 => ?_)
    have h := h g15
    have K := kv_tr K p16.2
    exact ⟨h, K⟩
set_option maxRecDepth 20000 in
set_option maxHeartbeats 1000000 in
theorem kv_X11_face_0 {Q : Int64 → HS → Prop} {v0 : Nat} {v1 : Int32} {v2 : Int32} {v3 : Int32} {v4 : Int32} {v5 : Int32} {v6 : Int32} {v7 : Int32} {S0 S : HS} (h : P_X11_face_0 Q v0 v1 v2 v3 v4 v5 v6 v7 S) (K : KV v0 S0 S) : P_X11_face_0 (fun r T => Q r T ∧ KV v0 S0 T) v0 v1 v2 v3 v4 v5 v6 v7 S := by
  delta P_X11_face_0 at h ⊢
  obtain ⟨c1, h⟩ := h
  refine ⟨c1, ?_⟩
  intro x3 e2
  have h := h x3 e2
  have K := kv_I K e2
  refine cm_X11_in (kz_X11_in h) h (fun x4 x5 p8 h g6 g7 => ?_)
  have h := h g6 g7
  have K := kv_Z K p8.2
  refine ⟨?_, ?_⟩
  · intro c9
    have h := h.1 c9
    exact kv_X11_face_30 h K
  · intro c10
    have h := h.2 c10
    refine cm_X11_refuses (kz_X11_refuses h) h (fun x11 x12 p14 h g13 => ?_)
    have h := h g13
    have K := kv_Z K p14.2
    exact kv_X11_face_30 h K
theorem kv_X11_face {Q : Int64 → HS → Prop} {v0 : Nat} {v1 : Int32} {v2 : Int32} {v3 : Int32} {v4 : Int32} {v5 : Int32} {v6 : Int32} {v7 : Int32} {S : HS} (h : P_X11_face v0 v1 v2 v3 v4 v5 v6 v7 Q S) : P_X11_face v0 v1 v2 v3 v4 v5 v6 v7 (fun r T => Q r T ∧ KV v0 S T) S := kv_X11_face_0 h (kv_rf _ S)
set_option maxRecDepth 20000 in
set_option maxHeartbeats 1000000 in
theorem kv_X11_fault_0 {Q : Int32 → HS → Prop} {v0 : Nat} {S0 S : HS} (h : P_X11_fault_0 Q v0 S) (K : KV v0 S0 S) : P_X11_fault_0 (fun r T => Q r T ∧ KV v0 S0 T) v0 S := by
  delta P_X11_fault_0 at h ⊢
  obtain ⟨c1, h⟩ := h
  refine ⟨c1, ?_⟩
  intro x3 e2
  have h := h x3 e2
  have K := kv_I K e2
  intro x5 e4
  have h := h x5 e4
  exact ⟨h, K⟩
theorem kv_X11_fault {Q : Int32 → HS → Prop} {v0 : Nat} {S : HS} (h : P_X11_fault v0 Q S) : P_X11_fault v0 (fun r T => Q r T ∧ KV v0 S T) S := kv_X11_fault_0 h (kv_rf _ S)
set_option maxRecDepth 20000 in
set_option maxHeartbeats 1000000 in
theorem kz_X11_refusesTwo_0 {Q : Int32 → HS → Prop} {v0 : Nat} {v1 : Int32} {v2 : Int32} {v3 : Int32} {v4 : Int32} {v5 : Int32} {v6 : Int32} {S0 S : HS} (h : P_X11_refusesTwo_0 Q v0 v1 v2 v3 v4 v5 v6 S) (K : KZ S0 S) : P_X11_refusesTwo_0 (fun r T => Q r T ∧ KZ S0 T) v0 v1 v2 v3 v4 v5 v6 S := by
  delta P_X11_refusesTwo_0 at h ⊢
  refine ⟨?_, ?_⟩
  · intro c1
    have h := h.1 c1
    exact ⟨h, K⟩
  · intro c2
    have h := h.2 c2
    obtain ⟨c3, h⟩ := h
    refine ⟨c3, ?_⟩
    refine cm_X11_isWalker (kz_X11_isWalker h) h (fun x4 x5 p8 h g6 g7 => ?_)
    have h := h g6 g7
    have K := kz_Z K p8.2
    refine ⟨?_, ?_⟩
    · intro c9
      have h := h.1 c9
      refine cm_X11_refuses (kz_X11_refuses h) h (fun x10 x11 p13 h g12 => ?_)
      have h := h g12
      have K := kz_Z K p13.2
      refine ⟨?_, ?_⟩
      · intro c14
        have h := h.1 c14
        refine cm_X11_isSpeed (kz_X11_isSpeed h) h (fun x15 x16 p19 h g17 g18 => ?_)
        have h := h g17 g18
        have K := kz_Z K p19.2
        refine ⟨?_, ?_⟩
        · intro c20
          have h := h.1 c20
          exact ⟨h, K⟩
        · intro c21
          have h := h.2 c21
          exact ⟨h, K⟩
      · intro c22
        have h := h.2 c22
        exact ⟨h, K⟩
    · intro c23
      have h := h.2 c23
      exact ⟨h, K⟩
theorem kz_X11_refusesTwo {Q : Int32 → HS → Prop} {v0 : Nat} {v1 : Int32} {v2 : Int32} {v3 : Int32} {v4 : Int32} {v5 : Int32} {v6 : Int32} {S : HS} (h : P_X11_refusesTwo v0 v1 v2 v3 v4 v5 v6 Q S) : P_X11_refusesTwo v0 v1 v2 v3 v4 v5 v6 (fun r T => Q r T ∧ KZ S T) S := kz_X11_refusesTwo_0 h (kz_rf S)
set_option maxRecDepth 20000 in
set_option maxHeartbeats 1000000 in
theorem kzB_X11_together_6 {Q : Int64 → HS → Prop} {X6 X6_2 : Nat → Int32 → Int32 → Int32 → Int32 → Int32 → Int32 → Int64 → Int32 → HS → Prop} {v0 : Nat} {v1 : Int32} {v2 : Int32} {v3 : Int32} {v4 : Int32} {v5 : Int32} {v6 : Int32} {v7 : Int64} {v9 : Int32} {S0 S : HS} (h : B_X11_together_6 Q X6 v0 v1 v2 v3 v4 v5 v6 v7 v9 S) (K : KZ S0 S) (hX6 : ∀ (u0 : Nat) (u1 : Int32) (u2 : Int32) (u3 : Int32) (u4 : Int32) (u5 : Int32) (u6 : Int32) (u7 : Int64) (u8 : Int32) (u9 : HS), X6 u0 u1 u2 u3 u4 u5 u6 u7 u8 u9 → KZ S0 u9 → X6_2 u0 u1 u2 u3 u4 u5 u6 u7 u8 u9) : B_X11_together_6 (fun r T => Q r T ∧ KZ S0 T) X6_2 v0 v1 v2 v3 v4 v5 v6 v7 v9 S := by
  delta B_X11_together_6 at h ⊢
  refine ⟨?_, ?_⟩
  · intro c1
    have h := h.1 c1
    obtain ⟨c2, h⟩ := h
    refine ⟨c2, ?_⟩
    obtain ⟨b3, e4, h⟩ := h
    refine ⟨b3, e4, ?_⟩
    obtain ⟨c5, h⟩ := h
    refine ⟨c5, ?_⟩
    obtain ⟨b6, e7, h⟩ := h
    refine ⟨b6, e7, ?_⟩
    obtain ⟨c8, h⟩ := h
    refine ⟨c8, ?_⟩
    obtain ⟨c9, h⟩ := h
    refine ⟨c9, ?_⟩
    intro x11 e10
    have h := h x11 e10
    obtain ⟨b12, e13, h⟩ := h
    refine ⟨b12, e13, ?_⟩
    obtain ⟨c14, h⟩ := h
    refine ⟨c14, ?_⟩
    obtain ⟨b15, e16, h⟩ := h
    refine ⟨b15, e16, ?_⟩
    obtain ⟨c17, h⟩ := h
    refine ⟨c17, ?_⟩
    obtain ⟨c18, h⟩ := h
    refine ⟨c18, ?_⟩
    intro x20 e19
    have h := h x20 e19
    obtain ⟨c21, h⟩ := h
    refine ⟨c21, ?_⟩
    intro x23 e22
    have h := h x23 e22
    exact ⟨h, K⟩
  · intro c24
    have h := h.2 c24
    obtain ⟨c25, h⟩ := h
    refine ⟨c25, ?_⟩
    obtain ⟨b26, e27, h⟩ := h
    refine ⟨b26, e27, ?_⟩
    obtain ⟨c28, h⟩ := h
    refine ⟨c28, ?_⟩
    obtain ⟨b29, e30, h⟩ := h
    refine ⟨b29, e30, ?_⟩
    obtain ⟨c31, h⟩ := h
    refine ⟨c31, ?_⟩
    obtain ⟨c32, h⟩ := h
    refine ⟨c32, ?_⟩
    intro x34 e33
    have h := h x34 e33
    refine cm_X11_inTime (kz_X11_inTime h) h (fun x35 x36 p38 h g37 => ?_)
    have h := h g37
    have K := kz_Z K p38.2
    intro x40 e39
    have h := h x40 e39
    obtain ⟨b41, e42, h⟩ := h
    refine ⟨b41, e42, ?_⟩
    obtain ⟨c43, h⟩ := h
    refine ⟨c43, ?_⟩
    obtain ⟨b44, e45, h⟩ := h
    refine ⟨b44, e45, ?_⟩
    obtain ⟨c46, h⟩ := h
    refine ⟨c46, ?_⟩
    obtain ⟨c47, h⟩ := h
    refine ⟨c47, ?_⟩
    intro x49 e48
    have h := h x49 e48
    refine cm_X11_inTime (kz_X11_inTime h) h (fun x50 x51 p53 h g52 => ?_)
    have h := h g52
    have K := kz_Z K p53.2
    intro x55 e54
    have h := h x55 e54
    intro x57 e56
    have h := h x57 e56
    exact hX6 _ _ _ _ _ _ _ _ _ _ h K
theorem kz_X11_together_6 {Q : Int64 → HS → Prop} {v0 : Nat} {v1 : Int32} {v2 : Int32} {v3 : Int32} {v4 : Int32} {v5 : Int32} {v6 : Int32} {v7 : Int64} {v9 : Int32} {S0 S : HS} (h : P_X11_together_6 Q v0 v1 v2 v3 v4 v5 v6 v7 v9 S) (K : KZ S0 S) : P_X11_together_6 (fun r T => Q r T ∧ KZ S0 T) v0 v1 v2 v3 v4 v5 v6 v7 v9 S := h (fun w0 v1 v2 v3 v4 v5 v6 v7 v9 S => KZ S0 S → P_X11_together_6 (fun r T => Q r T ∧ KZ S0 T) w0 v1 v2 v3 v4 v5 v6 v7 v9 S) (fun w0 v1 v2 v3 v4 v5 v6 v7 v9 S hB K => by
  exact fd_X11_together_6 (kzB_X11_together_6 hB K (fun _ _ _ _ _ _ _ _ _ _ hx K => hx K))) K
set_option maxRecDepth 20000 in
set_option maxHeartbeats 1000000 in
theorem kz_X11_together_0 {Q : Int64 → HS → Prop} {v0 : Nat} {v1 : Int32} {v2 : Int32} {v3 : Int32} {v4 : Int32} {v5 : Int32} {v6 : Int32} {S0 S : HS} (h : P_X11_together_0 Q v0 v1 v2 v3 v4 v5 v6 S) (K : KZ S0 S) : P_X11_together_0 (fun r T => Q r T ∧ KZ S0 T) v0 v1 v2 v3 v4 v5 v6 S := by
  delta P_X11_together_0 at h ⊢
  exact kz_X11_together_6 h K
theorem kz_X11_together {Q : Int64 → HS → Prop} {v0 : Nat} {v1 : Int32} {v2 : Int32} {v3 : Int32} {v4 : Int32} {v5 : Int32} {v6 : Int32} {S : HS} (h : P_X11_together v0 v1 v2 v3 v4 v5 v6 Q S) : P_X11_together v0 v1 v2 v3 v4 v5 v6 (fun r T => Q r T ∧ KZ S T) S := kz_X11_together_0 h (kz_rf S)
set_option maxRecDepth 20000 in
set_option maxHeartbeats 1000000 in
theorem ko_X11_first_89 {Q : Int32 → HS → Prop} {s0 : Nat} {s1 : Int32} {v0 : Nat} {S0 S : HS} (h : P_X11_first_89 Q s0 s1 S) (K : KO_M v0 S0 S) (o_s0 : OwS_M v0 S0 s0) : P_X11_first_89 (fun r T => Q r T ∧ KO_M v0 S0 T) s0 s1 S := by
  delta P_X11_first_89 at h ⊢
  obtain ⟨c1, h⟩ := h
  refine ⟨c1, ?_⟩
  refine cm_X11_good (kv_X11_good h) h (fun x2 x3 p5 h g4 => ?_)
  have h := h g4
  have K := kom_V K p5.2 o_s0
  exact ⟨h, K⟩
set_option maxRecDepth 20000 in
set_option maxHeartbeats 1000000 in
theorem ko_X11_first_0 {Q : Int32 → HS → Prop} {v0 : Nat} {v1 : Int32} {v2 : Int32} {v3 : Int32} {v4 : Int32} {v5 : Int32} {v6 : Int32} {S0 S : HS} (h : P_X11_first_0 Q v0 v1 v2 v3 v4 v5 v6 S) (K : KO_M v0 S0 S) : P_X11_first_0 (fun r T => Q r T ∧ KO_M v0 S0 T) v0 v1 v2 v3 v4 v5 v6 S := by
  delta P_X11_first_0 at h ⊢
  obtain ⟨c1, h⟩ := h
  refine ⟨c1, ?_⟩
  intro x3 e2
  have h := h x3 e2
  have K := kom_I K e2 owm_r
  refine cm_X11_refusesTwo (kz_X11_refusesTwo h) h (fun x4 x5 p7 h g6 => ?_)
  have h := h g6
  have K := kom_Z K p7.2
  refine ⟨?_, ?_⟩
  · intro c8
    have h := h.1 c8
    refine cm_X11_together (kz_X11_together h) h (fun x9 x10 p12 h g11 => ?_)
    have h := h g11
    have K := kom_Z K p12.2
    refine cm_X11_together (kz_X11_together h) h (fun x13 x14 p16 h g15 => ?_)
    have h := h g15
    have K := kom_Z K p16.2
    refine ⟨?_, ?_⟩
    · intro c17
      have h := h.1 c17
      refine ⟨?_, ?_⟩
      · intro c18
        have h := h.1 c18
        exact ko_X11_first_89 h K owm_r
      · intro c19
        have h := h.2 c19
        exact ko_X11_first_89 h K owm_r
    · intro c20
      have h := h.2 c20
      exact ko_X11_first_89 h K owm_r
  · intro c21
    have h := h.2 c21
    refine cm_X11_refused (kv_X11_refused h) h (fun x22 x23 p25 h g24 => ?_)
    have h := h g24
    have K := kom_V K p25.2 owm_r
    exact ⟨h, K⟩
theorem ko_X11_first {Q : Int32 → HS → Prop} {v0 : Nat} {v1 : Int32} {v2 : Int32} {v3 : Int32} {v4 : Int32} {v5 : Int32} {v6 : Int32} {S : HS} (h : P_X11_first v0 v1 v2 v3 v4 v5 v6 Q S) : P_X11_first v0 v1 v2 v3 v4 v5 v6 (fun r T => Q r T ∧ KO_M v0 S T) S := ko_X11_first_0 h (kom_rf _ S)
set_option maxRecDepth 20000 in
set_option maxHeartbeats 1000000 in
theorem kz_X11_fitOf_137 {Q : Int32 → HS → Prop} {X16 X16_2 : Nat → Int32 → Int32 → Int32 → Int32 → Int32 → HS → Prop} {X31 X31_2 : Nat → Int32 → Int32 → Int32 → Int32 → Int32 → Int32 → HS → Prop} {X40 X40_2 : Nat → Int32 → Int32 → Int32 → Int32 → Int32 → Int32 → Int32 → HS → Prop} {X63 X63_2 : Nat → Int32 → Int32 → Int32 → Int32 → Int32 → Int32 → Int32 → Int32 → HS → Prop} {X83 X83_2 : Nat → Int32 → Int32 → Int32 → Int32 → Int32 → Int32 → Int32 → Int32 → Int32 → Int32 → HS → Prop} {v0 : Nat} {v1 : Int32} {v2 : Int32} {v3 : Int32} {v4 : Int32} {v5 : Int32} {v6 : Int32} {v7 : Int32} {v8 : Int32} {v10 : Int32} {s0 : Int32} {S0 S : HS} (h : P_X11_fitOf_137 Q X16 X31 X40 X63 X83 v0 v1 v2 v3 v4 v5 v6 v7 v8 v10 s0 S) (K : KZ S0 S) (hX16 : ∀ (u0 : Nat) (u1 : Int32) (u2 : Int32) (u3 : Int32) (u4 : Int32) (u5 : Int32) (u6 : HS), X16 u0 u1 u2 u3 u4 u5 u6 → KZ S0 u6 → X16_2 u0 u1 u2 u3 u4 u5 u6) (hX31 : ∀ (u0 : Nat) (u1 : Int32) (u2 : Int32) (u3 : Int32) (u4 : Int32) (u5 : Int32) (u6 : Int32) (u7 : HS), X31 u0 u1 u2 u3 u4 u5 u6 u7 → KZ S0 u7 → X31_2 u0 u1 u2 u3 u4 u5 u6 u7) (hX40 : ∀ (u0 : Nat) (u1 : Int32) (u2 : Int32) (u3 : Int32) (u4 : Int32) (u5 : Int32) (u6 : Int32) (u7 : Int32) (u8 : HS), X40 u0 u1 u2 u3 u4 u5 u6 u7 u8 → KZ S0 u8 → X40_2 u0 u1 u2 u3 u4 u5 u6 u7 u8) (hX63 : ∀ (u0 : Nat) (u1 : Int32) (u2 : Int32) (u3 : Int32) (u4 : Int32) (u5 : Int32) (u6 : Int32) (u7 : Int32) (u8 : Int32) (u9 : HS), X63 u0 u1 u2 u3 u4 u5 u6 u7 u8 u9 → KZ S0 u9 → X63_2 u0 u1 u2 u3 u4 u5 u6 u7 u8 u9) (hX83 : ∀ (u0 : Nat) (u1 : Int32) (u2 : Int32) (u3 : Int32) (u4 : Int32) (u5 : Int32) (u6 : Int32) (u7 : Int32) (u8 : Int32) (u9 : Int32) (u10 : Int32) (u11 : HS), X83 u0 u1 u2 u3 u4 u5 u6 u7 u8 u9 u10 u11 → KZ S0 u11 → X83_2 u0 u1 u2 u3 u4 u5 u6 u7 u8 u9 u10 u11) : P_X11_fitOf_137 (fun r T => Q r T ∧ KZ S0 T) X16_2 X31_2 X40_2 X63_2 X83_2 v0 v1 v2 v3 v4 v5 v6 v7 v8 v10 s0 S := by
  delta P_X11_fitOf_137 at h ⊢
  intro x2 e1
  have h := h x2 e1
  exact hX83 _ _ _ _ _ _ _ _ _ _ _ _ h K
set_option maxRecDepth 20000 in
set_option maxHeartbeats 1000000 in
theorem kz_X11_fitOf_136 {Q : Int32 → HS → Prop} {X16 X16_2 : Nat → Int32 → Int32 → Int32 → Int32 → Int32 → HS → Prop} {X31 X31_2 : Nat → Int32 → Int32 → Int32 → Int32 → Int32 → Int32 → HS → Prop} {X40 X40_2 : Nat → Int32 → Int32 → Int32 → Int32 → Int32 → Int32 → Int32 → HS → Prop} {X63 X63_2 : Nat → Int32 → Int32 → Int32 → Int32 → Int32 → Int32 → Int32 → Int32 → HS → Prop} {X83 X83_2 : Nat → Int32 → Int32 → Int32 → Int32 → Int32 → Int32 → Int32 → Int32 → Int32 → Int32 → HS → Prop} {v0 : Nat} {v1 : Int32} {v2 : Int32} {v3 : Int32} {v4 : Int32} {v5 : Int32} {v6 : Int32} {v7 : Int32} {v8 : Int32} {v10 : Int32} {S0 S : HS} (h : P_X11_fitOf_136 Q X16 X31 X40 X63 X83 v0 v1 v2 v3 v4 v5 v6 v7 v8 v10 S) (K : KZ S0 S) (hX16 : ∀ (u0 : Nat) (u1 : Int32) (u2 : Int32) (u3 : Int32) (u4 : Int32) (u5 : Int32) (u6 : HS), X16 u0 u1 u2 u3 u4 u5 u6 → KZ S0 u6 → X16_2 u0 u1 u2 u3 u4 u5 u6) (hX31 : ∀ (u0 : Nat) (u1 : Int32) (u2 : Int32) (u3 : Int32) (u4 : Int32) (u5 : Int32) (u6 : Int32) (u7 : HS), X31 u0 u1 u2 u3 u4 u5 u6 u7 → KZ S0 u7 → X31_2 u0 u1 u2 u3 u4 u5 u6 u7) (hX40 : ∀ (u0 : Nat) (u1 : Int32) (u2 : Int32) (u3 : Int32) (u4 : Int32) (u5 : Int32) (u6 : Int32) (u7 : Int32) (u8 : HS), X40 u0 u1 u2 u3 u4 u5 u6 u7 u8 → KZ S0 u8 → X40_2 u0 u1 u2 u3 u4 u5 u6 u7 u8) (hX63 : ∀ (u0 : Nat) (u1 : Int32) (u2 : Int32) (u3 : Int32) (u4 : Int32) (u5 : Int32) (u6 : Int32) (u7 : Int32) (u8 : Int32) (u9 : HS), X63 u0 u1 u2 u3 u4 u5 u6 u7 u8 u9 → KZ S0 u9 → X63_2 u0 u1 u2 u3 u4 u5 u6 u7 u8 u9) (hX83 : ∀ (u0 : Nat) (u1 : Int32) (u2 : Int32) (u3 : Int32) (u4 : Int32) (u5 : Int32) (u6 : Int32) (u7 : Int32) (u8 : Int32) (u9 : Int32) (u10 : Int32) (u11 : HS), X83 u0 u1 u2 u3 u4 u5 u6 u7 u8 u9 u10 u11 → KZ S0 u11 → X83_2 u0 u1 u2 u3 u4 u5 u6 u7 u8 u9 u10 u11) : P_X11_fitOf_136 (fun r T => Q r T ∧ KZ S0 T) X16_2 X31_2 X40_2 X63_2 X83_2 v0 v1 v2 v3 v4 v5 v6 v7 v8 v10 S := by
  delta P_X11_fitOf_136 at h ⊢
  exact kz_X11_fitOf_137 h K hX16 hX31 hX40 hX63 hX83
set_option maxRecDepth 20000 in
set_option maxHeartbeats 1000000 in
theorem kz_X11_fitOf_184 {Q : Int32 → HS → Prop} {X16 X16_2 : Nat → Int32 → Int32 → Int32 → Int32 → Int32 → HS → Prop} {X31 X31_2 : Nat → Int32 → Int32 → Int32 → Int32 → Int32 → Int32 → HS → Prop} {X40 X40_2 : Nat → Int32 → Int32 → Int32 → Int32 → Int32 → Int32 → Int32 → HS → Prop} {X63 X63_2 : Nat → Int32 → Int32 → Int32 → Int32 → Int32 → Int32 → Int32 → Int32 → HS → Prop} {v0 : Nat} {v1 : Int32} {v2 : Int32} {v3 : Int32} {v4 : Int32} {v5 : Int32} {v6 : Int32} {v7 : Int32} {v8 : Int32} {S0 S : HS} (h : P_X11_fitOf_184 Q X16 X31 X40 X63 v0 v1 v2 v3 v4 v5 v6 v7 v8 S) (K : KZ S0 S) (hX16 : ∀ (u0 : Nat) (u1 : Int32) (u2 : Int32) (u3 : Int32) (u4 : Int32) (u5 : Int32) (u6 : HS), X16 u0 u1 u2 u3 u4 u5 u6 → KZ S0 u6 → X16_2 u0 u1 u2 u3 u4 u5 u6) (hX31 : ∀ (u0 : Nat) (u1 : Int32) (u2 : Int32) (u3 : Int32) (u4 : Int32) (u5 : Int32) (u6 : Int32) (u7 : HS), X31 u0 u1 u2 u3 u4 u5 u6 u7 → KZ S0 u7 → X31_2 u0 u1 u2 u3 u4 u5 u6 u7) (hX40 : ∀ (u0 : Nat) (u1 : Int32) (u2 : Int32) (u3 : Int32) (u4 : Int32) (u5 : Int32) (u6 : Int32) (u7 : Int32) (u8 : HS), X40 u0 u1 u2 u3 u4 u5 u6 u7 u8 → KZ S0 u8 → X40_2 u0 u1 u2 u3 u4 u5 u6 u7 u8) (hX63 : ∀ (u0 : Nat) (u1 : Int32) (u2 : Int32) (u3 : Int32) (u4 : Int32) (u5 : Int32) (u6 : Int32) (u7 : Int32) (u8 : Int32) (u9 : HS), X63 u0 u1 u2 u3 u4 u5 u6 u7 u8 u9 → KZ S0 u9 → X63_2 u0 u1 u2 u3 u4 u5 u6 u7 u8 u9) : P_X11_fitOf_184 (fun r T => Q r T ∧ KZ S0 T) X16_2 X31_2 X40_2 X63_2 v0 v1 v2 v3 v4 v5 v6 v7 v8 S := by
  delta P_X11_fitOf_184 at h ⊢
  intro x2 e1
  have h := h x2 e1
  exact hX63 _ _ _ _ _ _ _ _ _ _ h K
set_option maxRecDepth 20000 in
set_option maxHeartbeats 1000000 in
theorem kzB_X11_fitOf_83 {Q : Int32 → HS → Prop} {X16 X16_2 : Nat → Int32 → Int32 → Int32 → Int32 → Int32 → HS → Prop} {X31 X31_2 : Nat → Int32 → Int32 → Int32 → Int32 → Int32 → Int32 → HS → Prop} {X40 X40_2 : Nat → Int32 → Int32 → Int32 → Int32 → Int32 → Int32 → Int32 → HS → Prop} {X63 X63_2 : Nat → Int32 → Int32 → Int32 → Int32 → Int32 → Int32 → Int32 → Int32 → HS → Prop} {X83 X83_2 : Nat → Int32 → Int32 → Int32 → Int32 → Int32 → Int32 → Int32 → Int32 → Int32 → Int32 → HS → Prop} {v0 : Nat} {v1 : Int32} {v2 : Int32} {v3 : Int32} {v4 : Int32} {v5 : Int32} {v6 : Int32} {v7 : Int32} {v8 : Int32} {v9 : Int32} {v10 : Int32} {S0 S : HS} (h : B_X11_fitOf_83 Q X16 X31 X40 X63 X83 v0 v1 v2 v3 v4 v5 v6 v7 v8 v9 v10 S) (K : KZ S0 S) (hX16 : ∀ (u0 : Nat) (u1 : Int32) (u2 : Int32) (u3 : Int32) (u4 : Int32) (u5 : Int32) (u6 : HS), X16 u0 u1 u2 u3 u4 u5 u6 → KZ S0 u6 → X16_2 u0 u1 u2 u3 u4 u5 u6) (hX31 : ∀ (u0 : Nat) (u1 : Int32) (u2 : Int32) (u3 : Int32) (u4 : Int32) (u5 : Int32) (u6 : Int32) (u7 : HS), X31 u0 u1 u2 u3 u4 u5 u6 u7 → KZ S0 u7 → X31_2 u0 u1 u2 u3 u4 u5 u6 u7) (hX40 : ∀ (u0 : Nat) (u1 : Int32) (u2 : Int32) (u3 : Int32) (u4 : Int32) (u5 : Int32) (u6 : Int32) (u7 : Int32) (u8 : HS), X40 u0 u1 u2 u3 u4 u5 u6 u7 u8 → KZ S0 u8 → X40_2 u0 u1 u2 u3 u4 u5 u6 u7 u8) (hX63 : ∀ (u0 : Nat) (u1 : Int32) (u2 : Int32) (u3 : Int32) (u4 : Int32) (u5 : Int32) (u6 : Int32) (u7 : Int32) (u8 : Int32) (u9 : HS), X63 u0 u1 u2 u3 u4 u5 u6 u7 u8 u9 → KZ S0 u9 → X63_2 u0 u1 u2 u3 u4 u5 u6 u7 u8 u9) (hX83 : ∀ (u0 : Nat) (u1 : Int32) (u2 : Int32) (u3 : Int32) (u4 : Int32) (u5 : Int32) (u6 : Int32) (u7 : Int32) (u8 : Int32) (u9 : Int32) (u10 : Int32) (u11 : HS), X83 u0 u1 u2 u3 u4 u5 u6 u7 u8 u9 u10 u11 → KZ S0 u11 → X83_2 u0 u1 u2 u3 u4 u5 u6 u7 u8 u9 u10 u11) : B_X11_fitOf_83 (fun r T => Q r T ∧ KZ S0 T) X16_2 X31_2 X40_2 X63_2 X83_2 v0 v1 v2 v3 v4 v5 v6 v7 v8 v9 v10 S := by
  delta B_X11_fitOf_83 at h ⊢
  refine ⟨?_, ?_⟩
  · intro c1
    have h := h.1 c1
    refine ⟨?_, ?_⟩
    · intro c2
      have h := h.1 c2
      refine ⟨?_, ?_⟩
      · intro c3
        have h := h.1 c3
        intro x5 e4
        have h := h x5 e4
        exact kz_X11_fitOf_184 h K hX16 hX31 hX40 hX63
      · intro c6
        have h := h.2 c6
        exact ⟨h, K⟩
    · intro c7
      have h := h.2 c7
      exact kz_X11_fitOf_184 h K hX16 hX31 hX40 hX63
  · intro c8
    have h := h.2 c8
    refine ⟨?_, ?_⟩
    · intro c9
      have h := h.1 c9
      exact kz_X11_fitOf_136 h K hX16 hX31 hX40 hX63 hX83
    · intro c10
      have h := h.2 c10
      obtain ⟨c11, h⟩ := h
      refine ⟨c11, ?_⟩
      refine cm_X11_partsOf (kz_X11_partsOf h) h (fun x12 x13 p15 h g14 => ?_)
      have h := h g14
      have K := kz_Z K p15.2
      obtain ⟨b16, e17, h⟩ := h
      refine ⟨b16, e17, ?_⟩
      obtain ⟨c18, h⟩ := h
      refine ⟨c18, ?_⟩
      obtain ⟨b19, e20, h⟩ := h
      refine ⟨b19, e20, ?_⟩
      obtain ⟨c21, h⟩ := h
      refine ⟨c21, ?_⟩
      intro x23 e22
      have h := h x23 e22
      obtain ⟨c24, h⟩ := h
      refine ⟨c24, ?_⟩
      intro x26 e25
      have h := h x26 e25
      refine ⟨?_, ?_⟩
      · intro c27
        have h := h.1 c27
        exact kz_X11_fitOf_136 h K hX16 hX31 hX40 hX63 hX83
      · intro c28
        have h := h.2 c28
        exact kz_X11_fitOf_137 h K hX16 hX31 hX40 hX63 hX83
theorem kz_X11_fitOf_83 {Q : Int32 → HS → Prop} {X16 X16_2 : Nat → Int32 → Int32 → Int32 → Int32 → Int32 → HS → Prop} {X31 X31_2 : Nat → Int32 → Int32 → Int32 → Int32 → Int32 → Int32 → HS → Prop} {X40 X40_2 : Nat → Int32 → Int32 → Int32 → Int32 → Int32 → Int32 → Int32 → HS → Prop} {X63 X63_2 : Nat → Int32 → Int32 → Int32 → Int32 → Int32 → Int32 → Int32 → Int32 → HS → Prop} {v0 : Nat} {v1 : Int32} {v2 : Int32} {v3 : Int32} {v4 : Int32} {v5 : Int32} {v6 : Int32} {v7 : Int32} {v8 : Int32} {v9 : Int32} {v10 : Int32} {S0 S : HS} (h : P_X11_fitOf_83 Q X16 X31 X40 X63 v0 v1 v2 v3 v4 v5 v6 v7 v8 v9 v10 S) (K : KZ S0 S) (hX16 : ∀ (u0 : Nat) (u1 : Int32) (u2 : Int32) (u3 : Int32) (u4 : Int32) (u5 : Int32) (u6 : HS), X16 u0 u1 u2 u3 u4 u5 u6 → KZ S0 u6 → X16_2 u0 u1 u2 u3 u4 u5 u6) (hX31 : ∀ (u0 : Nat) (u1 : Int32) (u2 : Int32) (u3 : Int32) (u4 : Int32) (u5 : Int32) (u6 : Int32) (u7 : HS), X31 u0 u1 u2 u3 u4 u5 u6 u7 → KZ S0 u7 → X31_2 u0 u1 u2 u3 u4 u5 u6 u7) (hX40 : ∀ (u0 : Nat) (u1 : Int32) (u2 : Int32) (u3 : Int32) (u4 : Int32) (u5 : Int32) (u6 : Int32) (u7 : Int32) (u8 : HS), X40 u0 u1 u2 u3 u4 u5 u6 u7 u8 → KZ S0 u8 → X40_2 u0 u1 u2 u3 u4 u5 u6 u7 u8) (hX63 : ∀ (u0 : Nat) (u1 : Int32) (u2 : Int32) (u3 : Int32) (u4 : Int32) (u5 : Int32) (u6 : Int32) (u7 : Int32) (u8 : Int32) (u9 : HS), X63 u0 u1 u2 u3 u4 u5 u6 u7 u8 u9 → KZ S0 u9 → X63_2 u0 u1 u2 u3 u4 u5 u6 u7 u8 u9) : P_X11_fitOf_83 (fun r T => Q r T ∧ KZ S0 T) X16_2 X31_2 X40_2 X63_2 v0 v1 v2 v3 v4 v5 v6 v7 v8 v9 v10 S := h (fun w0 v1 v2 v3 v4 v5 v6 v7 v8 v9 v10 S => KZ S0 S → P_X11_fitOf_83 (fun r T => Q r T ∧ KZ S0 T) X16_2 X31_2 X40_2 X63_2 w0 v1 v2 v3 v4 v5 v6 v7 v8 v9 v10 S) (fun w0 v1 v2 v3 v4 v5 v6 v7 v8 v9 v10 S hB K => by
  exact fd_X11_fitOf_83 (kzB_X11_fitOf_83 hB K hX16 hX31 hX40 hX63 (fun _ _ _ _ _ _ _ _ _ _ _ _ hx K => hx K))) K
set_option maxRecDepth 20000 in
set_option maxHeartbeats 1000000 in
theorem kzB_X11_fitOf_63 {Q : Int32 → HS → Prop} {X16 X16_2 : Nat → Int32 → Int32 → Int32 → Int32 → Int32 → HS → Prop} {X31 X31_2 : Nat → Int32 → Int32 → Int32 → Int32 → Int32 → Int32 → HS → Prop} {X40 X40_2 : Nat → Int32 → Int32 → Int32 → Int32 → Int32 → Int32 → Int32 → HS → Prop} {X63 X63_2 : Nat → Int32 → Int32 → Int32 → Int32 → Int32 → Int32 → Int32 → Int32 → HS → Prop} {v0 : Nat} {v1 : Int32} {v2 : Int32} {v3 : Int32} {v4 : Int32} {v5 : Int32} {v6 : Int32} {v7 : Int32} {v8 : Int32} {S0 S : HS} (h : B_X11_fitOf_63 Q X16 X31 X40 X63 v0 v1 v2 v3 v4 v5 v6 v7 v8 S) (K : KZ S0 S) (hX16 : ∀ (u0 : Nat) (u1 : Int32) (u2 : Int32) (u3 : Int32) (u4 : Int32) (u5 : Int32) (u6 : HS), X16 u0 u1 u2 u3 u4 u5 u6 → KZ S0 u6 → X16_2 u0 u1 u2 u3 u4 u5 u6) (hX31 : ∀ (u0 : Nat) (u1 : Int32) (u2 : Int32) (u3 : Int32) (u4 : Int32) (u5 : Int32) (u6 : Int32) (u7 : HS), X31 u0 u1 u2 u3 u4 u5 u6 u7 → KZ S0 u7 → X31_2 u0 u1 u2 u3 u4 u5 u6 u7) (hX40 : ∀ (u0 : Nat) (u1 : Int32) (u2 : Int32) (u3 : Int32) (u4 : Int32) (u5 : Int32) (u6 : Int32) (u7 : Int32) (u8 : HS), X40 u0 u1 u2 u3 u4 u5 u6 u7 u8 → KZ S0 u8 → X40_2 u0 u1 u2 u3 u4 u5 u6 u7 u8) (hX63 : ∀ (u0 : Nat) (u1 : Int32) (u2 : Int32) (u3 : Int32) (u4 : Int32) (u5 : Int32) (u6 : Int32) (u7 : Int32) (u8 : Int32) (u9 : HS), X63 u0 u1 u2 u3 u4 u5 u6 u7 u8 u9 → KZ S0 u9 → X63_2 u0 u1 u2 u3 u4 u5 u6 u7 u8 u9) : B_X11_fitOf_63 (fun r T => Q r T ∧ KZ S0 T) X16_2 X31_2 X40_2 X63_2 v0 v1 v2 v3 v4 v5 v6 v7 v8 S := by
  delta B_X11_fitOf_63 at h ⊢
  obtain ⟨c1, h⟩ := h
  refine ⟨c1, ?_⟩
  obtain ⟨b2, e3, h⟩ := h
  refine ⟨b2, e3, ?_⟩
  obtain ⟨c4, h⟩ := h
  refine ⟨c4, ?_⟩
  obtain ⟨b5, e6, h⟩ := h
  refine ⟨b5, e6, ?_⟩
  obtain ⟨c7, h⟩ := h
  refine ⟨c7, ?_⟩
  obtain ⟨c8, h⟩ := h
  refine ⟨c8, ?_⟩
  intro x10 e9
  have h := h x10 e9
  refine ⟨?_, ?_⟩
  · intro c11
    have h := h.1 c11
    intro x13 e12
    have h := h x13 e12
    exact hX40 _ _ _ _ _ _ _ _ _ h K
  · intro c14
    have h := h.2 c14
    exact kz_X11_fitOf_83 h K hX16 hX31 hX40 hX63
theorem kz_X11_fitOf_63 {Q : Int32 → HS → Prop} {X16 X16_2 : Nat → Int32 → Int32 → Int32 → Int32 → Int32 → HS → Prop} {X31 X31_2 : Nat → Int32 → Int32 → Int32 → Int32 → Int32 → Int32 → HS → Prop} {X40 X40_2 : Nat → Int32 → Int32 → Int32 → Int32 → Int32 → Int32 → Int32 → HS → Prop} {v0 : Nat} {v1 : Int32} {v2 : Int32} {v3 : Int32} {v4 : Int32} {v5 : Int32} {v6 : Int32} {v7 : Int32} {v8 : Int32} {S0 S : HS} (h : P_X11_fitOf_63 Q X16 X31 X40 v0 v1 v2 v3 v4 v5 v6 v7 v8 S) (K : KZ S0 S) (hX16 : ∀ (u0 : Nat) (u1 : Int32) (u2 : Int32) (u3 : Int32) (u4 : Int32) (u5 : Int32) (u6 : HS), X16 u0 u1 u2 u3 u4 u5 u6 → KZ S0 u6 → X16_2 u0 u1 u2 u3 u4 u5 u6) (hX31 : ∀ (u0 : Nat) (u1 : Int32) (u2 : Int32) (u3 : Int32) (u4 : Int32) (u5 : Int32) (u6 : Int32) (u7 : HS), X31 u0 u1 u2 u3 u4 u5 u6 u7 → KZ S0 u7 → X31_2 u0 u1 u2 u3 u4 u5 u6 u7) (hX40 : ∀ (u0 : Nat) (u1 : Int32) (u2 : Int32) (u3 : Int32) (u4 : Int32) (u5 : Int32) (u6 : Int32) (u7 : Int32) (u8 : HS), X40 u0 u1 u2 u3 u4 u5 u6 u7 u8 → KZ S0 u8 → X40_2 u0 u1 u2 u3 u4 u5 u6 u7 u8) : P_X11_fitOf_63 (fun r T => Q r T ∧ KZ S0 T) X16_2 X31_2 X40_2 v0 v1 v2 v3 v4 v5 v6 v7 v8 S := h (fun w0 v1 v2 v3 v4 v5 v6 v7 v8 S => KZ S0 S → P_X11_fitOf_63 (fun r T => Q r T ∧ KZ S0 T) X16_2 X31_2 X40_2 w0 v1 v2 v3 v4 v5 v6 v7 v8 S) (fun w0 v1 v2 v3 v4 v5 v6 v7 v8 S hB K => by
  exact fd_X11_fitOf_63 (kzB_X11_fitOf_63 hB K hX16 hX31 hX40 (fun _ _ _ _ _ _ _ _ _ _ hx K => hx K))) K
set_option maxRecDepth 20000 in
set_option maxHeartbeats 1000000 in
theorem kzB_X11_fitOf_40 {Q : Int32 → HS → Prop} {X16 X16_2 : Nat → Int32 → Int32 → Int32 → Int32 → Int32 → HS → Prop} {X31 X31_2 : Nat → Int32 → Int32 → Int32 → Int32 → Int32 → Int32 → HS → Prop} {X40 X40_2 : Nat → Int32 → Int32 → Int32 → Int32 → Int32 → Int32 → Int32 → HS → Prop} {v0 : Nat} {v1 : Int32} {v2 : Int32} {v3 : Int32} {v4 : Int32} {v5 : Int32} {v6 : Int32} {v7 : Int32} {S0 S : HS} (h : B_X11_fitOf_40 Q X16 X31 X40 v0 v1 v2 v3 v4 v5 v6 v7 S) (K : KZ S0 S) (hX16 : ∀ (u0 : Nat) (u1 : Int32) (u2 : Int32) (u3 : Int32) (u4 : Int32) (u5 : Int32) (u6 : HS), X16 u0 u1 u2 u3 u4 u5 u6 → KZ S0 u6 → X16_2 u0 u1 u2 u3 u4 u5 u6) (hX31 : ∀ (u0 : Nat) (u1 : Int32) (u2 : Int32) (u3 : Int32) (u4 : Int32) (u5 : Int32) (u6 : Int32) (u7 : HS), X31 u0 u1 u2 u3 u4 u5 u6 u7 → KZ S0 u7 → X31_2 u0 u1 u2 u3 u4 u5 u6 u7) (hX40 : ∀ (u0 : Nat) (u1 : Int32) (u2 : Int32) (u3 : Int32) (u4 : Int32) (u5 : Int32) (u6 : Int32) (u7 : Int32) (u8 : HS), X40 u0 u1 u2 u3 u4 u5 u6 u7 u8 → KZ S0 u8 → X40_2 u0 u1 u2 u3 u4 u5 u6 u7 u8) : B_X11_fitOf_40 (fun r T => Q r T ∧ KZ S0 T) X16_2 X31_2 X40_2 v0 v1 v2 v3 v4 v5 v6 v7 S := by
  delta B_X11_fitOf_40 at h ⊢
  obtain ⟨c1, h⟩ := h
  refine ⟨c1, ?_⟩
  obtain ⟨b2, e3, h⟩ := h
  refine ⟨b2, e3, ?_⟩
  obtain ⟨c4, h⟩ := h
  refine ⟨c4, ?_⟩
  intro x6 e5
  have h := h x6 e5
  refine ⟨?_, ?_⟩
  · intro c7
    have h := h.1 c7
    intro x9 e8
    have h := h x9 e8
    exact hX31 _ _ _ _ _ _ _ _ h K
  · intro c10
    have h := h.2 c10
    obtain ⟨b11, e12, h⟩ := h
    refine ⟨b11, e12, ?_⟩
    obtain ⟨c13, h⟩ := h
    refine ⟨c13, ?_⟩
    obtain ⟨b14, e15, h⟩ := h
    refine ⟨b14, e15, ?_⟩
    obtain ⟨c16, h⟩ := h
    refine ⟨c16, ?_⟩
    obtain ⟨c17, h⟩ := h
    refine ⟨c17, ?_⟩
    intro x19 e18
    have h := h x19 e18
    exact kz_X11_fitOf_63 h K hX16 hX31 hX40
theorem kz_X11_fitOf_40 {Q : Int32 → HS → Prop} {X16 X16_2 : Nat → Int32 → Int32 → Int32 → Int32 → Int32 → HS → Prop} {X31 X31_2 : Nat → Int32 → Int32 → Int32 → Int32 → Int32 → Int32 → HS → Prop} {v0 : Nat} {v1 : Int32} {v2 : Int32} {v3 : Int32} {v4 : Int32} {v5 : Int32} {v6 : Int32} {v7 : Int32} {S0 S : HS} (h : P_X11_fitOf_40 Q X16 X31 v0 v1 v2 v3 v4 v5 v6 v7 S) (K : KZ S0 S) (hX16 : ∀ (u0 : Nat) (u1 : Int32) (u2 : Int32) (u3 : Int32) (u4 : Int32) (u5 : Int32) (u6 : HS), X16 u0 u1 u2 u3 u4 u5 u6 → KZ S0 u6 → X16_2 u0 u1 u2 u3 u4 u5 u6) (hX31 : ∀ (u0 : Nat) (u1 : Int32) (u2 : Int32) (u3 : Int32) (u4 : Int32) (u5 : Int32) (u6 : Int32) (u7 : HS), X31 u0 u1 u2 u3 u4 u5 u6 u7 → KZ S0 u7 → X31_2 u0 u1 u2 u3 u4 u5 u6 u7) : P_X11_fitOf_40 (fun r T => Q r T ∧ KZ S0 T) X16_2 X31_2 v0 v1 v2 v3 v4 v5 v6 v7 S := h (fun w0 v1 v2 v3 v4 v5 v6 v7 S => KZ S0 S → P_X11_fitOf_40 (fun r T => Q r T ∧ KZ S0 T) X16_2 X31_2 w0 v1 v2 v3 v4 v5 v6 v7 S) (fun w0 v1 v2 v3 v4 v5 v6 v7 S hB K => by
  exact fd_X11_fitOf_40 (kzB_X11_fitOf_40 hB K hX16 hX31 (fun _ _ _ _ _ _ _ _ _ hx K => hx K))) K
set_option maxRecDepth 20000 in
set_option maxHeartbeats 1000000 in
theorem kzB_X11_fitOf_31 {Q : Int32 → HS → Prop} {X16 X16_2 : Nat → Int32 → Int32 → Int32 → Int32 → Int32 → HS → Prop} {X31 X31_2 : Nat → Int32 → Int32 → Int32 → Int32 → Int32 → Int32 → HS → Prop} {v0 : Nat} {v1 : Int32} {v2 : Int32} {v3 : Int32} {v4 : Int32} {v5 : Int32} {v6 : Int32} {S0 S : HS} (h : B_X11_fitOf_31 Q X16 X31 v0 v1 v2 v3 v4 v5 v6 S) (K : KZ S0 S) (hX16 : ∀ (u0 : Nat) (u1 : Int32) (u2 : Int32) (u3 : Int32) (u4 : Int32) (u5 : Int32) (u6 : HS), X16 u0 u1 u2 u3 u4 u5 u6 → KZ S0 u6 → X16_2 u0 u1 u2 u3 u4 u5 u6) (hX31 : ∀ (u0 : Nat) (u1 : Int32) (u2 : Int32) (u3 : Int32) (u4 : Int32) (u5 : Int32) (u6 : Int32) (u7 : HS), X31 u0 u1 u2 u3 u4 u5 u6 u7 → KZ S0 u7 → X31_2 u0 u1 u2 u3 u4 u5 u6 u7) : B_X11_fitOf_31 (fun r T => Q r T ∧ KZ S0 T) X16_2 X31_2 v0 v1 v2 v3 v4 v5 v6 S := by
  delta B_X11_fitOf_31 at h ⊢
  refine ⟨?_, ?_⟩
  · intro c1
    have h := h.1 c1
    intro x3 e2
    have h := h x3 e2
    exact hX16 _ _ _ _ _ _ _ h K
  · intro c4
    have h := h.2 c4
    exact kz_X11_fitOf_40 h K hX16 hX31
theorem kz_X11_fitOf_31 {Q : Int32 → HS → Prop} {X16 X16_2 : Nat → Int32 → Int32 → Int32 → Int32 → Int32 → HS → Prop} {v0 : Nat} {v1 : Int32} {v2 : Int32} {v3 : Int32} {v4 : Int32} {v5 : Int32} {v6 : Int32} {S0 S : HS} (h : P_X11_fitOf_31 Q X16 v0 v1 v2 v3 v4 v5 v6 S) (K : KZ S0 S) (hX16 : ∀ (u0 : Nat) (u1 : Int32) (u2 : Int32) (u3 : Int32) (u4 : Int32) (u5 : Int32) (u6 : HS), X16 u0 u1 u2 u3 u4 u5 u6 → KZ S0 u6 → X16_2 u0 u1 u2 u3 u4 u5 u6) : P_X11_fitOf_31 (fun r T => Q r T ∧ KZ S0 T) X16_2 v0 v1 v2 v3 v4 v5 v6 S := h (fun w0 v1 v2 v3 v4 v5 v6 S => KZ S0 S → P_X11_fitOf_31 (fun r T => Q r T ∧ KZ S0 T) X16_2 w0 v1 v2 v3 v4 v5 v6 S) (fun w0 v1 v2 v3 v4 v5 v6 S hB K => by
  exact fd_X11_fitOf_31 (kzB_X11_fitOf_31 hB K hX16 (fun _ _ _ _ _ _ _ _ hx K => hx K))) K
set_option maxRecDepth 20000 in
set_option maxHeartbeats 1000000 in
theorem kzB_X11_fitOf_16 {Q : Int32 → HS → Prop} {X16 X16_2 : Nat → Int32 → Int32 → Int32 → Int32 → Int32 → HS → Prop} {v0 : Nat} {v1 : Int32} {v2 : Int32} {v3 : Int32} {v4 : Int32} {v5 : Int32} {S0 S : HS} (h : B_X11_fitOf_16 Q X16 v0 v1 v2 v3 v4 v5 S) (K : KZ S0 S) (hX16 : ∀ (u0 : Nat) (u1 : Int32) (u2 : Int32) (u3 : Int32) (u4 : Int32) (u5 : Int32) (u6 : HS), X16 u0 u1 u2 u3 u4 u5 u6 → KZ S0 u6 → X16_2 u0 u1 u2 u3 u4 u5 u6) : B_X11_fitOf_16 (fun r T => Q r T ∧ KZ S0 T) X16_2 v0 v1 v2 v3 v4 v5 S := by
  delta B_X11_fitOf_16 at h ⊢
  obtain ⟨c1, h⟩ := h
  refine ⟨c1, ?_⟩
  obtain ⟨b2, e3, h⟩ := h
  refine ⟨b2, e3, ?_⟩
  obtain ⟨c4, h⟩ := h
  refine ⟨c4, ?_⟩
  intro x6 e5
  have h := h x6 e5
  refine ⟨?_, ?_⟩
  · intro c7
    have h := h.1 c7
    refine ⟨?_, ?_⟩
    · intro c8
      have h := h.1 c8
      exact ⟨h, K⟩
    · intro c9
      have h := h.2 c9
      exact ⟨h, K⟩
  · intro c10
    have h := h.2 c10
    exact kz_X11_fitOf_31 h K hX16
theorem kz_X11_fitOf_16 {Q : Int32 → HS → Prop} {v0 : Nat} {v1 : Int32} {v2 : Int32} {v3 : Int32} {v4 : Int32} {v5 : Int32} {S0 S : HS} (h : P_X11_fitOf_16 Q v0 v1 v2 v3 v4 v5 S) (K : KZ S0 S) : P_X11_fitOf_16 (fun r T => Q r T ∧ KZ S0 T) v0 v1 v2 v3 v4 v5 S := h (fun w0 v1 v2 v3 v4 v5 S => KZ S0 S → P_X11_fitOf_16 (fun r T => Q r T ∧ KZ S0 T) w0 v1 v2 v3 v4 v5 S) (fun w0 v1 v2 v3 v4 v5 S hB K => by
  exact fd_X11_fitOf_16 (kzB_X11_fitOf_16 hB K (fun _ _ _ _ _ _ _ hx K => hx K))) K
set_option maxRecDepth 20000 in
set_option maxHeartbeats 1000000 in
theorem kz_X11_fitOf_0 {Q : Int32 → HS → Prop} {v0 : Nat} {v1 : Int32} {v2 : Int32} {S0 S : HS} (h : P_X11_fitOf_0 Q v0 v1 v2 S) (K : KZ S0 S) : P_X11_fitOf_0 (fun r T => Q r T ∧ KZ S0 T) v0 v1 v2 S := by
  delta P_X11_fitOf_0 at h ⊢
  obtain ⟨c1, h⟩ := h
  refine ⟨c1, ?_⟩
  obtain ⟨b2, e3, h⟩ := h
  refine ⟨b2, e3, ?_⟩
  obtain ⟨c4, h⟩ := h
  refine ⟨c4, ?_⟩
  obtain ⟨b5, e6, h⟩ := h
  refine ⟨b5, e6, ?_⟩
  obtain ⟨c7, h⟩ := h
  refine ⟨c7, ?_⟩
  obtain ⟨c8, h⟩ := h
  refine ⟨c8, ?_⟩
  intro x10 e9
  have h := h x10 e9
  exact kz_X11_fitOf_16 h K
theorem kz_X11_fitOf {Q : Int32 → HS → Prop} {v0 : Nat} {v1 : Int32} {v2 : Int32} {S : HS} (h : P_X11_fitOf v0 v1 v2 Q S) : P_X11_fitOf v0 v1 v2 (fun r T => Q r T ∧ KZ S T) S := kz_X11_fitOf_0 h (kz_rf S)
set_option maxRecDepth 20000 in
set_option maxHeartbeats 1000000 in
theorem kz_X11_isSeen_0 {Q : Int32 → HS → Prop} {v0 : Nat} {v1 : Int32} {S0 S : HS} (h : P_X11_isSeen_0 Q v0 v1 S) (K : KZ S0 S) : P_X11_isSeen_0 (fun r T => Q r T ∧ KZ S0 T) v0 v1 S := by
  delta P_X11_isSeen_0 at h ⊢
  obtain ⟨c1, h⟩ := h
  refine ⟨c1, ?_⟩
  refine ⟨?_, ?_⟩
  · intro c2
    have h := h.1 c2
    exact ⟨h, K⟩
  · intro x3 c4
    have h := h.2 x3 c4
    refine ⟨?_, ?_⟩
    · intro c5
      have h := h.1 c5
      exact ⟨h, K⟩
    · intro c6
      have h := h.2 c6
      obtain ⟨b7, e8, h⟩ := h
      refine ⟨b7, e8, ?_⟩
      obtain ⟨c9, h⟩ := h
      refine ⟨c9, ?_⟩
      intro x11 e10
      have h := h x11 e10
      refine ⟨?_, ?_⟩
      · intro c12
        have h := h.1 c12
        exact ⟨h, K⟩
      · intro c13
        have h := h.2 c13
        exact ⟨h, K⟩
theorem kz_X11_isSeen {Q : Int32 → HS → Prop} {v0 : Nat} {v1 : Int32} {S : HS} (h : P_X11_isSeen v0 v1 Q S) : P_X11_isSeen v0 v1 (fun r T => Q r T ∧ KZ S T) S := kz_X11_isSeen_0 h (kz_rf S)
set_option maxRecDepth 20000 in
set_option maxHeartbeats 1000000 in
theorem kv_X11_fit_27 {Q : Int32 → HS → Prop} {v0 : Nat} {s0 : Int32} {S0 S : HS} (h : P_X11_fit_27 Q v0 s0 S) (K : KV v0 S0 S) : P_X11_fit_27 (fun r T => Q r T ∧ KV v0 S0 T) v0 s0 S := by
  delta P_X11_fit_27 at h ⊢
  refine ⟨?_, ?_⟩
  · intro c1
    have h := h.1 c1
    obtain ⟨c2, h⟩ := h
    refine ⟨c2, ?_⟩
    refine cm_X11_good (kv_X11_good h) h (fun x3 x4 p6 h g5 => ?_)
    have h := h g5
    have K := kv_tr K p6.2
    exact ⟨h, K⟩
  · intro c7
    have h := h.2 c7
    obtain ⟨c8, h⟩ := h
    refine ⟨c8, ?_⟩
    refine cm_X11_refused (kv_X11_refused h) h (fun x9 x10 p12 h g11 => ?_)
    have h := h g11
    have K := kv_tr K p12.2
    exact ⟨h, K⟩
set_option maxRecDepth 20000 in
set_option maxHeartbeats 1000000 in
theorem kv_X11_fit_26 {Q : Int32 → HS → Prop} {v0 : Nat} {S0 S : HS} (h : P_X11_fit_26 Q v0 S) (K : KV v0 S0 S) : P_X11_fit_26 (fun r T => Q r T ∧ KV v0 S0 T) v0 S := by
  delta P_X11_fit_26 at h ⊢
  exact kv_X11_fit_27 h K
set_option maxRecDepth 20000 in
set_option maxHeartbeats 1000000 in
theorem kv_X11_fit_0 {Q : Int32 → HS → Prop} {v0 : Nat} {v1 : Int32} {v2 : Int32} {S0 S : HS} (h : P_X11_fit_0 Q v0 v1 v2 S) (K : KV v0 S0 S) : P_X11_fit_0 (fun r T => Q r T ∧ KV v0 S0 T) v0 v1 v2 S := by
  delta P_X11_fit_0 at h ⊢
  obtain ⟨c1, h⟩ := h
  refine ⟨c1, ?_⟩
  intro x3 e2
  have h := h x3 e2
  have K := kv_I K e2
  refine cm_X11_isSeen (kz_X11_isSeen h) h (fun x4 x5 p8 h g6 g7 => ?_)
  have h := h g6 g7
  have K := kv_Z K p8.2
  refine ⟨?_, ?_⟩
  · intro c9
    have h := h.1 c9
    exact kv_X11_fit_26 h K
  · intro c10
    have h := h.2 c10
    refine ⟨?_, ?_⟩
    · intro c11
      have h := h.1 c11
      exact kv_X11_fit_26 h K
    · intro c12
      have h := h.2 c12
      refine cm_X11_fitOf (kz_X11_fitOf h) h (fun x13 x14 p16 h g15 => ?_)
      have h := h g15
      have K := kv_Z K p16.2
      exact kv_X11_fit_27 h K
theorem kv_X11_fit {Q : Int32 → HS → Prop} {v0 : Nat} {v1 : Int32} {v2 : Int32} {S : HS} (h : P_X11_fit v0 v1 v2 Q S) : P_X11_fit v0 v1 v2 (fun r T => Q r T ∧ KV v0 S T) S := kv_X11_fit_0 h (kv_rf _ S)
set_option maxRecDepth 20000 in
set_option maxHeartbeats 1000000 in
theorem kv_X11_fits_0 {Q : Int32 → HS → Prop} {v0 : Nat} {v1 : Int32} {S0 S : HS} (h : P_X11_fits_0 Q v0 v1 S) (K : KV v0 S0 S) : P_X11_fits_0 (fun r T => Q r T ∧ KV v0 S0 T) v0 v1 S := by
  delta P_X11_fits_0 at h ⊢
  obtain ⟨c1, h⟩ := h
  refine ⟨c1, ?_⟩
  intro x3 e2
  have h := h x3 e2
  have K := kv_I K e2
  refine cm_X11_isSeen (kz_X11_isSeen h) h (fun x4 x5 p8 h g6 g7 => ?_)
  have h := h g6 g7
  have K := kv_Z K p8.2
  refine ⟨?_, ?_⟩
  · intro c9
    have h := h.1 c9
    refine cm_X11_refused (kv_X11_refused h) h (fun x10 x11 p13 h g12 => ?_)
    have h := h g12
    have K := kv_tr K p13.2
    exact ⟨h, K⟩
  · intro c14
    have h := h.2 c14
    refine cm_X11_fitOf (kz_X11_fitOf h) h (fun x15 x16 p18 h g17 => ?_)
    have h := h g17
    have K := kv_Z K p18.2
    refine cm_X11_good (kv_X11_good h) h (fun x19 x20 p22 h g21 => ?_)
    have h := h g21
    have K := kv_tr K p22.2
    exact ⟨h, K⟩
theorem kv_X11_fits {Q : Int32 → HS → Prop} {v0 : Nat} {v1 : Int32} {S : HS} (h : P_X11_fits v0 v1 Q S) : P_X11_fits v0 v1 (fun r T => Q r T ∧ KV v0 S T) S := kv_X11_fits_0 h (kv_rf _ S)
set_option maxRecDepth 20000 in
set_option maxHeartbeats 1000000 in
theorem kz_X11_hourOf_0 {Q : Int32 → HS → Prop} {v0 : Nat} {v1 : Int32} {S0 S : HS} (h : P_X11_hourOf_0 Q v0 v1 S) (K : KZ S0 S) : P_X11_hourOf_0 (fun r T => Q r T ∧ KZ S0 T) v0 v1 S := by
  delta P_X11_hourOf_0 at h ⊢
  obtain ⟨c1, h⟩ := h
  refine ⟨c1, ?_⟩
  obtain ⟨b2, e3, h⟩ := h
  refine ⟨b2, e3, ?_⟩
  obtain ⟨c4, h⟩ := h
  refine ⟨c4, ?_⟩
  intro x6 e5
  have h := h x6 e5
  obtain ⟨c7, h⟩ := h
  refine ⟨c7, ?_⟩
  intro x9 e8
  have h := h x9 e8
  exact ⟨h, K⟩
theorem kz_X11_hourOf {Q : Int32 → HS → Prop} {v0 : Nat} {v1 : Int32} {S : HS} (h : P_X11_hourOf v0 v1 Q S) : P_X11_hourOf v0 v1 (fun r T => Q r T ∧ KZ S T) S := kz_X11_hourOf_0 h (kz_rf S)
set_option maxRecDepth 20000 in
set_option maxHeartbeats 1000000 in
theorem kvB_X11_keeps_50 {Q : HS → Prop} {X50 X50_2 : Nat → Int32 → HS → Prop} {v0 : Nat} {v1 : Int32} {S0 S : HS} (h : B_X11_keeps_50 Q X50 v0 v1 S) (K : KV v0 S0 S) (hX50 : ∀ (u0 : Nat) (u1 : Int32) (u2 : HS), X50 u0 u1 u2 → u0 = v0 → KV v0 S0 u2 → X50_2 u0 u1 u2) : B_X11_keeps_50 (fun T => Q T ∧ KV v0 S0 T) X50_2 v0 v1 S := by
  delta B_X11_keeps_50 at h ⊢
  refine ⟨?_, ?_⟩
  · intro c1
    have h := h.1 c1
    obtain ⟨c2, h⟩ := h
    refine ⟨c2, ?_⟩
    intro x4 e3
    have h := h x4 e3
    intro x6 e5
    have h := h x6 e5
    intro x8 e7
    have h := h x8 e7
    have K := kv_I K e7
    exact ⟨h, K⟩
  · intro c9
    have h := h.2 c9
    obtain ⟨c10, h⟩ := h
    refine ⟨c10, ?_⟩
    obtain ⟨b11, e12, h⟩ := h
    refine ⟨b11, e12, ?_⟩
    intro x14 e13
    have h := h x14 e13
    obtain ⟨b15, e16, h⟩ := h
    refine ⟨b15, e16, ?_⟩
    obtain ⟨c17, h⟩ := h
    refine ⟨c17, ?_⟩
    obtain ⟨c18, h⟩ := h
    refine ⟨c18, ?_⟩
    intro x20 e19
    have h := h x20 e19
    obtain ⟨c21, h⟩ := h
    refine ⟨c21, ?_⟩
    obtain ⟨c22, h⟩ := h
    refine ⟨c22, ?_⟩
    intro x24 e23
    have h := h x24 e23
    have K := kv_J K e23
    intro x26 e25
    have h := h x26 e25
    exact hX50 _ _ _ h rfl K
theorem kv_X11_keeps_50 {Q : HS → Prop} {v0 : Nat} {v1 : Int32} {S0 S : HS} (h : P_X11_keeps_50 Q v0 v1 S) (K : KV v0 S0 S) : P_X11_keeps_50 (fun T => Q T ∧ KV v0 S0 T) v0 v1 S := h (fun w0 v1 S => w0 = v0 → KV v0 S0 S → P_X11_keeps_50 (fun T => Q T ∧ KV v0 S0 T) w0 v1 S) (fun w0 v1 S hB e K => by
  subst e; exact fd_X11_keeps_50 (kvB_X11_keeps_50 hB K (fun _ _ _ hx e K => hx e K))) rfl K
set_option maxRecDepth 20000 in
set_option maxHeartbeats 1000000 in
theorem kv_X11_keeps_48 {Q : HS → Prop} {v0 : Nat} {S0 S : HS} (h : P_X11_keeps_48 Q v0 S) (K : KV v0 S0 S) : P_X11_keeps_48 (fun T => Q T ∧ KV v0 S0 T) v0 S := by
  delta P_X11_keeps_48 at h ⊢
  exact kv_X11_keeps_50 h K
set_option maxRecDepth 20000 in
set_option maxHeartbeats 1000000 in
theorem kvB_X11_keeps_11 {Q : HS → Prop} {X11 X11_2 : Nat → Int32 → HS → Prop} {v0 : Nat} {v1 : Int32} {S0 S : HS} (h : B_X11_keeps_11 Q X11 v0 v1 S) (K : KV v0 S0 S) (hX11 : ∀ (u0 : Nat) (u1 : Int32) (u2 : HS), X11 u0 u1 u2 → u0 = v0 → KV v0 S0 u2 → X11_2 u0 u1 u2) : B_X11_keeps_11 (fun T => Q T ∧ KV v0 S0 T) X11_2 v0 v1 S := by
  delta B_X11_keeps_11 at h ⊢
  refine ⟨?_, ?_⟩
  · intro c1
    have h := h.1 c1
    obtain ⟨c2, h⟩ := h
    refine ⟨c2, ?_⟩
    intro x4 e3
    have h := h x4 e3
    intro x6 e5
    have h := h x6 e5
    intro x8 e7
    have h := h x8 e7
    have K := kv_I K e7
    exact kv_X11_keeps_48 h K
  · intro c9
    have h := h.2 c9
    obtain ⟨c10, h⟩ := h
    refine ⟨c10, ?_⟩
    obtain ⟨b11, e12, h⟩ := h
    refine ⟨b11, e12, ?_⟩
    obtain ⟨b13, e14, h⟩ := h
    refine ⟨b13, e14, ?_⟩
    obtain ⟨c15, h⟩ := h
    refine ⟨c15, ?_⟩
    intro x17 e16
    have h := h x17 e16
    obtain ⟨c18, h⟩ := h
    refine ⟨c18, ?_⟩
    intro x20 e19
    have h := h x20 e19
    obtain ⟨c21, h⟩ := h
    refine ⟨c21, ?_⟩
    obtain ⟨c22, h⟩ := h
    refine ⟨c22, ?_⟩
    intro x24 e23
    have h := h x24 e23
    have K := kv_J K e23
    intro x26 e25
    have h := h x26 e25
    exact hX11 _ _ _ h rfl K
theorem kv_X11_keeps_11 {Q : HS → Prop} {v0 : Nat} {v1 : Int32} {S0 S : HS} (h : P_X11_keeps_11 Q v0 v1 S) (K : KV v0 S0 S) : P_X11_keeps_11 (fun T => Q T ∧ KV v0 S0 T) v0 v1 S := h (fun w0 v1 S => w0 = v0 → KV v0 S0 S → P_X11_keeps_11 (fun T => Q T ∧ KV v0 S0 T) w0 v1 S) (fun w0 v1 S hB e K => by
  subst e; exact fd_X11_keeps_11 (kvB_X11_keeps_11 hB K (fun _ _ _ hx e K => hx e K))) rfl K
set_option maxRecDepth 20000 in
set_option maxHeartbeats 1000000 in
theorem kv_X11_keeps_0 {Q : HS → Prop} {v0 : Nat} {S0 S : HS} (h : P_X11_keeps_0 Q v0 S) (K : KV v0 S0 S) : P_X11_keeps_0 (fun T => Q T ∧ KV v0 S0 T) v0 S := by
  delta P_X11_keeps_0 at h ⊢
  obtain ⟨c1, h⟩ := h
  refine ⟨c1, ?_⟩
  intro x3 e2
  have h := h x3 e2
  refine ⟨?_, ?_⟩
  · intro c4
    have h := h.1 c4
    exact kv_X11_keeps_48 h K
  · intro c5
    have h := h.2 c5
    exact kv_X11_keeps_11 h K
theorem kv_X11_keeps {Q : HS → Prop} {v0 : Nat} {S : HS} (h : P_X11_keeps v0 Q S) : P_X11_keeps v0 (fun T => Q T ∧ KV v0 S T) S := kv_X11_keeps_0 h (kv_rf _ S)
set_option maxRecDepth 20000 in
set_option maxHeartbeats 1000000 in
theorem kz_X11_rainsIn_0 {Q : Int32 → HS → Prop} {v0 : Nat} {v1 : Int32} {S0 S : HS} (h : P_X11_rainsIn_0 Q v0 v1 S) (K : KZ S0 S) : P_X11_rainsIn_0 (fun r T => Q r T ∧ KZ S0 T) v0 v1 S := by
  delta P_X11_rainsIn_0 at h ⊢
  obtain ⟨c1, h⟩ := h
  refine ⟨c1, ?_⟩
  refine cm_X11_hourOf (kz_X11_hourOf h) h (fun x2 x3 p5 h g4 => ?_)
  have h := h g4
  have K := kz_Z K p5.2
  obtain ⟨b6, e7, h⟩ := h
  refine ⟨b6, e7, ?_⟩
  obtain ⟨c8, h⟩ := h
  refine ⟨c8, ?_⟩
  intro x10 e9
  have h := h x10 e9
  refine ⟨?_, ?_⟩
  · intro c11
    have h := h.1 c11
    exact ⟨h, K⟩
  · intro c12
    have h := h.2 c12
    intro x14 e13
    have h := h x14 e13
    refine ⟨?_, ?_⟩
    · intro c15
      have h := h.1 c15
      exact ⟨h, K⟩
    · intro c16
      have h := h.2 c16
      exact ⟨h, K⟩
theorem kz_X11_rainsIn {Q : Int32 → HS → Prop} {v0 : Nat} {v1 : Int32} {S : HS} (h : P_X11_rainsIn v0 v1 Q S) : P_X11_rainsIn v0 v1 (fun r T => Q r T ∧ KZ S T) S := kz_X11_rainsIn_0 h (kz_rf S)
set_option maxRecDepth 20000 in
set_option maxHeartbeats 1000000 in
theorem kv_X11_go_29 {Q : Int32 → HS → Prop} {v0 : Nat} {S0 S : HS} (h : P_X11_go_29 Q v0 S) (K : KV v0 S0 S) : P_X11_go_29 (fun r T => Q r T ∧ KV v0 S0 T) v0 S := by
  delta P_X11_go_29 at h ⊢
  obtain ⟨c1, h⟩ := h
  refine ⟨c1, ?_⟩
  refine cm_X11_refused (kv_X11_refused h) h (fun x2 x3 p5 h g4 => ?_)
  have h := h g4
  have K := kv_tr K p5.2
  exact ⟨h, K⟩
set_option maxRecDepth 20000 in
set_option maxHeartbeats 1000000 in
theorem kv_X11_go_171 {Q : Int32 → HS → Prop} {v0 : Nat} {v1 : Int32} {v2 : Int32} {v3 : Int32} {v4 : Int32} {S0 S : HS} (h : P_X11_go_171 Q v0 v1 v2 v3 v4 S) (K : KV v0 S0 S) : P_X11_go_171 (fun r T => Q r T ∧ KV v0 S0 T) v0 v1 v2 v3 v4 S := by
  delta P_X11_go_171 at h ⊢
  obtain ⟨c1, h⟩ := h
  refine ⟨c1, ?_⟩
  obtain ⟨b2, e3, h⟩ := h
  refine ⟨b2, e3, ?_⟩
  obtain ⟨b4, e5, h⟩ := h
  refine ⟨b4, e5, ?_⟩
  obtain ⟨c6, h⟩ := h
  refine ⟨c6, ?_⟩
  refine cm_X10_ends (kz_X10_ends h) h (fun x7 x8 p10 h g9 => ?_)
  have h := h g9
  have K := kv_Z K p10.2
  obtain ⟨c11, h⟩ := h
  refine ⟨c11, ?_⟩
  intro x13 e12
  have h := h x13 e12
  obtain ⟨c14, h⟩ := h
  refine ⟨c14, ?_⟩
  intro x16 e15
  have h := h x16 e15
  have K := kv_J K e15
  obtain ⟨b17, e18, h⟩ := h
  refine ⟨b17, e18, ?_⟩
  obtain ⟨b19, e20, h⟩ := h
  refine ⟨b19, e20, ?_⟩
  obtain ⟨c21, h⟩ := h
  refine ⟨c21, ?_⟩
  refine cm_X10_minutes (kz_X10_minutes h) h (fun x22 x23 p25 h g24 => ?_)
  have h := h g24
  have K := kv_Z K p25.2
  obtain ⟨c26, h⟩ := h
  refine ⟨c26, ?_⟩
  intro x28 e27
  have h := h x28 e27
  obtain ⟨c29, h⟩ := h
  refine ⟨c29, ?_⟩
  intro x31 e30
  have h := h x31 e30
  have K := kv_J K e30
  obtain ⟨b32, e33, h⟩ := h
  refine ⟨b32, e33, ?_⟩
  obtain ⟨c34, h⟩ := h
  refine ⟨c34, ?_⟩
  obtain ⟨c35, h⟩ := h
  refine ⟨c35, ?_⟩
  intro x37 e36
  have h := h x37 e36
  refine cm_X11_good (kv_X11_good h) h (fun x38 x39 p41 h g40 => ?_)
  have h := h g40
  have K := kv_tr K p41.2
  exact ⟨h, K⟩
set_option maxRecDepth 20000 in
set_option maxHeartbeats 1000000 in
theorem kvB_X11_go_119 {Q : Int32 → HS → Prop} {X119 X119_2 : Nat → Int32 → Int32 → Int32 → Int32 → Int32 → HS → Prop} {v0 : Nat} {v1 : Int32} {v2 : Int32} {v3 : Int32} {v4 : Int32} {v5 : Int32} {S0 S : HS} (h : B_X11_go_119 Q X119 v0 v1 v2 v3 v4 v5 S) (K : KV v0 S0 S) (hX119 : ∀ (u0 : Nat) (u1 : Int32) (u2 : Int32) (u3 : Int32) (u4 : Int32) (u5 : Int32) (u6 : HS), X119 u0 u1 u2 u3 u4 u5 u6 → u0 = v0 → KV v0 S0 u6 → X119_2 u0 u1 u2 u3 u4 u5 u6) : B_X11_go_119 (fun r T => Q r T ∧ KV v0 S0 T) X119_2 v0 v1 v2 v3 v4 v5 S := by
  delta B_X11_go_119 at h ⊢
  refine ⟨?_, ?_⟩
  · intro c1
    have h := h.1 c1
    exact kv_X11_go_171 h K
  · intro c2
    have h := h.2 c2
    obtain ⟨c3, h⟩ := h
    refine ⟨c3, ?_⟩
    refine cm_X11_rainsIn (kz_X11_rainsIn h) h (fun x4 x5 p8 h g6 g7 => ?_)
    have h := h g6 g7
    have K := kv_Z K p8.2
    refine ⟨?_, ?_⟩
    · intro c9
      have h := h.1 c9
      exact kv_X11_go_171 h K
    · intro c10
      have h := h.2 c10
      obtain ⟨b11, e12, h⟩ := h
      refine ⟨b11, e12, ?_⟩
      obtain ⟨c13, h⟩ := h
      refine ⟨c13, ?_⟩
      intro x15 e14
      have h := h x15 e14
      obtain ⟨c16, h⟩ := h
      refine ⟨c16, ?_⟩
      intro x18 e17
      have h := h x18 e17
      intro x20 e19
      have h := h x20 e19
      refine cm_X11_hourOf (kz_X11_hourOf h) h (fun x21 x22 p24 h g23 => ?_)
      have h := h g23
      have K := kv_Z K p24.2
      refine cm_X11_partsOf (kz_X11_partsOf h) h (fun x25 x26 p28 h g27 => ?_)
      have h := h g27
      have K := kv_Z K p28.2
      intro x30 e29
      have h := h x30 e29
      obtain ⟨c31, h⟩ := h
      refine ⟨c31, ?_⟩
      intro x33 e32
      have h := h x33 e32
      have K := kv_J K e32
      intro x35 e34
      have h := h x35 e34
      exact hX119 _ _ _ _ _ _ _ h rfl K
theorem kv_X11_go_119 {Q : Int32 → HS → Prop} {v0 : Nat} {v1 : Int32} {v2 : Int32} {v3 : Int32} {v4 : Int32} {v5 : Int32} {S0 S : HS} (h : P_X11_go_119 Q v0 v1 v2 v3 v4 v5 S) (K : KV v0 S0 S) : P_X11_go_119 (fun r T => Q r T ∧ KV v0 S0 T) v0 v1 v2 v3 v4 v5 S := h (fun w0 v1 v2 v3 v4 v5 S => w0 = v0 → KV v0 S0 S → P_X11_go_119 (fun r T => Q r T ∧ KV v0 S0 T) w0 v1 v2 v3 v4 v5 S) (fun w0 v1 v2 v3 v4 v5 S hB e K => by
  subst e; exact fd_X11_go_119 (kvB_X11_go_119 hB K (fun _ _ _ _ _ _ _ hx e K => hx e K))) rfl K
set_option maxRecDepth 20000 in
set_option maxHeartbeats 1000000 in
theorem kv_X11_go_0 {Q : Int32 → HS → Prop} {v0 : Nat} {v1 : Int32} {v2 : Int32} {v3 : Int32} {S0 S : HS} (h : P_X11_go_0 Q v0 v1 v2 v3 S) (K : KV v0 S0 S) : P_X11_go_0 (fun r T => Q r T ∧ KV v0 S0 T) v0 v1 v2 v3 S := by
  delta P_X11_go_0 at h ⊢
  obtain ⟨c1, h⟩ := h
  refine ⟨c1, ?_⟩
  intro x3 e2
  have h := h x3 e2
  have K := kv_I K e2
  refine cm_X11_isDay (kz_X11_isDay h) h (fun x4 x5 p8 h g6 g7 => ?_)
  have h := h g6 g7
  have K := kv_Z K p8.2
  refine ⟨?_, ?_⟩
  · intro c9
    have h := h.1 c9
    exact kv_X11_go_29 h K
  · intro c10
    have h := h.2 c10
    refine cm_X11_isRoad (kz_X11_isRoad h) h (fun x11 x12 p15 h g13 g14 => ?_)
    have h := h g13 g14
    have K := kv_Z K p15.2
    refine ⟨?_, ?_⟩
    · intro c16
      have h := h.1 c16
      exact kv_X11_go_29 h K
    · intro c17
      have h := h.2 c17
      refine cm_X11_in (kz_X11_in h) h (fun x18 x19 p22 h g20 g21 => ?_)
      have h := h g20 g21
      have K := kv_Z K p22.2
      refine ⟨?_, ?_⟩
      · intro c23
        have h := h.1 c23
        intro x25 e24
        have h := h x25 e24
        refine cm_X11_isSpeed (kz_X11_isSpeed h) h (fun x26 x27 p30 h g28 g29 => ?_)
        have h := h g28 g29
        have K := kv_Z K p30.2
        refine ⟨?_, ?_⟩
        · intro c31
          have h := h.1 c31
          obtain ⟨b32, e33, h⟩ := h
          refine ⟨b32, e33, ?_⟩
          obtain ⟨c34, h⟩ := h
          refine ⟨c34, ?_⟩
          refine cm_X10_begins (kz_X10_begins h) h (fun x35 x36 p38 h g37 => ?_)
          have h := h g37
          have K := kv_Z K p38.2
          obtain ⟨b39, e40, h⟩ := h
          refine ⟨b39, e40, ?_⟩
          obtain ⟨c41, h⟩ := h
          refine ⟨c41, ?_⟩
          obtain ⟨c42, h⟩ := h
          refine ⟨c42, ?_⟩
          intro x44 e43
          have h := h x44 e43
          refine ⟨?_, ?_⟩
          · intro c45
            have h := h.1 c45
            obtain ⟨b46, e47, h⟩ := h
            refine ⟨b46, e47, ?_⟩
            obtain ⟨c48, h⟩ := h
            refine ⟨c48, ?_⟩
            obtain ⟨c49, h⟩ := h
            refine ⟨c49, ?_⟩
            intro x51 e50
            have h := h x51 e50
            intro x53 e52
            have h := h x53 e52
            obtain ⟨b54, e55, h⟩ := h
            refine ⟨b54, e55, ?_⟩
            obtain ⟨c56, h⟩ := h
            refine ⟨c56, ?_⟩
            refine cm_X10_minutes (kz_X10_minutes h) h (fun x57 x58 p60 h g59 => ?_)
            have h := h g59
            have K := kv_Z K p60.2
            refine ⟨?_, ?_⟩
            · intro c61
              have h := h.1 c61
              refine cm_X11_keeps (kv_X11_keeps h) h (fun x62 p64 h g63 => ?_)
              have h := h g63
              have K := kv_tr K p64.2
              exact kv_X11_go_119 h K
            · intro c65
              have h := h.2 c65
              refine cm_X11_refused (kv_X11_refused h) h (fun x66 x67 p69 h g68 => ?_)
              have h := h g68
              have K := kv_tr K p69.2
              exact ⟨h, K⟩
          · intro c70
            have h := h.2 c70
            refine cm_X11_refused (kv_X11_refused h) h (fun x71 x72 p74 h g73 => ?_)
            have h := h g73
            have K := kv_tr K p74.2
            exact ⟨h, K⟩
        · intro c75
          have h := h.2 c75
          refine cm_X11_refused (kv_X11_refused h) h (fun x76 x77 p79 h g78 => ?_)
          have h := h g78
          have K := kv_tr K p79.2
          exact ⟨h, K⟩
      · intro c80
        have h := h.2 c80
        exact kv_X11_go_29 h K
theorem kv_X11_go {Q : Int32 → HS → Prop} {v0 : Nat} {v1 : Int32} {v2 : Int32} {v3 : Int32} {S : HS} (h : P_X11_go v0 v1 v2 v3 Q S) : P_X11_go v0 v1 v2 v3 (fun r T => Q r T ∧ KV v0 S T) S := kv_X11_go_0 h (kv_rf _ S)
set_option maxRecDepth 20000 in
set_option maxHeartbeats 1000000 in
theorem kv_X11_got_40 {Q : Int64 → HS → Prop} {v0 : Nat} {S0 S : HS} (h : P_X11_got_40 Q v0 S) (K : KV v0 S0 S) : P_X11_got_40 (fun r T => Q r T ∧ KV v0 S0 T) v0 S := by
  delta P_X11_got_40 at h ⊢
  obtain ⟨c1, h⟩ := h
  refine ⟨c1, ?_⟩
  refine cm_X11_refused (kv_X11_refused h) h (fun x2 x3 p5 h g4 => ?_)
  have h := h g4
  have K := kv_tr K p5.2
  exact ⟨h, K⟩
set_option maxRecDepth 20000 in
set_option maxHeartbeats 1000000 in
theorem kv_X11_got_0 {Q : Int64 → HS → Prop} {v0 : Nat} {v1 : Int32} {v2 : Int32} {S0 S : HS} (h : P_X11_got_0 Q v0 v1 v2 S) (K : KV v0 S0 S) : P_X11_got_0 (fun r T => Q r T ∧ KV v0 S0 T) v0 v1 v2 S := by
  delta P_X11_got_0 at h ⊢
  obtain ⟨c1, h⟩ := h
  refine ⟨c1, ?_⟩
  intro x3 e2
  have h := h x3 e2
  have K := kv_I K e2
  refine cm_X11_isDay (kz_X11_isDay h) h (fun x4 x5 p8 h g6 g7 => ?_)
  have h := h g6 g7
  have K := kv_Z K p8.2
  refine ⟨?_, ?_⟩
  · intro c9
    have h := h.1 c9
    exact kv_X11_got_40 h K
  · intro c10
    have h := h.2 c10
    refine cm_X11_in (kz_X11_in h) h (fun x11 x12 p15 h g13 g14 => ?_)
    have h := h g13 g14
    have K := kv_Z K p15.2
    refine ⟨?_, ?_⟩
    · intro c16
      have h := h.1 c16
      exact kv_X11_got_40 h K
    · intro c17
      have h := h.2 c17
      obtain ⟨b18, e19, h⟩ := h
      refine ⟨b18, e19, ?_⟩
      obtain ⟨c20, h⟩ := h
      refine ⟨c20, ?_⟩
      intro x22 e21
      have h := h x22 e21
      obtain ⟨c23, h⟩ := h
      refine ⟨c23, ?_⟩
      intro x25 e24
      have h := h x25 e24
      refine cm_X11_told (kv_X11_told h) h (fun x26 x27 p29 h g28 => ?_)
      have h := h g28
      have K := kv_tr K p29.2
      exact ⟨h, K⟩
theorem kv_X11_got {Q : Int64 → HS → Prop} {v0 : Nat} {v1 : Int32} {v2 : Int32} {S : HS} (h : P_X11_got v0 v1 v2 Q S) : P_X11_got v0 v1 v2 (fun r T => Q r T ∧ KV v0 S T) S := kv_X11_got_0 h (kv_rf _ S)
set_option maxRecDepth 20000 in
set_option maxHeartbeats 1000000 in
theorem kzB_X11_gotInAll_4 {Q : Int64 → HS → Prop} {X4 X4_2 : Nat → Int64 → Int32 → HS → Prop} {v0 : Nat} {v1 : Int64} {v3 : Int32} {S0 S : HS} (h : B_X11_gotInAll_4 Q X4 v0 v1 v3 S) (K : KZ S0 S) (hX4 : ∀ (u0 : Nat) (u1 : Int64) (u2 : Int32) (u3 : HS), X4 u0 u1 u2 u3 → KZ S0 u3 → X4_2 u0 u1 u2 u3) : B_X11_gotInAll_4 (fun r T => Q r T ∧ KZ S0 T) X4_2 v0 v1 v3 S := by
  delta B_X11_gotInAll_4 at h ⊢
  refine ⟨?_, ?_⟩
  · intro c1
    have h := h.1 c1
    exact ⟨h, K⟩
  · intro c2
    have h := h.2 c2
    obtain ⟨c3, h⟩ := h
    refine ⟨c3, ?_⟩
    obtain ⟨b4, e5, h⟩ := h
    refine ⟨b4, e5, ?_⟩
    obtain ⟨c6, h⟩ := h
    refine ⟨c6, ?_⟩
    intro x8 e7
    have h := h x8 e7
    obtain ⟨c9, h⟩ := h
    refine ⟨c9, ?_⟩
    intro x11 e10
    have h := h x11 e10
    intro x13 e12
    have h := h x13 e12
    intro x15 e14
    have h := h x15 e14
    exact hX4 _ _ _ _ h K
theorem kz_X11_gotInAll_4 {Q : Int64 → HS → Prop} {v0 : Nat} {v1 : Int64} {v3 : Int32} {S0 S : HS} (h : P_X11_gotInAll_4 Q v0 v1 v3 S) (K : KZ S0 S) : P_X11_gotInAll_4 (fun r T => Q r T ∧ KZ S0 T) v0 v1 v3 S := h (fun w0 v1 v3 S => KZ S0 S → P_X11_gotInAll_4 (fun r T => Q r T ∧ KZ S0 T) w0 v1 v3 S) (fun w0 v1 v3 S hB K => by
  exact fd_X11_gotInAll_4 (kzB_X11_gotInAll_4 hB K (fun _ _ _ _ hx K => hx K))) K
set_option maxRecDepth 20000 in
set_option maxHeartbeats 1000000 in
theorem kz_X11_gotInAll_0 {Q : Int64 → HS → Prop} {v0 : Nat} {S0 S : HS} (h : P_X11_gotInAll_0 Q v0 S) (K : KZ S0 S) : P_X11_gotInAll_0 (fun r T => Q r T ∧ KZ S0 T) v0 S := by
  delta P_X11_gotInAll_0 at h ⊢
  exact kz_X11_gotInAll_4 h K
theorem kz_X11_gotInAll {Q : Int64 → HS → Prop} {v0 : Nat} {S : HS} (h : P_X11_gotInAll v0 Q S) : P_X11_gotInAll v0 (fun r T => Q r T ∧ KZ S T) S := kz_X11_gotInAll_0 h (kz_rf S)
set_option maxRecDepth 20000 in
set_option maxHeartbeats 1000000 in
theorem ko_X11_held_68 {Q : Int32 → HS → Prop} {s0 : Nat} {s1 : Int32} {v0 : Nat} {S0 S : HS} (h : P_X11_held_68 Q s0 s1 S) (K : KO_M v0 S0 S) (o_s0 : OwS_M v0 S0 s0) : P_X11_held_68 (fun r T => Q r T ∧ KO_M v0 S0 T) s0 s1 S := by
  delta P_X11_held_68 at h ⊢
  obtain ⟨c1, h⟩ := h
  refine ⟨c1, ?_⟩
  refine cm_X11_good (kv_X11_good h) h (fun x2 x3 p5 h g4 => ?_)
  have h := h g4
  have K := kom_V K p5.2 o_s0
  exact ⟨h, K⟩
set_option maxRecDepth 20000 in
set_option maxHeartbeats 1000000 in
theorem ko_X11_held_0 {Q : Int32 → HS → Prop} {v0 : Nat} {v1 : Int32} {v2 : Int32} {v3 : Int32} {v4 : Int32} {v5 : Int32} {S0 S : HS} (h : P_X11_held_0 Q v0 v1 v2 v3 v4 v5 S) (K : KO_M v0 S0 S) : P_X11_held_0 (fun r T => Q r T ∧ KO_M v0 S0 T) v0 v1 v2 v3 v4 v5 S := by
  delta P_X11_held_0 at h ⊢
  obtain ⟨c1, h⟩ := h
  refine ⟨c1, ?_⟩
  intro x3 e2
  have h := h x3 e2
  have K := kom_I K e2 owm_r
  refine cm_X11_refuses (kz_X11_refuses h) h (fun x4 x5 p7 h g6 => ?_)
  have h := h g6
  have K := kom_Z K p7.2
  refine ⟨?_, ?_⟩
  · intro c8
    have h := h.1 c8
    obtain ⟨b9, e10, h⟩ := h
    refine ⟨b9, e10, ?_⟩
    obtain ⟨c11, h⟩ := h
    refine ⟨c11, ?_⟩
    obtain ⟨b12, e13, h⟩ := h
    refine ⟨b12, e13, ?_⟩
    obtain ⟨c14, h⟩ := h
    refine ⟨c14, ?_⟩
    obtain ⟨c15, h⟩ := h
    refine ⟨c15, ?_⟩
    intro x17 e16
    have h := h x17 e16
    refine ⟨?_, ?_⟩
    · intro c18
      have h := h.1 c18
      refine cm_X11_isForward (kz_X11_isForward h) h (fun x19 x20 p23 h g21 g22 => ?_)
      have h := h g21 g22
      have K := kom_Z K p23.2
      refine ⟨?_, ?_⟩
      · intro c24
        have h := h.1 c24
        exact ko_X11_held_68 h K owm_r
      · intro c25
        have h := h.2 c25
        exact ko_X11_held_68 h K owm_r
    · intro c26
      have h := h.2 c26
      exact ko_X11_held_68 h K owm_r
  · intro c27
    have h := h.2 c27
    refine cm_X11_refused (kv_X11_refused h) h (fun x28 x29 p31 h g30 => ?_)
    have h := h g30
    have K := kom_V K p31.2 owm_r
    exact ⟨h, K⟩
theorem ko_X11_held {Q : Int32 → HS → Prop} {v0 : Nat} {v1 : Int32} {v2 : Int32} {v3 : Int32} {v4 : Int32} {v5 : Int32} {S : HS} (h : P_X11_held v0 v1 v2 v3 v4 v5 Q S) : P_X11_held v0 v1 v2 v3 v4 v5 (fun r T => Q r T ∧ KO_M v0 S T) S := ko_X11_held_0 h (kom_rf _ S)
set_option maxRecDepth 20000 in
set_option maxHeartbeats 1000000 in
theorem kz_X11_holds_0 {Q : Int64 → HS → Prop} {v0 : Nat} {S0 S : HS} (h : P_X11_holds_0 Q v0 S) (K : KZ S0 S) : P_X11_holds_0 (fun r T => Q r T ∧ KZ S0 T) v0 S := by
  delta P_X11_holds_0 at h ⊢
  obtain ⟨c1, h⟩ := h
  refine ⟨c1, ?_⟩
  obtain ⟨b2, e3, h⟩ := h
  refine ⟨b2, e3, ?_⟩
  obtain ⟨c4, h⟩ := h
  refine ⟨c4, ?_⟩
  obtain ⟨b5, e6, h⟩ := h
  refine ⟨b5, e6, ?_⟩
  intro x8 e7
  have h := h x8 e7
  obtain ⟨c9, h⟩ := h
  refine ⟨c9, ?_⟩
  obtain ⟨c10, h⟩ := h
  refine ⟨c10, ?_⟩
  intro x12 e11
  have h := h x12 e11
  refine ⟨?_, ?_⟩
  · intro c13
    have h := h.1 c13
    exact ⟨h, K⟩
  · intro c14
    have h := h.2 c14
    obtain ⟨b15, e16, h⟩ := h
    refine ⟨b15, e16, ?_⟩
    obtain ⟨c17, h⟩ := h
    refine ⟨c17, ?_⟩
    obtain ⟨b18, e19, h⟩ := h
    refine ⟨b18, e19, ?_⟩
    intro x21 e20
    have h := h x21 e20
    obtain ⟨c22, h⟩ := h
    refine ⟨c22, ?_⟩
    obtain ⟨c23, h⟩ := h
    refine ⟨c23, ?_⟩
    intro x25 e24
    have h := h x25 e24
    exact ⟨h, K⟩
theorem kz_X11_holds {Q : Int64 → HS → Prop} {v0 : Nat} {S : HS} (h : P_X11_holds v0 Q S) : P_X11_holds v0 (fun r T => Q r T ∧ KZ S T) S := kz_X11_holds_0 h (kz_rf S)
set_option maxRecDepth 20000 in
set_option maxHeartbeats 1000000 in
theorem kz_X11_isName_0 {Q : Int32 → HS → Prop} {v0 : Nat} {S0 S : HS} (h : P_X11_isName_0 Q v0 S) (K : KZ S0 S) : P_X11_isName_0 (fun r T => Q r T ∧ KZ S0 T) v0 S := by
  delta P_X11_isName_0 at h ⊢
  obtain ⟨c1, h⟩ := h
  refine ⟨c1, ?_⟩
  intro x3 e2
  have h := h x3 e2
  refine ⟨?_, ?_⟩
  · intro c4
    have h := h.1 c4
    exact ⟨h, K⟩
  · intro c5
    have h := h.2 c5
    refine cm_X11_isWord (kz_X11_isWord h) h (fun x6 x7 p10 h g8 g9 => ?_)
    have h := h g8 g9
    have K := kz_Z K p10.2
    refine ⟨?_, ?_⟩
    · intro c11
      have h := h.1 c11
      exact ⟨h, K⟩
    · intro c12
      have h := h.2 c12
      refine cm_X11_isWord (kz_X11_isWord h) h (fun x13 x14 p17 h g15 g16 => ?_)
      have h := h g15 g16
      have K := kz_Z K p17.2
      refine ⟨?_, ?_⟩
      · intro c18
        have h := h.1 c18
        exact ⟨h, K⟩
      · intro c19
        have h := h.2 c19
        refine cm_X11_isWord (kz_X11_isWord h) h (fun x20 x21 p24 h g22 g23 => ?_)
        have h := h g22 g23
        have K := kz_Z K p24.2
        refine ⟨?_, ?_⟩
        · intro c25
          have h := h.1 c25
          exact ⟨h, K⟩
        · intro c26
          have h := h.2 c26
          refine cm_X11_isWord (kz_X11_isWord h) h (fun x27 x28 p31 h g29 g30 => ?_)
          have h := h g29 g30
          have K := kz_Z K p31.2
          refine ⟨?_, ?_⟩
          · intro c32
            have h := h.1 c32
            refine cm_X11_isWord (kz_X11_isWord h) h (fun x33 x34 p37 h g35 g36 => ?_)
            have h := h g35 g36
            have K := kz_Z K p37.2
            refine ⟨?_, ?_⟩
            · intro c38
              have h := h.1 c38
              exact ⟨h, K⟩
            · intro c39
              have h := h.2 c39
              refine cm_X11_isWord (kz_X11_isWord h) h (fun x40 x41 p44 h g42 g43 => ?_)
              have h := h g42 g43
              have K := kz_Z K p44.2
              refine ⟨?_, ?_⟩
              · intro c45
                have h := h.1 c45
                exact ⟨h, K⟩
              · intro c46
                have h := h.2 c46
                refine cm_X11_isWord (kz_X11_isWord h) h (fun x47 x48 p51 h g49 g50 => ?_)
                have h := h g49 g50
                have K := kz_Z K p51.2
                refine ⟨?_, ?_⟩
                · intro c52
                  have h := h.1 c52
                  exact ⟨h, K⟩
                · intro c53
                  have h := h.2 c53
                  refine cm_X11_isWord (kz_X11_isWord h) h (fun x54 x55 p58 h g56 g57 => ?_)
                  have h := h g56 g57
                  have K := kz_Z K p58.2
                  refine ⟨?_, ?_⟩
                  · intro c59
                    have h := h.1 c59
                    exact ⟨h, K⟩
                  · intro c60
                    have h := h.2 c60
                    refine cm_X11_isWord (kz_X11_isWord h) h (fun x61 x62 p65 h g63 g64 => ?_)
                    have h := h g63 g64
                    have K := kz_Z K p65.2
                    refine ⟨?_, ?_⟩
                    · intro c66
                      have h := h.1 c66
                      exact ⟨h, K⟩
                    · intro c67
                      have h := h.2 c67
                      exact ⟨h, K⟩
          · intro c68
            have h := h.2 c68
            exact ⟨h, K⟩
theorem kz_X11_isName {Q : Int32 → HS → Prop} {v0 : Nat} {S : HS} (h : P_X11_isName v0 Q S) : P_X11_isName v0 (fun r T => Q r T ∧ KZ S T) S := kz_X11_isName_0 h (kz_rf S)
set_option maxRecDepth 20000 in
set_option maxHeartbeats 1000000 in
theorem kv_X11_known_47 {Q : Int32 → HS → Prop} {v0 : Nat} {v2 : Int32} {S0 S : HS} (h : P_X11_known_47 Q v0 v2 S) (K : KV v0 S0 S) : P_X11_known_47 (fun r T => Q r T ∧ KV v0 S0 T) v0 v2 S := by
  delta P_X11_known_47 at h ⊢
  obtain ⟨c1, h⟩ := h
  refine ⟨c1, ?_⟩
  intro x3 e2
  have h := h x3 e2
  refine ⟨?_, ?_⟩
  · intro c4
    have h := h.1 c4
    obtain ⟨b5, e6, h⟩ := h
    refine ⟨b5, e6, ?_⟩
    obtain ⟨c7, h⟩ := h
    refine ⟨c7, ?_⟩
    obtain ⟨b8, e9, h⟩ := h
    refine ⟨b8, e9, ?_⟩
    obtain ⟨c10, h⟩ := h
    refine ⟨c10, ?_⟩
    obtain ⟨c11, h⟩ := h
    refine ⟨c11, ?_⟩
    intro x13 e12
    have h := h x13 e12
    exact ⟨h, K⟩
  · intro c14
    have h := h.2 c14
    exact ⟨h, K⟩
set_option maxRecDepth 20000 in
set_option maxHeartbeats 1000000 in
theorem kv_X11_known_42 {Q : Int32 → HS → Prop} {v0 : Nat} {v2 : Int32} {S0 S : HS} (h : P_X11_known_42 Q v0 v2 S) (K : KV v0 S0 S) : P_X11_known_42 (fun r T => Q r T ∧ KV v0 S0 T) v0 v2 S := by
  delta P_X11_known_42 at h ⊢
  obtain ⟨c1, h⟩ := h
  refine ⟨c1, ?_⟩
  refine cm_X11_flaw (kv_X11_flaw h) h (fun x2 p4 h g3 => ?_)
  have h := h g3
  have K := kv_tr K p4.2
  exact kv_X11_known_47 h K
set_option maxRecDepth 20000 in
set_option maxHeartbeats 1000000 in
theorem kv_X11_known_12 {Q : Int32 → HS → Prop} {v0 : Nat} {v1 : Int32} {S0 S : HS} (h : P_X11_known_12 Q v0 v1 S) (K : KV v0 S0 S) : P_X11_known_12 (fun r T => Q r T ∧ KV v0 S0 T) v0 v1 S := by
  delta P_X11_known_12 at h ⊢
  obtain ⟨c1, h⟩ := h
  refine ⟨c1, ?_⟩
  obtain ⟨b2, e3, h⟩ := h
  refine ⟨b2, e3, ?_⟩
  intro x5 e4
  have h := h x5 e4
  obtain ⟨c6, h⟩ := h
  refine ⟨c6, ?_⟩
  refine cm_X10_find (kz_X10_find h) h (fun x7 x8 p10 h g9 => ?_)
  have h := h g9
  have K := kv_Z K p10.2
  refine ⟨?_, ?_⟩
  · intro c11
    have h := h.1 c11
    exact kv_X11_known_42 h K
  · intro c12
    have h := h.2 c12
    obtain ⟨b13, e14, h⟩ := h
    refine ⟨b13, e14, ?_⟩
    obtain ⟨c15, h⟩ := h
    refine ⟨c15, ?_⟩
    obtain ⟨b16, e17, h⟩ := h
    refine ⟨b16, e17, ?_⟩
    obtain ⟨c18, h⟩ := h
    refine ⟨c18, ?_⟩
    obtain ⟨c19, h⟩ := h
    refine ⟨c19, ?_⟩
    intro x21 e20
    have h := h x21 e20
    refine ⟨?_, ?_⟩
    · intro c22
      have h := h.1 c22
      exact kv_X11_known_47 h K
    · intro c23
      have h := h.2 c23
      exact kv_X11_known_42 h K
set_option maxRecDepth 20000 in
set_option maxHeartbeats 1000000 in
theorem kv_X11_known_0 {Q : Int32 → HS → Prop} {v0 : Nat} {v1 : Int32} {S0 S : HS} (h : P_X11_known_0 Q v0 v1 S) (K : KV v0 S0 S) : P_X11_known_0 (fun r T => Q r T ∧ KV v0 S0 T) v0 v1 S := by
  delta P_X11_known_0 at h ⊢
  obtain ⟨c1, h⟩ := h
  refine ⟨c1, ?_⟩
  refine cm_X11_isName (kz_X11_isName h) h (fun x2 x3 p6 h g4 g5 => ?_)
  have h := h g4 g5
  have K := kv_Z K p6.2
  refine ⟨?_, ?_⟩
  · intro c7
    have h := h.1 c7
    exact kv_X11_known_12 h K
  · intro c8
    have h := h.2 c8
    refine cm_X11_flaw (kv_X11_flaw h) h (fun x9 p11 h g10 => ?_)
    have h := h g10
    have K := kv_tr K p11.2
    exact kv_X11_known_12 h K
theorem kv_X11_known {Q : Int32 → HS → Prop} {v0 : Nat} {v1 : Int32} {S : HS} (h : P_X11_known v0 v1 Q S) : P_X11_known v0 v1 (fun r T => Q r T ∧ KV v0 S T) S := kv_X11_known_0 h (kv_rf _ S)
set_option maxRecDepth 20000 in
set_option maxHeartbeats 1000000 in
theorem kz_X11_spotOf_0 {Q : Int32 → HS → Prop} {v0 : Int32} {v1 : Int32} {S0 S : HS} (h : P_X11_spotOf_0 Q v0 v1 S) (K : KZ S0 S) : P_X11_spotOf_0 (fun r T => Q r T ∧ KZ S0 T) v0 v1 S := by
  delta P_X11_spotOf_0 at h ⊢
  exact ⟨h, K⟩
theorem kz_X11_spotOf {Q : Int32 → HS → Prop} {v0 : Int32} {v1 : Int32} {S : HS} (h : P_X11_spotOf v0 v1 Q S) : P_X11_spotOf v0 v1 (fun r T => Q r T ∧ KZ S T) S := kz_X11_spotOf_0 h (kz_rf S)
set_option maxRecDepth 20000 in
set_option maxHeartbeats 1000000 in
theorem kz_X11_meanOf_0 {Q : Int64 → HS → Prop} {v0 : Nat} {v1 : Int32} {v2 : Int32} {v3 : Int32} {v4 : Int32} {v5 : Int32} {S0 S : HS} (h : P_X11_meanOf_0 Q v0 v1 v2 v3 v4 v5 S) (K : KZ S0 S) : P_X11_meanOf_0 (fun r T => Q r T ∧ KZ S0 T) v0 v1 v2 v3 v4 v5 S := by
  delta P_X11_meanOf_0 at h ⊢
  obtain ⟨c1, h⟩ := h
  refine ⟨c1, ?_⟩
  refine cm_X11_hourOf (kz_X11_hourOf h) h (fun x2 x3 p5 h g4 => ?_)
  have h := h g4
  have K := kz_Z K p5.2
  obtain ⟨b6, e7, h⟩ := h
  refine ⟨b6, e7, ?_⟩
  obtain ⟨c8, h⟩ := h
  refine ⟨c8, ?_⟩
  intro x10 e9
  have h := h x10 e9
  refine ⟨?_, ?_⟩
  · intro c11
    have h := h.1 c11
    exact ⟨h, K⟩
  · intro c12
    have h := h.2 c12
    refine cm_X11_wetOf (kz_X11_wetOf h) h (fun x13 x14 p16 h g15 => ?_)
    have h := h g15
    have K := kz_Z K p16.2
    obtain ⟨b17, e18, h⟩ := h
    refine ⟨b17, e18, ?_⟩
    obtain ⟨c19, h⟩ := h
    refine ⟨c19, ?_⟩
    obtain ⟨b20, e21, h⟩ := h
    refine ⟨b20, e21, ?_⟩
    obtain ⟨c22, h⟩ := h
    refine ⟨c22, ?_⟩
    obtain ⟨c23, h⟩ := h
    refine ⟨c23, ?_⟩
    intro x25 e24
    have h := h x25 e24
    exact ⟨h, K⟩
theorem kz_X11_meanOf {Q : Int64 → HS → Prop} {v0 : Nat} {v1 : Int32} {v2 : Int32} {v3 : Int32} {v4 : Int32} {v5 : Int32} {S : HS} (h : P_X11_meanOf v0 v1 v2 v3 v4 v5 Q S) : P_X11_meanOf v0 v1 v2 v3 v4 v5 (fun r T => Q r T ∧ KZ S T) S := kz_X11_meanOf_0 h (kz_rf S)
set_option maxRecDepth 20000 in
set_option maxHeartbeats 1000000 in
theorem kz_X11_waitsOf_0 {Q : Int64 → HS → Prop} {v0 : Nat} {v1 : Int32} {v2 : Int32} {v3 : Int32} {S0 S : HS} (h : P_X11_waitsOf_0 Q v0 v1 v2 v3 S) (K : KZ S0 S) : P_X11_waitsOf_0 (fun r T => Q r T ∧ KZ S0 T) v0 v1 v2 v3 S := by
  delta P_X11_waitsOf_0 at h ⊢
  obtain ⟨c1, h⟩ := h
  refine ⟨c1, ?_⟩
  refine cm_X11_hourOf (kz_X11_hourOf h) h (fun x2 x3 p5 h g4 => ?_)
  have h := h g4
  have K := kz_Z K p5.2
  obtain ⟨b6, e7, h⟩ := h
  refine ⟨b6, e7, ?_⟩
  obtain ⟨c8, h⟩ := h
  refine ⟨c8, ?_⟩
  obtain ⟨b9, e10, h⟩ := h
  refine ⟨b9, e10, ?_⟩
  obtain ⟨c11, h⟩ := h
  refine ⟨c11, ?_⟩
  obtain ⟨c12, h⟩ := h
  refine ⟨c12, ?_⟩
  intro x14 e13
  have h := h x14 e13
  refine ⟨?_, ?_⟩
  · intro c15
    have h := h.1 c15
    exact ⟨h, K⟩
  · intro c16
    have h := h.2 c16
    obtain ⟨b17, e18, h⟩ := h
    refine ⟨b17, e18, ?_⟩
    obtain ⟨c19, h⟩ := h
    refine ⟨c19, ?_⟩
    intro x21 e20
    have h := h x21 e20
    refine ⟨?_, ?_⟩
    · intro c22
      have h := h.1 c22
      refine cm_X11_drips (kz_X11_drips h) h (fun x23 x24 p26 h g25 => ?_)
      have h := h g25
      have K := kz_Z K p26.2
      obtain ⟨b27, e28, h⟩ := h
      refine ⟨b27, e28, ?_⟩
      obtain ⟨c29, h⟩ := h
      refine ⟨c29, ?_⟩
      obtain ⟨b30, e31, h⟩ := h
      refine ⟨b30, e31, ?_⟩
      obtain ⟨c32, h⟩ := h
      refine ⟨c32, ?_⟩
      obtain ⟨c33, h⟩ := h
      refine ⟨c33, ?_⟩
      intro x35 e34
      have h := h x35 e34
      exact ⟨h, K⟩
    · intro c36
      have h := h.2 c36
      exact ⟨h, K⟩
theorem kz_X11_waitsOf {Q : Int64 → HS → Prop} {v0 : Nat} {v1 : Int32} {v2 : Int32} {v3 : Int32} {S : HS} (h : P_X11_waitsOf v0 v1 v2 v3 Q S) : P_X11_waitsOf v0 v1 v2 v3 (fun r T => Q r T ∧ KZ S T) S := kz_X11_waitsOf_0 h (kz_rf S)
set_option maxRecDepth 20000 in
set_option maxHeartbeats 1000000 in
theorem kv_X11_led_80 {Q : Int32 → HS → Prop} {X9 X9_2 : Nat → Int32 → Int32 → Int32 → HS → Prop} {v0 : Nat} {v1 : Int32} {v2 : Int32} {v3 : Int32} {S0 S : HS} (h : P_X11_led_80 Q X9 v0 v1 v2 v3 S) (K : KV v0 S0 S) (hX9 : ∀ (u0 : Nat) (u1 : Int32) (u2 : Int32) (u3 : Int32) (u4 : HS), X9 u0 u1 u2 u3 u4 → u0 = v0 → KV v0 S0 u4 → X9_2 u0 u1 u2 u3 u4) : P_X11_led_80 (fun r T => Q r T ∧ KV v0 S0 T) X9_2 v0 v1 v2 v3 S := by
  delta P_X11_led_80 at h ⊢
  intro x2 e1
  have h := h x2 e1
  exact hX9 _ _ _ _ _ h rfl K
set_option maxRecDepth 20000 in
set_option maxHeartbeats 1000000 in
theorem kv_X11_led_70 {Q : Int32 → HS → Prop} {X9 X9_2 : Nat → Int32 → Int32 → Int32 → HS → Prop} {v0 : Nat} {v1 : Int32} {v2 : Int32} {v3 : Int32} {S0 S : HS} (h : P_X11_led_70 Q X9 v0 v1 v2 v3 S) (K : KV v0 S0 S) (hX9 : ∀ (u0 : Nat) (u1 : Int32) (u2 : Int32) (u3 : Int32) (u4 : HS), X9 u0 u1 u2 u3 u4 → u0 = v0 → KV v0 S0 u4 → X9_2 u0 u1 u2 u3 u4) : P_X11_led_70 (fun r T => Q r T ∧ KV v0 S0 T) X9_2 v0 v1 v2 v3 S := by
  delta P_X11_led_70 at h ⊢
  refine ⟨?_, ?_⟩
  · intro c1
    have h := h.1 c1
    intro x3 e2
    have h := h x3 e2
    exact kv_X11_led_80 h K hX9
  · intro c4
    have h := h.2 c4
    exact ⟨h, K⟩
set_option maxRecDepth 20000 in
set_option maxHeartbeats 1000000 in
theorem kvB_X11_led_9 {Q : Int32 → HS → Prop} {X9 X9_2 : Nat → Int32 → Int32 → Int32 → HS → Prop} {v0 : Nat} {v1 : Int32} {v2 : Int32} {v3 : Int32} {S0 S : HS} (h : B_X11_led_9 Q X9 v0 v1 v2 v3 S) (K : KV v0 S0 S) (hX9 : ∀ (u0 : Nat) (u1 : Int32) (u2 : Int32) (u3 : Int32) (u4 : HS), X9 u0 u1 u2 u3 u4 → u0 = v0 → KV v0 S0 u4 → X9_2 u0 u1 u2 u3 u4) : B_X11_led_9 (fun r T => Q r T ∧ KV v0 S0 T) X9_2 v0 v1 v2 v3 S := by
  delta B_X11_led_9 at h ⊢
  obtain ⟨c1, h⟩ := h
  refine ⟨c1, ?_⟩
  refine cm_X11_isDay (kz_X11_isDay h) h (fun x2 x3 p6 h g4 g5 => ?_)
  have h := h g4 g5
  have K := kv_Z K p6.2
  refine ⟨?_, ?_⟩
  · intro c7
    have h := h.1 c7
    intro x9 e8
    have h := h x9 e8
    have K := kv_I K e8
    exact ⟨h, K⟩
  · intro c10
    have h := h.2 c10
    obtain ⟨b11, e12, h⟩ := h
    refine ⟨b11, e12, ?_⟩
    obtain ⟨c13, h⟩ := h
    refine ⟨c13, ?_⟩
    intro x15 e14
    have h := h x15 e14
    refine ⟨?_, ?_⟩
    · intro c16
      have h := h.1 c16
      intro x18 e17
      have h := h x18 e17
      have K := kv_I K e17
      exact ⟨h, K⟩
    · intro c19
      have h := h.2 c19
      obtain ⟨b20, e21, h⟩ := h
      refine ⟨b20, e21, ?_⟩
      obtain ⟨c22, h⟩ := h
      refine ⟨c22, ?_⟩
      obtain ⟨b23, e24, h⟩ := h
      refine ⟨b23, e24, ?_⟩
      obtain ⟨c25, h⟩ := h
      refine ⟨c25, ?_⟩
      obtain ⟨c26, h⟩ := h
      refine ⟨c26, ?_⟩
      intro x28 e27
      have h := h x28 e27
      obtain ⟨b29, e30, h⟩ := h
      refine ⟨b29, e30, ?_⟩
      obtain ⟨c31, h⟩ := h
      refine ⟨c31, ?_⟩
      obtain ⟨c32, h⟩ := h
      refine ⟨c32, ?_⟩
      intro x34 e33
      have h := h x34 e33
      refine ⟨?_, ?_⟩
      · intro c35
        have h := h.1 c35
        exact kv_X11_led_70 h K hX9
      · intro c36
        have h := h.2 c36
        obtain ⟨b37, e38, h⟩ := h
        refine ⟨b37, e38, ?_⟩
        obtain ⟨c39, h⟩ := h
        refine ⟨c39, ?_⟩
        obtain ⟨b40, e41, h⟩ := h
        refine ⟨b40, e41, ?_⟩
        obtain ⟨c42, h⟩ := h
        refine ⟨c42, ?_⟩
        obtain ⟨c43, h⟩ := h
        refine ⟨c43, ?_⟩
        intro x45 e44
        have h := h x45 e44
        obtain ⟨b46, e47, h⟩ := h
        refine ⟨b46, e47, ?_⟩
        obtain ⟨c48, h⟩ := h
        refine ⟨c48, ?_⟩
        obtain ⟨c49, h⟩ := h
        refine ⟨c49, ?_⟩
        intro x51 e50
        have h := h x51 e50
        refine ⟨?_, ?_⟩
        · intro c52
          have h := h.1 c52
          exact kv_X11_led_70 h K hX9
        · intro c53
          have h := h.2 c53
          exact kv_X11_led_80 h K hX9
theorem kv_X11_led_9 {Q : Int32 → HS → Prop} {v0 : Nat} {v1 : Int32} {v2 : Int32} {v3 : Int32} {S0 S : HS} (h : P_X11_led_9 Q v0 v1 v2 v3 S) (K : KV v0 S0 S) : P_X11_led_9 (fun r T => Q r T ∧ KV v0 S0 T) v0 v1 v2 v3 S := h (fun w0 v1 v2 v3 S => w0 = v0 → KV v0 S0 S → P_X11_led_9 (fun r T => Q r T ∧ KV v0 S0 T) w0 v1 v2 v3 S) (fun w0 v1 v2 v3 S hB e K => by
  subst e; exact fd_X11_led_9 (kvB_X11_led_9 hB K (fun _ _ _ _ _ hx e K => hx e K))) rfl K
set_option maxRecDepth 20000 in
set_option maxHeartbeats 1000000 in
theorem kv_X11_led_0 {Q : Int32 → HS → Prop} {v0 : Nat} {v1 : Int32} {S0 S : HS} (h : P_X11_led_0 Q v0 v1 S) (K : KV v0 S0 S) : P_X11_led_0 (fun r T => Q r T ∧ KV v0 S0 T) v0 v1 S := by
  delta P_X11_led_0 at h ⊢
  obtain ⟨c1, h⟩ := h
  refine ⟨c1, ?_⟩
  intro x3 e2
  have h := h x3 e2
  have K := kv_I K e2
  exact kv_X11_led_9 h K
theorem kv_X11_led {Q : Int32 → HS → Prop} {v0 : Nat} {v1 : Int32} {S : HS} (h : P_X11_led v0 v1 Q S) : P_X11_led v0 v1 (fun r T => Q r T ∧ KV v0 S T) S := kv_X11_led_0 h (kv_rf _ S)
set_option maxRecDepth 20000 in
set_option maxHeartbeats 1000000 in
theorem kv_X11_lee_0 {Q : Int64 → HS → Prop} {v0 : Nat} {v1 : Int32} {v2 : Int32} {v3 : Int32} {v4 : Int32} {v5 : Int32} {v6 : Int32} {v7 : Int32} {S0 S : HS} (h : P_X11_lee_0 Q v0 v1 v2 v3 v4 v5 v6 v7 S) (K : KV v0 S0 S) : P_X11_lee_0 (fun r T => Q r T ∧ KV v0 S0 T) v0 v1 v2 v3 v4 v5 v6 v7 S := by
  delta P_X11_lee_0 at h ⊢
  obtain ⟨c1, h⟩ := h
  refine ⟨c1, ?_⟩
  intro x3 e2
  have h := h x3 e2
  have K := kv_I K e2
  refine cm_X11_refusesTwo (kz_X11_refusesTwo h) h (fun x4 x5 p7 h g6 => ?_)
  have h := h g6
  have K := kv_Z K p7.2
  refine ⟨?_, ?_⟩
  · intro c8
    have h := h.1 c8
    refine cm_X11_together (kz_X11_together h) h (fun x9 x10 p12 h g11 => ?_)
    have h := h g11
    have K := kv_Z K p12.2
    refine cm_X11_told (kv_X11_told h) h (fun x13 x14 p16 h g15 => ?_)
    have h := h g15
    have K := kv_tr K p16.2
    exact ⟨h, K⟩
  · intro c17
    have h := h.2 c17
    refine cm_X11_refused (kv_X11_refused h) h (fun x18 x19 p21 h g20 => ?_)
    have h := h g20
    have K := kv_tr K p21.2
    exact ⟨h, K⟩
theorem kv_X11_lee {Q : Int64 → HS → Prop} {v0 : Nat} {v1 : Int32} {v2 : Int32} {v3 : Int32} {v4 : Int32} {v5 : Int32} {v6 : Int32} {v7 : Int32} {S : HS} (h : P_X11_lee v0 v1 v2 v3 v4 v5 v6 v7 Q S) : P_X11_lee v0 v1 v2 v3 v4 v5 v6 v7 (fun r T => Q r T ∧ KV v0 S T) S := kv_X11_lee_0 h (kv_rf _ S)
set_option maxRecDepth 20000 in
set_option maxHeartbeats 1000000 in
theorem kv_X11_lies_50 {Q : Int32 → HS → Prop} {X22 X22_2 : Nat → Int32 → Int32 → HS → Prop} {v0 : Nat} {v2 : Int32} {s0 : Int32} {s1 : Int32} {S0 S : HS} (h : P_X11_lies_50 Q X22 v0 v2 s0 s1 S) (K : KV v0 S0 S) (hX22 : ∀ (u0 : Nat) (u1 : Int32) (u2 : Int32) (u3 : HS), X22 u0 u1 u2 u3 → u0 = v0 → KV v0 S0 u3 → X22_2 u0 u1 u2 u3) : P_X11_lies_50 (fun r T => Q r T ∧ KV v0 S0 T) X22_2 v0 v2 s0 s1 S := by
  delta P_X11_lies_50 at h ⊢
  intro x2 e1
  have h := h x2 e1
  intro x4 e3
  have h := h x4 e3
  exact hX22 _ _ _ _ h rfl K
set_option maxRecDepth 20000 in
set_option maxHeartbeats 1000000 in
theorem kvB_X11_lies_22 {Q : Int32 → HS → Prop} {X22 X22_2 : Nat → Int32 → Int32 → HS → Prop} {v0 : Nat} {v1 : Int32} {v2 : Int32} {S0 S : HS} (h : B_X11_lies_22 Q X22 v0 v1 v2 S) (K : KV v0 S0 S) (hX22 : ∀ (u0 : Nat) (u1 : Int32) (u2 : Int32) (u3 : HS), X22 u0 u1 u2 u3 → u0 = v0 → KV v0 S0 u3 → X22_2 u0 u1 u2 u3) : B_X11_lies_22 (fun r T => Q r T ∧ KV v0 S0 T) X22_2 v0 v1 v2 S := by
  delta B_X11_lies_22 at h ⊢
  obtain ⟨c1, h⟩ := h
  refine ⟨c1, ?_⟩
  obtain ⟨b2, e3, h⟩ := h
  refine ⟨b2, e3, ?_⟩
  obtain ⟨c4, h⟩ := h
  refine ⟨c4, ?_⟩
  intro x6 e5
  have h := h x6 e5
  refine ⟨?_, ?_⟩
  · intro c7
    have h := h.1 c7
    refine cm_X11_good (kv_X11_good h) h (fun x8 x9 p11 h g10 => ?_)
    have h := h g10
    have K := kv_tr K p11.2
    exact ⟨h, K⟩
  · intro c12
    have h := h.2 c12
    refine cm_X11_fitOf (kz_X11_fitOf h) h (fun x13 x14 p16 h g15 => ?_)
    have h := h g15
    have K := kv_Z K p16.2
    refine ⟨?_, ?_⟩
    · intro c17
      have h := h.1 c17
      exact kv_X11_lies_50 h K hX22
    · intro c18
      have h := h.2 c18
      exact kv_X11_lies_50 h K hX22
theorem kv_X11_lies_22 {Q : Int32 → HS → Prop} {v0 : Nat} {v1 : Int32} {v2 : Int32} {S0 S : HS} (h : P_X11_lies_22 Q v0 v1 v2 S) (K : KV v0 S0 S) : P_X11_lies_22 (fun r T => Q r T ∧ KV v0 S0 T) v0 v1 v2 S := h (fun w0 v1 v2 S => w0 = v0 → KV v0 S0 S → P_X11_lies_22 (fun r T => Q r T ∧ KV v0 S0 T) w0 v1 v2 S) (fun w0 v1 v2 S hB e K => by
  subst e; exact fd_X11_lies_22 (kvB_X11_lies_22 hB K (fun _ _ _ _ hx e K => hx e K))) rfl K
set_option maxRecDepth 20000 in
set_option maxHeartbeats 1000000 in
theorem kv_X11_lies_0 {Q : Int32 → HS → Prop} {v0 : Nat} {S0 S : HS} (h : P_X11_lies_0 Q v0 S) (K : KV v0 S0 S) : P_X11_lies_0 (fun r T => Q r T ∧ KV v0 S0 T) v0 S := by
  delta P_X11_lies_0 at h ⊢
  obtain ⟨c1, h⟩ := h
  refine ⟨c1, ?_⟩
  intro x3 e2
  have h := h x3 e2
  have K := kv_I K e2
  refine ⟨?_, ?_⟩
  · intro c4
    have h := h.1 c4
    refine cm_X11_refused (kv_X11_refused h) h (fun x5 x6 p8 h g7 => ?_)
    have h := h g7
    have K := kv_tr K p8.2
    exact ⟨h, K⟩
  · intro x9 c10
    have h := h.2 x9 c10
    exact kv_X11_lies_22 h K
theorem kv_X11_lies {Q : Int32 → HS → Prop} {v0 : Nat} {S : HS} (h : P_X11_lies v0 Q S) : P_X11_lies v0 (fun r T => Q r T ∧ KV v0 S T) S := kv_X11_lies_0 h (kv_rf _ S)
set_option maxRecDepth 20000 in
set_option maxHeartbeats 1000000 in
theorem kvB_X11_mark_34 {Q : Int32 → HS → Prop} {X34 X34_2 : Nat → Int32 → HS → Prop} {v0 : Nat} {v1 : Int32} {S0 S : HS} (h : B_X11_mark_34 Q X34 v0 v1 S) (K : KV v0 S0 S) (hX34 : ∀ (u0 : Nat) (u1 : Int32) (u2 : HS), X34 u0 u1 u2 → u0 = v0 → KV v0 S0 u2 → X34_2 u0 u1 u2) : B_X11_mark_34 (fun r T => Q r T ∧ KV v0 S0 T) X34_2 v0 v1 S := by
  delta B_X11_mark_34 at h ⊢
  refine ⟨?_, ?_⟩
  · intro c1
    have h := h.1 c1
    obtain ⟨c2, h⟩ := h
    refine ⟨c2, ?_⟩
    intro x4 e3
    have h := h x4 e3
    intro x6 e5
    have h := h x6 e5
    intro x8 e7
    have h := h x8 e7
    have K := kv_I K e7
    intro x10 e9
    have h := h x10 e9
    refine cm_X11_good (kv_X11_good h) h (fun x11 x12 p14 h g13 => ?_)
    have h := h g13
    have K := kv_tr K p14.2
    exact ⟨h, K⟩
  · intro c15
    have h := h.2 c15
    obtain ⟨c16, h⟩ := h
    refine ⟨c16, ?_⟩
    obtain ⟨b17, e18, h⟩ := h
    refine ⟨b17, e18, ?_⟩
    intro x20 e19
    have h := h x20 e19
    obtain ⟨b21, e22, h⟩ := h
    refine ⟨b21, e22, ?_⟩
    obtain ⟨c23, h⟩ := h
    refine ⟨c23, ?_⟩
    obtain ⟨c24, h⟩ := h
    refine ⟨c24, ?_⟩
    intro x26 e25
    have h := h x26 e25
    obtain ⟨c27, h⟩ := h
    refine ⟨c27, ?_⟩
    obtain ⟨c28, h⟩ := h
    refine ⟨c28, ?_⟩
    intro x30 e29
    have h := h x30 e29
    have K := kv_J K e29
    intro x32 e31
    have h := h x32 e31
    exact hX34 _ _ _ h rfl K
theorem kv_X11_mark_34 {Q : Int32 → HS → Prop} {v0 : Nat} {v1 : Int32} {S0 S : HS} (h : P_X11_mark_34 Q v0 v1 S) (K : KV v0 S0 S) : P_X11_mark_34 (fun r T => Q r T ∧ KV v0 S0 T) v0 v1 S := h (fun w0 v1 S => w0 = v0 → KV v0 S0 S → P_X11_mark_34 (fun r T => Q r T ∧ KV v0 S0 T) w0 v1 S) (fun w0 v1 S hB e K => by
  subst e; exact fd_X11_mark_34 (kvB_X11_mark_34 hB K (fun _ _ _ hx e K => hx e K))) rfl K
set_option maxRecDepth 20000 in
set_option maxHeartbeats 1000000 in
theorem kv_X11_mark_0 {Q : Int32 → HS → Prop} {v0 : Nat} {S0 S : HS} (h : P_X11_mark_0 Q v0 S) (K : KV v0 S0 S) : P_X11_mark_0 (fun r T => Q r T ∧ KV v0 S0 T) v0 S := by
  delta P_X11_mark_0 at h ⊢
  obtain ⟨c1, h⟩ := h
  refine ⟨c1, ?_⟩
  intro x3 e2
  have h := h x3 e2
  have K := kv_I K e2
  refine cm_X11_isDay (kz_X11_isDay h) h (fun x4 x5 p8 h g6 g7 => ?_)
  have h := h g6 g7
  have K := kv_Z K p8.2
  refine ⟨?_, ?_⟩
  · intro c9
    have h := h.1 c9
    intro x11 e10
    have h := h x11 e10
    refine ⟨?_, ?_⟩
    · intro c12
      have h := h.1 c12
      exact kv_X11_mark_34 h K
    · intro c13
      have h := h.2 c13
      refine cm_X11_refused (kv_X11_refused h) h (fun x14 x15 p17 h g16 => ?_)
      have h := h g16
      have K := kv_tr K p17.2
      exact ⟨h, K⟩
  · intro c18
    have h := h.2 c18
    refine cm_X11_refused (kv_X11_refused h) h (fun x19 x20 p22 h g21 => ?_)
    have h := h g21
    have K := kv_tr K p22.2
    exact ⟨h, K⟩
theorem kv_X11_mark {Q : Int32 → HS → Prop} {v0 : Nat} {S : HS} (h : P_X11_mark v0 Q S) : P_X11_mark v0 (fun r T => Q r T ∧ KV v0 S T) S := kv_X11_mark_0 h (kv_rf _ S)
set_option maxRecDepth 20000 in
set_option maxHeartbeats 1000000 in
theorem kv_X11_mean_0 {Q : Int64 → HS → Prop} {v0 : Nat} {v1 : Int32} {v2 : Int32} {v3 : Int32} {v4 : Int32} {v5 : Int32} {v6 : Int32} {S0 S : HS} (h : P_X11_mean_0 Q v0 v1 v2 v3 v4 v5 v6 S) (K : KV v0 S0 S) : P_X11_mean_0 (fun r T => Q r T ∧ KV v0 S0 T) v0 v1 v2 v3 v4 v5 v6 S := by
  delta P_X11_mean_0 at h ⊢
  obtain ⟨c1, h⟩ := h
  refine ⟨c1, ?_⟩
  intro x3 e2
  have h := h x3 e2
  have K := kv_I K e2
  refine cm_X11_refuses (kz_X11_refuses h) h (fun x4 x5 p7 h g6 => ?_)
  have h := h g6
  have K := kv_Z K p7.2
  refine ⟨?_, ?_⟩
  · intro c8
    have h := h.1 c8
    refine cm_X11_wetOf (kz_X11_wetOf h) h (fun x9 x10 p12 h g11 => ?_)
    have h := h g11
    have K := kv_Z K p12.2
    obtain ⟨b13, e14, h⟩ := h
    refine ⟨b13, e14, ?_⟩
    obtain ⟨c15, h⟩ := h
    refine ⟨c15, ?_⟩
    obtain ⟨b16, e17, h⟩ := h
    refine ⟨b16, e17, ?_⟩
    obtain ⟨c18, h⟩ := h
    refine ⟨c18, ?_⟩
    obtain ⟨c19, h⟩ := h
    refine ⟨c19, ?_⟩
    intro x21 e20
    have h := h x21 e20
    refine cm_X11_told (kv_X11_told h) h (fun x22 x23 p25 h g24 => ?_)
    have h := h g24
    have K := kv_tr K p25.2
    exact ⟨h, K⟩
  · intro c26
    have h := h.2 c26
    refine cm_X11_refused (kv_X11_refused h) h (fun x27 x28 p30 h g29 => ?_)
    have h := h g29
    have K := kv_tr K p30.2
    exact ⟨h, K⟩
theorem kv_X11_mean {Q : Int64 → HS → Prop} {v0 : Nat} {v1 : Int32} {v2 : Int32} {v3 : Int32} {v4 : Int32} {v5 : Int32} {v6 : Int32} {S : HS} (h : P_X11_mean v0 v1 v2 v3 v4 v5 v6 Q S) : P_X11_mean v0 v1 v2 v3 v4 v5 v6 (fun r T => Q r T ∧ KV v0 S T) S := kv_X11_mean_0 h (kv_rf _ S)
set_option maxRecDepth 20000 in
set_option maxHeartbeats 1000000 in
theorem kv_X11_minutes_21 {Q : Int32 → HS → Prop} {v0 : Nat} {S0 S : HS} (h : P_X11_minutes_21 Q v0 S) (K : KV v0 S0 S) : P_X11_minutes_21 (fun r T => Q r T ∧ KV v0 S0 T) v0 S := by
  delta P_X11_minutes_21 at h ⊢
  obtain ⟨c1, h⟩ := h
  refine ⟨c1, ?_⟩
  refine cm_X11_refused (kv_X11_refused h) h (fun x2 x3 p5 h g4 => ?_)
  have h := h g4
  have K := kv_tr K p5.2
  exact ⟨h, K⟩
set_option maxRecDepth 20000 in
set_option maxHeartbeats 1000000 in
theorem kv_X11_minutes_0 {Q : Int32 → HS → Prop} {v0 : Nat} {v1 : Int32} {v2 : Int32} {v3 : Int32} {S0 S : HS} (h : P_X11_minutes_0 Q v0 v1 v2 v3 S) (K : KV v0 S0 S) : P_X11_minutes_0 (fun r T => Q r T ∧ KV v0 S0 T) v0 v1 v2 v3 S := by
  delta P_X11_minutes_0 at h ⊢
  obtain ⟨c1, h⟩ := h
  refine ⟨c1, ?_⟩
  intro x3 e2
  have h := h x3 e2
  have K := kv_I K e2
  refine cm_X11_isWalker (kz_X11_isWalker h) h (fun x4 x5 p8 h g6 g7 => ?_)
  have h := h g6 g7
  have K := kv_Z K p8.2
  refine ⟨?_, ?_⟩
  · intro c9
    have h := h.1 c9
    exact kv_X11_minutes_21 h K
  · intro c10
    have h := h.2 c10
    refine cm_X11_isRoad (kz_X11_isRoad h) h (fun x11 x12 p15 h g13 g14 => ?_)
    have h := h g13 g14
    have K := kv_Z K p15.2
    refine ⟨?_, ?_⟩
    · intro c16
      have h := h.1 c16
      refine cm_X11_isSpeed (kz_X11_isSpeed h) h (fun x17 x18 p21 h g19 g20 => ?_)
      have h := h g19 g20
      have K := kv_Z K p21.2
      refine ⟨?_, ?_⟩
      · intro c22
        have h := h.1 c22
        refine cm_X11_refused (kv_X11_refused h) h (fun x23 x24 p26 h g25 => ?_)
        have h := h g25
        have K := kv_tr K p26.2
        exact ⟨h, K⟩
      · intro c27
        have h := h.2 c27
        obtain ⟨b28, e29, h⟩ := h
        refine ⟨b28, e29, ?_⟩
        obtain ⟨c30, h⟩ := h
        refine ⟨c30, ?_⟩
        refine cm_X10_minutes (kz_X10_minutes h) h (fun x31 x32 p34 h g33 => ?_)
        have h := h g33
        have K := kv_Z K p34.2
        refine cm_X11_good (kv_X11_good h) h (fun x35 x36 p38 h g37 => ?_)
        have h := h g37
        have K := kv_tr K p38.2
        exact ⟨h, K⟩
    · intro c39
      have h := h.2 c39
      exact kv_X11_minutes_21 h K
theorem kv_X11_minutes {Q : Int32 → HS → Prop} {v0 : Nat} {v1 : Int32} {v2 : Int32} {v3 : Int32} {S : HS} (h : P_X11_minutes v0 v1 v2 v3 Q S) : P_X11_minutes v0 v1 v2 v3 (fun r T => Q r T ∧ KV v0 S T) S := kv_X11_minutes_0 h (kv_rf _ S)
set_option maxRecDepth 20000 in
set_option maxHeartbeats 1000000 in
theorem ko_X11_names_0 {Q : HS → Prop} {v0 : Nat} {v1 : Int64} {v3 : Int32} {v4 : Int32} {S0 S : HS} (h : P_X11_names_0 Q v0 v1 v3 v4 S) (K : KO_M v0 S0 S) : P_X11_names_0 (fun T => Q T ∧ KO_M v0 S0 T) v0 v1 v3 v4 S := by
  delta P_X11_names_0 at h ⊢
  obtain ⟨c1, h⟩ := h
  refine ⟨c1, ?_⟩
  obtain ⟨b2, e3, h⟩ := h
  refine ⟨b2, e3, ?_⟩
  have f4 := kom_f K e3
  obtain ⟨c5, h⟩ := h
  refine ⟨c5, ?_⟩
  obtain ⟨b6, e7, h⟩ := h
  refine ⟨b6, e7, ?_⟩
  have f8 := kom_f K e7
  obtain ⟨b9, e10, h⟩ := h
  refine ⟨b9, e10, ?_⟩
  have f11 := kom_f K e10
  obtain ⟨c12, h⟩ := h
  refine ⟨c12, ?_⟩
  intro x14 e13
  have h := h x14 e13
  obtain ⟨c15, h⟩ := h
  refine ⟨c15, ?_⟩
  obtain ⟨c16, h⟩ := h
  refine ⟨c16, ?_⟩
  intro x18 e17
  have h := h x18 e17
  have K := kom_J K e17
  obtain ⟨b19, e20, h⟩ := h
  refine ⟨b19, e20, ?_⟩
  have f21 := kom_f K e20
  obtain ⟨c22, h⟩ := h
  refine ⟨c22, ?_⟩
  obtain ⟨b23, e24, h⟩ := h
  refine ⟨b23, e24, ?_⟩
  have f25 := kom_f K e24
  obtain ⟨b26, e27, h⟩ := h
  refine ⟨b26, e27, ?_⟩
  have f28 := kom_f K e27
  obtain ⟨c29, h⟩ := h
  refine ⟨c29, ?_⟩
  intro x31 e30
  have h := h x31 e30
  obtain ⟨c32, h⟩ := h
  refine ⟨c32, ?_⟩
  obtain ⟨c33, h⟩ := h
  refine ⟨c33, ?_⟩
  intro x35 e34
  have h := h x35 e34
  have K := kom_I K e34 (owm_d f21 f25 (by decide))
  obtain ⟨b36, e37, h⟩ := h
  refine ⟨b36, e37, ?_⟩
  have f38 := kom_f K e37
  obtain ⟨c39, h⟩ := h
  refine ⟨c39, ?_⟩
  obtain ⟨b40, e41, h⟩ := h
  refine ⟨b40, e41, ?_⟩
  have f42 := kom_f K e41
  obtain ⟨b43, e44, h⟩ := h
  refine ⟨b43, e44, ?_⟩
  have f45 := kom_f K e44
  obtain ⟨c46, h⟩ := h
  refine ⟨c46, ?_⟩
  intro x48 e47
  have h := h x48 e47
  obtain ⟨c49, h⟩ := h
  refine ⟨c49, ?_⟩
  obtain ⟨c50, h⟩ := h
  refine ⟨c50, ?_⟩
  intro x52 e51
  have h := h x52 e51
  have K := kom_I K e51 (owm_d f38 f42 (by decide))
  obtain ⟨b53, e54, h⟩ := h
  refine ⟨b53, e54, ?_⟩
  have f55 := kom_f K e54
  obtain ⟨c56, h⟩ := h
  refine ⟨c56, ?_⟩
  intro x58 e57
  have h := h x58 e57
  intro x60 e59
  have h := h x60 e59
  intro x62 e61
  have h := h x62 e61
  have K := kom_I K e61 (owm_w f55)
  exact ⟨h, K⟩
theorem ko_X11_names {Q : HS → Prop} {v0 : Nat} {v1 : Int64} {v3 : Int32} {v4 : Int32} {S : HS} (h : P_X11_names v0 v1 v3 v4 Q S) : P_X11_names v0 v1 v3 v4 (fun T => Q T ∧ KO_M v0 S T) S := ko_X11_names_0 h (kom_rf _ S)
set_option maxRecDepth 20000 in
set_option maxHeartbeats 1000000 in
theorem kv_X11_needs_13 {Q : HS → Prop} {v0 : Nat} {S0 S : HS} (h : P_X11_needs_13 Q v0 S) (K : KV v0 S0 S) : P_X11_needs_13 (fun T => Q T ∧ KV v0 S0 T) v0 S := by
  delta P_X11_needs_13 at h ⊢
  obtain ⟨c1, h⟩ := h
  refine ⟨c1, ?_⟩
  refine cm_X11_goesOn (kv_X11_goesOn h) h (fun x2 p4 h g3 => ?_)
  have h := h g3
  have K := kv_tr K p4.2
  exact ⟨h, K⟩
set_option maxRecDepth 20000 in
set_option maxHeartbeats 1000000 in
theorem kv_X11_needs_0 {Q : HS → Prop} {v0 : Nat} {v1 : Nat} {S0 S : HS} (h : P_X11_needs_0 Q v0 v1 S) (K : KV v0 S0 S) : P_X11_needs_0 (fun T => Q T ∧ KV v0 S0 T) v0 v1 S := by
  delta P_X11_needs_0 at h ⊢
  obtain ⟨c1, h⟩ := h
  refine ⟨c1, ?_⟩
  refine cm_X11_isWord (kz_X11_isWord h) h (fun x2 x3 p6 h g4 g5 => ?_)
  have h := h g4 g5
  have K := kv_Z K p6.2
  refine ⟨?_, ?_⟩
  · intro c7
    have h := h.1 c7
    exact kv_X11_needs_13 h K
  · intro c8
    have h := h.2 c8
    refine cm_X11_flaw (kv_X11_flaw h) h (fun x9 p11 h g10 => ?_)
    have h := h g10
    have K := kv_tr K p11.2
    exact kv_X11_needs_13 h K
theorem kv_X11_needs {Q : HS → Prop} {v0 : Nat} {v1 : Nat} {S : HS} (h : P_X11_needs v0 v1 Q S) : P_X11_needs v0 v1 (fun T => Q T ∧ KV v0 S T) S := kv_X11_needs_0 h (kv_rf _ S)
set_option maxRecDepth 20000 in
set_option maxHeartbeats 1000000 in
theorem kv_X11_readFresh_32 {Q : Int64 → HS → Prop} {v0 : Nat} {S0 S : HS} (h : P_X11_readFresh_32 Q v0 S) (K : KV v0 S0 S) : P_X11_readFresh_32 (fun r T => Q r T ∧ KV v0 S0 T) v0 S := by
  delta P_X11_readFresh_32 at h ⊢
  obtain ⟨c1, h⟩ := h
  refine ⟨c1, ?_⟩
  intro x3 e2
  have h := h x3 e2
  refine cm_X11_goesOn (kv_X11_goesOn h) h (fun x4 p6 h g5 => ?_)
  have h := h g5
  have K := kv_tr K p6.2
  exact ⟨h, K⟩
set_option maxRecDepth 20000 in
set_option maxHeartbeats 1000000 in
theorem kv_X11_readFresh_12 {Q : Int64 → HS → Prop} {v0 : Nat} {S0 S : HS} (h : P_X11_readFresh_12 Q v0 S) (K : KV v0 S0 S) : P_X11_readFresh_12 (fun r T => Q r T ∧ KV v0 S0 T) v0 S := by
  delta P_X11_readFresh_12 at h ⊢
  obtain ⟨c1, h⟩ := h
  refine ⟨c1, ?_⟩
  obtain ⟨b2, e3, h⟩ := h
  refine ⟨b2, e3, ?_⟩
  intro x5 e4
  have h := h x5 e4
  obtain ⟨c6, h⟩ := h
  refine ⟨c6, ?_⟩
  refine cm_X10_find (kz_X10_find h) h (fun x7 x8 p10 h g9 => ?_)
  have h := h g9
  have K := kv_Z K p10.2
  refine ⟨?_, ?_⟩
  · intro c11
    have h := h.1 c11
    exact kv_X11_readFresh_32 h K
  · intro c12
    have h := h.2 c12
    refine cm_X11_flaw (kv_X11_flaw h) h (fun x13 p15 h g14 => ?_)
    have h := h g14
    have K := kv_tr K p15.2
    exact kv_X11_readFresh_32 h K
set_option maxRecDepth 20000 in
set_option maxHeartbeats 1000000 in
theorem kv_X11_readFresh_0 {Q : Int64 → HS → Prop} {v0 : Nat} {S0 S : HS} (h : P_X11_readFresh_0 Q v0 S) (K : KV v0 S0 S) : P_X11_readFresh_0 (fun r T => Q r T ∧ KV v0 S0 T) v0 S := by
  delta P_X11_readFresh_0 at h ⊢
  obtain ⟨c1, h⟩ := h
  refine ⟨c1, ?_⟩
  refine cm_X11_isName (kz_X11_isName h) h (fun x2 x3 p6 h g4 g5 => ?_)
  have h := h g4 g5
  have K := kv_Z K p6.2
  refine ⟨?_, ?_⟩
  · intro c7
    have h := h.1 c7
    exact kv_X11_readFresh_12 h K
  · intro c8
    have h := h.2 c8
    refine cm_X11_flaw (kv_X11_flaw h) h (fun x9 p11 h g10 => ?_)
    have h := h g10
    have K := kv_tr K p11.2
    exact kv_X11_readFresh_12 h K
theorem kv_X11_readFresh {Q : Int64 → HS → Prop} {v0 : Nat} {S : HS} (h : P_X11_readFresh v0 Q S) : P_X11_readFresh v0 (fun r T => Q r T ∧ KV v0 S T) S := kv_X11_readFresh_0 h (kv_rf _ S)
set_option maxRecDepth 20000 in
set_option maxHeartbeats 1000000 in
theorem kv_X11_readWhole_49 {Q : Int32 → HS → Prop} {v0 : Nat} {s0 : Int32} {S0 S : HS} (h : P_X11_readWhole_49 Q v0 s0 S) (K : KV v0 S0 S) : P_X11_readWhole_49 (fun r T => Q r T ∧ KV v0 S0 T) v0 s0 S := by
  delta P_X11_readWhole_49 at h ⊢
  obtain ⟨c1, h⟩ := h
  refine ⟨c1, ?_⟩
  refine cm_X11_goesOn (kv_X11_goesOn h) h (fun x2 p4 h g3 => ?_)
  have h := h g3
  have K := kv_tr K p4.2
  exact ⟨h, K⟩
set_option maxRecDepth 20000 in
set_option maxHeartbeats 1000000 in
theorem kv_X11_readWhole_33 {Q : Int32 → HS → Prop} {v0 : Nat} {v1 : Int32} {S0 S : HS} (h : P_X11_readWhole_33 Q v0 v1 S) (K : KV v0 S0 S) : P_X11_readWhole_33 (fun r T => Q r T ∧ KV v0 S0 T) v0 v1 S := by
  delta P_X11_readWhole_33 at h ⊢
  obtain ⟨c1, h⟩ := h
  refine ⟨c1, ?_⟩
  intro x3 e2
  have h := h x3 e2
  refine ⟨?_, ?_⟩
  · intro c4
    have h := h.1 c4
    intro x6 e5
    have h := h x6 e5
    exact kv_X11_readWhole_49 h K
  · intro c7
    have h := h.2 c7
    exact kv_X11_readWhole_49 h K
set_option maxRecDepth 20000 in
set_option maxHeartbeats 1000000 in
theorem kv_X11_readWhole_0 {Q : Int32 → HS → Prop} {v0 : Nat} {v1 : Int32} {v2 : Int32} {S0 S : HS} (h : P_X11_readWhole_0 Q v0 v1 v2 S) (K : KV v0 S0 S) : P_X11_readWhole_0 (fun r T => Q r T ∧ KV v0 S0 T) v0 v1 v2 S := by
  delta P_X11_readWhole_0 at h ⊢
  obtain ⟨c1, h⟩ := h
  refine ⟨c1, ?_⟩
  intro x3 e2
  have h := h x3 e2
  refine ⟨?_, ?_⟩
  · intro c4
    have h := h.1 c4
    intro x6 e5
    have h := h x6 e5
    refine cm_X11_in (kz_X11_in h) h (fun x7 x8 p11 h g9 g10 => ?_)
    have h := h g9 g10
    have K := kv_Z K p11.2
    refine ⟨?_, ?_⟩
    · intro c12
      have h := h.1 c12
      exact kv_X11_readWhole_33 h K
    · intro c13
      have h := h.2 c13
      refine cm_X11_flaw (kv_X11_flaw h) h (fun x14 p16 h g15 => ?_)
      have h := h g15
      have K := kv_tr K p16.2
      exact kv_X11_readWhole_33 h K
  · intro c17
    have h := h.2 c17
    refine cm_X11_flaw (kv_X11_flaw h) h (fun x18 p20 h g19 => ?_)
    have h := h g19
    have K := kv_tr K p20.2
    exact kv_X11_readWhole_33 h K
theorem kv_X11_readWhole {Q : Int32 → HS → Prop} {v0 : Nat} {v1 : Int32} {v2 : Int32} {S : HS} (h : P_X11_readWhole v0 v1 v2 Q S) : P_X11_readWhole v0 v1 v2 (fun r T => Q r T ∧ KV v0 S T) S := kv_X11_readWhole_0 h (kv_rf _ S)
set_option maxRecDepth 20000 in
set_option maxHeartbeats 1000000 in
theorem ko_X11_readPlace_50 {Q : HS → Prop} {v0 : Nat} {v1 : Int64} {v3 : Int32} {s0 : Int32} {S0 S : HS} (h : P_X11_readPlace_50 Q v0 v1 v3 s0 S) (K : KO_M v0 S0 S) : P_X11_readPlace_50 (fun T => Q T ∧ KO_M v0 S0 T) v0 v1 v3 s0 S := by
  delta P_X11_readPlace_50 at h ⊢
  obtain ⟨c1, h⟩ := h
  refine ⟨c1, ?_⟩
  intro x3 e2
  have h := h x3 e2
  refine ⟨?_, ?_⟩
  · intro c4
    have h := h.1 c4
    obtain ⟨b5, e6, h⟩ := h
    refine ⟨b5, e6, ?_⟩
    have f7 := kom_f K e6
    obtain ⟨c8, h⟩ := h
    refine ⟨c8, ?_⟩
    intro x10 e9
    have h := h x10 e9
    refine cm_X11_names (ko_X11_names h) h (fun x11 p13 h g12 => ?_)
    have h := h g12
    have K := kom_tr K p13.2
    obtain ⟨b14, e15, h⟩ := h
    refine ⟨b14, e15, ?_⟩
    have f16 := kom_f K e15
    obtain ⟨c17, h⟩ := h
    refine ⟨c17, ?_⟩
    obtain ⟨b18, e19, h⟩ := h
    refine ⟨b18, e19, ?_⟩
    have f20 := kom_f K e19
    obtain ⟨b21, e22, h⟩ := h
    refine ⟨b21, e22, ?_⟩
    have f23 := kom_f K e22
    obtain ⟨c24, h⟩ := h
    refine ⟨c24, ?_⟩
    intro x26 e25
    have h := h x26 e25
    obtain ⟨c27, h⟩ := h
    refine ⟨c27, ?_⟩
    obtain ⟨c28, h⟩ := h
    refine ⟨c28, ?_⟩
    intro x30 e29
    have h := h x30 e29
    have K := kom_I K e29 (owm_d f16 f20 (by decide))
    obtain ⟨b31, e32, h⟩ := h
    refine ⟨b31, e32, ?_⟩
    have f33 := kom_f K e32
    obtain ⟨c34, h⟩ := h
    refine ⟨c34, ?_⟩
    obtain ⟨b35, e36, h⟩ := h
    refine ⟨b35, e36, ?_⟩
    have f37 := kom_f K e36
    obtain ⟨b38, e39, h⟩ := h
    refine ⟨b38, e39, ?_⟩
    have f40 := kom_f K e39
    obtain ⟨c41, h⟩ := h
    refine ⟨c41, ?_⟩
    intro x43 e42
    have h := h x43 e42
    obtain ⟨c44, h⟩ := h
    refine ⟨c44, ?_⟩
    obtain ⟨c45, h⟩ := h
    refine ⟨c45, ?_⟩
    intro x47 e46
    have h := h x47 e46
    have K := kom_I K e46 (owm_d f33 f37 (by decide))
    obtain ⟨b48, e49, h⟩ := h
    refine ⟨b48, e49, ?_⟩
    have f50 := kom_f K e49
    obtain ⟨c51, h⟩ := h
    refine ⟨c51, ?_⟩
    intro x53 e52
    have h := h x53 e52
    intro x55 e54
    have h := h x55 e54
    intro x57 e56
    have h := h x57 e56
    have K := kom_I K e56 (owm_w f50)
    exact ⟨h, K⟩
  · intro c58
    have h := h.2 c58
    exact ⟨h, K⟩
set_option maxRecDepth 20000 in
set_option maxHeartbeats 1000000 in
theorem ko_X11_readPlace_48 {Q : HS → Prop} {v0 : Nat} {v1 : Int64} {v3 : Int32} {S0 S : HS} (h : P_X11_readPlace_48 Q v0 v1 v3 S) (K : KO_M v0 S0 S) : P_X11_readPlace_48 (fun T => Q T ∧ KO_M v0 S0 T) v0 v1 v3 S := by
  delta P_X11_readPlace_48 at h ⊢
  exact ko_X11_readPlace_50 h K
set_option maxRecDepth 20000 in
set_option maxHeartbeats 1000000 in
theorem ko_X11_readPlace_0 {Q : HS → Prop} {v0 : Nat} {S0 S : HS} (h : P_X11_readPlace_0 Q v0 S) (K : KO_M v0 S0 S) : P_X11_readPlace_0 (fun T => Q T ∧ KO_M v0 S0 T) v0 S := by
  delta P_X11_readPlace_0 at h ⊢
  obtain ⟨c1, h⟩ := h
  refine ⟨c1, ?_⟩
  obtain ⟨b2, e3, h⟩ := h
  refine ⟨b2, e3, ?_⟩
  have f4 := kom_f K e3
  obtain ⟨c5, h⟩ := h
  refine ⟨c5, ?_⟩
  intro x7 e6
  have h := h x7 e6
  refine cm_X11_begins (kv_X11_begins h) h (fun x8 p10 h g9 => ?_)
  have h := h g9
  have K := kom_V K p10.2 owm_r
  refine cm_X11_readFresh (kv_X11_readFresh h) h (fun x11 x12 p14 h g13 => ?_)
  have h := h g13
  have K := kom_V K p14.2 owm_r
  refine cm_X11_eatsWord (kv_X11_eatsWord h) h (fun x15 x16 p19 h g17 g18 => ?_)
  have h := h g17 g18
  have K := kom_V K p19.2 owm_r
  refine ⟨?_, ?_⟩
  · intro c20
    have h := h.1 c20
    exact ko_X11_readPlace_48 h K
  · intro c21
    have h := h.2 c21
    refine cm_X11_eatsWord (kv_X11_eatsWord h) h (fun x22 x23 p26 h g24 g25 => ?_)
    have h := h g24 g25
    have K := kom_V K p26.2 owm_r
    refine ⟨?_, ?_⟩
    · intro c27
      have h := h.1 c27
      exact ko_X11_readPlace_48 h K
    · intro c28
      have h := h.2 c28
      refine cm_X11_readWhole (kv_X11_readWhole h) h (fun x29 x30 p32 h g31 => ?_)
      have h := h g31
      have K := kom_V K p32.2 owm_r
      exact ko_X11_readPlace_50 h K
theorem ko_X11_readPlace {Q : HS → Prop} {v0 : Nat} {S : HS} (h : P_X11_readPlace v0 Q S) : P_X11_readPlace v0 (fun T => Q T ∧ KO_M v0 S T) S := ko_X11_readPlace_0 h (kom_rf _ S)
set_option maxRecDepth 20000 in
set_option maxHeartbeats 1000000 in
theorem kv_X11_readPart_0 {Q : Int32 → HS → Prop} {v0 : Nat} {v1 : Nat} {v2 : Int32} {v3 : Int32} {S0 S : HS} (h : P_X11_readPart_0 Q v0 v1 v2 v3 S) (K : KV v0 S0 S) : P_X11_readPart_0 (fun r T => Q r T ∧ KV v0 S0 T) v0 v1 v2 v3 S := by
  delta P_X11_readPart_0 at h ⊢
  obtain ⟨c1, h⟩ := h
  refine ⟨c1, ?_⟩
  refine cm_X11_needs (kv_X11_needs h) h (fun x2 p4 h g3 => ?_)
  have h := h g3
  have K := kv_tr K p4.2
  refine cm_X11_readWhole (kv_X11_readWhole h) h (fun x5 x6 p8 h g7 => ?_)
  have h := h g7
  have K := kv_tr K p8.2
  exact ⟨h, K⟩
theorem kv_X11_readPart {Q : Int32 → HS → Prop} {v0 : Nat} {v1 : Nat} {v2 : Int32} {v3 : Int32} {S : HS} (h : P_X11_readPart v0 v1 v2 v3 Q S) : P_X11_readPart v0 v1 v2 v3 (fun r T => Q r T ∧ KV v0 S T) S := kv_X11_readPart_0 h (kv_rf _ S)
set_option maxRecDepth 20000 in
set_option maxHeartbeats 1000000 in
theorem kv_X11_readSide_64 {Q : Int32 → HS → Prop} {v0 : Nat} {v1 : Int32} {S0 S : HS} (h : P_X11_readSide_64 Q v0 v1 S) (K : KV v0 S0 S) : P_X11_readSide_64 (fun r T => Q r T ∧ KV v0 S0 T) v0 v1 S := by
  delta P_X11_readSide_64 at h ⊢
  obtain ⟨c1, h⟩ := h
  refine ⟨c1, ?_⟩
  refine cm_X11_goesOn (kv_X11_goesOn h) h (fun x2 p4 h g3 => ?_)
  have h := h g3
  have K := kv_tr K p4.2
  exact ⟨h, K⟩
set_option maxRecDepth 20000 in
set_option maxHeartbeats 1000000 in
theorem kv_X11_readSide_53 {Q : Int32 → HS → Prop} {v0 : Nat} {s0 : Int32} {S0 S : HS} (h : P_X11_readSide_53 Q v0 s0 S) (K : KV v0 S0 S) : P_X11_readSide_53 (fun r T => Q r T ∧ KV v0 S0 T) v0 s0 S := by
  delta P_X11_readSide_53 at h ⊢
  refine ⟨?_, ?_⟩
  · intro c1
    have h := h.1 c1
    exact kv_X11_readSide_64 h K
  · intro c2
    have h := h.2 c2
    obtain ⟨c3, h⟩ := h
    refine ⟨c3, ?_⟩
    refine cm_X11_flaw (kv_X11_flaw h) h (fun x4 p6 h g5 => ?_)
    have h := h g5
    have K := kv_tr K p6.2
    exact kv_X11_readSide_64 h K
set_option maxRecDepth 20000 in
set_option maxHeartbeats 1000000 in
theorem kv_X11_readSide_0 {Q : Int32 → HS → Prop} {v0 : Nat} {S0 S : HS} (h : P_X11_readSide_0 Q v0 S) (K : KV v0 S0 S) : P_X11_readSide_0 (fun r T => Q r T ∧ KV v0 S0 T) v0 S := by
  delta P_X11_readSide_0 at h ⊢
  obtain ⟨c1, h⟩ := h
  refine ⟨c1, ?_⟩
  refine cm_X11_isWord (kz_X11_isWord h) h (fun x2 x3 p6 h g4 g5 => ?_)
  have h := h g4 g5
  have K := kv_Z K p6.2
  refine ⟨?_, ?_⟩
  · intro c7
    have h := h.1 c7
    refine cm_X11_isWord (kz_X11_isWord h) h (fun x8 x9 p12 h g10 g11 => ?_)
    have h := h g10 g11
    have K := kv_Z K p12.2
    refine ⟨?_, ?_⟩
    · intro c13
      have h := h.1 c13
      refine cm_X11_isWord (kz_X11_isWord h) h (fun x14 x15 p18 h g16 g17 => ?_)
      have h := h g16 g17
      have K := kv_Z K p18.2
      refine ⟨?_, ?_⟩
      · intro c19
        have h := h.1 c19
        refine cm_X11_isWord (kz_X11_isWord h) h (fun x20 x21 p24 h g22 g23 => ?_)
        have h := h g22 g23
        have K := kv_Z K p24.2
        refine ⟨?_, ?_⟩
        · intro c25
          have h := h.1 c25
          exact kv_X11_readSide_53 h K
        · intro c26
          have h := h.2 c26
          exact kv_X11_readSide_53 h K
      · intro c27
        have h := h.2 c27
        exact kv_X11_readSide_53 h K
    · intro c28
      have h := h.2 c28
      exact kv_X11_readSide_53 h K
  · intro c29
    have h := h.2 c29
    exact kv_X11_readSide_53 h K
theorem kv_X11_readSide {Q : Int32 → HS → Prop} {v0 : Nat} {S : HS} (h : P_X11_readSide v0 Q S) : P_X11_readSide v0 (fun r T => Q r T ∧ KV v0 S T) S := kv_X11_readSide_0 h (kv_rf _ S)
set_option maxRecDepth 20000 in
set_option maxHeartbeats 1000000 in
theorem ko_X11_readRain_0 {Q : HS → Prop} {v0 : Nat} {S0 S : HS} (h : P_X11_readRain_0 Q v0 S) (K : KO_M v0 S0 S) : P_X11_readRain_0 (fun T => Q T ∧ KO_M v0 S0 T) v0 S := by
  delta P_X11_readRain_0 at h ⊢
  obtain ⟨c1, h⟩ := h
  refine ⟨c1, ?_⟩
  obtain ⟨b2, e3, h⟩ := h
  refine ⟨b2, e3, ?_⟩
  have f4 := kom_f K e3
  obtain ⟨c5, h⟩ := h
  refine ⟨c5, ?_⟩
  intro x7 e6
  have h := h x7 e6
  refine cm_X11_begins (kv_X11_begins h) h (fun x8 p10 h g9 => ?_)
  have h := h g9
  have K := kom_V K p10.2 owm_r
  refine cm_X11_readPart (kv_X11_readPart h) h (fun x11 x12 p14 h g13 => ?_)
  have h := h g13
  have K := kom_V K p14.2 owm_r
  refine cm_X11_readPart (kv_X11_readPart h) h (fun x15 x16 p18 h g17 => ?_)
  have h := h g17
  have K := kom_V K p18.2 owm_r
  refine cm_X11_needs (kv_X11_needs h) h (fun x19 p21 h g20 => ?_)
  have h := h g20
  have K := kom_V K p21.2 owm_r
  refine cm_X11_readSide (kv_X11_readSide h) h (fun x22 x23 p25 h g24 => ?_)
  have h := h g24
  have K := kom_V K p25.2 owm_r
  refine cm_X11_readWhole (kv_X11_readWhole h) h (fun x26 x27 p29 h g28 => ?_)
  have h := h g28
  have K := kom_V K p29.2 owm_r
  refine cm_X11_readPart (kv_X11_readPart h) h (fun x30 x31 p33 h g32 => ?_)
  have h := h g32
  have K := kom_V K p33.2 owm_r
  intro x35 e34
  have h := h x35 e34
  refine ⟨?_, ?_⟩
  · intro c36
    have h := h.1 c36
    obtain ⟨b37, e38, h⟩ := h
    refine ⟨b37, e38, ?_⟩
    have f39 := kom_f K e38
    obtain ⟨c40, h⟩ := h
    refine ⟨c40, ?_⟩
    obtain ⟨b41, e42, h⟩ := h
    refine ⟨b41, e42, ?_⟩
    have f43 := kom_f K e42
    obtain ⟨b44, e45, h⟩ := h
    refine ⟨b44, e45, ?_⟩
    have f46 := kom_f K e45
    obtain ⟨c47, h⟩ := h
    refine ⟨c47, ?_⟩
    intro x49 e48
    have h := h x49 e48
    obtain ⟨c50, h⟩ := h
    refine ⟨c50, ?_⟩
    obtain ⟨c51, h⟩ := h
    refine ⟨c51, ?_⟩
    intro x53 e52
    have h := h x53 e52
    have K := kom_I K e52 (owm_d f39 f43 (by decide))
    obtain ⟨b54, e55, h⟩ := h
    refine ⟨b54, e55, ?_⟩
    have f56 := kom_f K e55
    obtain ⟨c57, h⟩ := h
    refine ⟨c57, ?_⟩
    obtain ⟨b58, e59, h⟩ := h
    refine ⟨b58, e59, ?_⟩
    have f60 := kom_f K e59
    obtain ⟨b61, e62, h⟩ := h
    refine ⟨b61, e62, ?_⟩
    have f63 := kom_f K e62
    obtain ⟨c64, h⟩ := h
    refine ⟨c64, ?_⟩
    intro x66 e65
    have h := h x66 e65
    obtain ⟨c67, h⟩ := h
    refine ⟨c67, ?_⟩
    obtain ⟨c68, h⟩ := h
    refine ⟨c68, ?_⟩
    intro x70 e69
    have h := h x70 e69
    have K := kom_I K e69 (owm_d f56 f60 (by decide))
    obtain ⟨b71, e72, h⟩ := h
    refine ⟨b71, e72, ?_⟩
    have f73 := kom_f K e72
    obtain ⟨c74, h⟩ := h
    refine ⟨c74, ?_⟩
    obtain ⟨b75, e76, h⟩ := h
    refine ⟨b75, e76, ?_⟩
    have f77 := kom_f K e76
    obtain ⟨b78, e79, h⟩ := h
    refine ⟨b78, e79, ?_⟩
    have f80 := kom_f K e79
    obtain ⟨c81, h⟩ := h
    refine ⟨c81, ?_⟩
    intro x83 e82
    have h := h x83 e82
    obtain ⟨c84, h⟩ := h
    refine ⟨c84, ?_⟩
    obtain ⟨c85, h⟩ := h
    refine ⟨c85, ?_⟩
    intro x87 e86
    have h := h x87 e86
    have K := kom_I K e86 (owm_d f73 f77 (by decide))
    obtain ⟨b88, e89, h⟩ := h
    refine ⟨b88, e89, ?_⟩
    have f90 := kom_f K e89
    obtain ⟨c91, h⟩ := h
    refine ⟨c91, ?_⟩
    obtain ⟨b92, e93, h⟩ := h
    refine ⟨b92, e93, ?_⟩
    have f94 := kom_f K e93
    obtain ⟨b95, e96, h⟩ := h
    refine ⟨b95, e96, ?_⟩
    have f97 := kom_f K e96
    obtain ⟨c98, h⟩ := h
    refine ⟨c98, ?_⟩
    intro x100 e99
    have h := h x100 e99
    obtain ⟨c101, h⟩ := h
    refine ⟨c101, ?_⟩
    obtain ⟨c102, h⟩ := h
    refine ⟨c102, ?_⟩
    intro x104 e103
    have h := h x104 e103
    have K := kom_I K e103 (owm_d f90 f94 (by decide))
    obtain ⟨b105, e106, h⟩ := h
    refine ⟨b105, e106, ?_⟩
    have f107 := kom_f K e106
    obtain ⟨c108, h⟩ := h
    refine ⟨c108, ?_⟩
    obtain ⟨b109, e110, h⟩ := h
    refine ⟨b109, e110, ?_⟩
    have f111 := kom_f K e110
    obtain ⟨b112, e113, h⟩ := h
    refine ⟨b112, e113, ?_⟩
    have f114 := kom_f K e113
    obtain ⟨c115, h⟩ := h
    refine ⟨c115, ?_⟩
    intro x117 e116
    have h := h x117 e116
    obtain ⟨c118, h⟩ := h
    refine ⟨c118, ?_⟩
    obtain ⟨c119, h⟩ := h
    refine ⟨c119, ?_⟩
    intro x121 e120
    have h := h x121 e120
    have K := kom_I K e120 (owm_d f107 f111 (by decide))
    obtain ⟨b122, e123, h⟩ := h
    refine ⟨b122, e123, ?_⟩
    have f124 := kom_f K e123
    obtain ⟨c125, h⟩ := h
    refine ⟨c125, ?_⟩
    intro x127 e126
    have h := h x127 e126
    intro x129 e128
    have h := h x129 e128
    intro x131 e130
    have h := h x131 e130
    have K := kom_I K e130 (owm_w f124)
    exact ⟨h, K⟩
  · intro c132
    have h := h.2 c132
    exact ⟨h, K⟩
theorem ko_X11_readRain {Q : HS → Prop} {v0 : Nat} {S : HS} (h : P_X11_readRain v0 Q S) : P_X11_readRain v0 (fun T => Q T ∧ KO_M v0 S T) S := ko_X11_readRain_0 h (kom_rf _ S)
set_option maxRecDepth 20000 in
set_option maxHeartbeats 1000000 in
theorem ko_X11_readRoad_85 {Q : HS → Prop} {v0 : Nat} {v1 : Int32} {v2 : Int32} {v3 : Int32} {v4 : Int32} {s0 : Int32} {S0 S : HS} (h : P_X11_readRoad_85 Q v0 v1 v2 v3 v4 s0 S) (K : KO_M v0 S0 S) : P_X11_readRoad_85 (fun T => Q T ∧ KO_M v0 S0 T) v0 v1 v2 v3 v4 s0 S := by
  delta P_X11_readRoad_85 at h ⊢
  obtain ⟨c1, h⟩ := h
  refine ⟨c1, ?_⟩
  intro x3 e2
  have h := h x3 e2
  refine ⟨?_, ?_⟩
  · intro c4
    have h := h.1 c4
    obtain ⟨b5, e6, h⟩ := h
    refine ⟨b5, e6, ?_⟩
    have f7 := kom_f K e6
    obtain ⟨c8, h⟩ := h
    refine ⟨c8, ?_⟩
    intro x10 e9
    have h := h x10 e9
    obtain ⟨b11, e12, h⟩ := h
    refine ⟨b11, e12, ?_⟩
    have f13 := kom_f K e12
    obtain ⟨c14, h⟩ := h
    refine ⟨c14, ?_⟩
    obtain ⟨b15, e16, h⟩ := h
    refine ⟨b15, e16, ?_⟩
    have f17 := kom_f K e16
    obtain ⟨c18, h⟩ := h
    refine ⟨c18, ?_⟩
    obtain ⟨c19, h⟩ := h
    refine ⟨c19, ?_⟩
    intro x21 e20
    have h := h x21 e20
    have K := kom_I K e20 (owm_d f13 f17 (by decide))
    obtain ⟨b22, e23, h⟩ := h
    refine ⟨b22, e23, ?_⟩
    have f24 := kom_f K e23
    obtain ⟨c25, h⟩ := h
    refine ⟨c25, ?_⟩
    obtain ⟨b26, e27, h⟩ := h
    refine ⟨b26, e27, ?_⟩
    have f28 := kom_f K e27
    obtain ⟨c29, h⟩ := h
    refine ⟨c29, ?_⟩
    obtain ⟨c30, h⟩ := h
    refine ⟨c30, ?_⟩
    intro x32 e31
    have h := h x32 e31
    have K := kom_I K e31 (owm_d f24 f28 (by decide))
    obtain ⟨b33, e34, h⟩ := h
    refine ⟨b33, e34, ?_⟩
    have f35 := kom_f K e34
    obtain ⟨c36, h⟩ := h
    refine ⟨c36, ?_⟩
    obtain ⟨b37, e38, h⟩ := h
    refine ⟨b37, e38, ?_⟩
    have f39 := kom_f K e38
    obtain ⟨c40, h⟩ := h
    refine ⟨c40, ?_⟩
    obtain ⟨c41, h⟩ := h
    refine ⟨c41, ?_⟩
    intro x43 e42
    have h := h x43 e42
    have K := kom_I K e42 (owm_d f35 f39 (by decide))
    obtain ⟨b44, e45, h⟩ := h
    refine ⟨b44, e45, ?_⟩
    have f46 := kom_f K e45
    obtain ⟨c47, h⟩ := h
    refine ⟨c47, ?_⟩
    obtain ⟨b48, e49, h⟩ := h
    refine ⟨b48, e49, ?_⟩
    have f50 := kom_f K e49
    obtain ⟨c51, h⟩ := h
    refine ⟨c51, ?_⟩
    obtain ⟨c52, h⟩ := h
    refine ⟨c52, ?_⟩
    intro x54 e53
    have h := h x54 e53
    have K := kom_I K e53 (owm_d f46 f50 (by decide))
    obtain ⟨b55, e56, h⟩ := h
    refine ⟨b55, e56, ?_⟩
    have f57 := kom_f K e56
    obtain ⟨c58, h⟩ := h
    refine ⟨c58, ?_⟩
    obtain ⟨b59, e60, h⟩ := h
    refine ⟨b59, e60, ?_⟩
    have f61 := kom_f K e60
    obtain ⟨c62, h⟩ := h
    refine ⟨c62, ?_⟩
    obtain ⟨c63, h⟩ := h
    refine ⟨c63, ?_⟩
    intro x65 e64
    have h := h x65 e64
    have K := kom_I K e64 (owm_d f57 f61 (by decide))
    obtain ⟨b66, e67, h⟩ := h
    refine ⟨b66, e67, ?_⟩
    have f68 := kom_f K e67
    obtain ⟨c69, h⟩ := h
    refine ⟨c69, ?_⟩
    intro x71 e70
    have h := h x71 e70
    intro x73 e72
    have h := h x73 e72
    intro x75 e74
    have h := h x75 e74
    have K := kom_I K e74 (owm_w f68)
    exact ⟨h, K⟩
  · intro c76
    have h := h.2 c76
    exact ⟨h, K⟩
set_option maxRecDepth 20000 in
set_option maxHeartbeats 1000000 in
theorem ko_X11_readRoad_62 {Q : HS → Prop} {v0 : Nat} {v1 : Int32} {v2 : Int32} {v3 : Int32} {v4 : Int32} {S0 S : HS} (h : P_X11_readRoad_62 Q v0 v1 v2 v3 v4 S) (K : KO_M v0 S0 S) : P_X11_readRoad_62 (fun T => Q T ∧ KO_M v0 S0 T) v0 v1 v2 v3 v4 S := by
  delta P_X11_readRoad_62 at h ⊢
  obtain ⟨c1, h⟩ := h
  refine ⟨c1, ?_⟩
  refine cm_X11_goesOn (kv_X11_goesOn h) h (fun x2 p4 h g3 => ?_)
  have h := h g3
  have K := kom_V K p4.2 owm_r
  refine cm_X11_eatsWord (kv_X11_eatsWord h) h (fun x5 x6 p9 h g7 g8 => ?_)
  have h := h g7 g8
  have K := kom_V K p9.2 owm_r
  refine ⟨?_, ?_⟩
  · intro c10
    have h := h.1 c10
    exact ko_X11_readRoad_85 h K
  · intro c11
    have h := h.2 c11
    refine cm_X11_readWhole (kv_X11_readWhole h) h (fun x12 x13 p15 h g14 => ?_)
    have h := h g14
    have K := kom_V K p15.2 owm_r
    exact ko_X11_readRoad_85 h K
set_option maxRecDepth 20000 in
set_option maxHeartbeats 1000000 in
theorem ko_X11_readRoad_0 {Q : HS → Prop} {v0 : Nat} {S0 S : HS} (h : P_X11_readRoad_0 Q v0 S) (K : KO_M v0 S0 S) : P_X11_readRoad_0 (fun T => Q T ∧ KO_M v0 S0 T) v0 S := by
  delta P_X11_readRoad_0 at h ⊢
  obtain ⟨c1, h⟩ := h
  refine ⟨c1, ?_⟩
  obtain ⟨b2, e3, h⟩ := h
  refine ⟨b2, e3, ?_⟩
  have f4 := kom_f K e3
  obtain ⟨c5, h⟩ := h
  refine ⟨c5, ?_⟩
  intro x7 e6
  have h := h x7 e6
  refine cm_X11_begins (kv_X11_begins h) h (fun x8 p10 h g9 => ?_)
  have h := h g9
  have K := kom_V K p10.2 owm_r
  refine cm_X11_known (kv_X11_known h) h (fun x11 x12 p14 h g13 => ?_)
  have h := h g13
  have K := kom_V K p14.2 owm_r
  refine cm_X11_goesOn (kv_X11_goesOn h) h (fun x15 p17 h g16 => ?_)
  have h := h g16
  have K := kom_V K p17.2 owm_r
  refine cm_X11_readSide (kv_X11_readSide h) h (fun x18 x19 p21 h g20 => ?_)
  have h := h g20
  have K := kom_V K p21.2 owm_r
  refine cm_X11_readWhole (kv_X11_readWhole h) h (fun x22 x23 p25 h g24 => ?_)
  have h := h g24
  have K := kom_V K p25.2 owm_r
  refine cm_X11_known (kv_X11_known h) h (fun x26 x27 p29 h g28 => ?_)
  have h := h g28
  have K := kom_V K p29.2 owm_r
  intro x31 e30
  have h := h x31 e30
  refine ⟨?_, ?_⟩
  · intro c32
    have h := h.1 c32
    exact ko_X11_readRoad_62 h K
  · intro c33
    have h := h.2 c33
    refine ⟨?_, ?_⟩
    · intro c34
      have h := h.1 c34
      exact ko_X11_readRoad_62 h K
    · intro c35
      have h := h.2 c35
      refine cm_X11_flaw (kv_X11_flaw h) h (fun x36 p38 h g37 => ?_)
      have h := h g37
      have K := kom_V K p38.2 owm_r
      exact ko_X11_readRoad_62 h K
theorem ko_X11_readRoad {Q : HS → Prop} {v0 : Nat} {S : HS} (h : P_X11_readRoad v0 Q S) : P_X11_readRoad v0 (fun T => Q T ∧ KO_M v0 S T) S := ko_X11_readRoad_0 h (kom_rf _ S)
set_option maxRecDepth 20000 in
set_option maxHeartbeats 1000000 in
theorem ko_X11_readSeen_47 {Q : HS → Prop} {X24 X24_2 : Nat → Int32 → Int32 → HS → Prop} {v0 : Nat} {v1 : Int32} {v2 : Int32} {S0 S : HS} (h : P_X11_readSeen_47 Q X24 v0 v1 v2 S) (K : KO_M v0 S0 S) (hX24 : ∀ (u0 : Nat) (u1 : Int32) (u2 : Int32) (u3 : HS), X24 u0 u1 u2 u3 → u0 = v0 → KO_M v0 S0 u3 → X24_2 u0 u1 u2 u3) : P_X11_readSeen_47 (fun T => Q T ∧ KO_M v0 S0 T) X24_2 v0 v1 v2 S := by
  delta P_X11_readSeen_47 at h ⊢
  obtain ⟨c1, h⟩ := h
  refine ⟨c1, ?_⟩
  refine cm_X11_readWhole (kv_X11_readWhole h) h (fun x2 x3 p5 h g4 => ?_)
  have h := h g4
  have K := kom_V K p5.2 owm_r
  intro x7 e6
  have h := h x7 e6
  refine ⟨?_, ?_⟩
  · intro c8
    have h := h.1 c8
    obtain ⟨b9, e10, h⟩ := h
    refine ⟨b9, e10, ?_⟩
    have f11 := kom_f K e10
    obtain ⟨c12, h⟩ := h
    refine ⟨c12, ?_⟩
    obtain ⟨b13, e14, h⟩ := h
    refine ⟨b13, e14, ?_⟩
    have f15 := kom_f K e14
    obtain ⟨b16, e17, h⟩ := h
    refine ⟨b16, e17, ?_⟩
    have f18 := kom_f K e17
    obtain ⟨c19, h⟩ := h
    refine ⟨c19, ?_⟩
    intro x21 e20
    have h := h x21 e20
    obtain ⟨c22, h⟩ := h
    refine ⟨c22, ?_⟩
    obtain ⟨c23, h⟩ := h
    refine ⟨c23, ?_⟩
    intro x25 e24
    have h := h x25 e24
    have K := kom_I K e24 (owm_d f11 f15 (by decide))
    intro x27 e26
    have h := h x27 e26
    exact hX24 _ _ _ _ h rfl K
  · intro c28
    have h := h.2 c28
    exact ⟨h, K⟩
set_option maxRecDepth 20000 in
set_option maxHeartbeats 1000000 in
theorem koB_X11_readSeen_24 {Q : HS → Prop} {X24 X24_2 : Nat → Int32 → Int32 → HS → Prop} {v0 : Nat} {v1 : Int32} {v2 : Int32} {S0 S : HS} (h : B_X11_readSeen_24 Q X24 v0 v1 v2 S) (K : KO_M v0 S0 S) (hX24 : ∀ (u0 : Nat) (u1 : Int32) (u2 : Int32) (u3 : HS), X24 u0 u1 u2 u3 → u0 = v0 → KO_M v0 S0 u3 → X24_2 u0 u1 u2 u3) : B_X11_readSeen_24 (fun T => Q T ∧ KO_M v0 S0 T) X24_2 v0 v1 v2 S := by
  delta B_X11_readSeen_24 at h ⊢
  refine ⟨?_, ?_⟩
  · intro c1
    have h := h.1 c1
    obtain ⟨c2, h⟩ := h
    refine ⟨c2, ?_⟩
    obtain ⟨b3, e4, h⟩ := h
    refine ⟨b3, e4, ?_⟩
    have f5 := kom_f K e4
    obtain ⟨c6, h⟩ := h
    refine ⟨c6, ?_⟩
    obtain ⟨b7, e8, h⟩ := h
    refine ⟨b7, e8, ?_⟩
    have f9 := kom_f K e8
    obtain ⟨b10, e11, h⟩ := h
    refine ⟨b10, e11, ?_⟩
    have f12 := kom_f K e11
    obtain ⟨c13, h⟩ := h
    refine ⟨c13, ?_⟩
    intro x15 e14
    have h := h x15 e14
    obtain ⟨c16, h⟩ := h
    refine ⟨c16, ?_⟩
    obtain ⟨c17, h⟩ := h
    refine ⟨c17, ?_⟩
    intro x19 e18
    have h := h x19 e18
    have K := kom_I K e18 (owm_d f5 f9 (by decide))
    obtain ⟨b20, e21, h⟩ := h
    refine ⟨b20, e21, ?_⟩
    have f22 := kom_f K e21
    obtain ⟨c23, h⟩ := h
    refine ⟨c23, ?_⟩
    intro x25 e24
    have h := h x25 e24
    intro x27 e26
    have h := h x27 e26
    intro x29 e28
    have h := h x29 e28
    have K := kom_I K e28 (owm_w f22)
    exact ⟨h, K⟩
  · intro c30
    have h := h.2 c30
    refine ⟨?_, ?_⟩
    · intro c31
      have h := h.1 c31
      exact ko_X11_readSeen_47 h K hX24
    · intro c32
      have h := h.2 c32
      obtain ⟨c33, h⟩ := h
      refine ⟨c33, ?_⟩
      refine cm_X11_eatsSign (kv_X11_eatsSign h) h (fun x34 x35 p38 h g36 g37 => ?_)
      have h := h g36 g37
      have K := kom_V K p38.2 owm_r
      refine ⟨?_, ?_⟩
      · intro c39
        have h := h.1 c39
        exact ko_X11_readSeen_47 h K hX24
      · intro c40
        have h := h.2 c40
        refine cm_X11_flaw (kv_X11_flaw h) h (fun x41 p43 h g42 => ?_)
        have h := h g42
        have K := kom_V K p43.2 owm_r
        exact ko_X11_readSeen_47 h K hX24
theorem ko_X11_readSeen_24 {Q : HS → Prop} {v0 : Nat} {v1 : Int32} {v2 : Int32} {S0 S : HS} (h : P_X11_readSeen_24 Q v0 v1 v2 S) (K : KO_M v0 S0 S) : P_X11_readSeen_24 (fun T => Q T ∧ KO_M v0 S0 T) v0 v1 v2 S := h (fun w0 v1 v2 S => w0 = v0 → KO_M v0 S0 S → P_X11_readSeen_24 (fun T => Q T ∧ KO_M v0 S0 T) w0 v1 v2 S) (fun w0 v1 v2 S hB e K => by
  subst e; exact fd_X11_readSeen_24 (koB_X11_readSeen_24 hB K (fun _ _ _ _ hx e K => hx e K))) rfl K
set_option maxRecDepth 20000 in
set_option maxHeartbeats 1000000 in
theorem ko_X11_readSeen_0 {Q : HS → Prop} {v0 : Nat} {S0 S : HS} (h : P_X11_readSeen_0 Q v0 S) (K : KO_M v0 S0 S) : P_X11_readSeen_0 (fun T => Q T ∧ KO_M v0 S0 T) v0 S := by
  delta P_X11_readSeen_0 at h ⊢
  obtain ⟨c1, h⟩ := h
  refine ⟨c1, ?_⟩
  obtain ⟨b2, e3, h⟩ := h
  refine ⟨b2, e3, ?_⟩
  have f4 := kom_f K e3
  obtain ⟨c5, h⟩ := h
  refine ⟨c5, ?_⟩
  intro x7 e6
  have h := h x7 e6
  refine cm_X11_begins (kv_X11_begins h) h (fun x8 p10 h g9 => ?_)
  have h := h g9
  have K := kom_V K p10.2 owm_r
  refine cm_X11_known (kv_X11_known h) h (fun x11 x12 p14 h g13 => ?_)
  have h := h g13
  have K := kom_V K p14.2 owm_r
  refine cm_X11_goesOn (kv_X11_goesOn h) h (fun x15 p17 h g16 => ?_)
  have h := h g16
  have K := kom_V K p17.2 owm_r
  exact ko_X11_readSeen_24 h K
theorem ko_X11_readSeen {Q : HS → Prop} {v0 : Nat} {S : HS} (h : P_X11_readSeen v0 Q S) : P_X11_readSeen v0 (fun T => Q T ∧ KO_M v0 S T) S := ko_X11_readSeen_0 h (kom_rf _ S)
set_option maxRecDepth 20000 in
set_option maxHeartbeats 1000000 in
theorem ko_X11_readWalker_149 {Q : HS → Prop} {v0 : Nat} {v1 : Int64} {v3 : Int32} {v4 : Int32} {s0 : Int32} {S0 S : HS} (h : P_X11_readWalker_149 Q v0 v1 v3 v4 s0 S) (K : KO_M v0 S0 S) : P_X11_readWalker_149 (fun T => Q T ∧ KO_M v0 S0 T) v0 v1 v3 v4 s0 S := by
  delta P_X11_readWalker_149 at h ⊢
  obtain ⟨c1, h⟩ := h
  refine ⟨c1, ?_⟩
  refine cm_X11_readPart (kv_X11_readPart h) h (fun x2 x3 p5 h g4 => ?_)
  have h := h g4
  have K := kom_V K p5.2 owm_r
  refine cm_X11_readPart (kv_X11_readPart h) h (fun x6 x7 p9 h g8 => ?_)
  have h := h g8
  have K := kom_V K p9.2 owm_r
  refine cm_X11_readPart (kv_X11_readPart h) h (fun x10 x11 p13 h g12 => ?_)
  have h := h g12
  have K := kom_V K p13.2 owm_r
  refine cm_X11_readPart (kv_X11_readPart h) h (fun x14 x15 p17 h g16 => ?_)
  have h := h g16
  have K := kom_V K p17.2 owm_r
  refine cm_X11_readPart (kv_X11_readPart h) h (fun x18 x19 p21 h g20 => ?_)
  have h := h g20
  have K := kom_V K p21.2 owm_r
  intro x23 e22
  have h := h x23 e22
  refine ⟨?_, ?_⟩
  · intro c24
    have h := h.1 c24
    obtain ⟨b25, e26, h⟩ := h
    refine ⟨b25, e26, ?_⟩
    have f27 := kom_f K e26
    obtain ⟨c28, h⟩ := h
    refine ⟨c28, ?_⟩
    intro x30 e29
    have h := h x30 e29
    refine cm_X11_names (ko_X11_names h) h (fun x31 p33 h g32 => ?_)
    have h := h g32
    have K := kom_tr K p33.2
    obtain ⟨b34, e35, h⟩ := h
    refine ⟨b34, e35, ?_⟩
    have f36 := kom_f K e35
    obtain ⟨c37, h⟩ := h
    refine ⟨c37, ?_⟩
    obtain ⟨b38, e39, h⟩ := h
    refine ⟨b38, e39, ?_⟩
    have f40 := kom_f K e39
    obtain ⟨c41, h⟩ := h
    refine ⟨c41, ?_⟩
    obtain ⟨c42, h⟩ := h
    refine ⟨c42, ?_⟩
    intro x44 e43
    have h := h x44 e43
    have K := kom_I K e43 (owm_d f36 f40 (by decide))
    obtain ⟨b45, e46, h⟩ := h
    refine ⟨b45, e46, ?_⟩
    have f47 := kom_f K e46
    obtain ⟨c48, h⟩ := h
    refine ⟨c48, ?_⟩
    obtain ⟨b49, e50, h⟩ := h
    refine ⟨b49, e50, ?_⟩
    have f51 := kom_f K e50
    obtain ⟨c52, h⟩ := h
    refine ⟨c52, ?_⟩
    obtain ⟨c53, h⟩ := h
    refine ⟨c53, ?_⟩
    intro x55 e54
    have h := h x55 e54
    have K := kom_I K e54 (owm_d f47 f51 (by decide))
    obtain ⟨b56, e57, h⟩ := h
    refine ⟨b56, e57, ?_⟩
    have f58 := kom_f K e57
    obtain ⟨c59, h⟩ := h
    refine ⟨c59, ?_⟩
    obtain ⟨b60, e61, h⟩ := h
    refine ⟨b60, e61, ?_⟩
    have f62 := kom_f K e61
    obtain ⟨c63, h⟩ := h
    refine ⟨c63, ?_⟩
    intro x65 e64
    have h := h x65 e64
    obtain ⟨c66, h⟩ := h
    refine ⟨c66, ?_⟩
    intro x68 e67
    have h := h x68 e67
    have K := kom_I K e67 (owm_d f58 f62 (by decide))
    obtain ⟨b69, e70, h⟩ := h
    refine ⟨b69, e70, ?_⟩
    have f71 := kom_f K e70
    obtain ⟨c72, h⟩ := h
    refine ⟨c72, ?_⟩
    obtain ⟨b73, e74, h⟩ := h
    refine ⟨b73, e74, ?_⟩
    have f75 := kom_f K e74
    obtain ⟨c76, h⟩ := h
    refine ⟨c76, ?_⟩
    intro x78 e77
    have h := h x78 e77
    obtain ⟨c79, h⟩ := h
    refine ⟨c79, ?_⟩
    intro x81 e80
    have h := h x81 e80
    have K := kom_I K e80 (owm_d f71 f75 (by decide))
    obtain ⟨b82, e83, h⟩ := h
    refine ⟨b82, e83, ?_⟩
    have f84 := kom_f K e83
    obtain ⟨c85, h⟩ := h
    refine ⟨c85, ?_⟩
    obtain ⟨b86, e87, h⟩ := h
    refine ⟨b86, e87, ?_⟩
    have f88 := kom_f K e87
    obtain ⟨c89, h⟩ := h
    refine ⟨c89, ?_⟩
    intro x91 e90
    have h := h x91 e90
    obtain ⟨c92, h⟩ := h
    refine ⟨c92, ?_⟩
    intro x94 e93
    have h := h x94 e93
    have K := kom_I K e93 (owm_d f84 f88 (by decide))
    obtain ⟨b95, e96, h⟩ := h
    refine ⟨b95, e96, ?_⟩
    have f97 := kom_f K e96
    obtain ⟨c98, h⟩ := h
    refine ⟨c98, ?_⟩
    obtain ⟨b99, e100, h⟩ := h
    refine ⟨b99, e100, ?_⟩
    have f101 := kom_f K e100
    obtain ⟨c102, h⟩ := h
    refine ⟨c102, ?_⟩
    obtain ⟨c103, h⟩ := h
    refine ⟨c103, ?_⟩
    intro x105 e104
    have h := h x105 e104
    have K := kom_I K e104 (owm_d f97 f101 (by decide))
    obtain ⟨b106, e107, h⟩ := h
    refine ⟨b106, e107, ?_⟩
    have f108 := kom_f K e107
    obtain ⟨c109, h⟩ := h
    refine ⟨c109, ?_⟩
    obtain ⟨b110, e111, h⟩ := h
    refine ⟨b110, e111, ?_⟩
    have f112 := kom_f K e111
    obtain ⟨c113, h⟩ := h
    refine ⟨c113, ?_⟩
    obtain ⟨c114, h⟩ := h
    refine ⟨c114, ?_⟩
    intro x116 e115
    have h := h x116 e115
    have K := kom_I K e115 (owm_d f108 f112 (by decide))
    obtain ⟨b117, e118, h⟩ := h
    refine ⟨b117, e118, ?_⟩
    have f119 := kom_f K e118
    obtain ⟨c120, h⟩ := h
    refine ⟨c120, ?_⟩
    intro x122 e121
    have h := h x122 e121
    intro x124 e123
    have h := h x124 e123
    intro x126 e125
    have h := h x126 e125
    have K := kom_I K e125 (owm_w f119)
    exact ⟨h, K⟩
  · intro c127
    have h := h.2 c127
    exact ⟨h, K⟩
set_option maxRecDepth 20000 in
set_option maxHeartbeats 1000000 in
theorem ko_X11_readWalker_136 {Q : HS → Prop} {v0 : Nat} {v1 : Int64} {v3 : Int32} {s0 : Int32} {S0 S : HS} (h : P_X11_readWalker_136 Q v0 v1 v3 s0 S) (K : KO_M v0 S0 S) : P_X11_readWalker_136 (fun T => Q T ∧ KO_M v0 S0 T) v0 v1 v3 s0 S := by
  delta P_X11_readWalker_136 at h ⊢
  refine ⟨?_, ?_⟩
  · intro c1
    have h := h.1 c1
    exact ko_X11_readWalker_149 h K
  · intro c2
    have h := h.2 c2
    exact ko_X11_readWalker_149 h K
set_option maxRecDepth 20000 in
set_option maxHeartbeats 1000000 in
theorem ko_X11_readWalker_85 {Q : HS → Prop} {v0 : Nat} {v1 : Int64} {v3 : Int32} {S0 S : HS} (h : P_X11_readWalker_85 Q v0 v1 v3 S) (K : KO_M v0 S0 S) : P_X11_readWalker_85 (fun T => Q T ∧ KO_M v0 S0 T) v0 v1 v3 S := by
  delta P_X11_readWalker_85 at h ⊢
  obtain ⟨c1, h⟩ := h
  refine ⟨c1, ?_⟩
  refine cm_X11_goesOn (kv_X11_goesOn h) h (fun x2 p4 h g3 => ?_)
  have h := h g3
  have K := kom_V K p4.2 owm_r
  refine ⟨?_, ?_⟩
  · intro c5
    have h := h.1 c5
    refine ⟨?_, ?_⟩
    · intro c6
      have h := h.1 c6
      refine ⟨?_, ?_⟩
      · intro c7
        have h := h.1 c7
        exact ko_X11_readWalker_136 h K
      · intro c8
        have h := h.2 c8
        refine cm_X11_readWhole (kv_X11_readWhole h) h (fun x9 x10 p12 h g11 => ?_)
        have h := h g11
        have K := kom_V K p12.2 owm_r
        exact ko_X11_readWalker_136 h K
    · intro c13
      have h := h.2 c13
      refine cm_X11_readWhole (kv_X11_readWhole h) h (fun x14 x15 p17 h g16 => ?_)
      have h := h g16
      have K := kom_V K p17.2 owm_r
      exact ko_X11_readWalker_136 h K
  · intro c18
    have h := h.2 c18
    refine cm_X11_readWhole (kv_X11_readWhole h) h (fun x19 x20 p22 h g21 => ?_)
    have h := h g21
    have K := kom_V K p22.2 owm_r
    exact ko_X11_readWalker_136 h K
set_option maxRecDepth 20000 in
set_option maxHeartbeats 1000000 in
theorem ko_X11_readWalker_74 {Q : HS → Prop} {v0 : Nat} {v1 : Int64} {s0 : Int32} {S0 S : HS} (h : P_X11_readWalker_74 Q v0 v1 s0 S) (K : KO_M v0 S0 S) : P_X11_readWalker_74 (fun T => Q T ∧ KO_M v0 S0 T) v0 v1 s0 S := by
  delta P_X11_readWalker_74 at h ⊢
  refine ⟨?_, ?_⟩
  · intro c1
    have h := h.1 c1
    exact ko_X11_readWalker_85 h K
  · intro c2
    have h := h.2 c2
    obtain ⟨c3, h⟩ := h
    refine ⟨c3, ?_⟩
    refine cm_X11_flaw (kv_X11_flaw h) h (fun x4 p6 h g5 => ?_)
    have h := h g5
    have K := kom_V K p6.2 owm_r
    exact ko_X11_readWalker_85 h K
set_option maxRecDepth 20000 in
set_option maxHeartbeats 1000000 in
theorem ko_X11_readWalker_0 {Q : HS → Prop} {v0 : Nat} {S0 S : HS} (h : P_X11_readWalker_0 Q v0 S) (K : KO_M v0 S0 S) : P_X11_readWalker_0 (fun T => Q T ∧ KO_M v0 S0 T) v0 S := by
  delta P_X11_readWalker_0 at h ⊢
  obtain ⟨c1, h⟩ := h
  refine ⟨c1, ?_⟩
  obtain ⟨b2, e3, h⟩ := h
  refine ⟨b2, e3, ?_⟩
  have f4 := kom_f K e3
  obtain ⟨c5, h⟩ := h
  refine ⟨c5, ?_⟩
  intro x7 e6
  have h := h x7 e6
  refine cm_X11_begins (kv_X11_begins h) h (fun x8 p10 h g9 => ?_)
  have h := h g9
  have K := kom_V K p10.2 owm_r
  refine cm_X11_readFresh (kv_X11_readFresh h) h (fun x11 x12 p14 h g13 => ?_)
  have h := h g13
  have K := kom_V K p14.2 owm_r
  refine cm_X11_isWord (kz_X11_isWord h) h (fun x15 x16 p19 h g17 g18 => ?_)
  have h := h g17 g18
  have K := kom_Z K p19.2
  refine ⟨?_, ?_⟩
  · intro c20
    have h := h.1 c20
    refine cm_X11_isWord (kz_X11_isWord h) h (fun x21 x22 p25 h g23 g24 => ?_)
    have h := h g23 g24
    have K := kom_Z K p25.2
    refine ⟨?_, ?_⟩
    · intro c26
      have h := h.1 c26
      refine cm_X11_isWord (kz_X11_isWord h) h (fun x27 x28 p31 h g29 g30 => ?_)
      have h := h g29 g30
      have K := kom_Z K p31.2
      refine ⟨?_, ?_⟩
      · intro c32
        have h := h.1 c32
        refine cm_X11_isWord (kz_X11_isWord h) h (fun x33 x34 p37 h g35 g36 => ?_)
        have h := h g35 g36
        have K := kom_Z K p37.2
        refine ⟨?_, ?_⟩
        · intro c38
          have h := h.1 c38
          exact ko_X11_readWalker_74 h K
        · intro c39
          have h := h.2 c39
          exact ko_X11_readWalker_74 h K
      · intro c40
        have h := h.2 c40
        exact ko_X11_readWalker_74 h K
    · intro c41
      have h := h.2 c41
      exact ko_X11_readWalker_74 h K
  · intro c42
    have h := h.2 c42
    exact ko_X11_readWalker_74 h K
theorem ko_X11_readWalker {Q : HS → Prop} {v0 : Nat} {S : HS} (h : P_X11_readWalker v0 Q S) : P_X11_readWalker v0 (fun T => Q T ∧ KO_M v0 S T) S := ko_X11_readWalker_0 h (kom_rf _ S)
set_option maxRecDepth 20000 in
set_option maxHeartbeats 1000000 in
theorem ko_X11_readWorld_15 {Q : HS → Prop} {v0 : Nat} {S0 S : HS} (h : P_X11_readWorld_15 Q v0 S) (K : KO_M v0 S0 S) : P_X11_readWorld_15 (fun T => Q T ∧ KO_M v0 S0 T) v0 S := by
  delta P_X11_readWorld_15 at h ⊢
  obtain ⟨c1, h⟩ := h
  refine ⟨c1, ?_⟩
  refine cm_X11_goesOn (kv_X11_goesOn h) h (fun x2 p4 h g3 => ?_)
  have h := h g3
  have K := kom_V K p4.2 owm_r
  refine cm_X11_readPart (kv_X11_readPart h) h (fun x5 x6 p8 h g7 => ?_)
  have h := h g7
  have K := kom_V K p8.2 owm_r
  intro x10 e9
  have h := h x10 e9
  refine ⟨?_, ?_⟩
  · intro c11
    have h := h.1 c11
    exact ⟨h, K⟩
  · intro c12
    have h := h.2 c12
    obtain ⟨b13, e14, h⟩ := h
    refine ⟨b13, e14, ?_⟩
    have f15 := kom_f K e14
    obtain ⟨c16, h⟩ := h
    refine ⟨c16, ?_⟩
    intro x18 e17
    have h := h x18 e17
    have K := kom_I K e17 (owm_w f15)
    exact ⟨h, K⟩
set_option maxRecDepth 20000 in
set_option maxHeartbeats 1000000 in
theorem ko_X11_readWorld_0 {Q : HS → Prop} {v0 : Nat} {S0 S : HS} (h : P_X11_readWorld_0 Q v0 S) (K : KO_M v0 S0 S) : P_X11_readWorld_0 (fun T => Q T ∧ KO_M v0 S0 T) v0 S := by
  delta P_X11_readWorld_0 at h ⊢
  obtain ⟨c1, h⟩ := h
  refine ⟨c1, ?_⟩
  obtain ⟨b2, e3, h⟩ := h
  refine ⟨b2, e3, ?_⟩
  have f4 := kom_f K e3
  obtain ⟨c5, h⟩ := h
  refine ⟨c5, ?_⟩
  intro x7 e6
  have h := h x7 e6
  refine ⟨?_, ?_⟩
  · intro c8
    have h := h.1 c8
    exact ko_X11_readWorld_15 h K
  · intro c9
    have h := h.2 c9
    refine cm_X11_flaw (kv_X11_flaw h) h (fun x10 p12 h g11 => ?_)
    have h := h g11
    have K := kom_V K p12.2 owm_r
    exact ko_X11_readWorld_15 h K
theorem ko_X11_readWorld {Q : HS → Prop} {v0 : Nat} {S : HS} (h : P_X11_readWorld v0 Q S) : P_X11_readWorld v0 (fun T => Q T ∧ KO_M v0 S T) S := ko_X11_readWorld_0 h (kom_rf _ S)
set_option maxRecDepth 20000 in
set_option maxHeartbeats 1000000 in
theorem ko_X11_readLine_0 {Q : HS → Prop} {v0 : Nat} {S0 S : HS} (h : P_X11_readLine_0 Q v0 S) (K : KO_M v0 S0 S) : P_X11_readLine_0 (fun T => Q T ∧ KO_M v0 S0 T) v0 S := by
  delta P_X11_readLine_0 at h ⊢
  obtain ⟨c1, h⟩ := h
  refine ⟨c1, ?_⟩
  refine cm_X11_isWord (kz_X11_isWord h) h (fun x2 x3 p6 h g4 g5 => ?_)
  have h := h g4 g5
  have K := kom_Z K p6.2
  refine ⟨?_, ?_⟩
  · intro c7
    have h := h.1 c7
    refine cm_X11_isWord (kz_X11_isWord h) h (fun x8 x9 p12 h g10 g11 => ?_)
    have h := h g10 g11
    have K := kom_Z K p12.2
    refine ⟨?_, ?_⟩
    · intro c13
      have h := h.1 c13
      refine cm_X11_isWord (kz_X11_isWord h) h (fun x14 x15 p18 h g16 g17 => ?_)
      have h := h g16 g17
      have K := kom_Z K p18.2
      refine ⟨?_, ?_⟩
      · intro c19
        have h := h.1 c19
        refine cm_X11_isWord (kz_X11_isWord h) h (fun x20 x21 p24 h g22 g23 => ?_)
        have h := h g22 g23
        have K := kom_Z K p24.2
        refine ⟨?_, ?_⟩
        · intro c25
          have h := h.1 c25
          refine cm_X11_isWord (kz_X11_isWord h) h (fun x26 x27 p30 h g28 g29 => ?_)
          have h := h g28 g29
          have K := kom_Z K p30.2
          refine ⟨?_, ?_⟩
          · intro c31
            have h := h.1 c31
            refine cm_X11_isWord (kz_X11_isWord h) h (fun x32 x33 p36 h g34 g35 => ?_)
            have h := h g34 g35
            have K := kom_Z K p36.2
            refine ⟨?_, ?_⟩
            · intro c37
              have h := h.1 c37
              refine cm_X11_flaw (kv_X11_flaw h) h (fun x38 p40 h g39 => ?_)
              have h := h g39
              have K := kom_V K p40.2 owm_r
              exact ⟨h, K⟩
            · intro c41
              have h := h.2 c41
              refine cm_X11_readSeen (ko_X11_readSeen h) h (fun x42 p44 h g43 => ?_)
              have h := h g43
              have K := kom_tr K p44.2
              exact ⟨h, K⟩
          · intro c45
            have h := h.2 c45
            refine cm_X11_readWalker (ko_X11_readWalker h) h (fun x46 p48 h g47 => ?_)
            have h := h g47
            have K := kom_tr K p48.2
            exact ⟨h, K⟩
        · intro c49
          have h := h.2 c49
          refine cm_X11_readRoad (ko_X11_readRoad h) h (fun x50 p52 h g51 => ?_)
          have h := h g51
          have K := kom_tr K p52.2
          exact ⟨h, K⟩
      · intro c53
        have h := h.2 c53
        refine cm_X11_readPlace (ko_X11_readPlace h) h (fun x54 p56 h g55 => ?_)
        have h := h g55
        have K := kom_tr K p56.2
        exact ⟨h, K⟩
    · intro c57
      have h := h.2 c57
      refine cm_X11_readRain (ko_X11_readRain h) h (fun x58 p60 h g59 => ?_)
      have h := h g59
      have K := kom_tr K p60.2
      exact ⟨h, K⟩
  · intro c61
    have h := h.2 c61
    refine cm_X11_readWorld (ko_X11_readWorld h) h (fun x62 p64 h g63 => ?_)
    have h := h g63
    have K := kom_tr K p64.2
    exact ⟨h, K⟩
theorem ko_X11_readLine {Q : HS → Prop} {v0 : Nat} {S : HS} (h : P_X11_readLine v0 Q S) : P_X11_readLine v0 (fun T => Q T ∧ KO_M v0 S T) S := ko_X11_readLine_0 h (kom_rf _ S)
set_option maxRecDepth 20000 in
set_option maxHeartbeats 1000000 in
theorem ko_X11_readAll_63 {Q : HS → Prop} {v0 : Nat} {S0 S : HS} (h : P_X11_readAll_63 Q v0 S) (K : KO_M v0 S0 S) : P_X11_readAll_63 (fun T => Q T ∧ KO_M v0 S0 T) v0 S := by
  delta P_X11_readAll_63 at h ⊢
  obtain ⟨c1, h⟩ := h
  refine ⟨c1, ?_⟩
  refine cm_X11_flaw (kv_X11_flaw h) h (fun x2 p4 h g3 => ?_)
  have h := h g3
  have K := kom_V K p4.2 owm_r
  exact ⟨h, K⟩
set_option maxRecDepth 20000 in
set_option maxHeartbeats 1000000 in
theorem ko_X11_readAll_33 {Q : HS → Prop} {v0 : Nat} {S0 S : HS} (h : P_X11_readAll_33 Q v0 S) (K : KO_M v0 S0 S) : P_X11_readAll_33 (fun T => Q T ∧ KO_M v0 S0 T) v0 S := by
  delta P_X11_readAll_33 at h ⊢
  obtain ⟨c1, h⟩ := h
  refine ⟨c1, ?_⟩
  obtain ⟨b2, e3, h⟩ := h
  refine ⟨b2, e3, ?_⟩
  have f4 := kom_f K e3
  obtain ⟨c5, h⟩ := h
  refine ⟨c5, ?_⟩
  intro x7 e6
  have h := h x7 e6
  refine ⟨?_, ?_⟩
  · intro c8
    have h := h.1 c8
    exact ko_X11_readAll_63 h K
  · intro c9
    have h := h.2 c9
    obtain ⟨b10, e11, h⟩ := h
    refine ⟨b10, e11, ?_⟩
    have f12 := kom_f K e11
    obtain ⟨c13, h⟩ := h
    refine ⟨c13, ?_⟩
    intro x15 e14
    have h := h x15 e14
    refine ⟨?_, ?_⟩
    · intro c16
      have h := h.1 c16
      exact ko_X11_readAll_63 h K
    · intro c17
      have h := h.2 c17
      obtain ⟨b18, e19, h⟩ := h
      refine ⟨b18, e19, ?_⟩
      have f20 := kom_f K e19
      obtain ⟨c21, h⟩ := h
      refine ⟨c21, ?_⟩
      intro x23 e22
      have h := h x23 e22
      refine ⟨?_, ?_⟩
      · intro c24
        have h := h.1 c24
        exact ⟨h, K⟩
      · intro c25
        have h := h.2 c25
        exact ko_X11_readAll_63 h K
set_option maxRecDepth 20000 in
set_option maxHeartbeats 1000000 in
theorem koB_X11_readAll_2 {Q : HS → Prop} {X2 X2_2 : Nat → Int32 → HS → Prop} {v0 : Nat} {v1 : Int32} {S0 S : HS} (h : B_X11_readAll_2 Q X2 v0 v1 S) (K : KO_M v0 S0 S) (hX2 : ∀ (u0 : Nat) (u1 : Int32) (u2 : HS), X2 u0 u1 u2 → u0 = v0 → KO_M v0 S0 u2 → X2_2 u0 u1 u2) : B_X11_readAll_2 (fun T => Q T ∧ KO_M v0 S0 T) X2_2 v0 v1 S := by
  delta B_X11_readAll_2 at h ⊢
  refine ⟨?_, ?_⟩
  · intro c1
    have h := h.1 c1
    obtain ⟨c2, h⟩ := h
    refine ⟨c2, ?_⟩
    intro x4 e3
    have h := h x4 e3
    refine ⟨?_, ?_⟩
    · intro c5
      have h := h.1 c5
      exact ko_X11_readAll_33 h K
    · intro c6
      have h := h.2 c6
      refine cm_X11_flaw (kv_X11_flaw h) h (fun x7 p9 h g8 => ?_)
      have h := h g8
      have K := kom_V K p9.2 owm_r
      exact ko_X11_readAll_33 h K
  · intro c10
    have h := h.2 c10
    obtain ⟨c11, h⟩ := h
    refine ⟨c11, ?_⟩
    refine cm_X11_readLine (ko_X11_readLine h) h (fun x12 p14 h g13 => ?_)
    have h := h g13
    have K := kom_tr K p14.2
    refine cm_X11_eatsSign (kv_X11_eatsSign h) h (fun x15 x16 p19 h g17 g18 => ?_)
    have h := h g17 g18
    have K := kom_V K p19.2 owm_r
    exact hX2 _ _ _ h rfl K
theorem ko_X11_readAll_2 {Q : HS → Prop} {v0 : Nat} {v1 : Int32} {S0 S : HS} (h : P_X11_readAll_2 Q v0 v1 S) (K : KO_M v0 S0 S) : P_X11_readAll_2 (fun T => Q T ∧ KO_M v0 S0 T) v0 v1 S := h (fun w0 v1 S => w0 = v0 → KO_M v0 S0 S → P_X11_readAll_2 (fun T => Q T ∧ KO_M v0 S0 T) w0 v1 S) (fun w0 v1 S hB e K => by
  subst e; exact fd_X11_readAll_2 (koB_X11_readAll_2 hB K (fun _ _ _ hx e K => hx e K))) rfl K
set_option maxRecDepth 20000 in
set_option maxHeartbeats 1000000 in
theorem ko_X11_readAll_0 {Q : HS → Prop} {v0 : Nat} {S0 S : HS} (h : P_X11_readAll_0 Q v0 S) (K : KO_M v0 S0 S) : P_X11_readAll_0 (fun T => Q T ∧ KO_M v0 S0 T) v0 S := by
  delta P_X11_readAll_0 at h ⊢
  exact ko_X11_readAll_2 h K
theorem ko_X11_readAll {Q : HS → Prop} {v0 : Nat} {S : HS} (h : P_X11_readAll v0 Q S) : P_X11_readAll v0 (fun T => Q T ∧ KO_M v0 S T) S := ko_X11_readAll_0 h (kom_rf _ S)
set_option maxRecDepth 20000 in
set_option maxHeartbeats 1000000 in
theorem kv_X11_road_22 {Q : Int32 → HS → Prop} {v0 : Nat} {S0 S : HS} (h : P_X11_road_22 Q v0 S) (K : KV v0 S0 S) : P_X11_road_22 (fun r T => Q r T ∧ KV v0 S0 T) v0 S := by
  delta P_X11_road_22 at h ⊢
  obtain ⟨c1, h⟩ := h
  refine ⟨c1, ?_⟩
  refine cm_X11_refused (kv_X11_refused h) h (fun x2 x3 p5 h g4 => ?_)
  have h := h g4
  have K := kv_tr K p5.2
  exact ⟨h, K⟩
set_option maxRecDepth 20000 in
set_option maxHeartbeats 1000000 in
theorem kv_X11_road_0 {Q : Int32 → HS → Prop} {v0 : Nat} {v1 : Int32} {v2 : Int32} {S0 S : HS} (h : P_X11_road_0 Q v0 v1 v2 S) (K : KV v0 S0 S) : P_X11_road_0 (fun r T => Q r T ∧ KV v0 S0 T) v0 v1 v2 S := by
  delta P_X11_road_0 at h ⊢
  obtain ⟨c1, h⟩ := h
  refine ⟨c1, ?_⟩
  intro x3 e2
  have h := h x3 e2
  have K := kv_I K e2
  refine cm_X11_isRoad (kz_X11_isRoad h) h (fun x4 x5 p8 h g6 g7 => ?_)
  have h := h g6 g7
  have K := kv_Z K p8.2
  refine ⟨?_, ?_⟩
  · intro c9
    have h := h.1 c9
    exact kv_X11_road_22 h K
  · intro c10
    have h := h.2 c10
    refine cm_X11_in (kz_X11_in h) h (fun x11 x12 p15 h g13 g14 => ?_)
    have h := h g13 g14
    have K := kv_Z K p15.2
    refine ⟨?_, ?_⟩
    · intro c16
      have h := h.1 c16
      refine ⟨?_, ?_, ?_, ?_, ?_⟩
      · intro c17
        have h := h.1 c17
        obtain ⟨b18, e19, h⟩ := h
        refine ⟨b18, e19, ?_⟩
        obtain ⟨c20, h⟩ := h
        refine ⟨c20, ?_⟩
        obtain ⟨b21, e22, h⟩ := h
        refine ⟨b21, e22, ?_⟩
        obtain ⟨c23, h⟩ := h
        refine ⟨c23, ?_⟩
        obtain ⟨c24, h⟩ := h
        refine ⟨c24, ?_⟩
        intro x26 e25
        have h := h x26 e25
        refine cm_X11_good (kv_X11_good h) h (fun x27 x28 p30 h g29 => ?_)
        have h := h g29
        have K := kv_tr K p30.2
        exact ⟨h, K⟩
      · intro c31
        have h := h.2.1 c31
        obtain ⟨b32, e33, h⟩ := h
        refine ⟨b32, e33, ?_⟩
        obtain ⟨c34, h⟩ := h
        refine ⟨c34, ?_⟩
        obtain ⟨b35, e36, h⟩ := h
        refine ⟨b35, e36, ?_⟩
        obtain ⟨c37, h⟩ := h
        refine ⟨c37, ?_⟩
        obtain ⟨c38, h⟩ := h
        refine ⟨c38, ?_⟩
        intro x40 e39
        have h := h x40 e39
        refine cm_X11_good (kv_X11_good h) h (fun x41 x42 p44 h g43 => ?_)
        have h := h g43
        have K := kv_tr K p44.2
        exact ⟨h, K⟩
      · intro c45
        have h := h.2.2.1 c45
        obtain ⟨b46, e47, h⟩ := h
        refine ⟨b46, e47, ?_⟩
        obtain ⟨c48, h⟩ := h
        refine ⟨c48, ?_⟩
        obtain ⟨b49, e50, h⟩ := h
        refine ⟨b49, e50, ?_⟩
        obtain ⟨c51, h⟩ := h
        refine ⟨c51, ?_⟩
        obtain ⟨c52, h⟩ := h
        refine ⟨c52, ?_⟩
        intro x54 e53
        have h := h x54 e53
        refine cm_X11_good (kv_X11_good h) h (fun x55 x56 p58 h g57 => ?_)
        have h := h g57
        have K := kv_tr K p58.2
        exact ⟨h, K⟩
      · intro c59
        have h := h.2.2.2.1 c59
        obtain ⟨b60, e61, h⟩ := h
        refine ⟨b60, e61, ?_⟩
        obtain ⟨c62, h⟩ := h
        refine ⟨c62, ?_⟩
        obtain ⟨b63, e64, h⟩ := h
        refine ⟨b63, e64, ?_⟩
        obtain ⟨c65, h⟩ := h
        refine ⟨c65, ?_⟩
        obtain ⟨c66, h⟩ := h
        refine ⟨c66, ?_⟩
        intro x68 e67
        have h := h x68 e67
        refine cm_X11_good (kv_X11_good h) h (fun x69 x70 p72 h g71 => ?_)
        have h := h g71
        have K := kv_tr K p72.2
        exact ⟨h, K⟩
      · intro c73
        have h := h.2.2.2.2 c73
        obtain ⟨b74, e75, h⟩ := h
        refine ⟨b74, e75, ?_⟩
        obtain ⟨c76, h⟩ := h
        refine ⟨c76, ?_⟩
        obtain ⟨b77, e78, h⟩ := h
        refine ⟨b77, e78, ?_⟩
        obtain ⟨c79, h⟩ := h
        refine ⟨c79, ?_⟩
        obtain ⟨c80, h⟩ := h
        refine ⟨c80, ?_⟩
        intro x82 e81
        have h := h x82 e81
        refine cm_X11_good (kv_X11_good h) h (fun x83 x84 p86 h g85 => ?_)
        have h := h g85
        have K := kv_tr K p86.2
        exact ⟨h, K⟩
    · intro c87
      have h := h.2 c87
      exact kv_X11_road_22 h K
theorem kv_X11_road {Q : Int32 → HS → Prop} {v0 : Nat} {v1 : Int32} {v2 : Int32} {S : HS} (h : P_X11_road v0 v1 v2 Q S) : P_X11_road v0 v1 v2 (fun r T => Q r T ∧ KV v0 S T) S := kv_X11_road_0 h (kv_rf _ S)
set_option maxRecDepth 20000 in
set_option maxHeartbeats 1000000 in
theorem kv_X11_round_29 {Q : Int64 → HS → Prop} {v0 : Nat} {S0 S : HS} (h : P_X11_round_29 Q v0 S) (K : KV v0 S0 S) : P_X11_round_29 (fun r T => Q r T ∧ KV v0 S0 T) v0 S := by
  delta P_X11_round_29 at h ⊢
  obtain ⟨c1, h⟩ := h
  refine ⟨c1, ?_⟩
  refine cm_X11_refused (kv_X11_refused h) h (fun x2 x3 p5 h g4 => ?_)
  have h := h g4
  have K := kv_tr K p5.2
  exact ⟨h, K⟩
set_option maxRecDepth 20000 in
set_option maxHeartbeats 1000000 in
theorem kv_X11_round_0 {Q : Int64 → HS → Prop} {v0 : Nat} {v1 : Int32} {v2 : Int32} {v3 : Int32} {v4 : Int32} {S0 S : HS} (h : P_X11_round_0 Q v0 v1 v2 v3 v4 S) (K : KV v0 S0 S) : P_X11_round_0 (fun r T => Q r T ∧ KV v0 S0 T) v0 v1 v2 v3 v4 S := by
  delta P_X11_round_0 at h ⊢
  obtain ⟨c1, h⟩ := h
  refine ⟨c1, ?_⟩
  intro x3 e2
  have h := h x3 e2
  have K := kv_I K e2
  refine cm_X11_isWalker (kz_X11_isWalker h) h (fun x4 x5 p8 h g6 g7 => ?_)
  have h := h g6 g7
  have K := kv_Z K p8.2
  refine ⟨?_, ?_⟩
  · intro c9
    have h := h.1 c9
    exact kv_X11_round_29 h K
  · intro c10
    have h := h.2 c10
    refine cm_X11_isRoad (kz_X11_isRoad h) h (fun x11 x12 p15 h g13 g14 => ?_)
    have h := h g13 g14
    have K := kv_Z K p15.2
    refine ⟨?_, ?_⟩
    · intro c16
      have h := h.1 c16
      exact kv_X11_round_29 h K
    · intro c17
      have h := h.2 c17
      refine cm_X11_isHour (kz_X11_isHour h) h (fun x18 x19 p22 h g20 g21 => ?_)
      have h := h g20 g21
      have K := kv_Z K p22.2
      refine ⟨?_, ?_⟩
      · intro c23
        have h := h.1 c23
        refine cm_X11_wetAtBest (kz_X11_wetAtBest h) h (fun x24 x25 p27 h g26 => ?_)
        have h := h g26
        have K := kv_Z K p27.2
        refine cm_X11_wetAtBest (kz_X11_wetAtBest h) h (fun x28 x29 p31 h g30 => ?_)
        have h := h g30
        have K := kv_Z K p31.2
        refine cm_X11_told (kv_X11_told h) h (fun x32 x33 p35 h g34 => ?_)
        have h := h g34
        have K := kv_tr K p35.2
        exact ⟨h, K⟩
      · intro c36
        have h := h.2 c36
        exact kv_X11_round_29 h K
theorem kv_X11_round {Q : Int64 → HS → Prop} {v0 : Nat} {v1 : Int32} {v2 : Int32} {v3 : Int32} {v4 : Int32} {S : HS} (h : P_X11_round v0 v1 v2 v3 v4 Q S) : P_X11_round v0 v1 v2 v3 v4 (fun r T => Q r T ∧ KV v0 S T) S := kv_X11_round_0 h (kv_rf _ S)
set_option maxRecDepth 20000 in
set_option maxHeartbeats 1000000 in
theorem kv_X11_saves_39 {Q : Int64 → HS → Prop} {v0 : Nat} {S0 S : HS} (h : P_X11_saves_39 Q v0 S) (K : KV v0 S0 S) : P_X11_saves_39 (fun r T => Q r T ∧ KV v0 S0 T) v0 S := by
  delta P_X11_saves_39 at h ⊢
  obtain ⟨c1, h⟩ := h
  refine ⟨c1, ?_⟩
  refine cm_X11_refused (kv_X11_refused h) h (fun x2 x3 p5 h g4 => ?_)
  have h := h g4
  have K := kv_tr K p5.2
  exact ⟨h, K⟩
set_option maxRecDepth 20000 in
set_option maxHeartbeats 1000000 in
theorem kv_X11_saves_0 {Q : Int64 → HS → Prop} {v0 : Nat} {v1 : Int32} {v2 : Int32} {v3 : Int32} {v4 : Int32} {v5 : Int32} {S0 S : HS} (h : P_X11_saves_0 Q v0 v1 v2 v3 v4 v5 S) (K : KV v0 S0 S) : P_X11_saves_0 (fun r T => Q r T ∧ KV v0 S0 T) v0 v1 v2 v3 v4 v5 S := by
  delta P_X11_saves_0 at h ⊢
  obtain ⟨c1, h⟩ := h
  refine ⟨c1, ?_⟩
  intro x3 e2
  have h := h x3 e2
  have K := kv_I K e2
  refine cm_X11_isWalker (kz_X11_isWalker h) h (fun x4 x5 p8 h g6 g7 => ?_)
  have h := h g6 g7
  have K := kv_Z K p8.2
  refine ⟨?_, ?_⟩
  · intro c9
    have h := h.1 c9
    exact kv_X11_saves_39 h K
  · intro c10
    have h := h.2 c10
    refine cm_X11_isRoad (kz_X11_isRoad h) h (fun x11 x12 p15 h g13 g14 => ?_)
    have h := h g13 g14
    have K := kv_Z K p15.2
    refine ⟨?_, ?_⟩
    · intro c16
      have h := h.1 c16
      exact kv_X11_saves_39 h K
    · intro c17
      have h := h.2 c17
      refine cm_X11_in (kz_X11_in h) h (fun x18 x19 p22 h g20 g21 => ?_)
      have h := h g20 g21
      have K := kv_Z K p22.2
      refine ⟨?_, ?_⟩
      · intro c23
        have h := h.1 c23
        exact kv_X11_saves_39 h K
      · intro c24
        have h := h.2 c24
        refine cm_X11_isHour (kz_X11_isHour h) h (fun x25 x26 p29 h g27 g28 => ?_)
        have h := h g27 g28
        have K := kv_Z K p29.2
        refine ⟨?_, ?_⟩
        · intro c30
          have h := h.1 c30
          obtain ⟨b31, e32, h⟩ := h
          refine ⟨b31, e32, ?_⟩
          obtain ⟨c33, h⟩ := h
          refine ⟨c33, ?_⟩
          obtain ⟨b34, e35, h⟩ := h
          refine ⟨b34, e35, ?_⟩
          obtain ⟨c36, h⟩ := h
          refine ⟨c36, ?_⟩
          obtain ⟨c37, h⟩ := h
          refine ⟨c37, ?_⟩
          intro x39 e38
          have h := h x39 e38
          refine cm_X11_wetOf (kz_X11_wetOf h) h (fun x40 x41 p43 h g42 => ?_)
          have h := h g42
          have K := kv_Z K p43.2
          refine cm_X11_bestOf (kz_X11_bestOf h) h (fun x44 x45 p47 h g46 => ?_)
          have h := h g46
          have K := kv_Z K p47.2
          refine cm_X11_wetOf (kz_X11_wetOf h) h (fun x48 x49 p51 h g50 => ?_)
          have h := h g50
          have K := kv_Z K p51.2
          refine cm_X11_told (kv_X11_told h) h (fun x52 x53 p55 h g54 => ?_)
          have h := h g54
          have K := kv_tr K p55.2
          exact ⟨h, K⟩
        · intro c56
          have h := h.2 c56
          exact kv_X11_saves_39 h K
theorem kv_X11_saves {Q : Int64 → HS → Prop} {v0 : Nat} {v1 : Int32} {v2 : Int32} {v3 : Int32} {v4 : Int32} {v5 : Int32} {S : HS} (h : P_X11_saves v0 v1 v2 v3 v4 v5 Q S) : P_X11_saves v0 v1 v2 v3 v4 v5 (fun r T => Q r T ∧ KV v0 S T) S := kv_X11_saves_0 h (kv_rf _ S)
set_option maxRecDepth 20000 in
set_option maxHeartbeats 1000000 in
theorem kv_X11_size_0 {Q : Int32 → HS → Prop} {v0 : Nat} {v1 : Int32} {S0 S : HS} (h : P_X11_size_0 Q v0 v1 S) (K : KV v0 S0 S) : P_X11_size_0 (fun r T => Q r T ∧ KV v0 S0 T) v0 v1 S := by
  delta P_X11_size_0 at h ⊢
  obtain ⟨c1, h⟩ := h
  refine ⟨c1, ?_⟩
  intro x3 e2
  have h := h x3 e2
  have K := kv_I K e2
  refine ⟨?_, ?_⟩
  · intro c4
    have h := h.1 c4
    refine cm_X11_in (kz_X11_in h) h (fun x5 x6 p9 h g7 g8 => ?_)
    have h := h g7 g8
    have K := kv_Z K p9.2
    refine ⟨?_, ?_⟩
    · intro c10
      have h := h.1 c10
      refine ⟨?_, ?_⟩
      · intro c11
        have h := h.1 c11
        exact ⟨h, K⟩
      · intro x12 c13
        have h := h.2 x12 c13
        refine ⟨?_, ?_, ?_, ?_, ?_, ?_, ?_, ?_, ?_, ?_, ?_⟩
        · intro c14
          have h := h.1 c14
          intro x16 e15
          have h := h x16 e15
          exact ⟨h, K⟩
        · intro c17
          have h := h.2.1 c17
          obtain ⟨b18, e19, h⟩ := h
          refine ⟨b18, e19, ?_⟩
          obtain ⟨c20, h⟩ := h
          refine ⟨c20, ?_⟩
          intro x22 e21
          have h := h x22 e21
          exact ⟨h, K⟩
        · intro c23
          have h := h.2.2.1 c23
          obtain ⟨b24, e25, h⟩ := h
          refine ⟨b24, e25, ?_⟩
          obtain ⟨c26, h⟩ := h
          refine ⟨c26, ?_⟩
          intro x28 e27
          have h := h x28 e27
          exact ⟨h, K⟩
        · intro c29
          have h := h.2.2.2.1 c29
          obtain ⟨b30, e31, h⟩ := h
          refine ⟨b30, e31, ?_⟩
          obtain ⟨c32, h⟩ := h
          refine ⟨c32, ?_⟩
          intro x34 e33
          have h := h x34 e33
          exact ⟨h, K⟩
        · intro c35
          have h := h.2.2.2.2.1 c35
          obtain ⟨b36, e37, h⟩ := h
          refine ⟨b36, e37, ?_⟩
          obtain ⟨c38, h⟩ := h
          refine ⟨c38, ?_⟩
          intro x40 e39
          have h := h x40 e39
          exact ⟨h, K⟩
        · intro c41
          have h := h.2.2.2.2.2.1 c41
          obtain ⟨b42, e43, h⟩ := h
          refine ⟨b42, e43, ?_⟩
          obtain ⟨c44, h⟩ := h
          refine ⟨c44, ?_⟩
          intro x46 e45
          have h := h x46 e45
          exact ⟨h, K⟩
        · intro c47
          have h := h.2.2.2.2.2.2.1 c47
          obtain ⟨b48, e49, h⟩ := h
          refine ⟨b48, e49, ?_⟩
          obtain ⟨c50, h⟩ := h
          refine ⟨c50, ?_⟩
          intro x52 e51
          have h := h x52 e51
          exact ⟨h, K⟩
        · intro c53
          have h := h.2.2.2.2.2.2.2.1 c53
          intro x55 e54
          have h := h x55 e54
          exact ⟨h, K⟩
        · intro c56
          have h := h.2.2.2.2.2.2.2.2.1 c56
          refine cm_X11_isDay (kz_X11_isDay h) h (fun x57 x58 p61 h g59 g60 => ?_)
          have h := h g59 g60
          have K := kv_Z K p61.2
          refine ⟨?_, ?_⟩
          · intro c62
            have h := h.1 c62
            exact ⟨h, K⟩
          · intro c63
            have h := h.2 c63
            obtain ⟨b64, e65, h⟩ := h
            refine ⟨b64, e65, ?_⟩
            obtain ⟨c66, h⟩ := h
            refine ⟨c66, ?_⟩
            obtain ⟨c67, h⟩ := h
            refine ⟨c67, ?_⟩
            intro x69 e68
            have h := h x69 e68
            exact ⟨h, K⟩
        · intro c70
          have h := h.2.2.2.2.2.2.2.2.2.1 c70
          refine cm_X11_isDay (kz_X11_isDay h) h (fun x71 x72 p75 h g73 g74 => ?_)
          have h := h g73 g74
          have K := kv_Z K p75.2
          refine ⟨?_, ?_⟩
          · intro c76
            have h := h.1 c76
            exact ⟨h, K⟩
          · intro c77
            have h := h.2 c77
            obtain ⟨b78, e79, h⟩ := h
            refine ⟨b78, e79, ?_⟩
            obtain ⟨c80, h⟩ := h
            refine ⟨c80, ?_⟩
            obtain ⟨c81, h⟩ := h
            refine ⟨c81, ?_⟩
            intro x83 e82
            have h := h x83 e82
            exact ⟨h, K⟩
        · intro c84
          have h := h.2.2.2.2.2.2.2.2.2.2 c84
          intro x86 e85
          have h := h x86 e85
          exact ⟨h, K⟩
    · intro c87
      have h := h.2 c87
      exact ⟨h, K⟩
  · intro c88
    have h := h.2 c88
    intro x90 e89
    have h := h x90 e89
    exact ⟨h, K⟩
theorem kv_X11_size {Q : Int32 → HS → Prop} {v0 : Nat} {v1 : Int32} {S : HS} (h : P_X11_size v0 v1 Q S) : P_X11_size v0 v1 (fun r T => Q r T ∧ KV v0 S T) S := kv_X11_size_0 h (kv_rf _ S)
set_option maxRecDepth 20000 in
set_option maxHeartbeats 1000000 in
theorem ko_X11_soaked_57 {Q : Int32 → HS → Prop} {s0 : Nat} {s1 : Int32} {v0 : Nat} {S0 S : HS} (h : P_X11_soaked_57 Q s0 s1 S) (K : KO_M v0 S0 S) (o_s0 : OwS_M v0 S0 s0) : P_X11_soaked_57 (fun r T => Q r T ∧ KO_M v0 S0 T) s0 s1 S := by
  delta P_X11_soaked_57 at h ⊢
  obtain ⟨c1, h⟩ := h
  refine ⟨c1, ?_⟩
  refine cm_X11_good (kv_X11_good h) h (fun x2 x3 p5 h g4 => ?_)
  have h := h g4
  have K := kom_V K p5.2 o_s0
  exact ⟨h, K⟩
set_option maxRecDepth 20000 in
set_option maxHeartbeats 1000000 in
theorem ko_X11_soaked_0 {Q : Int32 → HS → Prop} {v0 : Nat} {S0 S : HS} (h : P_X11_soaked_0 Q v0 S) (K : KO_M v0 S0 S) : P_X11_soaked_0 (fun r T => Q r T ∧ KO_M v0 S0 T) v0 S := by
  delta P_X11_soaked_0 at h ⊢
  obtain ⟨c1, h⟩ := h
  refine ⟨c1, ?_⟩
  intro x3 e2
  have h := h x3 e2
  have K := kom_I K e2 owm_r
  refine cm_X11_isDay (kz_X11_isDay h) h (fun x4 x5 p8 h g6 g7 => ?_)
  have h := h g6 g7
  have K := kom_Z K p8.2
  refine ⟨?_, ?_⟩
  · intro c9
    have h := h.1 c9
    obtain ⟨b10, e11, h⟩ := h
    refine ⟨b10, e11, ?_⟩
    obtain ⟨c12, h⟩ := h
    refine ⟨c12, ?_⟩
    obtain ⟨b13, e14, h⟩ := h
    refine ⟨b13, e14, ?_⟩
    intro x16 e15
    have h := h x16 e15
    obtain ⟨c17, h⟩ := h
    refine ⟨c17, ?_⟩
    obtain ⟨c18, h⟩ := h
    refine ⟨c18, ?_⟩
    intro x20 e19
    have h := h x20 e19
    refine ⟨?_, ?_⟩
    · intro c21
      have h := h.1 c21
      refine cm_X11_gotInAll (kz_X11_gotInAll h) h (fun x22 x23 p25 h g24 => ?_)
      have h := h g24
      have K := kom_Z K p25.2
      refine cm_X11_holds (kz_X11_holds h) h (fun x26 x27 p29 h g28 => ?_)
      have h := h g28
      have K := kom_Z K p29.2
      refine ⟨?_, ?_⟩
      · intro c30
        have h := h.1 c30
        exact ko_X11_soaked_57 h K owm_r
      · intro c31
        have h := h.2 c31
        exact ko_X11_soaked_57 h K owm_r
    · intro c32
      have h := h.2 c32
      exact ko_X11_soaked_57 h K owm_r
  · intro c33
    have h := h.2 c33
    refine cm_X11_refused (kv_X11_refused h) h (fun x34 x35 p37 h g36 => ?_)
    have h := h g36
    have K := kom_V K p37.2 owm_r
    exact ⟨h, K⟩
theorem ko_X11_soaked {Q : Int32 → HS → Prop} {v0 : Nat} {S : HS} (h : P_X11_soaked v0 Q S) : P_X11_soaked v0 (fun r T => Q r T ∧ KO_M v0 S T) S := ko_X11_soaked_0 h (kom_rf _ S)
set_option maxRecDepth 20000 in
set_option maxHeartbeats 1000000 in
theorem kv_X11_stay_133 {Q : Int32 → HS → Prop} {X84 X84_2 : Nat → Int32 → Int32 → Int32 → HS → Prop} {v0 : Nat} {v1 : Int32} {v2 : Int32} {v3 : Int32} {S0 S : HS} (h : P_X11_stay_133 Q X84 v0 v1 v2 v3 S) (K : KV v0 S0 S) (hX84 : ∀ (u0 : Nat) (u1 : Int32) (u2 : Int32) (u3 : Int32) (u4 : HS), X84 u0 u1 u2 u3 u4 → u0 = v0 → KV v0 S0 u4 → X84_2 u0 u1 u2 u3 u4) : P_X11_stay_133 (fun r T => Q r T ∧ KV v0 S0 T) X84_2 v0 v1 v2 v3 S := by
  delta P_X11_stay_133 at h ⊢
  obtain ⟨c1, h⟩ := h
  refine ⟨c1, ?_⟩
  obtain ⟨b2, e3, h⟩ := h
  refine ⟨b2, e3, ?_⟩
  obtain ⟨c4, h⟩ := h
  refine ⟨c4, ?_⟩
  obtain ⟨c5, h⟩ := h
  refine ⟨c5, ?_⟩
  intro x7 e6
  have h := h x7 e6
  intro x9 e8
  have h := h x9 e8
  obtain ⟨c10, h⟩ := h
  refine ⟨c10, ?_⟩
  intro x12 e11
  have h := h x12 e11
  have K := kv_J K e11
  intro x14 e13
  have h := h x14 e13
  exact hX84 _ _ _ _ _ h rfl K
set_option maxRecDepth 20000 in
set_option maxHeartbeats 1000000 in
theorem kvB_X11_stay_84 {Q : Int32 → HS → Prop} {X84 X84_2 : Nat → Int32 → Int32 → Int32 → HS → Prop} {v0 : Nat} {v1 : Int32} {v2 : Int32} {v3 : Int32} {S0 S : HS} (h : B_X11_stay_84 Q X84 v0 v1 v2 v3 S) (K : KV v0 S0 S) (hX84 : ∀ (u0 : Nat) (u1 : Int32) (u2 : Int32) (u3 : Int32) (u4 : HS), X84 u0 u1 u2 u3 u4 → u0 = v0 → KV v0 S0 u4 → X84_2 u0 u1 u2 u3 u4) : B_X11_stay_84 (fun r T => Q r T ∧ KV v0 S0 T) X84_2 v0 v1 v2 v3 S := by
  delta B_X11_stay_84 at h ⊢
  refine ⟨?_, ?_⟩
  · intro c1
    have h := h.1 c1
    obtain ⟨c2, h⟩ := h
    refine ⟨c2, ?_⟩
    refine cm_X11_granted (kv_X11_granted h) h (fun x3 x4 p7 h g5 g6 => ?_)
    have h := h g5 g6
    have K := kv_tr K p7.2
    obtain ⟨c8, h⟩ := h
    refine ⟨c8, ?_⟩
    exact ⟨h, K⟩
  · intro c9
    have h := h.2 c9
    obtain ⟨c10, h⟩ := h
    refine ⟨c10, ?_⟩
    obtain ⟨b11, e12, h⟩ := h
    refine ⟨b11, e12, ?_⟩
    obtain ⟨c13, h⟩ := h
    refine ⟨c13, ?_⟩
    obtain ⟨b14, e15, h⟩ := h
    refine ⟨b14, e15, ?_⟩
    obtain ⟨c16, h⟩ := h
    refine ⟨c16, ?_⟩
    obtain ⟨c17, h⟩ := h
    refine ⟨c17, ?_⟩
    intro x19 e18
    have h := h x19 e18
    refine ⟨?_, ?_⟩
    · intro c20
      have h := h.1 c20
      exact kv_X11_stay_133 h K hX84
    · intro c21
      have h := h.2 c21
      obtain ⟨b22, e23, h⟩ := h
      refine ⟨b22, e23, ?_⟩
      obtain ⟨c24, h⟩ := h
      refine ⟨c24, ?_⟩
      obtain ⟨c25, h⟩ := h
      refine ⟨c25, ?_⟩
      intro x27 e26
      have h := h x27 e26
      refine cm_X11_rainsIn (kz_X11_rainsIn h) h (fun x28 x29 p32 h g30 g31 => ?_)
      have h := h g30 g31
      have K := kv_Z K p32.2
      refine ⟨?_, ?_⟩
      · intro c33
        have h := h.1 c33
        exact kv_X11_stay_133 h K hX84
      · intro c34
        have h := h.2 c34
        obtain ⟨b35, e36, h⟩ := h
        refine ⟨b35, e36, ?_⟩
        obtain ⟨c37, h⟩ := h
        refine ⟨c37, ?_⟩
        obtain ⟨c38, h⟩ := h
        refine ⟨c38, ?_⟩
        intro x40 e39
        have h := h x40 e39
        intro x42 e41
        have h := h x42 e41
        refine cm_X11_drips (kz_X11_drips h) h (fun x43 x44 p46 h g45 => ?_)
        have h := h g45
        have K := kv_Z K p46.2
        intro x48 e47
        have h := h x48 e47
        obtain ⟨c49, h⟩ := h
        refine ⟨c49, ?_⟩
        intro x51 e50
        have h := h x51 e50
        have K := kv_J K e50
        exact kv_X11_stay_133 h K hX84
theorem kv_X11_stay_84 {Q : Int32 → HS → Prop} {v0 : Nat} {v1 : Int32} {v2 : Int32} {v3 : Int32} {S0 S : HS} (h : P_X11_stay_84 Q v0 v1 v2 v3 S) (K : KV v0 S0 S) : P_X11_stay_84 (fun r T => Q r T ∧ KV v0 S0 T) v0 v1 v2 v3 S := h (fun w0 v1 v2 v3 S => w0 = v0 → KV v0 S0 S → P_X11_stay_84 (fun r T => Q r T ∧ KV v0 S0 T) w0 v1 v2 v3 S) (fun w0 v1 v2 v3 S hB e K => by
  subst e; exact fd_X11_stay_84 (kvB_X11_stay_84 hB K (fun _ _ _ _ _ hx e K => hx e K))) rfl K
set_option maxRecDepth 20000 in
set_option maxHeartbeats 1000000 in
theorem kv_X11_stay_0 {Q : Int32 → HS → Prop} {v0 : Nat} {v1 : Int32} {S0 S : HS} (h : P_X11_stay_0 Q v0 v1 S) (K : KV v0 S0 S) : P_X11_stay_0 (fun r T => Q r T ∧ KV v0 S0 T) v0 v1 S := by
  delta P_X11_stay_0 at h ⊢
  obtain ⟨c1, h⟩ := h
  refine ⟨c1, ?_⟩
  intro x3 e2
  have h := h x3 e2
  have K := kv_I K e2
  refine cm_X11_isDay (kz_X11_isDay h) h (fun x4 x5 p8 h g6 g7 => ?_)
  have h := h g6 g7
  have K := kv_Z K p8.2
  refine ⟨?_, ?_⟩
  · intro c9
    have h := h.1 c9
    refine cm_X11_in (kz_X11_in h) h (fun x10 x11 p14 h g12 g13 => ?_)
    have h := h g12 g13
    have K := kv_Z K p14.2
    refine ⟨?_, ?_⟩
    · intro c15
      have h := h.1 c15
      obtain ⟨b16, e17, h⟩ := h
      refine ⟨b16, e17, ?_⟩
      obtain ⟨c18, h⟩ := h
      refine ⟨c18, ?_⟩
      obtain ⟨c19, h⟩ := h
      refine ⟨c19, ?_⟩
      intro x21 e20
      have h := h x21 e20
      intro x23 e22
      have h := h x23 e22
      refine cm_X11_canWait (kz_X11_canWait h) h (fun x24 x25 p28 h g26 g27 => ?_)
      have h := h g26 g27
      have K := kv_Z K p28.2
      refine ⟨?_, ?_⟩
      · intro c29
        have h := h.1 c29
        obtain ⟨b30, e31, h⟩ := h
        refine ⟨b30, e31, ?_⟩
        obtain ⟨c32, h⟩ := h
        refine ⟨c32, ?_⟩
        obtain ⟨c33, h⟩ := h
        refine ⟨c33, ?_⟩
        intro x35 e34
        have h := h x35 e34
        refine ⟨?_, ?_⟩
        · intro c36
          have h := h.1 c36
          refine cm_X11_keeps (kv_X11_keeps h) h (fun x37 p39 h g38 => ?_)
          have h := h g38
          have K := kv_tr K p39.2
          exact kv_X11_stay_84 h K
        · intro c40
          have h := h.2 c40
          refine cm_X11_denied (kv_X11_denied h) h (fun x41 x42 p45 h g43 g44 => ?_)
          have h := h g43 g44
          have K := kv_tr K p45.2
          obtain ⟨c46, h⟩ := h
          refine ⟨c46, ?_⟩
          exact ⟨h, K⟩
      · intro c47
        have h := h.2 c47
        refine cm_X11_denied (kv_X11_denied h) h (fun x48 x49 p52 h g50 g51 => ?_)
        have h := h g50 g51
        have K := kv_tr K p52.2
        obtain ⟨c53, h⟩ := h
        refine ⟨c53, ?_⟩
        exact ⟨h, K⟩
    · intro c54
      have h := h.2 c54
      refine cm_X11_denied (kv_X11_denied h) h (fun x55 x56 p59 h g57 g58 => ?_)
      have h := h g57 g58
      have K := kv_tr K p59.2
      obtain ⟨c60, h⟩ := h
      refine ⟨c60, ?_⟩
      exact ⟨h, K⟩
  · intro c61
    have h := h.2 c61
    refine cm_X11_denied (kv_X11_denied h) h (fun x62 x63 p66 h g64 g65 => ?_)
    have h := h g64 g65
    have K := kv_tr K p66.2
    obtain ⟨c67, h⟩ := h
    refine ⟨c67, ?_⟩
    exact ⟨h, K⟩
theorem kv_X11_stay {Q : Int32 → HS → Prop} {v0 : Nat} {v1 : Int32} {S : HS} (h : P_X11_stay v0 v1 Q S) : P_X11_stay v0 v1 (fun r T => Q r T ∧ KV v0 S T) S := kv_X11_stay_0 h (kv_rf _ S)
set_option maxRecDepth 20000 in
set_option maxHeartbeats 1000000 in
theorem kz_X11_stepOf_117 {Q : Int32 → HS → Prop} {X9 X9_2 : Nat → Int32 → Int32 → Int32 → Int32 → HS → Prop} {v0 : Nat} {v4 : Int32} {v6 : Int32} {v7 : Int32} {s0 : Int32} {S0 S : HS} (h : P_X11_stepOf_117 Q X9 v0 v4 v6 v7 s0 S) (K : KZ S0 S) (hX9 : ∀ (u0 : Nat) (u1 : Int32) (u2 : Int32) (u3 : Int32) (u4 : Int32) (u5 : HS), X9 u0 u1 u2 u3 u4 u5 → KZ S0 u5 → X9_2 u0 u1 u2 u3 u4 u5) : P_X11_stepOf_117 (fun r T => Q r T ∧ KZ S0 T) X9_2 v0 v4 v6 v7 s0 S := by
  delta P_X11_stepOf_117 at h ⊢
  exact hX9 _ _ _ _ _ _ h K
set_option maxRecDepth 20000 in
set_option maxHeartbeats 1000000 in
theorem kz_X11_stepOf_82 {Q : Int32 → HS → Prop} {X9 X9_2 : Nat → Int32 → Int32 → Int32 → Int32 → HS → Prop} {v0 : Nat} {v4 : Int32} {v5 : Int32} {v7 : Int32} {v8 : Int32} {s0 : Int32} {s1 : Int32} {S0 S : HS} (h : P_X11_stepOf_82 Q X9 v0 v4 v5 v7 v8 s0 s1 S) (K : KZ S0 S) (hX9 : ∀ (u0 : Nat) (u1 : Int32) (u2 : Int32) (u3 : Int32) (u4 : Int32) (u5 : HS), X9 u0 u1 u2 u3 u4 u5 → KZ S0 u5 → X9_2 u0 u1 u2 u3 u4 u5) : P_X11_stepOf_82 (fun r T => Q r T ∧ KZ S0 T) X9_2 v0 v4 v5 v7 v8 s0 s1 S := by
  delta P_X11_stepOf_82 at h ⊢
  intro x2 e1
  have h := h x2 e1
  refine ⟨?_, ?_⟩
  · intro c3
    have h := h.1 c3
    obtain ⟨c4, h⟩ := h
    refine ⟨c4, ?_⟩
    obtain ⟨b5, e6, h⟩ := h
    refine ⟨b5, e6, ?_⟩
    intro x8 e7
    have h := h x8 e7
    intro x10 e9
    have h := h x10 e9
    intro x12 e11
    have h := h x12 e11
    obtain ⟨c13, h⟩ := h
    refine ⟨c13, ?_⟩
    refine cm_X10_ends (kz_X10_ends h) h (fun x14 x15 p17 h g16 => ?_)
    have h := h g16
    have K := kz_Z K p17.2
    exact kz_X11_stepOf_117 h K hX9
  · intro c18
    have h := h.2 c18
    exact kz_X11_stepOf_117 h K hX9
set_option maxRecDepth 20000 in
set_option maxHeartbeats 1000000 in
theorem kzB_X11_stepOf_9 {Q : Int32 → HS → Prop} {X9 X9_2 : Nat → Int32 → Int32 → Int32 → Int32 → HS → Prop} {v0 : Nat} {v4 : Int32} {v5 : Int32} {v6 : Int32} {v7 : Int32} {S0 S : HS} (h : B_X11_stepOf_9 Q X9 v0 v4 v5 v6 v7 S) (K : KZ S0 S) (hX9 : ∀ (u0 : Nat) (u1 : Int32) (u2 : Int32) (u3 : Int32) (u4 : Int32) (u5 : HS), X9 u0 u1 u2 u3 u4 u5 → KZ S0 u5 → X9_2 u0 u1 u2 u3 u4 u5) : B_X11_stepOf_9 (fun r T => Q r T ∧ KZ S0 T) X9_2 v0 v4 v5 v6 v7 S := by
  delta B_X11_stepOf_9 at h ⊢
  obtain ⟨c1, h⟩ := h
  refine ⟨c1, ?_⟩
  obtain ⟨b2, e3, h⟩ := h
  refine ⟨b2, e3, ?_⟩
  refine cm_X11_spotOf (kz_X11_spotOf h) h (fun x4 x5 p7 h g6 => ?_)
  have h := h g6
  have K := kz_Z K p7.2
  obtain ⟨c8, h⟩ := h
  refine ⟨c8, ?_⟩
  obtain ⟨c9, h⟩ := h
  refine ⟨c9, ?_⟩
  intro x11 e10
  have h := h x11 e10
  refine ⟨?_, ?_⟩
  · intro c12
    have h := h.1 c12
    refine ⟨?_, ?_⟩
    · intro c13
      have h := h.1 c13
      exact ⟨h, K⟩
    · intro c14
      have h := h.2 c14
      exact ⟨h, K⟩
  · intro c15
    have h := h.2 c15
    obtain ⟨b16, e17, h⟩ := h
    refine ⟨b16, e17, ?_⟩
    refine cm_X11_spotOf (kz_X11_spotOf h) h (fun x18 x19 p21 h g20 => ?_)
    have h := h g20
    have K := kz_Z K p21.2
    obtain ⟨c22, h⟩ := h
    refine ⟨c22, ?_⟩
    obtain ⟨c23, h⟩ := h
    refine ⟨c23, ?_⟩
    intro x25 e24
    have h := h x25 e24
    refine ⟨?_, ?_⟩
    · intro c26
      have h := h.1 c26
      intro x28 e27
      have h := h x28 e27
      refine ⟨?_, ?_⟩
      · intro c29
        have h := h.1 c29
        obtain ⟨b30, e31, h⟩ := h
        refine ⟨b30, e31, ?_⟩
        intro x33 e32
        have h := h x33 e32
        intro x35 e34
        have h := h x35 e34
        obtain ⟨c36, h⟩ := h
        refine ⟨c36, ?_⟩
        refine cm_X10_minutes (kz_X10_minutes h) h (fun x37 x38 p40 h g39 => ?_)
        have h := h g39
        have K := kz_Z K p40.2
        exact kz_X11_stepOf_82 h K hX9
      · intro c41
        have h := h.2 c41
        exact kz_X11_stepOf_82 h K hX9
    · intro c42
      have h := h.2 c42
      exact ⟨h, K⟩
theorem kz_X11_stepOf_9 {Q : Int32 → HS → Prop} {v0 : Nat} {v4 : Int32} {v5 : Int32} {v6 : Int32} {v7 : Int32} {S0 S : HS} (h : P_X11_stepOf_9 Q v0 v4 v5 v6 v7 S) (K : KZ S0 S) : P_X11_stepOf_9 (fun r T => Q r T ∧ KZ S0 T) v0 v4 v5 v6 v7 S := h (fun w0 v4 v5 v6 v7 S => KZ S0 S → P_X11_stepOf_9 (fun r T => Q r T ∧ KZ S0 T) w0 v4 v5 v6 v7 S) (fun w0 v4 v5 v6 v7 S hB K => by
  exact fd_X11_stepOf_9 (kzB_X11_stepOf_9 hB K (fun _ _ _ _ _ _ hx K => hx K))) K
set_option maxRecDepth 20000 in
set_option maxHeartbeats 1000000 in
theorem kz_X11_stepOf_0 {Q : Int32 → HS → Prop} {v0 : Nat} {v2 : Int32} {v3 : Int32} {v4 : Int32} {S0 S : HS} (h : P_X11_stepOf_0 Q v0 v2 v3 v4 S) (K : KZ S0 S) : P_X11_stepOf_0 (fun r T => Q r T ∧ KZ S0 T) v0 v2 v3 v4 S := by
  delta P_X11_stepOf_0 at h ⊢
  exact kz_X11_stepOf_9 h K
theorem kz_X11_stepOf {Q : Int32 → HS → Prop} {v0 : Nat} {v1 : Int32} {v2 : Int32} {v3 : Int32} {v4 : Int32} {S : HS} (h : P_X11_stepOf v0 v1 v2 v3 v4 Q S) : P_X11_stepOf v0 v1 v2 v3 v4 (fun r T => Q r T ∧ KZ S T) S := kz_X11_stepOf_0 h (kz_rf S)
set_option maxRecDepth 20000 in
set_option maxHeartbeats 1000000 in
theorem kv_X11_trouble_0 {Q : Int32 → HS → Prop} {v0 : Nat} {S0 S : HS} (h : P_X11_trouble_0 Q v0 S) (K : KV v0 S0 S) : P_X11_trouble_0 (fun r T => Q r T ∧ KV v0 S0 T) v0 S := by
  delta P_X11_trouble_0 at h ⊢
  obtain ⟨c1, h⟩ := h
  refine ⟨c1, ?_⟩
  intro x3 e2
  have h := h x3 e2
  have K := kv_I K e2
  intro x5 e4
  have h := h x5 e4
  exact ⟨h, K⟩
theorem kv_X11_trouble {Q : Int32 → HS → Prop} {v0 : Nat} {S : HS} (h : P_X11_trouble v0 Q S) : P_X11_trouble v0 (fun r T => Q r T ∧ KV v0 S T) S := kv_X11_trouble_0 h (kv_rf _ S)
set_option maxRecDepth 20000 in
set_option maxHeartbeats 1000000 in
theorem kv_X11_undo_19 {Q : Int32 → HS → Prop} {v0 : Nat} {S0 S : HS} (h : P_X11_undo_19 Q v0 S) (K : KV v0 S0 S) : P_X11_undo_19 (fun r T => Q r T ∧ KV v0 S0 T) v0 S := by
  delta P_X11_undo_19 at h ⊢
  obtain ⟨c1, h⟩ := h
  refine ⟨c1, ?_⟩
  refine cm_X11_denied (kv_X11_denied h) h (fun x2 x3 p6 h g4 g5 => ?_)
  have h := h g4 g5
  have K := kv_tr K p6.2
  obtain ⟨c7, h⟩ := h
  refine ⟨c7, ?_⟩
  exact ⟨h, K⟩
set_option maxRecDepth 20000 in
set_option maxHeartbeats 1000000 in
theorem kvB_X11_undo_38 {Q : Int32 → HS → Prop} {X38 X38_2 : Nat → Int32 → HS → Prop} {v0 : Nat} {v1 : Int32} {S0 S : HS} (h : B_X11_undo_38 Q X38 v0 v1 S) (K : KV v0 S0 S) (hX38 : ∀ (u0 : Nat) (u1 : Int32) (u2 : HS), X38 u0 u1 u2 → u0 = v0 → KV v0 S0 u2 → X38_2 u0 u1 u2) : B_X11_undo_38 (fun r T => Q r T ∧ KV v0 S0 T) X38_2 v0 v1 S := by
  delta B_X11_undo_38 at h ⊢
  refine ⟨?_, ?_⟩
  · intro c1
    have h := h.1 c1
    obtain ⟨c2, h⟩ := h
    refine ⟨c2, ?_⟩
    refine cm_X11_granted (kv_X11_granted h) h (fun x3 x4 p7 h g5 g6 => ?_)
    have h := h g5 g6
    have K := kv_tr K p7.2
    obtain ⟨c8, h⟩ := h
    refine ⟨c8, ?_⟩
    exact ⟨h, K⟩
  · intro c9
    have h := h.2 c9
    obtain ⟨c10, h⟩ := h
    refine ⟨c10, ?_⟩
    obtain ⟨b11, e12, h⟩ := h
    refine ⟨b11, e12, ?_⟩
    obtain ⟨b13, e14, h⟩ := h
    refine ⟨b13, e14, ?_⟩
    intro x16 e15
    have h := h x16 e15
    obtain ⟨c17, h⟩ := h
    refine ⟨c17, ?_⟩
    intro x19 e18
    have h := h x19 e18
    obtain ⟨c20, h⟩ := h
    refine ⟨c20, ?_⟩
    intro x22 e21
    have h := h x22 e21
    obtain ⟨c23, h⟩ := h
    refine ⟨c23, ?_⟩
    obtain ⟨c24, h⟩ := h
    refine ⟨c24, ?_⟩
    intro x26 e25
    have h := h x26 e25
    have K := kv_J K e25
    intro x28 e27
    have h := h x28 e27
    exact hX38 _ _ _ h rfl K
theorem kv_X11_undo_38 {Q : Int32 → HS → Prop} {v0 : Nat} {v1 : Int32} {S0 S : HS} (h : P_X11_undo_38 Q v0 v1 S) (K : KV v0 S0 S) : P_X11_undo_38 (fun r T => Q r T ∧ KV v0 S0 T) v0 v1 S := h (fun w0 v1 S => w0 = v0 → KV v0 S0 S → P_X11_undo_38 (fun r T => Q r T ∧ KV v0 S0 T) w0 v1 S) (fun w0 v1 S hB e K => by
  subst e; exact fd_X11_undo_38 (kvB_X11_undo_38 hB K (fun _ _ _ hx e K => hx e K))) rfl K
set_option maxRecDepth 20000 in
set_option maxHeartbeats 1000000 in
theorem kv_X11_undo_0 {Q : Int32 → HS → Prop} {v0 : Nat} {S0 S : HS} (h : P_X11_undo_0 Q v0 S) (K : KV v0 S0 S) : P_X11_undo_0 (fun r T => Q r T ∧ KV v0 S0 T) v0 S := by
  delta P_X11_undo_0 at h ⊢
  obtain ⟨c1, h⟩ := h
  refine ⟨c1, ?_⟩
  intro x3 e2
  have h := h x3 e2
  have K := kv_I K e2
  refine cm_X11_isDay (kz_X11_isDay h) h (fun x4 x5 p8 h g6 g7 => ?_)
  have h := h g6 g7
  have K := kv_Z K p8.2
  refine ⟨?_, ?_⟩
  · intro c9
    have h := h.1 c9
    exact kv_X11_undo_19 h K
  · intro c10
    have h := h.2 c10
    intro x12 e11
    have h := h x12 e11
    refine ⟨?_, ?_⟩
    · intro c13
      have h := h.1 c13
      intro x15 e14
      have h := h x15 e14
      intro x17 e16
      have h := h x17 e16
      intro x19 e18
      have h := h x19 e18
      have K := kv_I K e18
      exact kv_X11_undo_38 h K
    · intro c20
      have h := h.2 c20
      exact kv_X11_undo_19 h K
theorem kv_X11_undo {Q : Int32 → HS → Prop} {v0 : Nat} {S : HS} (h : P_X11_undo v0 Q S) : P_X11_undo v0 (fun r T => Q r T ∧ KV v0 S T) S := kv_X11_undo_0 h (kv_rf _ S)
set_option maxRecDepth 20000 in
set_option maxHeartbeats 1000000 in
theorem kv_X11_walker_23 {Q : Int32 → HS → Prop} {v0 : Nat} {S0 S : HS} (h : P_X11_walker_23 Q v0 S) (K : KV v0 S0 S) : P_X11_walker_23 (fun r T => Q r T ∧ KV v0 S0 T) v0 S := by
  delta P_X11_walker_23 at h ⊢
  obtain ⟨c1, h⟩ := h
  refine ⟨c1, ?_⟩
  refine cm_X11_refused (kv_X11_refused h) h (fun x2 x3 p5 h g4 => ?_)
  have h := h g4
  have K := kv_tr K p5.2
  exact ⟨h, K⟩
set_option maxRecDepth 20000 in
set_option maxHeartbeats 1000000 in
theorem kv_X11_walker_0 {Q : Int32 → HS → Prop} {v0 : Nat} {v1 : Int32} {v2 : Int32} {S0 S : HS} (h : P_X11_walker_0 Q v0 v1 v2 S) (K : KV v0 S0 S) : P_X11_walker_0 (fun r T => Q r T ∧ KV v0 S0 T) v0 v1 v2 S := by
  delta P_X11_walker_0 at h ⊢
  obtain ⟨c1, h⟩ := h
  refine ⟨c1, ?_⟩
  intro x3 e2
  have h := h x3 e2
  have K := kv_I K e2
  refine cm_X11_isWalker (kz_X11_isWalker h) h (fun x4 x5 p8 h g6 g7 => ?_)
  have h := h g6 g7
  have K := kv_Z K p8.2
  refine ⟨?_, ?_⟩
  · intro c9
    have h := h.1 c9
    exact kv_X11_walker_23 h K
  · intro c10
    have h := h.2 c10
    refine cm_X11_in (kz_X11_in h) h (fun x11 x12 p15 h g13 g14 => ?_)
    have h := h g13 g14
    have K := kv_Z K p15.2
    refine ⟨?_, ?_⟩
    · intro c16
      have h := h.1 c16
      refine ⟨?_, ?_, ?_, ?_, ?_, ?_, ?_⟩
      · intro c17
        have h := h.1 c17
        obtain ⟨b18, e19, h⟩ := h
        refine ⟨b18, e19, ?_⟩
        obtain ⟨c20, h⟩ := h
        refine ⟨c20, ?_⟩
        obtain ⟨b21, e22, h⟩ := h
        refine ⟨b21, e22, ?_⟩
        obtain ⟨c23, h⟩ := h
        refine ⟨c23, ?_⟩
        obtain ⟨c24, h⟩ := h
        refine ⟨c24, ?_⟩
        intro x26 e25
        have h := h x26 e25
        refine cm_X11_good (kv_X11_good h) h (fun x27 x28 p30 h g29 => ?_)
        have h := h g29
        have K := kv_tr K p30.2
        exact ⟨h, K⟩
      · intro c31
        have h := h.2.1 c31
        obtain ⟨b32, e33, h⟩ := h
        refine ⟨b32, e33, ?_⟩
        obtain ⟨c34, h⟩ := h
        refine ⟨c34, ?_⟩
        obtain ⟨b35, e36, h⟩ := h
        refine ⟨b35, e36, ?_⟩
        obtain ⟨c37, h⟩ := h
        refine ⟨c37, ?_⟩
        obtain ⟨c38, h⟩ := h
        refine ⟨c38, ?_⟩
        intro x40 e39
        have h := h x40 e39
        refine cm_X11_good (kv_X11_good h) h (fun x41 x42 p44 h g43 => ?_)
        have h := h g43
        have K := kv_tr K p44.2
        exact ⟨h, K⟩
      · intro c45
        have h := h.2.2.1 c45
        obtain ⟨b46, e47, h⟩ := h
        refine ⟨b46, e47, ?_⟩
        obtain ⟨c48, h⟩ := h
        refine ⟨c48, ?_⟩
        obtain ⟨b49, e50, h⟩ := h
        refine ⟨b49, e50, ?_⟩
        obtain ⟨c51, h⟩ := h
        refine ⟨c51, ?_⟩
        obtain ⟨c52, h⟩ := h
        refine ⟨c52, ?_⟩
        intro x54 e53
        have h := h x54 e53
        refine cm_X11_good (kv_X11_good h) h (fun x55 x56 p58 h g57 => ?_)
        have h := h g57
        have K := kv_tr K p58.2
        exact ⟨h, K⟩
      · intro c59
        have h := h.2.2.2.1 c59
        obtain ⟨b60, e61, h⟩ := h
        refine ⟨b60, e61, ?_⟩
        obtain ⟨c62, h⟩ := h
        refine ⟨c62, ?_⟩
        obtain ⟨b63, e64, h⟩ := h
        refine ⟨b63, e64, ?_⟩
        obtain ⟨c65, h⟩ := h
        refine ⟨c65, ?_⟩
        obtain ⟨c66, h⟩ := h
        refine ⟨c66, ?_⟩
        intro x68 e67
        have h := h x68 e67
        refine cm_X11_good (kv_X11_good h) h (fun x69 x70 p72 h g71 => ?_)
        have h := h g71
        have K := kv_tr K p72.2
        exact ⟨h, K⟩
      · intro c73
        have h := h.2.2.2.2.1 c73
        obtain ⟨b74, e75, h⟩ := h
        refine ⟨b74, e75, ?_⟩
        obtain ⟨c76, h⟩ := h
        refine ⟨c76, ?_⟩
        obtain ⟨b77, e78, h⟩ := h
        refine ⟨b77, e78, ?_⟩
        obtain ⟨c79, h⟩ := h
        refine ⟨c79, ?_⟩
        obtain ⟨c80, h⟩ := h
        refine ⟨c80, ?_⟩
        intro x82 e81
        have h := h x82 e81
        refine cm_X11_good (kv_X11_good h) h (fun x83 x84 p86 h g85 => ?_)
        have h := h g85
        have K := kv_tr K p86.2
        exact ⟨h, K⟩
      · intro c87
        have h := h.2.2.2.2.2.1 c87
        obtain ⟨b88, e89, h⟩ := h
        refine ⟨b88, e89, ?_⟩
        obtain ⟨c90, h⟩ := h
        refine ⟨c90, ?_⟩
        obtain ⟨b91, e92, h⟩ := h
        refine ⟨b91, e92, ?_⟩
        obtain ⟨c93, h⟩ := h
        refine ⟨c93, ?_⟩
        obtain ⟨c94, h⟩ := h
        refine ⟨c94, ?_⟩
        intro x96 e95
        have h := h x96 e95
        refine cm_X11_good (kv_X11_good h) h (fun x97 x98 p100 h g99 => ?_)
        have h := h g99
        have K := kv_tr K p100.2
        exact ⟨h, K⟩
      · intro c101
        have h := h.2.2.2.2.2.2 c101
        obtain ⟨b102, e103, h⟩ := h
        refine ⟨b102, e103, ?_⟩
        obtain ⟨c104, h⟩ := h
        refine ⟨c104, ?_⟩
        obtain ⟨b105, e106, h⟩ := h
        refine ⟨b105, e106, ?_⟩
        obtain ⟨c107, h⟩ := h
        refine ⟨c107, ?_⟩
        obtain ⟨c108, h⟩ := h
        refine ⟨c108, ?_⟩
        intro x110 e109
        have h := h x110 e109
        refine cm_X11_good (kv_X11_good h) h (fun x111 x112 p114 h g113 => ?_)
        have h := h g113
        have K := kv_tr K p114.2
        exact ⟨h, K⟩
    · intro c115
      have h := h.2 c115
      exact kv_X11_walker_23 h K
theorem kv_X11_walker {Q : Int32 → HS → Prop} {v0 : Nat} {v1 : Int32} {v2 : Int32} {S : HS} (h : P_X11_walker v0 v1 v2 Q S) : P_X11_walker v0 v1 v2 (fun r T => Q r T ∧ KV v0 S T) S := kv_X11_walker_0 h (kv_rf _ S)
set_option maxRecDepth 20000 in
set_option maxHeartbeats 1000000 in
theorem kv_X11_wet_0 {Q : Int64 → HS → Prop} {v0 : Nat} {v1 : Int32} {v2 : Int32} {v3 : Int32} {v4 : Int32} {v5 : Int32} {v6 : Int32} {S0 S : HS} (h : P_X11_wet_0 Q v0 v1 v2 v3 v4 v5 v6 S) (K : KV v0 S0 S) : P_X11_wet_0 (fun r T => Q r T ∧ KV v0 S0 T) v0 v1 v2 v3 v4 v5 v6 S := by
  delta P_X11_wet_0 at h ⊢
  obtain ⟨c1, h⟩ := h
  refine ⟨c1, ?_⟩
  intro x3 e2
  have h := h x3 e2
  have K := kv_I K e2
  refine cm_X11_refuses (kz_X11_refuses h) h (fun x4 x5 p7 h g6 => ?_)
  have h := h g6
  have K := kv_Z K p7.2
  refine ⟨?_, ?_⟩
  · intro c8
    have h := h.1 c8
    refine cm_X11_wetOf (kz_X11_wetOf h) h (fun x9 x10 p12 h g11 => ?_)
    have h := h g11
    have K := kv_Z K p12.2
    refine cm_X11_told (kv_X11_told h) h (fun x13 x14 p16 h g15 => ?_)
    have h := h g15
    have K := kv_tr K p16.2
    exact ⟨h, K⟩
  · intro c17
    have h := h.2 c17
    refine cm_X11_refused (kv_X11_refused h) h (fun x18 x19 p21 h g20 => ?_)
    have h := h g20
    have K := kv_tr K p21.2
    exact ⟨h, K⟩
theorem kv_X11_wet {Q : Int64 → HS → Prop} {v0 : Nat} {v1 : Int32} {v2 : Int32} {v3 : Int32} {v4 : Int32} {v5 : Int32} {v6 : Int32} {S : HS} (h : P_X11_wet v0 v1 v2 v3 v4 v5 v6 Q S) : P_X11_wet v0 v1 v2 v3 v4 v5 v6 (fun r T => Q r T ∧ KV v0 S T) S := kv_X11_wet_0 h (kv_rf _ S)
set_option maxRecDepth 20000 in
set_option maxHeartbeats 1000000 in
theorem ko_X11_wetness_41 {Q : Int64 → HS → Prop} {v1 : Int32} {s0 : Nat} {s1 : Int64} {v0 : Nat} {S0 S : HS} (h : P_X11_wetness_41 Q v1 s0 s1 S) (K : KO_M v0 S0 S) (o_s0 : OwS_M v0 S0 s0) : P_X11_wetness_41 (fun r T => Q r T ∧ KO_M v0 S0 T) v1 s0 s1 S := by
  delta P_X11_wetness_41 at h ⊢
  obtain ⟨c1, h⟩ := h
  refine ⟨c1, ?_⟩
  refine cm_X11_told (kv_X11_told h) h (fun x2 x3 p5 h g4 => ?_)
  have h := h g4
  have K := kom_V K p5.2 o_s0
  exact ⟨h, K⟩
set_option maxRecDepth 20000 in
set_option maxHeartbeats 1000000 in
theorem ko_X11_wetness_0 {Q : Int64 → HS → Prop} {v0 : Nat} {v1 : Int32} {S0 S : HS} (h : P_X11_wetness_0 Q v0 v1 S) (K : KO_M v0 S0 S) : P_X11_wetness_0 (fun r T => Q r T ∧ KO_M v0 S0 T) v0 v1 S := by
  delta P_X11_wetness_0 at h ⊢
  obtain ⟨c1, h⟩ := h
  refine ⟨c1, ?_⟩
  intro x3 e2
  have h := h x3 e2
  have K := kom_I K e2 owm_r
  refine cm_X11_isDay (kz_X11_isDay h) h (fun x4 x5 p8 h g6 g7 => ?_)
  have h := h g6 g7
  have K := kom_Z K p8.2
  refine ⟨?_, ?_⟩
  · intro c9
    have h := h.1 c9
    refine cm_X11_gotInAll (kz_X11_gotInAll h) h (fun x10 x11 p13 h g12 => ?_)
    have h := h g12
    have K := kom_Z K p13.2
    refine cm_X11_holds (kz_X11_holds h) h (fun x14 x15 p17 h g16 => ?_)
    have h := h g16
    have K := kom_Z K p17.2
    intro x19 e18
    have h := h x19 e18
    refine ⟨?_, ?_⟩
    · intro c20
      have h := h.1 c20
      exact ko_X11_wetness_41 h K owm_r
    · intro c21
      have h := h.2 c21
      exact ko_X11_wetness_41 h K owm_r
  · intro c22
    have h := h.2 c22
    refine cm_X11_refused (kv_X11_refused h) h (fun x23 x24 p26 h g25 => ?_)
    have h := h g25
    have K := kom_V K p26.2 owm_r
    exact ⟨h, K⟩
theorem ko_X11_wetness {Q : Int64 → HS → Prop} {v0 : Nat} {v1 : Int32} {S : HS} (h : P_X11_wetness v0 v1 Q S) : P_X11_wetness v0 v1 (fun r T => Q r T ∧ KO_M v0 S T) S := ko_X11_wetness_0 h (kom_rf _ S)
set_option maxRecDepth 20000 in
set_option maxHeartbeats 1000000 in
theorem kv_X11_where_0 {Q : Int32 → HS → Prop} {v0 : Nat} {S0 S : HS} (h : P_X11_where_0 Q v0 S) (K : KV v0 S0 S) : P_X11_where_0 (fun r T => Q r T ∧ KV v0 S0 T) v0 S := by
  delta P_X11_where_0 at h ⊢
  obtain ⟨c1, h⟩ := h
  refine ⟨c1, ?_⟩
  intro x3 e2
  have h := h x3 e2
  have K := kv_I K e2
  intro x5 e4
  have h := h x5 e4
  exact ⟨h, K⟩
theorem kv_X11_where {Q : Int32 → HS → Prop} {v0 : Nat} {S : HS} (h : P_X11_where v0 Q S) : P_X11_where v0 (fun r T => Q r T ∧ KV v0 S T) S := kv_X11_where_0 h (kv_rf _ S)
set_option maxRecDepth 20000 in
set_option maxHeartbeats 1000000 in
theorem ko_X11_world_17 {Q : Int32 → HS → Prop} {v0 : Nat} {S0 S : HS} (h : P_X11_world_17 Q v0 S) (K : KO_M v0 S0 S) : P_X11_world_17 (fun r T => Q r T ∧ KO_M v0 S0 T) v0 S := by
  delta P_X11_world_17 at h ⊢
  obtain ⟨c1, h⟩ := h
  refine ⟨c1, ?_⟩
  refine cm_X11_refused (kv_X11_refused h) h (fun x2 x3 p5 h g4 => ?_)
  have h := h g4
  have K := kom_V K p5.2 owm_r
  exact ⟨h, K⟩
set_option maxRecDepth 20000 in
set_option maxHeartbeats 1000000 in
theorem kv_X11_worst_39 {Q : Int32 → HS → Prop} {v0 : Nat} {S0 S : HS} (h : P_X11_worst_39 Q v0 S) (K : KV v0 S0 S) : P_X11_worst_39 (fun r T => Q r T ∧ KV v0 S0 T) v0 S := by
  delta P_X11_worst_39 at h ⊢
  obtain ⟨c1, h⟩ := h
  refine ⟨c1, ?_⟩
  refine cm_X11_refused (kv_X11_refused h) h (fun x2 x3 p5 h g4 => ?_)
  have h := h g4
  have K := kv_tr K p5.2
  exact ⟨h, K⟩
set_option maxRecDepth 20000 in
set_option maxHeartbeats 1000000 in
theorem kv_X11_worst_106 {Q : Int32 → HS → Prop} {X62 X62_2 : Nat → Int32 → Int32 → Int32 → Int32 → Int32 → Int32 → HS → Prop} {v0 : Nat} {v1 : Int32} {v2 : Int32} {v3 : Int32} {v4 : Int32} {v5 : Int32} {v6 : Int32} {S0 S : HS} (h : P_X11_worst_106 Q X62 v0 v1 v2 v3 v4 v5 v6 S) (K : KV v0 S0 S) (hX62 : ∀ (u0 : Nat) (u1 : Int32) (u2 : Int32) (u3 : Int32) (u4 : Int32) (u5 : Int32) (u6 : Int32) (u7 : HS), X62 u0 u1 u2 u3 u4 u5 u6 u7 → u0 = v0 → KV v0 S0 u7 → X62_2 u0 u1 u2 u3 u4 u5 u6 u7) : P_X11_worst_106 (fun r T => Q r T ∧ KV v0 S0 T) X62_2 v0 v1 v2 v3 v4 v5 v6 S := by
  delta P_X11_worst_106 at h ⊢
  intro x2 e1
  have h := h x2 e1
  exact hX62 _ _ _ _ _ _ _ _ h rfl K
set_option maxRecDepth 20000 in
set_option maxHeartbeats 1000000 in
theorem kvB_X11_worst_62 {Q : Int32 → HS → Prop} {X62 X62_2 : Nat → Int32 → Int32 → Int32 → Int32 → Int32 → Int32 → HS → Prop} {v0 : Nat} {v1 : Int32} {v2 : Int32} {v3 : Int32} {v4 : Int32} {v5 : Int32} {v6 : Int32} {S0 S : HS} (h : B_X11_worst_62 Q X62 v0 v1 v2 v3 v4 v5 v6 S) (K : KV v0 S0 S) (hX62 : ∀ (u0 : Nat) (u1 : Int32) (u2 : Int32) (u3 : Int32) (u4 : Int32) (u5 : Int32) (u6 : Int32) (u7 : HS), X62 u0 u1 u2 u3 u4 u5 u6 u7 → u0 = v0 → KV v0 S0 u7 → X62_2 u0 u1 u2 u3 u4 u5 u6 u7) : B_X11_worst_62 (fun r T => Q r T ∧ KV v0 S0 T) X62_2 v0 v1 v2 v3 v4 v5 v6 S := by
  delta B_X11_worst_62 at h ⊢
  obtain ⟨c1, h⟩ := h
  refine ⟨c1, ?_⟩
  obtain ⟨b2, e3, h⟩ := h
  refine ⟨b2, e3, ?_⟩
  obtain ⟨c4, h⟩ := h
  refine ⟨c4, ?_⟩
  obtain ⟨b5, e6, h⟩ := h
  refine ⟨b5, e6, ?_⟩
  obtain ⟨c7, h⟩ := h
  refine ⟨c7, ?_⟩
  obtain ⟨c8, h⟩ := h
  refine ⟨c8, ?_⟩
  intro x10 e9
  have h := h x10 e9
  refine ⟨?_, ?_⟩
  · intro c11
    have h := h.1 c11
    refine cm_X11_good (kv_X11_good h) h (fun x12 x13 p15 h g14 => ?_)
    have h := h g14
    have K := kv_tr K p15.2
    exact ⟨h, K⟩
  · intro c16
    have h := h.2 c16
    refine cm_X11_wetOf (kz_X11_wetOf h) h (fun x17 x18 p20 h g19 => ?_)
    have h := h g19
    have K := kv_Z K p20.2
    refine cm_X11_wetOf (kz_X11_wetOf h) h (fun x21 x22 p24 h g23 => ?_)
    have h := h g23
    have K := kv_Z K p24.2
    refine ⟨?_, ?_⟩
    · intro c25
      have h := h.1 c25
      exact kv_X11_worst_106 h K hX62
    · intro c26
      have h := h.2 c26
      exact kv_X11_worst_106 h K hX62
theorem kv_X11_worst_62 {Q : Int32 → HS → Prop} {v0 : Nat} {v1 : Int32} {v2 : Int32} {v3 : Int32} {v4 : Int32} {v5 : Int32} {v6 : Int32} {S0 S : HS} (h : P_X11_worst_62 Q v0 v1 v2 v3 v4 v5 v6 S) (K : KV v0 S0 S) : P_X11_worst_62 (fun r T => Q r T ∧ KV v0 S0 T) v0 v1 v2 v3 v4 v5 v6 S := h (fun w0 v1 v2 v3 v4 v5 v6 S => w0 = v0 → KV v0 S0 S → P_X11_worst_62 (fun r T => Q r T ∧ KV v0 S0 T) w0 v1 v2 v3 v4 v5 v6 S) (fun w0 v1 v2 v3 v4 v5 v6 S hB e K => by
  subst e; exact fd_X11_worst_62 (kvB_X11_worst_62 hB K (fun _ _ _ _ _ _ _ _ hx e K => hx e K))) rfl K
set_option maxRecDepth 20000 in
set_option maxHeartbeats 1000000 in
theorem kv_X11_worst_0 {Q : Int32 → HS → Prop} {v0 : Nat} {v1 : Int32} {v2 : Int32} {v3 : Int32} {v4 : Int32} {S0 S : HS} (h : P_X11_worst_0 Q v0 v1 v2 v3 v4 S) (K : KV v0 S0 S) : P_X11_worst_0 (fun r T => Q r T ∧ KV v0 S0 T) v0 v1 v2 v3 v4 S := by
  delta P_X11_worst_0 at h ⊢
  obtain ⟨c1, h⟩ := h
  refine ⟨c1, ?_⟩
  intro x3 e2
  have h := h x3 e2
  have K := kv_I K e2
  refine cm_X11_isWalker (kz_X11_isWalker h) h (fun x4 x5 p8 h g6 g7 => ?_)
  have h := h g6 g7
  have K := kv_Z K p8.2
  refine ⟨?_, ?_⟩
  · intro c9
    have h := h.1 c9
    exact kv_X11_worst_39 h K
  · intro c10
    have h := h.2 c10
    refine cm_X11_isRoad (kz_X11_isRoad h) h (fun x11 x12 p15 h g13 g14 => ?_)
    have h := h g13 g14
    have K := kv_Z K p15.2
    refine ⟨?_, ?_⟩
    · intro c16
      have h := h.1 c16
      exact kv_X11_worst_39 h K
    · intro c17
      have h := h.2 c17
      refine cm_X11_in (kz_X11_in h) h (fun x18 x19 p22 h g20 g21 => ?_)
      have h := h g20 g21
      have K := kv_Z K p22.2
      refine ⟨?_, ?_⟩
      · intro c23
        have h := h.1 c23
        exact kv_X11_worst_39 h K
      · intro c24
        have h := h.2 c24
        refine cm_X11_isHour (kz_X11_isHour h) h (fun x25 x26 p29 h g27 g28 => ?_)
        have h := h g27 g28
        have K := kv_Z K p29.2
        refine ⟨?_, ?_⟩
        · intro c30
          have h := h.1 c30
          obtain ⟨b31, e32, h⟩ := h
          refine ⟨b31, e32, ?_⟩
          obtain ⟨c33, h⟩ := h
          refine ⟨c33, ?_⟩
          obtain ⟨b34, e35, h⟩ := h
          refine ⟨b34, e35, ?_⟩
          obtain ⟨c36, h⟩ := h
          refine ⟨c36, ?_⟩
          obtain ⟨c37, h⟩ := h
          refine ⟨c37, ?_⟩
          intro x39 e38
          have h := h x39 e38
          intro x41 e40
          have h := h x41 e40
          exact kv_X11_worst_62 h K
        · intro c42
          have h := h.2 c42
          exact kv_X11_worst_39 h K
theorem kv_X11_worst {Q : Int32 → HS → Prop} {v0 : Nat} {v1 : Int32} {v2 : Int32} {v3 : Int32} {v4 : Int32} {S : HS} (h : P_X11_worst v0 v1 v2 v3 v4 Q S) : P_X11_worst v0 v1 v2 v3 v4 (fun r T => Q r T ∧ KV v0 S T) S := kv_X11_worst_0 h (kv_rf _ S)
set_option maxRecDepth 20000 in
set_option maxHeartbeats 1000000 in
theorem kz_X6_shield_0 {Q : Int32 → HS → Prop} {v0 : Nat} {S0 S : HS} (h : P_X6_shield_0 Q v0 S) (K : KZ S0 S) : P_X6_shield_0 (fun r T => Q r T ∧ KZ S0 T) v0 S := by
  delta P_X6_shield_0 at h ⊢
  obtain ⟨c1, h⟩ := h
  refine ⟨c1, ?_⟩
  intro x3 e2
  have h := h x3 e2
  refine ⟨?_, ?_⟩
  · intro c4
    have h := h.1 c4
    exact ⟨h, K⟩
  · intro c5
    have h := h.2 c5
    intro x7 e6
    have h := h x7 e6
    exact ⟨h, K⟩
theorem kz_X6_shield {Q : Int32 → HS → Prop} {v0 : Nat} {S : HS} (h : P_X6_shield v0 Q S) : P_X6_shield v0 (fun r T => Q r T ∧ KZ S T) S := kz_X6_shield_0 h (kz_rf S)
set_option maxRecDepth 20000 in
set_option maxHeartbeats 1000000 in
theorem kz_X6_canGo_0 {Q : Int32 → HS → Prop} {v0 : Nat} {v1 : Int32} {S0 S : HS} (h : P_X6_canGo_0 Q v0 v1 S) (K : KZ S0 S) : P_X6_canGo_0 (fun r T => Q r T ∧ KZ S0 T) v0 v1 S := by
  delta P_X6_canGo_0 at h ⊢
  obtain ⟨c1, h⟩ := h
  refine ⟨c1, ?_⟩
  intro x3 e2
  have h := h x3 e2
  refine ⟨?_, ?_⟩
  · intro c4
    have h := h.1 c4
    exact ⟨h, K⟩
  · intro c5
    have h := h.2 c5
    intro x7 e6
    have h := h x7 e6
    refine ⟨?_, ?_⟩
    · intro c8
      have h := h.1 c8
      exact ⟨h, K⟩
    · intro c9
      have h := h.2 c9
      refine ⟨?_, ?_⟩
      · intro c10
        have h := h.1 c10
        exact ⟨h, K⟩
      · intro c11
        have h := h.2 c11
        refine ⟨?_, ?_⟩
        · intro c12
          have h := h.1 c12
          exact ⟨h, K⟩
        · intro c13
          have h := h.2 c13
          exact ⟨h, K⟩
theorem kz_X6_canGo {Q : Int32 → HS → Prop} {v0 : Nat} {v1 : Int32} {S : HS} (h : P_X6_canGo v0 v1 Q S) : P_X6_canGo v0 v1 (fun r T => Q r T ∧ KZ S T) S := kz_X6_canGo_0 h (kz_rf S)
set_option maxRecDepth 20000 in
set_option maxHeartbeats 1000000 in
theorem kz_X8_hasRoad_0 {Q : Int32 → HS → Prop} {v0 : Nat} {v1 : Int32} {S0 S : HS} (h : P_X8_hasRoad_0 Q v0 v1 S) (K : KZ S0 S) : P_X8_hasRoad_0 (fun r T => Q r T ∧ KZ S0 T) v0 v1 S := by
  delta P_X8_hasRoad_0 at h ⊢
  refine ⟨?_, ?_⟩
  · intro c1
    have h := h.1 c1
    exact ⟨h, K⟩
  · intro c2
    have h := h.2 c2
    obtain ⟨c3, h⟩ := h
    refine ⟨c3, ?_⟩
    intro x5 e4
    have h := h x5 e4
    refine ⟨?_, ?_⟩
    · intro c6
      have h := h.1 c6
      exact ⟨h, K⟩
    · intro c7
      have h := h.2 c7
      obtain ⟨b8, e9, h⟩ := h
      refine ⟨b8, e9, ?_⟩
      obtain ⟨c10, h⟩ := h
      refine ⟨c10, ?_⟩
      refine ⟨?_, ?_⟩
      · intro c11
        have h := h.1 c11
        exact ⟨h, K⟩
      · intro c12
        have h := h.2 c12
        exact ⟨h, K⟩
theorem kz_X8_hasRoad {Q : Int32 → HS → Prop} {v0 : Nat} {v1 : Int32} {S : HS} (h : P_X8_hasRoad v0 v1 Q S) : P_X8_hasRoad v0 v1 (fun r T => Q r T ∧ KZ S T) S := kz_X8_hasRoad_0 h (kz_rf S)
set_option maxRecDepth 20000 in
set_option maxHeartbeats 1000000 in
theorem kz_X8_hasSeen_0 {Q : Int32 → HS → Prop} {v0 : Nat} {v1 : Int32} {S0 S : HS} (h : P_X8_hasSeen_0 Q v0 v1 S) (K : KZ S0 S) : P_X8_hasSeen_0 (fun r T => Q r T ∧ KZ S0 T) v0 v1 S := by
  delta P_X8_hasSeen_0 at h ⊢
  refine ⟨?_, ?_⟩
  · intro c1
    have h := h.1 c1
    exact ⟨h, K⟩
  · intro c2
    have h := h.2 c2
    obtain ⟨c3, h⟩ := h
    refine ⟨c3, ?_⟩
    intro x5 e4
    have h := h x5 e4
    refine ⟨?_, ?_⟩
    · intro c6
      have h := h.1 c6
      exact ⟨h, K⟩
    · intro c7
      have h := h.2 c7
      obtain ⟨b8, e9, h⟩ := h
      refine ⟨b8, e9, ?_⟩
      obtain ⟨c10, h⟩ := h
      refine ⟨c10, ?_⟩
      refine ⟨?_, ?_⟩
      · intro c11
        have h := h.1 c11
        exact ⟨h, K⟩
      · intro c12
        have h := h.2 c12
        exact ⟨h, K⟩
theorem kz_X8_hasSeen {Q : Int32 → HS → Prop} {v0 : Nat} {v1 : Int32} {S : HS} (h : P_X8_hasSeen v0 v1 Q S) : P_X8_hasSeen v0 v1 (fun r T => Q r T ∧ KZ S T) S := kz_X8_hasSeen_0 h (kz_rf S)
set_option maxRecDepth 20000 in
set_option maxHeartbeats 1000000 in
theorem kz_X8_hasWalker_0 {Q : Int32 → HS → Prop} {v0 : Nat} {v1 : Int32} {S0 S : HS} (h : P_X8_hasWalker_0 Q v0 v1 S) (K : KZ S0 S) : P_X8_hasWalker_0 (fun r T => Q r T ∧ KZ S0 T) v0 v1 S := by
  delta P_X8_hasWalker_0 at h ⊢
  refine ⟨?_, ?_⟩
  · intro c1
    have h := h.1 c1
    exact ⟨h, K⟩
  · intro c2
    have h := h.2 c2
    obtain ⟨c3, h⟩ := h
    refine ⟨c3, ?_⟩
    intro x5 e4
    have h := h x5 e4
    refine ⟨?_, ?_⟩
    · intro c6
      have h := h.1 c6
      exact ⟨h, K⟩
    · intro c7
      have h := h.2 c7
      obtain ⟨b8, e9, h⟩ := h
      refine ⟨b8, e9, ?_⟩
      obtain ⟨c10, h⟩ := h
      refine ⟨c10, ?_⟩
      refine ⟨?_, ?_⟩
      · intro c11
        have h := h.1 c11
        exact ⟨h, K⟩
      · intro c12
        have h := h.2 c12
        exact ⟨h, K⟩
theorem kz_X8_hasWalker {Q : Int32 → HS → Prop} {v0 : Nat} {v1 : Int32} {S : HS} (h : P_X8_hasWalker v0 v1 Q S) : P_X8_hasWalker v0 v1 (fun r T => Q r T ∧ KZ S T) S := kz_X8_hasWalker_0 h (kz_rf S)
set_option maxRecDepth 20000 in
set_option maxHeartbeats 1000000 in
theorem kv_X4_fail_0 {Q : Int32 → HS → Prop} {v0 : Nat} {v1 : Int32} {S0 S : HS} (h : P_X4_fail_0 Q v0 v1 S) (K : KV v0 S0 S) : P_X4_fail_0 (fun r T => Q r T ∧ KV v0 S0 T) v0 v1 S := by
  delta P_X4_fail_0 at h ⊢
  obtain ⟨c1, h⟩ := h
  refine ⟨c1, ?_⟩
  intro x3 e2
  have h := h x3 e2
  have K := kv_I K e2
  intro x5 e4
  have h := h x5 e4
  intro x7 e6
  have h := h x7 e6
  have K := kv_I K e6
  exact ⟨h, K⟩
theorem kv_X4_fail {Q : Int32 → HS → Prop} {v0 : Nat} {v1 : Int32} {S : HS} (h : P_X4_fail v0 v1 Q S) : P_X4_fail v0 v1 (fun r T => Q r T ∧ KV v0 S T) S := kv_X4_fail_0 h (kv_rf _ S)
set_option maxRecDepth 20000 in
set_option maxHeartbeats 1000000 in
theorem kz_X4_sortAt_58 {Q : Int32 → HS → Prop} {v2 : Int32} {S0 S : HS} (h : P_X4_sortAt_58 Q v2 S) (K : KZ S0 S) : P_X4_sortAt_58 (fun r T => Q r T ∧ KZ S0 T) v2 S := by
  delta P_X4_sortAt_58 at h ⊢
  refine ⟨?_, ?_, ?_, ?_⟩
  · intro c1
    have h := h.1 c1
    exact ⟨h, K⟩
  · intro c2
    have h := h.2.1 c2
    exact ⟨h, K⟩
  · intro c3
    have h := h.2.2.1 c3
    exact ⟨h, K⟩
  · intro c4
    have h := h.2.2.2 c4
    exact ⟨h, K⟩
set_option maxRecDepth 20000 in
set_option maxHeartbeats 1000000 in
theorem kz_X4_sortAt_44 {Q : Int32 → HS → Prop} {v2 : Int32} {S0 S : HS} (h : P_X4_sortAt_44 Q v2 S) (K : KZ S0 S) : P_X4_sortAt_44 (fun r T => Q r T ∧ KZ S0 T) v2 S := by
  delta P_X4_sortAt_44 at h ⊢
  refine ⟨?_, ?_⟩
  · intro c1
    have h := h.1 c1
    exact kz_X4_sortAt_58 h K
  · intro c2
    have h := h.2 c2
    refine ⟨?_, ?_⟩
    · intro c3
      have h := h.1 c3
      exact kz_X4_sortAt_58 h K
    · intro c4
      have h := h.2 c4
      exact ⟨h, K⟩
set_option maxRecDepth 20000 in
set_option maxHeartbeats 1000000 in
theorem kz_X4_sortAt_0 {Q : Int32 → HS → Prop} {v0 : Nat} {v1 : Int32} {S0 S : HS} (h : P_X4_sortAt_0 Q v0 v1 S) (K : KZ S0 S) : P_X4_sortAt_0 (fun r T => Q r T ∧ KZ S0 T) v0 v1 S := by
  delta P_X4_sortAt_0 at h ⊢
  refine ⟨?_, ?_⟩
  · intro c1
    have h := h.1 c1
    exact ⟨h, K⟩
  · intro c2
    have h := h.2 c2
    obtain ⟨c3, h⟩ := h
    refine ⟨c3, ?_⟩
    intro x5 e4
    have h := h x5 e4
    refine ⟨?_, ?_⟩
    · intro c6
      have h := h.1 c6
      exact ⟨h, K⟩
    · intro c7
      have h := h.2 c7
      obtain ⟨b8, e9, h⟩ := h
      refine ⟨b8, e9, ?_⟩
      obtain ⟨c10, h⟩ := h
      refine ⟨c10, ?_⟩
      refine ⟨?_, ?_⟩
      · intro c11
        have h := h.1 c11
        obtain ⟨b12, e13, h⟩ := h
        refine ⟨b12, e13, ?_⟩
        obtain ⟨c14, h⟩ := h
        refine ⟨c14, ?_⟩
        obtain ⟨c15, h⟩ := h
        refine ⟨c15, ?_⟩
        intro x17 e16
        have h := h x17 e16
        refine ⟨?_, ?_⟩
        · intro c18
          have h := h.1 c18
          exact kz_X4_sortAt_44 h K
        · intro c19
          have h := h.2 c19
          refine ⟨?_, ?_⟩
          · intro c20
            have h := h.1 c20
            exact kz_X4_sortAt_44 h K
          · intro c21
            have h := h.2 c21
            exact ⟨h, K⟩
      · intro c22
        have h := h.2 c22
        exact ⟨h, K⟩
theorem kz_X4_sortAt {Q : Int32 → HS → Prop} {v0 : Nat} {v1 : Int32} {S : HS} (h : P_X4_sortAt v0 v1 Q S) : P_X4_sortAt v0 v1 (fun r T => Q r T ∧ KZ S T) S := kz_X4_sortAt_0 h (kz_rf S)
set_option maxRecDepth 20000 in
set_option maxHeartbeats 1000000 in
theorem kv_X4_next_201 {Q : HS → Prop} {X118 X118_2 : Nat → Int32 → Int32 → Int32 → Int32 → HS → Prop} {v0 : Nat} {v1 : Int32} {v2 : Int32} {v3 : Int32} {v4 : Int32} {S0 S : HS} (h : P_X4_next_201 Q X118 v0 v1 v2 v3 v4 S) (K : KV v0 S0 S) (hX118 : ∀ (u0 : Nat) (u1 : Int32) (u2 : Int32) (u3 : Int32) (u4 : Int32) (u5 : HS), X118 u0 u1 u2 u3 u4 u5 → u0 = v0 → KV v0 S0 u5 → X118_2 u0 u1 u2 u3 u4 u5) : P_X4_next_201 (fun T => Q T ∧ KV v0 S0 T) X118_2 v0 v1 v2 v3 v4 S := by
  delta P_X4_next_201 at h ⊢
  obtain ⟨c1, h⟩ := h
  refine ⟨c1, ?_⟩
  intro x3 e2
  have h := h x3 e2
  intro x5 e4
  have h := h x5 e4
  intro x7 e6
  have h := h x7 e6
  have K := kv_I K e6
  intro x9 e8
  have h := h x9 e8
  exact hX118 _ _ _ _ _ _ h rfl K
set_option maxRecDepth 20000 in
set_option maxHeartbeats 1000000 in
theorem kv_X4_next_195 {Q : HS → Prop} {X118 X118_2 : Nat → Int32 → Int32 → Int32 → Int32 → HS → Prop} {v0 : Nat} {v1 : Int32} {v2 : Int32} {v3 : Int32} {v4 : Int32} {s0 : Nat} {s1 : Int64} {s2 : Int32} {s3 : Int32} {S0 S : HS} (h : P_X4_next_195 Q X118 v0 v1 v2 v3 v4 s0 s1 s2 s3 S) (K : KV v0 S0 S) (hX118 : ∀ (u0 : Nat) (u1 : Int32) (u2 : Int32) (u3 : Int32) (u4 : Int32) (u5 : HS), X118 u0 u1 u2 u3 u4 u5 → u0 = v0 → KV v0 S0 u5 → X118_2 u0 u1 u2 u3 u4 u5) : P_X4_next_195 (fun T => Q T ∧ KV v0 S0 T) X118_2 v0 v1 v2 v3 v4 s0 s1 s2 s3 S := by
  delta P_X4_next_195 at h ⊢
  obtain ⟨c1, h⟩ := h
  refine ⟨c1, ?_⟩
  intro x3 e2
  have h := h x3 e2
  intro x5 e4
  have h := h x5 e4
  have K := kv_J K e4
  exact kv_X4_next_201 h K hX118
set_option maxRecDepth 20000 in
set_option maxHeartbeats 1000000 in
theorem kv_X4_next_240 {Q : HS → Prop} {v0 : Nat} {v1 : Int32} {S0 S : HS} (h : P_X4_next_240 Q v0 v1 S) (K : KV v0 S0 S) : P_X4_next_240 (fun T => Q T ∧ KV v0 S0 T) v0 v1 S := by
  delta P_X4_next_240 at h ⊢
  refine ⟨?_, ?_⟩
  · intro c1
    have h := h.1 c1
    exact ⟨h, K⟩
  · intro c2
    have h := h.2 c2
    obtain ⟨c3, h⟩ := h
    refine ⟨c3, ?_⟩
    intro x5 e4
    have h := h x5 e4
    refine ⟨?_, ?_⟩
    · intro c6
      have h := h.1 c6
      exact ⟨h, K⟩
    · intro c7
      have h := h.2 c7
      intro x9 e8
      have h := h x9 e8
      intro x11 e10
      have h := h x11 e10
      intro x13 e12
      have h := h x13 e12
      have K := kv_I K e12
      exact ⟨h, K⟩
set_option maxRecDepth 20000 in
set_option maxHeartbeats 1000000 in
theorem kv_X4_next_217 {Q : HS → Prop} {v0 : Nat} {v1 : Int32} {v2 : Int32} {S0 S : HS} (h : P_X4_next_217 Q v0 v1 v2 S) (K : KV v0 S0 S) : P_X4_next_217 (fun T => Q T ∧ KV v0 S0 T) v0 v1 v2 S := by
  delta P_X4_next_217 at h ⊢
  refine ⟨?_, ?_⟩
  · intro c1
    have h := h.1 c1
    exact kv_X4_next_240 h K
  · intro c2
    have h := h.2 c2
    obtain ⟨c3, h⟩ := h
    refine ⟨c3, ?_⟩
    intro x5 e4
    have h := h x5 e4
    intro x7 e6
    have h := h x7 e6
    refine ⟨?_, ?_⟩
    · intro c8
      have h := h.1 c8
      exact kv_X4_next_240 h K
    · intro c9
      have h := h.2 c9
      intro x11 e10
      have h := h x11 e10
      have K := kv_I K e10
      exact kv_X4_next_240 h K
set_option maxRecDepth 20000 in
set_option maxHeartbeats 1000000 in
theorem kvB_X4_next_118 {Q : HS → Prop} {X118 X118_2 : Nat → Int32 → Int32 → Int32 → Int32 → HS → Prop} {v0 : Nat} {v1 : Int32} {v2 : Int32} {v3 : Int32} {v4 : Int32} {S0 S : HS} (h : B_X4_next_118 Q X118 v0 v1 v2 v3 v4 S) (K : KV v0 S0 S) (hX118 : ∀ (u0 : Nat) (u1 : Int32) (u2 : Int32) (u3 : Int32) (u4 : Int32) (u5 : HS), X118 u0 u1 u2 u3 u4 u5 → u0 = v0 → KV v0 S0 u5 → X118_2 u0 u1 u2 u3 u4 u5) : B_X4_next_118 (fun T => Q T ∧ KV v0 S0 T) X118_2 v0 v1 v2 v3 v4 S := by
  delta B_X4_next_118 at h ⊢
  refine ⟨?_, ?_⟩
  · intro c1
    have h := h.1 c1
    exact kv_X4_next_217 h K
  · intro c2
    have h := h.2 c2
    refine ⟨?_, ?_⟩
    · intro c3
      have h := h.1 c3
      exact kv_X4_next_217 h K
    · intro c4
      have h := h.2 c4
      obtain ⟨c5, h⟩ := h
      refine ⟨c5, ?_⟩
      intro x7 e6
      have h := h x7 e6
      refine cm_X4_sortAt (kz_X4_sortAt h) h (fun x8 x9 p11 h g10 => ?_)
      have h := h g10
      have K := kv_Z K p11.2
      intro x13 e12
      have h := h x13 e12
      refine ⟨?_, ?_⟩
      · intro c14
        have h := h.1 c14
        exact kv_X4_next_217 h K
      · intro c15
        have h := h.2 c15
        refine ⟨?_, ?_⟩
        · intro c16
          have h := h.1 c16
          exact kv_X4_next_201 h K hX118
        · intro c17
          have h := h.2 c17
          intro x19 e18
          have h := h x19 e18
          obtain ⟨b20, e21, h⟩ := h
          refine ⟨b20, e21, ?_⟩
          obtain ⟨c22, h⟩ := h
          refine ⟨c22, ?_⟩
          refine ⟨?_, ?_⟩
          · intro c23
            have h := h.1 c23
            exact kv_X4_next_201 h K hX118
          · intro c24
            have h := h.2 c24
            intro x26 e25
            have h := h x26 e25
            obtain ⟨b27, e28, h⟩ := h
            refine ⟨b27, e28, ?_⟩
            intro x30 e29
            have h := h x30 e29
            obtain ⟨c31, h⟩ := h
            refine ⟨c31, ?_⟩
            obtain ⟨c32, h⟩ := h
            refine ⟨c32, ?_⟩
            intro x34 e33
            have h := h x34 e33
            intro x36 e35
            have h := h x36 e35
            refine ⟨?_, ?_⟩
            · intro c37
              have h := h.1 c37
              exact kv_X4_next_195 h K hX118
            · intro c38
              have h := h.2 c38
              exact kv_X4_next_195 h K hX118
theorem kv_X4_next_118 {Q : HS → Prop} {v0 : Nat} {v1 : Int32} {v2 : Int32} {v3 : Int32} {v4 : Int32} {S0 S : HS} (h : P_X4_next_118 Q v0 v1 v2 v3 v4 S) (K : KV v0 S0 S) : P_X4_next_118 (fun T => Q T ∧ KV v0 S0 T) v0 v1 v2 v3 v4 S := h (fun w0 v1 v2 v3 v4 S => w0 = v0 → KV v0 S0 S → P_X4_next_118 (fun T => Q T ∧ KV v0 S0 T) w0 v1 v2 v3 v4 S) (fun w0 v1 v2 v3 v4 S hB e K => by
  subst e; exact fd_X4_next_118 (kvB_X4_next_118 hB K (fun _ _ _ _ _ _ hx e K => hx e K))) rfl K
set_option maxRecDepth 20000 in
set_option maxHeartbeats 1000000 in
theorem kv_X4_next_114 {Q : HS → Prop} {v0 : Nat} {v1 : Int32} {v2 : Int32} {s0 : Int32} {S0 S : HS} (h : P_X4_next_114 Q v0 v1 v2 s0 S) (K : KV v0 S0 S) : P_X4_next_114 (fun T => Q T ∧ KV v0 S0 T) v0 v1 v2 s0 S := by
  delta P_X4_next_114 at h ⊢
  exact kv_X4_next_118 h K
set_option maxRecDepth 20000 in
set_option maxHeartbeats 1000000 in
theorem kv_X4_next_98 {Q : HS → Prop} {v0 : Nat} {v1 : Int32} {s0 : Int32} {S0 S : HS} (h : P_X4_next_98 Q v0 v1 s0 S) (K : KV v0 S0 S) : P_X4_next_98 (fun T => Q T ∧ KV v0 S0 T) v0 v1 s0 S := by
  delta P_X4_next_98 at h ⊢
  obtain ⟨c1, h⟩ := h
  refine ⟨c1, ?_⟩
  intro x3 e2
  have h := h x3 e2
  refine ⟨?_, ?_⟩
  · intro c4
    have h := h.1 c4
    exact kv_X4_next_114 h K
  · intro c5
    have h := h.2 c5
    exact kv_X4_next_114 h K
set_option maxRecDepth 20000 in
set_option maxHeartbeats 1000000 in
theorem kv_X4_next_83 {Q : HS → Prop} {v0 : Nat} {s0 : Int32} {S0 S : HS} (h : P_X4_next_83 Q v0 s0 S) (K : KV v0 S0 S) : P_X4_next_83 (fun T => Q T ∧ KV v0 S0 T) v0 s0 S := by
  delta P_X4_next_83 at h ⊢
  obtain ⟨c1, h⟩ := h
  refine ⟨c1, ?_⟩
  intro x3 e2
  have h := h x3 e2
  refine ⟨?_, ?_⟩
  · intro c4
    have h := h.1 c4
    exact kv_X4_next_98 h K
  · intro c5
    have h := h.2 c5
    exact kv_X4_next_98 h K
set_option maxRecDepth 20000 in
set_option maxHeartbeats 1000000 in
theorem kv_X4_next_78 {Q : HS → Prop} {v0 : Nat} {S0 S : HS} (h : P_X4_next_78 Q v0 S) (K : KV v0 S0 S) : P_X4_next_78 (fun T => Q T ∧ KV v0 S0 T) v0 S := by
  delta P_X4_next_78 at h ⊢
  exact kv_X4_next_83 h K
set_option maxRecDepth 20000 in
set_option maxHeartbeats 1000000 in
theorem kv_X4_next_37 {Q : HS → Prop} {v0 : Nat} {S0 S : HS} (h : P_X4_next_37 Q v0 S) (K : KV v0 S0 S) : P_X4_next_37 (fun T => Q T ∧ KV v0 S0 T) v0 S := by
  delta P_X4_next_37 at h ⊢
  obtain ⟨c1, h⟩ := h
  refine ⟨c1, ?_⟩
  intro x3 e2
  have h := h x3 e2
  intro x5 e4
  have h := h x5 e4
  have K := kv_I K e4
  intro x7 e6
  have h := h x7 e6
  refine cm_X4_sortAt (kz_X4_sortAt h) h (fun x8 x9 p11 h g10 => ?_)
  have h := h g10
  have K := kv_Z K p11.2
  intro x13 e12
  have h := h x13 e12
  have K := kv_I K e12
  intro x15 e14
  have h := h x15 e14
  have K := kv_J K e14
  intro x17 e16
  have h := h x17 e16
  refine ⟨?_, ?_⟩
  · intro c18
    have h := h.1 c18
    exact kv_X4_next_78 h K
  · intro c19
    have h := h.2 c19
    intro x21 e20
    have h := h x21 e20
    refine ⟨?_, ?_⟩
    · intro c22
      have h := h.1 c22
      exact kv_X4_next_83 h K
    · intro c23
      have h := h.2 c23
      exact kv_X4_next_78 h K
set_option maxRecDepth 20000 in
set_option maxHeartbeats 1000000 in
theorem kvB_X4_next_2 {Q : HS → Prop} {X2 X2_2 : Nat → Int32 → HS → Prop} {v0 : Nat} {v1 : Int32} {S0 S : HS} (h : B_X4_next_2 Q X2 v0 v1 S) (K : KV v0 S0 S) (hX2 : ∀ (u0 : Nat) (u1 : Int32) (u2 : HS), X2 u0 u1 u2 → u0 = v0 → KV v0 S0 u2 → X2_2 u0 u1 u2) : B_X4_next_2 (fun T => Q T ∧ KV v0 S0 T) X2_2 v0 v1 S := by
  delta B_X4_next_2 at h ⊢
  refine ⟨?_, ?_⟩
  · intro c1
    have h := h.1 c1
    exact kv_X4_next_37 h K
  · intro c2
    have h := h.2 c2
    obtain ⟨c3, h⟩ := h
    refine ⟨c3, ?_⟩
    intro x5 e4
    have h := h x5 e4
    refine cm_X4_sortAt (kz_X4_sortAt h) h (fun x6 x7 p9 h g8 => ?_)
    have h := h g8
    have K := kv_Z K p9.2
    refine ⟨?_, ?_⟩
    · intro c10
      have h := h.1 c10
      exact kv_X4_next_37 h K
    · intro c11
      have h := h.2 c11
      intro x13 e12
      have h := h x13 e12
      intro x15 e14
      have h := h x15 e14
      intro x17 e16
      have h := h x17 e16
      have K := kv_I K e16
      intro x19 e18
      have h := h x19 e18
      exact hX2 _ _ _ h rfl K
theorem kv_X4_next_2 {Q : HS → Prop} {v0 : Nat} {v1 : Int32} {S0 S : HS} (h : P_X4_next_2 Q v0 v1 S) (K : KV v0 S0 S) : P_X4_next_2 (fun T => Q T ∧ KV v0 S0 T) v0 v1 S := h (fun w0 v1 S => w0 = v0 → KV v0 S0 S → P_X4_next_2 (fun T => Q T ∧ KV v0 S0 T) w0 v1 S) (fun w0 v1 S hB e K => by
  subst e; exact fd_X4_next_2 (kvB_X4_next_2 hB K (fun _ _ _ hx e K => hx e K))) rfl K
set_option maxRecDepth 20000 in
set_option maxHeartbeats 1000000 in
theorem kv_X4_next_0 {Q : HS → Prop} {v0 : Nat} {S0 S : HS} (h : P_X4_next_0 Q v0 S) (K : KV v0 S0 S) : P_X4_next_0 (fun T => Q T ∧ KV v0 S0 T) v0 S := by
  delta P_X4_next_0 at h ⊢
  exact kv_X4_next_2 h K
theorem kv_X4_next {Q : HS → Prop} {v0 : Nat} {S : HS} (h : P_X4_next v0 Q S) : P_X4_next v0 (fun T => Q T ∧ KV v0 S T) S := kv_X4_next_0 h (kv_rf _ S)
set_option maxRecDepth 20000 in
set_option maxHeartbeats 1000000 in
theorem kv_X4_whole_34 {Q : Int32 → HS → Prop} {v0 : Nat} {S0 S : HS} (h : P_X4_whole_34 Q v0 S) (K : KV v0 S0 S) : P_X4_whole_34 (fun r T => Q r T ∧ KV v0 S0 T) v0 S := by
  delta P_X4_whole_34 at h ⊢
  obtain ⟨c1, h⟩ := h
  refine ⟨c1, ?_⟩
  refine cm_X4_fail (kv_X4_fail h) h (fun x2 x3 p6 h g4 g5 => ?_)
  have h := h g4 g5
  have K := kv_tr K p6.2
  obtain ⟨c7, h⟩ := h
  refine ⟨c7, ?_⟩
  exact ⟨h, K⟩
set_option maxRecDepth 20000 in
set_option maxHeartbeats 1000000 in
theorem kv_X4_whole_0 {Q : Int32 → HS → Prop} {v0 : Nat} {v1 : Int32} {v2 : Int32} {S0 S : HS} (h : P_X4_whole_0 Q v0 v1 v2 S) (K : KV v0 S0 S) : P_X4_whole_0 (fun r T => Q r T ∧ KV v0 S0 T) v0 v1 v2 S := by
  delta P_X4_whole_0 at h ⊢
  obtain ⟨c1, h⟩ := h
  refine ⟨c1, ?_⟩
  intro x3 e2
  have h := h x3 e2
  refine ⟨?_, ?_⟩
  · intro c4
    have h := h.1 c4
    intro x6 e5
    have h := h x6 e5
    refine ⟨?_, ?_⟩
    · intro c7
      have h := h.1 c7
      exact kv_X4_whole_34 h K
    · intro c8
      have h := h.2 c8
      intro x10 e9
      have h := h x10 e9
      refine ⟨?_, ?_⟩
      · intro c11
        have h := h.1 c11
        intro x13 e12
        have h := h x13 e12
        intro x15 e14
        have h := h x15 e14
        intro x17 e16
        have h := h x17 e16
        have K := kv_I K e16
        refine cm_X4_next (kv_X4_next h) h (fun x18 p20 h g19 => ?_)
        have h := h g19
        have K := kv_tr K p20.2
        exact ⟨h, K⟩
      · intro c21
        have h := h.2 c21
        exact kv_X4_whole_34 h K
  · intro c22
    have h := h.2 c22
    refine cm_X4_fail (kv_X4_fail h) h (fun x23 x24 p27 h g25 g26 => ?_)
    have h := h g25 g26
    have K := kv_tr K p27.2
    obtain ⟨c28, h⟩ := h
    refine ⟨c28, ?_⟩
    exact ⟨h, K⟩
theorem kv_X4_whole {Q : Int32 → HS → Prop} {v0 : Nat} {v1 : Int32} {v2 : Int32} {S : HS} (h : P_X4_whole v0 v1 v2 Q S) : P_X4_whole v0 v1 v2 (fun r T => Q r T ∧ KV v0 S T) S := kv_X4_whole_0 h (kv_rf _ S)
set_option maxRecDepth 20000 in
set_option maxHeartbeats 1000000 in
theorem kzB_X4_is_15 {Q : Int32 → HS → Prop} {X15 X15_2 : Nat → Nat → Int64 → Int32 → HS → Prop} {v0 : Nat} {v1 : Nat} {v2 : Int64} {v4 : Int32} {S0 S : HS} (h : B_X4_is_15 Q X15 v0 v1 v2 v4 S) (K : KZ S0 S) (hX15 : ∀ (u0 : Nat) (u1 : Nat) (u2 : Int64) (u3 : Int32) (u4 : HS), X15 u0 u1 u2 u3 u4 → KZ S0 u4 → X15_2 u0 u1 u2 u3 u4) : B_X4_is_15 (fun r T => Q r T ∧ KZ S0 T) X15_2 v0 v1 v2 v4 S := by
  delta B_X4_is_15 at h ⊢
  obtain ⟨c1, h⟩ := h
  refine ⟨c1, ?_⟩
  intro x3 e2
  have h := h x3 e2
  refine ⟨?_, ?_⟩
  · intro c4
    have h := h.1 c4
    obtain ⟨c5, h⟩ := h
    refine ⟨c5, ?_⟩
    intro x7 e6
    have h := h x7 e6
    refine ⟨?_, ?_⟩
    · intro c8
      have h := h.1 c8
      exact ⟨h, K⟩
    · intro c9
      have h := h.2 c9
      exact ⟨h, K⟩
  · intro c10
    have h := h.2 c10
    obtain ⟨c11, h⟩ := h
    refine ⟨c11, ?_⟩
    obtain ⟨c12, h⟩ := h
    refine ⟨c12, ?_⟩
    intro x14 e13
    have h := h x14 e13
    intro x16 e15
    have h := h x16 e15
    intro x18 e17
    have h := h x18 e17
    exact hX15 _ _ _ _ _ h K
theorem kz_X4_is_15 {Q : Int32 → HS → Prop} {v0 : Nat} {v1 : Nat} {v2 : Int64} {v4 : Int32} {S0 S : HS} (h : P_X4_is_15 Q v0 v1 v2 v4 S) (K : KZ S0 S) : P_X4_is_15 (fun r T => Q r T ∧ KZ S0 T) v0 v1 v2 v4 S := h (fun w0 v1 v2 v4 S => KZ S0 S → P_X4_is_15 (fun r T => Q r T ∧ KZ S0 T) w0 v1 v2 v4 S) (fun w0 v1 v2 v4 S hB K => by
  exact fd_X4_is_15 (kzB_X4_is_15 hB K (fun _ _ _ _ _ hx K => hx K))) K
set_option maxRecDepth 20000 in
set_option maxHeartbeats 1000000 in
theorem kz_X4_is_0 {Q : Int32 → HS → Prop} {v0 : Nat} {v1 : Nat} {S0 S : HS} (h : P_X4_is_0 Q v0 v1 S) (K : KZ S0 S) : P_X4_is_0 (fun r T => Q r T ∧ KZ S0 T) v0 v1 S := by
  delta P_X4_is_0 at h ⊢
  obtain ⟨c1, h⟩ := h
  refine ⟨c1, ?_⟩
  intro x3 e2
  have h := h x3 e2
  refine ⟨?_, ?_⟩
  · intro c4
    have h := h.1 c4
    exact kz_X4_is_15 h K
  · intro c5
    have h := h.2 c5
    exact ⟨h, K⟩
theorem kz_X4_is {Q : Int32 → HS → Prop} {v0 : Nat} {v1 : Nat} {S : HS} (h : P_X4_is v0 v1 Q S) : P_X4_is v0 v1 (fun r T => Q r T ∧ KZ S T) S := kz_X4_is_0 h (kz_rf S)
set_option maxRecDepth 20000 in
set_option maxHeartbeats 1000000 in
theorem kv_X4_word_0 {Q : Int32 → HS → Prop} {v0 : Nat} {v1 : Nat} {S0 S : HS} (h : P_X4_word_0 Q v0 v1 S) (K : KV v0 S0 S) : P_X4_word_0 (fun r T => Q r T ∧ KV v0 S0 T) v0 v1 S := by
  delta P_X4_word_0 at h ⊢
  obtain ⟨c1, h⟩ := h
  refine ⟨c1, ?_⟩
  refine cm_X4_is (kz_X4_is h) h (fun x2 x3 p6 h g4 g5 => ?_)
  have h := h g4 g5
  have K := kv_Z K p6.2
  refine ⟨?_, ?_⟩
  · intro c7
    have h := h.1 c7
    refine cm_X4_next (kv_X4_next h) h (fun x8 p10 h g9 => ?_)
    have h := h g9
    have K := kv_tr K p10.2
    exact ⟨h, K⟩
  · intro c11
    have h := h.2 c11
    refine cm_X4_fail (kv_X4_fail h) h (fun x12 x13 p16 h g14 g15 => ?_)
    have h := h g14 g15
    have K := kv_tr K p16.2
    obtain ⟨c17, h⟩ := h
    refine ⟨c17, ?_⟩
    exact ⟨h, K⟩
theorem kv_X4_word {Q : Int32 → HS → Prop} {v0 : Nat} {v1 : Nat} {S : HS} (h : P_X4_word v0 v1 Q S) : P_X4_word v0 v1 (fun r T => Q r T ∧ KV v0 S T) S := kv_X4_word_0 h (kv_rf _ S)
set_option maxRecDepth 20000 in
set_option maxHeartbeats 1000000 in
theorem kv_X4_wordAndWhole_0 {Q : Int32 → HS → Prop} {v0 : Nat} {v1 : Nat} {v2 : Int32} {v3 : Int32} {S0 S : HS} (h : P_X4_wordAndWhole_0 Q v0 v1 v2 v3 S) (K : KV v0 S0 S) : P_X4_wordAndWhole_0 (fun r T => Q r T ∧ KV v0 S0 T) v0 v1 v2 v3 S := by
  delta P_X4_wordAndWhole_0 at h ⊢
  obtain ⟨c1, h⟩ := h
  refine ⟨c1, ?_⟩
  refine cm_X4_word (kv_X4_word h) h (fun x2 x3 p6 h g4 g5 => ?_)
  have h := h g4 g5
  have K := kv_tr K p6.2
  refine ⟨?_, ?_⟩
  · intro c7
    have h := h.1 c7
    exact ⟨h, K⟩
  · intro c8
    have h := h.2 c8
    refine cm_X4_whole (kv_X4_whole h) h (fun x9 x10 p13 h g11 g12 => ?_)
    have h := h g11 g12
    have K := kv_tr K p13.2
    refine ⟨?_, ?_⟩
    · intro c14
      have h := h.1 c14
      exact ⟨h, K⟩
    · intro c15
      have h := h.2 c15
      exact ⟨h, K⟩
theorem kv_X4_wordAndWhole {Q : Int32 → HS → Prop} {v0 : Nat} {v1 : Nat} {v2 : Int32} {v3 : Int32} {S : HS} (h : P_X4_wordAndWhole v0 v1 v2 v3 Q S) : P_X4_wordAndWhole v0 v1 v2 v3 (fun r T => Q r T ∧ KV v0 S T) S := kv_X4_wordAndWhole_0 h (kv_rf _ S)
set_option maxRecDepth 20000 in
set_option maxHeartbeats 1000000 in
theorem kv_X6_shape_16 {Q : HS → Prop} {v0 : Nat} {v1 : Int32} {v2 : Int32} {v3 : Int32} {s0 : Int32} {S0 S : HS} (h : P_X6_shape_16 Q v0 v1 v2 v3 s0 S) (K : KV v0 S0 S) : P_X6_shape_16 (fun T => Q T ∧ KV v0 S0 T) v0 v1 v2 v3 s0 S := by
  delta P_X6_shape_16 at h ⊢
  obtain ⟨c1, h⟩ := h
  refine ⟨c1, ?_⟩
  intro x3 e2
  have h := h x3 e2
  intro x5 e4
  have h := h x5 e4
  have K := kv_I K e4
  intro x7 e6
  have h := h x7 e6
  intro x9 e8
  have h := h x9 e8
  have K := kv_I K e8
  intro x11 e10
  have h := h x11 e10
  intro x13 e12
  have h := h x13 e12
  have K := kv_I K e12
  exact ⟨h, K⟩
set_option maxRecDepth 20000 in
set_option maxHeartbeats 1000000 in
theorem kv_X6_shape_0 {Q : HS → Prop} {v0 : Nat} {v1 : Int32} {v2 : Int32} {v3 : Int32} {S0 S : HS} (h : P_X6_shape_0 Q v0 v1 v2 v3 S) (K : KV v0 S0 S) : P_X6_shape_0 (fun T => Q T ∧ KV v0 S0 T) v0 v1 v2 v3 S := by
  delta P_X6_shape_0 at h ⊢
  obtain ⟨c1, h⟩ := h
  refine ⟨c1, ?_⟩
  intro x3 e2
  have h := h x3 e2
  refine ⟨?_, ?_⟩
  · intro c4
    have h := h.1 c4
    exact kv_X6_shape_16 h K
  · intro c5
    have h := h.2 c5
    intro x7 e6
    have h := h x7 e6
    exact kv_X6_shape_16 h K
theorem kv_X6_shape {Q : HS → Prop} {v0 : Nat} {v1 : Int32} {v2 : Int32} {v3 : Int32} {S : HS} (h : P_X6_shape v0 v1 v2 v3 Q S) : P_X6_shape v0 v1 v2 v3 (fun T => Q T ∧ KV v0 S T) S := kv_X6_shape_0 h (kv_rf _ S)
set_option maxRecDepth 20000 in
set_option maxHeartbeats 1000000 in
theorem ko_X4_bodyOf_58 {Q : Int32 → HS → Prop} {v0 : Nat} {v1 : Nat} {v2 : Int32} {v3 : Int32} {s0 : Int32} {S0 S : HS} (h : P_X4_bodyOf_58 Q v0 v1 v2 v3 s0 S) (K : KO_C v0 S0 S) (o_v1 : OwS_C v0 S0 v1) : P_X4_bodyOf_58 (fun r T => Q r T ∧ KO_C v0 S0 T) v0 v1 v2 v3 s0 S := by
  delta P_X4_bodyOf_58 at h ⊢
  obtain ⟨c1, h⟩ := h
  refine ⟨c1, ?_⟩
  refine cm_X4_wordAndWhole (kv_X4_wordAndWhole h) h (fun x2 x3 p6 h g4 g5 => ?_)
  have h := h g4 g5
  have K := koc_V K p6.2 owc_r
  refine ⟨?_, ?_⟩
  · intro c7
    have h := h.1 c7
    intro x9 e8
    have h := h x9 e8
    obtain ⟨c10, h⟩ := h
    refine ⟨c10, ?_⟩
    refine cm_X6_shape (kv_X6_shape h) h (fun x11 p13 h g12 => ?_)
    have h := h g12
    have K := koc_V K p13.2 o_v1
    exact ⟨h, K⟩
  · intro c14
    have h := h.2 c14
    exact ⟨h, K⟩
set_option maxRecDepth 20000 in
set_option maxHeartbeats 1000000 in
theorem ko_X4_bodyOf_0 {Q : Int32 → HS → Prop} {v0 : Nat} {v1 : Nat} {S0 S : HS} (h : P_X4_bodyOf_0 Q v0 v1 S) (K : KO_C v0 S0 S) (o_v1 : OwS_C v0 S0 v1) : P_X4_bodyOf_0 (fun r T => Q r T ∧ KO_C v0 S0 T) v0 v1 S := by
  delta P_X4_bodyOf_0 at h ⊢
  obtain ⟨c1, h⟩ := h
  refine ⟨c1, ?_⟩
  refine cm_X4_wordAndWhole (kv_X4_wordAndWhole h) h (fun x2 x3 p6 h g4 g5 => ?_)
  have h := h g4 g5
  have K := koc_V K p6.2 owc_r
  refine ⟨?_, ?_⟩
  · intro c7
    have h := h.1 c7
    intro x9 e8
    have h := h x9 e8
    refine cm_X4_wordAndWhole (kv_X4_wordAndWhole h) h (fun x10 x11 p14 h g12 g13 => ?_)
    have h := h g12 g13
    have K := koc_V K p14.2 owc_r
    refine ⟨?_, ?_⟩
    · intro c15
      have h := h.1 c15
      intro x17 e16
      have h := h x17 e16
      obtain ⟨c18, h⟩ := h
      refine ⟨c18, ?_⟩
      intro x20 e19
      have h := h x20 e19
      refine ⟨?_, ?_⟩
      · intro c21
        have h := h.1 c21
        exact ko_X4_bodyOf_58 h K o_v1
      · intro c22
        have h := h.2 c22
        intro x24 e23
        have h := h x24 e23
        exact ko_X4_bodyOf_58 h K o_v1
    · intro c25
      have h := h.2 c25
      exact ⟨h, K⟩
  · intro c26
    have h := h.2 c26
    exact ⟨h, K⟩
theorem ko_X4_bodyOf {Q : Int32 → HS → Prop} {v0 : Nat} {v1 : Nat} {S : HS} (h : P_X4_bodyOf v0 v1 Q S) (o_v1 : OwS_C v0 S v1) : P_X4_bodyOf v0 v1 (fun r T => Q r T ∧ KO_C v0 S T) S := ko_X4_bodyOf_0 h (koc_rf _ S) o_v1
set_option maxRecDepth 20000 in
set_option maxHeartbeats 1000000 in
theorem kz_X4_canBeName_86 {Q : Int32 → HS → Prop} {v0 : Nat} {s0 : Int32} {S0 S : HS} (h : P_X4_canBeName_86 Q v0 s0 S) (K : KZ S0 S) : P_X4_canBeName_86 (fun r T => Q r T ∧ KZ S0 T) v0 s0 S := by
  delta P_X4_canBeName_86 at h ⊢
  obtain ⟨c1, h⟩ := h
  refine ⟨c1, ?_⟩
  intro x3 e2
  have h := h x3 e2
  refine ⟨?_, ?_⟩
  · intro c4
    have h := h.1 c4
    exact ⟨h, K⟩
  · intro c5
    have h := h.2 c5
    refine ⟨?_, ?_⟩
    · intro c6
      have h := h.1 c6
      exact ⟨h, K⟩
    · intro c7
      have h := h.2 c7
      exact ⟨h, K⟩
set_option maxRecDepth 20000 in
set_option maxHeartbeats 1000000 in
theorem kz_X4_canBeName_81 {Q : Int32 → HS → Prop} {v0 : Nat} {S0 S : HS} (h : P_X4_canBeName_81 Q v0 S) (K : KZ S0 S) : P_X4_canBeName_81 (fun r T => Q r T ∧ KZ S0 T) v0 S := by
  delta P_X4_canBeName_81 at h ⊢
  exact kz_X4_canBeName_86 h K
set_option maxRecDepth 20000 in
set_option maxHeartbeats 1000000 in
theorem kz_X4_canBeName_0 {Q : Int32 → HS → Prop} {v0 : Nat} {S0 S : HS} (h : P_X4_canBeName_0 Q v0 S) (K : KZ S0 S) : P_X4_canBeName_0 (fun r T => Q r T ∧ KZ S0 T) v0 S := by
  delta P_X4_canBeName_0 at h ⊢
  obtain ⟨c1, h⟩ := h
  refine ⟨c1, ?_⟩
  refine cm_X4_is (kz_X4_is h) h (fun x2 x3 p6 h g4 g5 => ?_)
  have h := h g4 g5
  have K := kz_Z K p6.2
  refine ⟨?_, ?_⟩
  · intro c7
    have h := h.1 c7
    exact kz_X4_canBeName_81 h K
  · intro c8
    have h := h.2 c8
    refine cm_X4_is (kz_X4_is h) h (fun x9 x10 p13 h g11 g12 => ?_)
    have h := h g11 g12
    have K := kz_Z K p13.2
    refine ⟨?_, ?_⟩
    · intro c14
      have h := h.1 c14
      exact kz_X4_canBeName_81 h K
    · intro c15
      have h := h.2 c15
      refine cm_X4_is (kz_X4_is h) h (fun x16 x17 p20 h g18 g19 => ?_)
      have h := h g18 g19
      have K := kz_Z K p20.2
      refine ⟨?_, ?_⟩
      · intro c21
        have h := h.1 c21
        exact kz_X4_canBeName_81 h K
      · intro c22
        have h := h.2 c22
        refine cm_X4_is (kz_X4_is h) h (fun x23 x24 p27 h g25 g26 => ?_)
        have h := h g25 g26
        have K := kz_Z K p27.2
        refine ⟨?_, ?_⟩
        · intro c28
          have h := h.1 c28
          exact kz_X4_canBeName_81 h K
        · intro c29
          have h := h.2 c29
          refine cm_X4_is (kz_X4_is h) h (fun x30 x31 p34 h g32 g33 => ?_)
          have h := h g32 g33
          have K := kz_Z K p34.2
          refine ⟨?_, ?_⟩
          · intro c35
            have h := h.1 c35
            exact kz_X4_canBeName_81 h K
          · intro c36
            have h := h.2 c36
            refine cm_X4_is (kz_X4_is h) h (fun x37 x38 p41 h g39 g40 => ?_)
            have h := h g39 g40
            have K := kz_Z K p41.2
            refine ⟨?_, ?_⟩
            · intro c42
              have h := h.1 c42
              exact kz_X4_canBeName_81 h K
            · intro c43
              have h := h.2 c43
              refine cm_X4_is (kz_X4_is h) h (fun x44 x45 p48 h g46 g47 => ?_)
              have h := h g46 g47
              have K := kz_Z K p48.2
              refine ⟨?_, ?_⟩
              · intro c49
                have h := h.1 c49
                exact kz_X4_canBeName_81 h K
              · intro c50
                have h := h.2 c50
                refine cm_X4_is (kz_X4_is h) h (fun x51 x52 p55 h g53 g54 => ?_)
                have h := h g53 g54
                have K := kz_Z K p55.2
                refine ⟨?_, ?_⟩
                · intro c56
                  have h := h.1 c56
                  exact kz_X4_canBeName_81 h K
                · intro c57
                  have h := h.2 c57
                  refine cm_X4_is (kz_X4_is h) h (fun x58 x59 p62 h g60 g61 => ?_)
                  have h := h g60 g61
                  have K := kz_Z K p62.2
                  refine ⟨?_, ?_⟩
                  · intro c63
                    have h := h.1 c63
                    exact kz_X4_canBeName_86 h K
                  · intro c64
                    have h := h.2 c64
                    exact kz_X4_canBeName_81 h K
theorem kz_X4_canBeName {Q : Int32 → HS → Prop} {v0 : Nat} {S : HS} (h : P_X4_canBeName v0 Q S) : P_X4_canBeName v0 (fun r T => Q r T ∧ KZ S T) S := kz_X4_canBeName_0 h (kz_rf S)
set_option maxRecDepth 20000 in
set_option maxHeartbeats 1000000 in
theorem kzB_X4_findName_2 {Q : Int32 → HS → Prop} {X2 X2_2 : Nat → Int32 → HS → Prop} {v0 : Nat} {v1 : Int32} {S0 S : HS} (h : B_X4_findName_2 Q X2 v0 v1 S) (K : KZ S0 S) (hX2 : ∀ (u0 : Nat) (u1 : Int32) (u2 : HS), X2 u0 u1 u2 → KZ S0 u2 → X2_2 u0 u1 u2) : B_X4_findName_2 (fun r T => Q r T ∧ KZ S0 T) X2_2 v0 v1 S := by
  delta B_X4_findName_2 at h ⊢
  obtain ⟨c1, h⟩ := h
  refine ⟨c1, ?_⟩
  intro x3 e2
  have h := h x3 e2
  refine ⟨?_, ?_⟩
  · intro c4
    have h := h.1 c4
    exact ⟨h, K⟩
  · intro c5
    have h := h.2 c5
    refine ⟨?_, ?_⟩
    · intro c6
      have h := h.1 c6
      exact ⟨h, K⟩
    · intro c7
      have h := h.2 c7
      obtain ⟨b8, e9, h⟩ := h
      refine ⟨b8, e9, ?_⟩
      obtain ⟨c10, h⟩ := h
      refine ⟨c10, ?_⟩
      obtain ⟨c11, h⟩ := h
      refine ⟨c11, ?_⟩
      intro x13 e12
      have h := h x13 e12
      intro x15 e14
      have h := h x15 e14
      refine ⟨?_, ?_⟩
      · intro c16
        have h := h.1 c16
        intro x18 e17
        have h := h x18 e17
        exact hX2 _ _ _ h K
      · intro c19
        have h := h.2 c19
        obtain ⟨b20, e21, h⟩ := h
        refine ⟨b20, e21, ?_⟩
        obtain ⟨c22, h⟩ := h
        refine ⟨c22, ?_⟩
        obtain ⟨c23, h⟩ := h
        refine ⟨c23, ?_⟩
        intro x25 e24
        have h := h x25 e24
        exact ⟨h, K⟩
theorem kz_X4_findName_2 {Q : Int32 → HS → Prop} {v0 : Nat} {v1 : Int32} {S0 S : HS} (h : P_X4_findName_2 Q v0 v1 S) (K : KZ S0 S) : P_X4_findName_2 (fun r T => Q r T ∧ KZ S0 T) v0 v1 S := h (fun w0 v1 S => KZ S0 S → P_X4_findName_2 (fun r T => Q r T ∧ KZ S0 T) w0 v1 S) (fun w0 v1 S hB K => by
  exact fd_X4_findName_2 (kzB_X4_findName_2 hB K (fun _ _ _ hx K => hx K))) K
set_option maxRecDepth 20000 in
set_option maxHeartbeats 1000000 in
theorem kz_X4_findName_0 {Q : Int32 → HS → Prop} {v0 : Nat} {S0 S : HS} (h : P_X4_findName_0 Q v0 S) (K : KZ S0 S) : P_X4_findName_0 (fun r T => Q r T ∧ KZ S0 T) v0 S := by
  delta P_X4_findName_0 at h ⊢
  exact kz_X4_findName_2 h K
theorem kz_X4_findName {Q : Int32 → HS → Prop} {v0 : Nat} {S : HS} (h : P_X4_findName v0 Q S) : P_X4_findName v0 (fun r T => Q r T ∧ KZ S T) S := kz_X4_findName_0 h (kz_rf S)
set_option maxRecDepth 20000 in
set_option maxHeartbeats 1000000 in
theorem kz_X8_isTold_0 {Q : Int32 → HS → Prop} {v0 : Nat} {S0 S : HS} (h : P_X8_isTold_0 Q v0 S) (K : KZ S0 S) : P_X8_isTold_0 (fun r T => Q r T ∧ KZ S0 T) v0 S := by
  delta P_X8_isTold_0 at h ⊢
  obtain ⟨c1, h⟩ := h
  refine ⟨c1, ?_⟩
  intro x3 e2
  have h := h x3 e2
  refine ⟨?_, ?_⟩
  · intro c4
    have h := h.1 c4
    exact ⟨h, K⟩
  · intro c5
    have h := h.2 c5
    exact ⟨h, K⟩
theorem kz_X8_isTold {Q : Int32 → HS → Prop} {v0 : Nat} {S : HS} (h : P_X8_isTold v0 Q S) : P_X8_isTold v0 (fun r T => Q r T ∧ KZ S T) S := kz_X8_isTold_0 h (kz_rf S)
set_option maxRecDepth 20000 in
set_option maxHeartbeats 1000000 in
theorem kv_X4_hasRoom_0 {Q : Int32 → HS → Prop} {v0 : Nat} {v1 : Int32} {v2 : Int32} {S0 S : HS} (h : P_X4_hasRoom_0 Q v0 v1 v2 S) (K : KV v0 S0 S) : P_X4_hasRoom_0 (fun r T => Q r T ∧ KV v0 S0 T) v0 v1 v2 S := by
  delta P_X4_hasRoom_0 at h ⊢
  obtain ⟨c1, h⟩ := h
  refine ⟨c1, ?_⟩
  obtain ⟨b2, e3, h⟩ := h
  refine ⟨b2, e3, ?_⟩
  obtain ⟨c4, h⟩ := h
  refine ⟨c4, ?_⟩
  refine cm_X8_isTold (kz_X8_isTold h) h (fun x5 x6 p9 h g7 g8 => ?_)
  have h := h g7 g8
  have K := kv_Z K p9.2
  refine ⟨?_, ?_⟩
  · intro c10
    have h := h.1 c10
    refine ⟨?_, ?_⟩
    · intro c11
      have h := h.1 c11
      refine cm_X4_next (kv_X4_next h) h (fun x12 p14 h g13 => ?_)
      have h := h g13
      have K := kv_tr K p14.2
      exact ⟨h, K⟩
    · intro c15
      have h := h.2 c15
      refine cm_X4_fail (kv_X4_fail h) h (fun x16 x17 p20 h g18 g19 => ?_)
      have h := h g18 g19
      have K := kv_tr K p20.2
      obtain ⟨c21, h⟩ := h
      refine ⟨c21, ?_⟩
      exact ⟨h, K⟩
  · intro c22
    have h := h.2 c22
    refine cm_X4_fail (kv_X4_fail h) h (fun x23 x24 p27 h g25 g26 => ?_)
    have h := h g25 g26
    have K := kv_tr K p27.2
    obtain ⟨c28, h⟩ := h
    refine ⟨c28, ?_⟩
    exact ⟨h, K⟩
theorem kv_X4_hasRoom {Q : Int32 → HS → Prop} {v0 : Nat} {v1 : Int32} {v2 : Int32} {S : HS} (h : P_X4_hasRoom v0 v1 v2 Q S) : P_X4_hasRoom v0 v1 v2 (fun r T => Q r T ∧ KV v0 S T) S := kv_X4_hasRoom_0 h (kv_rf _ S)
set_option maxRecDepth 20000 in
set_option maxHeartbeats 1000000 in
theorem kz_X6_init_0 {Q : HS → Prop} {v0 : Nat} {S0 S : HS} (h : P_X6_init_0 Q v0 S) (K : KZ S0 S) : P_X6_init_0 (fun T => Q T ∧ KZ S0 T) v0 S := by
  delta P_X6_init_0 at h ⊢
  exact ⟨h, K⟩
theorem kz_X6_init {Q : HS → Prop} {v0 : Nat} {S : HS} (h : P_X6_init v0 Q S) : P_X6_init v0 (fun T => Q T ∧ KZ S T) S := kz_X6_init_0 h (kz_rf S)
set_option maxRecDepth 20000 in
set_option maxHeartbeats 1000000 in
theorem ko_X4_kindOf_0 {Q : Int32 → HS → Prop} {v0 : Nat} {v1 : Nat} {S0 S : HS} (h : P_X4_kindOf_0 Q v0 v1 S) (K : KO_C v0 S0 S) (o_v1 : OwS_C v0 S0 v1) : P_X4_kindOf_0 (fun r T => Q r T ∧ KO_C v0 S0 T) v0 v1 S := by
  delta P_X4_kindOf_0 at h ⊢
  obtain ⟨c1, h⟩ := h
  refine ⟨c1, ?_⟩
  intro x3 e2
  have h := h x3 e2
  have K := koc_I K e2 owc_r
  refine cm_X4_is (kz_X4_is h) h (fun x4 x5 p8 h g6 g7 => ?_)
  have h := h g6 g7
  have K := koc_Z K p8.2
  refine ⟨?_, ?_⟩
  · intro c9
    have h := h.1 c9
    refine cm_X4_is (kz_X4_is h) h (fun x10 x11 p14 h g12 g13 => ?_)
    have h := h g12 g13
    have K := koc_Z K p14.2
    refine ⟨?_, ?_⟩
    · intro c15
      have h := h.1 c15
      refine cm_X4_is (kz_X4_is h) h (fun x16 x17 p20 h g18 g19 => ?_)
      have h := h g18 g19
      have K := koc_Z K p20.2
      refine ⟨?_, ?_⟩
      · intro c21
        have h := h.1 c21
        obtain ⟨c22, h⟩ := h
        refine ⟨c22, ?_⟩
        intro x24 e23
        have h := h x24 e23
        have K := koc_I K e23 o_v1
        refine cm_X4_word (kv_X4_word h) h (fun x25 x26 p29 h g27 g28 => ?_)
        have h := h g27 g28
        have K := koc_V K p29.2 owc_r
        intro x31 e30
        have h := h x31 e30
        intro x33 e32
        have h := h x33 e32
        have K := koc_I K e32 o_v1
        obtain ⟨c34, h⟩ := h
        refine ⟨c34, ?_⟩
        exact ⟨h, K⟩
      · intro c35
        have h := h.2 c35
        obtain ⟨c36, h⟩ := h
        refine ⟨c36, ?_⟩
        intro x38 e37
        have h := h x38 e37
        have K := koc_I K e37 o_v1
        refine cm_X4_wordAndWhole (kv_X4_wordAndWhole h) h (fun x39 x40 p43 h g41 g42 => ?_)
        have h := h g41 g42
        have K := koc_V K p43.2 owc_r
        intro x45 e44
        have h := h x45 e44
        intro x47 e46
        have h := h x47 e46
        have K := koc_I K e46 o_v1
        obtain ⟨c48, h⟩ := h
        refine ⟨c48, ?_⟩
        exact ⟨h, K⟩
    · intro c49
      have h := h.2 c49
      obtain ⟨c50, h⟩ := h
      refine ⟨c50, ?_⟩
      intro x52 e51
      have h := h x52 e51
      have K := koc_I K e51 o_v1
      refine cm_X4_wordAndWhole (kv_X4_wordAndWhole h) h (fun x53 x54 p57 h g55 g56 => ?_)
      have h := h g55 g56
      have K := koc_V K p57.2 owc_r
      intro x59 e58
      have h := h x59 e58
      intro x61 e60
      have h := h x61 e60
      have K := koc_I K e60 o_v1
      obtain ⟨c62, h⟩ := h
      refine ⟨c62, ?_⟩
      exact ⟨h, K⟩
  · intro c63
    have h := h.2 c63
    obtain ⟨c64, h⟩ := h
    refine ⟨c64, ?_⟩
    intro x66 e65
    have h := h x66 e65
    have K := koc_I K e65 o_v1
    refine cm_X4_wordAndWhole (kv_X4_wordAndWhole h) h (fun x67 x68 p71 h g69 g70 => ?_)
    have h := h g69 g70
    have K := koc_V K p71.2 owc_r
    intro x73 e72
    have h := h x73 e72
    intro x75 e74
    have h := h x75 e74
    have K := koc_I K e74 o_v1
    obtain ⟨c76, h⟩ := h
    refine ⟨c76, ?_⟩
    exact ⟨h, K⟩
theorem ko_X4_kindOf {Q : Int32 → HS → Prop} {v0 : Nat} {v1 : Nat} {S : HS} (h : P_X4_kindOf v0 v1 Q S) (o_v1 : OwS_C v0 S v1) : P_X4_kindOf v0 v1 (fun r T => Q r T ∧ KO_C v0 S T) S := ko_X4_kindOf_0 h (koc_rf _ S) o_v1
set_option maxRecDepth 20000 in
set_option maxHeartbeats 1000000 in
theorem ko_X4_newName_69 {Q : Int32 → HS → Prop} {v0 : Nat} {S0 S : HS} (h : P_X4_newName_69 Q v0 S) (K : KO_C v0 S0 S) : P_X4_newName_69 (fun r T => Q r T ∧ KO_C v0 S0 T) v0 S := by
  delta P_X4_newName_69 at h ⊢
  obtain ⟨c1, h⟩ := h
  refine ⟨c1, ?_⟩
  refine cm_X4_next (kv_X4_next h) h (fun x2 p4 h g3 => ?_)
  have h := h g3
  have K := koc_V K p4.2 owc_r
  exact ⟨h, K⟩
set_option maxRecDepth 20000 in
set_option maxHeartbeats 1000000 in
theorem ko_X4_newName_0 {Q : Int32 → HS → Prop} {v0 : Nat} {v1 : Int32} {S0 S : HS} (h : P_X4_newName_0 Q v0 v1 S) (K : KO_C v0 S0 S) : P_X4_newName_0 (fun r T => Q r T ∧ KO_C v0 S0 T) v0 v1 S := by
  delta P_X4_newName_0 at h ⊢
  obtain ⟨c1, h⟩ := h
  refine ⟨c1, ?_⟩
  refine cm_X4_canBeName (kz_X4_canBeName h) h (fun x2 x3 p6 h g4 g5 => ?_)
  have h := h g4 g5
  have K := koc_Z K p6.2
  refine ⟨?_, ?_⟩
  · intro c7
    have h := h.1 c7
    refine cm_X4_findName (kz_X4_findName h) h (fun x8 x9 p11 h g10 => ?_)
    have h := h g10
    have K := koc_Z K p11.2
    refine ⟨?_, ?_⟩
    · intro c12
      have h := h.1 c12
      intro x14 e13
      have h := h x14 e13
      refine ⟨?_, ?_⟩
      · intro c15
        have h := h.1 c15
        exact ko_X4_newName_69 h K
      · intro c16
        have h := h.2 c16
        obtain ⟨b17, e18, h⟩ := h
        refine ⟨b17, e18, ?_⟩
        have f19 := koc_f K e18
        intro x21 e20
        have h := h x21 e20
        intro x23 e22
        have h := h x23 e22
        obtain ⟨c24, h⟩ := h
        refine ⟨c24, ?_⟩
        obtain ⟨c25, h⟩ := h
        refine ⟨c25, ?_⟩
        intro x27 e26
        have h := h x27 e26
        have K := koc_J K e26
        obtain ⟨b28, e29, h⟩ := h
        refine ⟨b28, e29, ?_⟩
        have f30 := koc_f K e29
        intro x32 e31
        have h := h x32 e31
        obtain ⟨c33, h⟩ := h
        refine ⟨c33, ?_⟩
        obtain ⟨c34, h⟩ := h
        refine ⟨c34, ?_⟩
        intro x36 e35
        have h := h x36 e35
        have K := koc_I K e35 (owc_a f30 (by decide))
        intro x38 e37
        have h := h x38 e37
        intro x40 e39
        have h := h x40 e39
        intro x42 e41
        have h := h x42 e41
        have K := koc_I K e41 owc_r
        exact ko_X4_newName_69 h K
    · intro c43
      have h := h.2 c43
      refine cm_X4_fail (kv_X4_fail h) h (fun x44 x45 p48 h g46 g47 => ?_)
      have h := h g46 g47
      have K := koc_V K p48.2 owc_r
      obtain ⟨c49, h⟩ := h
      refine ⟨c49, ?_⟩
      exact ⟨h, K⟩
  · intro c50
    have h := h.2 c50
    refine cm_X4_fail (kv_X4_fail h) h (fun x51 x52 p55 h g53 g54 => ?_)
    have h := h g53 g54
    have K := koc_V K p55.2 owc_r
    obtain ⟨c56, h⟩ := h
    refine ⟨c56, ?_⟩
    exact ⟨h, K⟩
theorem ko_X4_newName {Q : Int32 → HS → Prop} {v0 : Nat} {v1 : Int32} {S : HS} (h : P_X4_newName v0 v1 Q S) : P_X4_newName v0 v1 (fun r T => Q r T ∧ KO_C v0 S T) S := ko_X4_newName_0 h (koc_rf _ S)
set_option maxRecDepth 20000 in
set_option maxHeartbeats 1000000 in
theorem kv_X8_clear_0 {Q : HS → Prop} {v0 : Nat} {S0 S : HS} (h : P_X8_clear_0 Q v0 S) (K : KV v0 S0 S) : P_X8_clear_0 (fun T => Q T ∧ KV v0 S0 T) v0 S := by
  delta P_X8_clear_0 at h ⊢
  obtain ⟨c1, h⟩ := h
  refine ⟨c1, ?_⟩
  intro x3 e2
  have h := h x3 e2
  have K := kv_I K e2
  intro x5 e4
  have h := h x5 e4
  have K := kv_I K e4
  intro x7 e6
  have h := h x7 e6
  have K := kv_I K e6
  intro x9 e8
  have h := h x9 e8
  have K := kv_I K e8
  intro x11 e10
  have h := h x11 e10
  have K := kv_I K e10
  intro x13 e12
  have h := h x13 e12
  have K := kv_I K e12
  exact ⟨h, K⟩
theorem kv_X8_clear {Q : HS → Prop} {v0 : Nat} {S : HS} (h : P_X8_clear v0 Q S) : P_X8_clear v0 (fun T => Q T ∧ KV v0 S T) S := kv_X8_clear_0 h (kv_rf _ S)
set_option maxRecDepth 20000 in
set_option maxHeartbeats 1000000 in
theorem kv_X4_placeBut_29 {Q : Int32 → HS → Prop} {v0 : Nat} {S0 S : HS} (h : P_X4_placeBut_29 Q v0 S) (K : KV v0 S0 S) : P_X4_placeBut_29 (fun r T => Q r T ∧ KV v0 S0 T) v0 S := by
  delta P_X4_placeBut_29 at h ⊢
  obtain ⟨c1, h⟩ := h
  refine ⟨c1, ?_⟩
  refine cm_X4_fail (kv_X4_fail h) h (fun x2 x3 p6 h g4 g5 => ?_)
  have h := h g4 g5
  have K := kv_tr K p6.2
  obtain ⟨c7, h⟩ := h
  refine ⟨c7, ?_⟩
  exact ⟨h, K⟩
set_option maxRecDepth 20000 in
set_option maxHeartbeats 1000000 in
theorem kv_X4_placeBut_0 {Q : Int32 → HS → Prop} {v0 : Nat} {v1 : Int32} {S0 S : HS} (h : P_X4_placeBut_0 Q v0 v1 S) (K : KV v0 S0 S) : P_X4_placeBut_0 (fun r T => Q r T ∧ KV v0 S0 T) v0 v1 S := by
  delta P_X4_placeBut_0 at h ⊢
  obtain ⟨c1, h⟩ := h
  refine ⟨c1, ?_⟩
  refine cm_X4_canBeName (kz_X4_canBeName h) h (fun x2 x3 p6 h g4 g5 => ?_)
  have h := h g4 g5
  have K := kv_Z K p6.2
  refine ⟨?_, ?_⟩
  · intro c7
    have h := h.1 c7
    refine cm_X4_findName (kz_X4_findName h) h (fun x8 x9 p11 h g10 => ?_)
    have h := h g10
    have K := kv_Z K p11.2
    refine ⟨?_, ?_⟩
    · intro c12
      have h := h.1 c12
      exact kv_X4_placeBut_29 h K
    · intro c13
      have h := h.2 c13
      refine ⟨?_, ?_⟩
      · intro c14
        have h := h.1 c14
        refine ⟨?_, ?_⟩
        · intro c15
          have h := h.1 c15
          intro x17 e16
          have h := h x17 e16
          have K := kv_I K e16
          refine cm_X4_next (kv_X4_next h) h (fun x18 p20 h g19 => ?_)
          have h := h g19
          have K := kv_tr K p20.2
          exact ⟨h, K⟩
        · intro c21
          have h := h.2 c21
          refine cm_X4_fail (kv_X4_fail h) h (fun x22 x23 p26 h g24 g25 => ?_)
          have h := h g24 g25
          have K := kv_tr K p26.2
          obtain ⟨c27, h⟩ := h
          refine ⟨c27, ?_⟩
          exact ⟨h, K⟩
      · intro c28
        have h := h.2 c28
        exact kv_X4_placeBut_29 h K
  · intro c29
    have h := h.2 c29
    refine cm_X4_fail (kv_X4_fail h) h (fun x30 x31 p34 h g32 g33 => ?_)
    have h := h g32 g33
    have K := kv_tr K p34.2
    obtain ⟨c35, h⟩ := h
    refine ⟨c35, ?_⟩
    exact ⟨h, K⟩
theorem kv_X4_placeBut {Q : Int32 → HS → Prop} {v0 : Nat} {v1 : Int32} {S : HS} (h : P_X4_placeBut v0 v1 Q S) : P_X4_placeBut v0 v1 (fun r T => Q r T ∧ KV v0 S T) S := kv_X4_placeBut_0 h (kv_rf _ S)
set_option maxRecDepth 20000 in
set_option maxHeartbeats 1000000 in
theorem ko_X4_placeLine_64 {Q : Int32 → HS → Prop} {v0 : Nat} {v1 : Int32} {S0 S : HS} (h : P_X4_placeLine_64 Q v0 v1 S) (K : KO_C v0 S0 S) : P_X4_placeLine_64 (fun r T => Q r T ∧ KO_C v0 S0 T) v0 v1 S := by
  delta P_X4_placeLine_64 at h ⊢
  obtain ⟨c1, h⟩ := h
  refine ⟨c1, ?_⟩
  obtain ⟨b2, e3, h⟩ := h
  refine ⟨b2, e3, ?_⟩
  have f4 := koc_f K e3
  obtain ⟨c5, h⟩ := h
  refine ⟨c5, ?_⟩
  obtain ⟨b6, e7, h⟩ := h
  refine ⟨b6, e7, ?_⟩
  have f8 := koc_f K e7
  obtain ⟨b9, e10, h⟩ := h
  refine ⟨b9, e10, ?_⟩
  have f11 := koc_f K e10
  obtain ⟨c12, h⟩ := h
  refine ⟨c12, ?_⟩
  intro x14 e13
  have h := h x14 e13
  obtain ⟨c15, h⟩ := h
  refine ⟨c15, ?_⟩
  obtain ⟨c16, h⟩ := h
  refine ⟨c16, ?_⟩
  intro x18 e17
  have h := h x18 e17
  have K := koc_I K e17 (owc_d f4 f8 (by decide))
  obtain ⟨b19, e20, h⟩ := h
  refine ⟨b19, e20, ?_⟩
  have f21 := koc_f K e20
  obtain ⟨c22, h⟩ := h
  refine ⟨c22, ?_⟩
  intro x24 e23
  have h := h x24 e23
  intro x26 e25
  have h := h x26 e25
  intro x28 e27
  have h := h x28 e27
  have K := koc_I K e27 (owc_w f21)
  exact ⟨h, K⟩
set_option maxRecDepth 20000 in
set_option maxHeartbeats 1000000 in
theorem ko_X4_placeLine_0 {Q : Int32 → HS → Prop} {v0 : Nat} {S0 S : HS} (h : P_X4_placeLine_0 Q v0 S) (K : KO_C v0 S0 S) : P_X4_placeLine_0 (fun r T => Q r T ∧ KO_C v0 S0 T) v0 S := by
  delta P_X4_placeLine_0 at h ⊢
  obtain ⟨c1, h⟩ := h
  refine ⟨c1, ?_⟩
  obtain ⟨b2, e3, h⟩ := h
  refine ⟨b2, e3, ?_⟩
  have f4 := koc_f K e3
  obtain ⟨c5, h⟩ := h
  refine ⟨c5, ?_⟩
  intro x7 e6
  have h := h x7 e6
  refine cm_X4_newName (ko_X4_newName h) h (fun x8 x9 p12 h g10 g11 => ?_)
  have h := h g10 g11
  have K := koc_tr K p12.2
  refine ⟨?_, ?_⟩
  · intro c13
    have h := h.1 c13
    refine cm_X4_is (kz_X4_is h) h (fun x14 x15 p18 h g16 g17 => ?_)
    have h := h g16 g17
    have K := koc_Z K p18.2
    refine ⟨?_, ?_⟩
    · intro c19
      have h := h.1 c19
      refine cm_X4_is (kz_X4_is h) h (fun x20 x21 p24 h g22 g23 => ?_)
      have h := h g22 g23
      have K := koc_Z K p24.2
      refine ⟨?_, ?_⟩
      · intro c25
        have h := h.1 c25
        exact ko_X4_placeLine_64 h K
      · intro c26
        have h := h.2 c26
        refine cm_X4_wordAndWhole (kv_X4_wordAndWhole h) h (fun x27 x28 p31 h g29 g30 => ?_)
        have h := h g29 g30
        have K := koc_V K p31.2 owc_r
        refine ⟨?_, ?_⟩
        · intro c32
          have h := h.1 c32
          intro x34 e33
          have h := h x34 e33
          exact ko_X4_placeLine_64 h K
        · intro c35
          have h := h.2 c35
          exact ⟨h, K⟩
    · intro c36
      have h := h.2 c36
      refine cm_X4_next (kv_X4_next h) h (fun x37 p39 h g38 => ?_)
      have h := h g38
      have K := koc_V K p39.2 owc_r
      exact ko_X4_placeLine_64 h K
  · intro c40
    have h := h.2 c40
    exact ⟨h, K⟩
theorem ko_X4_placeLine {Q : Int32 → HS → Prop} {v0 : Nat} {S : HS} (h : P_X4_placeLine v0 Q S) : P_X4_placeLine v0 (fun r T => Q r T ∧ KO_C v0 S T) S := ko_X4_placeLine_0 h (koc_rf _ S)
set_option maxRecDepth 20000 in
set_option maxHeartbeats 1000000 in
theorem kv_X4_side_74 {Q : Int32 → HS → Prop} {v0 : Nat} {S0 S : HS} (h : P_X4_side_74 Q v0 S) (K : KV v0 S0 S) : P_X4_side_74 (fun r T => Q r T ∧ KV v0 S0 T) v0 S := by
  delta P_X4_side_74 at h ⊢
  obtain ⟨c1, h⟩ := h
  refine ⟨c1, ?_⟩
  refine cm_X4_next (kv_X4_next h) h (fun x2 p4 h g3 => ?_)
  have h := h g3
  have K := kv_tr K p4.2
  exact ⟨h, K⟩
set_option maxRecDepth 20000 in
set_option maxHeartbeats 1000000 in
theorem kv_X4_side_0 {Q : Int32 → HS → Prop} {v0 : Nat} {S0 S : HS} (h : P_X4_side_0 Q v0 S) (K : KV v0 S0 S) : P_X4_side_0 (fun r T => Q r T ∧ KV v0 S0 T) v0 S := by
  delta P_X4_side_0 at h ⊢
  obtain ⟨c1, h⟩ := h
  refine ⟨c1, ?_⟩
  refine cm_X4_is (kz_X4_is h) h (fun x2 x3 p6 h g4 g5 => ?_)
  have h := h g4 g5
  have K := kv_Z K p6.2
  refine ⟨?_, ?_⟩
  · intro c7
    have h := h.1 c7
    refine cm_X4_is (kz_X4_is h) h (fun x8 x9 p12 h g10 g11 => ?_)
    have h := h g10 g11
    have K := kv_Z K p12.2
    refine ⟨?_, ?_⟩
    · intro c13
      have h := h.1 c13
      refine cm_X4_is (kz_X4_is h) h (fun x14 x15 p18 h g16 g17 => ?_)
      have h := h g16 g17
      have K := kv_Z K p18.2
      refine ⟨?_, ?_⟩
      · intro c19
        have h := h.1 c19
        refine cm_X4_is (kz_X4_is h) h (fun x20 x21 p24 h g22 g23 => ?_)
        have h := h g22 g23
        have K := kv_Z K p24.2
        refine ⟨?_, ?_⟩
        · intro c25
          have h := h.1 c25
          refine cm_X4_fail (kv_X4_fail h) h (fun x26 x27 p30 h g28 g29 => ?_)
          have h := h g28 g29
          have K := kv_tr K p30.2
          obtain ⟨c31, h⟩ := h
          refine ⟨c31, ?_⟩
          exact ⟨h, K⟩
        · intro c32
          have h := h.2 c32
          intro x34 e33
          have h := h x34 e33
          have K := kv_I K e33
          exact kv_X4_side_74 h K
      · intro c35
        have h := h.2 c35
        intro x37 e36
        have h := h x37 e36
        have K := kv_I K e36
        exact kv_X4_side_74 h K
    · intro c38
      have h := h.2 c38
      intro x40 e39
      have h := h x40 e39
      have K := kv_I K e39
      exact kv_X4_side_74 h K
  · intro c41
    have h := h.2 c41
    intro x43 e42
    have h := h x43 e42
    have K := kv_I K e42
    exact kv_X4_side_74 h K
theorem kv_X4_side {Q : Int32 → HS → Prop} {v0 : Nat} {S : HS} (h : P_X4_side v0 Q S) : P_X4_side v0 (fun r T => Q r T ∧ KV v0 S T) S := kv_X4_side_0 h (kv_rf _ S)
set_option maxRecDepth 20000 in
set_option maxHeartbeats 1000000 in
theorem ko_X4_rainLine_0 {Q : Int32 → HS → Prop} {v0 : Nat} {S0 S : HS} (h : P_X4_rainLine_0 Q v0 S) (K : KO_C v0 S0 S) : P_X4_rainLine_0 (fun r T => Q r T ∧ KO_C v0 S0 T) v0 S := by
  delta P_X4_rainLine_0 at h ⊢
  obtain ⟨c1, h⟩ := h
  refine ⟨c1, ?_⟩
  obtain ⟨b2, e3, h⟩ := h
  refine ⟨b2, e3, ?_⟩
  have f4 := koc_f K e3
  obtain ⟨c5, h⟩ := h
  refine ⟨c5, ?_⟩
  obtain ⟨b6, e7, h⟩ := h
  refine ⟨b6, e7, ?_⟩
  have f8 := koc_f K e7
  obtain ⟨b9, e10, h⟩ := h
  refine ⟨b9, e10, ?_⟩
  have f11 := koc_f K e10
  obtain ⟨c12, h⟩ := h
  refine ⟨c12, ?_⟩
  intro x14 e13
  have h := h x14 e13
  obtain ⟨c15, h⟩ := h
  refine ⟨c15, ?_⟩
  obtain ⟨c16, h⟩ := h
  refine ⟨c16, ?_⟩
  obtain ⟨b17, e18, h⟩ := h
  refine ⟨b17, e18, ?_⟩
  have f19 := koc_f K e18
  refine cm_X4_wordAndWhole (kv_X4_wordAndWhole h) h (fun x20 x21 p24 h g22 g23 => ?_)
  have h := h g22 g23
  have K := koc_V K p24.2 owc_r
  refine ⟨?_, ?_⟩
  · intro c25
    have h := h.1 c25
    intro x27 e26
    have h := h x27 e26
    obtain ⟨c28, h⟩ := h
    refine ⟨c28, ?_⟩
    intro x30 e29
    have h := h x30 e29
    have K := koc_I K e29 (owc_e f4 f8 f19 (by decide))
    refine cm_X4_wordAndWhole (kv_X4_wordAndWhole h) h (fun x31 x32 p35 h g33 g34 => ?_)
    have h := h g33 g34
    have K := koc_V K p35.2 owc_r
    refine ⟨?_, ?_⟩
    · intro c36
      have h := h.1 c36
      intro x38 e37
      have h := h x38 e37
      intro x40 e39
      have h := h x40 e39
      have K := koc_I K e39 (owc_e f4 f8 f19 (by decide))
      refine cm_X4_word (kv_X4_word h) h (fun x41 x42 p45 h g43 g44 => ?_)
      have h := h g43 g44
      have K := koc_V K p45.2 owc_r
      refine ⟨?_, ?_⟩
      · intro c46
        have h := h.1 c46
        exact ⟨h, K⟩
      · intro c47
        have h := h.2 c47
        refine cm_X4_side (kv_X4_side h) h (fun x48 x49 p52 h g50 g51 => ?_)
        have h := h g50 g51
        have K := koc_V K p52.2 owc_r
        refine ⟨?_, ?_⟩
        · intro c53
          have h := h.1 c53
          intro x55 e54
          have h := h x55 e54
          intro x57 e56
          have h := h x57 e56
          have K := koc_I K e56 (owc_e f4 f8 f19 (by decide))
          refine cm_X4_whole (kv_X4_whole h) h (fun x58 x59 p62 h g60 g61 => ?_)
          have h := h g60 g61
          have K := koc_V K p62.2 owc_r
          refine ⟨?_, ?_⟩
          · intro c63
            have h := h.1 c63
            intro x65 e64
            have h := h x65 e64
            intro x67 e66
            have h := h x67 e66
            have K := koc_I K e66 (owc_e f4 f8 f19 (by decide))
            refine cm_X4_wordAndWhole (kv_X4_wordAndWhole h) h (fun x68 x69 p72 h g70 g71 => ?_)
            have h := h g70 g71
            have K := koc_V K p72.2 owc_r
            refine ⟨?_, ?_⟩
            · intro c73
              have h := h.1 c73
              intro x75 e74
              have h := h x75 e74
              intro x77 e76
              have h := h x77 e76
              have K := koc_I K e76 (owc_e f4 f8 f19 (by decide))
              obtain ⟨b78, e79, h⟩ := h
              refine ⟨b78, e79, ?_⟩
              have f80 := koc_f K e79
              obtain ⟨c81, h⟩ := h
              refine ⟨c81, ?_⟩
              intro x83 e82
              have h := h x83 e82
              intro x85 e84
              have h := h x85 e84
              intro x87 e86
              have h := h x87 e86
              have K := koc_I K e86 (owc_w f80)
              exact ⟨h, K⟩
            · intro c88
              have h := h.2 c88
              exact ⟨h, K⟩
          · intro c89
            have h := h.2 c89
            exact ⟨h, K⟩
        · intro c90
          have h := h.2 c90
          exact ⟨h, K⟩
    · intro c91
      have h := h.2 c91
      exact ⟨h, K⟩
  · intro c92
    have h := h.2 c92
    exact ⟨h, K⟩
theorem ko_X4_rainLine {Q : Int32 → HS → Prop} {v0 : Nat} {S : HS} (h : P_X4_rainLine v0 Q S) : P_X4_rainLine v0 (fun r T => Q r T ∧ KO_C v0 S T) S := ko_X4_rainLine_0 h (koc_rf _ S)
set_option maxRecDepth 20000 in
set_option maxHeartbeats 1000000 in
theorem ko_X4_roadLine_130 {Q : Int32 → HS → Prop} {v0 : Nat} {S0 S : HS} (h : P_X4_roadLine_130 Q v0 S) (K : KO_C v0 S0 S) : P_X4_roadLine_130 (fun r T => Q r T ∧ KO_C v0 S0 T) v0 S := by
  delta P_X4_roadLine_130 at h ⊢
  obtain ⟨c1, h⟩ := h
  refine ⟨c1, ?_⟩
  obtain ⟨b2, e3, h⟩ := h
  refine ⟨b2, e3, ?_⟩
  have f4 := koc_f K e3
  obtain ⟨c5, h⟩ := h
  refine ⟨c5, ?_⟩
  intro x7 e6
  have h := h x7 e6
  intro x9 e8
  have h := h x9 e8
  intro x11 e10
  have h := h x11 e10
  have K := koc_I K e10 (owc_w f4)
  exact ⟨h, K⟩
set_option maxRecDepth 20000 in
set_option maxHeartbeats 1000000 in
theorem ko_X4_roadLine_0 {Q : Int32 → HS → Prop} {v0 : Nat} {S0 S : HS} (h : P_X4_roadLine_0 Q v0 S) (K : KO_C v0 S0 S) : P_X4_roadLine_0 (fun r T => Q r T ∧ KO_C v0 S0 T) v0 S := by
  delta P_X4_roadLine_0 at h ⊢
  obtain ⟨c1, h⟩ := h
  refine ⟨c1, ?_⟩
  obtain ⟨b2, e3, h⟩ := h
  refine ⟨b2, e3, ?_⟩
  have f4 := koc_f K e3
  obtain ⟨c5, h⟩ := h
  refine ⟨c5, ?_⟩
  obtain ⟨b6, e7, h⟩ := h
  refine ⟨b6, e7, ?_⟩
  have f8 := koc_f K e7
  obtain ⟨b9, e10, h⟩ := h
  refine ⟨b9, e10, ?_⟩
  have f11 := koc_f K e10
  obtain ⟨c12, h⟩ := h
  refine ⟨c12, ?_⟩
  intro x14 e13
  have h := h x14 e13
  obtain ⟨c15, h⟩ := h
  refine ⟨c15, ?_⟩
  obtain ⟨c16, h⟩ := h
  refine ⟨c16, ?_⟩
  obtain ⟨b17, e18, h⟩ := h
  refine ⟨b17, e18, ?_⟩
  have f19 := koc_f K e18
  refine cm_X4_placeBut (kv_X4_placeBut h) h (fun x20 x21 p24 h g22 g23 => ?_)
  have h := h g22 g23
  have K := koc_V K p24.2 owc_r
  refine ⟨?_, ?_⟩
  · intro c25
    have h := h.1 c25
    intro x27 e26
    have h := h x27 e26
    obtain ⟨c28, h⟩ := h
    refine ⟨c28, ?_⟩
    intro x30 e29
    have h := h x30 e29
    have K := koc_I K e29 (owc_e f4 f8 f19 (by decide))
    refine cm_X4_side (kv_X4_side h) h (fun x31 x32 p35 h g33 g34 => ?_)
    have h := h g33 g34
    have K := koc_V K p35.2 owc_r
    refine ⟨?_, ?_⟩
    · intro c36
      have h := h.1 c36
      intro x38 e37
      have h := h x38 e37
      intro x40 e39
      have h := h x40 e39
      have K := koc_I K e39 (owc_e f4 f8 f19 (by decide))
      refine cm_X4_whole (kv_X4_whole h) h (fun x41 x42 p45 h g43 g44 => ?_)
      have h := h g43 g44
      have K := koc_V K p45.2 owc_r
      refine ⟨?_, ?_⟩
      · intro c46
        have h := h.1 c46
        intro x48 e47
        have h := h x48 e47
        intro x50 e49
        have h := h x50 e49
        have K := koc_I K e49 (owc_e f4 f8 f19 (by decide))
        intro x52 e51
        have h := h x52 e51
        refine cm_X4_placeBut (kv_X4_placeBut h) h (fun x53 x54 p57 h g55 g56 => ?_)
        have h := h g55 g56
        have K := koc_V K p57.2 owc_r
        refine ⟨?_, ?_⟩
        · intro c58
          have h := h.1 c58
          intro x60 e59
          have h := h x60 e59
          intro x62 e61
          have h := h x62 e61
          have K := koc_I K e61 (owc_e f4 f8 f19 (by decide))
          intro x64 e63
          have h := h x64 e63
          have K := koc_I K e63 (owc_e f4 f8 f19 (by decide))
          refine cm_X4_is (kz_X4_is h) h (fun x65 x66 p69 h g67 g68 => ?_)
          have h := h g67 g68
          have K := koc_Z K p69.2
          refine ⟨?_, ?_⟩
          · intro c70
            have h := h.1 c70
            exact ko_X4_roadLine_130 h K
          · intro c71
            have h := h.2 c71
            intro x73 e72
            have h := h x73 e72
            refine cm_X4_wordAndWhole (kv_X4_wordAndWhole h) h (fun x74 x75 p78 h g76 g77 => ?_)
            have h := h g76 g77
            have K := koc_V K p78.2 owc_r
            refine ⟨?_, ?_⟩
            · intro c79
              have h := h.1 c79
              intro x81 e80
              have h := h x81 e80
              intro x83 e82
              have h := h x83 e82
              have K := koc_I K e82 (owc_e f4 f8 f19 (by decide))
              exact ko_X4_roadLine_130 h K
            · intro c84
              have h := h.2 c84
              exact ⟨h, K⟩
        · intro c85
          have h := h.2 c85
          exact ⟨h, K⟩
      · intro c86
        have h := h.2 c86
        exact ⟨h, K⟩
    · intro c87
      have h := h.2 c87
      exact ⟨h, K⟩
  · intro c88
    have h := h.2 c88
    exact ⟨h, K⟩
theorem ko_X4_roadLine {Q : Int32 → HS → Prop} {v0 : Nat} {S : HS} (h : P_X4_roadLine v0 Q S) : P_X4_roadLine v0 (fun r T => Q r T ∧ KO_C v0 S T) S := ko_X4_roadLine_0 h (koc_rf _ S)
set_option maxRecDepth 20000 in
set_option maxHeartbeats 1000000 in
theorem kv_X4_sign_0 {Q : Int32 → HS → Prop} {v0 : Nat} {v1 : Int32} {S0 S : HS} (h : P_X4_sign_0 Q v0 v1 S) (K : KV v0 S0 S) : P_X4_sign_0 (fun r T => Q r T ∧ KV v0 S0 T) v0 v1 S := by
  delta P_X4_sign_0 at h ⊢
  obtain ⟨c1, h⟩ := h
  refine ⟨c1, ?_⟩
  intro x3 e2
  have h := h x3 e2
  refine ⟨?_, ?_⟩
  · intro c4
    have h := h.1 c4
    refine cm_X4_next (kv_X4_next h) h (fun x5 p7 h g6 => ?_)
    have h := h g6
    have K := kv_tr K p7.2
    exact ⟨h, K⟩
  · intro c8
    have h := h.2 c8
    refine cm_X4_fail (kv_X4_fail h) h (fun x9 x10 p13 h g11 g12 => ?_)
    have h := h g11 g12
    have K := kv_tr K p13.2
    obtain ⟨c14, h⟩ := h
    refine ⟨c14, ?_⟩
    exact ⟨h, K⟩
theorem kv_X4_sign {Q : Int32 → HS → Prop} {v0 : Nat} {v1 : Int32} {S : HS} (h : P_X4_sign v0 v1 Q S) : P_X4_sign v0 v1 (fun r T => Q r T ∧ KV v0 S T) S := kv_X4_sign_0 h (kv_rf _ S)
set_option maxRecDepth 20000 in
set_option maxHeartbeats 1000000 in
theorem kv_X4_someWalker_0 {Q : Int32 → HS → Prop} {v0 : Nat} {S0 S : HS} (h : P_X4_someWalker_0 Q v0 S) (K : KV v0 S0 S) : P_X4_someWalker_0 (fun r T => Q r T ∧ KV v0 S0 T) v0 S := by
  delta P_X4_someWalker_0 at h ⊢
  obtain ⟨c1, h⟩ := h
  refine ⟨c1, ?_⟩
  refine cm_X4_canBeName (kz_X4_canBeName h) h (fun x2 x3 p6 h g4 g5 => ?_)
  have h := h g4 g5
  have K := kv_Z K p6.2
  refine ⟨?_, ?_⟩
  · intro c7
    have h := h.1 c7
    refine cm_X4_findName (kz_X4_findName h) h (fun x8 x9 p11 h g10 => ?_)
    have h := h g10
    have K := kv_Z K p11.2
    refine ⟨?_, ?_⟩
    · intro c12
      have h := h.1 c12
      intro x14 e13
      have h := h x14 e13
      intro x16 e15
      have h := h x16 e15
      have K := kv_I K e15
      refine cm_X4_next (kv_X4_next h) h (fun x17 p19 h g18 => ?_)
      have h := h g18
      have K := kv_tr K p19.2
      exact ⟨h, K⟩
    · intro c20
      have h := h.2 c20
      refine cm_X4_fail (kv_X4_fail h) h (fun x21 x22 p25 h g23 g24 => ?_)
      have h := h g23 g24
      have K := kv_tr K p25.2
      obtain ⟨c26, h⟩ := h
      refine ⟨c26, ?_⟩
      exact ⟨h, K⟩
  · intro c27
    have h := h.2 c27
    refine cm_X4_fail (kv_X4_fail h) h (fun x28 x29 p32 h g30 g31 => ?_)
    have h := h g30 g31
    have K := kv_tr K p32.2
    obtain ⟨c33, h⟩ := h
    refine ⟨c33, ?_⟩
    exact ⟨h, K⟩
theorem kv_X4_someWalker {Q : Int32 → HS → Prop} {v0 : Nat} {S : HS} (h : P_X4_someWalker v0 Q S) : P_X4_someWalker v0 (fun r T => Q r T ∧ KV v0 S T) S := kv_X4_someWalker_0 h (kv_rf _ S)
set_option maxRecDepth 20000 in
set_option maxHeartbeats 1000000 in
theorem ko_X4_seenLine_47 {Q : Int32 → HS → Prop} {X30 X30_2 : Nat → Int32 → HS → Prop} {v0 : Nat} {v1 : Int32} {S0 S : HS} (h : P_X4_seenLine_47 Q X30 v0 v1 S) (K : KO_C v0 S0 S) (hX30 : ∀ (u0 : Nat) (u1 : Int32) (u2 : HS), X30 u0 u1 u2 → u0 = v0 → KO_C v0 S0 u2 → X30_2 u0 u1 u2) : P_X4_seenLine_47 (fun r T => Q r T ∧ KO_C v0 S0 T) X30_2 v0 v1 S := by
  delta P_X4_seenLine_47 at h ⊢
  obtain ⟨c1, h⟩ := h
  refine ⟨c1, ?_⟩
  refine cm_X4_whole (kv_X4_whole h) h (fun x2 x3 p6 h g4 g5 => ?_)
  have h := h g4 g5
  have K := koc_V K p6.2 owc_r
  refine ⟨?_, ?_⟩
  · intro c7
    have h := h.1 c7
    obtain ⟨b8, e9, h⟩ := h
    refine ⟨b8, e9, ?_⟩
    have f10 := koc_f K e9
    obtain ⟨c11, h⟩ := h
    refine ⟨c11, ?_⟩
    obtain ⟨b12, e13, h⟩ := h
    refine ⟨b12, e13, ?_⟩
    have f14 := koc_f K e13
    obtain ⟨b15, e16, h⟩ := h
    refine ⟨b15, e16, ?_⟩
    have f17 := koc_f K e16
    obtain ⟨c18, h⟩ := h
    refine ⟨c18, ?_⟩
    intro x20 e19
    have h := h x20 e19
    intro x22 e21
    have h := h x22 e21
    obtain ⟨c23, h⟩ := h
    refine ⟨c23, ?_⟩
    obtain ⟨c24, h⟩ := h
    refine ⟨c24, ?_⟩
    intro x26 e25
    have h := h x26 e25
    have K := koc_I K e25 (owc_d f10 f14 (by decide))
    intro x28 e27
    have h := h x28 e27
    exact hX30 _ _ _ h rfl K
  · intro c29
    have h := h.2 c29
    exact ⟨h, K⟩
set_option maxRecDepth 20000 in
set_option maxHeartbeats 1000000 in
theorem koB_X4_seenLine_30 {Q : Int32 → HS → Prop} {X30 X30_2 : Nat → Int32 → HS → Prop} {v0 : Nat} {v1 : Int32} {S0 S : HS} (h : B_X4_seenLine_30 Q X30 v0 v1 S) (K : KO_C v0 S0 S) (hX30 : ∀ (u0 : Nat) (u1 : Int32) (u2 : HS), X30 u0 u1 u2 → u0 = v0 → KO_C v0 S0 u2 → X30_2 u0 u1 u2) : B_X4_seenLine_30 (fun r T => Q r T ∧ KO_C v0 S0 T) X30_2 v0 v1 S := by
  delta B_X4_seenLine_30 at h ⊢
  refine ⟨?_, ?_⟩
  · intro c1
    have h := h.1 c1
    obtain ⟨c2, h⟩ := h
    refine ⟨c2, ?_⟩
    obtain ⟨b3, e4, h⟩ := h
    refine ⟨b3, e4, ?_⟩
    have f5 := koc_f K e4
    obtain ⟨c6, h⟩ := h
    refine ⟨c6, ?_⟩
    intro x8 e7
    have h := h x8 e7
    intro x10 e9
    have h := h x10 e9
    intro x12 e11
    have h := h x12 e11
    have K := koc_I K e11 (owc_w f5)
    exact ⟨h, K⟩
  · intro c13
    have h := h.2 c13
    refine ⟨?_, ?_⟩
    · intro c14
      have h := h.1 c14
      exact ko_X4_seenLine_47 h K hX30
    · intro c15
      have h := h.2 c15
      obtain ⟨c16, h⟩ := h
      refine ⟨c16, ?_⟩
      refine cm_X4_sign (kv_X4_sign h) h (fun x17 x18 p21 h g19 g20 => ?_)
      have h := h g19 g20
      have K := koc_V K p21.2 owc_r
      refine ⟨?_, ?_⟩
      · intro c22
        have h := h.1 c22
        exact ⟨h, K⟩
      · intro c23
        have h := h.2 c23
        exact ko_X4_seenLine_47 h K hX30
theorem ko_X4_seenLine_30 {Q : Int32 → HS → Prop} {v0 : Nat} {v1 : Int32} {S0 S : HS} (h : P_X4_seenLine_30 Q v0 v1 S) (K : KO_C v0 S0 S) : P_X4_seenLine_30 (fun r T => Q r T ∧ KO_C v0 S0 T) v0 v1 S := h (fun w0 v1 S => w0 = v0 → KO_C v0 S0 S → P_X4_seenLine_30 (fun r T => Q r T ∧ KO_C v0 S0 T) w0 v1 S) (fun w0 v1 S hB e K => by
  subst e; exact fd_X4_seenLine_30 (koB_X4_seenLine_30 hB K (fun _ _ _ hx e K => hx e K))) rfl K
set_option maxRecDepth 20000 in
set_option maxHeartbeats 1000000 in
theorem ko_X4_seenLine_0 {Q : Int32 → HS → Prop} {v0 : Nat} {S0 S : HS} (h : P_X4_seenLine_0 Q v0 S) (K : KO_C v0 S0 S) : P_X4_seenLine_0 (fun r T => Q r T ∧ KO_C v0 S0 T) v0 S := by
  delta P_X4_seenLine_0 at h ⊢
  obtain ⟨c1, h⟩ := h
  refine ⟨c1, ?_⟩
  refine cm_X4_someWalker (kv_X4_someWalker h) h (fun x2 x3 p6 h g4 g5 => ?_)
  have h := h g4 g5
  have K := koc_V K p6.2 owc_r
  refine ⟨?_, ?_⟩
  · intro c7
    have h := h.1 c7
    obtain ⟨b8, e9, h⟩ := h
    refine ⟨b8, e9, ?_⟩
    have f10 := koc_f K e9
    obtain ⟨c11, h⟩ := h
    refine ⟨c11, ?_⟩
    obtain ⟨b12, e13, h⟩ := h
    refine ⟨b12, e13, ?_⟩
    have f14 := koc_f K e13
    obtain ⟨b15, e16, h⟩ := h
    refine ⟨b15, e16, ?_⟩
    have f17 := koc_f K e16
    obtain ⟨c18, h⟩ := h
    refine ⟨c18, ?_⟩
    intro x20 e19
    have h := h x20 e19
    intro x22 e21
    have h := h x22 e21
    obtain ⟨c23, h⟩ := h
    refine ⟨c23, ?_⟩
    obtain ⟨c24, h⟩ := h
    refine ⟨c24, ?_⟩
    intro x26 e25
    have h := h x26 e25
    have K := koc_I K e25 (owc_d f10 f14 (by decide))
    exact ko_X4_seenLine_30 h K
  · intro c27
    have h := h.2 c27
    exact ⟨h, K⟩
theorem ko_X4_seenLine {Q : Int32 → HS → Prop} {v0 : Nat} {S : HS} (h : P_X4_seenLine v0 Q S) : P_X4_seenLine v0 (fun r T => Q r T ∧ KO_C v0 S T) S := ko_X4_seenLine_0 h (koc_rf _ S)
set_option maxRecDepth 20000 in
set_option maxHeartbeats 1000000 in
theorem ko_X4_walkerLine_0 {Q : Int32 → HS → Prop} {v0 : Nat} {S0 S : HS} (h : P_X4_walkerLine_0 Q v0 S) (K : KO_C v0 S0 S) : P_X4_walkerLine_0 (fun r T => Q r T ∧ KO_C v0 S0 T) v0 S := by
  delta P_X4_walkerLine_0 at h ⊢
  obtain ⟨c1, h⟩ := h
  refine ⟨c1, ?_⟩
  obtain ⟨b2, e3, h⟩ := h
  refine ⟨b2, e3, ?_⟩
  have f4 := koc_f K e3
  obtain ⟨c5, h⟩ := h
  refine ⟨c5, ?_⟩
  obtain ⟨b6, e7, h⟩ := h
  refine ⟨b6, e7, ?_⟩
  have f8 := koc_f K e7
  obtain ⟨b9, e10, h⟩ := h
  refine ⟨b9, e10, ?_⟩
  have f11 := koc_f K e10
  obtain ⟨c12, h⟩ := h
  refine ⟨c12, ?_⟩
  intro x14 e13
  have h := h x14 e13
  obtain ⟨c15, h⟩ := h
  refine ⟨c15, ?_⟩
  obtain ⟨c16, h⟩ := h
  refine ⟨c16, ?_⟩
  obtain ⟨b17, e18, h⟩ := h
  refine ⟨b17, e18, ?_⟩
  have f19 := koc_f K e18
  obtain ⟨b20, e21, h⟩ := h
  refine ⟨b20, e21, ?_⟩
  have f22 := koc_f K e21
  obtain ⟨c23, h⟩ := h
  refine ⟨c23, ?_⟩
  intro x25 e24
  have h := h x25 e24
  refine cm_X4_newName (ko_X4_newName h) h (fun x26 x27 p30 h g28 g29 => ?_)
  have h := h g28 g29
  have K := koc_tr K p30.2
  refine ⟨?_, ?_⟩
  · intro c31
    have h := h.1 c31
    exact ⟨h, K⟩
  · intro c32
    have h := h.2 c32
    refine cm_X4_kindOf (ko_X4_kindOf h (owtc K (owc_e f4 f8 f19 (by decide)))) h (fun x33 x34 p37 h g35 g36 => ?_)
    have h := h g35 g36
    have K := koc_tr K p37.2
    refine ⟨?_, ?_⟩
    · intro c38
      have h := h.1 c38
      exact ⟨h, K⟩
    · intro c39
      have h := h.2 c39
      refine cm_X4_bodyOf (ko_X4_bodyOf h (owtc K (owc_e f4 f8 f19 (by decide)))) h (fun x40 x41 p44 h g42 g43 => ?_)
      have h := h g42 g43
      have K := koc_tr K p44.2
      refine ⟨?_, ?_⟩
      · intro c45
        have h := h.1 c45
        refine cm_X4_wordAndWhole (kv_X4_wordAndWhole h) h (fun x46 x47 p50 h g48 g49 => ?_)
        have h := h g48 g49
        have K := koc_V K p50.2 owc_r
        refine ⟨?_, ?_⟩
        · intro c51
          have h := h.1 c51
          intro x53 e52
          have h := h x53 e52
          obtain ⟨c54, h⟩ := h
          refine ⟨c54, ?_⟩
          intro x56 e55
          have h := h x56 e55
          have K := koc_I K e55 (owc_e f4 f8 f19 (by decide))
          intro x58 e57
          have h := h x58 e57
          refine cm_X4_wordAndWhole (kv_X4_wordAndWhole h) h (fun x59 x60 p63 h g61 g62 => ?_)
          have h := h g61 g62
          have K := koc_V K p63.2 owc_r
          refine ⟨?_, ?_⟩
          · intro c64
            have h := h.1 c64
            intro x66 e65
            have h := h x66 e65
            intro x68 e67
            have h := h x68 e67
            have K := koc_I K e67 (owc_e f4 f8 f19 (by decide))
            obtain ⟨b69, e70, h⟩ := h
            refine ⟨b69, e70, ?_⟩
            have f71 := koc_f K e70
            obtain ⟨c72, h⟩ := h
            refine ⟨c72, ?_⟩
            intro x74 e73
            have h := h x74 e73
            intro x76 e75
            have h := h x76 e75
            intro x78 e77
            have h := h x78 e77
            have K := koc_I K e77 (owc_w f71)
            exact ⟨h, K⟩
          · intro c79
            have h := h.2 c79
            exact ⟨h, K⟩
        · intro c80
          have h := h.2 c80
          exact ⟨h, K⟩
      · intro c81
        have h := h.2 c81
        exact ⟨h, K⟩
theorem ko_X4_walkerLine {Q : Int32 → HS → Prop} {v0 : Nat} {S : HS} (h : P_X4_walkerLine v0 Q S) : P_X4_walkerLine v0 (fun r T => Q r T ∧ KO_C v0 S T) S := ko_X4_walkerLine_0 h (koc_rf _ S)
set_option maxRecDepth 20000 in
set_option maxHeartbeats 1000000 in
theorem ko_X4_worldLine_0 {Q : Int32 → HS → Prop} {v0 : Nat} {S0 S : HS} (h : P_X4_worldLine_0 Q v0 S) (K : KO_C v0 S0 S) : P_X4_worldLine_0 (fun r T => Q r T ∧ KO_C v0 S0 T) v0 S := by
  delta P_X4_worldLine_0 at h ⊢
  obtain ⟨c1, h⟩ := h
  refine ⟨c1, ?_⟩
  obtain ⟨b2, e3, h⟩ := h
  refine ⟨b2, e3, ?_⟩
  have f4 := koc_f K e3
  obtain ⟨c5, h⟩ := h
  refine ⟨c5, ?_⟩
  refine cm_X8_isTold (kz_X8_isTold h) h (fun x6 x7 p10 h g8 g9 => ?_)
  have h := h g8 g9
  have K := koc_Z K p10.2
  refine ⟨?_, ?_⟩
  · intro c11
    have h := h.1 c11
    refine cm_X4_next (kv_X4_next h) h (fun x12 p14 h g13 => ?_)
    have h := h g13
    have K := koc_V K p14.2 owc_r
    refine cm_X4_wordAndWhole (kv_X4_wordAndWhole h) h (fun x15 x16 p19 h g17 g18 => ?_)
    have h := h g17 g18
    have K := koc_V K p19.2 owc_r
    refine ⟨?_, ?_⟩
    · intro c20
      have h := h.1 c20
      obtain ⟨b21, e22, h⟩ := h
      refine ⟨b21, e22, ?_⟩
      have f23 := koc_f K e22
      intro x25 e24
      have h := h x25 e24
      obtain ⟨c26, h⟩ := h
      refine ⟨c26, ?_⟩
      intro x28 e27
      have h := h x28 e27
      have K := koc_I K e27 (owc_w f23)
      exact ⟨h, K⟩
    · intro c29
      have h := h.2 c29
      exact ⟨h, K⟩
  · intro c30
    have h := h.2 c30
    refine cm_X4_fail (kv_X4_fail h) h (fun x31 x32 p35 h g33 g34 => ?_)
    have h := h g33 g34
    have K := koc_V K p35.2 owc_r
    obtain ⟨c36, h⟩ := h
    refine ⟨c36, ?_⟩
    exact ⟨h, K⟩
theorem ko_X4_worldLine {Q : Int32 → HS → Prop} {v0 : Nat} {S : HS} (h : P_X4_worldLine v0 Q S) : P_X4_worldLine v0 (fun r T => Q r T ∧ KO_C v0 S T) S := ko_X4_worldLine_0 h (koc_rf _ S)
set_option maxRecDepth 20000 in
set_option maxHeartbeats 1000000 in
theorem ko_X4_read_280 {Q : Int32 → HS → Prop} {v0 : Nat} {S0 S : HS} (h : P_X4_read_280 Q v0 S) (K : KO_C v0 S0 S) : P_X4_read_280 (fun r T => Q r T ∧ KO_C v0 S0 T) v0 S := by
  delta P_X4_read_280 at h ⊢
  obtain ⟨c1, h⟩ := h
  refine ⟨c1, ?_⟩
  refine cm_X4_fail (kv_X4_fail h) h (fun x2 x3 p6 h g4 g5 => ?_)
  have h := h g4 g5
  have K := koc_V K p6.2 owc_r
  refine ⟨?_, ?_⟩
  · intro c7
    have h := h.1 c7
    exact ⟨h, K⟩
  · intro c8
    have h := h.2 c8
    exact ⟨h, K⟩
set_option maxRecDepth 20000 in
set_option maxHeartbeats 1000000 in
theorem ko_X4_read_295 {Q : Int32 → HS → Prop} {X8 X8_2 : Nat → Int32 → HS → Prop} {v0 : Nat} {v3 : Int32} {v4 : Int32} {S0 S : HS} (h : P_X4_read_295 Q X8 v0 v3 v4 S) (K : KO_C v0 S0 S) (hX8 : ∀ (u0 : Nat) (u1 : Int32) (u2 : HS), X8 u0 u1 u2 → u0 = v0 → KO_C v0 S0 u2 → X8_2 u0 u1 u2) : P_X4_read_295 (fun r T => Q r T ∧ KO_C v0 S0 T) X8_2 v0 v3 v4 S := by
  delta P_X4_read_295 at h ⊢
  refine ⟨?_, ?_⟩
  · intro c1
    have h := h.1 c1
    exact ⟨h, K⟩
  · intro c2
    have h := h.2 c2
    obtain ⟨c3, h⟩ := h
    refine ⟨c3, ?_⟩
    refine cm_X4_sign (kv_X4_sign h) h (fun x4 x5 p8 h g6 g7 => ?_)
    have h := h g6 g7
    have K := koc_V K p8.2 owc_r
    refine ⟨?_, ?_⟩
    · intro c9
      have h := h.1 c9
      intro x11 e10
      have h := h x11 e10
      exact hX8 _ _ _ h rfl K
    · intro c12
      have h := h.2 c12
      exact ⟨h, K⟩
set_option maxRecDepth 20000 in
set_option maxHeartbeats 1000000 in
theorem ko_X4_read_248 {Q : Int32 → HS → Prop} {X8 X8_2 : Nat → Int32 → HS → Prop} {v0 : Nat} {v3 : Int32} {v4 : Int32} {S0 S : HS} (h : P_X4_read_248 Q X8 v0 v3 v4 S) (K : KO_C v0 S0 S) (hX8 : ∀ (u0 : Nat) (u1 : Int32) (u2 : HS), X8 u0 u1 u2 → u0 = v0 → KO_C v0 S0 u2 → X8_2 u0 u1 u2) : P_X4_read_248 (fun r T => Q r T ∧ KO_C v0 S0 T) X8_2 v0 v3 v4 S := by
  delta P_X4_read_248 at h ⊢
  refine ⟨?_, ?_⟩
  · intro c1
    have h := h.1 c1
    exact ko_X4_read_295 h K hX8
  · intro c2
    have h := h.2 c2
    obtain ⟨c3, h⟩ := h
    refine ⟨c3, ?_⟩
    intro x5 e4
    have h := h x5 e4
    refine ⟨?_, ?_⟩
    · intro c6
      have h := h.1 c6
      exact ko_X4_read_295 h K hX8
    · intro c7
      have h := h.2 c7
      obtain ⟨b8, e9, h⟩ := h
      refine ⟨b8, e9, ?_⟩
      have f10 := koc_f K e9
      obtain ⟨c11, h⟩ := h
      refine ⟨c11, ?_⟩
      intro x13 e12
      have h := h x13 e12
      refine ⟨?_, ?_⟩
      · intro c14
        have h := h.1 c14
        exact ko_X4_read_280 h K
      · intro c15
        have h := h.2 c15
        obtain ⟨b16, e17, h⟩ := h
        refine ⟨b16, e17, ?_⟩
        have f18 := koc_f K e17
        obtain ⟨c19, h⟩ := h
        refine ⟨c19, ?_⟩
        intro x21 e20
        have h := h x21 e20
        refine ⟨?_, ?_⟩
        · intro c22
          have h := h.1 c22
          exact ⟨h, K⟩
        · intro c23
          have h := h.2 c23
          exact ko_X4_read_280 h K
set_option maxRecDepth 20000 in
set_option maxHeartbeats 1000000 in
theorem ko_X4_read_70 {Q : Int32 → HS → Prop} {X8 X8_2 : Nat → Int32 → HS → Prop} {v0 : Nat} {v3 : Int32} {s0 : Int32} {S0 S : HS} (h : P_X4_read_70 Q X8 v0 v3 s0 S) (K : KO_C v0 S0 S) (hX8 : ∀ (u0 : Nat) (u1 : Int32) (u2 : HS), X8 u0 u1 u2 → u0 = v0 → KO_C v0 S0 u2 → X8_2 u0 u1 u2) : P_X4_read_70 (fun r T => Q r T ∧ KO_C v0 S0 T) X8_2 v0 v3 s0 S := by
  delta P_X4_read_70 at h ⊢
  exact ko_X4_read_248 h K hX8
set_option maxRecDepth 20000 in
set_option maxHeartbeats 1000000 in
theorem ko_X4_read_69 {Q : Int32 → HS → Prop} {X8 X8_2 : Nat → Int32 → HS → Prop} {v0 : Nat} {v3 : Int32} {S0 S : HS} (h : P_X4_read_69 Q X8 v0 v3 S) (K : KO_C v0 S0 S) (hX8 : ∀ (u0 : Nat) (u1 : Int32) (u2 : HS), X8 u0 u1 u2 → u0 = v0 → KO_C v0 S0 u2 → X8_2 u0 u1 u2) : P_X4_read_69 (fun r T => Q r T ∧ KO_C v0 S0 T) X8_2 v0 v3 S := by
  delta P_X4_read_69 at h ⊢
  exact ko_X4_read_70 h K hX8
set_option maxRecDepth 20000 in
set_option maxHeartbeats 1000000 in
theorem ko_X4_read_112 {Q : Int32 → HS → Prop} {X8 X8_2 : Nat → Int32 → HS → Prop} {v0 : Nat} {v3 : Int32} {s0 : Int32} {S0 S : HS} (h : P_X4_read_112 Q X8 v0 v3 s0 S) (K : KO_C v0 S0 S) (hX8 : ∀ (u0 : Nat) (u1 : Int32) (u2 : HS), X8 u0 u1 u2 → u0 = v0 → KO_C v0 S0 u2 → X8_2 u0 u1 u2) : P_X4_read_112 (fun r T => Q r T ∧ KO_C v0 S0 T) X8_2 v0 v3 s0 S := by
  delta P_X4_read_112 at h ⊢
  exact ko_X4_read_248 h K hX8
set_option maxRecDepth 20000 in
set_option maxHeartbeats 1000000 in
theorem ko_X4_read_111 {Q : Int32 → HS → Prop} {X8 X8_2 : Nat → Int32 → HS → Prop} {v0 : Nat} {v3 : Int32} {S0 S : HS} (h : P_X4_read_111 Q X8 v0 v3 S) (K : KO_C v0 S0 S) (hX8 : ∀ (u0 : Nat) (u1 : Int32) (u2 : HS), X8 u0 u1 u2 → u0 = v0 → KO_C v0 S0 u2 → X8_2 u0 u1 u2) : P_X4_read_111 (fun r T => Q r T ∧ KO_C v0 S0 T) X8_2 v0 v3 S := by
  delta P_X4_read_111 at h ⊢
  exact ko_X4_read_112 h K hX8
set_option maxRecDepth 20000 in
set_option maxHeartbeats 1000000 in
theorem ko_X4_read_154 {Q : Int32 → HS → Prop} {X8 X8_2 : Nat → Int32 → HS → Prop} {v0 : Nat} {v3 : Int32} {s0 : Int32} {S0 S : HS} (h : P_X4_read_154 Q X8 v0 v3 s0 S) (K : KO_C v0 S0 S) (hX8 : ∀ (u0 : Nat) (u1 : Int32) (u2 : HS), X8 u0 u1 u2 → u0 = v0 → KO_C v0 S0 u2 → X8_2 u0 u1 u2) : P_X4_read_154 (fun r T => Q r T ∧ KO_C v0 S0 T) X8_2 v0 v3 s0 S := by
  delta P_X4_read_154 at h ⊢
  exact ko_X4_read_248 h K hX8
set_option maxRecDepth 20000 in
set_option maxHeartbeats 1000000 in
theorem ko_X4_read_153 {Q : Int32 → HS → Prop} {X8 X8_2 : Nat → Int32 → HS → Prop} {v0 : Nat} {v3 : Int32} {S0 S : HS} (h : P_X4_read_153 Q X8 v0 v3 S) (K : KO_C v0 S0 S) (hX8 : ∀ (u0 : Nat) (u1 : Int32) (u2 : HS), X8 u0 u1 u2 → u0 = v0 → KO_C v0 S0 u2 → X8_2 u0 u1 u2) : P_X4_read_153 (fun r T => Q r T ∧ KO_C v0 S0 T) X8_2 v0 v3 S := by
  delta P_X4_read_153 at h ⊢
  exact ko_X4_read_154 h K hX8
set_option maxRecDepth 20000 in
set_option maxHeartbeats 1000000 in
theorem ko_X4_read_195 {Q : Int32 → HS → Prop} {X8 X8_2 : Nat → Int32 → HS → Prop} {v0 : Nat} {v3 : Int32} {s0 : Int32} {S0 S : HS} (h : P_X4_read_195 Q X8 v0 v3 s0 S) (K : KO_C v0 S0 S) (hX8 : ∀ (u0 : Nat) (u1 : Int32) (u2 : HS), X8 u0 u1 u2 → u0 = v0 → KO_C v0 S0 u2 → X8_2 u0 u1 u2) : P_X4_read_195 (fun r T => Q r T ∧ KO_C v0 S0 T) X8_2 v0 v3 s0 S := by
  delta P_X4_read_195 at h ⊢
  exact ko_X4_read_248 h K hX8
set_option maxRecDepth 20000 in
set_option maxHeartbeats 1000000 in
theorem ko_X4_read_194 {Q : Int32 → HS → Prop} {X8 X8_2 : Nat → Int32 → HS → Prop} {v0 : Nat} {v3 : Int32} {S0 S : HS} (h : P_X4_read_194 Q X8 v0 v3 S) (K : KO_C v0 S0 S) (hX8 : ∀ (u0 : Nat) (u1 : Int32) (u2 : HS), X8 u0 u1 u2 → u0 = v0 → KO_C v0 S0 u2 → X8_2 u0 u1 u2) : P_X4_read_194 (fun r T => Q r T ∧ KO_C v0 S0 T) X8_2 v0 v3 S := by
  delta P_X4_read_194 at h ⊢
  exact ko_X4_read_195 h K hX8
set_option maxRecDepth 20000 in
set_option maxHeartbeats 1000000 in
theorem ko_X4_read_236 {Q : Int32 → HS → Prop} {X8 X8_2 : Nat → Int32 → HS → Prop} {v0 : Nat} {v3 : Int32} {s0 : Int32} {S0 S : HS} (h : P_X4_read_236 Q X8 v0 v3 s0 S) (K : KO_C v0 S0 S) (hX8 : ∀ (u0 : Nat) (u1 : Int32) (u2 : HS), X8 u0 u1 u2 → u0 = v0 → KO_C v0 S0 u2 → X8_2 u0 u1 u2) : P_X4_read_236 (fun r T => Q r T ∧ KO_C v0 S0 T) X8_2 v0 v3 s0 S := by
  delta P_X4_read_236 at h ⊢
  exact ko_X4_read_248 h K hX8
set_option maxRecDepth 20000 in
set_option maxHeartbeats 1000000 in
theorem ko_X4_read_235 {Q : Int32 → HS → Prop} {X8 X8_2 : Nat → Int32 → HS → Prop} {v0 : Nat} {v3 : Int32} {S0 S : HS} (h : P_X4_read_235 Q X8 v0 v3 S) (K : KO_C v0 S0 S) (hX8 : ∀ (u0 : Nat) (u1 : Int32) (u2 : HS), X8 u0 u1 u2 → u0 = v0 → KO_C v0 S0 u2 → X8_2 u0 u1 u2) : P_X4_read_235 (fun r T => Q r T ∧ KO_C v0 S0 T) X8_2 v0 v3 S := by
  delta P_X4_read_235 at h ⊢
  exact ko_X4_read_236 h K hX8
set_option maxRecDepth 20000 in
set_option maxHeartbeats 1000000 in
theorem koB_X4_read_8 {Q : Int32 → HS → Prop} {X8 X8_2 : Nat → Int32 → HS → Prop} {v0 : Nat} {v3 : Int32} {S0 S : HS} (h : B_X4_read_8 Q X8 v0 v3 S) (K : KO_C v0 S0 S) (hX8 : ∀ (u0 : Nat) (u1 : Int32) (u2 : HS), X8 u0 u1 u2 → u0 = v0 → KO_C v0 S0 u2 → X8_2 u0 u1 u2) : B_X4_read_8 (fun r T => Q r T ∧ KO_C v0 S0 T) X8_2 v0 v3 S := by
  delta B_X4_read_8 at h ⊢
  refine ⟨?_, ?_⟩
  · intro c1
    have h := h.1 c1
    obtain ⟨c2, h⟩ := h
    refine ⟨c2, ?_⟩
    refine cm_X4_fail (kv_X4_fail h) h (fun x3 x4 p7 h g5 g6 => ?_)
    have h := h g5 g6
    have K := koc_V K p7.2 owc_r
    obtain ⟨c8, h⟩ := h
    refine ⟨c8, ?_⟩
    exact ⟨h, K⟩
  · intro c9
    have h := h.2 c9
    obtain ⟨c10, h⟩ := h
    refine ⟨c10, ?_⟩
    refine cm_X4_is (kz_X4_is h) h (fun x11 x12 p15 h g13 g14 => ?_)
    have h := h g13 g14
    have K := koc_Z K p15.2
    refine ⟨?_, ?_⟩
    · intro c16
      have h := h.1 c16
      refine cm_X4_is (kz_X4_is h) h (fun x17 x18 p21 h g19 g20 => ?_)
      have h := h g19 g20
      have K := koc_Z K p21.2
      refine ⟨?_, ?_⟩
      · intro c22
        have h := h.1 c22
        refine cm_X4_is (kz_X4_is h) h (fun x23 x24 p27 h g25 g26 => ?_)
        have h := h g25 g26
        have K := koc_Z K p27.2
        refine ⟨?_, ?_⟩
        · intro c28
          have h := h.1 c28
          refine cm_X4_is (kz_X4_is h) h (fun x29 x30 p33 h g31 g32 => ?_)
          have h := h g31 g32
          have K := koc_Z K p33.2
          refine ⟨?_, ?_⟩
          · intro c34
            have h := h.1 c34
            refine cm_X4_is (kz_X4_is h) h (fun x35 x36 p39 h g37 g38 => ?_)
            have h := h g37 g38
            have K := koc_Z K p39.2
            refine ⟨?_, ?_⟩
            · intro c40
              have h := h.1 c40
              refine cm_X4_is (kz_X4_is h) h (fun x41 x42 p45 h g43 g44 => ?_)
              have h := h g43 g44
              have K := koc_Z K p45.2
              refine ⟨?_, ?_⟩
              · intro c46
                have h := h.1 c46
                refine cm_X4_fail (kv_X4_fail h) h (fun x47 x48 p51 h g49 g50 => ?_)
                have h := h g49 g50
                have K := koc_V K p51.2 owc_r
                exact ko_X4_read_248 h K hX8
              · intro c52
                have h := h.2 c52
                obtain ⟨b53, e54, h⟩ := h
                refine ⟨b53, e54, ?_⟩
                have f55 := koc_f K e54
                obtain ⟨c56, h⟩ := h
                refine ⟨c56, ?_⟩
                intro x58 e57
                have h := h x58 e57
                refine cm_X4_hasRoom (kv_X4_hasRoom h) h (fun x59 x60 p63 h g61 g62 => ?_)
                have h := h g61 g62
                have K := koc_V K p63.2 owc_r
                refine ⟨?_, ?_⟩
                · intro c64
                  have h := h.1 c64
                  exact ko_X4_read_235 h K hX8
                · intro c65
                  have h := h.2 c65
                  refine cm_X4_seenLine (ko_X4_seenLine h) h (fun x66 x67 p70 h g68 g69 => ?_)
                  have h := h g68 g69
                  have K := koc_tr K p70.2
                  refine ⟨?_, ?_⟩
                  · intro c71
                    have h := h.1 c71
                    exact ko_X4_read_235 h K hX8
                  · intro c72
                    have h := h.2 c72
                    exact ko_X4_read_236 h K hX8
            · intro c73
              have h := h.2 c73
              obtain ⟨b74, e75, h⟩ := h
              refine ⟨b74, e75, ?_⟩
              have f76 := koc_f K e75
              obtain ⟨c77, h⟩ := h
              refine ⟨c77, ?_⟩
              intro x79 e78
              have h := h x79 e78
              refine cm_X4_hasRoom (kv_X4_hasRoom h) h (fun x80 x81 p84 h g82 g83 => ?_)
              have h := h g82 g83
              have K := koc_V K p84.2 owc_r
              refine ⟨?_, ?_⟩
              · intro c85
                have h := h.1 c85
                exact ko_X4_read_194 h K hX8
              · intro c86
                have h := h.2 c86
                refine cm_X4_walkerLine (ko_X4_walkerLine h) h (fun x87 x88 p91 h g89 g90 => ?_)
                have h := h g89 g90
                have K := koc_tr K p91.2
                refine ⟨?_, ?_⟩
                · intro c92
                  have h := h.1 c92
                  exact ko_X4_read_194 h K hX8
                · intro c93
                  have h := h.2 c93
                  exact ko_X4_read_195 h K hX8
          · intro c94
            have h := h.2 c94
            obtain ⟨b95, e96, h⟩ := h
            refine ⟨b95, e96, ?_⟩
            have f97 := koc_f K e96
            obtain ⟨c98, h⟩ := h
            refine ⟨c98, ?_⟩
            intro x100 e99
            have h := h x100 e99
            refine cm_X4_hasRoom (kv_X4_hasRoom h) h (fun x101 x102 p105 h g103 g104 => ?_)
            have h := h g103 g104
            have K := koc_V K p105.2 owc_r
            refine ⟨?_, ?_⟩
            · intro c106
              have h := h.1 c106
              exact ko_X4_read_153 h K hX8
            · intro c107
              have h := h.2 c107
              refine cm_X4_roadLine (ko_X4_roadLine h) h (fun x108 x109 p112 h g110 g111 => ?_)
              have h := h g110 g111
              have K := koc_tr K p112.2
              refine ⟨?_, ?_⟩
              · intro c113
                have h := h.1 c113
                exact ko_X4_read_153 h K hX8
              · intro c114
                have h := h.2 c114
                exact ko_X4_read_154 h K hX8
        · intro c115
          have h := h.2 c115
          obtain ⟨b116, e117, h⟩ := h
          refine ⟨b116, e117, ?_⟩
          have f118 := koc_f K e117
          obtain ⟨c119, h⟩ := h
          refine ⟨c119, ?_⟩
          intro x121 e120
          have h := h x121 e120
          refine cm_X4_hasRoom (kv_X4_hasRoom h) h (fun x122 x123 p126 h g124 g125 => ?_)
          have h := h g124 g125
          have K := koc_V K p126.2 owc_r
          refine ⟨?_, ?_⟩
          · intro c127
            have h := h.1 c127
            exact ko_X4_read_111 h K hX8
          · intro c128
            have h := h.2 c128
            refine cm_X4_placeLine (ko_X4_placeLine h) h (fun x129 x130 p133 h g131 g132 => ?_)
            have h := h g131 g132
            have K := koc_tr K p133.2
            refine ⟨?_, ?_⟩
            · intro c134
              have h := h.1 c134
              exact ko_X4_read_111 h K hX8
            · intro c135
              have h := h.2 c135
              exact ko_X4_read_112 h K hX8
      · intro c136
        have h := h.2 c136
        obtain ⟨b137, e138, h⟩ := h
        refine ⟨b137, e138, ?_⟩
        have f139 := koc_f K e138
        obtain ⟨c140, h⟩ := h
        refine ⟨c140, ?_⟩
        intro x142 e141
        have h := h x142 e141
        refine cm_X4_hasRoom (kv_X4_hasRoom h) h (fun x143 x144 p147 h g145 g146 => ?_)
        have h := h g145 g146
        have K := koc_V K p147.2 owc_r
        refine ⟨?_, ?_⟩
        · intro c148
          have h := h.1 c148
          exact ko_X4_read_69 h K hX8
        · intro c149
          have h := h.2 c149
          refine cm_X4_rainLine (ko_X4_rainLine h) h (fun x150 x151 p154 h g152 g153 => ?_)
          have h := h g152 g153
          have K := koc_tr K p154.2
          refine ⟨?_, ?_⟩
          · intro c155
            have h := h.1 c155
            exact ko_X4_read_69 h K hX8
          · intro c156
            have h := h.2 c156
            exact ko_X4_read_70 h K hX8
    · intro c157
      have h := h.2 c157
      refine cm_X4_worldLine (ko_X4_worldLine h) h (fun x158 x159 p162 h g160 g161 => ?_)
      have h := h g160 g161
      have K := koc_tr K p162.2
      exact ko_X4_read_248 h K hX8
theorem ko_X4_read_8 {Q : Int32 → HS → Prop} {v0 : Nat} {v3 : Int32} {S0 S : HS} (h : P_X4_read_8 Q v0 v3 S) (K : KO_C v0 S0 S) : P_X4_read_8 (fun r T => Q r T ∧ KO_C v0 S0 T) v0 v3 S := h (fun w0 v3 S => w0 = v0 → KO_C v0 S0 S → P_X4_read_8 (fun r T => Q r T ∧ KO_C v0 S0 T) w0 v3 S) (fun w0 v3 S hB e K => by
  subst e; exact fd_X4_read_8 (koB_X4_read_8 hB K (fun _ _ _ hx e K => hx e K))) rfl K
set_option maxRecDepth 20000 in
set_option maxHeartbeats 1000000 in
theorem kz_X6_tell_0 {Q : Int32 → HS → Prop} {v0 : Nat} {v1 : Int32} {S0 S : HS} (h : P_X6_tell_0 Q v0 v1 S) (K : KZ S0 S) : P_X6_tell_0 (fun r T => Q r T ∧ KZ S0 T) v0 v1 S := by
  delta P_X6_tell_0 at h ⊢
  refine ⟨?_, ?_, ?_, ?_, ?_, ?_, ?_⟩
  · intro c1
    have h := h.1 c1
    obtain ⟨c2, h⟩ := h
    refine ⟨c2, ?_⟩
    intro x4 e3
    have h := h x4 e3
    exact ⟨h, K⟩
  · intro c5
    have h := h.2.1 c5
    obtain ⟨c6, h⟩ := h
    refine ⟨c6, ?_⟩
    intro x8 e7
    have h := h x8 e7
    exact ⟨h, K⟩
  · intro c9
    have h := h.2.2.1 c9
    obtain ⟨c10, h⟩ := h
    refine ⟨c10, ?_⟩
    intro x12 e11
    have h := h x12 e11
    exact ⟨h, K⟩
  · intro c13
    have h := h.2.2.2.1 c13
    obtain ⟨c14, h⟩ := h
    refine ⟨c14, ?_⟩
    intro x16 e15
    have h := h x16 e15
    exact ⟨h, K⟩
  · intro c17
    have h := h.2.2.2.2.1 c17
    obtain ⟨c18, h⟩ := h
    refine ⟨c18, ?_⟩
    intro x20 e19
    have h := h x20 e19
    exact ⟨h, K⟩
  · intro c21
    have h := h.2.2.2.2.2.1 c21
    obtain ⟨c22, h⟩ := h
    refine ⟨c22, ?_⟩
    intro x24 e23
    have h := h x24 e23
    exact ⟨h, K⟩
  · intro c25
    have h := h.2.2.2.2.2.2 c25
    obtain ⟨c26, h⟩ := h
    refine ⟨c26, ?_⟩
    intro x28 e27
    have h := h x28 e27
    exact ⟨h, K⟩
theorem kz_X6_tell {Q : Int32 → HS → Prop} {v0 : Nat} {v1 : Int32} {S : HS} (h : P_X6_tell v0 v1 Q S) : P_X6_tell v0 v1 (fun r T => Q r T ∧ KZ S T) S := kz_X6_tell_0 h (kz_rf S)
set_option maxRecDepth 20000 in
set_option maxHeartbeats 1000000 in
theorem kz_X8_hasPlace_0 {Q : Int32 → HS → Prop} {v0 : Nat} {v1 : Int32} {S0 S : HS} (h : P_X8_hasPlace_0 Q v0 v1 S) (K : KZ S0 S) : P_X8_hasPlace_0 (fun r T => Q r T ∧ KZ S0 T) v0 v1 S := by
  delta P_X8_hasPlace_0 at h ⊢
  refine ⟨?_, ?_⟩
  · intro c1
    have h := h.1 c1
    exact ⟨h, K⟩
  · intro c2
    have h := h.2 c2
    obtain ⟨c3, h⟩ := h
    refine ⟨c3, ?_⟩
    intro x5 e4
    have h := h x5 e4
    refine ⟨?_, ?_⟩
    · intro c6
      have h := h.1 c6
      exact ⟨h, K⟩
    · intro c7
      have h := h.2 c7
      obtain ⟨b8, e9, h⟩ := h
      refine ⟨b8, e9, ?_⟩
      obtain ⟨c10, h⟩ := h
      refine ⟨c10, ?_⟩
      refine ⟨?_, ?_⟩
      · intro c11
        have h := h.1 c11
        exact ⟨h, K⟩
      · intro c12
        have h := h.2 c12
        exact ⟨h, K⟩
theorem kz_X8_hasPlace {Q : Int32 → HS → Prop} {v0 : Nat} {v1 : Int32} {S : HS} (h : P_X8_hasPlace v0 v1 Q S) : P_X8_hasPlace v0 v1 (fun r T => Q r T ∧ KZ S T) S := kz_X8_hasPlace_0 h (kz_rf S)
set_option maxRecDepth 20000 in
set_option maxHeartbeats 1000000 in
theorem kz_X8_canWait_0 {Q : Int32 → HS → Prop} {v0 : Nat} {v1 : Int32} {S0 S : HS} (h : P_X8_canWait_0 Q v0 v1 S) (K : KZ S0 S) : P_X8_canWait_0 (fun r T => Q r T ∧ KZ S0 T) v0 v1 S := by
  delta P_X8_canWait_0 at h ⊢
  obtain ⟨c1, h⟩ := h
  refine ⟨c1, ?_⟩
  refine cm_X8_hasPlace (kz_X8_hasPlace h) h (fun x2 x3 p6 h g4 g5 => ?_)
  have h := h g4 g5
  have K := kz_Z K p6.2
  refine ⟨?_, ?_⟩
  · intro c7
    have h := h.1 c7
    exact ⟨h, K⟩
  · intro c8
    have h := h.2 c8
    obtain ⟨b9, e10, h⟩ := h
    refine ⟨b9, e10, ?_⟩
    obtain ⟨c11, h⟩ := h
    refine ⟨c11, ?_⟩
    obtain ⟨c12, h⟩ := h
    refine ⟨c12, ?_⟩
    intro x14 e13
    have h := h x14 e13
    refine ⟨?_, ?_⟩
    · intro c15
      have h := h.1 c15
      exact ⟨h, K⟩
    · intro c16
      have h := h.2 c16
      exact ⟨h, K⟩
theorem kz_X8_canWait {Q : Int32 → HS → Prop} {v0 : Nat} {v1 : Int32} {S : HS} (h : P_X8_canWait v0 v1 Q S) : P_X8_canWait v0 v1 (fun r T => Q r T ∧ KZ S T) S := kz_X8_canWait_0 h (kz_rf S)
set_option maxRecDepth 20000 in
set_option maxHeartbeats 1000000 in
theorem kz_X8_dripOn_0 {Q : Int32 → HS → Prop} {v0 : Nat} {v1 : Nat} {v2 : Int32} {S0 S : HS} (h : P_X8_dripOn_0 Q v0 v1 v2 S) (K : KZ S0 S) : P_X8_dripOn_0 (fun r T => Q r T ∧ KZ S0 T) v0 v1 v2 S := by
  delta P_X8_dripOn_0 at h ⊢
  obtain ⟨c1, h⟩ := h
  refine ⟨c1, ?_⟩
  refine cm_X8_canWait (kz_X8_canWait h) h (fun x2 x3 p6 h g4 g5 => ?_)
  have h := h g4 g5
  have K := kz_Z K p6.2
  refine ⟨?_, ?_⟩
  · intro c7
    have h := h.1 c7
    exact ⟨h, K⟩
  · intro c8
    have h := h.2 c8
    obtain ⟨b9, e10, h⟩ := h
    refine ⟨b9, e10, ?_⟩
    obtain ⟨c11, h⟩ := h
    refine ⟨c11, ?_⟩
    obtain ⟨c12, h⟩ := h
    refine ⟨c12, ?_⟩
    intro x14 e13
    have h := h x14 e13
    obtain ⟨c15, h⟩ := h
    refine ⟨c15, ?_⟩
    intro x17 e16
    have h := h x17 e16
    refine cm_X6_shield (kz_X6_shield h) h (fun x18 x19 p21 h g20 => ?_)
    have h := h g20
    have K := kz_Z K p21.2
    intro x23 e22
    have h := h x23 e22
    exact ⟨h, K⟩
theorem kz_X8_dripOn {Q : Int32 → HS → Prop} {v0 : Nat} {v1 : Nat} {v2 : Int32} {S : HS} (h : P_X8_dripOn v0 v1 v2 Q S) : P_X8_dripOn v0 v1 v2 (fun r T => Q r T ∧ KZ S T) S := kz_X8_dripOn_0 h (kz_rf S)
set_option maxRecDepth 20000 in
set_option maxHeartbeats 1000000 in
theorem kz_X8_hasHour_0 {Q : Int32 → HS → Prop} {v0 : Nat} {v1 : Int32} {S0 S : HS} (h : P_X8_hasHour_0 Q v0 v1 S) (K : KZ S0 S) : P_X8_hasHour_0 (fun r T => Q r T ∧ KZ S0 T) v0 v1 S := by
  delta P_X8_hasHour_0 at h ⊢
  refine ⟨?_, ?_⟩
  · intro c1
    have h := h.1 c1
    exact ⟨h, K⟩
  · intro c2
    have h := h.2 c2
    obtain ⟨c3, h⟩ := h
    refine ⟨c3, ?_⟩
    intro x5 e4
    have h := h x5 e4
    refine ⟨?_, ?_⟩
    · intro c6
      have h := h.1 c6
      exact ⟨h, K⟩
    · intro c7
      have h := h.2 c7
      obtain ⟨b8, e9, h⟩ := h
      refine ⟨b8, e9, ?_⟩
      obtain ⟨c10, h⟩ := h
      refine ⟨c10, ?_⟩
      refine ⟨?_, ?_⟩
      · intro c11
        have h := h.1 c11
        exact ⟨h, K⟩
      · intro c12
        have h := h.2 c12
        exact ⟨h, K⟩
theorem kz_X8_hasHour {Q : Int32 → HS → Prop} {v0 : Nat} {v1 : Int32} {S : HS} (h : P_X8_hasHour v0 v1 Q S) : P_X8_hasHour v0 v1 (fun r T => Q r T ∧ KZ S T) S := kz_X8_hasHour_0 h (kz_rf S)
set_option maxRecDepth 20000 in
set_option maxHeartbeats 1000000 in
theorem kz_X8_hourOf_0 {Q : Int32 → HS → Prop} {v0 : Nat} {v1 : Int32} {S0 S : HS} (h : P_X8_hourOf_0 Q v0 v1 S) (K : KZ S0 S) : P_X8_hourOf_0 (fun r T => Q r T ∧ KZ S0 T) v0 v1 S := by
  delta P_X8_hourOf_0 at h ⊢
  obtain ⟨c1, h⟩ := h
  refine ⟨c1, ?_⟩
  intro x3 e2
  have h := h x3 e2
  refine ⟨?_, ?_⟩
  · intro c4
    have h := h.1 c4
    exact ⟨h, K⟩
  · intro c5
    have h := h.2 c5
    intro x7 e6
    have h := h x7 e6
    obtain ⟨c8, h⟩ := h
    refine ⟨c8, ?_⟩
    intro x10 e9
    have h := h x10 e9
    exact ⟨h, K⟩
theorem kz_X8_hourOf {Q : Int32 → HS → Prop} {v0 : Nat} {v1 : Int32} {S : HS} (h : P_X8_hourOf v0 v1 Q S) : P_X8_hourOf v0 v1 (fun r T => Q r T ∧ KZ S T) S := kz_X8_hourOf_0 h (kz_rf S)
set_option maxRecDepth 20000 in
set_option maxHeartbeats 1000000 in
theorem kz_X9_isWay_0 {Q : Int32 → HS → Prop} {v0 : Int32} {S0 S : HS} (h : P_X9_isWay_0 Q v0 S) (K : KZ S0 S) : P_X9_isWay_0 (fun r T => Q r T ∧ KZ S0 T) v0 S := by
  delta P_X9_isWay_0 at h ⊢
  refine ⟨?_, ?_⟩
  · intro c1
    have h := h.1 c1
    exact ⟨h, K⟩
  · intro c2
    have h := h.2 c2
    refine ⟨?_, ?_⟩
    · intro c3
      have h := h.1 c3
      exact ⟨h, K⟩
    · intro c4
      have h := h.2 c4
      exact ⟨h, K⟩
theorem kz_X9_isWay {Q : Int32 → HS → Prop} {v0 : Int32} {S : HS} (h : P_X9_isWay v0 Q S) : P_X9_isWay v0 (fun r T => Q r T ∧ KZ S T) S := kz_X9_isWay_0 h (kz_rf S)
set_option maxRecDepth 20000 in
set_option maxHeartbeats 1000000 in
theorem kz_X9_tripTrouble_46 {Q : Int32 → HS → Prop} {s0 : Int32} {S0 S : HS} (h : P_X9_tripTrouble_46 Q s0 S) (K : KZ S0 S) : P_X9_tripTrouble_46 (fun r T => Q r T ∧ KZ S0 T) s0 S := by
  delta P_X9_tripTrouble_46 at h ⊢
  refine ⟨?_, ?_⟩
  · intro c1
    have h := h.1 c1
    exact ⟨h, K⟩
  · intro c2
    have h := h.2 c2
    exact ⟨h, K⟩
set_option maxRecDepth 20000 in
set_option maxHeartbeats 1000000 in
theorem kz_X9_tripTrouble_45 {Q : Int32 → HS → Prop} {S0 S : HS} (h : P_X9_tripTrouble_45 Q S) (K : KZ S0 S) : P_X9_tripTrouble_45 (fun r T => Q r T ∧ KZ S0 T) S := by
  delta P_X9_tripTrouble_45 at h ⊢
  exact kz_X9_tripTrouble_46 h K
set_option maxRecDepth 20000 in
set_option maxHeartbeats 1000000 in
theorem kz_X9_tripTrouble_0 {Q : Int32 → HS → Prop} {v0 : Nat} {v1 : Int32} {v2 : Int32} {v3 : Int32} {v4 : Int32} {S0 S : HS} (h : P_X9_tripTrouble_0 Q v0 v1 v2 v3 v4 S) (K : KZ S0 S) : P_X9_tripTrouble_0 (fun r T => Q r T ∧ KZ S0 T) v0 v1 v2 v3 v4 S := by
  delta P_X9_tripTrouble_0 at h ⊢
  obtain ⟨c1, h⟩ := h
  refine ⟨c1, ?_⟩
  obtain ⟨b2, e3, h⟩ := h
  refine ⟨b2, e3, ?_⟩
  obtain ⟨c4, h⟩ := h
  refine ⟨c4, ?_⟩
  refine cm_X8_hasWalker (kz_X8_hasWalker h) h (fun x5 x6 p9 h g7 g8 => ?_)
  have h := h g7 g8
  have K := kz_Z K p9.2
  refine ⟨?_, ?_⟩
  · intro c10
    have h := h.1 c10
    exact kz_X9_tripTrouble_45 h K
  · intro c11
    have h := h.2 c11
    obtain ⟨b12, e13, h⟩ := h
    refine ⟨b12, e13, ?_⟩
    obtain ⟨c14, h⟩ := h
    refine ⟨c14, ?_⟩
    refine cm_X8_hasRoad (kz_X8_hasRoad h) h (fun x15 x16 p19 h g17 g18 => ?_)
    have h := h g17 g18
    have K := kz_Z K p19.2
    refine ⟨?_, ?_⟩
    · intro c20
      have h := h.1 c20
      exact kz_X9_tripTrouble_45 h K
    · intro c21
      have h := h.2 c21
      refine cm_X9_isWay (kz_X9_isWay h) h (fun x22 x23 p26 h g24 g25 => ?_)
      have h := h g24 g25
      have K := kz_Z K p26.2
      refine ⟨?_, ?_⟩
      · intro c27
        have h := h.1 c27
        exact kz_X9_tripTrouble_45 h K
      · intro c28
        have h := h.2 c28
        obtain ⟨b29, e30, h⟩ := h
        refine ⟨b29, e30, ?_⟩
        obtain ⟨c31, h⟩ := h
        refine ⟨c31, ?_⟩
        refine cm_X8_hasHour (kz_X8_hasHour h) h (fun x32 x33 p36 h g34 g35 => ?_)
        have h := h g34 g35
        have K := kz_Z K p36.2
        refine ⟨?_, ?_⟩
        · intro c37
          have h := h.1 c37
          exact kz_X9_tripTrouble_45 h K
        · intro c38
          have h := h.2 c38
          exact kz_X9_tripTrouble_46 h K
theorem kz_X9_tripTrouble {Q : Int32 → HS → Prop} {v0 : Nat} {v1 : Int32} {v2 : Int32} {v3 : Int32} {v4 : Int32} {S : HS} (h : P_X9_tripTrouble v0 v1 v2 v3 v4 Q S) : P_X9_tripTrouble v0 v1 v2 v3 v4 (fun r T => Q r T ∧ KZ S T) S := kz_X9_tripTrouble_0 h (kz_rf S)
set_option maxRecDepth 20000 in
set_option maxHeartbeats 1000000 in
theorem kz_X9_coatParts_0 {Q : Int64 → HS → Prop} {v0 : Nat} {S0 S : HS} (h : P_X9_coatParts_0 Q v0 S) (K : KZ S0 S) : P_X9_coatParts_0 (fun r T => Q r T ∧ KZ S0 T) v0 S := by
  delta P_X9_coatParts_0 at h ⊢
  obtain ⟨c1, h⟩ := h
  refine ⟨c1, ?_⟩
  intro x3 e2
  have h := h x3 e2
  refine ⟨?_, ?_⟩
  · intro c4
    have h := h.1 c4
    exact ⟨h, K⟩
  · intro c5
    have h := h.2 c5
    intro x7 e6
    have h := h x7 e6
    exact ⟨h, K⟩
theorem kz_X9_coatParts {Q : Int64 → HS → Prop} {v0 : Nat} {S : HS} (h : P_X9_coatParts v0 Q S) : P_X9_coatParts v0 (fun r T => Q r T ∧ KZ S T) S := kz_X9_coatParts_0 h (kz_rf S)
set_option maxRecDepth 20000 in
set_option maxHeartbeats 1000000 in
theorem kzB_X9_commonDivisor_9 {Q : Int64 → HS → Prop} {X9 X9_2 : Int64 → Int64 → Int32 → HS → Prop} {v4 : Int64} {v6 : Int64} {v8 : Int32} {S0 S : HS} (h : B_X9_commonDivisor_9 Q X9 v4 v6 v8 S) (K : KZ S0 S) (hX9 : ∀ (u0 : Int64) (u1 : Int64) (u2 : Int32) (u3 : HS), X9 u0 u1 u2 u3 → KZ S0 u3 → X9_2 u0 u1 u2 u3) : B_X9_commonDivisor_9 (fun r T => Q r T ∧ KZ S0 T) X9_2 v4 v6 v8 S := by
  delta B_X9_commonDivisor_9 at h ⊢
  refine ⟨?_, ?_⟩
  · intro c1
    have h := h.1 c1
    exact ⟨h, K⟩
  · intro c2
    have h := h.2 c2
    refine ⟨?_, ?_⟩
    · intro c3
      have h := h.1 c3
      exact ⟨h, K⟩
    · intro c4
      have h := h.2 c4
      obtain ⟨c5, h⟩ := h
      refine ⟨c5, ?_⟩
      intro x7 e6
      have h := h x7 e6
      intro x9 e8
      have h := h x9 e8
      exact hX9 _ _ _ _ h K
theorem kz_X9_commonDivisor_9 {Q : Int64 → HS → Prop} {v4 : Int64} {v6 : Int64} {v8 : Int32} {S0 S : HS} (h : P_X9_commonDivisor_9 Q v4 v6 v8 S) (K : KZ S0 S) : P_X9_commonDivisor_9 (fun r T => Q r T ∧ KZ S0 T) v4 v6 v8 S := h (fun v4 v6 v8 S => KZ S0 S → P_X9_commonDivisor_9 (fun r T => Q r T ∧ KZ S0 T) v4 v6 v8 S) (fun v4 v6 v8 S hB K => by
  exact fd_X9_commonDivisor_9 (kzB_X9_commonDivisor_9 hB K (fun _ _ _ _ hx K => hx K))) K
set_option maxRecDepth 20000 in
set_option maxHeartbeats 1000000 in
theorem kz_X9_commonDivisor_0 {Q : Int64 → HS → Prop} {v0 : Int64} {v2 : Int64} {S0 S : HS} (h : P_X9_commonDivisor_0 Q v0 v2 S) (K : KZ S0 S) : P_X9_commonDivisor_0 (fun r T => Q r T ∧ KZ S0 T) v0 v2 S := by
  delta P_X9_commonDivisor_0 at h ⊢
  exact kz_X9_commonDivisor_9 h K
theorem kz_X9_commonDivisor {Q : Int64 → HS → Prop} {v0 : Int64} {v2 : Int64} {S : HS} (h : P_X9_commonDivisor v0 v2 Q S) : P_X9_commonDivisor v0 v2 (fun r T => Q r T ∧ KZ S T) S := kz_X9_commonDivisor_0 h (kz_rf S)
set_option maxRecDepth 20000 in
set_option maxHeartbeats 1000000 in
theorem kz_X9_fraction_0 {Q : Int64 → HS → Prop} {v0 : Int64} {v2 : Int64} {v4 : Int32} {S0 S : HS} (h : P_X9_fraction_0 Q v0 v2 v4 S) (K : KZ S0 S) : P_X9_fraction_0 (fun r T => Q r T ∧ KZ S0 T) v0 v2 v4 S := by
  delta P_X9_fraction_0 at h ⊢
  refine cm_X9_commonDivisor (kz_X9_commonDivisor h) h (fun x1 x2 p4 h g3 => ?_)
  have h := h g3
  have K := kz_Z K p4.2
  refine ⟨?_, ?_⟩
  · intro c5
    have h := h.1 c5
    refine ⟨?_, ?_⟩
    · intro c6
      have h := h.1 c6
      obtain ⟨c7, h⟩ := h
      refine ⟨c7, ?_⟩
      intro x9 e8
      have h := h x9 e8
      exact ⟨h, K⟩
    · intro c10
      have h := h.2 c10
      obtain ⟨c11, h⟩ := h
      refine ⟨c11, ?_⟩
      intro x13 e12
      have h := h x13 e12
      exact ⟨h, K⟩
  · intro c14
    have h := h.2 c14
    refine ⟨?_, ?_⟩
    · intro c15
      have h := h.1 c15
      exact ⟨h, K⟩
    · intro c16
      have h := h.2 c16
      exact ⟨h, K⟩
theorem kz_X9_fraction {Q : Int64 → HS → Prop} {v0 : Int64} {v2 : Int64} {v4 : Int32} {S : HS} (h : P_X9_fraction v0 v2 v4 Q S) : P_X9_fraction v0 v2 v4 (fun r T => Q r T ∧ KZ S T) S := kz_X9_fraction_0 h (kz_rf S)
set_option maxRecDepth 20000 in
set_option maxHeartbeats 1000000 in
theorem kz_X9_isFace_0 {Q : Int32 → HS → Prop} {v0 : Int32} {S0 S : HS} (h : P_X9_isFace_0 Q v0 S) (K : KZ S0 S) : P_X9_isFace_0 (fun r T => Q r T ∧ KZ S0 T) v0 S := by
  delta P_X9_isFace_0 at h ⊢
  refine ⟨?_, ?_⟩
  · intro c1
    have h := h.1 c1
    exact ⟨h, K⟩
  · intro c2
    have h := h.2 c2
    refine ⟨?_, ?_⟩
    · intro c3
      have h := h.1 c3
      exact ⟨h, K⟩
    · intro c4
      have h := h.2 c4
      exact ⟨h, K⟩
theorem kz_X9_isFace {Q : Int32 → HS → Prop} {v0 : Int32} {S : HS} (h : P_X9_isFace v0 Q S) : P_X9_isFace v0 (fun r T => Q r T ∧ KZ S T) S := kz_X9_isFace_0 h (kz_rf S)
set_option maxRecDepth 20000 in
set_option maxHeartbeats 1000000 in
theorem kz_X9_legTrouble_0 {Q : Int32 → HS → Prop} {v0 : Nat} {v1 : Int32} {v2 : Int32} {v3 : Int32} {v4 : Int32} {v5 : Int32} {S0 S : HS} (h : P_X9_legTrouble_0 Q v0 v1 v2 v3 v4 v5 S) (K : KZ S0 S) : P_X9_legTrouble_0 (fun r T => Q r T ∧ KZ S0 T) v0 v1 v2 v3 v4 v5 S := by
  delta P_X9_legTrouble_0 at h ⊢
  obtain ⟨c1, h⟩ := h
  refine ⟨c1, ?_⟩
  refine cm_X9_tripTrouble (kz_X9_tripTrouble h) h (fun x2 x3 p5 h g4 => ?_)
  have h := h g4
  have K := kz_Z K p5.2
  refine ⟨?_, ?_⟩
  · intro c6
    have h := h.1 c6
    obtain ⟨b7, e8, h⟩ := h
    refine ⟨b7, e8, ?_⟩
    obtain ⟨c9, h⟩ := h
    refine ⟨c9, ?_⟩
    obtain ⟨b10, e11, h⟩ := h
    refine ⟨b10, e11, ?_⟩
    obtain ⟨c12, h⟩ := h
    refine ⟨c12, ?_⟩
    obtain ⟨c13, h⟩ := h
    refine ⟨c13, ?_⟩
    obtain ⟨b14, e15, h⟩ := h
    refine ⟨b14, e15, ?_⟩
    obtain ⟨c16, h⟩ := h
    refine ⟨c16, ?_⟩
    refine cm_X6_canGo (kz_X6_canGo h) h (fun x17 x18 p21 h g19 g20 => ?_)
    have h := h g19 g20
    have K := kz_Z K p21.2
    refine ⟨?_, ?_⟩
    · intro c22
      have h := h.1 c22
      exact ⟨h, K⟩
    · intro c23
      have h := h.2 c23
      exact ⟨h, K⟩
  · intro c24
    have h := h.2 c24
    exact ⟨h, K⟩
theorem kz_X9_legTrouble {Q : Int32 → HS → Prop} {v0 : Nat} {v1 : Int32} {v2 : Int32} {v3 : Int32} {v4 : Int32} {v5 : Int32} {S : HS} (h : P_X9_legTrouble v0 v1 v2 v3 v4 v5 Q S) : P_X9_legTrouble v0 v1 v2 v3 v4 v5 (fun r T => Q r T ∧ KZ S T) S := kz_X9_legTrouble_0 h (kz_rf S)
set_option maxRecDepth 20000 in
set_option maxHeartbeats 1000000 in
theorem kz_X9_fault_0 {Q : Int32 → HS → Prop} {v0 : Nat} {S0 S : HS} (h : P_X9_fault_0 Q v0 S) (K : KZ S0 S) : P_X9_fault_0 (fun r T => Q r T ∧ KZ S0 T) v0 S := by
  delta P_X9_fault_0 at h ⊢
  obtain ⟨c1, h⟩ := h
  refine ⟨c1, ?_⟩
  intro x3 e2
  have h := h x3 e2
  exact ⟨h, K⟩
theorem kz_X9_fault {Q : Int32 → HS → Prop} {v0 : Nat} {S : HS} (h : P_X9_fault v0 Q S) : P_X9_fault v0 (fun r T => Q r T ∧ KZ S T) S := kz_X9_fault_0 h (kz_rf S)
set_option maxRecDepth 20000 in
set_option maxHeartbeats 1000000 in
theorem kz_X9_leeTrouble_0 {Q : Int32 → HS → Prop} {v0 : Nat} {v1 : Int32} {v2 : Int32} {v3 : Int32} {v4 : Int32} {v5 : Int32} {v6 : Int32} {S0 S : HS} (h : P_X9_leeTrouble_0 Q v0 v1 v2 v3 v4 v5 v6 S) (K : KZ S0 S) : P_X9_leeTrouble_0 (fun r T => Q r T ∧ KZ S0 T) v0 v1 v2 v3 v4 v5 v6 S := by
  delta P_X9_leeTrouble_0 at h ⊢
  refine ⟨?_, ?_⟩
  · intro c1
    have h := h.1 c1
    exact ⟨h, K⟩
  · intro c2
    have h := h.2 c2
    obtain ⟨c3, h⟩ := h
    refine ⟨c3, ?_⟩
    obtain ⟨b4, e5, h⟩ := h
    refine ⟨b4, e5, ?_⟩
    obtain ⟨c6, h⟩ := h
    refine ⟨c6, ?_⟩
    refine cm_X8_hasWalker (kz_X8_hasWalker h) h (fun x7 x8 p11 h g9 g10 => ?_)
    have h := h g9 g10
    have K := kz_Z K p11.2
    refine ⟨?_, ?_⟩
    · intro c12
      have h := h.1 c12
      exact ⟨h, K⟩
    · intro c13
      have h := h.2 c13
      obtain ⟨b14, e15, h⟩ := h
      refine ⟨b14, e15, ?_⟩
      obtain ⟨c16, h⟩ := h
      refine ⟨c16, ?_⟩
      refine cm_X8_hasWalker (kz_X8_hasWalker h) h (fun x17 x18 p21 h g19 g20 => ?_)
      have h := h g19 g20
      have K := kz_Z K p21.2
      refine ⟨?_, ?_⟩
      · intro c22
        have h := h.1 c22
        refine cm_X9_legTrouble (kz_X9_legTrouble h) h (fun x23 x24 p26 h g25 => ?_)
        have h := h g25
        have K := kz_Z K p26.2
        refine ⟨?_, ?_⟩
        · intro c27
          have h := h.1 c27
          obtain ⟨b28, e29, h⟩ := h
          refine ⟨b28, e29, ?_⟩
          obtain ⟨c30, h⟩ := h
          refine ⟨c30, ?_⟩
          obtain ⟨b31, e32, h⟩ := h
          refine ⟨b31, e32, ?_⟩
          obtain ⟨c33, h⟩ := h
          refine ⟨c33, ?_⟩
          obtain ⟨c34, h⟩ := h
          refine ⟨c34, ?_⟩
          obtain ⟨b35, e36, h⟩ := h
          refine ⟨b35, e36, ?_⟩
          obtain ⟨c37, h⟩ := h
          refine ⟨c37, ?_⟩
          refine cm_X6_canGo (kz_X6_canGo h) h (fun x38 x39 p42 h g40 g41 => ?_)
          have h := h g40 g41
          have K := kz_Z K p42.2
          refine ⟨?_, ?_⟩
          · intro c43
            have h := h.1 c43
            exact ⟨h, K⟩
          · intro c44
            have h := h.2 c44
            exact ⟨h, K⟩
        · intro c45
          have h := h.2 c45
          exact ⟨h, K⟩
      · intro c46
        have h := h.2 c46
        exact ⟨h, K⟩
theorem kz_X9_leeTrouble {Q : Int32 → HS → Prop} {v0 : Nat} {v1 : Int32} {v2 : Int32} {v3 : Int32} {v4 : Int32} {v5 : Int32} {v6 : Int32} {S : HS} (h : P_X9_leeTrouble v0 v1 v2 v3 v4 v5 v6 Q S) : P_X9_leeTrouble v0 v1 v2 v3 v4 v5 v6 (fun r T => Q r T ∧ KZ S T) S := kz_X9_leeTrouble_0 h (kz_rf S)
set_option maxRecDepth 20000 in
set_option maxHeartbeats 1000000 in
theorem kz_X9_isTill_0 {Q : Int32 → HS → Prop} {v0 : Int32} {S0 S : HS} (h : P_X9_isTill_0 Q v0 S) (K : KZ S0 S) : P_X9_isTill_0 (fun r T => Q r T ∧ KZ S0 T) v0 S := by
  delta P_X9_isTill_0 at h ⊢
  refine ⟨?_, ?_⟩
  · intro c1
    have h := h.1 c1
    exact ⟨h, K⟩
  · intro c2
    have h := h.2 c2
    refine ⟨?_, ?_⟩
    · intro c3
      have h := h.1 c3
      exact ⟨h, K⟩
    · intro c4
      have h := h.2 c4
      exact ⟨h, K⟩
theorem kz_X9_isTill {Q : Int32 → HS → Prop} {v0 : Int32} {S : HS} (h : P_X9_isTill v0 Q S) : P_X9_isTill v0 (fun r T => Q r T ∧ KZ S T) S := kz_X9_isTill_0 h (kz_rf S)
set_option maxRecDepth 20000 in
set_option maxHeartbeats 1000000 in
theorem kz_X9_placesTrouble_38 {Q : Int32 → HS → Prop} {s0 : Int32} {S0 S : HS} (h : P_X9_placesTrouble_38 Q s0 S) (K : KZ S0 S) : P_X9_placesTrouble_38 (fun r T => Q r T ∧ KZ S0 T) s0 S := by
  delta P_X9_placesTrouble_38 at h ⊢
  refine ⟨?_, ?_⟩
  · intro c1
    have h := h.1 c1
    exact ⟨h, K⟩
  · intro c2
    have h := h.2 c2
    exact ⟨h, K⟩
set_option maxRecDepth 20000 in
set_option maxHeartbeats 1000000 in
theorem kz_X9_placesTrouble_37 {Q : Int32 → HS → Prop} {S0 S : HS} (h : P_X9_placesTrouble_37 Q S) (K : KZ S0 S) : P_X9_placesTrouble_37 (fun r T => Q r T ∧ KZ S0 T) S := by
  delta P_X9_placesTrouble_37 at h ⊢
  exact kz_X9_placesTrouble_38 h K
set_option maxRecDepth 20000 in
set_option maxHeartbeats 1000000 in
theorem kz_X9_placesTrouble_0 {Q : Int32 → HS → Prop} {v0 : Nat} {v1 : Int32} {v2 : Int32} {v3 : Int32} {S0 S : HS} (h : P_X9_placesTrouble_0 Q v0 v1 v2 v3 S) (K : KZ S0 S) : P_X9_placesTrouble_0 (fun r T => Q r T ∧ KZ S0 T) v0 v1 v2 v3 S := by
  delta P_X9_placesTrouble_0 at h ⊢
  obtain ⟨c1, h⟩ := h
  refine ⟨c1, ?_⟩
  obtain ⟨b2, e3, h⟩ := h
  refine ⟨b2, e3, ?_⟩
  obtain ⟨c4, h⟩ := h
  refine ⟨c4, ?_⟩
  refine cm_X8_hasWalker (kz_X8_hasWalker h) h (fun x5 x6 p9 h g7 g8 => ?_)
  have h := h g7 g8
  have K := kz_Z K p9.2
  refine ⟨?_, ?_⟩
  · intro c10
    have h := h.1 c10
    exact kz_X9_placesTrouble_37 h K
  · intro c11
    have h := h.2 c11
    obtain ⟨b12, e13, h⟩ := h
    refine ⟨b12, e13, ?_⟩
    obtain ⟨c14, h⟩ := h
    refine ⟨c14, ?_⟩
    refine cm_X8_hasPlace (kz_X8_hasPlace h) h (fun x15 x16 p19 h g17 g18 => ?_)
    have h := h g17 g18
    have K := kz_Z K p19.2
    refine ⟨?_, ?_⟩
    · intro c20
      have h := h.1 c20
      exact kz_X9_placesTrouble_37 h K
    · intro c21
      have h := h.2 c21
      obtain ⟨b22, e23, h⟩ := h
      refine ⟨b22, e23, ?_⟩
      obtain ⟨c24, h⟩ := h
      refine ⟨c24, ?_⟩
      refine cm_X8_hasPlace (kz_X8_hasPlace h) h (fun x25 x26 p29 h g27 g28 => ?_)
      have h := h g27 g28
      have K := kz_Z K p29.2
      refine ⟨?_, ?_⟩
      · intro c30
        have h := h.1 c30
        exact kz_X9_placesTrouble_37 h K
      · intro c31
        have h := h.2 c31
        exact kz_X9_placesTrouble_38 h K
theorem kz_X9_placesTrouble {Q : Int32 → HS → Prop} {v0 : Nat} {v1 : Int32} {v2 : Int32} {v3 : Int32} {S : HS} (h : P_X9_placesTrouble v0 v1 v2 v3 Q S) : P_X9_placesTrouble v0 v1 v2 v3 (fun r T => Q r T ∧ KZ S T) S := kz_X9_placesTrouble_0 h (kz_rf S)
set_option maxRecDepth 20000 in
set_option maxHeartbeats 1000000 in
theorem kz_X9_trouble_0 {Q : Int32 → HS → Prop} {v0 : Nat} {S0 S : HS} (h : P_X9_trouble_0 Q v0 S) (K : KZ S0 S) : P_X9_trouble_0 (fun r T => Q r T ∧ KZ S0 T) v0 S := by
  delta P_X9_trouble_0 at h ⊢
  obtain ⟨c1, h⟩ := h
  refine ⟨c1, ?_⟩
  intro x3 e2
  have h := h x3 e2
  exact ⟨h, K⟩
theorem kz_X9_trouble {Q : Int32 → HS → Prop} {v0 : Nat} {S : HS} (h : P_X9_trouble v0 Q S) : P_X9_trouble v0 (fun r T => Q r T ∧ KZ S T) S := kz_X9_trouble_0 h (kz_rf S)
set_option maxRecDepth 20000 in
set_option maxHeartbeats 1000000 in
theorem kz_X9_where_0 {Q : Int32 → HS → Prop} {v0 : Nat} {S0 S : HS} (h : P_X9_where_0 Q v0 S) (K : KZ S0 S) : P_X9_where_0 (fun r T => Q r T ∧ KZ S0 T) v0 S := by
  delta P_X9_where_0 at h ⊢
  obtain ⟨c1, h⟩ := h
  refine ⟨c1, ?_⟩
  intro x3 e2
  have h := h x3 e2
  refine ⟨?_, ?_⟩
  · intro c4
    have h := h.1 c4
    exact ⟨h, K⟩
  · intro c5
    have h := h.2 c5
    intro x7 e6
    have h := h x7 e6
    exact ⟨h, K⟩
theorem kz_X9_where {Q : Int32 → HS → Prop} {v0 : Nat} {S : HS} (h : P_X9_where v0 Q S) : P_X9_where v0 (fun r T => Q r T ∧ KZ S T) S := kz_X9_where_0 h (kz_rf S)
end
section
/-! what a line writes: the rows of one object, all else as it was but for some -/
def TRK (o : Nat) (X : List Nat) (S0 : HS) (g : Nat → Int32) (S : HS) : Prop := (∀ b, b ∉ X → b ≠ o → fI S b = fI S0 b) ∧ fI S o = g
section Trk
variable {o r nm nd b j : Nat} {X : List Nat} {S0 S T : HS} {g : Nat → Int32} {v : Int32}
theorem row_I (e : T = sI S o j v) : fI T o = va_up (fI S o) j v := by
  rw [e]
  funext i
  show u2 (fI S) o j v o i = va_up (fI S o) j v i
  unfold u2 va_up
  by_cases h : i = j
  · rw [if_pos ⟨rfl, h⟩, if_pos h]
  · rw [if_neg (fun z => h z.2), if_neg h]
theorem row_o (e : T = sI S b j v) (h : o ≠ b) : fI T o = fI S o := by
  rw [e]
  exact u2_row _ _ h
theorem tk_0 (F : FrR r S0 S) (hr : r ∈ X) : TRK o X S0 (fI S o) S := ⟨fun b hb _ => (F.2.2.2.2.1 b (fun z => hb (z ▸ hr))).1, rfl⟩
theorem tk_r0 (o : Nat) (X : List Nat) (S : HS) : TRK o X S (fI S o) S := ⟨fun _ _ _ => rfl, rfl⟩
theorem tk_R (t : TRK o X S0 g S) (F : FrR r S T) (hr : r ∈ X) (ho : o ≠ r) : TRK o X S0 g T := ⟨fun b hb hbo => (F.2.2.2.2.1 b (fun z => hb (z ▸ hr))).1.trans (t.1 b hb hbo), (F.2.2.2.2.1 o ho).1.trans t.2⟩
theorem tk_A (t : TRK o X S0 g S) (F : FrA r nm nd S T) (hr : r ∈ X) (hm : nm ∈ X) (hn : nd ∈ X) (ho : o ≠ r) (ho1 : o ≠ nm) (ho2 : o ≠ nd) : TRK o X S0 g T := ⟨fun b hb hbo => (F.2.2.2.2.1 b (fun z => hb (z ▸ hr)) (fun z => hb (z ▸ hm)) (fun z => hb (z ▸ hn))).1.trans (t.1 b hb hbo), (F.2.2.2.2.1 o ho ho1 ho2).1.trans t.2⟩
theorem tk_I (t : TRK o X S0 g S) (e : T = sI S o j v) : TRK o X S0 (va_up g j v) T := ⟨fun b hb hbo => (row_o e hbo).trans (t.1 b hb hbo), (row_I e).trans (by rw [t.2])⟩
theorem tk_w (t : TRK o X S0 g S) (e : T = sI S b j v) (hb : b ∈ X) (ho : o ≠ b) : TRK o X S0 g T := ⟨fun c hc hco => (row_o (o := c) e (fun z => hc (z ▸ hb))).trans (t.1 c hc hco), (row_o e ho).trans t.2⟩
theorem tk_F {W WJ : List Nat} (t : TRK o X S0 g S) (F : Fr W WJ b S T) (hb : b ∈ X) (ho : o ≠ b) : TRK o X S0 g T := ⟨fun c hc hco => (F.2.2.2.2.1 c (fun z => hc (z ▸ hb))).1.trans (t.1 c hc hco), (F.2.2.2.2.1 o ho).1.trans t.2⟩
end Trk
/-! what a line tells, out of its tokens -/
def e2 (f : Nat → Int32) (n p : Nat) : Nat := tEn f n (tEn f n p)
noncomputable def sdV (f : Nat → Int32) (n p : Nat) : Int32 := match sideOf f n p with
  | some k => nI k
  | none => 0
def lkV (A : AS) (v : Int64) : Nat := match lkr (aV A) (aI A) v (aM A) 0 with
  | some k => k
  | none => 0
noncomputable def rnC (f : Nat → Int32) (n p j : Nat) : Int32 := if j = 0 then pVal f n p else if j = 1 then pVal f n (e2 f n p) else if j = 2 then sdV f n (tEn f n (e2 f n (e2 f n p))) else if j = 3 then (tV f n (e2 f n (e2 f n (e2 f n p)))).toInt32 else pVal f n (tEn f n (e2 f n (e2 f n (e2 f n p))))
noncomputable def plK (f : Nat → Int32) (n p : Nat) : Nat := dc (isW f n (tEn f n p) 15) 1 (dc (isW f n (tEn f n p) 16) 2 0)
noncomputable def plV (f : Nat → Int32) (n p : Nat) : Int32 := dc (isW f n (tEn f n p) 15) 0 (dc (isW f n (tEn f n p) 16) (pVal f n (tEn f n p)) 0)
noncomputable def rdC (f : Nat → Int32) (n p : Nat) (A : AS) (j : Nat) : Int32 := if j = 0 then nI (lkV A (tV f n p)) else if j = 1 then nI (lkV A (tV f n (tEn f n (e2 f n p)))) else if j = 2 then sdV f n (tEn f n p) else if j = 3 then (tV f n (e2 f n p)).toInt32 else dc (isW f n (e2 f n (e2 f n p)) 17) (pVal f n (e2 f n (e2 f n p))) 0
noncomputable def kEn (f : Nat → Int32) (n p : Nat) : Nat := dc (isW f n p 18) (e2 f n p) (dc (isW f n p 19) (e2 f n p) (dc (isW f n p 20) (e2 f n p) (tEn f n p)))
noncomputable def bowOf (f : Nat → Int32) (n p : Nat) : Int32 := if kdOf f n p = 1 then amOf f n p else 0
noncomputable def wkC (f : Nat → Int32) (n p j : Nat) : Int32 :=
  if j = 0 then nI (kdOf f n (tEn f n p)) else if j = 1 then amOf f n (tEn f n p)
  else if j = 2 then pVal f n (kEn f n (tEn f n p)) * (pVal f n (e2 f n (kEn f n (tEn f n p))) + bowOf f n (tEn f n p))
  else if j = 3 then pVal f n (kEn f n (tEn f n p)) * (pVal f n (e2 f n (e2 f n (kEn f n (tEn f n p)))) - bowOf f n (tEn f n p))
  else if j = 4 then (pVal f n (e2 f n (kEn f n (tEn f n p))) + bowOf f n (tEn f n p)) * (pVal f n (e2 f n (e2 f n (kEn f n (tEn f n p)))) - bowOf f n (tEn f n p))
  else if j = 5 then pVal f n (e2 f n (e2 f n (e2 f n (kEn f n (tEn f n p))))) else pVal f n (e2 f n (e2 f n (e2 f n (e2 f n (kEn f n (tEn f n p))))))
def snP (f : Nat → Int32) (n : Nat) : Nat → Nat → Nat
  | 0, p => p
  | k + 1, p => e2 f n (snP f n k p)
noncomputable def snC (f : Nat → Int32) (n p : Nat) (A : AS) (j : Nat) : Int32 := if j = 0 then nI (lkV A (tV f n p) - 8) else (tV f n (snP f n (j - 1) (tEn f n p))).toInt32
/-! the rain and road lines: what they write -/
section Ct1
variable {f : Nat → Int32} {n a r w nm nd p : Nat} {A : AS} {B S T : HS} {Q : Int32 → HS → Prop}
def ObD (fl k cnt N r w nm nd : Nat) (c : Nat → Int32) (B S T : HS) : Prop := ∃ ra o, fR B w fl = some ra ∧ fR B ra cnt = some o ∧ ob B o k ∧ (∀ b, b ∉ [r, w, nm, nd] → b ≠ o → fI T b = fI S b) ∧ ∀ j, j < N → fI T o j = c j
theorem sdV_of {k : Nat} {v : Int32} (h : ∃ k, sideOf f n p = some k ∧ v = nI k) : v = sdV f n p := by
  obtain ⟨k, h1, h2⟩ := h
  unfold sdV
  rw [h1]
  exact h2
theorem lkV_of {q : Nat} {v : Int64} (h : lkr (aV A) (aI A) v (aM A) 0 = some q) : lkV A v = q := by
  unfold lkV
  rw [h]
set_option maxHeartbeats 2000000 in
theorem sq_X4_rainLine (hB : BFa a r w nm nd B) (h : P_X4_rainLine r Q S) (ls : LnS f n a r w nm nd B A p S) (hlt : aHs A < 6) : P_X4_rainLine r (fun x T => Q x T ∧ LnB f n a r w nm nd B (sRain f n p) (up1 A) x T ∧ (x = 1 → ObD 6 3 (aHs A) 5 r w nm nd (rnC f n p) B S T)) S := by
  have ls0 := ls
  delta P_X4_rainLine P_X4_rainLine_0
  obtain ⟨o1, h⟩ := h
  refine ⟨o1, ?_⟩
  obtain ⟨a2, ea2, h⟩ := h
  refine ⟨a2, ea2, ?_⟩
  cases (ls_w hB ls).symm.trans ea2
  obtain ⟨o3, h⟩ := h
  refine ⟨o3, ?_⟩
  obtain ⟨a4, ea4, h⟩ := h
  refine ⟨a4, ea4, ?_⟩
  obtain ⟨a5, ea5, h⟩ := h
  refine ⟨a5, ea5, ?_⟩
  cases (ls_w hB ls).symm.trans ea5
  obtain ⟨o6, h⟩ := h
  refine ⟨o6, ?_⟩
  intro x7 ex7
  have h := h x7 ex7
  obtain ⟨o8, h⟩ := h
  refine ⟨o8, ?_⟩
  obtain ⟨o9, h⟩ := h
  refine ⟨o9, ?_⟩
  obtain ⟨a10, ea10, h⟩ := h
  refine ⟨a10, ea10, ?_⟩
  have K := sRain_eq f n p
  refine cm_X4_wordAndWhole (sp_X4_wordAndWhole h ls.1) h (fun x11 S12 hp h g13 b14 => ?_)
  have h := h g13 b14
  obtain ⟨-, F, hc, hv15⟩ := hp
  rcases cb_split hB ls F hc K (le_part ls) with ⟨rfl, lb⟩ | ⟨p16, rfl, hRp16, K, ls⟩
  · exact ⟨fun c => absurd rfl c, fun c => ⟨h.2 c, lb _, fun z => absurd z (by decide)⟩⟩
  refine ⟨fun c => ?_, fun c => absurd c (by decide)⟩
  have h := h.1 c
  replace hv15 := hv15 rfl
  intro x17 ex17
  have h := h x17 ex17
  obtain ⟨o18, h⟩ := h
  refine ⟨o18, ?_⟩
  have ob := bb_ob ls.2.2.2.1 o18
  have nor : a10 ≠ r := ob_ne ob hB.2.1 (by decide)
  have now : a10 ≠ w := ob_ne ob hB.2.2.1 (by decide)
  have tk := tk_0 (o := a10) (X := [r, w, nm, nd]) F (by simp)
  intro T19 eT19
  have h := h T19 eT19
  replace ls := ls_Ik hB ls eT19 ob (by decide)
  replace tk := tk_I tk eT19
  refine cm_X4_wordAndWhole (sp_X4_wordAndWhole h ls.1) h (fun x20 S21 hp h g22 b23 => ?_)
  have h := h g22 b23
  obtain ⟨-, F, hc, hv24⟩ := hp
  replace tk := tk_R tk F (by simp) nor
  rcases cb_split hB ls F hc K (le_part ls) with ⟨rfl, lb⟩ | ⟨p25, rfl, hRp25, K, ls⟩
  · exact ⟨fun c => absurd rfl c, fun c => ⟨h.2 c, lb _, fun z => absurd z (by decide)⟩⟩
  refine ⟨fun c => ?_, fun c => absurd c (by decide)⟩
  have h := h.1 c
  replace hv24 := hv24 rfl
  intro x26 ex26
  have h := h x26 ex26
  intro T27 eT27
  have h := h T27 eT27
  replace ls := ls_Ik hB ls eT27 ob (by decide)
  replace tk := tk_I tk eT27
  refine cm_X4_word (sp_X4_word h ls.1) h (fun x28 S29 hp h g30 b31 => ?_)
  have h := h g30 b31
  obtain ⟨-, F, hc⟩ := hp
  replace tk := tk_R tk F (by simp) nor
  rcases cb_split hB ls F hc K (le_word ls) with ⟨rfl, lb⟩ | ⟨p33, rfl, hRp33, K, ls⟩
  · exact ⟨fun c => ⟨h.1 c, lb _, fun z => absurd z (by decide)⟩, fun c => absurd rfl c⟩
  refine ⟨fun c => absurd c (by decide), fun c => ?_⟩
  have h := h.2 c
  refine cm_X4_side (sp_X4_side h ls.1) h (fun x34 S35 hp h g36 b37 => ?_)
  have h := h g36 b37
  obtain ⟨-, F, hc, hv38⟩ := hp
  replace tk := tk_R tk F (by simp) nor
  rcases cb_split hB ls F hc K (le_side ls) with ⟨rfl, lb⟩ | ⟨p39, rfl, hRp39, K, ls⟩
  · exact ⟨fun c => absurd rfl c, fun c => ⟨h.2 c, lb _, fun z => absurd z (by decide)⟩⟩
  refine ⟨fun c => ?_, fun c => absurd c (by decide)⟩
  have h := h.1 c
  replace hv38 := hv38 rfl
  intro x40 ex40
  have h := h x40 ex40
  intro T41 eT41
  have h := h T41 eT41
  replace ls := ls_Ik hB ls eT41 ob (by decide)
  replace tk := tk_I tk eT41
  refine cm_X4_whole (sp_X4_whole h ls.1) h (fun x42 S43 hp h g44 b45 => ?_)
  have h := h g44 b45
  obtain ⟨-, F, hc, hv46⟩ := hp
  replace tk := tk_R tk F (by simp) nor
  rcases cb_split hB ls F hc K (le_whole ls) with ⟨rfl, lb⟩ | ⟨p47, rfl, hRp47, K, ls⟩
  · exact ⟨fun c => absurd rfl c, fun c => ⟨h.2 c, lb _, fun z => absurd z (by decide)⟩⟩
  refine ⟨fun c => ?_, fun c => absurd c (by decide)⟩
  have h := h.1 c
  replace hv46 := hv46 rfl
  intro x48 ex48
  have h := h x48 ex48
  intro T49 eT49
  have h := h T49 eT49
  replace ls := ls_Ik hB ls eT49 ob (by decide)
  replace tk := tk_I tk eT49
  replace K := K.trans (rb_id _)
  refine cm_X4_wordAndWhole (sp_X4_wordAndWhole h ls.1) h (fun x50 S51 hp h g52 b53 => ?_)
  have h := h g52 b53
  obtain ⟨-, F, hc, hv54⟩ := hp
  replace tk := tk_R tk F (by simp) nor
  rcases cb_split hB ls F hc K (le_part ls) with ⟨rfl, lb⟩ | ⟨p55, rfl, hRp55, K, ls⟩
  · exact ⟨fun c => absurd rfl c, fun c => ⟨h.2 c, lb _, fun z => absurd z (by decide)⟩⟩
  refine ⟨fun c => ?_, fun c => absurd c (by decide)⟩
  have h := h.1 c
  replace hv54 := hv54 rfl
  intro x56 ex56
  have h := h x56 ex56
  intro T57 eT57
  have h := h T57 eT57
  replace ls := ls_Ik hB ls eT57 ob (by decide)
  replace tk := tk_I tk eT57
  obtain ⟨a58, ea58, h⟩ := h
  refine ⟨a58, ea58, ?_⟩
  cases (ls_w hB ls).symm.trans ea58
  obtain ⟨o59, h⟩ := h
  refine ⟨o59, ?_⟩
  intro x60 ex60
  have h := h x60 ex60
  intro x61 ex61
  have h := h x61 ex61
  intro T62 eT62
  have h := h T62 eT62
  refine ⟨h, lb_s K rfl (ls_C hB ls eT62 (cn_1 ls.2.2.1 eT62 (inc_ ex60 ls.2.2.1.2.1 ex61)) (ab_1 ls.2.2.2.2 hlt) ⟨rfl, rfl, rfl⟩), fun _ => ?_⟩
  replace tk := tk_w tk eT62 (by simp) now
  have fB := ls0.2.2.2.1.2.2.2
  have q16 := sPart_inl hRp16
  subst q16
  have q25 := sPart_inl hRp25
  subst q25
  have q33 := sWord_inl hRp33
  subst q33
  have q39 := sSide_inl hRp39
  subst q39
  have q47 := sWhole_inl hRp47
  subst q47
  refine ⟨a4, a10, by rw [← fB]; exact ea4, ?_, ob, tk.1, ?_⟩
  · rw [← fB, ← nI_cl (p := aHs A) (by omega), ← ex7.trans ls0.2.2.1.2.1]
    exact ea10
  · intro j hj
    rw [tk.2]
    match j, hj with
    | 0, _ => simpa [va_up, rnC, e2] using ex17.trans hv15
    | 1, _ => simpa [va_up, rnC, e2] using ex26.trans hv24
    | 2, _ => simpa [va_up, rnC, e2] using ex40.trans (sdV_of (k := 0) hv38)
    | 3, _ => simpa [va_up, rnC, e2] using ex48.trans hv46
    | 4, _ => simpa [va_up, rnC, e2] using ex56.trans hv54
    | j + 5, hj => exact absurd hj (by omega)
theorem bq130 {L : Res} {Z : HS → Prop} (hB : BFa a r w nm nd B) (h : P_X4_roadLine_130 Q r S) (ls : LnS f n a r w nm nd B A p S) (K : L = .inl p) (hlt : aR A < 12) (hz : ∀ T, (∀ b, b ≠ w → fI T b = fI S b) → Z T) : P_X4_roadLine_130 (fun x T => Q x T ∧ LnB f n a r w nm nd B L (up3 A) x T ∧ (x = 1 → Z T)) r S := by
  delta P_X4_roadLine_130
  obtain ⟨o20, h⟩ := h
  refine ⟨o20, ?_⟩
  obtain ⟨a21, ea21, h⟩ := h
  refine ⟨a21, ea21, ?_⟩
  cases (ls_w hB ls).symm.trans ea21
  obtain ⟨o22, h⟩ := h
  refine ⟨o22, ?_⟩
  intro x32 ex32
  have h := h x32 ex32
  intro x33 ex33
  have h := h x33 ex33
  intro S34 eS34
  have h := h S34 eS34
  exact ⟨h, lb_s K rfl (ls_C hB ls eS34 (cn_3 ls.2.2.1 eS34 (inc_ ex32 ls.2.2.1.2.2.2.1 ex33)) (ab_3 ls.2.2.2.2 hlt) ⟨rfl, rfl, rfl⟩), fun _ => hz _ (fun b hb => row_o eS34 hb)⟩
set_option maxHeartbeats 4000000 in
theorem sq_X4_roadLine (hB : BFa a r w nm nd B) (h : P_X4_roadLine r Q S) (ls : LnS f n a r w nm nd B A p S) (hlt : aR A < 12) : P_X4_roadLine r (fun x T => Q x T ∧ LnB f n a r w nm nd B (sRoad f n p A) (up3 A) x T ∧ (x = 1 → ObD 8 5 (aR A) 5 r w nm nd (rdC f n p A) B S T)) S := by
  have ls0 := ls
  have fB := ls0.2.2.2.1.2.2.2
  delta P_X4_roadLine P_X4_roadLine_0
  obtain ⟨o1, h⟩ := h
  refine ⟨o1, ?_⟩
  obtain ⟨a2, ea2, h⟩ := h
  refine ⟨a2, ea2, ?_⟩
  cases (ls_w hB ls).symm.trans ea2
  obtain ⟨o3, h⟩ := h
  refine ⟨o3, ?_⟩
  obtain ⟨a4, ea4, h⟩ := h
  refine ⟨a4, ea4, ?_⟩
  obtain ⟨a5, ea5, h⟩ := h
  refine ⟨a5, ea5, ?_⟩
  cases (ls_w hB ls).symm.trans ea5
  obtain ⟨o6, h⟩ := h
  refine ⟨o6, ?_⟩
  intro x7 ex7
  have h := h x7 ex7
  obtain ⟨o8, h⟩ := h
  refine ⟨o8, ?_⟩
  obtain ⟨o9, h⟩ := h
  refine ⟨o9, ?_⟩
  obtain ⟨bo, ebo, h⟩ := h
  refine ⟨bo, ebo, ?_⟩
  have K : sRoad f n p A = rb _ _ := rfl
  refine cm_X4_placeBut (sp_X4_placeBut h ls (o := none) rfl (fun q z => by cases z)) h (fun x10 S11 hp h g12 b13 => ?_)
  have h := h g12 b13
  obtain ⟨-, F, hc, hv14⟩ := hp
  rcases cb_split hB ls F hc K (le_pb ls) with ⟨rfl, lb⟩ | ⟨p15, rfl, hRp15, K, ls⟩
  · exact ⟨fun c => absurd rfl c, fun c => ⟨h.2 c, lb _, fun z => absurd z (by decide)⟩⟩
  refine ⟨fun c => ?_, fun c => absurd c (by decide)⟩
  have h := h.1 c
  replace hv14 := hv14 rfl
  intro x16 ex16
  have h := h x16 ex16
  obtain ⟨o17, h⟩ := h
  refine ⟨o17, ?_⟩
  have ob_ := bb_ob ls.2.2.2.1 o17
  have nor : bo ≠ r := ob_ne ob_ hB.2.1 (by decide)
  have now : bo ≠ w := ob_ne ob_ hB.2.2.1 (by decide)
  have tk := tk_0 (o := bo) (X := [r, w, nm, nd]) F (by simp)
  have hbr : bo ≠ r := ob_ne ob_ hB.2.1 (by decide)
  obtain ⟨q, hq, hq8, hv9⟩ := hv14
  intro T18 eT18
  have h := h T18 eT18
  replace ls := ls_Ik hB ls eT18 ob_ (by decide)
  replace tk := tk_I tk eT18
  have k0 : fI T18 bo 0 = nI q := by rw [wI_at eT18, ex16, hv9]
  refine cm_X4_side (sp_X4_side h ls.1) h (fun x19 S20 hp h g21 b22 => ?_)
  have h := h g21 b22
  obtain ⟨-, F, hc, hv23⟩ := hp
  replace tk := tk_R tk F (by simp) nor
  rcases cb_split hB ls F hc K (le_side ls) with ⟨rfl, lb⟩ | ⟨p24, rfl, hRp24, K, ls⟩
  · exact ⟨fun c => absurd rfl c, fun c => ⟨h.2 c, lb _, fun z => absurd z (by decide)⟩⟩
  refine ⟨fun c => ?_, fun c => absurd c (by decide)⟩
  have h := h.1 c
  replace hv23 := hv23 rfl
  replace k0 := (congrFun (F.2.2.2.2.1 bo hbr).1 0).trans k0
  intro x25 ex25
  have h := h x25 ex25
  intro T26 eT26
  have h := h T26 eT26
  replace ls := ls_Ik hB ls eT26 ob_ (by decide)
  replace tk := tk_I tk eT26
  replace k0 := (wI_ne eT26 (by decide)).trans k0
  refine cm_X4_whole (sp_X4_whole h ls.1) h (fun x27 S28 hp h g29 b30 => ?_)
  have h := h g29 b30
  obtain ⟨-, F, hc, hv31⟩ := hp
  replace tk := tk_R tk F (by simp) nor
  rcases cb_split hB ls F hc K (le_whole ls) with ⟨rfl, lb⟩ | ⟨p32, rfl, hRp32, K, ls⟩
  · exact ⟨fun c => absurd rfl c, fun c => ⟨h.2 c, lb _, fun z => absurd z (by decide)⟩⟩
  refine ⟨fun c => ?_, fun c => absurd c (by decide)⟩
  have h := h.1 c
  replace hv31 := hv31 rfl
  replace k0 := (congrFun (F.2.2.2.2.1 bo hbr).1 0).trans k0
  intro x33 ex33
  have h := h x33 ex33
  intro T34 eT34
  have h := h T34 eT34
  replace ls := ls_Ik hB ls eT34 ob_ (by decide)
  replace tk := tk_I tk eT34
  replace k0 := (wI_ne eT34 (by decide)).trans k0
  have k3 : fI T34 bo 3 = (tV f n p24).toInt32 := by rw [wI_at eT34, ex33, hv31]
  intro x35 ex35
  have h := h x35 ex35
  have e33 : x35 = enc (lkr (aV A) (aI A) (tV f n p) (aM A) 0) := by rw [ex35, k0, hq]; rfl
  refine cm_X4_placeBut (sp_X4_placeBut h ls e33 (na_lt ls.2.1)) h (fun x36 S37 hp h g38 b39 => ?_)
  have h := h g38 b39
  obtain ⟨-, F, hc, hv40⟩ := hp
  replace tk := tk_R tk F (by simp) nor
  rcases cb_split hB ls F hc K (le_pb ls) with ⟨rfl, lb⟩ | ⟨p41, rfl, hRp41, K, ls⟩
  · exact ⟨fun c => absurd rfl c, fun c => ⟨h.2 c, lb _, fun z => absurd z (by decide)⟩⟩
  refine ⟨fun c => ?_, fun c => absurd c (by decide)⟩
  have h := h.1 c
  replace hv40 := hv40 rfl
  replace k0 := (congrFun (F.2.2.2.2.1 bo hbr).1 0).trans k0
  replace k3 := (congrFun (F.2.2.2.2.1 bo hbr).1 3).trans k3
  intro x42 ex42
  have h := h x42 ex42
  intro T43 eT43
  have h := h T43 eT43
  replace ls := ls_Ik hB ls eT43 ob_ (by decide)
  replace tk := tk_I tk eT43
  replace k0 := (wI_ne eT43 (by decide)).trans k0
  replace k3 := (wI_ne eT43 (by decide)).trans k3
  intro T44 eT44
  have h := h T44 eT44
  replace ls := ls_Ik hB ls eT44 ob_ (by decide)
  replace tk := tk_I tk eT44
  replace k0 := (wI_ne eT44 (by decide)).trans k0
  replace k3 := (wI_ne eT44 (by decide)).trans k3
  have q15 := (sPB_inl hRp15).1
  subst q15
  have q24 := sSide_inl hRp24
  subst q24
  have q32 := sWhole_inl hRp32
  subst q32
  have q41 := (sPB_inl hRp41).1
  subst q41
  obtain ⟨q4, hq4, -, hv49⟩ := hv40
  have fin : ∀ (g : Nat → Int32) (U : HS) (V : HS), TRK bo [r, w, nm, nd] S g U → (∀ b, b ≠ w → fI V b = fI U b) → (∀ j, j < 5 → g j = rdC f n p A j) → ObD 8 5 (aR A) 5 r w nm nd (rdC f n p A) B S V := by
    intro g U V tk hw hg
    refine ⟨a4, bo, by rw [← fB]; exact ea4, ?_, ob_, fun b hb hbo => (hw b (fun z => hb (by rw [z]; simp))).trans (tk.1 b hb hbo), fun j hj => ?_⟩
    · rw [← fB, ← nI_cl (p := aR A) (by omega), ← ex7.trans ls0.2.2.1.2.2.2.1]
      exact ebo
    · rw [hw bo now, tk.2]
      exact hg j hj
  refine cm_X4_is (sp_X4_is h ls.1.2.1) h (fun xa Sa hp h ga ba => ?_)
  have h := h ga ba
  obtain ⟨-, hS, hx⟩ := hp
  subst hS
  refine ⟨?_, ?_⟩
  · intro c46
    refine bq130 hB (h.1 c46) ls (K.trans (dc_n (an0 hx c46))) hlt (fun V hV => fin _ _ V tk hV (fun j hj => ?_))
    have n17 := an0 hx c46
    match j, hj with
    | 0, _ => simpa [va_up, rdC, e2, lkV_of hq] using ex16.trans hv9
    | 1, _ => simpa [va_up, rdC, e2, lkV_of hq4] using ex42.trans hv49
    | 2, _ => simpa [va_up, rdC, e2] using ex25.trans (sdV_of (k := 0) hv23)
    | 3, _ => simpa [va_up, rdC, e2] using ex33.trans hv31
    | 4, _ => exact (dc_n n17).symm
    | j + 5, hj => exact absurd hj (by omega)
  · intro c53
    have h := h.2 c53
    have K := (K.trans (dc_y (an1 hx c53))).trans (rb_id _)
    intro x54 ex54
    have h := h x54 ex54
    rw [k3] at ex54
    subst ex54
    refine cm_X4_wordAndWhole (sp_X4_wordAndWhole h ls.1) h (fun x36 S37 hp h g38 b39 => ?_)
    have h := h g38 b39
    obtain ⟨-, F, hc, hvL⟩ := hp
    replace tk := tk_R tk F (by simp) nor
    rcases cb_split hB ls F hc K (le_part ls) with ⟨rfl, lb⟩ | ⟨p5, rfl, hRp5, K, ls⟩
    · exact ⟨fun c => absurd rfl c, fun c => ⟨h.2 c, lb _, fun z => absurd z (by decide)⟩⟩
    refine ⟨fun c => ?_, fun c => absurd c (by decide)⟩
    have h := h.1 c
    intro x60 ex60
    have h := h x60 ex60
    intro S61 eS61
    have h := h S61 eS61
    replace tk := tk_I tk eS61
    refine bq130 hB h (ls_Ik hB ls eS61 ob_ (by decide)) K hlt (fun V hV => fin _ _ V tk hV (fun j hj => ?_))
    have n17 := an1 hx c53
    match j, hj with
    | 0, _ => simpa [va_up, rdC, e2, lkV_of hq] using ex16.trans hv9
    | 1, _ => simpa [va_up, rdC, e2, lkV_of hq4] using ex42.trans hv49
    | 2, _ => simpa [va_up, rdC, e2] using ex25.trans (sdV_of (k := 0) hv23)
    | 3, _ => simpa [va_up, rdC, e2] using ex33.trans hv31
    | 4, _ => exact (ex60.trans (hvL rfl)).trans (dc_y n17).symm
    | j + 5, hj => exact absurd hj (by omega)
end Ct1
/-! the walker line: what it writes -/
section Ct2
variable {f : Nat → Int32} {n a r w nm nd p : Nat} {A : AS} {B S T : HS} {Q : Int32 → HS → Prop}
theorem tk_self {o : Nat} {X : List Nat} {S0 : HS} {g : Nat → Int32} (t : TRK o X S0 g S) : TRK o X S0 (fI S o) S := ⟨t.1, rfl⟩
theorem tk_tr {o : Nat} {X : List Nat} {S0 : HS} {g g2 : Nat → Int32} (t : TRK o X S0 g S) (u : TRK o X S g2 T) : TRK o X S0 g2 T := ⟨fun b hb hbo => (u.1 b hb hbo).trans (t.1 b hb hbo), u.2⟩
theorem sKind_inl {p' : Nat} (h : sKind f n p = .inl p') : p' = kEn f n p := by
  unfold sKind at h
  unfold kEn
  by_cases h1 : isW f n p 18
  · rw [dc_y h1] at h ⊢
    exact sPart_inl h
  rw [dc_n h1] at h ⊢
  by_cases h2 : isW f n p 19
  · rw [dc_y h2] at h ⊢
    exact sPart_inl h
  rw [dc_n h2] at h ⊢
  by_cases h3 : isW f n p 20
  · rw [dc_y h3] at h ⊢
    exact sPart_inl h
  rw [dc_n h3] at h ⊢
  exact sWord_inl h
theorem sBody_inl {lh : Int32} {p' : Nat} (h : sBody f n p lh = .inl p') : p' = e2 f n (e2 f n (e2 f n p)) := by
  unfold sBody at h
  cases h1 : sPart f n p 22 1 9 with
  | inr e => rw [h1] at h; cases h
  | inl p1 =>
    rw [h1] at h
    have h : rb (sPart f n p1 23 1 9) (fun p => sPart f n p 24 lh.toInt64 9) = .inl p' := h
    cases h2 : sPart f n p1 23 1 9 with
    | inr e => rw [h2] at h; cases h
    | inl p2 =>
      rw [h2] at h
      have h : sPart f n p2 24 lh.toInt64 9 = .inl p' := h
      rw [sPart_inl h, sPart_inl h2, sPart_inl h1]
      rfl
def shR (g : Nat → Int32) (v1 v2 v3 bw : Int32) : Nat → Int32 := va_up (va_up (va_up g 2 (v1 * (v2 + bw))) 3 (v1 * (v3 - bw))) 4 ((v2 + bw) * (v3 - bw))
theorem sq_X6_shape {Q : HS → Prop} {v0 : Nat} {v1 v2 v3 bw : Int32} (h : P_X6_shape v0 v1 v2 v3 Q S) (hb : bw = if fI S v0 0 = 1 then fI S v0 1 else 0) : P_X6_shape v0 v1 v2 v3 (fun T => Q T ∧ Fr [2, 3, 4] [] v0 S T ∧ TRK v0 [] S (shR (fI S v0) v1 v2 v3 bw) T) S := by
  delta P_X6_shape P_X6_shape_0
  obtain ⟨o1, h⟩ := h
  refine ⟨o1, ?_⟩
  intro x2 ex2
  have h := h x2 ex2
  have fin : ∀ z : Int32, z = bw → P_X6_shape_16 Q v0 v1 v2 v3 z S → P_X6_shape_16 (fun T => Q T ∧ Fr [2, 3, 4] [] v0 S T ∧ TRK v0 [] S (shR (fI S v0) v1 v2 v3 bw) T) v0 v1 v2 v3 z S := by
    intro z hz h
    subst hz
    delta P_X6_shape_16
    obtain ⟨o4, h⟩ := h
    refine ⟨o4, ?_⟩
    intro x5 ex5
    have h := h x5 ex5
    intro S6 eS6
    have h := h S6 eS6
    intro x7 ex7
    have h := h x7 ex7
    intro S8 eS8
    have h := h S8 eS8
    intro x9 ex9
    have h := h x9 ex9
    intro S10 eS10
    have h := h S10 eS10
    have u := tk_I (tk_I (tk_I (tk_r0 v0 [] S) eS6) eS8) eS10
    rw [ex5, ex7, ex9] at u
    exact ⟨h, fr_wI (fr_wI (fr_wI (fr_rf _ _ _ _) eS6 (by decide)) eS8 (by decide)) eS10 (by decide), u⟩
  refine ⟨fun c3 => fin _ (by rw [hb, if_neg (by rw [← ex2]; exact c3)]) (h.1 c3), fun c11 => ?_⟩
  have h := h.2 c11
  intro x12 ex12
  have h := h x12 ex12
  exact fin _ (by rw [hb, if_pos (by rw [← ex2]; exact c11), ex12]) h
set_option maxHeartbeats 2000000 in
theorem sq_X4_kindOf {b : Nat} (hB : BFa a r w nm nd B) (ob_ : ob B b 6) (h : P_X4_kindOf r b Q S) (ls : LnS f n a r w nm nd B A p S) : P_X4_kindOf r b (fun x T => Q x T ∧ LnB f n a r w nm nd B (sKind f n p) A x T ∧ (x = 1 → fI T b 0 = nI (kdOf f n p) ∧ fI T b 1 = amOf f n p) ∧ TRK b [r, w, nm, nd] S (fI T b) T) S := by
  have tk := tk_r0 b [r, w, nm, nd] S
  have hbr := ob_ne ob_ hB.2.1 (by decide)
  delta P_X4_kindOf P_X4_kindOf_0
  obtain ⟨o1, h⟩ := h
  refine ⟨o1, ?_⟩
  intro S2 eS2
  have h := h S2 eS2
  have v9 : fI S2 r 9 = 0 := wI_at eS2
  have ls := ls_val hB ls eS2
  replace tk := tk_w tk eS2 (by simp) hbr
  refine cm_X4_is (sp_X4_is h ls.1.2.1) h (fun x3 S4 hp h g5 b6 => ?_)
  have h := h g5 b6
  obtain ⟨-, hS, hx0⟩ := hp
  subst hS
  refine Iff.mp and_comm ⟨?_, ?_⟩
  · intro c
    have h := h.2 c
    have y := an1 hx0 c
    obtain ⟨o48, h⟩ := h
    refine ⟨o48, ?_⟩
    intro S49 eS49
    have h := h S49 eS49
    have ls := ls_Ik hB ls eS49 ob_ (by decide)
    replace tk := tk_I tk eS49
    refine cm_X4_wordAndWhole (sp_X4_wordAndWhole h ls.1) h (fun x50 S51 hp h g52 b53 => ?_)
    have h := h g52 b53
    obtain ⟨-, F, hc, hv⟩ := hp
    replace tk := tk_R tk F (by simp) hbr
    intro x54 ex54
    have h := h x54 ex54
    intro S55 eS55
    have h := h S55 eS55
    refine ⟨h.1, h.2, ?_⟩
    have e1 : kdOf f n p = 1 := by unfold kdOf; rw [dc_y y]
    have e2 : amOf f n p = pVal f n p := by unfold amOf; rw [dc_y y]
    have e3 : sKind f n p = sPart f n p 18 1 8 := by unfold sKind; rw [dc_y y]
    rw [e1, e2]
    have ke := kd_end hB ob_ ls F hc (le_part ls) (wI_at eS49) hv ex54 eS55 e3
    exact ⟨ke.1, ke.2, tk_self (tk_I tk eS55)⟩
  · intro c
    have h := h.1 c
    have n0 := an0 hx0 c
    refine cm_X4_is (sp_X4_is h ls.1.2.1) h (fun x3 S4 hp h g5 b6 => ?_)
    have h := h g5 b6
    obtain ⟨-, hS, hx1⟩ := hp
    subst hS
    refine Iff.mp and_comm ⟨?_, ?_⟩
    · intro c
      have h := h.2 c
      have y := an1 hx1 c
      obtain ⟨o48, h⟩ := h
      refine ⟨o48, ?_⟩
      intro S49 eS49
      have h := h S49 eS49
      have ls := ls_Ik hB ls eS49 ob_ (by decide)
      replace tk := tk_I tk eS49
      refine cm_X4_wordAndWhole (sp_X4_wordAndWhole h ls.1) h (fun x50 S51 hp h g52 b53 => ?_)
      have h := h g52 b53
      obtain ⟨-, F, hc, hv⟩ := hp
      replace tk := tk_R tk F (by simp) hbr
      intro x54 ex54
      have h := h x54 ex54
      intro S55 eS55
      have h := h S55 eS55
      refine ⟨h.1, h.2, ?_⟩
      have e1 : kdOf f n p = 2 := by unfold kdOf; rw [dc_n n0, dc_y y]
      have e2 : amOf f n p = pVal f n p := by unfold amOf; rw [dc_n n0, dc_y y]
      have e3 : sKind f n p = sPart f n p 19 0 999 := by unfold sKind; rw [dc_n n0, dc_y y]
      rw [e1, e2]
      have ke := kd_end hB ob_ ls F hc (le_part ls) (wI_at eS49) hv ex54 eS55 e3
      exact ⟨ke.1, ke.2, tk_self (tk_I tk eS55)⟩
    · intro c
      have h := h.1 c
      have n1 := an0 hx1 c
      refine cm_X4_is (sp_X4_is h ls.1.2.1) h (fun x3 S4 hp h g5 b6 => ?_)
      have h := h g5 b6
      obtain ⟨-, hS, hx2⟩ := hp
      subst hS
      refine Iff.mp and_comm ⟨?_, ?_⟩
      · intro c
        have h := h.2 c
        have y := an1 hx2 c
        obtain ⟨o48, h⟩ := h
        refine ⟨o48, ?_⟩
        intro S49 eS49
        have h := h S49 eS49
        have ls := ls_Ik hB ls eS49 ob_ (by decide)
        replace tk := tk_I tk eS49
        refine cm_X4_wordAndWhole (sp_X4_wordAndWhole h ls.1) h (fun x50 S51 hp h g52 b53 => ?_)
        have h := h g52 b53
        obtain ⟨-, F, hc, hv⟩ := hp
        replace tk := tk_R tk F (by simp) hbr
        intro x54 ex54
        have h := h x54 ex54
        intro S55 eS55
        have h := h S55 eS55
        refine ⟨h.1, h.2, ?_⟩
        have e1 : kdOf f n p = 3 := by unfold kdOf; rw [dc_n n0, dc_n n1, dc_y y]
        have e2 : amOf f n p = pVal f n p := by unfold amOf; rw [dc_n n0, dc_n n1, dc_y y]
        have e3 : sKind f n p = sPart f n p 20 1 99 := by unfold sKind; rw [dc_n n0, dc_n n1, dc_y y]
        rw [e1, e2]
        have ke := kd_end hB ob_ ls F hc (le_part ls) (wI_at eS49) hv ex54 eS55 e3
        exact ⟨ke.1, ke.2, tk_self (tk_I tk eS55)⟩
      · intro c
        have h := h.1 c
        have n2 := an0 hx2 c
        obtain ⟨o18, h⟩ := h
        refine ⟨o18, ?_⟩
        intro S19 eS19
        have h := h S19 eS19
        have v9 : fI S19 r 9 = 0 := by rw [eS19]; exact (u2_ne _ _ (fun q => hbr q.1.symm)).trans v9
        have ls := ls_Ik hB ls eS19 ob_ (by decide)
        replace tk := tk_I tk eS19
        refine cm_X4_word (sp_X4_word h ls.1) (sp9_X4_word h ls.1) (fun x20 S21 hp h9 g22 b23 => ?_)
        have h := h9.1 g22 b23
        obtain ⟨-, F, hc⟩ := hp
        replace tk := tk_R tk F (by simp) hbr
        intro x24 ex24
        have h := h x24 ex24
        intro S25 eS25
        have h := h S25 eS25
        refine ⟨h.1, h.2, ?_⟩
        have e1 : kdOf f n p = 0 := by unfold kdOf; rw [dc_n n0, dc_n n1, dc_n n2]
        have e2 : amOf f n p = 0 := by unfold amOf; rw [dc_n n0, dc_n n1, dc_n n2]
        have e3 : sKind f n p = sWord f n p 21 := by unfold sKind; rw [dc_n n0, dc_n n1, dc_n n2]
        rw [e1, e2]
        have ke := kd_end hB ob_ ls F hc (le_word ls) (wI_at eS19) (fun _ => h9.2.trans v9) ex24 eS25 e3
        exact ⟨ke.1, ke.2, tk_self (tk_I tk eS25)⟩
set_option maxHeartbeats 2000000 in
theorem sq_X4_bodyOf {b : Nat} {kd : Nat} {am lh : Int32} (hB : BFa a r w nm nd B) (ob_ : ob B b 6) (h : P_X4_bodyOf r b Q S) (ls : LnS f n a r w nm nd B A p S) (k0 : fI S b 0 = nI kd) (k1 : fI S b 1 = am) (hkd : kd ≤ 3) (hlh : lh = if kd = 1 then am + 1 else 1) : P_X4_bodyOf r b (fun x T => Q x T ∧ LnB f n a r w nm nd B (sBody f n p lh) A x T ∧ (x = 1 → TRK b [r, w, nm, nd] S (shR (fI S b) (pVal f n p) (pVal f n (e2 f n p)) (pVal f n (e2 f n (e2 f n p))) (if kd = 1 then am else 0)) T)) S := by
  have hbr := ob_ne ob_ hB.2.1 (by decide)
  have tk := tk_r0 b [r, w, nm, nd] S
  have b0 := k0
  have b1 := k1
  have K : sBody f n p lh = rb _ _ := rfl
  delta P_X4_bodyOf P_X4_bodyOf_0
  obtain ⟨o1, h⟩ := h
  refine ⟨o1, ?_⟩
  refine cm_X4_wordAndWhole (sp_X4_wordAndWhole h ls.1) h (fun x2 S3 hp h g4 b5 => ?_)
  have h := h g4 b5
  obtain ⟨-, F, hc, hv6⟩ := hp
  replace tk := tk_R tk F (by simp) hbr
  rcases cb_split hB ls F hc K (le_part ls) with ⟨rfl, lb⟩ | ⟨p7, rfl, hRp7, K, ls⟩
  · exact ⟨fun c => absurd rfl c, fun c => ⟨h.2 c, lb _, fun z => absurd z (by decide)⟩⟩
  refine ⟨fun c => ?_, fun c => absurd c (by decide)⟩
  have h := h.1 c
  replace hv6 := hv6 rfl
  replace k0 := (congrFun (F.2.2.2.2.1 b hbr).1 0).trans k0
  replace k1 := (congrFun (F.2.2.2.2.1 b hbr).1 1).trans k1
  intro x8 ex8
  have h := h x8 ex8
  refine cm_X4_wordAndWhole (sp_X4_wordAndWhole h ls.1) h (fun x9 S10 hp h g11 b12 => ?_)
  have h := h g11 b12
  obtain ⟨-, F, hc, hv13⟩ := hp
  replace tk := tk_R tk F (by simp) hbr
  rcases cb_split hB ls F hc K (le_part ls) with ⟨rfl, lb⟩ | ⟨p14, rfl, hRp14, K, ls⟩
  · exact ⟨fun c => absurd rfl c, fun c => ⟨h.2 c, lb _, fun z => absurd z (by decide)⟩⟩
  refine ⟨fun c => ?_, fun c => absurd c (by decide)⟩
  have h := h.1 c
  replace hv13 := hv13 rfl
  replace k0 := (congrFun (F.2.2.2.2.1 b hbr).1 0).trans k0
  replace k1 := (congrFun (F.2.2.2.2.1 b hbr).1 1).trans k1
  intro x15 ex15
  have h := h x15 ex15
  obtain ⟨o16, h⟩ := h
  refine ⟨o16, ?_⟩
  intro x17 ex17
  have h := h x17 ex17
  have fin : ∀ (v2 v3 s0 : Int32), s0 = lh → v2 = pVal f n p → v3 = pVal f n p7 → ∀ (Sx : HS), TRK b [r, w, nm, nd] S (fI S b) Sx → LnS f n a r w nm nd B A p14 Sx → P_X4_bodyOf_58 Q r b v2 v3 s0 Sx → P_X4_bodyOf_58 (fun x T => Q x T ∧ LnB f n a r w nm nd B (sBody f n p lh) A x T ∧ (x = 1 → TRK b [r, w, nm, nd] S (shR (fI S b) (pVal f n p) (pVal f n (e2 f n p)) (pVal f n (e2 f n (e2 f n p))) (if kd = 1 then am else 0)) T)) r b v2 v3 s0 Sx := by
    intro v2 v3 s0 hs0 h2v h3v Sx tk ls h
    subst hs0
    have K := K.trans (rb_id _)
    delta P_X4_bodyOf_58
    obtain ⟨o17, h⟩ := h
    refine ⟨o17, ?_⟩
    refine cm_X4_wordAndWhole (sp_X4_wordAndWhole h ls.1) h (fun x18 S19 hp h g20 b21 => ?_)
    have h := h g20 b21
    obtain ⟨-, F, hc, hvL⟩ := hp
    replace tk := tk_R tk F (by simp) hbr
    rcases cb_split hB ls F hc K (le_part ls) with ⟨rfl, lb⟩ | ⟨p9, rfl, hRp9, K, ls⟩
    · exact ⟨fun c => absurd rfl c, fun c => ⟨h.2 c, lb _, fun z => absurd z (by decide)⟩⟩
    refine ⟨fun c => ?_, fun c => absurd c (by decide)⟩
    have h := h.1 c
    intro x23 ex23
    have h := h x23 ex23
    obtain ⟨o24, h⟩ := h
    refine ⟨o24, ?_⟩
    refine cm_X6_shape (sq_X6_shape (bw := if kd = 1 then am else 0) h ?_) h (fun S25 hp h g26 => ?_)
    · rw [tk.2, b0, b1]
      by_cases hk1 : kd = 1
      · rw [if_pos hk1, if_pos (by rw [hk1]; rfl)]
      · rw [if_neg hk1, if_neg (fun z => hk1 (nI_inj (by omega) (by omega) (z.trans rfl)))]
    have h := h g26
    refine ⟨h, lb_s K rfl (ls_Fr hB ls hp.2.1 ob_ (by decide)), fun _ => ?_⟩
    have q7 := sPart_inl hRp7
    subst q7
    have q14 := sPart_inl hRp14
    subst q14
    have u := hp.2.2
    rw [tk.2] at u
    subst h2v h3v
    have e9 : x23 = pVal f n (e2 f n (e2 f n p)) := ex23.trans (hvL rfl)
    rw [e9] at u
    exact ⟨fun c hc hcb => (u.1 c (by simp) hcb).trans (tk.1 c hc hcb), u.2⟩
  refine ⟨fun c16 => ?_, fun c28 => ?_⟩
  · exact fin _ _ _ (by rw [hlh, if_neg (fun z => c16 (by rw [ex17, k0, z]; rfl))]) (ex8.trans hv6) (ex15.trans hv13) _ tk ls (h.1 c16)
  · have h := h.2 c28
    intro x29 ex29
    have h := h x29 ex29
    refine fin _ _ _ ?_ (ex8.trans hv6) (ex15.trans hv13) _ tk ls h
    rw [hlh, if_pos (nI_inj (by omega) (by omega) (by rw [← k0, ← ex17, c28]; rfl)), ex29, k1]
set_option maxHeartbeats 4000000 in
theorem sq_X4_walkerLine (hB : BFa a r w nm nd B) (h : P_X4_walkerLine r Q S) (ls : LnS f n a r w nm nd B A p S) (hwk : ∀ x b i, fR B w 9 = some b → i < hN B b → fR B b i = some x → ob B x 6) (hlt : aW A < 4) (hm : aM A < 12) : P_X4_walkerLine r (fun x T => Q x T ∧ LnB f n a r w nm nd B (sWalker f n p A) (up4 (upN A (tV f n p) (8 + aW A))) x T ∧ (x = 1 → ObD 9 6 (aW A) 7 r w nm nd (wkC f n p) B S T)) S := by
  have ls0 := ls
  delta P_X4_walkerLine P_X4_walkerLine_0
  obtain ⟨o1, h⟩ := h
  refine ⟨o1, ?_⟩
  obtain ⟨a2, ea2, h⟩ := h
  refine ⟨a2, ea2, ?_⟩
  cases (ls_w hB ls).symm.trans ea2
  obtain ⟨o3, h⟩ := h
  refine ⟨o3, ?_⟩
  obtain ⟨a4, ea4, h⟩ := h
  refine ⟨a4, ea4, ?_⟩
  obtain ⟨a5, ea5, h⟩ := h
  refine ⟨a5, ea5, ?_⟩
  cases (ls_w hB ls).symm.trans ea5
  obtain ⟨o6, h⟩ := h
  refine ⟨o6, ?_⟩
  intro x7 ex7
  have h := h x7 ex7
  obtain ⟨o8, h⟩ := h
  refine ⟨o8, ?_⟩
  obtain ⟨o9, h⟩ := h
  refine ⟨o9, ?_⟩
  obtain ⟨bo, ebo, h⟩ := h
  refine ⟨bo, ebo, ?_⟩
  obtain ⟨a10, ea10, h⟩ := h
  refine ⟨a10, ea10, ?_⟩
  cases (ls_w hB ls).symm.trans ea10
  obtain ⟨o11, h⟩ := h
  refine ⟨o11, ?_⟩
  intro x12 ex12
  have h := h x12 ex12
  have fB := ls.2.2.2.1.2.2.2
  have ob_ : ob B bo 6 := hwk bo a4 _ (by rw [← fB]; exact ea4) (by rw [← ls.2.2.2.1.2.2.1]; exact Nat.not_le.mp (fun z => o9 (Or.inr z))) (by rw [← fB]; exact ebo)
  have hbr := ob_ne ob_ hB.2.1 (by decide)
  have hbm := ob_ne ob_ hB.2.2.2.1 (by decide)
  have hbd := ob_ne ob_ hB.2.2.2.2.1 (by decide)
  have now := ob_ne ob_ hB.2.2.1 (by decide)
  have tk := tk_r0 bo [r, w, nm, nd] S
  have K : sWalker f n p A = rb _ _ := rfl
  refine cm_X4_newName (sp_X4_newName h ls.1 ls.2.1 hm (idn := 8 + aW A) (by rw [ex12, ls.2.2.1.2.2.2.2.1]; exact nI_add 8 (aW A)) (by omega) (ob_ne hB.2.2.2.2.2 hB.2.2.2.1 (by decide)) (ob_ne hB.2.2.2.2.2 hB.2.2.2.2.1 (by decide))) h (fun x5 S6 hp h g7 b8 => ?_)
  have h := h g7 b8
  replace tk := tk_A tk hp.2.1 (by simp) (by simp) (by simp) hbr hbm hbd
  rcases new_split hB ls hp.2 K with ⟨rfl, lb⟩ | ⟨p1, rfl, q1, K, ls⟩
  · exact ⟨fun c => ⟨h.1 c, lb _, fun z => absurd z (by decide)⟩, fun c => absurd rfl c⟩
  refine ⟨fun c => absurd c (by decide), fun c => ?_⟩
  have h := h.2 c
  refine cm_X4_kindOf (sq_X4_kindOf hB ob_ h ls) h (fun x20 S21 hp h g22 b23 => ?_)
  have h := h g22 b23
  obtain ⟨-, lb, hk, tk1⟩ := hp
  replace tk := tk_tr tk tk1
  rcases lb_split lb K with ⟨rfl, lb2⟩ | ⟨p2, rfl, hRp2, K, ls⟩
  · exact ⟨fun c => ⟨h.1 c, lb2 _, fun z => absurd z (by decide)⟩, fun c => absurd rfl c⟩
  refine ⟨fun c => absurd c (by decide), fun c => ?_⟩
  have h := h.2 c
  obtain ⟨k0, k1⟩ := hk rfl
  refine cm_X4_bodyOf (sq_X4_bodyOf hB ob_ h ls k0 k1 (kdOf_le _ _ _) (lh := lhOf f n p1) rfl) h (fun x26 S27 hp h g28 b29 => ?_)
  have h := h g28 b29
  obtain ⟨-, lb, tk2⟩ := hp
  rcases lb_split lb K with ⟨rfl, lb2⟩ | ⟨p3, rfl, hRp3, K, ls⟩
  · exact ⟨fun c => absurd rfl c, fun c => ⟨h.2 c, lb2 _, fun z => absurd z (by decide)⟩⟩
  refine ⟨fun c => ?_, fun c => absurd c (by decide)⟩
  have h := h.1 c
  replace tk := tk_tr tk (tk2 rfl)
  refine cm_X4_wordAndWhole (sp_X4_wordAndWhole h ls.1) h (fun x101 S102 hp h g103 b104 => ?_)
  have h := h g103 b104
  obtain ⟨-, F, hc, hv105⟩ := hp
  replace tk := tk_R tk F (by simp) hbr
  rcases cb_split hB ls F hc K (le_part ls) with ⟨rfl, lb⟩ | ⟨p106, rfl, hRp106, K, ls⟩
  · exact ⟨fun c => absurd rfl c, fun c => ⟨h.2 c, lb _, fun z => absurd z (by decide)⟩⟩
  refine ⟨fun c => ?_, fun c => absurd c (by decide)⟩
  have h := h.1 c
  replace hv105 := hv105 rfl
  intro x107 ex107
  have h := h x107 ex107
  obtain ⟨o108, h⟩ := h
  refine ⟨o108, ?_⟩
  intro T109 eT109
  have h := h T109 eT109
  replace ls := ls_Ik hB ls eT109 ob_ (by decide)
  replace tk := tk_I tk eT109
  intro x110 ex110
  have h := h x110 ex110
  have k5 : x110 = pVal f n p3 := by rw [ex110, wI_at eT109, ex107, hv105]
  subst k5
  replace K := K.trans (rb_id _)
  refine cm_X4_wordAndWhole (sp_X4_wordAndWhole h ls.1) h (fun x111 S112 hp h g113 b114 => ?_)
  have h := h g113 b114
  obtain ⟨-, F, hc, hv115⟩ := hp
  replace tk := tk_R tk F (by simp) hbr
  rcases cb_split hB ls F hc K (le_part ls) with ⟨rfl, lb⟩ | ⟨p116, rfl, hRp116, K, ls⟩
  · exact ⟨fun c => absurd rfl c, fun c => ⟨h.2 c, lb _, fun z => absurd z (by decide)⟩⟩
  refine ⟨fun c => ?_, fun c => absurd c (by decide)⟩
  have h := h.1 c
  replace hv115 := hv115 rfl
  intro x117 ex117
  have h := h x117 ex117
  intro T118 eT118
  have h := h T118 eT118
  replace ls := ls_Ik hB ls eT118 ob_ (by decide)
  replace tk := tk_I tk eT118
  obtain ⟨a119, ea119, h⟩ := h
  refine ⟨a119, ea119, ?_⟩
  cases (ls_w hB ls).symm.trans ea119
  obtain ⟨o120, h⟩ := h
  refine ⟨o120, ?_⟩
  intro x121 ex121
  have h := h x121 ex121
  intro x122 ex122
  have h := h x122 ex122
  intro T123 eT123
  have h := h T123 eT123
  refine ⟨h, lb_s K rfl (ls_C hB ls eT123 (cn_4 ls.2.2.1 eT123 (inc_ ex121 ls.2.2.1.2.2.2.2.1 ex122)) (ab_4 ls.2.2.2.2 hlt) ⟨rfl, rfl, rfl⟩), fun _ => ?_⟩
  replace tk := tk_w tk eT123 (by simp) now
  have fB := ls0.2.2.2.1.2.2.2
  subst q1
  have q2 := sKind_inl hRp2
  subst q2
  have q3 := sBody_inl hRp3
  subst q3
  have q4 := sPart_inl hRp106
  subst q4
  refine ⟨a4, bo, by rw [← fB]; exact ea4, ?_, ob_, tk.1, ?_⟩
  · rw [← fB, ← nI_cl (p := aW A) (by omega), ← ex7.trans ls0.2.2.1.2.2.2.2.1]
    exact ebo
  · intro j hj
    rw [tk.2]
    match j, hj with
    | 0, _ => simpa [va_up, wkC, shR] using k0
    | 1, _ => simpa [va_up, wkC, shR] using k1
    | 2, _ => simp [va_up, wkC, shR, bowOf]
    | 3, _ => simp [va_up, wkC, shR, bowOf]
    | 4, _ => simp [va_up, wkC, shR, bowOf]
    | 5, _ => simpa [va_up, wkC, shR] using ex107.trans hv105
    | 6, _ => simpa [va_up, wkC, shR, e2] using ex117.trans hv115
    | j + 7, hj => exact absurd hj (by omega)
end Ct2
/-! the place and seen lines: what they write -/
section Ct3
variable {f : Nat → Int32} {n a r w nm nd p : Nat} {A : AS} {B S T : HS} {Q : Int32 → HS → Prop}
def dripOf (k : Nat) (v : Int32) : Int32 := if k = 1 then 0 else if k = 2 then v else -1
def Ot (X : List Nat) (S T : HS) : Prop := ∀ b, b ∉ X → fI T b = fI S b
theorem ot_rf (X : List Nat) (S : HS) : Ot X S S := fun _ _ => rfl
theorem ot_R {X : List Nat} {S0 : HS} (t : Ot X S0 S) (F : FrR r S T) (hr : r ∈ X) : Ot X S0 T := fun b hb => (F.2.2.2.2.1 b (fun z => hb (z ▸ hr))).1.trans (t b hb)
theorem ot_A {X : List Nat} {S0 : HS} (t : Ot X S0 S) (F : FrA r nm nd S T) (hr : r ∈ X) (hm : nm ∈ X) (hn : nd ∈ X) : Ot X S0 T := fun b hb => (F.2.2.2.2.1 b (fun z => hb (z ▸ hr)) (fun z => hb (z ▸ hm)) (fun z => hb (z ▸ hn))).1.trans (t b hb)
/-- a place's row -/
def PlD (r w nm nd k : Nat) (v : Int32) (B S T : HS) : Prop := ∃ d, fR B w 7 = some d ∧ ob B d 13 ∧ TRK d [r, w, nm, nd] S (va_up (fI S d) k v) T
theorem bq64 {v1 : Int32} {L : Res} {S0 : HS} (hB : BFa a r w nm nd B) (hd : DSt w nd B) (h : P_X4_placeLine_64 Q r v1 S) (ls : LnS f n a r w nm nd B A p S) (K : L = .inl p) (hlt : aP A < 8) (ot : Ot [r, w, nm, nd] S0 S) : P_X4_placeLine_64 (fun x T => Q x T ∧ LnB f n a r w nm nd B L (up2 A) x T ∧ (x = 1 → PlD r w nm nd (aP A) v1 B S0 T)) r v1 S := by
  have ls0 := ls
  delta P_X4_placeLine_64
  obtain ⟨o20, h⟩ := h
  refine ⟨o20, ?_⟩
  obtain ⟨a21, ea21, h⟩ := h
  refine ⟨a21, ea21, ?_⟩
  cases (ls_w hB ls).symm.trans ea21
  obtain ⟨o22, h⟩ := h
  refine ⟨o22, ?_⟩
  obtain ⟨a23, ea23, h⟩ := h
  refine ⟨a23, ea23, ?_⟩
  obtain ⟨a24, ea24, h⟩ := h
  refine ⟨a24, ea24, ?_⟩
  cases (ls_w hB ls).symm.trans ea24
  obtain ⟨o25, h⟩ := h
  refine ⟨o25, ?_⟩
  intro x26 ex26
  have h := h x26 ex26
  obtain ⟨o27, h⟩ := h
  refine ⟨o27, ?_⟩
  obtain ⟨o28, h⟩ := h
  refine ⟨o28, ?_⟩
  intro S29 eS29
  have h := h S29 eS29
  have ls := ls_13 hB hd ls eS29 (Or.inl rfl) ea23 o27
  obtain ⟨a30, ea30, h⟩ := h
  refine ⟨a30, ea30, ?_⟩
  cases (ls_w hB ls).symm.trans ea30
  obtain ⟨o31, h⟩ := h
  refine ⟨o31, ?_⟩
  intro x32 ex32
  have h := h x32 ex32
  intro x33 ex33
  have h := h x33 ex33
  intro S34 eS34
  have h := h S34 eS34
  refine ⟨h, lb_s K rfl (ls_C hB ls eS34 (cn_2 ls.2.2.1 eS34 (inc_ ex32 ls.2.2.1.2.2.1 ex33)) (ab_2 ls.2.2.2.2 hlt) ⟨rfl, rfl, rfl⟩), fun _ => ?_⟩
  have fB := ls0.2.2.2.1.2.2.2
  have oa := bb_ob ls0.2.2.2.1 o27
  have ea := ea23
  rw [fB] at ea
  have n1 : a23 ≠ r := ob_ne oa hB.2.1 (by decide)
  have n2 : a23 ≠ w := ob_ne oa hB.2.2.1 (by decide)
  have n3 : a23 ≠ nm := ob_ne oa hB.2.2.2.1 (by decide)
  have n4 : a23 ≠ nd := hd 7 a23 (Or.inl rfl) ea
  have e26 : x26.toNatClampNeg = aP A := by rw [ex26.trans ls0.2.2.1.2.2.1]; exact nI_cl (by omega)
  rw [e26] at eS29
  have tk : TRK a23 [r, w, nm, nd] S0 (fI S0 a23) S := ⟨fun b hb _ => ot b hb, ot a23 (by simp [n1, n2, n3, n4])⟩
  exact ⟨a23, ea, oa, tk_w (tk_I tk eS29) eS34 (by simp) n2⟩
set_option maxHeartbeats 2000000 in
theorem sq_X4_placeLine (hB : BFa a r w nm nd B) (hd : DSt w nd B) (h : P_X4_placeLine r Q S) (ls : LnS f n a r w nm nd B A p S) (hlt : aP A < 8) (hm : aM A < 12) : P_X4_placeLine r (fun x T => Q x T ∧ LnB f n a r w nm nd B (sPlace f n p A) (up2 (upN A (tV f n p) (aP A))) x T ∧ (x = 1 → PlD r w nm nd (aP A) (dripOf (plK f n p) (plV f n p)) B S T)) S := by
  have ot := ot_rf [r, w, nm, nd] S
  delta P_X4_placeLine P_X4_placeLine_0
  obtain ⟨o1, h⟩ := h
  refine ⟨o1, ?_⟩
  obtain ⟨a2, ea2, h⟩ := h
  refine ⟨a2, ea2, ?_⟩
  cases (ls_w hB ls).symm.trans ea2
  obtain ⟨o3, h⟩ := h
  refine ⟨o3, ?_⟩
  intro x4 ex4
  have h := h x4 ex4
  have K : sPlace f n p A = rb _ _ := rfl
  refine cm_X4_newName (sp_X4_newName h ls.1 ls.2.1 hm (ex4.trans ls.2.2.1.2.2.1) (by omega) (ob_ne hB.2.2.2.2.2 hB.2.2.2.1 (by decide)) (ob_ne hB.2.2.2.2.2 hB.2.2.2.2.1 (by decide))) h (fun x5 S6 hp h g7 b8 => ?_)
  have h := h g7 b8
  replace ot := ot_A ot hp.2.1 (by simp) (by simp) (by simp)
  rcases new_split hB ls hp.2 K with ⟨rfl, lb⟩ | ⟨p1, rfl, q1, K, ls⟩
  · exact ⟨fun c => absurd rfl c, fun c => ⟨h.2 c, lb _, fun z => absurd z (by decide)⟩⟩
  refine ⟨fun c => ?_, fun c => absurd c (by decide)⟩
  have h := h.1 c
  subst q1
  refine cm_X4_is (sp_X4_is h ls.1.2.1) h (fun x10 S11 hp h g12 b13 => ?_)
  have h := h g12 b13
  obtain ⟨-, hS, hx⟩ := hp
  subst hS
  refine ⟨?_, ?_⟩
  · intro c14
    have h := h.1 c14
    have K := K.trans (dc_n (an0 hx c14))
    refine cm_X4_is (sp_X4_is h ls.1.2.1) h (fun x15 S16 hp h g17 b18 => ?_)
    have h := h g17 b18
    obtain ⟨-, hS, hx2⟩ := hp
    subst hS
    refine ⟨?_, ?_⟩
    · intro c19
      have ev : dripOf (plK f n p) (plV f n p) = -1 := by
        unfold plK plV
        rw [dc_n (an0 hx c14), dc_n (an0 hx2 c19)]
        rfl
      rw [ev]
      exact bq64 hB hd (h.1 c19) ls (K.trans (dc_n (an0 hx2 c19))) hlt ot
    · intro c35
      have h := h.2 c35
      have K := (K.trans (dc_y (an1 hx2 c35))).trans (rb_id _)
      refine cm_X4_wordAndWhole (sp_X4_wordAndWhole h ls.1) h (fun x36 S37 hp h g38 b39 => ?_)
      have h := h g38 b39
      obtain ⟨-, F, hc, hvL⟩ := hp
      replace ot := ot_R ot F (by simp)
      rcases cb_split hB ls F hc K (le_part ls) with ⟨rfl, lb⟩ | ⟨p2, rfl, hRp2, K, ls⟩
      · exact ⟨fun c => absurd rfl c, fun c => ⟨h.2 c, lb _, fun z => absurd z (by decide)⟩⟩
      refine ⟨fun c => ?_, fun c => absurd c (by decide)⟩
      have h := h.1 c
      intro x41 ex41
      have h := h x41 ex41
      have ev : dripOf (plK f n p) (plV f n p) = x41 := by
        unfold plK plV
        rw [dc_n (an0 hx c14), dc_y (an1 hx2 c35), dc_n (an0 hx c14), dc_y (an1 hx2 c35), ex41, hvL rfl]
        rfl
      rw [ev]
      exact bq64 hB hd h ls K hlt ot
  · intro c58
    have h := h.2 c58
    have K := K.trans (dc_y (an1 hx c58))
    refine cm_X4_next (sp_X4_next h ls.1.1 (po_4 ls.1) (le1 ls) (po_0 ls.1)) h (fun S59 hp h g60 => ?_)
    have h := h g60
    have ev : dripOf (plK f n p) (plV f n p) = 0 := by
      unfold plK plV
      rw [dc_y (an1 hx c58)]
      rfl
    rw [ev]
    exact bq64 hB hd h (ls_R hB ls (frR_next hp.2.1) hp.2.2 (le1 ls)) K hlt (ot_R ot (frR_next hp.2.1) (by simp))
theorem nI_sub8 {q : Nat} (h : 8 ≤ q) (h2 : q < 200) : nI q - 8 = nI (q - 8) := by
  have e8 : (8 : Int32).toInt = 8 := by decide
  refine Int32.toInt_inj.mp ?_
  rw [Int32.toInt_sub, nI_i (by omega), nI_i (by omega), e8]
  rw [Int.bmod_eq_of_le (by omega) (by omega)]
  omega
theorem sq_X4_someWalker (h : P_X4_someWalker r Q S) (ls : LnS f n a r w nm nd B A p S) : P_X4_someWalker r (fun x T => Q x T ∧ FrR r S T ∧ CB f n r (sSW f n p A) x T ∧ (x = 1 → fI T r 9 = nI (lkV A (tV f n p) - 8))) S := by
  have po := ls.1
  have lt := na_lt (v := tV f n p) ls.2.1
  delta P_X4_someWalker P_X4_someWalker_0
  obtain ⟨o1, h⟩ := h
  refine ⟨o1, ?_⟩
  refine cm_X4_canBeName (sp_X4_canBeName h po.2.1) h (fun x2 S3 hp h g4 b5 => ?_)
  have h := h g4 b5
  obtain ⟨-, hS, hx⟩ := hp
  subst hS
  refine ⟨?_, ?_⟩
  · intro c6
    have h := h.1 c6
    have ok := an1 hx c6
    refine cm_X4_findName (sp_X4_findName h po.2.1 ls.2.1) h (fun x7 S8 hp h g9 => ?_)
    have h := h g9
    obtain ⟨-, hS, hx7⟩ := hp
    subst hS
    have i8 : (8 : Int32).toInt = 8 := by decide
    refine ⟨?_, ?_⟩
    · intro c10
      have c11 := le_i c10
      have h := h.1 c10
      cases hl : lkr (aV A) (aI A) (tV f n p) (aM A) 0 with
      | none =>
        rw [hx7, hl] at c11
        have : (enc none).toInt = -1 := by decide
        omega
      | some q =>
        have hq := lt q hl
        have i7 : x7.toInt = (q : Int) := by rw [hx7, hl]; exact nI_i (by omega)
        intro x11 ex11
        have h := h x11 ex11
        intro S12 eS12
        have h := h S12 eS12
        have g20 := frR_val eS12
        refine cm_X4_next (sp_X4_next h (ec_R po.1 g20) (by rw [wI_ne eS12 (by decide)]; exact po_4 po) (po_le po) (by rw [wI_ne eS12 (by decide)]; exact po_0 po)) h (fun S13 hp h g14 => ?_)
        have h := h g14
        refine ⟨h, fr_tr g20 (frR_next hp.2.1), ?_, fun _ => ?_⟩
        · rw [sSW_some ok hl, if_neg (by omega)]
          exact ⟨rfl, hp.2.2⟩
        · rw [hp.2.1.2.2.2.2.2.1 9 (by decide), wI_at eS12, ex11, hx7, hl, lkV_of hl]
          exact nI_sub8 (by omega) (by omega)
    · intro c15
      have c16 := nle_i c15
      have h := h.2 c15
      refine cm_X4_fail (sp_X4_fail h) h (fun x16 S17 hp h g18 b19 => ?_)
      have h := h g18 b19
      obtain ⟨q1, q2⟩ := fl_res (k := 2) po.2.1 rfl hp.2
      refine ⟨h.1, h.2, q1, ?_⟩
      cases hl : lkr (aV A) (aI A) (tV f n p) (aM A) 0 with
      | none =>
        have K : sSW f n p A = .inr (2, tSt f n p) := by
          unfold sSW
          rw [dc_y ok, hl]
        rw [K]; exact ⟨q2, fun z => absurd z (by rw [hp.2.1]; decide)⟩
      | some q =>
        have hq := lt q hl
        have i7 : x7.toInt = (q : Int) := by rw [hx7, hl]; exact nI_i (by omega)
        rw [sSW_some ok hl, if_pos (by omega)]
        exact ⟨q2, fun z => absurd z (by rw [hp.2.1]; decide)⟩
  · intro c21
    have h := h.2 c21
    refine cm_X4_fail (sp_X4_fail h) h (fun x22 S23 hp h g24 b25 => ?_)
    have h := h g24 b25
    obtain ⟨q1, q2⟩ := fl_res (k := 1) po.2.1 rfl hp.2
    refine ⟨h.1, h.2, q1, ?_⟩
    unfold sSW
    rw [dc_n (an0 hx c21)]
    exact ⟨q2, fun z => absurd z (by rw [hp.2.1]; decide)⟩
theorem sf_ix : ∀ s, s < 4 → ∀ i, i < 5 → ((nI s * (5 : Int32)) + nI i).toNatClampNeg = 5 * s + i := by decide
def SnT (f : Nat → Int32) (n r w nm nd sw sf s s0 : Nat) (who : Int32) (S0 : HS) (i : Nat) (U : HS) : Prop := (∀ b, b ∉ [r, w, nm, nd] → b ≠ sw → b ≠ sf → fI U b = fI S0 b) ∧ fI U sw = va_up (fI S0 sw) s who ∧ (∀ z, z < 5 * s → fI U sf z = fI S0 sf z) ∧ ∀ k, k < i → fI U sf (5 * s + k) = (tV f n (snP f n k s0)).toInt32
def SnW (B : HS) (w sw sf : Nat) : Prop := fR B w 10 = some sw ∧ fR B w 11 = some sf ∧ sw ≠ sf ∧ ob B sw 13 ∧ ob B sf 13
def snQ (f : Nat → Int32) (n s0 i p' : Nat) : Prop := (i = 0 → p' = s0) ∧ (0 < i → p' = tEn f n (snP f n (i - 1) s0))
theorem sn_step {sw sf s s0 i j : Nat} {who v : Int32} {S0 U V : HS} (hd : DSt w nd B) (hB : BFa a r w nm nd B) (hw : SnW B w sw sf) (h : SnT f n r w nm nd sw sf s s0 who S0 i S) (F : FrR r S T) (e : U = sI T sf (5 * s + i) v) (hv : v = (tV f n (snP f n i s0)).toInt32) : SnT f n r w nm nd sw sf s s0 who S0 (i + 1) U := by
  obtain ⟨w1, w2, w3, w4, w5⟩ := hw
  obtain ⟨h1, h2, h3, h4⟩ := h
  have n1 : sf ≠ r := ob_ne w5 hB.2.1 (by decide)
  have m1 : sw ≠ r := ob_ne w4 hB.2.1 (by decide)
  have rf := (F.2.2.2.2.1 sf n1).1
  have ru := row_I e
  rw [rf] at ru
  refine ⟨fun b hb hb1 hb2 => ?_, ?_, fun z hz => ?_, fun k hk => ?_⟩
  · rw [row_o e hb2, (F.2.2.2.2.1 b (fun z => hb (by rw [z]; simp))).1]
    exact h1 b hb hb1 hb2
  · rw [row_o e w3, (F.2.2.2.2.1 sw m1).1]
    exact h2
  · rw [ru, va_up_ne _ _ (by omega)]
    exact h3 z hz
  · rw [ru]
    by_cases q : k = i
    · rw [q, va_up_self]
      exact hv
    · rw [va_up_ne _ _ (by omega)]
      exact h4 k (by omega)
theorem sn_R {sw sf s s0 i : Nat} {who : Int32} {S0 : HS} (hB : BFa a r w nm nd B) (hw : SnW B w sw sf) (h : SnT f n r w nm nd sw sf s s0 who S0 i S) (F : FrR r S T) : SnT f n r w nm nd sw sf s s0 who S0 i T := by
  obtain ⟨w1, w2, w3, w4, w5⟩ := hw
  obtain ⟨h1, h2, h3, h4⟩ := h
  have n1 : sf ≠ r := ob_ne w5 hB.2.1 (by decide)
  have m1 : sw ≠ r := ob_ne w4 hB.2.1 (by decide)
  have rf := (F.2.2.2.2.1 sf n1).1
  refine ⟨fun b hb hb1 hb2 => ?_, ?_, fun z hz => ?_, fun k hk => ?_⟩
  · rw [(F.2.2.2.2.1 b (fun z => hb (by rw [z]; simp))).1]
    exact h1 b hb hb1 hb2
  · rw [(F.2.2.2.2.1 sw m1).1]
    exact h2
  · rw [rf]; exact h3 z hz
  · rw [rf]; exact h4 k hk
theorem bq47 {v1 : Int32} {sw sf s0 i : Nat} {who : Int32} {S0 : HS} {Z : HS → Prop} {L : Res} {g : Nat → Res} {X : Nat → Int32 → HS → Prop} {X' : Nat → Int32 → HS → Prop} (hB : BFa a r w nm nd B) (hd : DSt w nd B) (h : P_X4_seenLine_47 Q X r v1 S) (ls : LnS f n a r w nm nd B A p S) (K : L = rb (sWhole f n p 0 999) g) (hw : SnW B w sw sf) (hs4 : aS A < 4) (hi5 : i < 5) (hvi : v1 = nI i) (ps : p = snP f n i s0) (sn : SnT f n r w nm nd sw sf (aS A) s0 who S0 i S) (hX : ∀ (y : Int32) (p' : Nat) (U : HS), y = v1 + 1 → LnS f n a r w nm nd B A p' U → L = g p' → p' = tEn f n (snP f n i s0) → SnT f n r w nm nd sw sf (aS A) s0 who S0 (i + 1) U → X r y U → X' r y U) : P_X4_seenLine_47 (fun x T => Q x T ∧ LnB f n a r w nm nd B L (up5 A) x T ∧ (x = 1 → Z T)) X' r v1 S := by
  delta P_X4_seenLine_47
  obtain ⟨o10, h⟩ := h
  refine ⟨o10, ?_⟩
  refine cm_X4_whole (sp_X4_whole h ls.1) h (fun x11 S12 hp h g13 b14 => ?_)
  have h := h g13 b14
  obtain ⟨-, F, hc, hvL⟩ := hp
  rcases cb_split hB ls F hc K (le_whole ls) with ⟨rfl, lb⟩ | ⟨p1, rfl, hRp1, K, ls⟩
  · exact ⟨fun c => absurd rfl c, fun c => ⟨h.2 c, lb _, fun z => absurd z (by decide)⟩⟩
  refine ⟨fun c => ?_, fun c => absurd c (by decide)⟩
  have h := h.1 c
  obtain ⟨a16, ea16, h⟩ := h
  refine ⟨a16, ea16, ?_⟩
  cases (ls_w hB ls).symm.trans ea16
  obtain ⟨o17, h⟩ := h
  refine ⟨o17, ?_⟩
  obtain ⟨a18, ea18, h⟩ := h
  refine ⟨a18, ea18, ?_⟩
  obtain ⟨a19, ea19, h⟩ := h
  refine ⟨a19, ea19, ?_⟩
  cases (ls_w hB ls).symm.trans ea19
  obtain ⟨o20, h⟩ := h
  refine ⟨o20, ?_⟩
  intro x21 ex21
  have h := h x21 ex21
  intro x22 ex22
  have h := h x22 ex22
  obtain ⟨o23, h⟩ := h
  refine ⟨o23, ?_⟩
  obtain ⟨o24, h⟩ := h
  refine ⟨o24, ?_⟩
  intro S25 eS25
  have h := h S25 eS25
  intro x26 ex26
  have h := h x26 ex26
  have ls' := ls_13 hB hd ls eS25 (Or.inr (Or.inr rfl)) ea18 o23
  have esf : a18 = sf := by
    have z := ea18
    rw [ls.2.2.2.1.2.2.2, hw.2.1] at z
    cases z
    rfl
  subst esf
  have e21 : ((x21 * (5 : Int32)) + v1).toNatClampNeg = 5 * aS A + i := by rw [ex21.trans ls.2.2.1.2.2.2.2.2, hvi]; exact sf_ix _ hs4 _ hi5
  rw [e21] at eS25
  exact hX _ p1 _ ex26 ls' K (by rw [sWhole_inl hRp1, ps]) (sn_step (i := i) (j := 0) (V := S) hd hB hw sn F eS25 (by rw [ex22, hvL rfl, ps])) h
set_option maxHeartbeats 2000000 in
theorem lq30 {L : Res} {sw sf s0 : Nat} {who : Int32} {S0 : HS} {v0 : Nat} {v1 : Int32} (hB : BFa a r w nm nd B) (hd : DSt w nd B) (hlt : aS A < 4) (hw : SnW B w sw sf) (h : P_X4_seenLine_30 Q v0 v1 S) (hi : ∃ i p', r = v0 ∧ i ≤ 5 ∧ v1 = nI i ∧ LnS f n a r w nm nd B A p' S ∧ L = sFc f n (5 - i) i p' ∧ snQ f n s0 i p' ∧ SnT f n r w nm nd sw sf (aS A) s0 who S0 i S) : P_X4_seenLine_30 (fun x T => Q x T ∧ LnB f n a r w nm nd B L (up5 A) x T ∧ (x = 1 → SnT f n r w nm nd sw sf (aS A) s0 who S0 5 T)) v0 v1 S := by
  refine h (fun v0 v1 S => (∃ i p', r = v0 ∧ i ≤ 5 ∧ v1 = nI i ∧ LnS f n a r w nm nd B A p' S ∧ L = sFc f n (5 - i) i p' ∧ snQ f n s0 i p' ∧ SnT f n r w nm nd sw sf (aS A) s0 who S0 i S) → P_X4_seenLine_30 (fun x T => Q x T ∧ LnB f n a r w nm nd B L (up5 A) x T ∧ (x = 1 → SnT f n r w nm nd sw sf (aS A) s0 who S0 5 T)) v0 v1 S) ?_ hi
  intro v0 v1 S h hi
  obtain ⟨i, p', rfl, hi5, hv1, ls, K, ps, sn⟩ := hi
  have e5 : (5 : Int32).toInt = 5 := by decide
  have e0 : (0 : Int32).toInt = 0 := by decide
  have ei : v1.toInt = (i : Int) := by rw [hv1]; exact nI_i (by omega)
  refine fd_X4_seenLine_30 ?_
  delta B_X4_seenLine_30
  refine ⟨?_, ?_⟩
  · intro c1
    have := le_i c1
    have h := h.1 c1
    have hi : i = 5 := by omega
    rw [hi, Nat.sub_self] at K
    obtain ⟨o2, h⟩ := h
    refine ⟨o2, ?_⟩
    obtain ⟨a3, ea3, h⟩ := h
    refine ⟨a3, ea3, ?_⟩
    cases (ls_w hB ls).symm.trans ea3
    obtain ⟨o4, h⟩ := h
    refine ⟨o4, ?_⟩
    intro x5 ex5
    have h := h x5 ex5
    intro x6 ex6
    have h := h x6 ex6
    intro S7 eS7
    have h := h S7 eS7
    refine ⟨h, lb_s K rfl (ls_C hB ls eS7 (cn_5 ls.2.2.1 eS7 (inc_ ex5 ls.2.2.1.2.2.2.2.2 ex6)) (ab_5 ls.2.2.2.2 hlt) ⟨rfl, rfl, rfl⟩), fun _ => ?_⟩
    have nw1 : sw ≠ w := ob_ne hw.2.2.2.1 hB.2.2.1 (by decide)
    have nw2 : sf ≠ w := ob_ne hw.2.2.2.2 hB.2.2.1 (by decide)
    rw [hi] at sn
    exact ⟨fun b hb hb1 hb2 => (row_o eS7 (fun z => hb (by rw [z]; simp))).trans (sn.1 b hb hb1 hb2), (row_o eS7 nw1).trans sn.2.1, fun z hz => by rw [row_o eS7 nw2]; exact sn.2.2.1 z hz, fun k hk => by rw [row_o eS7 nw2]; exact sn.2.2.2 k hk⟩
  · intro c8
    have := nle_i c8
    have h := h.2 c8
    have hs : 5 - i = (4 - i) + 1 := by omega
    rw [hs] at K
    have nx : ∀ (y : Int32) (p' : Nat) (U : HS), y = v1 + 1 → LnS f n a r w nm nd B A p' U → L = sFc f n (4 - i) (i + 1) p' → p' = tEn f n (snP f n i s0) → SnT f n r w nm nd sw sf (aS A) s0 who S0 (i + 1) U → ((∃ i p', r = r ∧ i ≤ 5 ∧ y = nI i ∧ LnS f n a r w nm nd B A p' U ∧ L = sFc f n (5 - i) i p' ∧ snQ f n s0 i p' ∧ SnT f n r w nm nd sw sf (aS A) s0 who S0 i U) → P_X4_seenLine_30 (fun x T => Q x T ∧ LnB f n a r w nm nd B L (up5 A) x T ∧ (x = 1 → SnT f n r w nm nd sw sf (aS A) s0 who S0 5 T)) r y U) → P_X4_seenLine_30 (fun x T => Q x T ∧ LnB f n a r w nm nd B L (up5 A) x T ∧ (x = 1 → SnT f n r w nm nd sw sf (aS A) s0 who S0 5 T)) r y U := by
      intro y p' U ey ls K pq sn h
      exact h ⟨i + 1, p', rfl, by omega, by rw [ey, hv1]; exact nI_1 i, ls, by rw [show 5 - (i + 1) = 4 - i by omega]; exact K, ⟨fun z => absurd z (by omega), fun _ => by rw [pq, Nat.add_sub_cancel]⟩, sn⟩
    refine ⟨?_, ?_⟩
    · intro c9
      have := le_i c9
      have h := h.1 c9
      have hi : i = 0 := by omega
      refine bq47 hB hd h ls (g := fun p => sFc f n (4 - i) (i + 1) p) (rb_l (p := p') K ?_) hw hlt (by omega) hv1 (by rw [ps.1 hi, hi]; rfl) sn nx
      rw [if_pos hi]
    · intro c28
      have := nle_i c28
      have h := h.2 c28
      obtain ⟨o29, h⟩ := h
      refine ⟨o29, ?_⟩
      have K2 : L = rb (sSign f n p' 4) fun p => rb (sWhole f n p 0 999) fun p => sFc f n (4 - i) (i + 1) p := by
        rw [K]
        show rb (if i = 0 then .inl p' else sSign f n p' 4) _ = _
        rw [if_neg (by omega)]
      refine cm_X4_sign (sp_X4_sign h ls.1 (k := 4) rfl (by omega)) h (fun x30 S31 hp h g32 b33 => ?_)
      have h := h g32 b33
      obtain ⟨-, F, hc⟩ := hp
      rcases cb_split hB ls F hc K2 (le_sign ls) with ⟨rfl, lb⟩ | ⟨p1, rfl, hR, K3, ls⟩
      · exact ⟨fun c => ⟨h.1 c, lb _, fun z => absurd z (by decide)⟩, fun c => absurd rfl c⟩
      refine ⟨fun c => absurd c (by decide), fun c => ?_⟩
      have h := h.2 c
      refine bq47 hB hd h ls K3 hw hlt (by omega) hv1 ?_ (sn_R hB hw sn F) nx
      rw [sSign_inl hR, ps.2 (by omega)]
      obtain ⟨i0, hi0⟩ : ∃ i0, i = i0 + 1 := ⟨i - 1, by omega⟩
      subst hi0
      rfl
theorem sSW_inl {p' : Nat} (h : sSW f n p A = .inl p') : p' = tEn f n p := by
  unfold sSW at h
  by_cases hk : nmOk f n p
  · rw [dc_y hk] at h
    cases hl : lkr (aV A) (aI A) (tV f n p) (aM A) 0 with
    | none => rw [hl] at h; cases h
    | some q =>
      rw [hl] at h
      have h : (if q < 8 then (.inr (2, tSt f n p) : Res) else .inl (tEn f n p)) = .inl p' := h
      split at h
      · cases h
      · cases h; rfl
  · rw [dc_n hk] at h; cases h
theorem sq_X4_seenLine {sw sf : Nat} (hB : BFa a r w nm nd B) (hd : DSt w nd B) (hlt : aS A < 4) (hw : SnW B w sw sf) (h : P_X4_seenLine r Q S) (ls : LnS f n a r w nm nd B A p S) : P_X4_seenLine r (fun x T => Q x T ∧ LnB f n a r w nm nd B (sSeen f n p A) (up5 A) x T ∧ (x = 1 → SnT f n r w nm nd sw sf (aS A) (tEn f n p) (nI (lkV A (tV f n p) - 8)) S 5 T)) S := by
  have K : sSeen f n p A = rb _ _ := rfl
  delta P_X4_seenLine P_X4_seenLine_0
  obtain ⟨o1, h⟩ := h
  refine ⟨o1, ?_⟩
  refine cm_X4_someWalker (sq_X4_someWalker h ls) h (fun x2 S3 hp h g4 b5 => ?_)
  have h := h g4 b5
  obtain ⟨-, F, hc, hvW⟩ := hp
  rcases cb_split hB ls F hc K (le_sw ls) with ⟨rfl, lb⟩ | ⟨p1, rfl, hRp1, K, ls⟩
  · exact ⟨fun c => absurd rfl c, fun c => ⟨h.2 c, lb _, fun z => absurd z (by decide)⟩⟩
  refine ⟨fun c => ?_, fun c => absurd c (by decide)⟩
  have h := h.1 c
  obtain ⟨a7, ea7, h⟩ := h
  refine ⟨a7, ea7, ?_⟩
  cases (ls_w hB ls).symm.trans ea7
  obtain ⟨o8, h⟩ := h
  refine ⟨o8, ?_⟩
  obtain ⟨a9, ea9, h⟩ := h
  refine ⟨a9, ea9, ?_⟩
  obtain ⟨a10, ea10, h⟩ := h
  refine ⟨a10, ea10, ?_⟩
  cases (ls_w hB ls).symm.trans ea10
  obtain ⟨o11, h⟩ := h
  refine ⟨o11, ?_⟩
  intro x12 ex12
  have h := h x12 ex12
  intro x13 ex13
  have h := h x13 ex13
  obtain ⟨o14, h⟩ := h
  refine ⟨o14, ?_⟩
  obtain ⟨o15, h⟩ := h
  refine ⟨o15, ?_⟩
  intro S16 eS16
  have h := h S16 eS16
  have fB := ls.2.2.2.1.2.2.2
  have esw : a9 = sw := by
    have z := ea9
    rw [fB, hw.1] at z
    cases z
    rfl
  subst esw
  have n1 : a9 ≠ r := ob_ne hw.2.2.2.1 hB.2.1 (by decide)
  have n2 : sf ≠ r := ob_ne hw.2.2.2.2 hB.2.1 (by decide)
  have e12 : x12.toNatClampNeg = aS A := by rw [ex12.trans ls.2.2.1.2.2.2.2.2]; exact nI_cl (by omega)
  have eT := eS16
  rw [e12] at eT
  have q1 := sSW_inl hRp1
  subst q1
  have sn : SnT f n r w nm nd a9 sf (aS A) (tEn f n p) (nI (lkV A (tV f n p) - 8)) S 0 S16 := by
    refine ⟨fun b hb hb1 hb2 => ?_, ?_, fun z hz => ?_, fun k hk => absurd hk (by omega)⟩
    · rw [row_o eT hb1, (F.2.2.2.2.1 b (fun z => hb (by rw [z]; simp))).1]
    · rw [row_I eT, (F.2.2.2.2.1 a9 n1).1, ex13, hvW rfl]
    · rw [row_o eT (Ne.symm hw.2.2.1), (F.2.2.2.2.1 sf n2).1]
  exact lq30 hB hd hlt hw h ⟨0, tEn f n p, rfl, by omega, nI_0.symm, ls_13 hB hd ls eS16 (Or.inr (Or.inl rfl)) ea9 o14, K, ⟨fun _ => rfl, fun z => absurd z (by omega)⟩, sn⟩
end Ct3
end
