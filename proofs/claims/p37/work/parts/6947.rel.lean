section Rel3
variable {S T : HS} {c m t a b fl tf : Nat} {f : Nat → Int32} {W : List Nat} {Q : Int32 → HS → Prop} {v1 v2 v3 v4 v5 : Int32}
theorem tp_ft (P : TP fl tf f t a c S) (F : FT W b m S T) (h1 : a ≠ b) (h2 : a ≠ m) (h3 : c ≠ b) (h4 : c ≠ m) : TP fl tf f t a c T := by
  obtain ⟨p1, p2, p3, p4, p5, p6⟩ := P
  exact ⟨by rw [F.1.2.2.2]; exact p1, by rw [F.2.2.1 c h3 h4]; exact p2, by rw [F.1.2.2.1]; exact p3, bb_ob' F.1 p4, p5, fun j hj => by rw [F.2.2.1 a h1 h2]; exact p6 j hj⟩
/-- the tape with twenty bytes more -/
def f20 (f : Nat → Int32) (t : Nat) (v1 v2 v3 v4 v5 : Int32) (j : Nat) : Int32 := if j < t then f j else fd20 v1 v2 v3 v4 v5 (j - t)
theorem f20_at {i : Nat} : f20 f t v1 v2 v3 v4 v5 (t + i) = fd20 v1 v2 v3 v4 v5 i := by
  unfold f20
  rw [if_neg (by omega), Nat.add_sub_cancel_left]
theorem tp_20 (P : TP fl tf f t a c S) : TP fl tf (f20 f t v1 v2 v3 v4 v5) t a c S := by
  obtain ⟨p1, p2, p3, p4, p5, p6⟩ := P
  exact ⟨p1, p2, p3, p4, p5, fun j hj => by unfold f20; rw [if_pos hj]; exact p6 j hj⟩
theorem in_20 (h : ∀ j, j < t → -128 ≤ (f j).toInt ∧ (f j).toInt ≤ 127) : ∀ j, -128 ≤ (f20 f t v1 v2 v3 v4 v5 j).toInt ∧ (f20 f t v1 v2 v3 v4 v5 j).toInt ≤ 127 ∨ t + 20 ≤ j := fun j => by
  unfold f20
  split
  · exact Or.inl (h j (by assumption))
  · exact Or.inl (bt_in _ _)
/-- feed on both sides: the tapes stay alike, the answers are one -/
theorem tt_feed {U : HS} {x y : Int32} (oc : ob S c 9) (om : ob S m 11) (ht : t ≤ 900) (P : TP 0 1 f t a c S) (R : TP 5 6 f t b m S) (hab : a ≠ b) (hB : ∀ j, j < t → -128 ≤ (f j).toInt ∧ (f j).toInt ≤ 127)
    (F1 : FT [1] a c S T) (g1 : (t + 20 ≤ 900 ∧ x = nI (t + 20) ∧ TP 0 1 (f20 f t v1 v2 v3 v4 v5) (t + 20) a c T) ∨ (900 < t + 20 ∧ x = -1 ∧ S = T))
    (F2 : FT [0, 6] b m T U) (g2 : (t + 20 ≤ 900 ∧ y = nI (t + 20) ∧ TP 5 6 (f20 f t v1 v2 v3 v4 v5) (t + 20) b m U) ∨ (900 < t + 20 ∧ y = -1 ∧ TP 5 6 (f20 f t v1 v2 v3 v4 v5) t b m U)) : TT c m U ∧ x = y := by
  have d1 : a ≠ m := ob_ne P.2.2.2.1 om (by decide)
  have d2 : c ≠ b := ob_ne oc R.2.2.2.1 (by decide)
  have d3 : c ≠ m := ob_ne oc om (by decide)
  rcases g1 with ⟨k1, k2, k3⟩ | ⟨k1, k2, k3⟩
  · rcases g2 with ⟨-, l2, l3⟩ | ⟨l1, -⟩
    · refine ⟨⟨_, t + 20, a, b, k1, tp_ft k3 F2 hab d1 d2 d3, l3, hab, fun j hj => ?_⟩, by rw [k2, l2]⟩
      exact (in_20 hB j).resolve_right (by omega)
    · omega
  · rcases g2 with ⟨l1, -⟩ | ⟨-, l2, l3⟩
    · omega
    · subst k3
      refine ⟨⟨_, t, a, b, ht, tp_ft (tp_20 P) F2 hab d1 d2 d3, l3, hab, fun j hj => ?_⟩, by rw [k2, l2]⟩
      exact (in_20 hB j).resolve_right (by omega)
theorem rl_X9_feed (h : P_X9_feed c v1 v2 v3 v4 v5 Q S) (P : TP 0 1 f t a c S) (ht : t ≤ 900) : P_X9_feed c v1 v2 v3 v4 v5 (fun r T => Q r T ∧ FT [1] a c S T ∧ ((t + 20 ≤ 900 ∧ r = nI (t + 20) ∧ TP 0 1 (f20 f t v1 v2 v3 v4 v5) (t + 20) a c T) ∨ (900 < t + 20 ∧ r = -1 ∧ S = T))) S := sp_X9_feed h (tp_20 P) ht (fun _ _ => f20_at)
theorem rl_X11_feed (h : P_X11_feed m v1 v2 v3 v4 v5 Q S) (P : TP 5 6 f t b m S) (ht : t ≤ 900) : P_X11_feed m v1 v2 v3 v4 v5 (fun r T => Q r T ∧ FT [0, 6] b m S T ∧ ((t + 20 ≤ 900 ∧ r = nI (t + 20) ∧ TP 5 6 (f20 f t v1 v2 v3 v4 v5) (t + 20) b m T) ∨ (900 < t + 20 ∧ r = -1 ∧ TP 5 6 (f20 f t v1 v2 v3 v4 v5) t b m T))) S := sp_X11_feed h (tp_20 P) ht (fun _ _ => f20_at)
end Rel3
