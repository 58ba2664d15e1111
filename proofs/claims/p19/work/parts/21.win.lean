section
/-! decoding through a window: a long code's instruction out of a few of its bytes -/
section Win
variable {α β : Type} {all win : ByteArray} {off : Nat}
def WinA (all win : ByteArray) (off : Nat) : Prop := ∀ i, (h : i < win.size) → ∃ h2 : i + off < all.size, all[i + off] = win[i]
theorem w_ra_bind (r : Reader DecodeError α) (f : α → Reader DecodeError β) (b : ByteArray) (p : Nat) : Reader.runAt (r >>= f) b p = match Reader.runAt r b p with | .ok (a, n) => Reader.runAt (f a) b n | .error e => .error e := by
  show (do let (a, s) ← (ReaderT.run r b).run p; (ReaderT.run (f a) b).run s) = _
  unfold Reader.runAt
  cases (ReaderT.run r b).run p with
  | ok v => rfl
  | error e => rfl
theorem w_ra_u1 {b : ByteArray} {p : Nat} (h : p < b.size) : Reader.runAt (ε := DecodeError) Reader.u1 b p = .ok (b[p].toNat, p + 1) := by
  show (if h : p < b.size then (do set (p + 1); pure b[p].toNat : Reader DecodeError Nat) else throw _ : Reader DecodeError Nat) b p = _
  rw [dif_pos h]
  rfl
theorem w_win_of {l w : List UInt8} (h : (l.drop off).take w.length = w) : WinA ⟨⟨l⟩⟩ ⟨⟨w⟩⟩ off := by
  intro i hi
  have hi : i < w.length := hi
  have hl : i + off < l.length := by
    have := congrArg List.length h
    rw [List.length_take, List.length_drop] at this
    omega
  refine ⟨hl, ?_⟩
  show l[i + off] = w[i]
  have e : w[i]? = l[i + off]? := by
    rw [← h, List.getElem?_take, if_pos hi, List.getElem?_drop, Nat.add_comm]
  rw [List.getElem?_eq_getElem hi, List.getElem?_eq_getElem hl] at e
  exact (Option.some.inj e).symm
end Win
section Win3
variable {all win : ByteArray} {off : Nat}
def w_bt (b : ByteArray) (p : Nat) : Option Nat := if h : p < b.size then some b[p].toNat else none
def w_bt2 (b : ByteArray) (p : Nat) : Option (Nat × Nat) := match w_bt b p, w_bt b (p + 1) with | some x, some y => some (x, y) | _, _ => none
def w_bt3 (b : ByteArray) (p : Nat) : Option (Nat × Nat) := match w_bt b p, w_bt b (p + 1), w_bt b (p + 2) with | some x, some y, some z => some (x, y * 256 + z) | _, _, _ => none
theorem w_bt_w (W : WinA all win off) {p x : Nat} (h : w_bt win p = some x) : w_bt all (p + off) = some x := by
  unfold w_bt at h ⊢
  by_cases c : p < win.size
  · rw [dif_pos c] at h
    obtain ⟨h2, e⟩ := W p c
    rw [dif_pos h2, e]
    exact h
  · rw [dif_neg c] at h
    cases h
theorem w_bt2_w (W : WinA all win off) {p x y : Nat} (h : w_bt2 win p = some (x, y)) : w_bt all (p + off) = some x ∧ w_bt all (p + off + 1) = some y := by
  unfold w_bt2 at h
  cases e : w_bt win p with
  | none => rw [e] at h; cases h
  | some a =>
    cases e2 : w_bt win (p + 1) with
    | none => rw [e, e2] at h; cases h
    | some b =>
      rw [e, e2] at h
      cases h
      have q := w_bt_w W e2
      rw [Nat.add_right_comm] at q
      exact ⟨w_bt_w W e, q⟩
theorem w_bt3_w (W : WinA all win off) {p x y : Nat} (h : w_bt3 win p = some (x, y)) : ∃ u v, y = u * 256 + v ∧ w_bt all (p + off) = some x ∧ w_bt all (p + off + 1) = some u ∧ w_bt all (p + off + 1 + 1) = some v := by
  unfold w_bt3 at h
  cases e : w_bt win p with
  | none => rw [e] at h; cases h
  | some a =>
    cases e2 : w_bt win (p + 1) with
    | none => rw [e, e2] at h; cases h
    | some b =>
      cases e3 : w_bt win (p + 2) with
      | none => rw [e, e2, e3] at h; cases h
      | some c =>
        rw [e, e2, e3] at h
        cases h
        have q := w_bt_w W e2
        rw [Nat.add_right_comm] at q
        have q2 := w_bt_w W e3
        have z : p + 2 + off = p + off + 1 + 1 := by omega
        rw [z] at q2
        exact ⟨b, c, rfl, w_bt_w W e, q, q2⟩
theorem w_ra_bt {b : ByteArray} {p x : Nat} (h : w_bt b p = some x) : Reader.runAt (ε := DecodeError) Reader.u1 b p = .ok (x, p + 1) := by
  unfold w_bt at h
  by_cases c : p < b.size
  · rw [dif_pos c] at h
    cases h
    exact w_ra_u1 c
  · rw [dif_neg c] at h
    cases h
theorem w_ra_u2 {b : ByteArray} {p x y : Nat} (h : w_bt b p = some x) (g : w_bt b (p + 1) = some y) : Reader.runAt (ε := DecodeError) Reader.u2 b p = .ok (x * 256 + y, p + 1 + 1) := by
  unfold Reader.u2
  rw [w_ra_bind, w_ra_bt h]
  show Reader.runAt (Reader.u1 >>= fun lo => pure (x * 256 + lo)) b (p + 1) = _
  rw [w_ra_bind, w_ra_bt g]
  rfl
theorem w_ra_map {α β : Type} (f : α → β) (r : Reader DecodeError α) {b : ByteArray} {p n : Nat} {a : α} (h : Reader.runAt r b p = .ok (a, n)) : Reader.runAt (f <$> r) b p = .ok (f a, n) := by
  show (do let (a, s) ← Reader.runAt r b p; pure (f a, s)) = _
  rw [h]
  rfl
theorem wa_3 (W : WinA all win off) (p : Nat) (h : w_bt win p = some 3) : decode all (p + off) = .ok (.iconst 0, 1) := by
  have e := w_bt_w W h
  unfold decode Decoder.instr
  rw [w_ra_bind, w_ra_bt e]
  show Except.ok (Instr.iconst 0, p + off + 1 - (p + off)) = _
  rw [Nat.add_sub_cancel_left]
theorem wa_4 (W : WinA all win off) (p : Nat) (h : w_bt win p = some 4) : decode all (p + off) = .ok (.iconst 1, 1) := by
  have e := w_bt_w W h
  unfold decode Decoder.instr
  rw [w_ra_bind, w_ra_bt e]
  show Except.ok (Instr.iconst 1, p + off + 1 - (p + off)) = _
  rw [Nat.add_sub_cancel_left]
theorem wa_5 (W : WinA all win off) (p : Nat) (h : w_bt win p = some 5) : decode all (p + off) = .ok (.iconst 2, 1) := by
  have e := w_bt_w W h
  unfold decode Decoder.instr
  rw [w_ra_bind, w_ra_bt e]
  show Except.ok (Instr.iconst 2, p + off + 1 - (p + off)) = _
  rw [Nat.add_sub_cancel_left]
theorem wa_6 (W : WinA all win off) (p : Nat) (h : w_bt win p = some 6) : decode all (p + off) = .ok (.iconst 3, 1) := by
  have e := w_bt_w W h
  unfold decode Decoder.instr
  rw [w_ra_bind, w_ra_bt e]
  show Except.ok (Instr.iconst 3, p + off + 1 - (p + off)) = _
  rw [Nat.add_sub_cancel_left]
theorem wa_7 (W : WinA all win off) (p : Nat) (h : w_bt win p = some 7) : decode all (p + off) = .ok (.iconst 4, 1) := by
  have e := w_bt_w W h
  unfold decode Decoder.instr
  rw [w_ra_bind, w_ra_bt e]
  show Except.ok (Instr.iconst 4, p + off + 1 - (p + off)) = _
  rw [Nat.add_sub_cancel_left]
theorem wa_8 (W : WinA all win off) (p : Nat) (h : w_bt win p = some 8) : decode all (p + off) = .ok (.iconst 5, 1) := by
  have e := w_bt_w W h
  unfold decode Decoder.instr
  rw [w_ra_bind, w_ra_bt e]
  show Except.ok (Instr.iconst 5, p + off + 1 - (p + off)) = _
  rw [Nat.add_sub_cancel_left]
theorem wa_16 (W : WinA all win off) (p : Nat) {y : Nat} {t : Int} (h : w_bt2 win p = some (16, y)) (ht : Reader.signed 8 y = t) : decode all (p + off) = .ok (.bipush t, 2) := by
  obtain ⟨e, g⟩ := w_bt2_w W h
  unfold decode Decoder.instr
  rw [w_ra_bind, w_ra_bt e]
  show (do let (i, n) ← Reader.runAt (Reader.s1 >>= fun a => pure (Instr.bipush a)) all (p + off + 1); pure (i, n - (p + off)) : Except DecodeError (Instr × Nat)) = _
  rw [w_ra_bind, show Reader.runAt (ε := DecodeError) Reader.s1 all (p + off + 1) = .ok (Reader.signed 8 y, p + off + 1 + 1) from w_ra_map _ _ (w_ra_bt g), ht]
  show Except.ok (Instr.bipush t, p + off + 1 + 1 - (p + off)) = _
  rw [show p + off + 1 + 1 - (p + off) = 2 by omega]
theorem wa_21 (W : WinA all win off) (p : Nat) {y : Nat} (h : w_bt2 win p = some (21, y)) : decode all (p + off) = .ok (.iload y, 2) := by
  obtain ⟨e, g⟩ := w_bt2_w W h
  unfold decode Decoder.instr
  rw [w_ra_bind, w_ra_bt e]
  show (do let (i, n) ← Reader.runAt (Reader.u1 >>= fun a => pure (Instr.iload a)) all (p + off + 1); pure (i, n - (p + off)) : Except DecodeError (Instr × Nat)) = _
  rw [w_ra_bind, w_ra_bt g]
  show Except.ok (Instr.iload y, p + off + 1 + 1 - (p + off)) = _
  rw [show p + off + 1 + 1 - (p + off) = 2 by omega]
theorem wa_42 (W : WinA all win off) (p : Nat) (h : w_bt win p = some 42) : decode all (p + off) = .ok (.aload_n 0, 1) := by
  have e := w_bt_w W h
  unfold decode Decoder.instr
  rw [w_ra_bind, w_ra_bt e]
  show Except.ok (Instr.aload_n 0, p + off + 1 - (p + off)) = _
  rw [Nat.add_sub_cancel_left]
theorem wa_43 (W : WinA all win off) (p : Nat) (h : w_bt win p = some 43) : decode all (p + off) = .ok (.aload_n 1, 1) := by
  have e := w_bt_w W h
  unfold decode Decoder.instr
  rw [w_ra_bind, w_ra_bt e]
  show Except.ok (Instr.aload_n 1, p + off + 1 - (p + off)) = _
  rw [Nat.add_sub_cancel_left]
theorem wa_44 (W : WinA all win off) (p : Nat) (h : w_bt win p = some 44) : decode all (p + off) = .ok (.aload_n 2, 1) := by
  have e := w_bt_w W h
  unfold decode Decoder.instr
  rw [w_ra_bind, w_ra_bt e]
  show Except.ok (Instr.aload_n 2, p + off + 1 - (p + off)) = _
  rw [Nat.add_sub_cancel_left]
theorem wa_45 (W : WinA all win off) (p : Nat) (h : w_bt win p = some 45) : decode all (p + off) = .ok (.aload_n 3, 1) := by
  have e := w_bt_w W h
  unfold decode Decoder.instr
  rw [w_ra_bind, w_ra_bt e]
  show Except.ok (Instr.aload_n 3, p + off + 1 - (p + off)) = _
  rw [Nat.add_sub_cancel_left]
theorem wa_46 (W : WinA all win off) (p : Nat) (h : w_bt win p = some 46) : decode all (p + off) = .ok (.iaload, 1) := by
  have e := w_bt_w W h
  unfold decode Decoder.instr
  rw [w_ra_bind, w_ra_bt e]
  show Except.ok (Instr.iaload, p + off + 1 - (p + off)) = _
  rw [Nat.add_sub_cancel_left]
theorem wa_54 (W : WinA all win off) (p : Nat) {y : Nat} (h : w_bt2 win p = some (54, y)) : decode all (p + off) = .ok (.istore y, 2) := by
  obtain ⟨e, g⟩ := w_bt2_w W h
  unfold decode Decoder.instr
  rw [w_ra_bind, w_ra_bt e]
  show (do let (i, n) ← Reader.runAt (Reader.u1 >>= fun a => pure (Instr.istore a)) all (p + off + 1); pure (i, n - (p + off)) : Except DecodeError (Instr × Nat)) = _
  rw [w_ra_bind, w_ra_bt g]
  show Except.ok (Instr.istore y, p + off + 1 + 1 - (p + off)) = _
  rw [show p + off + 1 + 1 - (p + off) = 2 by omega]
theorem wa_76 (W : WinA all win off) (p : Nat) (h : w_bt win p = some 76) : decode all (p + off) = .ok (.astore_n 1, 1) := by
  have e := w_bt_w W h
  unfold decode Decoder.instr
  rw [w_ra_bind, w_ra_bt e]
  show Except.ok (Instr.astore_n 1, p + off + 1 - (p + off)) = _
  rw [Nat.add_sub_cancel_left]
theorem wa_77 (W : WinA all win off) (p : Nat) (h : w_bt win p = some 77) : decode all (p + off) = .ok (.astore_n 2, 1) := by
  have e := w_bt_w W h
  unfold decode Decoder.instr
  rw [w_ra_bind, w_ra_bt e]
  show Except.ok (Instr.astore_n 2, p + off + 1 - (p + off)) = _
  rw [Nat.add_sub_cancel_left]
theorem wa_78 (W : WinA all win off) (p : Nat) (h : w_bt win p = some 78) : decode all (p + off) = .ok (.astore_n 3, 1) := by
  have e := w_bt_w W h
  unfold decode Decoder.instr
  rw [w_ra_bind, w_ra_bt e]
  show Except.ok (Instr.astore_n 3, p + off + 1 - (p + off)) = _
  rw [Nat.add_sub_cancel_left]
theorem wa_87 (W : WinA all win off) (p : Nat) (h : w_bt win p = some 87) : decode all (p + off) = .ok (.pop, 1) := by
  have e := w_bt_w W h
  unfold decode Decoder.instr
  rw [w_ra_bind, w_ra_bt e]
  show Except.ok (Instr.pop, p + off + 1 - (p + off)) = _
  rw [Nat.add_sub_cancel_left]
theorem wa_88 (W : WinA all win off) (p : Nat) (h : w_bt win p = some 88) : decode all (p + off) = .ok (.pop2, 1) := by
  have e := w_bt_w W h
  unfold decode Decoder.instr
  rw [w_ra_bind, w_ra_bt e]
  show Except.ok (Instr.pop2, p + off + 1 - (p + off)) = _
  rw [Nat.add_sub_cancel_left]
theorem wa_89 (W : WinA all win off) (p : Nat) (h : w_bt win p = some 89) : decode all (p + off) = .ok (.dup, 1) := by
  have e := w_bt_w W h
  unfold decode Decoder.instr
  rw [w_ra_bind, w_ra_bt e]
  show Except.ok (Instr.dup, p + off + 1 - (p + off)) = _
  rw [Nat.add_sub_cancel_left]
theorem wa_96 (W : WinA all win off) (p : Nat) (h : w_bt win p = some 96) : decode all (p + off) = .ok (.iadd, 1) := by
  have e := w_bt_w W h
  unfold decode Decoder.instr
  rw [w_ra_bind, w_ra_bt e]
  show Except.ok (Instr.iadd, p + off + 1 - (p + off)) = _
  rw [Nat.add_sub_cancel_left]
theorem wa_100 (W : WinA all win off) (p : Nat) (h : w_bt win p = some 100) : decode all (p + off) = .ok (.isub, 1) := by
  have e := w_bt_w W h
  unfold decode Decoder.instr
  rw [w_ra_bind, w_ra_bt e]
  show Except.ok (Instr.isub, p + off + 1 - (p + off)) = _
  rw [Nat.add_sub_cancel_left]
theorem wa_126 (W : WinA all win off) (p : Nat) (h : w_bt win p = some 126) : decode all (p + off) = .ok (.iand, 1) := by
  have e := w_bt_w W h
  unfold decode Decoder.instr
  rw [w_ra_bind, w_ra_bt e]
  show Except.ok (Instr.iand, p + off + 1 - (p + off)) = _
  rw [Nat.add_sub_cancel_left]
theorem wa_153 (W : WinA all win off) (p : Nat) {y : Nat} {t : Int} (h : w_bt3 win p = some (153, y)) (ht : Reader.signed 16 y = t) : decode all (p + off) = .ok (.ifCond .eq t, 3) := by
  obtain ⟨u, v, ey, e, g, g2⟩ := w_bt3_w W h
  unfold decode Decoder.instr
  rw [w_ra_bind, w_ra_bt e]
  show (do let (i, n) ← Reader.runAt (Reader.s2 >>= fun a => pure (Instr.ifCond .eq a)) all (p + off + 1); pure (i, n - (p + off)) : Except DecodeError (Instr × Nat)) = _
  rw [w_ra_bind, show Reader.runAt (ε := DecodeError) Reader.s2 all (p + off + 1) = .ok (Reader.signed 16 y, p + off + 1 + 1 + 1) from w_ra_map _ _ (by rw [w_ra_u2 g g2, ← ey]), ht]
  show Except.ok (Instr.ifCond .eq t, p + off + 1 + 1 + 1 - (p + off)) = _
  rw [show p + off + 1 + 1 + 1 - (p + off) = 3 by omega]
theorem wa_159 (W : WinA all win off) (p : Nat) {y : Nat} {t : Int} (h : w_bt3 win p = some (159, y)) (ht : Reader.signed 16 y = t) : decode all (p + off) = .ok (.if_icmp .eq t, 3) := by
  obtain ⟨u, v, ey, e, g, g2⟩ := w_bt3_w W h
  unfold decode Decoder.instr
  rw [w_ra_bind, w_ra_bt e]
  show (do let (i, n) ← Reader.runAt (Reader.s2 >>= fun a => pure (Instr.if_icmp .eq a)) all (p + off + 1); pure (i, n - (p + off)) : Except DecodeError (Instr × Nat)) = _
  rw [w_ra_bind, show Reader.runAt (ε := DecodeError) Reader.s2 all (p + off + 1) = .ok (Reader.signed 16 y, p + off + 1 + 1 + 1) from w_ra_map _ _ (by rw [w_ra_u2 g g2, ← ey]), ht]
  show Except.ok (Instr.if_icmp .eq t, p + off + 1 + 1 + 1 - (p + off)) = _
  rw [show p + off + 1 + 1 + 1 - (p + off) = 3 by omega]
theorem wa_163 (W : WinA all win off) (p : Nat) {y : Nat} {t : Int} (h : w_bt3 win p = some (163, y)) (ht : Reader.signed 16 y = t) : decode all (p + off) = .ok (.if_icmp .gt t, 3) := by
  obtain ⟨u, v, ey, e, g, g2⟩ := w_bt3_w W h
  unfold decode Decoder.instr
  rw [w_ra_bind, w_ra_bt e]
  show (do let (i, n) ← Reader.runAt (Reader.s2 >>= fun a => pure (Instr.if_icmp .gt a)) all (p + off + 1); pure (i, n - (p + off)) : Except DecodeError (Instr × Nat)) = _
  rw [w_ra_bind, show Reader.runAt (ε := DecodeError) Reader.s2 all (p + off + 1) = .ok (Reader.signed 16 y, p + off + 1 + 1 + 1) from w_ra_map _ _ (by rw [w_ra_u2 g g2, ← ey]), ht]
  show Except.ok (Instr.if_icmp .gt t, p + off + 1 + 1 + 1 - (p + off)) = _
  rw [show p + off + 1 + 1 + 1 - (p + off) = 3 by omega]
theorem wa_167 (W : WinA all win off) (p : Nat) {y : Nat} {t : Int} (h : w_bt3 win p = some (167, y)) (ht : Reader.signed 16 y = t) : decode all (p + off) = .ok (.goto t, 3) := by
  obtain ⟨u, v, ey, e, g, g2⟩ := w_bt3_w W h
  unfold decode Decoder.instr
  rw [w_ra_bind, w_ra_bt e]
  show (do let (i, n) ← Reader.runAt (Reader.s2 >>= fun a => pure (Instr.goto a)) all (p + off + 1); pure (i, n - (p + off)) : Except DecodeError (Instr × Nat)) = _
  rw [w_ra_bind, show Reader.runAt (ε := DecodeError) Reader.s2 all (p + off + 1) = .ok (Reader.signed 16 y, p + off + 1 + 1 + 1) from w_ra_map _ _ (by rw [w_ra_u2 g g2, ← ey]), ht]
  show Except.ok (Instr.goto t, p + off + 1 + 1 + 1 - (p + off)) = _
  rw [show p + off + 1 + 1 + 1 - (p + off) = 3 by omega]
theorem wa_172 (W : WinA all win off) (p : Nat) (h : w_bt win p = some 172) : decode all (p + off) = .ok (.ireturn, 1) := by
  have e := w_bt_w W h
  unfold decode Decoder.instr
  rw [w_ra_bind, w_ra_bt e]
  show Except.ok (Instr.ireturn, p + off + 1 - (p + off)) = _
  rw [Nat.add_sub_cancel_left]
theorem wa_182 (W : WinA all win off) (p : Nat) {y : Nat} (h : w_bt3 win p = some (182, y)) : decode all (p + off) = .ok (.invokevirtual y, 3) := by
  obtain ⟨u, v, ey, e, g, g2⟩ := w_bt3_w W h
  unfold decode Decoder.instr
  rw [w_ra_bind, w_ra_bt e]
  show (do let (i, n) ← Reader.runAt (Reader.u2 >>= fun a => pure (Instr.invokevirtual a)) all (p + off + 1); pure (i, n - (p + off)) : Except DecodeError (Instr × Nat)) = _
  rw [w_ra_bind, w_ra_u2 g g2, ← ey]
  show Except.ok (Instr.invokevirtual y, p + off + 1 + 1 + 1 - (p + off)) = _
  rw [show p + off + 1 + 1 + 1 - (p + off) = 3 by omega]
theorem wa_183 (W : WinA all win off) (p : Nat) {y : Nat} (h : w_bt3 win p = some (183, y)) : decode all (p + off) = .ok (.invokespecial y, 3) := by
  obtain ⟨u, v, ey, e, g, g2⟩ := w_bt3_w W h
  unfold decode Decoder.instr
  rw [w_ra_bind, w_ra_bt e]
  show (do let (i, n) ← Reader.runAt (Reader.u2 >>= fun a => pure (Instr.invokespecial a)) all (p + off + 1); pure (i, n - (p + off)) : Except DecodeError (Instr × Nat)) = _
  rw [w_ra_bind, w_ra_u2 g g2, ← ey]
  show Except.ok (Instr.invokespecial y, p + off + 1 + 1 + 1 - (p + off)) = _
  rw [show p + off + 1 + 1 + 1 - (p + off) = 3 by omega]
theorem wa_184 (W : WinA all win off) (p : Nat) {y : Nat} (h : w_bt3 win p = some (184, y)) : decode all (p + off) = .ok (.invokestatic y, 3) := by
  obtain ⟨u, v, ey, e, g, g2⟩ := w_bt3_w W h
  unfold decode Decoder.instr
  rw [w_ra_bind, w_ra_bt e]
  show (do let (i, n) ← Reader.runAt (Reader.u2 >>= fun a => pure (Instr.invokestatic a)) all (p + off + 1); pure (i, n - (p + off)) : Except DecodeError (Instr × Nat)) = _
  rw [w_ra_bind, w_ra_u2 g g2, ← ey]
  show Except.ok (Instr.invokestatic y, p + off + 1 + 1 + 1 - (p + off)) = _
  rw [show p + off + 1 + 1 + 1 - (p + off) = 3 by omega]
theorem wa_187 (W : WinA all win off) (p : Nat) {y : Nat} (h : w_bt3 win p = some (187, y)) : decode all (p + off) = .ok (.new y, 3) := by
  obtain ⟨u, v, ey, e, g, g2⟩ := w_bt3_w W h
  unfold decode Decoder.instr
  rw [w_ra_bind, w_ra_bt e]
  show (do let (i, n) ← Reader.runAt (Reader.u2 >>= fun a => pure (Instr.new a)) all (p + off + 1); pure (i, n - (p + off)) : Except DecodeError (Instr × Nat)) = _
  rw [w_ra_bind, w_ra_u2 g g2, ← ey]
  show Except.ok (Instr.new y, p + off + 1 + 1 + 1 - (p + off)) = _
  rw [show p + off + 1 + 1 + 1 - (p + off) = 3 by omega]
theorem wa_190 (W : WinA all win off) (p : Nat) (h : w_bt win p = some 190) : decode all (p + off) = .ok (.arraylength, 1) := by
  have e := w_bt_w W h
  unfold decode Decoder.instr
  rw [w_ra_bind, w_ra_bt e]
  show Except.ok (Instr.arraylength, p + off + 1 - (p + off)) = _
  rw [Nat.add_sub_cancel_left]
def wn_0 : List UInt8 := [187, 0, 8, 89, 183, 0, 15, 76, 187, 0, 16, 89, 183, 0, 18, 77, 4, 188, 11, 78, 3, 54, 4, 21, 4, 42, 190, 16, 8, 100, 163, 9, 13, 42, 21, 4, 46, 16, 63, 126, 170, 0, 0, 0, 0, 0, 8, 253, 0, 0]
theorem wW0 : WinA cL_law ⟨⟨wn_0⟩⟩ 0 := w_win_of (l := cL_law.data.toList) (by decide +kernel)
def wn_4 : List UInt8 := [0, 0, 8, 88, 0, 0, 8, 113, 0, 0, 8, 150, 0, 0, 8, 187, 0, 0, 8, 215, 0, 0, 8, 240, 43, 42, 21, 4, 4, 96, 46, 42, 21, 4, 5, 96, 46, 42, 21, 4, 6, 96, 46, 42, 21, 4, 7, 96, 46, 42]
theorem wW4 : WinA cL_law ⟨⟨wn_4⟩⟩ 192 := w_win_of (l := cL_law.data.toList) (by decide +kernel)
def wn_5 : List UInt8 := [46, 42, 21, 4, 8, 96, 46, 182, 0, 19, 87, 44, 42, 21, 4, 4, 96, 46, 42, 21, 4, 5, 96, 46, 42, 21, 4, 6, 96, 46, 42, 21, 4, 7, 96, 46, 42, 21, 4, 8, 96, 46, 182, 0, 23, 87, 167, 8, 7, 43]
theorem wW5 : WinA cL_law ⟨⟨wn_5⟩⟩ 240 := w_win_of (l := cL_law.data.toList) (by decide +kernel)
def wn_6 : List UInt8 := [7, 43, 42, 21, 4, 4, 96, 46, 182, 0, 24, 87, 44, 42, 21, 4, 4, 96, 46, 182, 0, 27, 87, 167, 7, 238, 43, 182, 0, 28, 87, 44, 182, 0, 32, 87, 167, 7, 225, 43, 182, 0, 33, 87, 44, 182, 0, 36, 87, 167]
theorem wW6 : WinA cL_law ⟨⟨wn_6⟩⟩ 288 := w_win_of (l := cL_law.data.toList) (by decide +kernel)
def wn_7 : List UInt8 := [87, 167, 7, 212, 43, 42, 21, 4, 4, 96, 46, 42, 21, 4, 5, 96, 46, 42, 21, 4, 6, 96, 46, 42, 21, 4, 7, 96, 46, 42, 21, 4, 8, 96, 46, 42, 21, 4, 16, 6, 96, 46, 42, 21, 4, 16, 7, 96, 46, 153]
theorem wW7 : WinA cL_law ⟨⟨wn_7⟩⟩ 336 := w_win_of (l := cL_law.data.toList) (by decide +kernel)
def wn_8 : List UInt8 := [46, 153, 0, 7, 4, 167, 0, 4, 3, 182, 0, 37, 88, 44, 42, 21, 4, 4, 96, 46, 42, 21, 4, 5, 96, 46, 42, 21, 4, 6, 96, 46, 42, 21, 4, 7, 96, 46, 42, 21, 4, 8, 96, 46, 42, 21, 4, 16, 6, 96]
theorem wW8 : WinA cL_law ⟨⟨wn_8⟩⟩ 384 := w_win_of (l := cL_law.data.toList) (by decide +kernel)
def wn_9 : List UInt8 := [6, 96, 46, 42, 21, 4, 16, 7, 96, 46, 153, 0, 7, 4, 167, 0, 4, 3, 182, 0, 41, 88, 167, 7, 95, 43, 42, 21, 4, 4, 96, 46, 42, 21, 4, 5, 96, 46, 42, 21, 4, 6, 96, 46, 42, 21, 4, 7, 96, 46]
theorem wW9 : WinA cL_law ⟨⟨wn_9⟩⟩ 432 := w_win_of (l := cL_law.data.toList) (by decide +kernel)
def wn_10 : List UInt8 := [96, 46, 42, 21, 4, 8, 96, 46, 42, 21, 4, 16, 6, 96, 46, 153, 0, 7, 4, 167, 0, 4, 3, 182, 0, 42, 88, 44, 42, 21, 4, 4, 96, 46, 42, 21, 4, 5, 96, 46, 42, 21, 4, 6, 96, 46, 42, 21, 4, 7]
theorem wW10 : WinA cL_law ⟨⟨wn_10⟩⟩ 480 := w_win_of (l := cL_law.data.toList) (by decide +kernel)
def wn_11 : List UInt8 := [4, 7, 96, 46, 42, 21, 4, 8, 96, 46, 42, 21, 4, 16, 6, 96, 46, 153, 0, 7, 4, 167, 0, 4, 3, 182, 0, 46, 88, 167, 6, 248, 43, 42, 21, 4, 4, 96, 46, 42, 21, 4, 5, 96, 46, 42, 21, 4, 6, 96]
theorem wW11 : WinA cL_law ⟨⟨wn_11⟩⟩ 528 := w_win_of (l := cL_law.data.toList) (by decide +kernel)
def wn_12 : List UInt8 := [6, 96, 46, 42, 21, 4, 7, 96, 46, 42, 21, 4, 8, 96, 46, 42, 21, 4, 16, 6, 96, 46, 153, 0, 7, 4, 167, 0, 4, 3, 182, 0, 47, 88, 44, 42, 21, 4, 4, 96, 46, 42, 21, 4, 5, 96, 46, 42, 21, 4]
theorem wW12 : WinA cL_law ⟨⟨wn_12⟩⟩ 576 := w_win_of (l := cL_law.data.toList) (by decide +kernel)
def wn_13 : List UInt8 := [21, 4, 6, 96, 46, 42, 21, 4, 7, 96, 46, 42, 21, 4, 8, 96, 46, 42, 21, 4, 16, 6, 96, 46, 153, 0, 7, 4, 167, 0, 4, 3, 182, 0, 50, 88, 167, 6, 145, 43, 42, 21, 4, 4, 96, 46, 42, 21, 4, 5]
theorem wW13 : WinA cL_law ⟨⟨wn_13⟩⟩ 624 := w_win_of (l := cL_law.data.toList) (by decide +kernel)
def wn_14 : List UInt8 := [4, 5, 96, 46, 42, 21, 4, 6, 96, 46, 182, 0, 51, 87, 44, 42, 21, 4, 4, 96, 46, 42, 21, 4, 5, 96, 46, 42, 21, 4, 6, 96, 46, 182, 0, 55, 87, 167, 6, 96, 43, 42, 21, 4, 4, 96, 46, 42, 21, 4]
theorem wW14 : WinA cL_law ⟨⟨wn_14⟩⟩ 672 := w_win_of (l := cL_law.data.toList) (by decide +kernel)
def wn_15 : List UInt8 := [21, 4, 5, 96, 46, 42, 21, 4, 6, 96, 46, 182, 0, 56, 87, 44, 42, 21, 4, 4, 96, 46, 42, 21, 4, 5, 96, 46, 42, 21, 4, 6, 96, 46, 182, 0, 59, 87, 167, 6, 47, 43, 42, 21, 4, 4, 96, 46, 42, 21]
theorem wW15 : WinA cL_law ⟨⟨wn_15⟩⟩ 720 := w_win_of (l := cL_law.data.toList) (by decide +kernel)
def wn_16 : List UInt8 := [42, 21, 4, 5, 96, 46, 42, 21, 4, 6, 96, 46, 42, 21, 4, 7, 96, 46, 42, 21, 4, 8, 96, 46, 182, 0, 60, 87, 44, 42, 21, 4, 4, 96, 46, 42, 21, 4, 5, 96, 46, 42, 21, 4, 6, 96, 46, 42, 21, 4]
theorem wW16 : WinA cL_law ⟨⟨wn_16⟩⟩ 768 := w_win_of (l := cL_law.data.toList) (by decide +kernel)
def wn_17 : List UInt8 := [21, 4, 7, 96, 46, 42, 21, 4, 8, 96, 46, 182, 0, 63, 87, 167, 5, 230, 43, 42, 21, 4, 4, 96, 46, 42, 21, 4, 5, 96, 46, 42, 21, 4, 6, 96, 46, 42, 21, 4, 7, 96, 46, 182, 0, 64, 87, 44, 42, 21]
theorem wW17 : WinA cL_law ⟨⟨wn_17⟩⟩ 816 := w_win_of (l := cL_law.data.toList) (by decide +kernel)
def wn_18 : List UInt8 := [42, 21, 4, 4, 96, 46, 42, 21, 4, 5, 96, 46, 42, 21, 4, 6, 96, 46, 42, 21, 4, 7, 96, 46, 182, 0, 68, 87, 167, 5, 169, 43, 42, 21, 4, 4, 96, 46, 42, 21, 4, 5, 96, 46, 42, 21, 4, 6, 96, 46]
theorem wW18 : WinA cL_law ⟨⟨wn_18⟩⟩ 864 := w_win_of (l := cL_law.data.toList) (by decide +kernel)
def wn_19 : List UInt8 := [96, 46, 42, 21, 4, 7, 96, 46, 42, 21, 4, 8, 96, 46, 153, 0, 7, 4, 167, 0, 4, 3, 182, 0, 69, 88, 44, 42, 21, 4, 4, 96, 46, 42, 21, 4, 5, 96, 46, 42, 21, 4, 6, 96, 46, 42, 21, 4, 7, 96]
theorem wW19 : WinA cL_law ⟨⟨wn_19⟩⟩ 912 := w_win_of (l := cL_law.data.toList) (by decide +kernel)
def wn_20 : List UInt8 := [7, 96, 46, 42, 21, 4, 8, 96, 46, 153, 0, 7, 4, 167, 0, 4, 3, 182, 0, 73, 88, 167, 5, 80, 43, 42, 21, 4, 4, 96, 46, 42, 21, 4, 5, 96, 46, 42, 21, 4, 6, 96, 46, 42, 21, 4, 7, 96, 46, 182]
theorem wW20 : WinA cL_law ⟨⟨wn_20⟩⟩ 960 := w_win_of (l := cL_law.data.toList) (by decide +kernel)
def wn_21 : List UInt8 := [46, 182, 0, 74, 87, 44, 42, 21, 4, 4, 96, 46, 42, 21, 4, 5, 96, 46, 42, 21, 4, 6, 96, 46, 42, 21, 4, 7, 96, 46, 182, 0, 77, 87, 167, 5, 19, 43, 42, 21, 4, 4, 96, 46, 42, 21, 4, 5, 96, 46]
theorem wW21 : WinA cL_law ⟨⟨wn_21⟩⟩ 1008 := w_win_of (l := cL_law.data.toList) (by decide +kernel)
def wn_22 : List UInt8 := [96, 46, 42, 21, 4, 6, 96, 46, 42, 21, 4, 7, 96, 46, 182, 0, 78, 87, 44, 42, 21, 4, 4, 96, 46, 42, 21, 4, 5, 96, 46, 42, 21, 4, 6, 96, 46, 42, 21, 4, 7, 96, 46, 182, 0, 81, 87, 167, 4, 214]
theorem wW22 : WinA cL_law ⟨⟨wn_22⟩⟩ 1056 := w_win_of (l := cL_law.data.toList) (by decide +kernel)
def wn_23 : List UInt8 := [4, 214, 43, 42, 21, 4, 4, 96, 46, 42, 21, 4, 5, 96, 46, 42, 21, 4, 6, 96, 46, 42, 21, 4, 7, 96, 46, 153, 0, 7, 4, 167, 0, 4, 3, 182, 0, 82, 88, 44, 42, 21, 4, 4, 96, 46, 42, 21, 4, 5]
theorem wW23 : WinA cL_law ⟨⟨wn_23⟩⟩ 1104 := w_win_of (l := cL_law.data.toList) (by decide +kernel)
def wn_24 : List UInt8 := [4, 5, 96, 46, 42, 21, 4, 6, 96, 46, 42, 21, 4, 7, 96, 46, 153, 0, 7, 4, 167, 0, 4, 3, 182, 0, 86, 88, 167, 4, 137, 43, 42, 21, 4, 4, 96, 46, 42, 21, 4, 5, 96, 46, 42, 21, 4, 6, 96, 46]
theorem wW24 : WinA cL_law ⟨⟨wn_24⟩⟩ 1152 := w_win_of (l := cL_law.data.toList) (by decide +kernel)
def wn_25 : List UInt8 := [96, 46, 182, 0, 87, 87, 44, 42, 21, 4, 4, 96, 46, 42, 21, 4, 5, 96, 46, 42, 21, 4, 6, 96, 46, 182, 0, 90, 87, 167, 4, 88, 43, 42, 21, 4, 4, 96, 46, 42, 21, 4, 5, 96, 46, 42, 21, 4, 6, 96]
theorem wW25 : WinA cL_law ⟨⟨wn_25⟩⟩ 1200 := w_win_of (l := cL_law.data.toList) (by decide +kernel)
def wn_26 : List UInt8 := [6, 96, 46, 42, 21, 4, 7, 96, 46, 42, 21, 4, 8, 96, 46, 42, 21, 4, 16, 6, 96, 46, 42, 21, 4, 16, 7, 96, 46, 153, 0, 7, 4, 167, 0, 4, 3, 182, 0, 91, 88, 44, 42, 21, 4, 4, 96, 46, 42, 21]
theorem wW26 : WinA cL_law ⟨⟨wn_26⟩⟩ 1248 := w_win_of (l := cL_law.data.toList) (by decide +kernel)
def wn_27 : List UInt8 := [42, 21, 4, 5, 96, 46, 42, 21, 4, 6, 96, 46, 42, 21, 4, 7, 96, 46, 42, 21, 4, 8, 96, 46, 42, 21, 4, 16, 6, 96, 46, 42, 21, 4, 16, 7, 96, 46, 153, 0, 7, 4, 167, 0, 4, 3, 182, 0, 94, 88]
theorem wW27 : WinA cL_law ⟨⟨wn_27⟩⟩ 1296 := w_win_of (l := cL_law.data.toList) (by decide +kernel)
def wn_28 : List UInt8 := [94, 88, 167, 3, 227, 43, 42, 21, 4, 4, 96, 46, 42, 21, 4, 5, 96, 46, 42, 21, 4, 6, 96, 46, 42, 21, 4, 7, 96, 46, 42, 21, 4, 8, 96, 46, 42, 21, 4, 16, 6, 96, 46, 182, 0, 95, 44, 42, 21, 4]
theorem wW28 : WinA cL_law ⟨⟨wn_28⟩⟩ 1344 := w_win_of (l := cL_law.data.toList) (by decide +kernel)
def wn_29 : List UInt8 := [21, 4, 4, 96, 46, 42, 21, 4, 5, 96, 46, 42, 21, 4, 6, 96, 46, 42, 21, 4, 7, 96, 46, 42, 21, 4, 8, 96, 46, 42, 21, 4, 16, 6, 96, 46, 182, 0, 99, 159, 3, 142, 3, 172, 43, 42, 21, 4, 4, 96]
theorem wW29 : WinA cL_law ⟨⟨wn_29⟩⟩ 1392 := w_win_of (l := cL_law.data.toList) (by decide +kernel)
def wn_30 : List UInt8 := [4, 96, 46, 42, 21, 4, 5, 96, 46, 42, 21, 4, 6, 96, 46, 42, 21, 4, 7, 96, 46, 42, 21, 4, 8, 96, 46, 42, 21, 4, 16, 6, 96, 46, 153, 0, 7, 4, 167, 0, 4, 3, 182, 0, 100, 88, 44, 42, 21, 4]
theorem wW30 : WinA cL_law ⟨⟨wn_30⟩⟩ 1440 := w_win_of (l := cL_law.data.toList) (by decide +kernel)
def wn_31 : List UInt8 := [21, 4, 4, 96, 46, 42, 21, 4, 5, 96, 46, 42, 21, 4, 6, 96, 46, 42, 21, 4, 7, 96, 46, 42, 21, 4, 8, 96, 46, 42, 21, 4, 16, 6, 96, 46, 153, 0, 7, 4, 167, 0, 4, 3, 182, 0, 103, 88, 167, 3]
theorem wW31 : WinA cL_law ⟨⟨wn_31⟩⟩ 1488 := w_win_of (l := cL_law.data.toList) (by decide +kernel)
def wn_32 : List UInt8 := [167, 3, 37, 43, 42, 21, 4, 4, 96, 46, 42, 21, 4, 5, 96, 46, 42, 21, 4, 6, 96, 46, 42, 21, 4, 7, 96, 46, 42, 21, 4, 8, 96, 46, 182, 0, 104, 87, 44, 42, 21, 4, 4, 96, 46, 42, 21, 4, 5, 96]
theorem wW32 : WinA cL_law ⟨⟨wn_32⟩⟩ 1536 := w_win_of (l := cL_law.data.toList) (by decide +kernel)
def wn_33 : List UInt8 := [5, 96, 46, 42, 21, 4, 6, 96, 46, 42, 21, 4, 7, 96, 46, 42, 21, 4, 8, 96, 46, 182, 0, 107, 87, 167, 2, 220, 43, 42, 21, 4, 4, 96, 46, 42, 21, 4, 5, 96, 46, 42, 21, 4, 6, 96, 46, 42, 21, 4]
theorem wW33 : WinA cL_law ⟨⟨wn_33⟩⟩ 1584 := w_win_of (l := cL_law.data.toList) (by decide +kernel)
def wn_34 : List UInt8 := [21, 4, 7, 96, 46, 42, 21, 4, 8, 96, 46, 182, 0, 108, 87, 44, 42, 21, 4, 4, 96, 46, 42, 21, 4, 5, 96, 46, 42, 21, 4, 6, 96, 46, 42, 21, 4, 7, 96, 46, 42, 21, 4, 8, 96, 46, 182, 0, 111, 87]
theorem wW34 : WinA cL_law ⟨⟨wn_34⟩⟩ 1632 := w_win_of (l := cL_law.data.toList) (by decide +kernel)
def wn_35 : List UInt8 := [111, 87, 167, 2, 147, 43, 42, 21, 4, 4, 96, 46, 42, 21, 4, 5, 96, 46, 42, 21, 4, 6, 96, 46, 42, 21, 4, 7, 96, 46, 42, 21, 4, 8, 96, 46, 42, 21, 4, 16, 6, 96, 46, 182, 0, 112, 87, 44, 42, 21]
theorem wW35 : WinA cL_law ⟨⟨wn_35⟩⟩ 1680 := w_win_of (l := cL_law.data.toList) (by decide +kernel)
def wn_36 : List UInt8 := [42, 21, 4, 4, 96, 46, 42, 21, 4, 5, 96, 46, 42, 21, 4, 6, 96, 46, 42, 21, 4, 7, 96, 46, 42, 21, 4, 8, 96, 46, 42, 21, 4, 16, 6, 96, 46, 182, 0, 115, 87, 167, 2, 60, 43, 42, 21, 4, 4, 96]
theorem wW36 : WinA cL_law ⟨⟨wn_36⟩⟩ 1728 := w_win_of (l := cL_law.data.toList) (by decide +kernel)
def wn_37 : List UInt8 := [4, 96, 46, 42, 21, 4, 5, 96, 46, 42, 21, 4, 6, 96, 46, 42, 21, 4, 7, 96, 46, 182, 0, 116, 87, 44, 42, 21, 4, 4, 96, 46, 42, 21, 4, 5, 96, 46, 42, 21, 4, 6, 96, 46, 42, 21, 4, 7, 96, 46]
theorem wW37 : WinA cL_law ⟨⟨wn_37⟩⟩ 1776 := w_win_of (l := cL_law.data.toList) (by decide +kernel)
def wn_38 : List UInt8 := [96, 46, 182, 0, 119, 87, 167, 1, 255, 43, 42, 21, 4, 4, 96, 46, 182, 0, 120, 87, 44, 42, 21, 4, 4, 96, 46, 182, 0, 123, 87, 167, 1, 230, 43, 42, 21, 4, 4, 96, 46, 42, 21, 4, 5, 96, 46, 182, 0, 124]
theorem wW38 : WinA cL_law ⟨⟨wn_38⟩⟩ 1824 := w_win_of (l := cL_law.data.toList) (by decide +kernel)
def wn_39 : List UInt8 := [0, 124, 87, 44, 42, 21, 4, 4, 96, 46, 42, 21, 4, 5, 96, 46, 182, 0, 128, 87, 167, 1, 193, 43, 182, 0, 129, 87, 44, 182, 0, 132, 87, 167, 1, 180, 43, 42, 21, 4, 4, 96, 46, 42, 21, 4, 5, 96, 46, 42]
theorem wW39 : WinA cL_law ⟨⟨wn_39⟩⟩ 1872 := w_win_of (l := cL_law.data.toList) (by decide +kernel)
def wn_40 : List UInt8 := [46, 42, 21, 4, 6, 96, 46, 42, 21, 4, 7, 96, 46, 182, 0, 133, 87, 44, 42, 21, 4, 4, 96, 46, 42, 21, 4, 5, 96, 46, 42, 21, 4, 6, 96, 46, 42, 21, 4, 7, 96, 46, 182, 0, 136, 87, 167, 1, 119, 43]
theorem wW40 : WinA cL_law ⟨⟨wn_40⟩⟩ 1920 := w_win_of (l := cL_law.data.toList) (by decide +kernel)
def wn_41 : List UInt8 := [119, 43, 42, 21, 4, 4, 96, 46, 42, 21, 4, 5, 96, 46, 42, 21, 4, 6, 96, 46, 182, 0, 137, 87, 44, 42, 21, 4, 4, 96, 46, 42, 21, 4, 5, 96, 46, 42, 21, 4, 6, 96, 46, 182, 0, 140, 87, 167, 1, 70]
theorem wW41 : WinA cL_law ⟨⟨wn_41⟩⟩ 1968 := w_win_of (l := cL_law.data.toList) (by decide +kernel)
def wn_42 : List UInt8 := [1, 70, 43, 42, 21, 4, 4, 96, 46, 182, 0, 141, 87, 44, 42, 21, 4, 4, 96, 46, 182, 0, 145, 87, 167, 1, 45, 43, 42, 21, 4, 4, 96, 46, 42, 21, 4, 5, 96, 46, 153, 0, 7, 4, 167, 0, 4, 3, 182, 0]
theorem wW42 : WinA cL_law ⟨⟨wn_42⟩⟩ 2016 := w_win_of (l := cL_law.data.toList) (by decide +kernel)
def wn_43 : List UInt8 := [182, 0, 146, 88, 44, 42, 21, 4, 4, 96, 46, 42, 21, 4, 5, 96, 46, 153, 0, 7, 4, 167, 0, 4, 3, 182, 0, 150, 88, 167, 0, 248, 43, 42, 21, 4, 4, 96, 46, 153, 0, 7, 4, 167, 0, 4, 3, 182, 0, 151]
theorem wW43 : WinA cL_law ⟨⟨wn_43⟩⟩ 2064 := w_win_of (l := cL_law.data.toList) (by decide +kernel)
def wn_44 : List UInt8 := [0, 151, 88, 44, 42, 21, 4, 4, 96, 46, 153, 0, 7, 4, 167, 0, 4, 3, 182, 0, 155, 88, 167, 0, 207, 43, 182, 0, 156, 87, 44, 182, 0, 159, 87, 167, 0, 194, 43, 182, 0, 160, 87, 44, 182, 0, 164, 87, 167, 0]
theorem wW44 : WinA cL_law ⟨⟨wn_44⟩⟩ 2112 := w_win_of (l := cL_law.data.toList) (by decide +kernel)
def wn_45 : List UInt8 := [167, 0, 181, 43, 182, 0, 165, 87, 44, 182, 0, 168, 87, 167, 0, 168, 43, 42, 21, 4, 4, 96, 46, 182, 0, 169, 87, 44, 42, 21, 4, 4, 96, 46, 182, 0, 172, 87, 167, 0, 143, 43, 42, 21, 4, 4, 96, 46, 42, 21]
theorem wW45 : WinA cL_law ⟨⟨wn_45⟩⟩ 2160 := w_win_of (l := cL_law.data.toList) (by decide +kernel)
def wn_46 : List UInt8 := [42, 21, 4, 5, 96, 46, 182, 0, 173, 87, 44, 42, 21, 4, 4, 96, 46, 42, 21, 4, 5, 96, 46, 182, 0, 176, 87, 167, 0, 106, 43, 42, 21, 4, 4, 96, 46, 42, 21, 4, 5, 96, 46, 182, 0, 177, 87, 44, 42, 21]
theorem wW46 : WinA cL_law ⟨⟨wn_46⟩⟩ 2208 := w_win_of (l := cL_law.data.toList) (by decide +kernel)
def wn_47 : List UInt8 := [42, 21, 4, 4, 96, 46, 42, 21, 4, 5, 96, 46, 182, 0, 180, 87, 167, 0, 69, 43, 42, 21, 4, 4, 96, 46, 45, 184, 0, 181, 54, 5, 44, 42, 21, 4, 4, 96, 46, 182, 0, 186, 54, 6, 167, 0, 41, 43, 42, 21]
theorem wW47 : WinA cL_law ⟨⟨wn_47⟩⟩ 2256 := w_win_of (l := cL_law.data.toList) (by decide +kernel)
def wn_48 : List UInt8 := [42, 21, 4, 4, 96, 46, 182, 0, 187, 87, 44, 42, 21, 4, 4, 96, 46, 182, 0, 190, 87, 167, 0, 16, 43, 182, 0, 191, 87, 44, 182, 0, 194, 87, 167, 0, 3, 132, 4, 8, 167, 246, 239, 4, 172]
theorem wW48 : WinA cL_law ⟨⟨wn_48⟩⟩ 2304 := w_win_of (l := cL_law.data.toList) (by decide +kernel)
end Win3
theorem dL_law_0 : decode cL_law 0 = .ok (.new 8, 3) := wa_187 wW0 0 (by decide +kernel)
theorem dL_law_3 : decode cL_law 3 = .ok (.dup, 1) := wa_89 wW0 3 (by decide +kernel)
theorem dL_law_4 : decode cL_law 4 = .ok (.invokespecial 15, 3) := wa_183 wW0 4 (by decide +kernel)
theorem dL_law_7 : decode cL_law 7 = .ok (.astore_n 1, 1) := wa_76 wW0 7 (by decide +kernel)
theorem dL_law_8 : decode cL_law 8 = .ok (.new 16, 3) := wa_187 wW0 8 (by decide +kernel)
theorem dL_law_11 : decode cL_law 11 = .ok (.dup, 1) := wa_89 wW0 11 (by decide +kernel)
theorem dL_law_12 : decode cL_law 12 = .ok (.invokespecial 18, 3) := wa_183 wW0 12 (by decide +kernel)
theorem dL_law_15 : decode cL_law 15 = .ok (.astore_n 2, 1) := wa_77 wW0 15 (by decide +kernel)
theorem dL_law_16 : decode cL_law 16 = .ok (.iconst 1, 1) := wa_4 wW0 16 (by decide +kernel)
theorem dL_law_17 : decode cL_law 17 = .ok (.newarray .long, 2) := by decide +kernel
theorem dL_law_19 : decode cL_law 19 = .ok (.astore_n 3, 1) := wa_78 wW0 19 (by decide +kernel)
theorem dL_law_20 : decode cL_law 20 = .ok (.iconst 0, 1) := wa_3 wW0 20 (by decide +kernel)
theorem dL_law_21 : decode cL_law 21 = .ok (.istore 4, 2) := wa_54 wW0 21 (by decide +kernel)
theorem dL_law_23 : decode cL_law 23 = .ok (.iload 4, 2) := wa_21 wW0 23 (by decide +kernel)
theorem dL_law_25 : decode cL_law 25 = .ok (.aload_n 0, 1) := wa_42 wW0 25 (by decide +kernel)
theorem dL_law_26 : decode cL_law 26 = .ok (.arraylength, 1) := wa_190 wW0 26 (by decide +kernel)
theorem dL_law_27 : decode cL_law 27 = .ok (.bipush 8, 2) := wa_16 (y := 8) wW0 27 (by decide +kernel) (by decide +kernel)
theorem dL_law_29 : decode cL_law 29 = .ok (.isub, 1) := wa_100 wW0 29 (by decide +kernel)
theorem dL_law_30 : decode cL_law 30 = .ok (.if_icmp .gt 2317, 3) := wa_163 (y := 2317) wW0 30 (by decide +kernel) (by decide +kernel)
theorem dL_law_33 : decode cL_law 33 = .ok (.aload_n 0, 1) := wa_42 wW0 33 (by decide +kernel)
theorem dL_law_34 : decode cL_law 34 = .ok (.iload 4, 2) := wa_21 wW0 34 (by decide +kernel)
theorem dL_law_36 : decode cL_law 36 = .ok (.iaload, 1) := wa_46 wW0 36 (by decide +kernel)
theorem dL_law_37 : decode cL_law 37 = .ok (.bipush 63, 2) := wa_16 (y := 63) wW0 37 (by decide +kernel) (by decide +kernel)
theorem dL_law_39 : decode cL_law 39 = .ok (.iand, 1) := wa_126 wW0 39 (by decide +kernel)
theorem dL_law_40 : decode cL_law 40 = .ok (.tableswitch 2301 0 39 #[176, 249, 274, 287, 300, 417, 520, 623, 672, 721, 794, 855, 944, 1005, 1066, 1143, 1192, 1309, 1396, 1499, 1572, 1645, 1732, 1793, 1818, 1855, 1868, 1929, 1978, 2003, 2056, 2097, 2110, 2123, 2136, 2161, 2198, 2235, 2263, 2288], 176) := by decide +kernel
theorem dL_law_216 : decode cL_law 216 = .ok (.aload_n 1, 1) := wa_43 wW4 24 (by decide +kernel)
theorem dL_law_217 : decode cL_law 217 = .ok (.aload_n 0, 1) := wa_42 wW4 25 (by decide +kernel)
theorem dL_law_218 : decode cL_law 218 = .ok (.iload 4, 2) := wa_21 wW4 26 (by decide +kernel)
theorem dL_law_220 : decode cL_law 220 = .ok (.iconst 1, 1) := wa_4 wW4 28 (by decide +kernel)
theorem dL_law_221 : decode cL_law 221 = .ok (.iadd, 1) := wa_96 wW4 29 (by decide +kernel)
theorem dL_law_222 : decode cL_law 222 = .ok (.iaload, 1) := wa_46 wW4 30 (by decide +kernel)
theorem dL_law_223 : decode cL_law 223 = .ok (.aload_n 0, 1) := wa_42 wW4 31 (by decide +kernel)
theorem dL_law_224 : decode cL_law 224 = .ok (.iload 4, 2) := wa_21 wW4 32 (by decide +kernel)
theorem dL_law_226 : decode cL_law 226 = .ok (.iconst 2, 1) := wa_5 wW4 34 (by decide +kernel)
theorem dL_law_227 : decode cL_law 227 = .ok (.iadd, 1) := wa_96 wW4 35 (by decide +kernel)
theorem dL_law_228 : decode cL_law 228 = .ok (.iaload, 1) := wa_46 wW4 36 (by decide +kernel)
theorem dL_law_229 : decode cL_law 229 = .ok (.aload_n 0, 1) := wa_42 wW4 37 (by decide +kernel)
theorem dL_law_230 : decode cL_law 230 = .ok (.iload 4, 2) := wa_21 wW4 38 (by decide +kernel)
theorem dL_law_232 : decode cL_law 232 = .ok (.iconst 3, 1) := wa_6 wW4 40 (by decide +kernel)
theorem dL_law_233 : decode cL_law 233 = .ok (.iadd, 1) := wa_96 wW4 41 (by decide +kernel)
theorem dL_law_234 : decode cL_law 234 = .ok (.iaload, 1) := wa_46 wW4 42 (by decide +kernel)
theorem dL_law_235 : decode cL_law 235 = .ok (.aload_n 0, 1) := wa_42 wW4 43 (by decide +kernel)
theorem dL_law_236 : decode cL_law 236 = .ok (.iload 4, 2) := wa_21 wW4 44 (by decide +kernel)
theorem dL_law_238 : decode cL_law 238 = .ok (.iconst 4, 1) := wa_7 wW4 46 (by decide +kernel)
theorem dL_law_239 : decode cL_law 239 = .ok (.iadd, 1) := wa_96 wW4 47 (by decide +kernel)
theorem dL_law_240 : decode cL_law 240 = .ok (.iaload, 1) := wa_46 wW5 0 (by decide +kernel)
theorem dL_law_241 : decode cL_law 241 = .ok (.aload_n 0, 1) := wa_42 wW5 1 (by decide +kernel)
theorem dL_law_242 : decode cL_law 242 = .ok (.iload 4, 2) := wa_21 wW5 2 (by decide +kernel)
theorem dL_law_244 : decode cL_law 244 = .ok (.iconst 5, 1) := wa_8 wW5 4 (by decide +kernel)
theorem dL_law_245 : decode cL_law 245 = .ok (.iadd, 1) := wa_96 wW5 5 (by decide +kernel)
theorem dL_law_246 : decode cL_law 246 = .ok (.iaload, 1) := wa_46 wW5 6 (by decide +kernel)
theorem dL_law_247 : decode cL_law 247 = .ok (.invokevirtual 19, 3) := wa_182 wW5 7 (by decide +kernel)
theorem dL_law_250 : decode cL_law 250 = .ok (.pop, 1) := wa_87 wW5 10 (by decide +kernel)
theorem dL_law_251 : decode cL_law 251 = .ok (.aload_n 2, 1) := wa_44 wW5 11 (by decide +kernel)
theorem dL_law_252 : decode cL_law 252 = .ok (.aload_n 0, 1) := wa_42 wW5 12 (by decide +kernel)
theorem dL_law_253 : decode cL_law 253 = .ok (.iload 4, 2) := wa_21 wW5 13 (by decide +kernel)
theorem dL_law_255 : decode cL_law 255 = .ok (.iconst 1, 1) := wa_4 wW5 15 (by decide +kernel)
theorem dL_law_256 : decode cL_law 256 = .ok (.iadd, 1) := wa_96 wW5 16 (by decide +kernel)
theorem dL_law_257 : decode cL_law 257 = .ok (.iaload, 1) := wa_46 wW5 17 (by decide +kernel)
theorem dL_law_258 : decode cL_law 258 = .ok (.aload_n 0, 1) := wa_42 wW5 18 (by decide +kernel)
theorem dL_law_259 : decode cL_law 259 = .ok (.iload 4, 2) := wa_21 wW5 19 (by decide +kernel)
theorem dL_law_261 : decode cL_law 261 = .ok (.iconst 2, 1) := wa_5 wW5 21 (by decide +kernel)
theorem dL_law_262 : decode cL_law 262 = .ok (.iadd, 1) := wa_96 wW5 22 (by decide +kernel)
theorem dL_law_263 : decode cL_law 263 = .ok (.iaload, 1) := wa_46 wW5 23 (by decide +kernel)
theorem dL_law_264 : decode cL_law 264 = .ok (.aload_n 0, 1) := wa_42 wW5 24 (by decide +kernel)
theorem dL_law_265 : decode cL_law 265 = .ok (.iload 4, 2) := wa_21 wW5 25 (by decide +kernel)
theorem dL_law_267 : decode cL_law 267 = .ok (.iconst 3, 1) := wa_6 wW5 27 (by decide +kernel)
theorem dL_law_268 : decode cL_law 268 = .ok (.iadd, 1) := wa_96 wW5 28 (by decide +kernel)
theorem dL_law_269 : decode cL_law 269 = .ok (.iaload, 1) := wa_46 wW5 29 (by decide +kernel)
theorem dL_law_270 : decode cL_law 270 = .ok (.aload_n 0, 1) := wa_42 wW5 30 (by decide +kernel)
theorem dL_law_271 : decode cL_law 271 = .ok (.iload 4, 2) := wa_21 wW5 31 (by decide +kernel)
theorem dL_law_273 : decode cL_law 273 = .ok (.iconst 4, 1) := wa_7 wW5 33 (by decide +kernel)
theorem dL_law_274 : decode cL_law 274 = .ok (.iadd, 1) := wa_96 wW5 34 (by decide +kernel)
theorem dL_law_275 : decode cL_law 275 = .ok (.iaload, 1) := wa_46 wW5 35 (by decide +kernel)
theorem dL_law_276 : decode cL_law 276 = .ok (.aload_n 0, 1) := wa_42 wW5 36 (by decide +kernel)
theorem dL_law_277 : decode cL_law 277 = .ok (.iload 4, 2) := wa_21 wW5 37 (by decide +kernel)
theorem dL_law_279 : decode cL_law 279 = .ok (.iconst 5, 1) := wa_8 wW5 39 (by decide +kernel)
theorem dL_law_280 : decode cL_law 280 = .ok (.iadd, 1) := wa_96 wW5 40 (by decide +kernel)
theorem dL_law_281 : decode cL_law 281 = .ok (.iaload, 1) := wa_46 wW5 41 (by decide +kernel)
theorem dL_law_282 : decode cL_law 282 = .ok (.invokevirtual 23, 3) := wa_182 wW5 42 (by decide +kernel)
theorem dL_law_285 : decode cL_law 285 = .ok (.pop, 1) := wa_87 wW5 45 (by decide +kernel)
theorem dL_law_286 : decode cL_law 286 = .ok (.goto 2055, 3) := wa_167 (y := 2055) wW5 46 (by decide +kernel) (by decide +kernel)
theorem dL_law_289 : decode cL_law 289 = .ok (.aload_n 1, 1) := wa_43 wW6 1 (by decide +kernel)
theorem dL_law_290 : decode cL_law 290 = .ok (.aload_n 0, 1) := wa_42 wW6 2 (by decide +kernel)
theorem dL_law_291 : decode cL_law 291 = .ok (.iload 4, 2) := wa_21 wW6 3 (by decide +kernel)
theorem dL_law_293 : decode cL_law 293 = .ok (.iconst 1, 1) := wa_4 wW6 5 (by decide +kernel)
theorem dL_law_294 : decode cL_law 294 = .ok (.iadd, 1) := wa_96 wW6 6 (by decide +kernel)
theorem dL_law_295 : decode cL_law 295 = .ok (.iaload, 1) := wa_46 wW6 7 (by decide +kernel)
theorem dL_law_296 : decode cL_law 296 = .ok (.invokevirtual 24, 3) := wa_182 wW6 8 (by decide +kernel)
theorem dL_law_299 : decode cL_law 299 = .ok (.pop, 1) := wa_87 wW6 11 (by decide +kernel)
theorem dL_law_300 : decode cL_law 300 = .ok (.aload_n 2, 1) := wa_44 wW6 12 (by decide +kernel)
theorem dL_law_301 : decode cL_law 301 = .ok (.aload_n 0, 1) := wa_42 wW6 13 (by decide +kernel)
theorem dL_law_302 : decode cL_law 302 = .ok (.iload 4, 2) := wa_21 wW6 14 (by decide +kernel)
theorem dL_law_304 : decode cL_law 304 = .ok (.iconst 1, 1) := wa_4 wW6 16 (by decide +kernel)
theorem dL_law_305 : decode cL_law 305 = .ok (.iadd, 1) := wa_96 wW6 17 (by decide +kernel)
theorem dL_law_306 : decode cL_law 306 = .ok (.iaload, 1) := wa_46 wW6 18 (by decide +kernel)
theorem dL_law_307 : decode cL_law 307 = .ok (.invokevirtual 27, 3) := wa_182 wW6 19 (by decide +kernel)
theorem dL_law_310 : decode cL_law 310 = .ok (.pop, 1) := wa_87 wW6 22 (by decide +kernel)
theorem dL_law_311 : decode cL_law 311 = .ok (.goto 2030, 3) := wa_167 (y := 2030) wW6 23 (by decide +kernel) (by decide +kernel)
theorem dL_law_314 : decode cL_law 314 = .ok (.aload_n 1, 1) := wa_43 wW6 26 (by decide +kernel)
theorem dL_law_315 : decode cL_law 315 = .ok (.invokevirtual 28, 3) := wa_182 wW6 27 (by decide +kernel)
theorem dL_law_318 : decode cL_law 318 = .ok (.pop, 1) := wa_87 wW6 30 (by decide +kernel)
theorem dL_law_319 : decode cL_law 319 = .ok (.aload_n 2, 1) := wa_44 wW6 31 (by decide +kernel)
theorem dL_law_320 : decode cL_law 320 = .ok (.invokevirtual 32, 3) := wa_182 wW6 32 (by decide +kernel)
theorem dL_law_323 : decode cL_law 323 = .ok (.pop, 1) := wa_87 wW6 35 (by decide +kernel)
theorem dL_law_324 : decode cL_law 324 = .ok (.goto 2017, 3) := wa_167 (y := 2017) wW6 36 (by decide +kernel) (by decide +kernel)
theorem dL_law_327 : decode cL_law 327 = .ok (.aload_n 1, 1) := wa_43 wW6 39 (by decide +kernel)
theorem dL_law_328 : decode cL_law 328 = .ok (.invokevirtual 33, 3) := wa_182 wW6 40 (by decide +kernel)
theorem dL_law_331 : decode cL_law 331 = .ok (.pop, 1) := wa_87 wW6 43 (by decide +kernel)
theorem dL_law_332 : decode cL_law 332 = .ok (.aload_n 2, 1) := wa_44 wW6 44 (by decide +kernel)
theorem dL_law_333 : decode cL_law 333 = .ok (.invokevirtual 36, 3) := wa_182 wW6 45 (by decide +kernel)
theorem dL_law_336 : decode cL_law 336 = .ok (.pop, 1) := wa_87 wW7 0 (by decide +kernel)
theorem dL_law_337 : decode cL_law 337 = .ok (.goto 2004, 3) := wa_167 (y := 2004) wW7 1 (by decide +kernel) (by decide +kernel)
theorem dL_law_340 : decode cL_law 340 = .ok (.aload_n 1, 1) := wa_43 wW7 4 (by decide +kernel)
theorem dL_law_341 : decode cL_law 341 = .ok (.aload_n 0, 1) := wa_42 wW7 5 (by decide +kernel)
theorem dL_law_342 : decode cL_law 342 = .ok (.iload 4, 2) := wa_21 wW7 6 (by decide +kernel)
theorem dL_law_344 : decode cL_law 344 = .ok (.iconst 1, 1) := wa_4 wW7 8 (by decide +kernel)
theorem dL_law_345 : decode cL_law 345 = .ok (.iadd, 1) := wa_96 wW7 9 (by decide +kernel)
theorem dL_law_346 : decode cL_law 346 = .ok (.iaload, 1) := wa_46 wW7 10 (by decide +kernel)
theorem dL_law_347 : decode cL_law 347 = .ok (.aload_n 0, 1) := wa_42 wW7 11 (by decide +kernel)
theorem dL_law_348 : decode cL_law 348 = .ok (.iload 4, 2) := wa_21 wW7 12 (by decide +kernel)
theorem dL_law_350 : decode cL_law 350 = .ok (.iconst 2, 1) := wa_5 wW7 14 (by decide +kernel)
theorem dL_law_351 : decode cL_law 351 = .ok (.iadd, 1) := wa_96 wW7 15 (by decide +kernel)
theorem dL_law_352 : decode cL_law 352 = .ok (.iaload, 1) := wa_46 wW7 16 (by decide +kernel)
theorem dL_law_353 : decode cL_law 353 = .ok (.aload_n 0, 1) := wa_42 wW7 17 (by decide +kernel)
theorem dL_law_354 : decode cL_law 354 = .ok (.iload 4, 2) := wa_21 wW7 18 (by decide +kernel)
theorem dL_law_356 : decode cL_law 356 = .ok (.iconst 3, 1) := wa_6 wW7 20 (by decide +kernel)
theorem dL_law_357 : decode cL_law 357 = .ok (.iadd, 1) := wa_96 wW7 21 (by decide +kernel)
theorem dL_law_358 : decode cL_law 358 = .ok (.iaload, 1) := wa_46 wW7 22 (by decide +kernel)
theorem dL_law_359 : decode cL_law 359 = .ok (.aload_n 0, 1) := wa_42 wW7 23 (by decide +kernel)
theorem dL_law_360 : decode cL_law 360 = .ok (.iload 4, 2) := wa_21 wW7 24 (by decide +kernel)
theorem dL_law_362 : decode cL_law 362 = .ok (.iconst 4, 1) := wa_7 wW7 26 (by decide +kernel)
theorem dL_law_363 : decode cL_law 363 = .ok (.iadd, 1) := wa_96 wW7 27 (by decide +kernel)
theorem dL_law_364 : decode cL_law 364 = .ok (.iaload, 1) := wa_46 wW7 28 (by decide +kernel)
theorem dL_law_365 : decode cL_law 365 = .ok (.aload_n 0, 1) := wa_42 wW7 29 (by decide +kernel)
theorem dL_law_366 : decode cL_law 366 = .ok (.iload 4, 2) := wa_21 wW7 30 (by decide +kernel)
theorem dL_law_368 : decode cL_law 368 = .ok (.iconst 5, 1) := wa_8 wW7 32 (by decide +kernel)
theorem dL_law_369 : decode cL_law 369 = .ok (.iadd, 1) := wa_96 wW7 33 (by decide +kernel)
theorem dL_law_370 : decode cL_law 370 = .ok (.iaload, 1) := wa_46 wW7 34 (by decide +kernel)
theorem dL_law_371 : decode cL_law 371 = .ok (.aload_n 0, 1) := wa_42 wW7 35 (by decide +kernel)
theorem dL_law_372 : decode cL_law 372 = .ok (.iload 4, 2) := wa_21 wW7 36 (by decide +kernel)
theorem dL_law_374 : decode cL_law 374 = .ok (.bipush 6, 2) := wa_16 (y := 6) wW7 38 (by decide +kernel) (by decide +kernel)
theorem dL_law_376 : decode cL_law 376 = .ok (.iadd, 1) := wa_96 wW7 40 (by decide +kernel)
theorem dL_law_377 : decode cL_law 377 = .ok (.iaload, 1) := wa_46 wW7 41 (by decide +kernel)
theorem dL_law_378 : decode cL_law 378 = .ok (.aload_n 0, 1) := wa_42 wW7 42 (by decide +kernel)
theorem dL_law_379 : decode cL_law 379 = .ok (.iload 4, 2) := wa_21 wW7 43 (by decide +kernel)
theorem dL_law_381 : decode cL_law 381 = .ok (.bipush 7, 2) := wa_16 (y := 7) wW7 45 (by decide +kernel) (by decide +kernel)
theorem dL_law_383 : decode cL_law 383 = .ok (.iadd, 1) := wa_96 wW7 47 (by decide +kernel)
theorem dL_law_384 : decode cL_law 384 = .ok (.iaload, 1) := wa_46 wW8 0 (by decide +kernel)
theorem dL_law_385 : decode cL_law 385 = .ok (.ifCond .eq 7, 3) := wa_153 (y := 7) wW8 1 (by decide +kernel) (by decide +kernel)
theorem dL_law_388 : decode cL_law 388 = .ok (.iconst 1, 1) := wa_4 wW8 4 (by decide +kernel)
theorem dL_law_389 : decode cL_law 389 = .ok (.goto 4, 3) := wa_167 (y := 4) wW8 5 (by decide +kernel) (by decide +kernel)
theorem dL_law_392 : decode cL_law 392 = .ok (.iconst 0, 1) := wa_3 wW8 8 (by decide +kernel)
theorem dL_law_393 : decode cL_law 393 = .ok (.invokevirtual 37, 3) := wa_182 wW8 9 (by decide +kernel)
theorem dL_law_396 : decode cL_law 396 = .ok (.pop2, 1) := wa_88 wW8 12 (by decide +kernel)
theorem dL_law_397 : decode cL_law 397 = .ok (.aload_n 2, 1) := wa_44 wW8 13 (by decide +kernel)
theorem dL_law_398 : decode cL_law 398 = .ok (.aload_n 0, 1) := wa_42 wW8 14 (by decide +kernel)
theorem dL_law_399 : decode cL_law 399 = .ok (.iload 4, 2) := wa_21 wW8 15 (by decide +kernel)
theorem dL_law_401 : decode cL_law 401 = .ok (.iconst 1, 1) := wa_4 wW8 17 (by decide +kernel)
theorem dL_law_402 : decode cL_law 402 = .ok (.iadd, 1) := wa_96 wW8 18 (by decide +kernel)
theorem dL_law_403 : decode cL_law 403 = .ok (.iaload, 1) := wa_46 wW8 19 (by decide +kernel)
theorem dL_law_404 : decode cL_law 404 = .ok (.aload_n 0, 1) := wa_42 wW8 20 (by decide +kernel)
theorem dL_law_405 : decode cL_law 405 = .ok (.iload 4, 2) := wa_21 wW8 21 (by decide +kernel)
theorem dL_law_407 : decode cL_law 407 = .ok (.iconst 2, 1) := wa_5 wW8 23 (by decide +kernel)
theorem dL_law_408 : decode cL_law 408 = .ok (.iadd, 1) := wa_96 wW8 24 (by decide +kernel)
theorem dL_law_409 : decode cL_law 409 = .ok (.iaload, 1) := wa_46 wW8 25 (by decide +kernel)
theorem dL_law_410 : decode cL_law 410 = .ok (.aload_n 0, 1) := wa_42 wW8 26 (by decide +kernel)
theorem dL_law_411 : decode cL_law 411 = .ok (.iload 4, 2) := wa_21 wW8 27 (by decide +kernel)
theorem dL_law_413 : decode cL_law 413 = .ok (.iconst 3, 1) := wa_6 wW8 29 (by decide +kernel)
theorem dL_law_414 : decode cL_law 414 = .ok (.iadd, 1) := wa_96 wW8 30 (by decide +kernel)
theorem dL_law_415 : decode cL_law 415 = .ok (.iaload, 1) := wa_46 wW8 31 (by decide +kernel)
theorem dL_law_416 : decode cL_law 416 = .ok (.aload_n 0, 1) := wa_42 wW8 32 (by decide +kernel)
theorem dL_law_417 : decode cL_law 417 = .ok (.iload 4, 2) := wa_21 wW8 33 (by decide +kernel)
theorem dL_law_419 : decode cL_law 419 = .ok (.iconst 4, 1) := wa_7 wW8 35 (by decide +kernel)
theorem dL_law_420 : decode cL_law 420 = .ok (.iadd, 1) := wa_96 wW8 36 (by decide +kernel)
theorem dL_law_421 : decode cL_law 421 = .ok (.iaload, 1) := wa_46 wW8 37 (by decide +kernel)
theorem dL_law_422 : decode cL_law 422 = .ok (.aload_n 0, 1) := wa_42 wW8 38 (by decide +kernel)
theorem dL_law_423 : decode cL_law 423 = .ok (.iload 4, 2) := wa_21 wW8 39 (by decide +kernel)
theorem dL_law_425 : decode cL_law 425 = .ok (.iconst 5, 1) := wa_8 wW8 41 (by decide +kernel)
theorem dL_law_426 : decode cL_law 426 = .ok (.iadd, 1) := wa_96 wW8 42 (by decide +kernel)
theorem dL_law_427 : decode cL_law 427 = .ok (.iaload, 1) := wa_46 wW8 43 (by decide +kernel)
theorem dL_law_428 : decode cL_law 428 = .ok (.aload_n 0, 1) := wa_42 wW8 44 (by decide +kernel)
theorem dL_law_429 : decode cL_law 429 = .ok (.iload 4, 2) := wa_21 wW8 45 (by decide +kernel)
theorem dL_law_431 : decode cL_law 431 = .ok (.bipush 6, 2) := wa_16 (y := 6) wW8 47 (by decide +kernel) (by decide +kernel)
theorem dL_law_433 : decode cL_law 433 = .ok (.iadd, 1) := wa_96 wW9 1 (by decide +kernel)
theorem dL_law_434 : decode cL_law 434 = .ok (.iaload, 1) := wa_46 wW9 2 (by decide +kernel)
theorem dL_law_435 : decode cL_law 435 = .ok (.aload_n 0, 1) := wa_42 wW9 3 (by decide +kernel)
theorem dL_law_436 : decode cL_law 436 = .ok (.iload 4, 2) := wa_21 wW9 4 (by decide +kernel)
theorem dL_law_438 : decode cL_law 438 = .ok (.bipush 7, 2) := wa_16 (y := 7) wW9 6 (by decide +kernel) (by decide +kernel)
theorem dL_law_440 : decode cL_law 440 = .ok (.iadd, 1) := wa_96 wW9 8 (by decide +kernel)
theorem dL_law_441 : decode cL_law 441 = .ok (.iaload, 1) := wa_46 wW9 9 (by decide +kernel)
theorem dL_law_442 : decode cL_law 442 = .ok (.ifCond .eq 7, 3) := wa_153 (y := 7) wW9 10 (by decide +kernel) (by decide +kernel)
theorem dL_law_445 : decode cL_law 445 = .ok (.iconst 1, 1) := wa_4 wW9 13 (by decide +kernel)
theorem dL_law_446 : decode cL_law 446 = .ok (.goto 4, 3) := wa_167 (y := 4) wW9 14 (by decide +kernel) (by decide +kernel)
theorem dL_law_449 : decode cL_law 449 = .ok (.iconst 0, 1) := wa_3 wW9 17 (by decide +kernel)
theorem dL_law_450 : decode cL_law 450 = .ok (.invokevirtual 41, 3) := wa_182 wW9 18 (by decide +kernel)
theorem dL_law_453 : decode cL_law 453 = .ok (.pop2, 1) := wa_88 wW9 21 (by decide +kernel)
theorem dL_law_454 : decode cL_law 454 = .ok (.goto 1887, 3) := wa_167 (y := 1887) wW9 22 (by decide +kernel) (by decide +kernel)
theorem dL_law_457 : decode cL_law 457 = .ok (.aload_n 1, 1) := wa_43 wW9 25 (by decide +kernel)
theorem dL_law_458 : decode cL_law 458 = .ok (.aload_n 0, 1) := wa_42 wW9 26 (by decide +kernel)
theorem dL_law_459 : decode cL_law 459 = .ok (.iload 4, 2) := wa_21 wW9 27 (by decide +kernel)
theorem dL_law_461 : decode cL_law 461 = .ok (.iconst 1, 1) := wa_4 wW9 29 (by decide +kernel)
theorem dL_law_462 : decode cL_law 462 = .ok (.iadd, 1) := wa_96 wW9 30 (by decide +kernel)
theorem dL_law_463 : decode cL_law 463 = .ok (.iaload, 1) := wa_46 wW9 31 (by decide +kernel)
theorem dL_law_464 : decode cL_law 464 = .ok (.aload_n 0, 1) := wa_42 wW9 32 (by decide +kernel)
theorem dL_law_465 : decode cL_law 465 = .ok (.iload 4, 2) := wa_21 wW9 33 (by decide +kernel)
theorem dL_law_467 : decode cL_law 467 = .ok (.iconst 2, 1) := wa_5 wW9 35 (by decide +kernel)
theorem dL_law_468 : decode cL_law 468 = .ok (.iadd, 1) := wa_96 wW9 36 (by decide +kernel)
theorem dL_law_469 : decode cL_law 469 = .ok (.iaload, 1) := wa_46 wW9 37 (by decide +kernel)
theorem dL_law_470 : decode cL_law 470 = .ok (.aload_n 0, 1) := wa_42 wW9 38 (by decide +kernel)
theorem dL_law_471 : decode cL_law 471 = .ok (.iload 4, 2) := wa_21 wW9 39 (by decide +kernel)
theorem dL_law_473 : decode cL_law 473 = .ok (.iconst 3, 1) := wa_6 wW9 41 (by decide +kernel)
theorem dL_law_474 : decode cL_law 474 = .ok (.iadd, 1) := wa_96 wW9 42 (by decide +kernel)
theorem dL_law_475 : decode cL_law 475 = .ok (.iaload, 1) := wa_46 wW9 43 (by decide +kernel)
theorem dL_law_476 : decode cL_law 476 = .ok (.aload_n 0, 1) := wa_42 wW9 44 (by decide +kernel)
theorem dL_law_477 : decode cL_law 477 = .ok (.iload 4, 2) := wa_21 wW9 45 (by decide +kernel)
theorem dL_law_479 : decode cL_law 479 = .ok (.iconst 4, 1) := wa_7 wW9 47 (by decide +kernel)
theorem dL_law_480 : decode cL_law 480 = .ok (.iadd, 1) := wa_96 wW10 0 (by decide +kernel)
theorem dL_law_481 : decode cL_law 481 = .ok (.iaload, 1) := wa_46 wW10 1 (by decide +kernel)
theorem dL_law_482 : decode cL_law 482 = .ok (.aload_n 0, 1) := wa_42 wW10 2 (by decide +kernel)
theorem dL_law_483 : decode cL_law 483 = .ok (.iload 4, 2) := wa_21 wW10 3 (by decide +kernel)
theorem dL_law_485 : decode cL_law 485 = .ok (.iconst 5, 1) := wa_8 wW10 5 (by decide +kernel)
theorem dL_law_486 : decode cL_law 486 = .ok (.iadd, 1) := wa_96 wW10 6 (by decide +kernel)
theorem dL_law_487 : decode cL_law 487 = .ok (.iaload, 1) := wa_46 wW10 7 (by decide +kernel)
theorem dL_law_488 : decode cL_law 488 = .ok (.aload_n 0, 1) := wa_42 wW10 8 (by decide +kernel)
theorem dL_law_489 : decode cL_law 489 = .ok (.iload 4, 2) := wa_21 wW10 9 (by decide +kernel)
theorem dL_law_491 : decode cL_law 491 = .ok (.bipush 6, 2) := wa_16 (y := 6) wW10 11 (by decide +kernel) (by decide +kernel)
theorem dL_law_493 : decode cL_law 493 = .ok (.iadd, 1) := wa_96 wW10 13 (by decide +kernel)
theorem dL_law_494 : decode cL_law 494 = .ok (.iaload, 1) := wa_46 wW10 14 (by decide +kernel)
theorem dL_law_495 : decode cL_law 495 = .ok (.ifCond .eq 7, 3) := wa_153 (y := 7) wW10 15 (by decide +kernel) (by decide +kernel)
theorem dL_law_498 : decode cL_law 498 = .ok (.iconst 1, 1) := wa_4 wW10 18 (by decide +kernel)
theorem dL_law_499 : decode cL_law 499 = .ok (.goto 4, 3) := wa_167 (y := 4) wW10 19 (by decide +kernel) (by decide +kernel)
theorem dL_law_502 : decode cL_law 502 = .ok (.iconst 0, 1) := wa_3 wW10 22 (by decide +kernel)
theorem dL_law_503 : decode cL_law 503 = .ok (.invokevirtual 42, 3) := wa_182 wW10 23 (by decide +kernel)
theorem dL_law_506 : decode cL_law 506 = .ok (.pop2, 1) := wa_88 wW10 26 (by decide +kernel)
theorem dL_law_507 : decode cL_law 507 = .ok (.aload_n 2, 1) := wa_44 wW10 27 (by decide +kernel)
theorem dL_law_508 : decode cL_law 508 = .ok (.aload_n 0, 1) := wa_42 wW10 28 (by decide +kernel)
theorem dL_law_509 : decode cL_law 509 = .ok (.iload 4, 2) := wa_21 wW10 29 (by decide +kernel)
theorem dL_law_511 : decode cL_law 511 = .ok (.iconst 1, 1) := wa_4 wW10 31 (by decide +kernel)
theorem dL_law_512 : decode cL_law 512 = .ok (.iadd, 1) := wa_96 wW10 32 (by decide +kernel)
theorem dL_law_513 : decode cL_law 513 = .ok (.iaload, 1) := wa_46 wW10 33 (by decide +kernel)
theorem dL_law_514 : decode cL_law 514 = .ok (.aload_n 0, 1) := wa_42 wW10 34 (by decide +kernel)
theorem dL_law_515 : decode cL_law 515 = .ok (.iload 4, 2) := wa_21 wW10 35 (by decide +kernel)
theorem dL_law_517 : decode cL_law 517 = .ok (.iconst 2, 1) := wa_5 wW10 37 (by decide +kernel)
theorem dL_law_518 : decode cL_law 518 = .ok (.iadd, 1) := wa_96 wW10 38 (by decide +kernel)
theorem dL_law_519 : decode cL_law 519 = .ok (.iaload, 1) := wa_46 wW10 39 (by decide +kernel)
theorem dL_law_520 : decode cL_law 520 = .ok (.aload_n 0, 1) := wa_42 wW10 40 (by decide +kernel)
theorem dL_law_521 : decode cL_law 521 = .ok (.iload 4, 2) := wa_21 wW10 41 (by decide +kernel)
theorem dL_law_523 : decode cL_law 523 = .ok (.iconst 3, 1) := wa_6 wW10 43 (by decide +kernel)
theorem dL_law_524 : decode cL_law 524 = .ok (.iadd, 1) := wa_96 wW10 44 (by decide +kernel)
theorem dL_law_525 : decode cL_law 525 = .ok (.iaload, 1) := wa_46 wW10 45 (by decide +kernel)
theorem dL_law_526 : decode cL_law 526 = .ok (.aload_n 0, 1) := wa_42 wW10 46 (by decide +kernel)
theorem dL_law_527 : decode cL_law 527 = .ok (.iload 4, 2) := wa_21 wW10 47 (by decide +kernel)
theorem dL_law_529 : decode cL_law 529 = .ok (.iconst 4, 1) := wa_7 wW11 1 (by decide +kernel)
theorem dL_law_530 : decode cL_law 530 = .ok (.iadd, 1) := wa_96 wW11 2 (by decide +kernel)
theorem dL_law_531 : decode cL_law 531 = .ok (.iaload, 1) := wa_46 wW11 3 (by decide +kernel)
theorem dL_law_532 : decode cL_law 532 = .ok (.aload_n 0, 1) := wa_42 wW11 4 (by decide +kernel)
theorem dL_law_533 : decode cL_law 533 = .ok (.iload 4, 2) := wa_21 wW11 5 (by decide +kernel)
theorem dL_law_535 : decode cL_law 535 = .ok (.iconst 5, 1) := wa_8 wW11 7 (by decide +kernel)
theorem dL_law_536 : decode cL_law 536 = .ok (.iadd, 1) := wa_96 wW11 8 (by decide +kernel)
theorem dL_law_537 : decode cL_law 537 = .ok (.iaload, 1) := wa_46 wW11 9 (by decide +kernel)
theorem dL_law_538 : decode cL_law 538 = .ok (.aload_n 0, 1) := wa_42 wW11 10 (by decide +kernel)
theorem dL_law_539 : decode cL_law 539 = .ok (.iload 4, 2) := wa_21 wW11 11 (by decide +kernel)
theorem dL_law_541 : decode cL_law 541 = .ok (.bipush 6, 2) := wa_16 (y := 6) wW11 13 (by decide +kernel) (by decide +kernel)
theorem dL_law_543 : decode cL_law 543 = .ok (.iadd, 1) := wa_96 wW11 15 (by decide +kernel)
theorem dL_law_544 : decode cL_law 544 = .ok (.iaload, 1) := wa_46 wW11 16 (by decide +kernel)
theorem dL_law_545 : decode cL_law 545 = .ok (.ifCond .eq 7, 3) := wa_153 (y := 7) wW11 17 (by decide +kernel) (by decide +kernel)
theorem dL_law_548 : decode cL_law 548 = .ok (.iconst 1, 1) := wa_4 wW11 20 (by decide +kernel)
theorem dL_law_549 : decode cL_law 549 = .ok (.goto 4, 3) := wa_167 (y := 4) wW11 21 (by decide +kernel) (by decide +kernel)
theorem dL_law_552 : decode cL_law 552 = .ok (.iconst 0, 1) := wa_3 wW11 24 (by decide +kernel)
theorem dL_law_553 : decode cL_law 553 = .ok (.invokevirtual 46, 3) := wa_182 wW11 25 (by decide +kernel)
theorem dL_law_556 : decode cL_law 556 = .ok (.pop2, 1) := wa_88 wW11 28 (by decide +kernel)
theorem dL_law_557 : decode cL_law 557 = .ok (.goto 1784, 3) := wa_167 (y := 1784) wW11 29 (by decide +kernel) (by decide +kernel)
theorem dL_law_560 : decode cL_law 560 = .ok (.aload_n 1, 1) := wa_43 wW11 32 (by decide +kernel)
theorem dL_law_561 : decode cL_law 561 = .ok (.aload_n 0, 1) := wa_42 wW11 33 (by decide +kernel)
theorem dL_law_562 : decode cL_law 562 = .ok (.iload 4, 2) := wa_21 wW11 34 (by decide +kernel)
theorem dL_law_564 : decode cL_law 564 = .ok (.iconst 1, 1) := wa_4 wW11 36 (by decide +kernel)
theorem dL_law_565 : decode cL_law 565 = .ok (.iadd, 1) := wa_96 wW11 37 (by decide +kernel)
theorem dL_law_566 : decode cL_law 566 = .ok (.iaload, 1) := wa_46 wW11 38 (by decide +kernel)
theorem dL_law_567 : decode cL_law 567 = .ok (.aload_n 0, 1) := wa_42 wW11 39 (by decide +kernel)
theorem dL_law_568 : decode cL_law 568 = .ok (.iload 4, 2) := wa_21 wW11 40 (by decide +kernel)
theorem dL_law_570 : decode cL_law 570 = .ok (.iconst 2, 1) := wa_5 wW11 42 (by decide +kernel)
theorem dL_law_571 : decode cL_law 571 = .ok (.iadd, 1) := wa_96 wW11 43 (by decide +kernel)
theorem dL_law_572 : decode cL_law 572 = .ok (.iaload, 1) := wa_46 wW11 44 (by decide +kernel)
theorem dL_law_573 : decode cL_law 573 = .ok (.aload_n 0, 1) := wa_42 wW11 45 (by decide +kernel)
theorem dL_law_574 : decode cL_law 574 = .ok (.iload 4, 2) := wa_21 wW11 46 (by decide +kernel)
theorem dL_law_576 : decode cL_law 576 = .ok (.iconst 3, 1) := wa_6 wW12 0 (by decide +kernel)
theorem dL_law_577 : decode cL_law 577 = .ok (.iadd, 1) := wa_96 wW12 1 (by decide +kernel)
theorem dL_law_578 : decode cL_law 578 = .ok (.iaload, 1) := wa_46 wW12 2 (by decide +kernel)
theorem dL_law_579 : decode cL_law 579 = .ok (.aload_n 0, 1) := wa_42 wW12 3 (by decide +kernel)
theorem dL_law_580 : decode cL_law 580 = .ok (.iload 4, 2) := wa_21 wW12 4 (by decide +kernel)
theorem dL_law_582 : decode cL_law 582 = .ok (.iconst 4, 1) := wa_7 wW12 6 (by decide +kernel)
theorem dL_law_583 : decode cL_law 583 = .ok (.iadd, 1) := wa_96 wW12 7 (by decide +kernel)
theorem dL_law_584 : decode cL_law 584 = .ok (.iaload, 1) := wa_46 wW12 8 (by decide +kernel)
theorem dL_law_585 : decode cL_law 585 = .ok (.aload_n 0, 1) := wa_42 wW12 9 (by decide +kernel)
theorem dL_law_586 : decode cL_law 586 = .ok (.iload 4, 2) := wa_21 wW12 10 (by decide +kernel)
theorem dL_law_588 : decode cL_law 588 = .ok (.iconst 5, 1) := wa_8 wW12 12 (by decide +kernel)
theorem dL_law_589 : decode cL_law 589 = .ok (.iadd, 1) := wa_96 wW12 13 (by decide +kernel)
theorem dL_law_590 : decode cL_law 590 = .ok (.iaload, 1) := wa_46 wW12 14 (by decide +kernel)
theorem dL_law_591 : decode cL_law 591 = .ok (.aload_n 0, 1) := wa_42 wW12 15 (by decide +kernel)
theorem dL_law_592 : decode cL_law 592 = .ok (.iload 4, 2) := wa_21 wW12 16 (by decide +kernel)
theorem dL_law_594 : decode cL_law 594 = .ok (.bipush 6, 2) := wa_16 (y := 6) wW12 18 (by decide +kernel) (by decide +kernel)
theorem dL_law_596 : decode cL_law 596 = .ok (.iadd, 1) := wa_96 wW12 20 (by decide +kernel)
theorem dL_law_597 : decode cL_law 597 = .ok (.iaload, 1) := wa_46 wW12 21 (by decide +kernel)
theorem dL_law_598 : decode cL_law 598 = .ok (.ifCond .eq 7, 3) := wa_153 (y := 7) wW12 22 (by decide +kernel) (by decide +kernel)
theorem dL_law_601 : decode cL_law 601 = .ok (.iconst 1, 1) := wa_4 wW12 25 (by decide +kernel)
theorem dL_law_602 : decode cL_law 602 = .ok (.goto 4, 3) := wa_167 (y := 4) wW12 26 (by decide +kernel) (by decide +kernel)
theorem dL_law_605 : decode cL_law 605 = .ok (.iconst 0, 1) := wa_3 wW12 29 (by decide +kernel)
theorem dL_law_606 : decode cL_law 606 = .ok (.invokevirtual 47, 3) := wa_182 wW12 30 (by decide +kernel)
theorem dL_law_609 : decode cL_law 609 = .ok (.pop2, 1) := wa_88 wW12 33 (by decide +kernel)
theorem dL_law_610 : decode cL_law 610 = .ok (.aload_n 2, 1) := wa_44 wW12 34 (by decide +kernel)
theorem dL_law_611 : decode cL_law 611 = .ok (.aload_n 0, 1) := wa_42 wW12 35 (by decide +kernel)
theorem dL_law_612 : decode cL_law 612 = .ok (.iload 4, 2) := wa_21 wW12 36 (by decide +kernel)
theorem dL_law_614 : decode cL_law 614 = .ok (.iconst 1, 1) := wa_4 wW12 38 (by decide +kernel)
theorem dL_law_615 : decode cL_law 615 = .ok (.iadd, 1) := wa_96 wW12 39 (by decide +kernel)
theorem dL_law_616 : decode cL_law 616 = .ok (.iaload, 1) := wa_46 wW12 40 (by decide +kernel)
theorem dL_law_617 : decode cL_law 617 = .ok (.aload_n 0, 1) := wa_42 wW12 41 (by decide +kernel)
theorem dL_law_618 : decode cL_law 618 = .ok (.iload 4, 2) := wa_21 wW12 42 (by decide +kernel)
theorem dL_law_620 : decode cL_law 620 = .ok (.iconst 2, 1) := wa_5 wW12 44 (by decide +kernel)
theorem dL_law_621 : decode cL_law 621 = .ok (.iadd, 1) := wa_96 wW12 45 (by decide +kernel)
theorem dL_law_622 : decode cL_law 622 = .ok (.iaload, 1) := wa_46 wW12 46 (by decide +kernel)
theorem dL_law_623 : decode cL_law 623 = .ok (.aload_n 0, 1) := wa_42 wW12 47 (by decide +kernel)
theorem dL_law_624 : decode cL_law 624 = .ok (.iload 4, 2) := wa_21 wW13 0 (by decide +kernel)
theorem dL_law_626 : decode cL_law 626 = .ok (.iconst 3, 1) := wa_6 wW13 2 (by decide +kernel)
theorem dL_law_627 : decode cL_law 627 = .ok (.iadd, 1) := wa_96 wW13 3 (by decide +kernel)
theorem dL_law_628 : decode cL_law 628 = .ok (.iaload, 1) := wa_46 wW13 4 (by decide +kernel)
theorem dL_law_629 : decode cL_law 629 = .ok (.aload_n 0, 1) := wa_42 wW13 5 (by decide +kernel)
theorem dL_law_630 : decode cL_law 630 = .ok (.iload 4, 2) := wa_21 wW13 6 (by decide +kernel)
theorem dL_law_632 : decode cL_law 632 = .ok (.iconst 4, 1) := wa_7 wW13 8 (by decide +kernel)
theorem dL_law_633 : decode cL_law 633 = .ok (.iadd, 1) := wa_96 wW13 9 (by decide +kernel)
theorem dL_law_634 : decode cL_law 634 = .ok (.iaload, 1) := wa_46 wW13 10 (by decide +kernel)
theorem dL_law_635 : decode cL_law 635 = .ok (.aload_n 0, 1) := wa_42 wW13 11 (by decide +kernel)
theorem dL_law_636 : decode cL_law 636 = .ok (.iload 4, 2) := wa_21 wW13 12 (by decide +kernel)
theorem dL_law_638 : decode cL_law 638 = .ok (.iconst 5, 1) := wa_8 wW13 14 (by decide +kernel)
theorem dL_law_639 : decode cL_law 639 = .ok (.iadd, 1) := wa_96 wW13 15 (by decide +kernel)
theorem dL_law_640 : decode cL_law 640 = .ok (.iaload, 1) := wa_46 wW13 16 (by decide +kernel)
theorem dL_law_641 : decode cL_law 641 = .ok (.aload_n 0, 1) := wa_42 wW13 17 (by decide +kernel)
theorem dL_law_642 : decode cL_law 642 = .ok (.iload 4, 2) := wa_21 wW13 18 (by decide +kernel)
theorem dL_law_644 : decode cL_law 644 = .ok (.bipush 6, 2) := wa_16 (y := 6) wW13 20 (by decide +kernel) (by decide +kernel)
theorem dL_law_646 : decode cL_law 646 = .ok (.iadd, 1) := wa_96 wW13 22 (by decide +kernel)
theorem dL_law_647 : decode cL_law 647 = .ok (.iaload, 1) := wa_46 wW13 23 (by decide +kernel)
theorem dL_law_648 : decode cL_law 648 = .ok (.ifCond .eq 7, 3) := wa_153 (y := 7) wW13 24 (by decide +kernel) (by decide +kernel)
theorem dL_law_651 : decode cL_law 651 = .ok (.iconst 1, 1) := wa_4 wW13 27 (by decide +kernel)
theorem dL_law_652 : decode cL_law 652 = .ok (.goto 4, 3) := wa_167 (y := 4) wW13 28 (by decide +kernel) (by decide +kernel)
theorem dL_law_655 : decode cL_law 655 = .ok (.iconst 0, 1) := wa_3 wW13 31 (by decide +kernel)
theorem dL_law_656 : decode cL_law 656 = .ok (.invokevirtual 50, 3) := wa_182 wW13 32 (by decide +kernel)
theorem dL_law_659 : decode cL_law 659 = .ok (.pop2, 1) := wa_88 wW13 35 (by decide +kernel)
theorem dL_law_660 : decode cL_law 660 = .ok (.goto 1681, 3) := wa_167 (y := 1681) wW13 36 (by decide +kernel) (by decide +kernel)
theorem dL_law_663 : decode cL_law 663 = .ok (.aload_n 1, 1) := wa_43 wW13 39 (by decide +kernel)
theorem dL_law_664 : decode cL_law 664 = .ok (.aload_n 0, 1) := wa_42 wW13 40 (by decide +kernel)
theorem dL_law_665 : decode cL_law 665 = .ok (.iload 4, 2) := wa_21 wW13 41 (by decide +kernel)
theorem dL_law_667 : decode cL_law 667 = .ok (.iconst 1, 1) := wa_4 wW13 43 (by decide +kernel)
theorem dL_law_668 : decode cL_law 668 = .ok (.iadd, 1) := wa_96 wW13 44 (by decide +kernel)
theorem dL_law_669 : decode cL_law 669 = .ok (.iaload, 1) := wa_46 wW13 45 (by decide +kernel)
theorem dL_law_670 : decode cL_law 670 = .ok (.aload_n 0, 1) := wa_42 wW13 46 (by decide +kernel)
theorem dL_law_671 : decode cL_law 671 = .ok (.iload 4, 2) := wa_21 wW13 47 (by decide +kernel)
theorem dL_law_673 : decode cL_law 673 = .ok (.iconst 2, 1) := wa_5 wW14 1 (by decide +kernel)
theorem dL_law_674 : decode cL_law 674 = .ok (.iadd, 1) := wa_96 wW14 2 (by decide +kernel)
theorem dL_law_675 : decode cL_law 675 = .ok (.iaload, 1) := wa_46 wW14 3 (by decide +kernel)
theorem dL_law_676 : decode cL_law 676 = .ok (.aload_n 0, 1) := wa_42 wW14 4 (by decide +kernel)
theorem dL_law_677 : decode cL_law 677 = .ok (.iload 4, 2) := wa_21 wW14 5 (by decide +kernel)
theorem dL_law_679 : decode cL_law 679 = .ok (.iconst 3, 1) := wa_6 wW14 7 (by decide +kernel)
theorem dL_law_680 : decode cL_law 680 = .ok (.iadd, 1) := wa_96 wW14 8 (by decide +kernel)
theorem dL_law_681 : decode cL_law 681 = .ok (.iaload, 1) := wa_46 wW14 9 (by decide +kernel)
theorem dL_law_682 : decode cL_law 682 = .ok (.invokevirtual 51, 3) := wa_182 wW14 10 (by decide +kernel)
theorem dL_law_685 : decode cL_law 685 = .ok (.pop, 1) := wa_87 wW14 13 (by decide +kernel)
theorem dL_law_686 : decode cL_law 686 = .ok (.aload_n 2, 1) := wa_44 wW14 14 (by decide +kernel)
theorem dL_law_687 : decode cL_law 687 = .ok (.aload_n 0, 1) := wa_42 wW14 15 (by decide +kernel)
theorem dL_law_688 : decode cL_law 688 = .ok (.iload 4, 2) := wa_21 wW14 16 (by decide +kernel)
theorem dL_law_690 : decode cL_law 690 = .ok (.iconst 1, 1) := wa_4 wW14 18 (by decide +kernel)
theorem dL_law_691 : decode cL_law 691 = .ok (.iadd, 1) := wa_96 wW14 19 (by decide +kernel)
theorem dL_law_692 : decode cL_law 692 = .ok (.iaload, 1) := wa_46 wW14 20 (by decide +kernel)
theorem dL_law_693 : decode cL_law 693 = .ok (.aload_n 0, 1) := wa_42 wW14 21 (by decide +kernel)
theorem dL_law_694 : decode cL_law 694 = .ok (.iload 4, 2) := wa_21 wW14 22 (by decide +kernel)
theorem dL_law_696 : decode cL_law 696 = .ok (.iconst 2, 1) := wa_5 wW14 24 (by decide +kernel)
theorem dL_law_697 : decode cL_law 697 = .ok (.iadd, 1) := wa_96 wW14 25 (by decide +kernel)
theorem dL_law_698 : decode cL_law 698 = .ok (.iaload, 1) := wa_46 wW14 26 (by decide +kernel)
theorem dL_law_699 : decode cL_law 699 = .ok (.aload_n 0, 1) := wa_42 wW14 27 (by decide +kernel)
theorem dL_law_700 : decode cL_law 700 = .ok (.iload 4, 2) := wa_21 wW14 28 (by decide +kernel)
theorem dL_law_702 : decode cL_law 702 = .ok (.iconst 3, 1) := wa_6 wW14 30 (by decide +kernel)
theorem dL_law_703 : decode cL_law 703 = .ok (.iadd, 1) := wa_96 wW14 31 (by decide +kernel)
theorem dL_law_704 : decode cL_law 704 = .ok (.iaload, 1) := wa_46 wW14 32 (by decide +kernel)
theorem dL_law_705 : decode cL_law 705 = .ok (.invokevirtual 55, 3) := wa_182 wW14 33 (by decide +kernel)
theorem dL_law_708 : decode cL_law 708 = .ok (.pop, 1) := wa_87 wW14 36 (by decide +kernel)
theorem dL_law_709 : decode cL_law 709 = .ok (.goto 1632, 3) := wa_167 (y := 1632) wW14 37 (by decide +kernel) (by decide +kernel)
theorem dL_law_712 : decode cL_law 712 = .ok (.aload_n 1, 1) := wa_43 wW14 40 (by decide +kernel)
theorem dL_law_713 : decode cL_law 713 = .ok (.aload_n 0, 1) := wa_42 wW14 41 (by decide +kernel)
theorem dL_law_714 : decode cL_law 714 = .ok (.iload 4, 2) := wa_21 wW14 42 (by decide +kernel)
theorem dL_law_716 : decode cL_law 716 = .ok (.iconst 1, 1) := wa_4 wW14 44 (by decide +kernel)
theorem dL_law_717 : decode cL_law 717 = .ok (.iadd, 1) := wa_96 wW14 45 (by decide +kernel)
theorem dL_law_718 : decode cL_law 718 = .ok (.iaload, 1) := wa_46 wW14 46 (by decide +kernel)
theorem dL_law_719 : decode cL_law 719 = .ok (.aload_n 0, 1) := wa_42 wW14 47 (by decide +kernel)
theorem dL_law_720 : decode cL_law 720 = .ok (.iload 4, 2) := wa_21 wW15 0 (by decide +kernel)
theorem dL_law_722 : decode cL_law 722 = .ok (.iconst 2, 1) := wa_5 wW15 2 (by decide +kernel)
theorem dL_law_723 : decode cL_law 723 = .ok (.iadd, 1) := wa_96 wW15 3 (by decide +kernel)
theorem dL_law_724 : decode cL_law 724 = .ok (.iaload, 1) := wa_46 wW15 4 (by decide +kernel)
theorem dL_law_725 : decode cL_law 725 = .ok (.aload_n 0, 1) := wa_42 wW15 5 (by decide +kernel)
theorem dL_law_726 : decode cL_law 726 = .ok (.iload 4, 2) := wa_21 wW15 6 (by decide +kernel)
theorem dL_law_728 : decode cL_law 728 = .ok (.iconst 3, 1) := wa_6 wW15 8 (by decide +kernel)
theorem dL_law_729 : decode cL_law 729 = .ok (.iadd, 1) := wa_96 wW15 9 (by decide +kernel)
theorem dL_law_730 : decode cL_law 730 = .ok (.iaload, 1) := wa_46 wW15 10 (by decide +kernel)
theorem dL_law_731 : decode cL_law 731 = .ok (.invokevirtual 56, 3) := wa_182 wW15 11 (by decide +kernel)
theorem dL_law_734 : decode cL_law 734 = .ok (.pop, 1) := wa_87 wW15 14 (by decide +kernel)
theorem dL_law_735 : decode cL_law 735 = .ok (.aload_n 2, 1) := wa_44 wW15 15 (by decide +kernel)
theorem dL_law_736 : decode cL_law 736 = .ok (.aload_n 0, 1) := wa_42 wW15 16 (by decide +kernel)
theorem dL_law_737 : decode cL_law 737 = .ok (.iload 4, 2) := wa_21 wW15 17 (by decide +kernel)
theorem dL_law_739 : decode cL_law 739 = .ok (.iconst 1, 1) := wa_4 wW15 19 (by decide +kernel)
theorem dL_law_740 : decode cL_law 740 = .ok (.iadd, 1) := wa_96 wW15 20 (by decide +kernel)
theorem dL_law_741 : decode cL_law 741 = .ok (.iaload, 1) := wa_46 wW15 21 (by decide +kernel)
theorem dL_law_742 : decode cL_law 742 = .ok (.aload_n 0, 1) := wa_42 wW15 22 (by decide +kernel)
theorem dL_law_743 : decode cL_law 743 = .ok (.iload 4, 2) := wa_21 wW15 23 (by decide +kernel)
theorem dL_law_745 : decode cL_law 745 = .ok (.iconst 2, 1) := wa_5 wW15 25 (by decide +kernel)
theorem dL_law_746 : decode cL_law 746 = .ok (.iadd, 1) := wa_96 wW15 26 (by decide +kernel)
theorem dL_law_747 : decode cL_law 747 = .ok (.iaload, 1) := wa_46 wW15 27 (by decide +kernel)
theorem dL_law_748 : decode cL_law 748 = .ok (.aload_n 0, 1) := wa_42 wW15 28 (by decide +kernel)
theorem dL_law_749 : decode cL_law 749 = .ok (.iload 4, 2) := wa_21 wW15 29 (by decide +kernel)
theorem dL_law_751 : decode cL_law 751 = .ok (.iconst 3, 1) := wa_6 wW15 31 (by decide +kernel)
theorem dL_law_752 : decode cL_law 752 = .ok (.iadd, 1) := wa_96 wW15 32 (by decide +kernel)
theorem dL_law_753 : decode cL_law 753 = .ok (.iaload, 1) := wa_46 wW15 33 (by decide +kernel)
theorem dL_law_754 : decode cL_law 754 = .ok (.invokevirtual 59, 3) := wa_182 wW15 34 (by decide +kernel)
theorem dL_law_757 : decode cL_law 757 = .ok (.pop, 1) := wa_87 wW15 37 (by decide +kernel)
theorem dL_law_758 : decode cL_law 758 = .ok (.goto 1583, 3) := wa_167 (y := 1583) wW15 38 (by decide +kernel) (by decide +kernel)
theorem dL_law_761 : decode cL_law 761 = .ok (.aload_n 1, 1) := wa_43 wW15 41 (by decide +kernel)
theorem dL_law_762 : decode cL_law 762 = .ok (.aload_n 0, 1) := wa_42 wW15 42 (by decide +kernel)
theorem dL_law_763 : decode cL_law 763 = .ok (.iload 4, 2) := wa_21 wW15 43 (by decide +kernel)
theorem dL_law_765 : decode cL_law 765 = .ok (.iconst 1, 1) := wa_4 wW15 45 (by decide +kernel)
theorem dL_law_766 : decode cL_law 766 = .ok (.iadd, 1) := wa_96 wW15 46 (by decide +kernel)
theorem dL_law_767 : decode cL_law 767 = .ok (.iaload, 1) := wa_46 wW15 47 (by decide +kernel)
theorem dL_law_768 : decode cL_law 768 = .ok (.aload_n 0, 1) := wa_42 wW16 0 (by decide +kernel)
theorem dL_law_769 : decode cL_law 769 = .ok (.iload 4, 2) := wa_21 wW16 1 (by decide +kernel)
theorem dL_law_771 : decode cL_law 771 = .ok (.iconst 2, 1) := wa_5 wW16 3 (by decide +kernel)
theorem dL_law_772 : decode cL_law 772 = .ok (.iadd, 1) := wa_96 wW16 4 (by decide +kernel)
theorem dL_law_773 : decode cL_law 773 = .ok (.iaload, 1) := wa_46 wW16 5 (by decide +kernel)
theorem dL_law_774 : decode cL_law 774 = .ok (.aload_n 0, 1) := wa_42 wW16 6 (by decide +kernel)
theorem dL_law_775 : decode cL_law 775 = .ok (.iload 4, 2) := wa_21 wW16 7 (by decide +kernel)
theorem dL_law_777 : decode cL_law 777 = .ok (.iconst 3, 1) := wa_6 wW16 9 (by decide +kernel)
theorem dL_law_778 : decode cL_law 778 = .ok (.iadd, 1) := wa_96 wW16 10 (by decide +kernel)
theorem dL_law_779 : decode cL_law 779 = .ok (.iaload, 1) := wa_46 wW16 11 (by decide +kernel)
theorem dL_law_780 : decode cL_law 780 = .ok (.aload_n 0, 1) := wa_42 wW16 12 (by decide +kernel)
theorem dL_law_781 : decode cL_law 781 = .ok (.iload 4, 2) := wa_21 wW16 13 (by decide +kernel)
theorem dL_law_783 : decode cL_law 783 = .ok (.iconst 4, 1) := wa_7 wW16 15 (by decide +kernel)
theorem dL_law_784 : decode cL_law 784 = .ok (.iadd, 1) := wa_96 wW16 16 (by decide +kernel)
theorem dL_law_785 : decode cL_law 785 = .ok (.iaload, 1) := wa_46 wW16 17 (by decide +kernel)
theorem dL_law_786 : decode cL_law 786 = .ok (.aload_n 0, 1) := wa_42 wW16 18 (by decide +kernel)
theorem dL_law_787 : decode cL_law 787 = .ok (.iload 4, 2) := wa_21 wW16 19 (by decide +kernel)
theorem dL_law_789 : decode cL_law 789 = .ok (.iconst 5, 1) := wa_8 wW16 21 (by decide +kernel)
theorem dL_law_790 : decode cL_law 790 = .ok (.iadd, 1) := wa_96 wW16 22 (by decide +kernel)
theorem dL_law_791 : decode cL_law 791 = .ok (.iaload, 1) := wa_46 wW16 23 (by decide +kernel)
theorem dL_law_792 : decode cL_law 792 = .ok (.invokevirtual 60, 3) := wa_182 wW16 24 (by decide +kernel)
theorem dL_law_795 : decode cL_law 795 = .ok (.pop, 1) := wa_87 wW16 27 (by decide +kernel)
theorem dL_law_796 : decode cL_law 796 = .ok (.aload_n 2, 1) := wa_44 wW16 28 (by decide +kernel)
theorem dL_law_797 : decode cL_law 797 = .ok (.aload_n 0, 1) := wa_42 wW16 29 (by decide +kernel)
theorem dL_law_798 : decode cL_law 798 = .ok (.iload 4, 2) := wa_21 wW16 30 (by decide +kernel)
theorem dL_law_800 : decode cL_law 800 = .ok (.iconst 1, 1) := wa_4 wW16 32 (by decide +kernel)
theorem dL_law_801 : decode cL_law 801 = .ok (.iadd, 1) := wa_96 wW16 33 (by decide +kernel)
theorem dL_law_802 : decode cL_law 802 = .ok (.iaload, 1) := wa_46 wW16 34 (by decide +kernel)
theorem dL_law_803 : decode cL_law 803 = .ok (.aload_n 0, 1) := wa_42 wW16 35 (by decide +kernel)
theorem dL_law_804 : decode cL_law 804 = .ok (.iload 4, 2) := wa_21 wW16 36 (by decide +kernel)
theorem dL_law_806 : decode cL_law 806 = .ok (.iconst 2, 1) := wa_5 wW16 38 (by decide +kernel)
theorem dL_law_807 : decode cL_law 807 = .ok (.iadd, 1) := wa_96 wW16 39 (by decide +kernel)
theorem dL_law_808 : decode cL_law 808 = .ok (.iaload, 1) := wa_46 wW16 40 (by decide +kernel)
theorem dL_law_809 : decode cL_law 809 = .ok (.aload_n 0, 1) := wa_42 wW16 41 (by decide +kernel)
theorem dL_law_810 : decode cL_law 810 = .ok (.iload 4, 2) := wa_21 wW16 42 (by decide +kernel)
theorem dL_law_812 : decode cL_law 812 = .ok (.iconst 3, 1) := wa_6 wW16 44 (by decide +kernel)
theorem dL_law_813 : decode cL_law 813 = .ok (.iadd, 1) := wa_96 wW16 45 (by decide +kernel)
theorem dL_law_814 : decode cL_law 814 = .ok (.iaload, 1) := wa_46 wW16 46 (by decide +kernel)
theorem dL_law_815 : decode cL_law 815 = .ok (.aload_n 0, 1) := wa_42 wW16 47 (by decide +kernel)
theorem dL_law_816 : decode cL_law 816 = .ok (.iload 4, 2) := wa_21 wW17 0 (by decide +kernel)
theorem dL_law_818 : decode cL_law 818 = .ok (.iconst 4, 1) := wa_7 wW17 2 (by decide +kernel)
theorem dL_law_819 : decode cL_law 819 = .ok (.iadd, 1) := wa_96 wW17 3 (by decide +kernel)
theorem dL_law_820 : decode cL_law 820 = .ok (.iaload, 1) := wa_46 wW17 4 (by decide +kernel)
theorem dL_law_821 : decode cL_law 821 = .ok (.aload_n 0, 1) := wa_42 wW17 5 (by decide +kernel)
theorem dL_law_822 : decode cL_law 822 = .ok (.iload 4, 2) := wa_21 wW17 6 (by decide +kernel)
theorem dL_law_824 : decode cL_law 824 = .ok (.iconst 5, 1) := wa_8 wW17 8 (by decide +kernel)
theorem dL_law_825 : decode cL_law 825 = .ok (.iadd, 1) := wa_96 wW17 9 (by decide +kernel)
theorem dL_law_826 : decode cL_law 826 = .ok (.iaload, 1) := wa_46 wW17 10 (by decide +kernel)
theorem dL_law_827 : decode cL_law 827 = .ok (.invokevirtual 63, 3) := wa_182 wW17 11 (by decide +kernel)
theorem dL_law_830 : decode cL_law 830 = .ok (.pop, 1) := wa_87 wW17 14 (by decide +kernel)
theorem dL_law_831 : decode cL_law 831 = .ok (.goto 1510, 3) := wa_167 (y := 1510) wW17 15 (by decide +kernel) (by decide +kernel)
theorem dL_law_834 : decode cL_law 834 = .ok (.aload_n 1, 1) := wa_43 wW17 18 (by decide +kernel)
theorem dL_law_835 : decode cL_law 835 = .ok (.aload_n 0, 1) := wa_42 wW17 19 (by decide +kernel)
theorem dL_law_836 : decode cL_law 836 = .ok (.iload 4, 2) := wa_21 wW17 20 (by decide +kernel)
theorem dL_law_838 : decode cL_law 838 = .ok (.iconst 1, 1) := wa_4 wW17 22 (by decide +kernel)
theorem dL_law_839 : decode cL_law 839 = .ok (.iadd, 1) := wa_96 wW17 23 (by decide +kernel)
theorem dL_law_840 : decode cL_law 840 = .ok (.iaload, 1) := wa_46 wW17 24 (by decide +kernel)
theorem dL_law_841 : decode cL_law 841 = .ok (.aload_n 0, 1) := wa_42 wW17 25 (by decide +kernel)
theorem dL_law_842 : decode cL_law 842 = .ok (.iload 4, 2) := wa_21 wW17 26 (by decide +kernel)
theorem dL_law_844 : decode cL_law 844 = .ok (.iconst 2, 1) := wa_5 wW17 28 (by decide +kernel)
theorem dL_law_845 : decode cL_law 845 = .ok (.iadd, 1) := wa_96 wW17 29 (by decide +kernel)
theorem dL_law_846 : decode cL_law 846 = .ok (.iaload, 1) := wa_46 wW17 30 (by decide +kernel)
theorem dL_law_847 : decode cL_law 847 = .ok (.aload_n 0, 1) := wa_42 wW17 31 (by decide +kernel)
theorem dL_law_848 : decode cL_law 848 = .ok (.iload 4, 2) := wa_21 wW17 32 (by decide +kernel)
theorem dL_law_850 : decode cL_law 850 = .ok (.iconst 3, 1) := wa_6 wW17 34 (by decide +kernel)
theorem dL_law_851 : decode cL_law 851 = .ok (.iadd, 1) := wa_96 wW17 35 (by decide +kernel)
theorem dL_law_852 : decode cL_law 852 = .ok (.iaload, 1) := wa_46 wW17 36 (by decide +kernel)
theorem dL_law_853 : decode cL_law 853 = .ok (.aload_n 0, 1) := wa_42 wW17 37 (by decide +kernel)
theorem dL_law_854 : decode cL_law 854 = .ok (.iload 4, 2) := wa_21 wW17 38 (by decide +kernel)
theorem dL_law_856 : decode cL_law 856 = .ok (.iconst 4, 1) := wa_7 wW17 40 (by decide +kernel)
theorem dL_law_857 : decode cL_law 857 = .ok (.iadd, 1) := wa_96 wW17 41 (by decide +kernel)
theorem dL_law_858 : decode cL_law 858 = .ok (.iaload, 1) := wa_46 wW17 42 (by decide +kernel)
theorem dL_law_859 : decode cL_law 859 = .ok (.invokevirtual 64, 3) := wa_182 wW17 43 (by decide +kernel)
theorem dL_law_862 : decode cL_law 862 = .ok (.pop, 1) := wa_87 wW17 46 (by decide +kernel)
theorem dL_law_863 : decode cL_law 863 = .ok (.aload_n 2, 1) := wa_44 wW17 47 (by decide +kernel)
theorem dL_law_864 : decode cL_law 864 = .ok (.aload_n 0, 1) := wa_42 wW18 0 (by decide +kernel)
theorem dL_law_865 : decode cL_law 865 = .ok (.iload 4, 2) := wa_21 wW18 1 (by decide +kernel)
theorem dL_law_867 : decode cL_law 867 = .ok (.iconst 1, 1) := wa_4 wW18 3 (by decide +kernel)
theorem dL_law_868 : decode cL_law 868 = .ok (.iadd, 1) := wa_96 wW18 4 (by decide +kernel)
theorem dL_law_869 : decode cL_law 869 = .ok (.iaload, 1) := wa_46 wW18 5 (by decide +kernel)
theorem dL_law_870 : decode cL_law 870 = .ok (.aload_n 0, 1) := wa_42 wW18 6 (by decide +kernel)
theorem dL_law_871 : decode cL_law 871 = .ok (.iload 4, 2) := wa_21 wW18 7 (by decide +kernel)
theorem dL_law_873 : decode cL_law 873 = .ok (.iconst 2, 1) := wa_5 wW18 9 (by decide +kernel)
theorem dL_law_874 : decode cL_law 874 = .ok (.iadd, 1) := wa_96 wW18 10 (by decide +kernel)
theorem dL_law_875 : decode cL_law 875 = .ok (.iaload, 1) := wa_46 wW18 11 (by decide +kernel)
theorem dL_law_876 : decode cL_law 876 = .ok (.aload_n 0, 1) := wa_42 wW18 12 (by decide +kernel)
theorem dL_law_877 : decode cL_law 877 = .ok (.iload 4, 2) := wa_21 wW18 13 (by decide +kernel)
theorem dL_law_879 : decode cL_law 879 = .ok (.iconst 3, 1) := wa_6 wW18 15 (by decide +kernel)
theorem dL_law_880 : decode cL_law 880 = .ok (.iadd, 1) := wa_96 wW18 16 (by decide +kernel)
theorem dL_law_881 : decode cL_law 881 = .ok (.iaload, 1) := wa_46 wW18 17 (by decide +kernel)
theorem dL_law_882 : decode cL_law 882 = .ok (.aload_n 0, 1) := wa_42 wW18 18 (by decide +kernel)
theorem dL_law_883 : decode cL_law 883 = .ok (.iload 4, 2) := wa_21 wW18 19 (by decide +kernel)
theorem dL_law_885 : decode cL_law 885 = .ok (.iconst 4, 1) := wa_7 wW18 21 (by decide +kernel)
theorem dL_law_886 : decode cL_law 886 = .ok (.iadd, 1) := wa_96 wW18 22 (by decide +kernel)
theorem dL_law_887 : decode cL_law 887 = .ok (.iaload, 1) := wa_46 wW18 23 (by decide +kernel)
theorem dL_law_888 : decode cL_law 888 = .ok (.invokevirtual 68, 3) := wa_182 wW18 24 (by decide +kernel)
theorem dL_law_891 : decode cL_law 891 = .ok (.pop, 1) := wa_87 wW18 27 (by decide +kernel)
theorem dL_law_892 : decode cL_law 892 = .ok (.goto 1449, 3) := wa_167 (y := 1449) wW18 28 (by decide +kernel) (by decide +kernel)
theorem dL_law_895 : decode cL_law 895 = .ok (.aload_n 1, 1) := wa_43 wW18 31 (by decide +kernel)
theorem dL_law_896 : decode cL_law 896 = .ok (.aload_n 0, 1) := wa_42 wW18 32 (by decide +kernel)
theorem dL_law_897 : decode cL_law 897 = .ok (.iload 4, 2) := wa_21 wW18 33 (by decide +kernel)
theorem dL_law_899 : decode cL_law 899 = .ok (.iconst 1, 1) := wa_4 wW18 35 (by decide +kernel)
theorem dL_law_900 : decode cL_law 900 = .ok (.iadd, 1) := wa_96 wW18 36 (by decide +kernel)
theorem dL_law_901 : decode cL_law 901 = .ok (.iaload, 1) := wa_46 wW18 37 (by decide +kernel)
theorem dL_law_902 : decode cL_law 902 = .ok (.aload_n 0, 1) := wa_42 wW18 38 (by decide +kernel)
theorem dL_law_903 : decode cL_law 903 = .ok (.iload 4, 2) := wa_21 wW18 39 (by decide +kernel)
theorem dL_law_905 : decode cL_law 905 = .ok (.iconst 2, 1) := wa_5 wW18 41 (by decide +kernel)
theorem dL_law_906 : decode cL_law 906 = .ok (.iadd, 1) := wa_96 wW18 42 (by decide +kernel)
theorem dL_law_907 : decode cL_law 907 = .ok (.iaload, 1) := wa_46 wW18 43 (by decide +kernel)
theorem dL_law_908 : decode cL_law 908 = .ok (.aload_n 0, 1) := wa_42 wW18 44 (by decide +kernel)
theorem dL_law_909 : decode cL_law 909 = .ok (.iload 4, 2) := wa_21 wW18 45 (by decide +kernel)
theorem dL_law_911 : decode cL_law 911 = .ok (.iconst 3, 1) := wa_6 wW18 47 (by decide +kernel)
theorem dL_law_912 : decode cL_law 912 = .ok (.iadd, 1) := wa_96 wW19 0 (by decide +kernel)
theorem dL_law_913 : decode cL_law 913 = .ok (.iaload, 1) := wa_46 wW19 1 (by decide +kernel)
theorem dL_law_914 : decode cL_law 914 = .ok (.aload_n 0, 1) := wa_42 wW19 2 (by decide +kernel)
theorem dL_law_915 : decode cL_law 915 = .ok (.iload 4, 2) := wa_21 wW19 3 (by decide +kernel)
theorem dL_law_917 : decode cL_law 917 = .ok (.iconst 4, 1) := wa_7 wW19 5 (by decide +kernel)
theorem dL_law_918 : decode cL_law 918 = .ok (.iadd, 1) := wa_96 wW19 6 (by decide +kernel)
theorem dL_law_919 : decode cL_law 919 = .ok (.iaload, 1) := wa_46 wW19 7 (by decide +kernel)
theorem dL_law_920 : decode cL_law 920 = .ok (.aload_n 0, 1) := wa_42 wW19 8 (by decide +kernel)
theorem dL_law_921 : decode cL_law 921 = .ok (.iload 4, 2) := wa_21 wW19 9 (by decide +kernel)
theorem dL_law_923 : decode cL_law 923 = .ok (.iconst 5, 1) := wa_8 wW19 11 (by decide +kernel)
theorem dL_law_924 : decode cL_law 924 = .ok (.iadd, 1) := wa_96 wW19 12 (by decide +kernel)
theorem dL_law_925 : decode cL_law 925 = .ok (.iaload, 1) := wa_46 wW19 13 (by decide +kernel)
theorem dL_law_926 : decode cL_law 926 = .ok (.ifCond .eq 7, 3) := wa_153 (y := 7) wW19 14 (by decide +kernel) (by decide +kernel)
theorem dL_law_929 : decode cL_law 929 = .ok (.iconst 1, 1) := wa_4 wW19 17 (by decide +kernel)
theorem dL_law_930 : decode cL_law 930 = .ok (.goto 4, 3) := wa_167 (y := 4) wW19 18 (by decide +kernel) (by decide +kernel)
theorem dL_law_933 : decode cL_law 933 = .ok (.iconst 0, 1) := wa_3 wW19 21 (by decide +kernel)
theorem dL_law_934 : decode cL_law 934 = .ok (.invokevirtual 69, 3) := wa_182 wW19 22 (by decide +kernel)
theorem dL_law_937 : decode cL_law 937 = .ok (.pop2, 1) := wa_88 wW19 25 (by decide +kernel)
theorem dL_law_938 : decode cL_law 938 = .ok (.aload_n 2, 1) := wa_44 wW19 26 (by decide +kernel)
theorem dL_law_939 : decode cL_law 939 = .ok (.aload_n 0, 1) := wa_42 wW19 27 (by decide +kernel)
theorem dL_law_940 : decode cL_law 940 = .ok (.iload 4, 2) := wa_21 wW19 28 (by decide +kernel)
theorem dL_law_942 : decode cL_law 942 = .ok (.iconst 1, 1) := wa_4 wW19 30 (by decide +kernel)
theorem dL_law_943 : decode cL_law 943 = .ok (.iadd, 1) := wa_96 wW19 31 (by decide +kernel)
theorem dL_law_944 : decode cL_law 944 = .ok (.iaload, 1) := wa_46 wW19 32 (by decide +kernel)
theorem dL_law_945 : decode cL_law 945 = .ok (.aload_n 0, 1) := wa_42 wW19 33 (by decide +kernel)
theorem dL_law_946 : decode cL_law 946 = .ok (.iload 4, 2) := wa_21 wW19 34 (by decide +kernel)
theorem dL_law_948 : decode cL_law 948 = .ok (.iconst 2, 1) := wa_5 wW19 36 (by decide +kernel)
theorem dL_law_949 : decode cL_law 949 = .ok (.iadd, 1) := wa_96 wW19 37 (by decide +kernel)
theorem dL_law_950 : decode cL_law 950 = .ok (.iaload, 1) := wa_46 wW19 38 (by decide +kernel)
theorem dL_law_951 : decode cL_law 951 = .ok (.aload_n 0, 1) := wa_42 wW19 39 (by decide +kernel)
theorem dL_law_952 : decode cL_law 952 = .ok (.iload 4, 2) := wa_21 wW19 40 (by decide +kernel)
theorem dL_law_954 : decode cL_law 954 = .ok (.iconst 3, 1) := wa_6 wW19 42 (by decide +kernel)
theorem dL_law_955 : decode cL_law 955 = .ok (.iadd, 1) := wa_96 wW19 43 (by decide +kernel)
theorem dL_law_956 : decode cL_law 956 = .ok (.iaload, 1) := wa_46 wW19 44 (by decide +kernel)
theorem dL_law_957 : decode cL_law 957 = .ok (.aload_n 0, 1) := wa_42 wW19 45 (by decide +kernel)
theorem dL_law_958 : decode cL_law 958 = .ok (.iload 4, 2) := wa_21 wW19 46 (by decide +kernel)
theorem dL_law_960 : decode cL_law 960 = .ok (.iconst 4, 1) := wa_7 wW20 0 (by decide +kernel)
theorem dL_law_961 : decode cL_law 961 = .ok (.iadd, 1) := wa_96 wW20 1 (by decide +kernel)
theorem dL_law_962 : decode cL_law 962 = .ok (.iaload, 1) := wa_46 wW20 2 (by decide +kernel)
theorem dL_law_963 : decode cL_law 963 = .ok (.aload_n 0, 1) := wa_42 wW20 3 (by decide +kernel)
theorem dL_law_964 : decode cL_law 964 = .ok (.iload 4, 2) := wa_21 wW20 4 (by decide +kernel)
theorem dL_law_966 : decode cL_law 966 = .ok (.iconst 5, 1) := wa_8 wW20 6 (by decide +kernel)
theorem dL_law_967 : decode cL_law 967 = .ok (.iadd, 1) := wa_96 wW20 7 (by decide +kernel)
theorem dL_law_968 : decode cL_law 968 = .ok (.iaload, 1) := wa_46 wW20 8 (by decide +kernel)
theorem dL_law_969 : decode cL_law 969 = .ok (.ifCond .eq 7, 3) := wa_153 (y := 7) wW20 9 (by decide +kernel) (by decide +kernel)
theorem dL_law_972 : decode cL_law 972 = .ok (.iconst 1, 1) := wa_4 wW20 12 (by decide +kernel)
theorem dL_law_973 : decode cL_law 973 = .ok (.goto 4, 3) := wa_167 (y := 4) wW20 13 (by decide +kernel) (by decide +kernel)
theorem dL_law_976 : decode cL_law 976 = .ok (.iconst 0, 1) := wa_3 wW20 16 (by decide +kernel)
theorem dL_law_977 : decode cL_law 977 = .ok (.invokevirtual 73, 3) := wa_182 wW20 17 (by decide +kernel)
theorem dL_law_980 : decode cL_law 980 = .ok (.pop2, 1) := wa_88 wW20 20 (by decide +kernel)
theorem dL_law_981 : decode cL_law 981 = .ok (.goto 1360, 3) := wa_167 (y := 1360) wW20 21 (by decide +kernel) (by decide +kernel)
theorem dL_law_984 : decode cL_law 984 = .ok (.aload_n 1, 1) := wa_43 wW20 24 (by decide +kernel)
theorem dL_law_985 : decode cL_law 985 = .ok (.aload_n 0, 1) := wa_42 wW20 25 (by decide +kernel)
theorem dL_law_986 : decode cL_law 986 = .ok (.iload 4, 2) := wa_21 wW20 26 (by decide +kernel)
theorem dL_law_988 : decode cL_law 988 = .ok (.iconst 1, 1) := wa_4 wW20 28 (by decide +kernel)
theorem dL_law_989 : decode cL_law 989 = .ok (.iadd, 1) := wa_96 wW20 29 (by decide +kernel)
theorem dL_law_990 : decode cL_law 990 = .ok (.iaload, 1) := wa_46 wW20 30 (by decide +kernel)
theorem dL_law_991 : decode cL_law 991 = .ok (.aload_n 0, 1) := wa_42 wW20 31 (by decide +kernel)
theorem dL_law_992 : decode cL_law 992 = .ok (.iload 4, 2) := wa_21 wW20 32 (by decide +kernel)
theorem dL_law_994 : decode cL_law 994 = .ok (.iconst 2, 1) := wa_5 wW20 34 (by decide +kernel)
theorem dL_law_995 : decode cL_law 995 = .ok (.iadd, 1) := wa_96 wW20 35 (by decide +kernel)
theorem dL_law_996 : decode cL_law 996 = .ok (.iaload, 1) := wa_46 wW20 36 (by decide +kernel)
theorem dL_law_997 : decode cL_law 997 = .ok (.aload_n 0, 1) := wa_42 wW20 37 (by decide +kernel)
theorem dL_law_998 : decode cL_law 998 = .ok (.iload 4, 2) := wa_21 wW20 38 (by decide +kernel)
theorem dL_law_1000 : decode cL_law 1000 = .ok (.iconst 3, 1) := wa_6 wW20 40 (by decide +kernel)
theorem dL_law_1001 : decode cL_law 1001 = .ok (.iadd, 1) := wa_96 wW20 41 (by decide +kernel)
theorem dL_law_1002 : decode cL_law 1002 = .ok (.iaload, 1) := wa_46 wW20 42 (by decide +kernel)
theorem dL_law_1003 : decode cL_law 1003 = .ok (.aload_n 0, 1) := wa_42 wW20 43 (by decide +kernel)
theorem dL_law_1004 : decode cL_law 1004 = .ok (.iload 4, 2) := wa_21 wW20 44 (by decide +kernel)
theorem dL_law_1006 : decode cL_law 1006 = .ok (.iconst 4, 1) := wa_7 wW20 46 (by decide +kernel)
theorem dL_law_1007 : decode cL_law 1007 = .ok (.iadd, 1) := wa_96 wW20 47 (by decide +kernel)
theorem dL_law_1008 : decode cL_law 1008 = .ok (.iaload, 1) := wa_46 wW21 0 (by decide +kernel)
theorem dL_law_1009 : decode cL_law 1009 = .ok (.invokevirtual 74, 3) := wa_182 wW21 1 (by decide +kernel)
theorem dL_law_1012 : decode cL_law 1012 = .ok (.pop, 1) := wa_87 wW21 4 (by decide +kernel)
theorem dL_law_1013 : decode cL_law 1013 = .ok (.aload_n 2, 1) := wa_44 wW21 5 (by decide +kernel)
theorem dL_law_1014 : decode cL_law 1014 = .ok (.aload_n 0, 1) := wa_42 wW21 6 (by decide +kernel)
theorem dL_law_1015 : decode cL_law 1015 = .ok (.iload 4, 2) := wa_21 wW21 7 (by decide +kernel)
theorem dL_law_1017 : decode cL_law 1017 = .ok (.iconst 1, 1) := wa_4 wW21 9 (by decide +kernel)
theorem dL_law_1018 : decode cL_law 1018 = .ok (.iadd, 1) := wa_96 wW21 10 (by decide +kernel)
theorem dL_law_1019 : decode cL_law 1019 = .ok (.iaload, 1) := wa_46 wW21 11 (by decide +kernel)
theorem dL_law_1020 : decode cL_law 1020 = .ok (.aload_n 0, 1) := wa_42 wW21 12 (by decide +kernel)
theorem dL_law_1021 : decode cL_law 1021 = .ok (.iload 4, 2) := wa_21 wW21 13 (by decide +kernel)
theorem dL_law_1023 : decode cL_law 1023 = .ok (.iconst 2, 1) := wa_5 wW21 15 (by decide +kernel)
theorem dL_law_1024 : decode cL_law 1024 = .ok (.iadd, 1) := wa_96 wW21 16 (by decide +kernel)
theorem dL_law_1025 : decode cL_law 1025 = .ok (.iaload, 1) := wa_46 wW21 17 (by decide +kernel)
theorem dL_law_1026 : decode cL_law 1026 = .ok (.aload_n 0, 1) := wa_42 wW21 18 (by decide +kernel)
theorem dL_law_1027 : decode cL_law 1027 = .ok (.iload 4, 2) := wa_21 wW21 19 (by decide +kernel)
theorem dL_law_1029 : decode cL_law 1029 = .ok (.iconst 3, 1) := wa_6 wW21 21 (by decide +kernel)
theorem dL_law_1030 : decode cL_law 1030 = .ok (.iadd, 1) := wa_96 wW21 22 (by decide +kernel)
theorem dL_law_1031 : decode cL_law 1031 = .ok (.iaload, 1) := wa_46 wW21 23 (by decide +kernel)
theorem dL_law_1032 : decode cL_law 1032 = .ok (.aload_n 0, 1) := wa_42 wW21 24 (by decide +kernel)
theorem dL_law_1033 : decode cL_law 1033 = .ok (.iload 4, 2) := wa_21 wW21 25 (by decide +kernel)
theorem dL_law_1035 : decode cL_law 1035 = .ok (.iconst 4, 1) := wa_7 wW21 27 (by decide +kernel)
theorem dL_law_1036 : decode cL_law 1036 = .ok (.iadd, 1) := wa_96 wW21 28 (by decide +kernel)
theorem dL_law_1037 : decode cL_law 1037 = .ok (.iaload, 1) := wa_46 wW21 29 (by decide +kernel)
theorem dL_law_1038 : decode cL_law 1038 = .ok (.invokevirtual 77, 3) := wa_182 wW21 30 (by decide +kernel)
theorem dL_law_1041 : decode cL_law 1041 = .ok (.pop, 1) := wa_87 wW21 33 (by decide +kernel)
theorem dL_law_1042 : decode cL_law 1042 = .ok (.goto 1299, 3) := wa_167 (y := 1299) wW21 34 (by decide +kernel) (by decide +kernel)
theorem dL_law_1045 : decode cL_law 1045 = .ok (.aload_n 1, 1) := wa_43 wW21 37 (by decide +kernel)
theorem dL_law_1046 : decode cL_law 1046 = .ok (.aload_n 0, 1) := wa_42 wW21 38 (by decide +kernel)
theorem dL_law_1047 : decode cL_law 1047 = .ok (.iload 4, 2) := wa_21 wW21 39 (by decide +kernel)
theorem dL_law_1049 : decode cL_law 1049 = .ok (.iconst 1, 1) := wa_4 wW21 41 (by decide +kernel)
theorem dL_law_1050 : decode cL_law 1050 = .ok (.iadd, 1) := wa_96 wW21 42 (by decide +kernel)
theorem dL_law_1051 : decode cL_law 1051 = .ok (.iaload, 1) := wa_46 wW21 43 (by decide +kernel)
theorem dL_law_1052 : decode cL_law 1052 = .ok (.aload_n 0, 1) := wa_42 wW21 44 (by decide +kernel)
theorem dL_law_1053 : decode cL_law 1053 = .ok (.iload 4, 2) := wa_21 wW21 45 (by decide +kernel)
theorem dL_law_1055 : decode cL_law 1055 = .ok (.iconst 2, 1) := wa_5 wW21 47 (by decide +kernel)
theorem dL_law_1056 : decode cL_law 1056 = .ok (.iadd, 1) := wa_96 wW22 0 (by decide +kernel)
theorem dL_law_1057 : decode cL_law 1057 = .ok (.iaload, 1) := wa_46 wW22 1 (by decide +kernel)
theorem dL_law_1058 : decode cL_law 1058 = .ok (.aload_n 0, 1) := wa_42 wW22 2 (by decide +kernel)
theorem dL_law_1059 : decode cL_law 1059 = .ok (.iload 4, 2) := wa_21 wW22 3 (by decide +kernel)
theorem dL_law_1061 : decode cL_law 1061 = .ok (.iconst 3, 1) := wa_6 wW22 5 (by decide +kernel)
theorem dL_law_1062 : decode cL_law 1062 = .ok (.iadd, 1) := wa_96 wW22 6 (by decide +kernel)
theorem dL_law_1063 : decode cL_law 1063 = .ok (.iaload, 1) := wa_46 wW22 7 (by decide +kernel)
theorem dL_law_1064 : decode cL_law 1064 = .ok (.aload_n 0, 1) := wa_42 wW22 8 (by decide +kernel)
theorem dL_law_1065 : decode cL_law 1065 = .ok (.iload 4, 2) := wa_21 wW22 9 (by decide +kernel)
theorem dL_law_1067 : decode cL_law 1067 = .ok (.iconst 4, 1) := wa_7 wW22 11 (by decide +kernel)
theorem dL_law_1068 : decode cL_law 1068 = .ok (.iadd, 1) := wa_96 wW22 12 (by decide +kernel)
theorem dL_law_1069 : decode cL_law 1069 = .ok (.iaload, 1) := wa_46 wW22 13 (by decide +kernel)
theorem dL_law_1070 : decode cL_law 1070 = .ok (.invokevirtual 78, 3) := wa_182 wW22 14 (by decide +kernel)
theorem dL_law_1073 : decode cL_law 1073 = .ok (.pop, 1) := wa_87 wW22 17 (by decide +kernel)
theorem dL_law_1074 : decode cL_law 1074 = .ok (.aload_n 2, 1) := wa_44 wW22 18 (by decide +kernel)
theorem dL_law_1075 : decode cL_law 1075 = .ok (.aload_n 0, 1) := wa_42 wW22 19 (by decide +kernel)
theorem dL_law_1076 : decode cL_law 1076 = .ok (.iload 4, 2) := wa_21 wW22 20 (by decide +kernel)
theorem dL_law_1078 : decode cL_law 1078 = .ok (.iconst 1, 1) := wa_4 wW22 22 (by decide +kernel)
theorem dL_law_1079 : decode cL_law 1079 = .ok (.iadd, 1) := wa_96 wW22 23 (by decide +kernel)
theorem dL_law_1080 : decode cL_law 1080 = .ok (.iaload, 1) := wa_46 wW22 24 (by decide +kernel)
theorem dL_law_1081 : decode cL_law 1081 = .ok (.aload_n 0, 1) := wa_42 wW22 25 (by decide +kernel)
theorem dL_law_1082 : decode cL_law 1082 = .ok (.iload 4, 2) := wa_21 wW22 26 (by decide +kernel)
theorem dL_law_1084 : decode cL_law 1084 = .ok (.iconst 2, 1) := wa_5 wW22 28 (by decide +kernel)
theorem dL_law_1085 : decode cL_law 1085 = .ok (.iadd, 1) := wa_96 wW22 29 (by decide +kernel)
theorem dL_law_1086 : decode cL_law 1086 = .ok (.iaload, 1) := wa_46 wW22 30 (by decide +kernel)
theorem dL_law_1087 : decode cL_law 1087 = .ok (.aload_n 0, 1) := wa_42 wW22 31 (by decide +kernel)
theorem dL_law_1088 : decode cL_law 1088 = .ok (.iload 4, 2) := wa_21 wW22 32 (by decide +kernel)
theorem dL_law_1090 : decode cL_law 1090 = .ok (.iconst 3, 1) := wa_6 wW22 34 (by decide +kernel)
theorem dL_law_1091 : decode cL_law 1091 = .ok (.iadd, 1) := wa_96 wW22 35 (by decide +kernel)
theorem dL_law_1092 : decode cL_law 1092 = .ok (.iaload, 1) := wa_46 wW22 36 (by decide +kernel)
theorem dL_law_1093 : decode cL_law 1093 = .ok (.aload_n 0, 1) := wa_42 wW22 37 (by decide +kernel)
theorem dL_law_1094 : decode cL_law 1094 = .ok (.iload 4, 2) := wa_21 wW22 38 (by decide +kernel)
theorem dL_law_1096 : decode cL_law 1096 = .ok (.iconst 4, 1) := wa_7 wW22 40 (by decide +kernel)
theorem dL_law_1097 : decode cL_law 1097 = .ok (.iadd, 1) := wa_96 wW22 41 (by decide +kernel)
theorem dL_law_1098 : decode cL_law 1098 = .ok (.iaload, 1) := wa_46 wW22 42 (by decide +kernel)
theorem dL_law_1099 : decode cL_law 1099 = .ok (.invokevirtual 81, 3) := wa_182 wW22 43 (by decide +kernel)
theorem dL_law_1102 : decode cL_law 1102 = .ok (.pop, 1) := wa_87 wW22 46 (by decide +kernel)
theorem dL_law_1103 : decode cL_law 1103 = .ok (.goto 1238, 3) := wa_167 (y := 1238) wW22 47 (by decide +kernel) (by decide +kernel)
theorem dL_law_1106 : decode cL_law 1106 = .ok (.aload_n 1, 1) := wa_43 wW23 2 (by decide +kernel)
theorem dL_law_1107 : decode cL_law 1107 = .ok (.aload_n 0, 1) := wa_42 wW23 3 (by decide +kernel)
theorem dL_law_1108 : decode cL_law 1108 = .ok (.iload 4, 2) := wa_21 wW23 4 (by decide +kernel)
theorem dL_law_1110 : decode cL_law 1110 = .ok (.iconst 1, 1) := wa_4 wW23 6 (by decide +kernel)
theorem dL_law_1111 : decode cL_law 1111 = .ok (.iadd, 1) := wa_96 wW23 7 (by decide +kernel)
theorem dL_law_1112 : decode cL_law 1112 = .ok (.iaload, 1) := wa_46 wW23 8 (by decide +kernel)
theorem dL_law_1113 : decode cL_law 1113 = .ok (.aload_n 0, 1) := wa_42 wW23 9 (by decide +kernel)
theorem dL_law_1114 : decode cL_law 1114 = .ok (.iload 4, 2) := wa_21 wW23 10 (by decide +kernel)
theorem dL_law_1116 : decode cL_law 1116 = .ok (.iconst 2, 1) := wa_5 wW23 12 (by decide +kernel)
theorem dL_law_1117 : decode cL_law 1117 = .ok (.iadd, 1) := wa_96 wW23 13 (by decide +kernel)
theorem dL_law_1118 : decode cL_law 1118 = .ok (.iaload, 1) := wa_46 wW23 14 (by decide +kernel)
theorem dL_law_1119 : decode cL_law 1119 = .ok (.aload_n 0, 1) := wa_42 wW23 15 (by decide +kernel)
theorem dL_law_1120 : decode cL_law 1120 = .ok (.iload 4, 2) := wa_21 wW23 16 (by decide +kernel)
theorem dL_law_1122 : decode cL_law 1122 = .ok (.iconst 3, 1) := wa_6 wW23 18 (by decide +kernel)
theorem dL_law_1123 : decode cL_law 1123 = .ok (.iadd, 1) := wa_96 wW23 19 (by decide +kernel)
theorem dL_law_1124 : decode cL_law 1124 = .ok (.iaload, 1) := wa_46 wW23 20 (by decide +kernel)
theorem dL_law_1125 : decode cL_law 1125 = .ok (.aload_n 0, 1) := wa_42 wW23 21 (by decide +kernel)
theorem dL_law_1126 : decode cL_law 1126 = .ok (.iload 4, 2) := wa_21 wW23 22 (by decide +kernel)
theorem dL_law_1128 : decode cL_law 1128 = .ok (.iconst 4, 1) := wa_7 wW23 24 (by decide +kernel)
theorem dL_law_1129 : decode cL_law 1129 = .ok (.iadd, 1) := wa_96 wW23 25 (by decide +kernel)
theorem dL_law_1130 : decode cL_law 1130 = .ok (.iaload, 1) := wa_46 wW23 26 (by decide +kernel)
theorem dL_law_1131 : decode cL_law 1131 = .ok (.ifCond .eq 7, 3) := wa_153 (y := 7) wW23 27 (by decide +kernel) (by decide +kernel)
theorem dL_law_1134 : decode cL_law 1134 = .ok (.iconst 1, 1) := wa_4 wW23 30 (by decide +kernel)
theorem dL_law_1135 : decode cL_law 1135 = .ok (.goto 4, 3) := wa_167 (y := 4) wW23 31 (by decide +kernel) (by decide +kernel)
theorem dL_law_1138 : decode cL_law 1138 = .ok (.iconst 0, 1) := wa_3 wW23 34 (by decide +kernel)
theorem dL_law_1139 : decode cL_law 1139 = .ok (.invokevirtual 82, 3) := wa_182 wW23 35 (by decide +kernel)
theorem dL_law_1142 : decode cL_law 1142 = .ok (.pop2, 1) := wa_88 wW23 38 (by decide +kernel)
theorem dL_law_1143 : decode cL_law 1143 = .ok (.aload_n 2, 1) := wa_44 wW23 39 (by decide +kernel)
theorem dL_law_1144 : decode cL_law 1144 = .ok (.aload_n 0, 1) := wa_42 wW23 40 (by decide +kernel)
theorem dL_law_1145 : decode cL_law 1145 = .ok (.iload 4, 2) := wa_21 wW23 41 (by decide +kernel)
theorem dL_law_1147 : decode cL_law 1147 = .ok (.iconst 1, 1) := wa_4 wW23 43 (by decide +kernel)
theorem dL_law_1148 : decode cL_law 1148 = .ok (.iadd, 1) := wa_96 wW23 44 (by decide +kernel)
theorem dL_law_1149 : decode cL_law 1149 = .ok (.iaload, 1) := wa_46 wW23 45 (by decide +kernel)
theorem dL_law_1150 : decode cL_law 1150 = .ok (.aload_n 0, 1) := wa_42 wW23 46 (by decide +kernel)
theorem dL_law_1151 : decode cL_law 1151 = .ok (.iload 4, 2) := wa_21 wW23 47 (by decide +kernel)
theorem dL_law_1153 : decode cL_law 1153 = .ok (.iconst 2, 1) := wa_5 wW24 1 (by decide +kernel)
theorem dL_law_1154 : decode cL_law 1154 = .ok (.iadd, 1) := wa_96 wW24 2 (by decide +kernel)
theorem dL_law_1155 : decode cL_law 1155 = .ok (.iaload, 1) := wa_46 wW24 3 (by decide +kernel)
theorem dL_law_1156 : decode cL_law 1156 = .ok (.aload_n 0, 1) := wa_42 wW24 4 (by decide +kernel)
theorem dL_law_1157 : decode cL_law 1157 = .ok (.iload 4, 2) := wa_21 wW24 5 (by decide +kernel)
theorem dL_law_1159 : decode cL_law 1159 = .ok (.iconst 3, 1) := wa_6 wW24 7 (by decide +kernel)
theorem dL_law_1160 : decode cL_law 1160 = .ok (.iadd, 1) := wa_96 wW24 8 (by decide +kernel)
theorem dL_law_1161 : decode cL_law 1161 = .ok (.iaload, 1) := wa_46 wW24 9 (by decide +kernel)
theorem dL_law_1162 : decode cL_law 1162 = .ok (.aload_n 0, 1) := wa_42 wW24 10 (by decide +kernel)
theorem dL_law_1163 : decode cL_law 1163 = .ok (.iload 4, 2) := wa_21 wW24 11 (by decide +kernel)
theorem dL_law_1165 : decode cL_law 1165 = .ok (.iconst 4, 1) := wa_7 wW24 13 (by decide +kernel)
theorem dL_law_1166 : decode cL_law 1166 = .ok (.iadd, 1) := wa_96 wW24 14 (by decide +kernel)
theorem dL_law_1167 : decode cL_law 1167 = .ok (.iaload, 1) := wa_46 wW24 15 (by decide +kernel)
theorem dL_law_1168 : decode cL_law 1168 = .ok (.ifCond .eq 7, 3) := wa_153 (y := 7) wW24 16 (by decide +kernel) (by decide +kernel)
theorem dL_law_1171 : decode cL_law 1171 = .ok (.iconst 1, 1) := wa_4 wW24 19 (by decide +kernel)
theorem dL_law_1172 : decode cL_law 1172 = .ok (.goto 4, 3) := wa_167 (y := 4) wW24 20 (by decide +kernel) (by decide +kernel)
theorem dL_law_1175 : decode cL_law 1175 = .ok (.iconst 0, 1) := wa_3 wW24 23 (by decide +kernel)
theorem dL_law_1176 : decode cL_law 1176 = .ok (.invokevirtual 86, 3) := wa_182 wW24 24 (by decide +kernel)
theorem dL_law_1179 : decode cL_law 1179 = .ok (.pop2, 1) := wa_88 wW24 27 (by decide +kernel)
theorem dL_law_1180 : decode cL_law 1180 = .ok (.goto 1161, 3) := wa_167 (y := 1161) wW24 28 (by decide +kernel) (by decide +kernel)
theorem dL_law_1183 : decode cL_law 1183 = .ok (.aload_n 1, 1) := wa_43 wW24 31 (by decide +kernel)
theorem dL_law_1184 : decode cL_law 1184 = .ok (.aload_n 0, 1) := wa_42 wW24 32 (by decide +kernel)
theorem dL_law_1185 : decode cL_law 1185 = .ok (.iload 4, 2) := wa_21 wW24 33 (by decide +kernel)
theorem dL_law_1187 : decode cL_law 1187 = .ok (.iconst 1, 1) := wa_4 wW24 35 (by decide +kernel)
theorem dL_law_1188 : decode cL_law 1188 = .ok (.iadd, 1) := wa_96 wW24 36 (by decide +kernel)
theorem dL_law_1189 : decode cL_law 1189 = .ok (.iaload, 1) := wa_46 wW24 37 (by decide +kernel)
theorem dL_law_1190 : decode cL_law 1190 = .ok (.aload_n 0, 1) := wa_42 wW24 38 (by decide +kernel)
theorem dL_law_1191 : decode cL_law 1191 = .ok (.iload 4, 2) := wa_21 wW24 39 (by decide +kernel)
theorem dL_law_1193 : decode cL_law 1193 = .ok (.iconst 2, 1) := wa_5 wW24 41 (by decide +kernel)
theorem dL_law_1194 : decode cL_law 1194 = .ok (.iadd, 1) := wa_96 wW24 42 (by decide +kernel)
theorem dL_law_1195 : decode cL_law 1195 = .ok (.iaload, 1) := wa_46 wW24 43 (by decide +kernel)
theorem dL_law_1196 : decode cL_law 1196 = .ok (.aload_n 0, 1) := wa_42 wW24 44 (by decide +kernel)
theorem dL_law_1197 : decode cL_law 1197 = .ok (.iload 4, 2) := wa_21 wW24 45 (by decide +kernel)
theorem dL_law_1199 : decode cL_law 1199 = .ok (.iconst 3, 1) := wa_6 wW24 47 (by decide +kernel)
theorem dL_law_1200 : decode cL_law 1200 = .ok (.iadd, 1) := wa_96 wW25 0 (by decide +kernel)
theorem dL_law_1201 : decode cL_law 1201 = .ok (.iaload, 1) := wa_46 wW25 1 (by decide +kernel)
theorem dL_law_1202 : decode cL_law 1202 = .ok (.invokevirtual 87, 3) := wa_182 wW25 2 (by decide +kernel)
theorem dL_law_1205 : decode cL_law 1205 = .ok (.pop, 1) := wa_87 wW25 5 (by decide +kernel)
theorem dL_law_1206 : decode cL_law 1206 = .ok (.aload_n 2, 1) := wa_44 wW25 6 (by decide +kernel)
theorem dL_law_1207 : decode cL_law 1207 = .ok (.aload_n 0, 1) := wa_42 wW25 7 (by decide +kernel)
theorem dL_law_1208 : decode cL_law 1208 = .ok (.iload 4, 2) := wa_21 wW25 8 (by decide +kernel)
theorem dL_law_1210 : decode cL_law 1210 = .ok (.iconst 1, 1) := wa_4 wW25 10 (by decide +kernel)
theorem dL_law_1211 : decode cL_law 1211 = .ok (.iadd, 1) := wa_96 wW25 11 (by decide +kernel)
theorem dL_law_1212 : decode cL_law 1212 = .ok (.iaload, 1) := wa_46 wW25 12 (by decide +kernel)
theorem dL_law_1213 : decode cL_law 1213 = .ok (.aload_n 0, 1) := wa_42 wW25 13 (by decide +kernel)
theorem dL_law_1214 : decode cL_law 1214 = .ok (.iload 4, 2) := wa_21 wW25 14 (by decide +kernel)
theorem dL_law_1216 : decode cL_law 1216 = .ok (.iconst 2, 1) := wa_5 wW25 16 (by decide +kernel)
theorem dL_law_1217 : decode cL_law 1217 = .ok (.iadd, 1) := wa_96 wW25 17 (by decide +kernel)
theorem dL_law_1218 : decode cL_law 1218 = .ok (.iaload, 1) := wa_46 wW25 18 (by decide +kernel)
theorem dL_law_1219 : decode cL_law 1219 = .ok (.aload_n 0, 1) := wa_42 wW25 19 (by decide +kernel)
theorem dL_law_1220 : decode cL_law 1220 = .ok (.iload 4, 2) := wa_21 wW25 20 (by decide +kernel)
theorem dL_law_1222 : decode cL_law 1222 = .ok (.iconst 3, 1) := wa_6 wW25 22 (by decide +kernel)
theorem dL_law_1223 : decode cL_law 1223 = .ok (.iadd, 1) := wa_96 wW25 23 (by decide +kernel)
theorem dL_law_1224 : decode cL_law 1224 = .ok (.iaload, 1) := wa_46 wW25 24 (by decide +kernel)
theorem dL_law_1225 : decode cL_law 1225 = .ok (.invokevirtual 90, 3) := wa_182 wW25 25 (by decide +kernel)
theorem dL_law_1228 : decode cL_law 1228 = .ok (.pop, 1) := wa_87 wW25 28 (by decide +kernel)
theorem dL_law_1229 : decode cL_law 1229 = .ok (.goto 1112, 3) := wa_167 (y := 1112) wW25 29 (by decide +kernel) (by decide +kernel)
theorem dL_law_1232 : decode cL_law 1232 = .ok (.aload_n 1, 1) := wa_43 wW25 32 (by decide +kernel)
theorem dL_law_1233 : decode cL_law 1233 = .ok (.aload_n 0, 1) := wa_42 wW25 33 (by decide +kernel)
theorem dL_law_1234 : decode cL_law 1234 = .ok (.iload 4, 2) := wa_21 wW25 34 (by decide +kernel)
theorem dL_law_1236 : decode cL_law 1236 = .ok (.iconst 1, 1) := wa_4 wW25 36 (by decide +kernel)
theorem dL_law_1237 : decode cL_law 1237 = .ok (.iadd, 1) := wa_96 wW25 37 (by decide +kernel)
theorem dL_law_1238 : decode cL_law 1238 = .ok (.iaload, 1) := wa_46 wW25 38 (by decide +kernel)
theorem dL_law_1239 : decode cL_law 1239 = .ok (.aload_n 0, 1) := wa_42 wW25 39 (by decide +kernel)
theorem dL_law_1240 : decode cL_law 1240 = .ok (.iload 4, 2) := wa_21 wW25 40 (by decide +kernel)
theorem dL_law_1242 : decode cL_law 1242 = .ok (.iconst 2, 1) := wa_5 wW25 42 (by decide +kernel)
theorem dL_law_1243 : decode cL_law 1243 = .ok (.iadd, 1) := wa_96 wW25 43 (by decide +kernel)
theorem dL_law_1244 : decode cL_law 1244 = .ok (.iaload, 1) := wa_46 wW25 44 (by decide +kernel)
theorem dL_law_1245 : decode cL_law 1245 = .ok (.aload_n 0, 1) := wa_42 wW25 45 (by decide +kernel)
theorem dL_law_1246 : decode cL_law 1246 = .ok (.iload 4, 2) := wa_21 wW25 46 (by decide +kernel)
theorem dL_law_1248 : decode cL_law 1248 = .ok (.iconst 3, 1) := wa_6 wW26 0 (by decide +kernel)
theorem dL_law_1249 : decode cL_law 1249 = .ok (.iadd, 1) := wa_96 wW26 1 (by decide +kernel)
theorem dL_law_1250 : decode cL_law 1250 = .ok (.iaload, 1) := wa_46 wW26 2 (by decide +kernel)
theorem dL_law_1251 : decode cL_law 1251 = .ok (.aload_n 0, 1) := wa_42 wW26 3 (by decide +kernel)
theorem dL_law_1252 : decode cL_law 1252 = .ok (.iload 4, 2) := wa_21 wW26 4 (by decide +kernel)
theorem dL_law_1254 : decode cL_law 1254 = .ok (.iconst 4, 1) := wa_7 wW26 6 (by decide +kernel)
theorem dL_law_1255 : decode cL_law 1255 = .ok (.iadd, 1) := wa_96 wW26 7 (by decide +kernel)
theorem dL_law_1256 : decode cL_law 1256 = .ok (.iaload, 1) := wa_46 wW26 8 (by decide +kernel)
theorem dL_law_1257 : decode cL_law 1257 = .ok (.aload_n 0, 1) := wa_42 wW26 9 (by decide +kernel)
theorem dL_law_1258 : decode cL_law 1258 = .ok (.iload 4, 2) := wa_21 wW26 10 (by decide +kernel)
theorem dL_law_1260 : decode cL_law 1260 = .ok (.iconst 5, 1) := wa_8 wW26 12 (by decide +kernel)
theorem dL_law_1261 : decode cL_law 1261 = .ok (.iadd, 1) := wa_96 wW26 13 (by decide +kernel)
theorem dL_law_1262 : decode cL_law 1262 = .ok (.iaload, 1) := wa_46 wW26 14 (by decide +kernel)
theorem dL_law_1263 : decode cL_law 1263 = .ok (.aload_n 0, 1) := wa_42 wW26 15 (by decide +kernel)
theorem dL_law_1264 : decode cL_law 1264 = .ok (.iload 4, 2) := wa_21 wW26 16 (by decide +kernel)
theorem dL_law_1266 : decode cL_law 1266 = .ok (.bipush 6, 2) := wa_16 (y := 6) wW26 18 (by decide +kernel) (by decide +kernel)
theorem dL_law_1268 : decode cL_law 1268 = .ok (.iadd, 1) := wa_96 wW26 20 (by decide +kernel)
theorem dL_law_1269 : decode cL_law 1269 = .ok (.iaload, 1) := wa_46 wW26 21 (by decide +kernel)
theorem dL_law_1270 : decode cL_law 1270 = .ok (.aload_n 0, 1) := wa_42 wW26 22 (by decide +kernel)
theorem dL_law_1271 : decode cL_law 1271 = .ok (.iload 4, 2) := wa_21 wW26 23 (by decide +kernel)
theorem dL_law_1273 : decode cL_law 1273 = .ok (.bipush 7, 2) := wa_16 (y := 7) wW26 25 (by decide +kernel) (by decide +kernel)
theorem dL_law_1275 : decode cL_law 1275 = .ok (.iadd, 1) := wa_96 wW26 27 (by decide +kernel)
theorem dL_law_1276 : decode cL_law 1276 = .ok (.iaload, 1) := wa_46 wW26 28 (by decide +kernel)
theorem dL_law_1277 : decode cL_law 1277 = .ok (.ifCond .eq 7, 3) := wa_153 (y := 7) wW26 29 (by decide +kernel) (by decide +kernel)
theorem dL_law_1280 : decode cL_law 1280 = .ok (.iconst 1, 1) := wa_4 wW26 32 (by decide +kernel)
theorem dL_law_1281 : decode cL_law 1281 = .ok (.goto 4, 3) := wa_167 (y := 4) wW26 33 (by decide +kernel) (by decide +kernel)
theorem dL_law_1284 : decode cL_law 1284 = .ok (.iconst 0, 1) := wa_3 wW26 36 (by decide +kernel)
theorem dL_law_1285 : decode cL_law 1285 = .ok (.invokevirtual 91, 3) := wa_182 wW26 37 (by decide +kernel)
theorem dL_law_1288 : decode cL_law 1288 = .ok (.pop2, 1) := wa_88 wW26 40 (by decide +kernel)
theorem dL_law_1289 : decode cL_law 1289 = .ok (.aload_n 2, 1) := wa_44 wW26 41 (by decide +kernel)
theorem dL_law_1290 : decode cL_law 1290 = .ok (.aload_n 0, 1) := wa_42 wW26 42 (by decide +kernel)
theorem dL_law_1291 : decode cL_law 1291 = .ok (.iload 4, 2) := wa_21 wW26 43 (by decide +kernel)
theorem dL_law_1293 : decode cL_law 1293 = .ok (.iconst 1, 1) := wa_4 wW26 45 (by decide +kernel)
theorem dL_law_1294 : decode cL_law 1294 = .ok (.iadd, 1) := wa_96 wW26 46 (by decide +kernel)
theorem dL_law_1295 : decode cL_law 1295 = .ok (.iaload, 1) := wa_46 wW26 47 (by decide +kernel)
theorem dL_law_1296 : decode cL_law 1296 = .ok (.aload_n 0, 1) := wa_42 wW27 0 (by decide +kernel)
theorem dL_law_1297 : decode cL_law 1297 = .ok (.iload 4, 2) := wa_21 wW27 1 (by decide +kernel)
theorem dL_law_1299 : decode cL_law 1299 = .ok (.iconst 2, 1) := wa_5 wW27 3 (by decide +kernel)
theorem dL_law_1300 : decode cL_law 1300 = .ok (.iadd, 1) := wa_96 wW27 4 (by decide +kernel)
theorem dL_law_1301 : decode cL_law 1301 = .ok (.iaload, 1) := wa_46 wW27 5 (by decide +kernel)
theorem dL_law_1302 : decode cL_law 1302 = .ok (.aload_n 0, 1) := wa_42 wW27 6 (by decide +kernel)
theorem dL_law_1303 : decode cL_law 1303 = .ok (.iload 4, 2) := wa_21 wW27 7 (by decide +kernel)
theorem dL_law_1305 : decode cL_law 1305 = .ok (.iconst 3, 1) := wa_6 wW27 9 (by decide +kernel)
theorem dL_law_1306 : decode cL_law 1306 = .ok (.iadd, 1) := wa_96 wW27 10 (by decide +kernel)
theorem dL_law_1307 : decode cL_law 1307 = .ok (.iaload, 1) := wa_46 wW27 11 (by decide +kernel)
theorem dL_law_1308 : decode cL_law 1308 = .ok (.aload_n 0, 1) := wa_42 wW27 12 (by decide +kernel)
theorem dL_law_1309 : decode cL_law 1309 = .ok (.iload 4, 2) := wa_21 wW27 13 (by decide +kernel)
theorem dL_law_1311 : decode cL_law 1311 = .ok (.iconst 4, 1) := wa_7 wW27 15 (by decide +kernel)
theorem dL_law_1312 : decode cL_law 1312 = .ok (.iadd, 1) := wa_96 wW27 16 (by decide +kernel)
theorem dL_law_1313 : decode cL_law 1313 = .ok (.iaload, 1) := wa_46 wW27 17 (by decide +kernel)
theorem dL_law_1314 : decode cL_law 1314 = .ok (.aload_n 0, 1) := wa_42 wW27 18 (by decide +kernel)
theorem dL_law_1315 : decode cL_law 1315 = .ok (.iload 4, 2) := wa_21 wW27 19 (by decide +kernel)
theorem dL_law_1317 : decode cL_law 1317 = .ok (.iconst 5, 1) := wa_8 wW27 21 (by decide +kernel)
theorem dL_law_1318 : decode cL_law 1318 = .ok (.iadd, 1) := wa_96 wW27 22 (by decide +kernel)
theorem dL_law_1319 : decode cL_law 1319 = .ok (.iaload, 1) := wa_46 wW27 23 (by decide +kernel)
theorem dL_law_1320 : decode cL_law 1320 = .ok (.aload_n 0, 1) := wa_42 wW27 24 (by decide +kernel)
theorem dL_law_1321 : decode cL_law 1321 = .ok (.iload 4, 2) := wa_21 wW27 25 (by decide +kernel)
theorem dL_law_1323 : decode cL_law 1323 = .ok (.bipush 6, 2) := wa_16 (y := 6) wW27 27 (by decide +kernel) (by decide +kernel)
theorem dL_law_1325 : decode cL_law 1325 = .ok (.iadd, 1) := wa_96 wW27 29 (by decide +kernel)
theorem dL_law_1326 : decode cL_law 1326 = .ok (.iaload, 1) := wa_46 wW27 30 (by decide +kernel)
theorem dL_law_1327 : decode cL_law 1327 = .ok (.aload_n 0, 1) := wa_42 wW27 31 (by decide +kernel)
theorem dL_law_1328 : decode cL_law 1328 = .ok (.iload 4, 2) := wa_21 wW27 32 (by decide +kernel)
theorem dL_law_1330 : decode cL_law 1330 = .ok (.bipush 7, 2) := wa_16 (y := 7) wW27 34 (by decide +kernel) (by decide +kernel)
theorem dL_law_1332 : decode cL_law 1332 = .ok (.iadd, 1) := wa_96 wW27 36 (by decide +kernel)
theorem dL_law_1333 : decode cL_law 1333 = .ok (.iaload, 1) := wa_46 wW27 37 (by decide +kernel)
theorem dL_law_1334 : decode cL_law 1334 = .ok (.ifCond .eq 7, 3) := wa_153 (y := 7) wW27 38 (by decide +kernel) (by decide +kernel)
theorem dL_law_1337 : decode cL_law 1337 = .ok (.iconst 1, 1) := wa_4 wW27 41 (by decide +kernel)
theorem dL_law_1338 : decode cL_law 1338 = .ok (.goto 4, 3) := wa_167 (y := 4) wW27 42 (by decide +kernel) (by decide +kernel)
theorem dL_law_1341 : decode cL_law 1341 = .ok (.iconst 0, 1) := wa_3 wW27 45 (by decide +kernel)
theorem dL_law_1342 : decode cL_law 1342 = .ok (.invokevirtual 94, 3) := wa_182 wW27 46 (by decide +kernel)
theorem dL_law_1345 : decode cL_law 1345 = .ok (.pop2, 1) := wa_88 wW28 1 (by decide +kernel)
theorem dL_law_1346 : decode cL_law 1346 = .ok (.goto 995, 3) := wa_167 (y := 995) wW28 2 (by decide +kernel) (by decide +kernel)
theorem dL_law_1349 : decode cL_law 1349 = .ok (.aload_n 1, 1) := wa_43 wW28 5 (by decide +kernel)
theorem dL_law_1350 : decode cL_law 1350 = .ok (.aload_n 0, 1) := wa_42 wW28 6 (by decide +kernel)
theorem dL_law_1351 : decode cL_law 1351 = .ok (.iload 4, 2) := wa_21 wW28 7 (by decide +kernel)
theorem dL_law_1353 : decode cL_law 1353 = .ok (.iconst 1, 1) := wa_4 wW28 9 (by decide +kernel)
theorem dL_law_1354 : decode cL_law 1354 = .ok (.iadd, 1) := wa_96 wW28 10 (by decide +kernel)
theorem dL_law_1355 : decode cL_law 1355 = .ok (.iaload, 1) := wa_46 wW28 11 (by decide +kernel)
theorem dL_law_1356 : decode cL_law 1356 = .ok (.aload_n 0, 1) := wa_42 wW28 12 (by decide +kernel)
theorem dL_law_1357 : decode cL_law 1357 = .ok (.iload 4, 2) := wa_21 wW28 13 (by decide +kernel)
theorem dL_law_1359 : decode cL_law 1359 = .ok (.iconst 2, 1) := wa_5 wW28 15 (by decide +kernel)
theorem dL_law_1360 : decode cL_law 1360 = .ok (.iadd, 1) := wa_96 wW28 16 (by decide +kernel)
theorem dL_law_1361 : decode cL_law 1361 = .ok (.iaload, 1) := wa_46 wW28 17 (by decide +kernel)
theorem dL_law_1362 : decode cL_law 1362 = .ok (.aload_n 0, 1) := wa_42 wW28 18 (by decide +kernel)
theorem dL_law_1363 : decode cL_law 1363 = .ok (.iload 4, 2) := wa_21 wW28 19 (by decide +kernel)
theorem dL_law_1365 : decode cL_law 1365 = .ok (.iconst 3, 1) := wa_6 wW28 21 (by decide +kernel)
theorem dL_law_1366 : decode cL_law 1366 = .ok (.iadd, 1) := wa_96 wW28 22 (by decide +kernel)
theorem dL_law_1367 : decode cL_law 1367 = .ok (.iaload, 1) := wa_46 wW28 23 (by decide +kernel)
theorem dL_law_1368 : decode cL_law 1368 = .ok (.aload_n 0, 1) := wa_42 wW28 24 (by decide +kernel)
theorem dL_law_1369 : decode cL_law 1369 = .ok (.iload 4, 2) := wa_21 wW28 25 (by decide +kernel)
theorem dL_law_1371 : decode cL_law 1371 = .ok (.iconst 4, 1) := wa_7 wW28 27 (by decide +kernel)
theorem dL_law_1372 : decode cL_law 1372 = .ok (.iadd, 1) := wa_96 wW28 28 (by decide +kernel)
theorem dL_law_1373 : decode cL_law 1373 = .ok (.iaload, 1) := wa_46 wW28 29 (by decide +kernel)
theorem dL_law_1374 : decode cL_law 1374 = .ok (.aload_n 0, 1) := wa_42 wW28 30 (by decide +kernel)
theorem dL_law_1375 : decode cL_law 1375 = .ok (.iload 4, 2) := wa_21 wW28 31 (by decide +kernel)
theorem dL_law_1377 : decode cL_law 1377 = .ok (.iconst 5, 1) := wa_8 wW28 33 (by decide +kernel)
theorem dL_law_1378 : decode cL_law 1378 = .ok (.iadd, 1) := wa_96 wW28 34 (by decide +kernel)
theorem dL_law_1379 : decode cL_law 1379 = .ok (.iaload, 1) := wa_46 wW28 35 (by decide +kernel)
theorem dL_law_1380 : decode cL_law 1380 = .ok (.aload_n 0, 1) := wa_42 wW28 36 (by decide +kernel)
theorem dL_law_1381 : decode cL_law 1381 = .ok (.iload 4, 2) := wa_21 wW28 37 (by decide +kernel)
theorem dL_law_1383 : decode cL_law 1383 = .ok (.bipush 6, 2) := wa_16 (y := 6) wW28 39 (by decide +kernel) (by decide +kernel)
theorem dL_law_1385 : decode cL_law 1385 = .ok (.iadd, 1) := wa_96 wW28 41 (by decide +kernel)
theorem dL_law_1386 : decode cL_law 1386 = .ok (.iaload, 1) := wa_46 wW28 42 (by decide +kernel)
theorem dL_law_1387 : decode cL_law 1387 = .ok (.invokevirtual 95, 3) := wa_182 wW28 43 (by decide +kernel)
theorem dL_law_1390 : decode cL_law 1390 = .ok (.aload_n 2, 1) := wa_44 wW28 46 (by decide +kernel)
theorem dL_law_1391 : decode cL_law 1391 = .ok (.aload_n 0, 1) := wa_42 wW28 47 (by decide +kernel)
theorem dL_law_1392 : decode cL_law 1392 = .ok (.iload 4, 2) := wa_21 wW29 0 (by decide +kernel)
theorem dL_law_1394 : decode cL_law 1394 = .ok (.iconst 1, 1) := wa_4 wW29 2 (by decide +kernel)
theorem dL_law_1395 : decode cL_law 1395 = .ok (.iadd, 1) := wa_96 wW29 3 (by decide +kernel)
theorem dL_law_1396 : decode cL_law 1396 = .ok (.iaload, 1) := wa_46 wW29 4 (by decide +kernel)
theorem dL_law_1397 : decode cL_law 1397 = .ok (.aload_n 0, 1) := wa_42 wW29 5 (by decide +kernel)
theorem dL_law_1398 : decode cL_law 1398 = .ok (.iload 4, 2) := wa_21 wW29 6 (by decide +kernel)
theorem dL_law_1400 : decode cL_law 1400 = .ok (.iconst 2, 1) := wa_5 wW29 8 (by decide +kernel)
theorem dL_law_1401 : decode cL_law 1401 = .ok (.iadd, 1) := wa_96 wW29 9 (by decide +kernel)
theorem dL_law_1402 : decode cL_law 1402 = .ok (.iaload, 1) := wa_46 wW29 10 (by decide +kernel)
theorem dL_law_1403 : decode cL_law 1403 = .ok (.aload_n 0, 1) := wa_42 wW29 11 (by decide +kernel)
theorem dL_law_1404 : decode cL_law 1404 = .ok (.iload 4, 2) := wa_21 wW29 12 (by decide +kernel)
theorem dL_law_1406 : decode cL_law 1406 = .ok (.iconst 3, 1) := wa_6 wW29 14 (by decide +kernel)
theorem dL_law_1407 : decode cL_law 1407 = .ok (.iadd, 1) := wa_96 wW29 15 (by decide +kernel)
theorem dL_law_1408 : decode cL_law 1408 = .ok (.iaload, 1) := wa_46 wW29 16 (by decide +kernel)
theorem dL_law_1409 : decode cL_law 1409 = .ok (.aload_n 0, 1) := wa_42 wW29 17 (by decide +kernel)
theorem dL_law_1410 : decode cL_law 1410 = .ok (.iload 4, 2) := wa_21 wW29 18 (by decide +kernel)
theorem dL_law_1412 : decode cL_law 1412 = .ok (.iconst 4, 1) := wa_7 wW29 20 (by decide +kernel)
theorem dL_law_1413 : decode cL_law 1413 = .ok (.iadd, 1) := wa_96 wW29 21 (by decide +kernel)
theorem dL_law_1414 : decode cL_law 1414 = .ok (.iaload, 1) := wa_46 wW29 22 (by decide +kernel)
theorem dL_law_1415 : decode cL_law 1415 = .ok (.aload_n 0, 1) := wa_42 wW29 23 (by decide +kernel)
theorem dL_law_1416 : decode cL_law 1416 = .ok (.iload 4, 2) := wa_21 wW29 24 (by decide +kernel)
theorem dL_law_1418 : decode cL_law 1418 = .ok (.iconst 5, 1) := wa_8 wW29 26 (by decide +kernel)
theorem dL_law_1419 : decode cL_law 1419 = .ok (.iadd, 1) := wa_96 wW29 27 (by decide +kernel)
theorem dL_law_1420 : decode cL_law 1420 = .ok (.iaload, 1) := wa_46 wW29 28 (by decide +kernel)
theorem dL_law_1421 : decode cL_law 1421 = .ok (.aload_n 0, 1) := wa_42 wW29 29 (by decide +kernel)
theorem dL_law_1422 : decode cL_law 1422 = .ok (.iload 4, 2) := wa_21 wW29 30 (by decide +kernel)
theorem dL_law_1424 : decode cL_law 1424 = .ok (.bipush 6, 2) := wa_16 (y := 6) wW29 32 (by decide +kernel) (by decide +kernel)
theorem dL_law_1426 : decode cL_law 1426 = .ok (.iadd, 1) := wa_96 wW29 34 (by decide +kernel)
theorem dL_law_1427 : decode cL_law 1427 = .ok (.iaload, 1) := wa_46 wW29 35 (by decide +kernel)
theorem dL_law_1428 : decode cL_law 1428 = .ok (.invokevirtual 99, 3) := wa_182 wW29 36 (by decide +kernel)
theorem dL_law_1431 : decode cL_law 1431 = .ok (.if_icmp .eq 910, 3) := wa_159 (y := 910) wW29 39 (by decide +kernel) (by decide +kernel)
theorem dL_law_1434 : decode cL_law 1434 = .ok (.iconst 0, 1) := wa_3 wW29 42 (by decide +kernel)
theorem dL_law_1435 : decode cL_law 1435 = .ok (.ireturn, 1) := wa_172 wW29 43 (by decide +kernel)
theorem dL_law_1436 : decode cL_law 1436 = .ok (.aload_n 1, 1) := wa_43 wW29 44 (by decide +kernel)
theorem dL_law_1437 : decode cL_law 1437 = .ok (.aload_n 0, 1) := wa_42 wW29 45 (by decide +kernel)
theorem dL_law_1438 : decode cL_law 1438 = .ok (.iload 4, 2) := wa_21 wW29 46 (by decide +kernel)
theorem dL_law_1440 : decode cL_law 1440 = .ok (.iconst 1, 1) := wa_4 wW30 0 (by decide +kernel)
theorem dL_law_1441 : decode cL_law 1441 = .ok (.iadd, 1) := wa_96 wW30 1 (by decide +kernel)
theorem dL_law_1442 : decode cL_law 1442 = .ok (.iaload, 1) := wa_46 wW30 2 (by decide +kernel)
theorem dL_law_1443 : decode cL_law 1443 = .ok (.aload_n 0, 1) := wa_42 wW30 3 (by decide +kernel)
theorem dL_law_1444 : decode cL_law 1444 = .ok (.iload 4, 2) := wa_21 wW30 4 (by decide +kernel)
theorem dL_law_1446 : decode cL_law 1446 = .ok (.iconst 2, 1) := wa_5 wW30 6 (by decide +kernel)
theorem dL_law_1447 : decode cL_law 1447 = .ok (.iadd, 1) := wa_96 wW30 7 (by decide +kernel)
theorem dL_law_1448 : decode cL_law 1448 = .ok (.iaload, 1) := wa_46 wW30 8 (by decide +kernel)
theorem dL_law_1449 : decode cL_law 1449 = .ok (.aload_n 0, 1) := wa_42 wW30 9 (by decide +kernel)
theorem dL_law_1450 : decode cL_law 1450 = .ok (.iload 4, 2) := wa_21 wW30 10 (by decide +kernel)
theorem dL_law_1452 : decode cL_law 1452 = .ok (.iconst 3, 1) := wa_6 wW30 12 (by decide +kernel)
theorem dL_law_1453 : decode cL_law 1453 = .ok (.iadd, 1) := wa_96 wW30 13 (by decide +kernel)
theorem dL_law_1454 : decode cL_law 1454 = .ok (.iaload, 1) := wa_46 wW30 14 (by decide +kernel)
theorem dL_law_1455 : decode cL_law 1455 = .ok (.aload_n 0, 1) := wa_42 wW30 15 (by decide +kernel)
theorem dL_law_1456 : decode cL_law 1456 = .ok (.iload 4, 2) := wa_21 wW30 16 (by decide +kernel)
theorem dL_law_1458 : decode cL_law 1458 = .ok (.iconst 4, 1) := wa_7 wW30 18 (by decide +kernel)
theorem dL_law_1459 : decode cL_law 1459 = .ok (.iadd, 1) := wa_96 wW30 19 (by decide +kernel)
theorem dL_law_1460 : decode cL_law 1460 = .ok (.iaload, 1) := wa_46 wW30 20 (by decide +kernel)
theorem dL_law_1461 : decode cL_law 1461 = .ok (.aload_n 0, 1) := wa_42 wW30 21 (by decide +kernel)
theorem dL_law_1462 : decode cL_law 1462 = .ok (.iload 4, 2) := wa_21 wW30 22 (by decide +kernel)
theorem dL_law_1464 : decode cL_law 1464 = .ok (.iconst 5, 1) := wa_8 wW30 24 (by decide +kernel)
theorem dL_law_1465 : decode cL_law 1465 = .ok (.iadd, 1) := wa_96 wW30 25 (by decide +kernel)
theorem dL_law_1466 : decode cL_law 1466 = .ok (.iaload, 1) := wa_46 wW30 26 (by decide +kernel)
theorem dL_law_1467 : decode cL_law 1467 = .ok (.aload_n 0, 1) := wa_42 wW30 27 (by decide +kernel)
theorem dL_law_1468 : decode cL_law 1468 = .ok (.iload 4, 2) := wa_21 wW30 28 (by decide +kernel)
theorem dL_law_1470 : decode cL_law 1470 = .ok (.bipush 6, 2) := wa_16 (y := 6) wW30 30 (by decide +kernel) (by decide +kernel)
theorem dL_law_1472 : decode cL_law 1472 = .ok (.iadd, 1) := wa_96 wW30 32 (by decide +kernel)
theorem dL_law_1473 : decode cL_law 1473 = .ok (.iaload, 1) := wa_46 wW30 33 (by decide +kernel)
theorem dL_law_1474 : decode cL_law 1474 = .ok (.ifCond .eq 7, 3) := wa_153 (y := 7) wW30 34 (by decide +kernel) (by decide +kernel)
theorem dL_law_1477 : decode cL_law 1477 = .ok (.iconst 1, 1) := wa_4 wW30 37 (by decide +kernel)
theorem dL_law_1478 : decode cL_law 1478 = .ok (.goto 4, 3) := wa_167 (y := 4) wW30 38 (by decide +kernel) (by decide +kernel)
theorem dL_law_1481 : decode cL_law 1481 = .ok (.iconst 0, 1) := wa_3 wW30 41 (by decide +kernel)
theorem dL_law_1482 : decode cL_law 1482 = .ok (.invokevirtual 100, 3) := wa_182 wW30 42 (by decide +kernel)
theorem dL_law_1485 : decode cL_law 1485 = .ok (.pop2, 1) := wa_88 wW30 45 (by decide +kernel)
theorem dL_law_1486 : decode cL_law 1486 = .ok (.aload_n 2, 1) := wa_44 wW30 46 (by decide +kernel)
theorem dL_law_1487 : decode cL_law 1487 = .ok (.aload_n 0, 1) := wa_42 wW30 47 (by decide +kernel)
theorem dL_law_1488 : decode cL_law 1488 = .ok (.iload 4, 2) := wa_21 wW31 0 (by decide +kernel)
theorem dL_law_1490 : decode cL_law 1490 = .ok (.iconst 1, 1) := wa_4 wW31 2 (by decide +kernel)
theorem dL_law_1491 : decode cL_law 1491 = .ok (.iadd, 1) := wa_96 wW31 3 (by decide +kernel)
theorem dL_law_1492 : decode cL_law 1492 = .ok (.iaload, 1) := wa_46 wW31 4 (by decide +kernel)
theorem dL_law_1493 : decode cL_law 1493 = .ok (.aload_n 0, 1) := wa_42 wW31 5 (by decide +kernel)
theorem dL_law_1494 : decode cL_law 1494 = .ok (.iload 4, 2) := wa_21 wW31 6 (by decide +kernel)
theorem dL_law_1496 : decode cL_law 1496 = .ok (.iconst 2, 1) := wa_5 wW31 8 (by decide +kernel)
theorem dL_law_1497 : decode cL_law 1497 = .ok (.iadd, 1) := wa_96 wW31 9 (by decide +kernel)
theorem dL_law_1498 : decode cL_law 1498 = .ok (.iaload, 1) := wa_46 wW31 10 (by decide +kernel)
theorem dL_law_1499 : decode cL_law 1499 = .ok (.aload_n 0, 1) := wa_42 wW31 11 (by decide +kernel)
theorem dL_law_1500 : decode cL_law 1500 = .ok (.iload 4, 2) := wa_21 wW31 12 (by decide +kernel)
theorem dL_law_1502 : decode cL_law 1502 = .ok (.iconst 3, 1) := wa_6 wW31 14 (by decide +kernel)
theorem dL_law_1503 : decode cL_law 1503 = .ok (.iadd, 1) := wa_96 wW31 15 (by decide +kernel)
theorem dL_law_1504 : decode cL_law 1504 = .ok (.iaload, 1) := wa_46 wW31 16 (by decide +kernel)
theorem dL_law_1505 : decode cL_law 1505 = .ok (.aload_n 0, 1) := wa_42 wW31 17 (by decide +kernel)
theorem dL_law_1506 : decode cL_law 1506 = .ok (.iload 4, 2) := wa_21 wW31 18 (by decide +kernel)
theorem dL_law_1508 : decode cL_law 1508 = .ok (.iconst 4, 1) := wa_7 wW31 20 (by decide +kernel)
theorem dL_law_1509 : decode cL_law 1509 = .ok (.iadd, 1) := wa_96 wW31 21 (by decide +kernel)
theorem dL_law_1510 : decode cL_law 1510 = .ok (.iaload, 1) := wa_46 wW31 22 (by decide +kernel)
theorem dL_law_1511 : decode cL_law 1511 = .ok (.aload_n 0, 1) := wa_42 wW31 23 (by decide +kernel)
theorem dL_law_1512 : decode cL_law 1512 = .ok (.iload 4, 2) := wa_21 wW31 24 (by decide +kernel)
theorem dL_law_1514 : decode cL_law 1514 = .ok (.iconst 5, 1) := wa_8 wW31 26 (by decide +kernel)
theorem dL_law_1515 : decode cL_law 1515 = .ok (.iadd, 1) := wa_96 wW31 27 (by decide +kernel)
theorem dL_law_1516 : decode cL_law 1516 = .ok (.iaload, 1) := wa_46 wW31 28 (by decide +kernel)
theorem dL_law_1517 : decode cL_law 1517 = .ok (.aload_n 0, 1) := wa_42 wW31 29 (by decide +kernel)
theorem dL_law_1518 : decode cL_law 1518 = .ok (.iload 4, 2) := wa_21 wW31 30 (by decide +kernel)
theorem dL_law_1520 : decode cL_law 1520 = .ok (.bipush 6, 2) := wa_16 (y := 6) wW31 32 (by decide +kernel) (by decide +kernel)
theorem dL_law_1522 : decode cL_law 1522 = .ok (.iadd, 1) := wa_96 wW31 34 (by decide +kernel)
theorem dL_law_1523 : decode cL_law 1523 = .ok (.iaload, 1) := wa_46 wW31 35 (by decide +kernel)
theorem dL_law_1524 : decode cL_law 1524 = .ok (.ifCond .eq 7, 3) := wa_153 (y := 7) wW31 36 (by decide +kernel) (by decide +kernel)
theorem dL_law_1527 : decode cL_law 1527 = .ok (.iconst 1, 1) := wa_4 wW31 39 (by decide +kernel)
theorem dL_law_1528 : decode cL_law 1528 = .ok (.goto 4, 3) := wa_167 (y := 4) wW31 40 (by decide +kernel) (by decide +kernel)
theorem dL_law_1531 : decode cL_law 1531 = .ok (.iconst 0, 1) := wa_3 wW31 43 (by decide +kernel)
theorem dL_law_1532 : decode cL_law 1532 = .ok (.invokevirtual 103, 3) := wa_182 wW31 44 (by decide +kernel)
theorem dL_law_1535 : decode cL_law 1535 = .ok (.pop2, 1) := wa_88 wW31 47 (by decide +kernel)
theorem dL_law_1536 : decode cL_law 1536 = .ok (.goto 805, 3) := wa_167 (y := 805) wW32 0 (by decide +kernel) (by decide +kernel)
theorem dL_law_1539 : decode cL_law 1539 = .ok (.aload_n 1, 1) := wa_43 wW32 3 (by decide +kernel)
theorem dL_law_1540 : decode cL_law 1540 = .ok (.aload_n 0, 1) := wa_42 wW32 4 (by decide +kernel)
theorem dL_law_1541 : decode cL_law 1541 = .ok (.iload 4, 2) := wa_21 wW32 5 (by decide +kernel)
theorem dL_law_1543 : decode cL_law 1543 = .ok (.iconst 1, 1) := wa_4 wW32 7 (by decide +kernel)
theorem dL_law_1544 : decode cL_law 1544 = .ok (.iadd, 1) := wa_96 wW32 8 (by decide +kernel)
theorem dL_law_1545 : decode cL_law 1545 = .ok (.iaload, 1) := wa_46 wW32 9 (by decide +kernel)
theorem dL_law_1546 : decode cL_law 1546 = .ok (.aload_n 0, 1) := wa_42 wW32 10 (by decide +kernel)
theorem dL_law_1547 : decode cL_law 1547 = .ok (.iload 4, 2) := wa_21 wW32 11 (by decide +kernel)
theorem dL_law_1549 : decode cL_law 1549 = .ok (.iconst 2, 1) := wa_5 wW32 13 (by decide +kernel)
theorem dL_law_1550 : decode cL_law 1550 = .ok (.iadd, 1) := wa_96 wW32 14 (by decide +kernel)
theorem dL_law_1551 : decode cL_law 1551 = .ok (.iaload, 1) := wa_46 wW32 15 (by decide +kernel)
theorem dL_law_1552 : decode cL_law 1552 = .ok (.aload_n 0, 1) := wa_42 wW32 16 (by decide +kernel)
theorem dL_law_1553 : decode cL_law 1553 = .ok (.iload 4, 2) := wa_21 wW32 17 (by decide +kernel)
theorem dL_law_1555 : decode cL_law 1555 = .ok (.iconst 3, 1) := wa_6 wW32 19 (by decide +kernel)
theorem dL_law_1556 : decode cL_law 1556 = .ok (.iadd, 1) := wa_96 wW32 20 (by decide +kernel)
theorem dL_law_1557 : decode cL_law 1557 = .ok (.iaload, 1) := wa_46 wW32 21 (by decide +kernel)
theorem dL_law_1558 : decode cL_law 1558 = .ok (.aload_n 0, 1) := wa_42 wW32 22 (by decide +kernel)
theorem dL_law_1559 : decode cL_law 1559 = .ok (.iload 4, 2) := wa_21 wW32 23 (by decide +kernel)
theorem dL_law_1561 : decode cL_law 1561 = .ok (.iconst 4, 1) := wa_7 wW32 25 (by decide +kernel)
theorem dL_law_1562 : decode cL_law 1562 = .ok (.iadd, 1) := wa_96 wW32 26 (by decide +kernel)
theorem dL_law_1563 : decode cL_law 1563 = .ok (.iaload, 1) := wa_46 wW32 27 (by decide +kernel)
theorem dL_law_1564 : decode cL_law 1564 = .ok (.aload_n 0, 1) := wa_42 wW32 28 (by decide +kernel)
theorem dL_law_1565 : decode cL_law 1565 = .ok (.iload 4, 2) := wa_21 wW32 29 (by decide +kernel)
theorem dL_law_1567 : decode cL_law 1567 = .ok (.iconst 5, 1) := wa_8 wW32 31 (by decide +kernel)
theorem dL_law_1568 : decode cL_law 1568 = .ok (.iadd, 1) := wa_96 wW32 32 (by decide +kernel)
theorem dL_law_1569 : decode cL_law 1569 = .ok (.iaload, 1) := wa_46 wW32 33 (by decide +kernel)
theorem dL_law_1570 : decode cL_law 1570 = .ok (.invokevirtual 104, 3) := wa_182 wW32 34 (by decide +kernel)
theorem dL_law_1573 : decode cL_law 1573 = .ok (.pop, 1) := wa_87 wW32 37 (by decide +kernel)
theorem dL_law_1574 : decode cL_law 1574 = .ok (.aload_n 2, 1) := wa_44 wW32 38 (by decide +kernel)
theorem dL_law_1575 : decode cL_law 1575 = .ok (.aload_n 0, 1) := wa_42 wW32 39 (by decide +kernel)
theorem dL_law_1576 : decode cL_law 1576 = .ok (.iload 4, 2) := wa_21 wW32 40 (by decide +kernel)
theorem dL_law_1578 : decode cL_law 1578 = .ok (.iconst 1, 1) := wa_4 wW32 42 (by decide +kernel)
theorem dL_law_1579 : decode cL_law 1579 = .ok (.iadd, 1) := wa_96 wW32 43 (by decide +kernel)
theorem dL_law_1580 : decode cL_law 1580 = .ok (.iaload, 1) := wa_46 wW32 44 (by decide +kernel)
theorem dL_law_1581 : decode cL_law 1581 = .ok (.aload_n 0, 1) := wa_42 wW32 45 (by decide +kernel)
theorem dL_law_1582 : decode cL_law 1582 = .ok (.iload 4, 2) := wa_21 wW32 46 (by decide +kernel)
theorem dL_law_1584 : decode cL_law 1584 = .ok (.iconst 2, 1) := wa_5 wW33 0 (by decide +kernel)
theorem dL_law_1585 : decode cL_law 1585 = .ok (.iadd, 1) := wa_96 wW33 1 (by decide +kernel)
theorem dL_law_1586 : decode cL_law 1586 = .ok (.iaload, 1) := wa_46 wW33 2 (by decide +kernel)
theorem dL_law_1587 : decode cL_law 1587 = .ok (.aload_n 0, 1) := wa_42 wW33 3 (by decide +kernel)
theorem dL_law_1588 : decode cL_law 1588 = .ok (.iload 4, 2) := wa_21 wW33 4 (by decide +kernel)
theorem dL_law_1590 : decode cL_law 1590 = .ok (.iconst 3, 1) := wa_6 wW33 6 (by decide +kernel)
theorem dL_law_1591 : decode cL_law 1591 = .ok (.iadd, 1) := wa_96 wW33 7 (by decide +kernel)
theorem dL_law_1592 : decode cL_law 1592 = .ok (.iaload, 1) := wa_46 wW33 8 (by decide +kernel)
theorem dL_law_1593 : decode cL_law 1593 = .ok (.aload_n 0, 1) := wa_42 wW33 9 (by decide +kernel)
theorem dL_law_1594 : decode cL_law 1594 = .ok (.iload 4, 2) := wa_21 wW33 10 (by decide +kernel)
theorem dL_law_1596 : decode cL_law 1596 = .ok (.iconst 4, 1) := wa_7 wW33 12 (by decide +kernel)
theorem dL_law_1597 : decode cL_law 1597 = .ok (.iadd, 1) := wa_96 wW33 13 (by decide +kernel)
theorem dL_law_1598 : decode cL_law 1598 = .ok (.iaload, 1) := wa_46 wW33 14 (by decide +kernel)
theorem dL_law_1599 : decode cL_law 1599 = .ok (.aload_n 0, 1) := wa_42 wW33 15 (by decide +kernel)
theorem dL_law_1600 : decode cL_law 1600 = .ok (.iload 4, 2) := wa_21 wW33 16 (by decide +kernel)
theorem dL_law_1602 : decode cL_law 1602 = .ok (.iconst 5, 1) := wa_8 wW33 18 (by decide +kernel)
theorem dL_law_1603 : decode cL_law 1603 = .ok (.iadd, 1) := wa_96 wW33 19 (by decide +kernel)
theorem dL_law_1604 : decode cL_law 1604 = .ok (.iaload, 1) := wa_46 wW33 20 (by decide +kernel)
theorem dL_law_1605 : decode cL_law 1605 = .ok (.invokevirtual 107, 3) := wa_182 wW33 21 (by decide +kernel)
theorem dL_law_1608 : decode cL_law 1608 = .ok (.pop, 1) := wa_87 wW33 24 (by decide +kernel)
theorem dL_law_1609 : decode cL_law 1609 = .ok (.goto 732, 3) := wa_167 (y := 732) wW33 25 (by decide +kernel) (by decide +kernel)
theorem dL_law_1612 : decode cL_law 1612 = .ok (.aload_n 1, 1) := wa_43 wW33 28 (by decide +kernel)
theorem dL_law_1613 : decode cL_law 1613 = .ok (.aload_n 0, 1) := wa_42 wW33 29 (by decide +kernel)
theorem dL_law_1614 : decode cL_law 1614 = .ok (.iload 4, 2) := wa_21 wW33 30 (by decide +kernel)
theorem dL_law_1616 : decode cL_law 1616 = .ok (.iconst 1, 1) := wa_4 wW33 32 (by decide +kernel)
theorem dL_law_1617 : decode cL_law 1617 = .ok (.iadd, 1) := wa_96 wW33 33 (by decide +kernel)
theorem dL_law_1618 : decode cL_law 1618 = .ok (.iaload, 1) := wa_46 wW33 34 (by decide +kernel)
theorem dL_law_1619 : decode cL_law 1619 = .ok (.aload_n 0, 1) := wa_42 wW33 35 (by decide +kernel)
theorem dL_law_1620 : decode cL_law 1620 = .ok (.iload 4, 2) := wa_21 wW33 36 (by decide +kernel)
theorem dL_law_1622 : decode cL_law 1622 = .ok (.iconst 2, 1) := wa_5 wW33 38 (by decide +kernel)
theorem dL_law_1623 : decode cL_law 1623 = .ok (.iadd, 1) := wa_96 wW33 39 (by decide +kernel)
theorem dL_law_1624 : decode cL_law 1624 = .ok (.iaload, 1) := wa_46 wW33 40 (by decide +kernel)
theorem dL_law_1625 : decode cL_law 1625 = .ok (.aload_n 0, 1) := wa_42 wW33 41 (by decide +kernel)
theorem dL_law_1626 : decode cL_law 1626 = .ok (.iload 4, 2) := wa_21 wW33 42 (by decide +kernel)
theorem dL_law_1628 : decode cL_law 1628 = .ok (.iconst 3, 1) := wa_6 wW33 44 (by decide +kernel)
theorem dL_law_1629 : decode cL_law 1629 = .ok (.iadd, 1) := wa_96 wW33 45 (by decide +kernel)
theorem dL_law_1630 : decode cL_law 1630 = .ok (.iaload, 1) := wa_46 wW33 46 (by decide +kernel)
theorem dL_law_1631 : decode cL_law 1631 = .ok (.aload_n 0, 1) := wa_42 wW33 47 (by decide +kernel)
theorem dL_law_1632 : decode cL_law 1632 = .ok (.iload 4, 2) := wa_21 wW34 0 (by decide +kernel)
theorem dL_law_1634 : decode cL_law 1634 = .ok (.iconst 4, 1) := wa_7 wW34 2 (by decide +kernel)
theorem dL_law_1635 : decode cL_law 1635 = .ok (.iadd, 1) := wa_96 wW34 3 (by decide +kernel)
theorem dL_law_1636 : decode cL_law 1636 = .ok (.iaload, 1) := wa_46 wW34 4 (by decide +kernel)
theorem dL_law_1637 : decode cL_law 1637 = .ok (.aload_n 0, 1) := wa_42 wW34 5 (by decide +kernel)
theorem dL_law_1638 : decode cL_law 1638 = .ok (.iload 4, 2) := wa_21 wW34 6 (by decide +kernel)
theorem dL_law_1640 : decode cL_law 1640 = .ok (.iconst 5, 1) := wa_8 wW34 8 (by decide +kernel)
theorem dL_law_1641 : decode cL_law 1641 = .ok (.iadd, 1) := wa_96 wW34 9 (by decide +kernel)
theorem dL_law_1642 : decode cL_law 1642 = .ok (.iaload, 1) := wa_46 wW34 10 (by decide +kernel)
theorem dL_law_1643 : decode cL_law 1643 = .ok (.invokevirtual 108, 3) := wa_182 wW34 11 (by decide +kernel)
theorem dL_law_1646 : decode cL_law 1646 = .ok (.pop, 1) := wa_87 wW34 14 (by decide +kernel)
theorem dL_law_1647 : decode cL_law 1647 = .ok (.aload_n 2, 1) := wa_44 wW34 15 (by decide +kernel)
theorem dL_law_1648 : decode cL_law 1648 = .ok (.aload_n 0, 1) := wa_42 wW34 16 (by decide +kernel)
theorem dL_law_1649 : decode cL_law 1649 = .ok (.iload 4, 2) := wa_21 wW34 17 (by decide +kernel)
theorem dL_law_1651 : decode cL_law 1651 = .ok (.iconst 1, 1) := wa_4 wW34 19 (by decide +kernel)
theorem dL_law_1652 : decode cL_law 1652 = .ok (.iadd, 1) := wa_96 wW34 20 (by decide +kernel)
theorem dL_law_1653 : decode cL_law 1653 = .ok (.iaload, 1) := wa_46 wW34 21 (by decide +kernel)
theorem dL_law_1654 : decode cL_law 1654 = .ok (.aload_n 0, 1) := wa_42 wW34 22 (by decide +kernel)
theorem dL_law_1655 : decode cL_law 1655 = .ok (.iload 4, 2) := wa_21 wW34 23 (by decide +kernel)
theorem dL_law_1657 : decode cL_law 1657 = .ok (.iconst 2, 1) := wa_5 wW34 25 (by decide +kernel)
theorem dL_law_1658 : decode cL_law 1658 = .ok (.iadd, 1) := wa_96 wW34 26 (by decide +kernel)
theorem dL_law_1659 : decode cL_law 1659 = .ok (.iaload, 1) := wa_46 wW34 27 (by decide +kernel)
theorem dL_law_1660 : decode cL_law 1660 = .ok (.aload_n 0, 1) := wa_42 wW34 28 (by decide +kernel)
theorem dL_law_1661 : decode cL_law 1661 = .ok (.iload 4, 2) := wa_21 wW34 29 (by decide +kernel)
theorem dL_law_1663 : decode cL_law 1663 = .ok (.iconst 3, 1) := wa_6 wW34 31 (by decide +kernel)
theorem dL_law_1664 : decode cL_law 1664 = .ok (.iadd, 1) := wa_96 wW34 32 (by decide +kernel)
theorem dL_law_1665 : decode cL_law 1665 = .ok (.iaload, 1) := wa_46 wW34 33 (by decide +kernel)
theorem dL_law_1666 : decode cL_law 1666 = .ok (.aload_n 0, 1) := wa_42 wW34 34 (by decide +kernel)
theorem dL_law_1667 : decode cL_law 1667 = .ok (.iload 4, 2) := wa_21 wW34 35 (by decide +kernel)
theorem dL_law_1669 : decode cL_law 1669 = .ok (.iconst 4, 1) := wa_7 wW34 37 (by decide +kernel)
theorem dL_law_1670 : decode cL_law 1670 = .ok (.iadd, 1) := wa_96 wW34 38 (by decide +kernel)
theorem dL_law_1671 : decode cL_law 1671 = .ok (.iaload, 1) := wa_46 wW34 39 (by decide +kernel)
theorem dL_law_1672 : decode cL_law 1672 = .ok (.aload_n 0, 1) := wa_42 wW34 40 (by decide +kernel)
theorem dL_law_1673 : decode cL_law 1673 = .ok (.iload 4, 2) := wa_21 wW34 41 (by decide +kernel)
theorem dL_law_1675 : decode cL_law 1675 = .ok (.iconst 5, 1) := wa_8 wW34 43 (by decide +kernel)
theorem dL_law_1676 : decode cL_law 1676 = .ok (.iadd, 1) := wa_96 wW34 44 (by decide +kernel)
theorem dL_law_1677 : decode cL_law 1677 = .ok (.iaload, 1) := wa_46 wW34 45 (by decide +kernel)
theorem dL_law_1678 : decode cL_law 1678 = .ok (.invokevirtual 111, 3) := wa_182 wW34 46 (by decide +kernel)
theorem dL_law_1681 : decode cL_law 1681 = .ok (.pop, 1) := wa_87 wW35 1 (by decide +kernel)
theorem dL_law_1682 : decode cL_law 1682 = .ok (.goto 659, 3) := wa_167 (y := 659) wW35 2 (by decide +kernel) (by decide +kernel)
theorem dL_law_1685 : decode cL_law 1685 = .ok (.aload_n 1, 1) := wa_43 wW35 5 (by decide +kernel)
theorem dL_law_1686 : decode cL_law 1686 = .ok (.aload_n 0, 1) := wa_42 wW35 6 (by decide +kernel)
theorem dL_law_1687 : decode cL_law 1687 = .ok (.iload 4, 2) := wa_21 wW35 7 (by decide +kernel)
theorem dL_law_1689 : decode cL_law 1689 = .ok (.iconst 1, 1) := wa_4 wW35 9 (by decide +kernel)
theorem dL_law_1690 : decode cL_law 1690 = .ok (.iadd, 1) := wa_96 wW35 10 (by decide +kernel)
theorem dL_law_1691 : decode cL_law 1691 = .ok (.iaload, 1) := wa_46 wW35 11 (by decide +kernel)
theorem dL_law_1692 : decode cL_law 1692 = .ok (.aload_n 0, 1) := wa_42 wW35 12 (by decide +kernel)
theorem dL_law_1693 : decode cL_law 1693 = .ok (.iload 4, 2) := wa_21 wW35 13 (by decide +kernel)
theorem dL_law_1695 : decode cL_law 1695 = .ok (.iconst 2, 1) := wa_5 wW35 15 (by decide +kernel)
theorem dL_law_1696 : decode cL_law 1696 = .ok (.iadd, 1) := wa_96 wW35 16 (by decide +kernel)
theorem dL_law_1697 : decode cL_law 1697 = .ok (.iaload, 1) := wa_46 wW35 17 (by decide +kernel)
theorem dL_law_1698 : decode cL_law 1698 = .ok (.aload_n 0, 1) := wa_42 wW35 18 (by decide +kernel)
theorem dL_law_1699 : decode cL_law 1699 = .ok (.iload 4, 2) := wa_21 wW35 19 (by decide +kernel)
theorem dL_law_1701 : decode cL_law 1701 = .ok (.iconst 3, 1) := wa_6 wW35 21 (by decide +kernel)
theorem dL_law_1702 : decode cL_law 1702 = .ok (.iadd, 1) := wa_96 wW35 22 (by decide +kernel)
theorem dL_law_1703 : decode cL_law 1703 = .ok (.iaload, 1) := wa_46 wW35 23 (by decide +kernel)
theorem dL_law_1704 : decode cL_law 1704 = .ok (.aload_n 0, 1) := wa_42 wW35 24 (by decide +kernel)
theorem dL_law_1705 : decode cL_law 1705 = .ok (.iload 4, 2) := wa_21 wW35 25 (by decide +kernel)
theorem dL_law_1707 : decode cL_law 1707 = .ok (.iconst 4, 1) := wa_7 wW35 27 (by decide +kernel)
theorem dL_law_1708 : decode cL_law 1708 = .ok (.iadd, 1) := wa_96 wW35 28 (by decide +kernel)
theorem dL_law_1709 : decode cL_law 1709 = .ok (.iaload, 1) := wa_46 wW35 29 (by decide +kernel)
theorem dL_law_1710 : decode cL_law 1710 = .ok (.aload_n 0, 1) := wa_42 wW35 30 (by decide +kernel)
theorem dL_law_1711 : decode cL_law 1711 = .ok (.iload 4, 2) := wa_21 wW35 31 (by decide +kernel)
theorem dL_law_1713 : decode cL_law 1713 = .ok (.iconst 5, 1) := wa_8 wW35 33 (by decide +kernel)
theorem dL_law_1714 : decode cL_law 1714 = .ok (.iadd, 1) := wa_96 wW35 34 (by decide +kernel)
theorem dL_law_1715 : decode cL_law 1715 = .ok (.iaload, 1) := wa_46 wW35 35 (by decide +kernel)
theorem dL_law_1716 : decode cL_law 1716 = .ok (.aload_n 0, 1) := wa_42 wW35 36 (by decide +kernel)
theorem dL_law_1717 : decode cL_law 1717 = .ok (.iload 4, 2) := wa_21 wW35 37 (by decide +kernel)
theorem dL_law_1719 : decode cL_law 1719 = .ok (.bipush 6, 2) := wa_16 (y := 6) wW35 39 (by decide +kernel) (by decide +kernel)
theorem dL_law_1721 : decode cL_law 1721 = .ok (.iadd, 1) := wa_96 wW35 41 (by decide +kernel)
theorem dL_law_1722 : decode cL_law 1722 = .ok (.iaload, 1) := wa_46 wW35 42 (by decide +kernel)
theorem dL_law_1723 : decode cL_law 1723 = .ok (.invokevirtual 112, 3) := wa_182 wW35 43 (by decide +kernel)
theorem dL_law_1726 : decode cL_law 1726 = .ok (.pop, 1) := wa_87 wW35 46 (by decide +kernel)
theorem dL_law_1727 : decode cL_law 1727 = .ok (.aload_n 2, 1) := wa_44 wW35 47 (by decide +kernel)
theorem dL_law_1728 : decode cL_law 1728 = .ok (.aload_n 0, 1) := wa_42 wW36 0 (by decide +kernel)
theorem dL_law_1729 : decode cL_law 1729 = .ok (.iload 4, 2) := wa_21 wW36 1 (by decide +kernel)
theorem dL_law_1731 : decode cL_law 1731 = .ok (.iconst 1, 1) := wa_4 wW36 3 (by decide +kernel)
theorem dL_law_1732 : decode cL_law 1732 = .ok (.iadd, 1) := wa_96 wW36 4 (by decide +kernel)
theorem dL_law_1733 : decode cL_law 1733 = .ok (.iaload, 1) := wa_46 wW36 5 (by decide +kernel)
theorem dL_law_1734 : decode cL_law 1734 = .ok (.aload_n 0, 1) := wa_42 wW36 6 (by decide +kernel)
theorem dL_law_1735 : decode cL_law 1735 = .ok (.iload 4, 2) := wa_21 wW36 7 (by decide +kernel)
theorem dL_law_1737 : decode cL_law 1737 = .ok (.iconst 2, 1) := wa_5 wW36 9 (by decide +kernel)
theorem dL_law_1738 : decode cL_law 1738 = .ok (.iadd, 1) := wa_96 wW36 10 (by decide +kernel)
theorem dL_law_1739 : decode cL_law 1739 = .ok (.iaload, 1) := wa_46 wW36 11 (by decide +kernel)
theorem dL_law_1740 : decode cL_law 1740 = .ok (.aload_n 0, 1) := wa_42 wW36 12 (by decide +kernel)
theorem dL_law_1741 : decode cL_law 1741 = .ok (.iload 4, 2) := wa_21 wW36 13 (by decide +kernel)
theorem dL_law_1743 : decode cL_law 1743 = .ok (.iconst 3, 1) := wa_6 wW36 15 (by decide +kernel)
theorem dL_law_1744 : decode cL_law 1744 = .ok (.iadd, 1) := wa_96 wW36 16 (by decide +kernel)
theorem dL_law_1745 : decode cL_law 1745 = .ok (.iaload, 1) := wa_46 wW36 17 (by decide +kernel)
theorem dL_law_1746 : decode cL_law 1746 = .ok (.aload_n 0, 1) := wa_42 wW36 18 (by decide +kernel)
theorem dL_law_1747 : decode cL_law 1747 = .ok (.iload 4, 2) := wa_21 wW36 19 (by decide +kernel)
theorem dL_law_1749 : decode cL_law 1749 = .ok (.iconst 4, 1) := wa_7 wW36 21 (by decide +kernel)
theorem dL_law_1750 : decode cL_law 1750 = .ok (.iadd, 1) := wa_96 wW36 22 (by decide +kernel)
theorem dL_law_1751 : decode cL_law 1751 = .ok (.iaload, 1) := wa_46 wW36 23 (by decide +kernel)
theorem dL_law_1752 : decode cL_law 1752 = .ok (.aload_n 0, 1) := wa_42 wW36 24 (by decide +kernel)
theorem dL_law_1753 : decode cL_law 1753 = .ok (.iload 4, 2) := wa_21 wW36 25 (by decide +kernel)
theorem dL_law_1755 : decode cL_law 1755 = .ok (.iconst 5, 1) := wa_8 wW36 27 (by decide +kernel)
theorem dL_law_1756 : decode cL_law 1756 = .ok (.iadd, 1) := wa_96 wW36 28 (by decide +kernel)
theorem dL_law_1757 : decode cL_law 1757 = .ok (.iaload, 1) := wa_46 wW36 29 (by decide +kernel)
theorem dL_law_1758 : decode cL_law 1758 = .ok (.aload_n 0, 1) := wa_42 wW36 30 (by decide +kernel)
theorem dL_law_1759 : decode cL_law 1759 = .ok (.iload 4, 2) := wa_21 wW36 31 (by decide +kernel)
theorem dL_law_1761 : decode cL_law 1761 = .ok (.bipush 6, 2) := wa_16 (y := 6) wW36 33 (by decide +kernel) (by decide +kernel)
theorem dL_law_1763 : decode cL_law 1763 = .ok (.iadd, 1) := wa_96 wW36 35 (by decide +kernel)
theorem dL_law_1764 : decode cL_law 1764 = .ok (.iaload, 1) := wa_46 wW36 36 (by decide +kernel)
theorem dL_law_1765 : decode cL_law 1765 = .ok (.invokevirtual 115, 3) := wa_182 wW36 37 (by decide +kernel)
theorem dL_law_1768 : decode cL_law 1768 = .ok (.pop, 1) := wa_87 wW36 40 (by decide +kernel)
theorem dL_law_1769 : decode cL_law 1769 = .ok (.goto 572, 3) := wa_167 (y := 572) wW36 41 (by decide +kernel) (by decide +kernel)
theorem dL_law_1772 : decode cL_law 1772 = .ok (.aload_n 1, 1) := wa_43 wW36 44 (by decide +kernel)
theorem dL_law_1773 : decode cL_law 1773 = .ok (.aload_n 0, 1) := wa_42 wW36 45 (by decide +kernel)
theorem dL_law_1774 : decode cL_law 1774 = .ok (.iload 4, 2) := wa_21 wW36 46 (by decide +kernel)
theorem dL_law_1776 : decode cL_law 1776 = .ok (.iconst 1, 1) := wa_4 wW37 0 (by decide +kernel)
theorem dL_law_1777 : decode cL_law 1777 = .ok (.iadd, 1) := wa_96 wW37 1 (by decide +kernel)
theorem dL_law_1778 : decode cL_law 1778 = .ok (.iaload, 1) := wa_46 wW37 2 (by decide +kernel)
theorem dL_law_1779 : decode cL_law 1779 = .ok (.aload_n 0, 1) := wa_42 wW37 3 (by decide +kernel)
theorem dL_law_1780 : decode cL_law 1780 = .ok (.iload 4, 2) := wa_21 wW37 4 (by decide +kernel)
theorem dL_law_1782 : decode cL_law 1782 = .ok (.iconst 2, 1) := wa_5 wW37 6 (by decide +kernel)
theorem dL_law_1783 : decode cL_law 1783 = .ok (.iadd, 1) := wa_96 wW37 7 (by decide +kernel)
theorem dL_law_1784 : decode cL_law 1784 = .ok (.iaload, 1) := wa_46 wW37 8 (by decide +kernel)
theorem dL_law_1785 : decode cL_law 1785 = .ok (.aload_n 0, 1) := wa_42 wW37 9 (by decide +kernel)
theorem dL_law_1786 : decode cL_law 1786 = .ok (.iload 4, 2) := wa_21 wW37 10 (by decide +kernel)
theorem dL_law_1788 : decode cL_law 1788 = .ok (.iconst 3, 1) := wa_6 wW37 12 (by decide +kernel)
theorem dL_law_1789 : decode cL_law 1789 = .ok (.iadd, 1) := wa_96 wW37 13 (by decide +kernel)
theorem dL_law_1790 : decode cL_law 1790 = .ok (.iaload, 1) := wa_46 wW37 14 (by decide +kernel)
theorem dL_law_1791 : decode cL_law 1791 = .ok (.aload_n 0, 1) := wa_42 wW37 15 (by decide +kernel)
theorem dL_law_1792 : decode cL_law 1792 = .ok (.iload 4, 2) := wa_21 wW37 16 (by decide +kernel)
theorem dL_law_1794 : decode cL_law 1794 = .ok (.iconst 4, 1) := wa_7 wW37 18 (by decide +kernel)
theorem dL_law_1795 : decode cL_law 1795 = .ok (.iadd, 1) := wa_96 wW37 19 (by decide +kernel)
theorem dL_law_1796 : decode cL_law 1796 = .ok (.iaload, 1) := wa_46 wW37 20 (by decide +kernel)
theorem dL_law_1797 : decode cL_law 1797 = .ok (.invokevirtual 116, 3) := wa_182 wW37 21 (by decide +kernel)
theorem dL_law_1800 : decode cL_law 1800 = .ok (.pop, 1) := wa_87 wW37 24 (by decide +kernel)
theorem dL_law_1801 : decode cL_law 1801 = .ok (.aload_n 2, 1) := wa_44 wW37 25 (by decide +kernel)
theorem dL_law_1802 : decode cL_law 1802 = .ok (.aload_n 0, 1) := wa_42 wW37 26 (by decide +kernel)
theorem dL_law_1803 : decode cL_law 1803 = .ok (.iload 4, 2) := wa_21 wW37 27 (by decide +kernel)
theorem dL_law_1805 : decode cL_law 1805 = .ok (.iconst 1, 1) := wa_4 wW37 29 (by decide +kernel)
theorem dL_law_1806 : decode cL_law 1806 = .ok (.iadd, 1) := wa_96 wW37 30 (by decide +kernel)
theorem dL_law_1807 : decode cL_law 1807 = .ok (.iaload, 1) := wa_46 wW37 31 (by decide +kernel)
theorem dL_law_1808 : decode cL_law 1808 = .ok (.aload_n 0, 1) := wa_42 wW37 32 (by decide +kernel)
theorem dL_law_1809 : decode cL_law 1809 = .ok (.iload 4, 2) := wa_21 wW37 33 (by decide +kernel)
theorem dL_law_1811 : decode cL_law 1811 = .ok (.iconst 2, 1) := wa_5 wW37 35 (by decide +kernel)
theorem dL_law_1812 : decode cL_law 1812 = .ok (.iadd, 1) := wa_96 wW37 36 (by decide +kernel)
theorem dL_law_1813 : decode cL_law 1813 = .ok (.iaload, 1) := wa_46 wW37 37 (by decide +kernel)
theorem dL_law_1814 : decode cL_law 1814 = .ok (.aload_n 0, 1) := wa_42 wW37 38 (by decide +kernel)
theorem dL_law_1815 : decode cL_law 1815 = .ok (.iload 4, 2) := wa_21 wW37 39 (by decide +kernel)
theorem dL_law_1817 : decode cL_law 1817 = .ok (.iconst 3, 1) := wa_6 wW37 41 (by decide +kernel)
theorem dL_law_1818 : decode cL_law 1818 = .ok (.iadd, 1) := wa_96 wW37 42 (by decide +kernel)
theorem dL_law_1819 : decode cL_law 1819 = .ok (.iaload, 1) := wa_46 wW37 43 (by decide +kernel)
theorem dL_law_1820 : decode cL_law 1820 = .ok (.aload_n 0, 1) := wa_42 wW37 44 (by decide +kernel)
theorem dL_law_1821 : decode cL_law 1821 = .ok (.iload 4, 2) := wa_21 wW37 45 (by decide +kernel)
theorem dL_law_1823 : decode cL_law 1823 = .ok (.iconst 4, 1) := wa_7 wW37 47 (by decide +kernel)
theorem dL_law_1824 : decode cL_law 1824 = .ok (.iadd, 1) := wa_96 wW38 0 (by decide +kernel)
theorem dL_law_1825 : decode cL_law 1825 = .ok (.iaload, 1) := wa_46 wW38 1 (by decide +kernel)
theorem dL_law_1826 : decode cL_law 1826 = .ok (.invokevirtual 119, 3) := wa_182 wW38 2 (by decide +kernel)
theorem dL_law_1829 : decode cL_law 1829 = .ok (.pop, 1) := wa_87 wW38 5 (by decide +kernel)
theorem dL_law_1830 : decode cL_law 1830 = .ok (.goto 511, 3) := wa_167 (y := 511) wW38 6 (by decide +kernel) (by decide +kernel)
theorem dL_law_1833 : decode cL_law 1833 = .ok (.aload_n 1, 1) := wa_43 wW38 9 (by decide +kernel)
theorem dL_law_1834 : decode cL_law 1834 = .ok (.aload_n 0, 1) := wa_42 wW38 10 (by decide +kernel)
theorem dL_law_1835 : decode cL_law 1835 = .ok (.iload 4, 2) := wa_21 wW38 11 (by decide +kernel)
theorem dL_law_1837 : decode cL_law 1837 = .ok (.iconst 1, 1) := wa_4 wW38 13 (by decide +kernel)
theorem dL_law_1838 : decode cL_law 1838 = .ok (.iadd, 1) := wa_96 wW38 14 (by decide +kernel)
theorem dL_law_1839 : decode cL_law 1839 = .ok (.iaload, 1) := wa_46 wW38 15 (by decide +kernel)
theorem dL_law_1840 : decode cL_law 1840 = .ok (.invokevirtual 120, 3) := wa_182 wW38 16 (by decide +kernel)
theorem dL_law_1843 : decode cL_law 1843 = .ok (.pop, 1) := wa_87 wW38 19 (by decide +kernel)
theorem dL_law_1844 : decode cL_law 1844 = .ok (.aload_n 2, 1) := wa_44 wW38 20 (by decide +kernel)
theorem dL_law_1845 : decode cL_law 1845 = .ok (.aload_n 0, 1) := wa_42 wW38 21 (by decide +kernel)
theorem dL_law_1846 : decode cL_law 1846 = .ok (.iload 4, 2) := wa_21 wW38 22 (by decide +kernel)
theorem dL_law_1848 : decode cL_law 1848 = .ok (.iconst 1, 1) := wa_4 wW38 24 (by decide +kernel)
theorem dL_law_1849 : decode cL_law 1849 = .ok (.iadd, 1) := wa_96 wW38 25 (by decide +kernel)
theorem dL_law_1850 : decode cL_law 1850 = .ok (.iaload, 1) := wa_46 wW38 26 (by decide +kernel)
theorem dL_law_1851 : decode cL_law 1851 = .ok (.invokevirtual 123, 3) := wa_182 wW38 27 (by decide +kernel)
theorem dL_law_1854 : decode cL_law 1854 = .ok (.pop, 1) := wa_87 wW38 30 (by decide +kernel)
theorem dL_law_1855 : decode cL_law 1855 = .ok (.goto 486, 3) := wa_167 (y := 486) wW38 31 (by decide +kernel) (by decide +kernel)
theorem dL_law_1858 : decode cL_law 1858 = .ok (.aload_n 1, 1) := wa_43 wW38 34 (by decide +kernel)
theorem dL_law_1859 : decode cL_law 1859 = .ok (.aload_n 0, 1) := wa_42 wW38 35 (by decide +kernel)
theorem dL_law_1860 : decode cL_law 1860 = .ok (.iload 4, 2) := wa_21 wW38 36 (by decide +kernel)
theorem dL_law_1862 : decode cL_law 1862 = .ok (.iconst 1, 1) := wa_4 wW38 38 (by decide +kernel)
theorem dL_law_1863 : decode cL_law 1863 = .ok (.iadd, 1) := wa_96 wW38 39 (by decide +kernel)
theorem dL_law_1864 : decode cL_law 1864 = .ok (.iaload, 1) := wa_46 wW38 40 (by decide +kernel)
theorem dL_law_1865 : decode cL_law 1865 = .ok (.aload_n 0, 1) := wa_42 wW38 41 (by decide +kernel)
theorem dL_law_1866 : decode cL_law 1866 = .ok (.iload 4, 2) := wa_21 wW38 42 (by decide +kernel)
theorem dL_law_1868 : decode cL_law 1868 = .ok (.iconst 2, 1) := wa_5 wW38 44 (by decide +kernel)
theorem dL_law_1869 : decode cL_law 1869 = .ok (.iadd, 1) := wa_96 wW38 45 (by decide +kernel)
theorem dL_law_1870 : decode cL_law 1870 = .ok (.iaload, 1) := wa_46 wW38 46 (by decide +kernel)
theorem dL_law_1871 : decode cL_law 1871 = .ok (.invokevirtual 124, 3) := wa_182 wW38 47 (by decide +kernel)
theorem dL_law_1874 : decode cL_law 1874 = .ok (.pop, 1) := wa_87 wW39 2 (by decide +kernel)
theorem dL_law_1875 : decode cL_law 1875 = .ok (.aload_n 2, 1) := wa_44 wW39 3 (by decide +kernel)
theorem dL_law_1876 : decode cL_law 1876 = .ok (.aload_n 0, 1) := wa_42 wW39 4 (by decide +kernel)
theorem dL_law_1877 : decode cL_law 1877 = .ok (.iload 4, 2) := wa_21 wW39 5 (by decide +kernel)
theorem dL_law_1879 : decode cL_law 1879 = .ok (.iconst 1, 1) := wa_4 wW39 7 (by decide +kernel)
theorem dL_law_1880 : decode cL_law 1880 = .ok (.iadd, 1) := wa_96 wW39 8 (by decide +kernel)
theorem dL_law_1881 : decode cL_law 1881 = .ok (.iaload, 1) := wa_46 wW39 9 (by decide +kernel)
theorem dL_law_1882 : decode cL_law 1882 = .ok (.aload_n 0, 1) := wa_42 wW39 10 (by decide +kernel)
theorem dL_law_1883 : decode cL_law 1883 = .ok (.iload 4, 2) := wa_21 wW39 11 (by decide +kernel)
theorem dL_law_1885 : decode cL_law 1885 = .ok (.iconst 2, 1) := wa_5 wW39 13 (by decide +kernel)
theorem dL_law_1886 : decode cL_law 1886 = .ok (.iadd, 1) := wa_96 wW39 14 (by decide +kernel)
theorem dL_law_1887 : decode cL_law 1887 = .ok (.iaload, 1) := wa_46 wW39 15 (by decide +kernel)
theorem dL_law_1888 : decode cL_law 1888 = .ok (.invokevirtual 128, 3) := wa_182 wW39 16 (by decide +kernel)
theorem dL_law_1891 : decode cL_law 1891 = .ok (.pop, 1) := wa_87 wW39 19 (by decide +kernel)
theorem dL_law_1892 : decode cL_law 1892 = .ok (.goto 449, 3) := wa_167 (y := 449) wW39 20 (by decide +kernel) (by decide +kernel)
theorem dL_law_1895 : decode cL_law 1895 = .ok (.aload_n 1, 1) := wa_43 wW39 23 (by decide +kernel)
theorem dL_law_1896 : decode cL_law 1896 = .ok (.invokevirtual 129, 3) := wa_182 wW39 24 (by decide +kernel)
theorem dL_law_1899 : decode cL_law 1899 = .ok (.pop, 1) := wa_87 wW39 27 (by decide +kernel)
theorem dL_law_1900 : decode cL_law 1900 = .ok (.aload_n 2, 1) := wa_44 wW39 28 (by decide +kernel)
theorem dL_law_1901 : decode cL_law 1901 = .ok (.invokevirtual 132, 3) := wa_182 wW39 29 (by decide +kernel)
theorem dL_law_1904 : decode cL_law 1904 = .ok (.pop, 1) := wa_87 wW39 32 (by decide +kernel)
theorem dL_law_1905 : decode cL_law 1905 = .ok (.goto 436, 3) := wa_167 (y := 436) wW39 33 (by decide +kernel) (by decide +kernel)
theorem dL_law_1908 : decode cL_law 1908 = .ok (.aload_n 1, 1) := wa_43 wW39 36 (by decide +kernel)
theorem dL_law_1909 : decode cL_law 1909 = .ok (.aload_n 0, 1) := wa_42 wW39 37 (by decide +kernel)
theorem dL_law_1910 : decode cL_law 1910 = .ok (.iload 4, 2) := wa_21 wW39 38 (by decide +kernel)
theorem dL_law_1912 : decode cL_law 1912 = .ok (.iconst 1, 1) := wa_4 wW39 40 (by decide +kernel)
theorem dL_law_1913 : decode cL_law 1913 = .ok (.iadd, 1) := wa_96 wW39 41 (by decide +kernel)
theorem dL_law_1914 : decode cL_law 1914 = .ok (.iaload, 1) := wa_46 wW39 42 (by decide +kernel)
theorem dL_law_1915 : decode cL_law 1915 = .ok (.aload_n 0, 1) := wa_42 wW39 43 (by decide +kernel)
theorem dL_law_1916 : decode cL_law 1916 = .ok (.iload 4, 2) := wa_21 wW39 44 (by decide +kernel)
theorem dL_law_1918 : decode cL_law 1918 = .ok (.iconst 2, 1) := wa_5 wW39 46 (by decide +kernel)
theorem dL_law_1919 : decode cL_law 1919 = .ok (.iadd, 1) := wa_96 wW39 47 (by decide +kernel)
theorem dL_law_1920 : decode cL_law 1920 = .ok (.iaload, 1) := wa_46 wW40 0 (by decide +kernel)
theorem dL_law_1921 : decode cL_law 1921 = .ok (.aload_n 0, 1) := wa_42 wW40 1 (by decide +kernel)
theorem dL_law_1922 : decode cL_law 1922 = .ok (.iload 4, 2) := wa_21 wW40 2 (by decide +kernel)
theorem dL_law_1924 : decode cL_law 1924 = .ok (.iconst 3, 1) := wa_6 wW40 4 (by decide +kernel)
theorem dL_law_1925 : decode cL_law 1925 = .ok (.iadd, 1) := wa_96 wW40 5 (by decide +kernel)
theorem dL_law_1926 : decode cL_law 1926 = .ok (.iaload, 1) := wa_46 wW40 6 (by decide +kernel)
theorem dL_law_1927 : decode cL_law 1927 = .ok (.aload_n 0, 1) := wa_42 wW40 7 (by decide +kernel)
theorem dL_law_1928 : decode cL_law 1928 = .ok (.iload 4, 2) := wa_21 wW40 8 (by decide +kernel)
theorem dL_law_1930 : decode cL_law 1930 = .ok (.iconst 4, 1) := wa_7 wW40 10 (by decide +kernel)
theorem dL_law_1931 : decode cL_law 1931 = .ok (.iadd, 1) := wa_96 wW40 11 (by decide +kernel)
theorem dL_law_1932 : decode cL_law 1932 = .ok (.iaload, 1) := wa_46 wW40 12 (by decide +kernel)
theorem dL_law_1933 : decode cL_law 1933 = .ok (.invokevirtual 133, 3) := wa_182 wW40 13 (by decide +kernel)
theorem dL_law_1936 : decode cL_law 1936 = .ok (.pop, 1) := wa_87 wW40 16 (by decide +kernel)
theorem dL_law_1937 : decode cL_law 1937 = .ok (.aload_n 2, 1) := wa_44 wW40 17 (by decide +kernel)
theorem dL_law_1938 : decode cL_law 1938 = .ok (.aload_n 0, 1) := wa_42 wW40 18 (by decide +kernel)
theorem dL_law_1939 : decode cL_law 1939 = .ok (.iload 4, 2) := wa_21 wW40 19 (by decide +kernel)
theorem dL_law_1941 : decode cL_law 1941 = .ok (.iconst 1, 1) := wa_4 wW40 21 (by decide +kernel)
theorem dL_law_1942 : decode cL_law 1942 = .ok (.iadd, 1) := wa_96 wW40 22 (by decide +kernel)
theorem dL_law_1943 : decode cL_law 1943 = .ok (.iaload, 1) := wa_46 wW40 23 (by decide +kernel)
theorem dL_law_1944 : decode cL_law 1944 = .ok (.aload_n 0, 1) := wa_42 wW40 24 (by decide +kernel)
theorem dL_law_1945 : decode cL_law 1945 = .ok (.iload 4, 2) := wa_21 wW40 25 (by decide +kernel)
theorem dL_law_1947 : decode cL_law 1947 = .ok (.iconst 2, 1) := wa_5 wW40 27 (by decide +kernel)
theorem dL_law_1948 : decode cL_law 1948 = .ok (.iadd, 1) := wa_96 wW40 28 (by decide +kernel)
theorem dL_law_1949 : decode cL_law 1949 = .ok (.iaload, 1) := wa_46 wW40 29 (by decide +kernel)
theorem dL_law_1950 : decode cL_law 1950 = .ok (.aload_n 0, 1) := wa_42 wW40 30 (by decide +kernel)
theorem dL_law_1951 : decode cL_law 1951 = .ok (.iload 4, 2) := wa_21 wW40 31 (by decide +kernel)
theorem dL_law_1953 : decode cL_law 1953 = .ok (.iconst 3, 1) := wa_6 wW40 33 (by decide +kernel)
theorem dL_law_1954 : decode cL_law 1954 = .ok (.iadd, 1) := wa_96 wW40 34 (by decide +kernel)
theorem dL_law_1955 : decode cL_law 1955 = .ok (.iaload, 1) := wa_46 wW40 35 (by decide +kernel)
theorem dL_law_1956 : decode cL_law 1956 = .ok (.aload_n 0, 1) := wa_42 wW40 36 (by decide +kernel)
theorem dL_law_1957 : decode cL_law 1957 = .ok (.iload 4, 2) := wa_21 wW40 37 (by decide +kernel)
theorem dL_law_1959 : decode cL_law 1959 = .ok (.iconst 4, 1) := wa_7 wW40 39 (by decide +kernel)
theorem dL_law_1960 : decode cL_law 1960 = .ok (.iadd, 1) := wa_96 wW40 40 (by decide +kernel)
theorem dL_law_1961 : decode cL_law 1961 = .ok (.iaload, 1) := wa_46 wW40 41 (by decide +kernel)
theorem dL_law_1962 : decode cL_law 1962 = .ok (.invokevirtual 136, 3) := wa_182 wW40 42 (by decide +kernel)
theorem dL_law_1965 : decode cL_law 1965 = .ok (.pop, 1) := wa_87 wW40 45 (by decide +kernel)
theorem dL_law_1966 : decode cL_law 1966 = .ok (.goto 375, 3) := wa_167 (y := 375) wW40 46 (by decide +kernel) (by decide +kernel)
theorem dL_law_1969 : decode cL_law 1969 = .ok (.aload_n 1, 1) := wa_43 wW41 1 (by decide +kernel)
theorem dL_law_1970 : decode cL_law 1970 = .ok (.aload_n 0, 1) := wa_42 wW41 2 (by decide +kernel)
theorem dL_law_1971 : decode cL_law 1971 = .ok (.iload 4, 2) := wa_21 wW41 3 (by decide +kernel)
theorem dL_law_1973 : decode cL_law 1973 = .ok (.iconst 1, 1) := wa_4 wW41 5 (by decide +kernel)
theorem dL_law_1974 : decode cL_law 1974 = .ok (.iadd, 1) := wa_96 wW41 6 (by decide +kernel)
theorem dL_law_1975 : decode cL_law 1975 = .ok (.iaload, 1) := wa_46 wW41 7 (by decide +kernel)
theorem dL_law_1976 : decode cL_law 1976 = .ok (.aload_n 0, 1) := wa_42 wW41 8 (by decide +kernel)
theorem dL_law_1977 : decode cL_law 1977 = .ok (.iload 4, 2) := wa_21 wW41 9 (by decide +kernel)
theorem dL_law_1979 : decode cL_law 1979 = .ok (.iconst 2, 1) := wa_5 wW41 11 (by decide +kernel)
theorem dL_law_1980 : decode cL_law 1980 = .ok (.iadd, 1) := wa_96 wW41 12 (by decide +kernel)
theorem dL_law_1981 : decode cL_law 1981 = .ok (.iaload, 1) := wa_46 wW41 13 (by decide +kernel)
theorem dL_law_1982 : decode cL_law 1982 = .ok (.aload_n 0, 1) := wa_42 wW41 14 (by decide +kernel)
theorem dL_law_1983 : decode cL_law 1983 = .ok (.iload 4, 2) := wa_21 wW41 15 (by decide +kernel)
theorem dL_law_1985 : decode cL_law 1985 = .ok (.iconst 3, 1) := wa_6 wW41 17 (by decide +kernel)
theorem dL_law_1986 : decode cL_law 1986 = .ok (.iadd, 1) := wa_96 wW41 18 (by decide +kernel)
theorem dL_law_1987 : decode cL_law 1987 = .ok (.iaload, 1) := wa_46 wW41 19 (by decide +kernel)
theorem dL_law_1988 : decode cL_law 1988 = .ok (.invokevirtual 137, 3) := wa_182 wW41 20 (by decide +kernel)
theorem dL_law_1991 : decode cL_law 1991 = .ok (.pop, 1) := wa_87 wW41 23 (by decide +kernel)
theorem dL_law_1992 : decode cL_law 1992 = .ok (.aload_n 2, 1) := wa_44 wW41 24 (by decide +kernel)
theorem dL_law_1993 : decode cL_law 1993 = .ok (.aload_n 0, 1) := wa_42 wW41 25 (by decide +kernel)
theorem dL_law_1994 : decode cL_law 1994 = .ok (.iload 4, 2) := wa_21 wW41 26 (by decide +kernel)
theorem dL_law_1996 : decode cL_law 1996 = .ok (.iconst 1, 1) := wa_4 wW41 28 (by decide +kernel)
theorem dL_law_1997 : decode cL_law 1997 = .ok (.iadd, 1) := wa_96 wW41 29 (by decide +kernel)
theorem dL_law_1998 : decode cL_law 1998 = .ok (.iaload, 1) := wa_46 wW41 30 (by decide +kernel)
theorem dL_law_1999 : decode cL_law 1999 = .ok (.aload_n 0, 1) := wa_42 wW41 31 (by decide +kernel)
theorem dL_law_2000 : decode cL_law 2000 = .ok (.iload 4, 2) := wa_21 wW41 32 (by decide +kernel)
theorem dL_law_2002 : decode cL_law 2002 = .ok (.iconst 2, 1) := wa_5 wW41 34 (by decide +kernel)
theorem dL_law_2003 : decode cL_law 2003 = .ok (.iadd, 1) := wa_96 wW41 35 (by decide +kernel)
theorem dL_law_2004 : decode cL_law 2004 = .ok (.iaload, 1) := wa_46 wW41 36 (by decide +kernel)
theorem dL_law_2005 : decode cL_law 2005 = .ok (.aload_n 0, 1) := wa_42 wW41 37 (by decide +kernel)
theorem dL_law_2006 : decode cL_law 2006 = .ok (.iload 4, 2) := wa_21 wW41 38 (by decide +kernel)
theorem dL_law_2008 : decode cL_law 2008 = .ok (.iconst 3, 1) := wa_6 wW41 40 (by decide +kernel)
theorem dL_law_2009 : decode cL_law 2009 = .ok (.iadd, 1) := wa_96 wW41 41 (by decide +kernel)
theorem dL_law_2010 : decode cL_law 2010 = .ok (.iaload, 1) := wa_46 wW41 42 (by decide +kernel)
theorem dL_law_2011 : decode cL_law 2011 = .ok (.invokevirtual 140, 3) := wa_182 wW41 43 (by decide +kernel)
theorem dL_law_2014 : decode cL_law 2014 = .ok (.pop, 1) := wa_87 wW41 46 (by decide +kernel)
theorem dL_law_2015 : decode cL_law 2015 = .ok (.goto 326, 3) := wa_167 (y := 326) wW41 47 (by decide +kernel) (by decide +kernel)
theorem dL_law_2018 : decode cL_law 2018 = .ok (.aload_n 1, 1) := wa_43 wW42 2 (by decide +kernel)
theorem dL_law_2019 : decode cL_law 2019 = .ok (.aload_n 0, 1) := wa_42 wW42 3 (by decide +kernel)
theorem dL_law_2020 : decode cL_law 2020 = .ok (.iload 4, 2) := wa_21 wW42 4 (by decide +kernel)
theorem dL_law_2022 : decode cL_law 2022 = .ok (.iconst 1, 1) := wa_4 wW42 6 (by decide +kernel)
theorem dL_law_2023 : decode cL_law 2023 = .ok (.iadd, 1) := wa_96 wW42 7 (by decide +kernel)
theorem dL_law_2024 : decode cL_law 2024 = .ok (.iaload, 1) := wa_46 wW42 8 (by decide +kernel)
theorem dL_law_2025 : decode cL_law 2025 = .ok (.invokevirtual 141, 3) := wa_182 wW42 9 (by decide +kernel)
theorem dL_law_2028 : decode cL_law 2028 = .ok (.pop, 1) := wa_87 wW42 12 (by decide +kernel)
theorem dL_law_2029 : decode cL_law 2029 = .ok (.aload_n 2, 1) := wa_44 wW42 13 (by decide +kernel)
theorem dL_law_2030 : decode cL_law 2030 = .ok (.aload_n 0, 1) := wa_42 wW42 14 (by decide +kernel)
theorem dL_law_2031 : decode cL_law 2031 = .ok (.iload 4, 2) := wa_21 wW42 15 (by decide +kernel)
theorem dL_law_2033 : decode cL_law 2033 = .ok (.iconst 1, 1) := wa_4 wW42 17 (by decide +kernel)
theorem dL_law_2034 : decode cL_law 2034 = .ok (.iadd, 1) := wa_96 wW42 18 (by decide +kernel)
theorem dL_law_2035 : decode cL_law 2035 = .ok (.iaload, 1) := wa_46 wW42 19 (by decide +kernel)
theorem dL_law_2036 : decode cL_law 2036 = .ok (.invokevirtual 145, 3) := wa_182 wW42 20 (by decide +kernel)
theorem dL_law_2039 : decode cL_law 2039 = .ok (.pop, 1) := wa_87 wW42 23 (by decide +kernel)
theorem dL_law_2040 : decode cL_law 2040 = .ok (.goto 301, 3) := wa_167 (y := 301) wW42 24 (by decide +kernel) (by decide +kernel)
theorem dL_law_2043 : decode cL_law 2043 = .ok (.aload_n 1, 1) := wa_43 wW42 27 (by decide +kernel)
theorem dL_law_2044 : decode cL_law 2044 = .ok (.aload_n 0, 1) := wa_42 wW42 28 (by decide +kernel)
theorem dL_law_2045 : decode cL_law 2045 = .ok (.iload 4, 2) := wa_21 wW42 29 (by decide +kernel)
theorem dL_law_2047 : decode cL_law 2047 = .ok (.iconst 1, 1) := wa_4 wW42 31 (by decide +kernel)
theorem dL_law_2048 : decode cL_law 2048 = .ok (.iadd, 1) := wa_96 wW42 32 (by decide +kernel)
theorem dL_law_2049 : decode cL_law 2049 = .ok (.iaload, 1) := wa_46 wW42 33 (by decide +kernel)
theorem dL_law_2050 : decode cL_law 2050 = .ok (.aload_n 0, 1) := wa_42 wW42 34 (by decide +kernel)
theorem dL_law_2051 : decode cL_law 2051 = .ok (.iload 4, 2) := wa_21 wW42 35 (by decide +kernel)
theorem dL_law_2053 : decode cL_law 2053 = .ok (.iconst 2, 1) := wa_5 wW42 37 (by decide +kernel)
theorem dL_law_2054 : decode cL_law 2054 = .ok (.iadd, 1) := wa_96 wW42 38 (by decide +kernel)
theorem dL_law_2055 : decode cL_law 2055 = .ok (.iaload, 1) := wa_46 wW42 39 (by decide +kernel)
theorem dL_law_2056 : decode cL_law 2056 = .ok (.ifCond .eq 7, 3) := wa_153 (y := 7) wW42 40 (by decide +kernel) (by decide +kernel)
theorem dL_law_2059 : decode cL_law 2059 = .ok (.iconst 1, 1) := wa_4 wW42 43 (by decide +kernel)
theorem dL_law_2060 : decode cL_law 2060 = .ok (.goto 4, 3) := wa_167 (y := 4) wW42 44 (by decide +kernel) (by decide +kernel)
theorem dL_law_2063 : decode cL_law 2063 = .ok (.iconst 0, 1) := wa_3 wW42 47 (by decide +kernel)
theorem dL_law_2064 : decode cL_law 2064 = .ok (.invokevirtual 146, 3) := wa_182 wW43 0 (by decide +kernel)
theorem dL_law_2067 : decode cL_law 2067 = .ok (.pop2, 1) := wa_88 wW43 3 (by decide +kernel)
theorem dL_law_2068 : decode cL_law 2068 = .ok (.aload_n 2, 1) := wa_44 wW43 4 (by decide +kernel)
theorem dL_law_2069 : decode cL_law 2069 = .ok (.aload_n 0, 1) := wa_42 wW43 5 (by decide +kernel)
theorem dL_law_2070 : decode cL_law 2070 = .ok (.iload 4, 2) := wa_21 wW43 6 (by decide +kernel)
theorem dL_law_2072 : decode cL_law 2072 = .ok (.iconst 1, 1) := wa_4 wW43 8 (by decide +kernel)
theorem dL_law_2073 : decode cL_law 2073 = .ok (.iadd, 1) := wa_96 wW43 9 (by decide +kernel)
theorem dL_law_2074 : decode cL_law 2074 = .ok (.iaload, 1) := wa_46 wW43 10 (by decide +kernel)
theorem dL_law_2075 : decode cL_law 2075 = .ok (.aload_n 0, 1) := wa_42 wW43 11 (by decide +kernel)
theorem dL_law_2076 : decode cL_law 2076 = .ok (.iload 4, 2) := wa_21 wW43 12 (by decide +kernel)
theorem dL_law_2078 : decode cL_law 2078 = .ok (.iconst 2, 1) := wa_5 wW43 14 (by decide +kernel)
theorem dL_law_2079 : decode cL_law 2079 = .ok (.iadd, 1) := wa_96 wW43 15 (by decide +kernel)
theorem dL_law_2080 : decode cL_law 2080 = .ok (.iaload, 1) := wa_46 wW43 16 (by decide +kernel)
theorem dL_law_2081 : decode cL_law 2081 = .ok (.ifCond .eq 7, 3) := wa_153 (y := 7) wW43 17 (by decide +kernel) (by decide +kernel)
theorem dL_law_2084 : decode cL_law 2084 = .ok (.iconst 1, 1) := wa_4 wW43 20 (by decide +kernel)
theorem dL_law_2085 : decode cL_law 2085 = .ok (.goto 4, 3) := wa_167 (y := 4) wW43 21 (by decide +kernel) (by decide +kernel)
theorem dL_law_2088 : decode cL_law 2088 = .ok (.iconst 0, 1) := wa_3 wW43 24 (by decide +kernel)
theorem dL_law_2089 : decode cL_law 2089 = .ok (.invokevirtual 150, 3) := wa_182 wW43 25 (by decide +kernel)
theorem dL_law_2092 : decode cL_law 2092 = .ok (.pop2, 1) := wa_88 wW43 28 (by decide +kernel)
theorem dL_law_2093 : decode cL_law 2093 = .ok (.goto 248, 3) := wa_167 (y := 248) wW43 29 (by decide +kernel) (by decide +kernel)
theorem dL_law_2096 : decode cL_law 2096 = .ok (.aload_n 1, 1) := wa_43 wW43 32 (by decide +kernel)
theorem dL_law_2097 : decode cL_law 2097 = .ok (.aload_n 0, 1) := wa_42 wW43 33 (by decide +kernel)
theorem dL_law_2098 : decode cL_law 2098 = .ok (.iload 4, 2) := wa_21 wW43 34 (by decide +kernel)
theorem dL_law_2100 : decode cL_law 2100 = .ok (.iconst 1, 1) := wa_4 wW43 36 (by decide +kernel)
theorem dL_law_2101 : decode cL_law 2101 = .ok (.iadd, 1) := wa_96 wW43 37 (by decide +kernel)
theorem dL_law_2102 : decode cL_law 2102 = .ok (.iaload, 1) := wa_46 wW43 38 (by decide +kernel)
theorem dL_law_2103 : decode cL_law 2103 = .ok (.ifCond .eq 7, 3) := wa_153 (y := 7) wW43 39 (by decide +kernel) (by decide +kernel)
theorem dL_law_2106 : decode cL_law 2106 = .ok (.iconst 1, 1) := wa_4 wW43 42 (by decide +kernel)
theorem dL_law_2107 : decode cL_law 2107 = .ok (.goto 4, 3) := wa_167 (y := 4) wW43 43 (by decide +kernel) (by decide +kernel)
theorem dL_law_2110 : decode cL_law 2110 = .ok (.iconst 0, 1) := wa_3 wW43 46 (by decide +kernel)
theorem dL_law_2111 : decode cL_law 2111 = .ok (.invokevirtual 151, 3) := wa_182 wW43 47 (by decide +kernel)
theorem dL_law_2114 : decode cL_law 2114 = .ok (.pop2, 1) := wa_88 wW44 2 (by decide +kernel)
theorem dL_law_2115 : decode cL_law 2115 = .ok (.aload_n 2, 1) := wa_44 wW44 3 (by decide +kernel)
theorem dL_law_2116 : decode cL_law 2116 = .ok (.aload_n 0, 1) := wa_42 wW44 4 (by decide +kernel)
theorem dL_law_2117 : decode cL_law 2117 = .ok (.iload 4, 2) := wa_21 wW44 5 (by decide +kernel)
theorem dL_law_2119 : decode cL_law 2119 = .ok (.iconst 1, 1) := wa_4 wW44 7 (by decide +kernel)
theorem dL_law_2120 : decode cL_law 2120 = .ok (.iadd, 1) := wa_96 wW44 8 (by decide +kernel)
theorem dL_law_2121 : decode cL_law 2121 = .ok (.iaload, 1) := wa_46 wW44 9 (by decide +kernel)
theorem dL_law_2122 : decode cL_law 2122 = .ok (.ifCond .eq 7, 3) := wa_153 (y := 7) wW44 10 (by decide +kernel) (by decide +kernel)
theorem dL_law_2125 : decode cL_law 2125 = .ok (.iconst 1, 1) := wa_4 wW44 13 (by decide +kernel)
theorem dL_law_2126 : decode cL_law 2126 = .ok (.goto 4, 3) := wa_167 (y := 4) wW44 14 (by decide +kernel) (by decide +kernel)
theorem dL_law_2129 : decode cL_law 2129 = .ok (.iconst 0, 1) := wa_3 wW44 17 (by decide +kernel)
theorem dL_law_2130 : decode cL_law 2130 = .ok (.invokevirtual 155, 3) := wa_182 wW44 18 (by decide +kernel)
theorem dL_law_2133 : decode cL_law 2133 = .ok (.pop2, 1) := wa_88 wW44 21 (by decide +kernel)
theorem dL_law_2134 : decode cL_law 2134 = .ok (.goto 207, 3) := wa_167 (y := 207) wW44 22 (by decide +kernel) (by decide +kernel)
theorem dL_law_2137 : decode cL_law 2137 = .ok (.aload_n 1, 1) := wa_43 wW44 25 (by decide +kernel)
theorem dL_law_2138 : decode cL_law 2138 = .ok (.invokevirtual 156, 3) := wa_182 wW44 26 (by decide +kernel)
theorem dL_law_2141 : decode cL_law 2141 = .ok (.pop, 1) := wa_87 wW44 29 (by decide +kernel)
theorem dL_law_2142 : decode cL_law 2142 = .ok (.aload_n 2, 1) := wa_44 wW44 30 (by decide +kernel)
theorem dL_law_2143 : decode cL_law 2143 = .ok (.invokevirtual 159, 3) := wa_182 wW44 31 (by decide +kernel)
theorem dL_law_2146 : decode cL_law 2146 = .ok (.pop, 1) := wa_87 wW44 34 (by decide +kernel)
theorem dL_law_2147 : decode cL_law 2147 = .ok (.goto 194, 3) := wa_167 (y := 194) wW44 35 (by decide +kernel) (by decide +kernel)
theorem dL_law_2150 : decode cL_law 2150 = .ok (.aload_n 1, 1) := wa_43 wW44 38 (by decide +kernel)
theorem dL_law_2151 : decode cL_law 2151 = .ok (.invokevirtual 160, 3) := wa_182 wW44 39 (by decide +kernel)
theorem dL_law_2154 : decode cL_law 2154 = .ok (.pop, 1) := wa_87 wW44 42 (by decide +kernel)
theorem dL_law_2155 : decode cL_law 2155 = .ok (.aload_n 2, 1) := wa_44 wW44 43 (by decide +kernel)
theorem dL_law_2156 : decode cL_law 2156 = .ok (.invokevirtual 164, 3) := wa_182 wW44 44 (by decide +kernel)
theorem dL_law_2159 : decode cL_law 2159 = .ok (.pop, 1) := wa_87 wW44 47 (by decide +kernel)
theorem dL_law_2160 : decode cL_law 2160 = .ok (.goto 181, 3) := wa_167 (y := 181) wW45 0 (by decide +kernel) (by decide +kernel)
theorem dL_law_2163 : decode cL_law 2163 = .ok (.aload_n 1, 1) := wa_43 wW45 3 (by decide +kernel)
theorem dL_law_2164 : decode cL_law 2164 = .ok (.invokevirtual 165, 3) := wa_182 wW45 4 (by decide +kernel)
theorem dL_law_2167 : decode cL_law 2167 = .ok (.pop, 1) := wa_87 wW45 7 (by decide +kernel)
theorem dL_law_2168 : decode cL_law 2168 = .ok (.aload_n 2, 1) := wa_44 wW45 8 (by decide +kernel)
theorem dL_law_2169 : decode cL_law 2169 = .ok (.invokevirtual 168, 3) := wa_182 wW45 9 (by decide +kernel)
theorem dL_law_2172 : decode cL_law 2172 = .ok (.pop, 1) := wa_87 wW45 12 (by decide +kernel)
theorem dL_law_2173 : decode cL_law 2173 = .ok (.goto 168, 3) := wa_167 (y := 168) wW45 13 (by decide +kernel) (by decide +kernel)
theorem dL_law_2176 : decode cL_law 2176 = .ok (.aload_n 1, 1) := wa_43 wW45 16 (by decide +kernel)
theorem dL_law_2177 : decode cL_law 2177 = .ok (.aload_n 0, 1) := wa_42 wW45 17 (by decide +kernel)
theorem dL_law_2178 : decode cL_law 2178 = .ok (.iload 4, 2) := wa_21 wW45 18 (by decide +kernel)
theorem dL_law_2180 : decode cL_law 2180 = .ok (.iconst 1, 1) := wa_4 wW45 20 (by decide +kernel)
theorem dL_law_2181 : decode cL_law 2181 = .ok (.iadd, 1) := wa_96 wW45 21 (by decide +kernel)
theorem dL_law_2182 : decode cL_law 2182 = .ok (.iaload, 1) := wa_46 wW45 22 (by decide +kernel)
theorem dL_law_2183 : decode cL_law 2183 = .ok (.invokevirtual 169, 3) := wa_182 wW45 23 (by decide +kernel)
theorem dL_law_2186 : decode cL_law 2186 = .ok (.pop, 1) := wa_87 wW45 26 (by decide +kernel)
theorem dL_law_2187 : decode cL_law 2187 = .ok (.aload_n 2, 1) := wa_44 wW45 27 (by decide +kernel)
theorem dL_law_2188 : decode cL_law 2188 = .ok (.aload_n 0, 1) := wa_42 wW45 28 (by decide +kernel)
theorem dL_law_2189 : decode cL_law 2189 = .ok (.iload 4, 2) := wa_21 wW45 29 (by decide +kernel)
theorem dL_law_2191 : decode cL_law 2191 = .ok (.iconst 1, 1) := wa_4 wW45 31 (by decide +kernel)
theorem dL_law_2192 : decode cL_law 2192 = .ok (.iadd, 1) := wa_96 wW45 32 (by decide +kernel)
theorem dL_law_2193 : decode cL_law 2193 = .ok (.iaload, 1) := wa_46 wW45 33 (by decide +kernel)
theorem dL_law_2194 : decode cL_law 2194 = .ok (.invokevirtual 172, 3) := wa_182 wW45 34 (by decide +kernel)
theorem dL_law_2197 : decode cL_law 2197 = .ok (.pop, 1) := wa_87 wW45 37 (by decide +kernel)
theorem dL_law_2198 : decode cL_law 2198 = .ok (.goto 143, 3) := wa_167 (y := 143) wW45 38 (by decide +kernel) (by decide +kernel)
theorem dL_law_2201 : decode cL_law 2201 = .ok (.aload_n 1, 1) := wa_43 wW45 41 (by decide +kernel)
theorem dL_law_2202 : decode cL_law 2202 = .ok (.aload_n 0, 1) := wa_42 wW45 42 (by decide +kernel)
theorem dL_law_2203 : decode cL_law 2203 = .ok (.iload 4, 2) := wa_21 wW45 43 (by decide +kernel)
theorem dL_law_2205 : decode cL_law 2205 = .ok (.iconst 1, 1) := wa_4 wW45 45 (by decide +kernel)
theorem dL_law_2206 : decode cL_law 2206 = .ok (.iadd, 1) := wa_96 wW45 46 (by decide +kernel)
theorem dL_law_2207 : decode cL_law 2207 = .ok (.iaload, 1) := wa_46 wW45 47 (by decide +kernel)
theorem dL_law_2208 : decode cL_law 2208 = .ok (.aload_n 0, 1) := wa_42 wW46 0 (by decide +kernel)
theorem dL_law_2209 : decode cL_law 2209 = .ok (.iload 4, 2) := wa_21 wW46 1 (by decide +kernel)
theorem dL_law_2211 : decode cL_law 2211 = .ok (.iconst 2, 1) := wa_5 wW46 3 (by decide +kernel)
theorem dL_law_2212 : decode cL_law 2212 = .ok (.iadd, 1) := wa_96 wW46 4 (by decide +kernel)
theorem dL_law_2213 : decode cL_law 2213 = .ok (.iaload, 1) := wa_46 wW46 5 (by decide +kernel)
theorem dL_law_2214 : decode cL_law 2214 = .ok (.invokevirtual 173, 3) := wa_182 wW46 6 (by decide +kernel)
theorem dL_law_2217 : decode cL_law 2217 = .ok (.pop, 1) := wa_87 wW46 9 (by decide +kernel)
theorem dL_law_2218 : decode cL_law 2218 = .ok (.aload_n 2, 1) := wa_44 wW46 10 (by decide +kernel)
theorem dL_law_2219 : decode cL_law 2219 = .ok (.aload_n 0, 1) := wa_42 wW46 11 (by decide +kernel)
theorem dL_law_2220 : decode cL_law 2220 = .ok (.iload 4, 2) := wa_21 wW46 12 (by decide +kernel)
theorem dL_law_2222 : decode cL_law 2222 = .ok (.iconst 1, 1) := wa_4 wW46 14 (by decide +kernel)
theorem dL_law_2223 : decode cL_law 2223 = .ok (.iadd, 1) := wa_96 wW46 15 (by decide +kernel)
theorem dL_law_2224 : decode cL_law 2224 = .ok (.iaload, 1) := wa_46 wW46 16 (by decide +kernel)
theorem dL_law_2225 : decode cL_law 2225 = .ok (.aload_n 0, 1) := wa_42 wW46 17 (by decide +kernel)
theorem dL_law_2226 : decode cL_law 2226 = .ok (.iload 4, 2) := wa_21 wW46 18 (by decide +kernel)
theorem dL_law_2228 : decode cL_law 2228 = .ok (.iconst 2, 1) := wa_5 wW46 20 (by decide +kernel)
theorem dL_law_2229 : decode cL_law 2229 = .ok (.iadd, 1) := wa_96 wW46 21 (by decide +kernel)
theorem dL_law_2230 : decode cL_law 2230 = .ok (.iaload, 1) := wa_46 wW46 22 (by decide +kernel)
theorem dL_law_2231 : decode cL_law 2231 = .ok (.invokevirtual 176, 3) := wa_182 wW46 23 (by decide +kernel)
theorem dL_law_2234 : decode cL_law 2234 = .ok (.pop, 1) := wa_87 wW46 26 (by decide +kernel)
theorem dL_law_2235 : decode cL_law 2235 = .ok (.goto 106, 3) := wa_167 (y := 106) wW46 27 (by decide +kernel) (by decide +kernel)
theorem dL_law_2238 : decode cL_law 2238 = .ok (.aload_n 1, 1) := wa_43 wW46 30 (by decide +kernel)
theorem dL_law_2239 : decode cL_law 2239 = .ok (.aload_n 0, 1) := wa_42 wW46 31 (by decide +kernel)
theorem dL_law_2240 : decode cL_law 2240 = .ok (.iload 4, 2) := wa_21 wW46 32 (by decide +kernel)
theorem dL_law_2242 : decode cL_law 2242 = .ok (.iconst 1, 1) := wa_4 wW46 34 (by decide +kernel)
theorem dL_law_2243 : decode cL_law 2243 = .ok (.iadd, 1) := wa_96 wW46 35 (by decide +kernel)
theorem dL_law_2244 : decode cL_law 2244 = .ok (.iaload, 1) := wa_46 wW46 36 (by decide +kernel)
theorem dL_law_2245 : decode cL_law 2245 = .ok (.aload_n 0, 1) := wa_42 wW46 37 (by decide +kernel)
theorem dL_law_2246 : decode cL_law 2246 = .ok (.iload 4, 2) := wa_21 wW46 38 (by decide +kernel)
theorem dL_law_2248 : decode cL_law 2248 = .ok (.iconst 2, 1) := wa_5 wW46 40 (by decide +kernel)
theorem dL_law_2249 : decode cL_law 2249 = .ok (.iadd, 1) := wa_96 wW46 41 (by decide +kernel)
theorem dL_law_2250 : decode cL_law 2250 = .ok (.iaload, 1) := wa_46 wW46 42 (by decide +kernel)
theorem dL_law_2251 : decode cL_law 2251 = .ok (.invokevirtual 177, 3) := wa_182 wW46 43 (by decide +kernel)
theorem dL_law_2254 : decode cL_law 2254 = .ok (.pop, 1) := wa_87 wW46 46 (by decide +kernel)
theorem dL_law_2255 : decode cL_law 2255 = .ok (.aload_n 2, 1) := wa_44 wW46 47 (by decide +kernel)
theorem dL_law_2256 : decode cL_law 2256 = .ok (.aload_n 0, 1) := wa_42 wW47 0 (by decide +kernel)
theorem dL_law_2257 : decode cL_law 2257 = .ok (.iload 4, 2) := wa_21 wW47 1 (by decide +kernel)
theorem dL_law_2259 : decode cL_law 2259 = .ok (.iconst 1, 1) := wa_4 wW47 3 (by decide +kernel)
theorem dL_law_2260 : decode cL_law 2260 = .ok (.iadd, 1) := wa_96 wW47 4 (by decide +kernel)
theorem dL_law_2261 : decode cL_law 2261 = .ok (.iaload, 1) := wa_46 wW47 5 (by decide +kernel)
theorem dL_law_2262 : decode cL_law 2262 = .ok (.aload_n 0, 1) := wa_42 wW47 6 (by decide +kernel)
theorem dL_law_2263 : decode cL_law 2263 = .ok (.iload 4, 2) := wa_21 wW47 7 (by decide +kernel)
theorem dL_law_2265 : decode cL_law 2265 = .ok (.iconst 2, 1) := wa_5 wW47 9 (by decide +kernel)
theorem dL_law_2266 : decode cL_law 2266 = .ok (.iadd, 1) := wa_96 wW47 10 (by decide +kernel)
theorem dL_law_2267 : decode cL_law 2267 = .ok (.iaload, 1) := wa_46 wW47 11 (by decide +kernel)
theorem dL_law_2268 : decode cL_law 2268 = .ok (.invokevirtual 180, 3) := wa_182 wW47 12 (by decide +kernel)
theorem dL_law_2271 : decode cL_law 2271 = .ok (.pop, 1) := wa_87 wW47 15 (by decide +kernel)
theorem dL_law_2272 : decode cL_law 2272 = .ok (.goto 69, 3) := wa_167 (y := 69) wW47 16 (by decide +kernel) (by decide +kernel)
theorem dL_law_2275 : decode cL_law 2275 = .ok (.aload_n 1, 1) := wa_43 wW47 19 (by decide +kernel)
theorem dL_law_2276 : decode cL_law 2276 = .ok (.aload_n 0, 1) := wa_42 wW47 20 (by decide +kernel)
theorem dL_law_2277 : decode cL_law 2277 = .ok (.iload 4, 2) := wa_21 wW47 21 (by decide +kernel)
theorem dL_law_2279 : decode cL_law 2279 = .ok (.iconst 1, 1) := wa_4 wW47 23 (by decide +kernel)
theorem dL_law_2280 : decode cL_law 2280 = .ok (.iadd, 1) := wa_96 wW47 24 (by decide +kernel)
theorem dL_law_2281 : decode cL_law 2281 = .ok (.iaload, 1) := wa_46 wW47 25 (by decide +kernel)
theorem dL_law_2282 : decode cL_law 2282 = .ok (.aload_n 3, 1) := wa_45 wW47 26 (by decide +kernel)
theorem dL_law_2283 : decode cL_law 2283 = .ok (.invokestatic 181, 3) := wa_184 wW47 27 (by decide +kernel)
theorem dL_law_2286 : decode cL_law 2286 = .ok (.istore 5, 2) := wa_54 wW47 30 (by decide +kernel)
theorem dL_law_2288 : decode cL_law 2288 = .ok (.aload_n 2, 1) := wa_44 wW47 32 (by decide +kernel)
theorem dL_law_2289 : decode cL_law 2289 = .ok (.aload_n 0, 1) := wa_42 wW47 33 (by decide +kernel)
theorem dL_law_2290 : decode cL_law 2290 = .ok (.iload 4, 2) := wa_21 wW47 34 (by decide +kernel)
theorem dL_law_2292 : decode cL_law 2292 = .ok (.iconst 1, 1) := wa_4 wW47 36 (by decide +kernel)
theorem dL_law_2293 : decode cL_law 2293 = .ok (.iadd, 1) := wa_96 wW47 37 (by decide +kernel)
theorem dL_law_2294 : decode cL_law 2294 = .ok (.iaload, 1) := wa_46 wW47 38 (by decide +kernel)
theorem dL_law_2295 : decode cL_law 2295 = .ok (.invokevirtual 186, 3) := wa_182 wW47 39 (by decide +kernel)
theorem dL_law_2298 : decode cL_law 2298 = .ok (.istore 6, 2) := wa_54 wW47 42 (by decide +kernel)
theorem dL_law_2300 : decode cL_law 2300 = .ok (.goto 41, 3) := wa_167 (y := 41) wW47 44 (by decide +kernel) (by decide +kernel)
theorem dL_law_2303 : decode cL_law 2303 = .ok (.aload_n 1, 1) := wa_43 wW47 47 (by decide +kernel)
theorem dL_law_2304 : decode cL_law 2304 = .ok (.aload_n 0, 1) := wa_42 wW48 0 (by decide +kernel)
theorem dL_law_2305 : decode cL_law 2305 = .ok (.iload 4, 2) := wa_21 wW48 1 (by decide +kernel)
theorem dL_law_2307 : decode cL_law 2307 = .ok (.iconst 1, 1) := wa_4 wW48 3 (by decide +kernel)
theorem dL_law_2308 : decode cL_law 2308 = .ok (.iadd, 1) := wa_96 wW48 4 (by decide +kernel)
theorem dL_law_2309 : decode cL_law 2309 = .ok (.iaload, 1) := wa_46 wW48 5 (by decide +kernel)
theorem dL_law_2310 : decode cL_law 2310 = .ok (.invokevirtual 187, 3) := wa_182 wW48 6 (by decide +kernel)
theorem dL_law_2313 : decode cL_law 2313 = .ok (.pop, 1) := wa_87 wW48 9 (by decide +kernel)
theorem dL_law_2314 : decode cL_law 2314 = .ok (.aload_n 2, 1) := wa_44 wW48 10 (by decide +kernel)
theorem dL_law_2315 : decode cL_law 2315 = .ok (.aload_n 0, 1) := wa_42 wW48 11 (by decide +kernel)
theorem dL_law_2316 : decode cL_law 2316 = .ok (.iload 4, 2) := wa_21 wW48 12 (by decide +kernel)
theorem dL_law_2318 : decode cL_law 2318 = .ok (.iconst 1, 1) := wa_4 wW48 14 (by decide +kernel)
theorem dL_law_2319 : decode cL_law 2319 = .ok (.iadd, 1) := wa_96 wW48 15 (by decide +kernel)
theorem dL_law_2320 : decode cL_law 2320 = .ok (.iaload, 1) := wa_46 wW48 16 (by decide +kernel)
theorem dL_law_2321 : decode cL_law 2321 = .ok (.invokevirtual 190, 3) := wa_182 wW48 17 (by decide +kernel)
theorem dL_law_2324 : decode cL_law 2324 = .ok (.pop, 1) := wa_87 wW48 20 (by decide +kernel)
theorem dL_law_2325 : decode cL_law 2325 = .ok (.goto 16, 3) := wa_167 (y := 16) wW48 21 (by decide +kernel) (by decide +kernel)
theorem dL_law_2328 : decode cL_law 2328 = .ok (.aload_n 1, 1) := wa_43 wW48 24 (by decide +kernel)
theorem dL_law_2329 : decode cL_law 2329 = .ok (.invokevirtual 191, 3) := wa_182 wW48 25 (by decide +kernel)
theorem dL_law_2332 : decode cL_law 2332 = .ok (.pop, 1) := wa_87 wW48 28 (by decide +kernel)
theorem dL_law_2333 : decode cL_law 2333 = .ok (.aload_n 2, 1) := wa_44 wW48 29 (by decide +kernel)
theorem dL_law_2334 : decode cL_law 2334 = .ok (.invokevirtual 194, 3) := wa_182 wW48 30 (by decide +kernel)
theorem dL_law_2337 : decode cL_law 2337 = .ok (.pop, 1) := wa_87 wW48 33 (by decide +kernel)
theorem dL_law_2338 : decode cL_law 2338 = .ok (.goto 3, 3) := wa_167 (y := 3) wW48 34 (by decide +kernel) (by decide +kernel)
theorem dL_law_2341 : decode cL_law 2341 = .ok (.iinc 4 8, 3) := by decide +kernel
theorem dL_law_2344 : decode cL_law 2344 = .ok (.goto (-2321), 3) := wa_167 (y := 63215) wW48 40 (by decide +kernel) (by decide +kernel)
theorem dL_law_2347 : decode cL_law 2347 = .ok (.iconst 1, 1) := wa_4 wW48 43 (by decide +kernel)
theorem dL_law_2348 : decode cL_law 2348 = .ok (.ireturn, 1) := wa_172 wW48 44 (by decide +kernel)
end
section
theorem ldcw_str {p : Program} {l : Launch} {e : Env} {R : Room} {s : State} {m : MethodId} {args : Array Value} {below : List Frame} {meth : Method} {c : Code} {T : State} {locs : List Loc} {cells slots : Nat}
    (X : Stand p l e R s m args below meth c T locs cells slots) (hexec : p.tables.exec = Jvm.exec) {own text : String} {index : Nat} {a : Addr} (hown : s.vm.findClass own = some m.cls)
    (hconst : (Cond.stringRef own index text).before args s = true) (hev : (Term.string own index).eval args s none [] s = some (.ref a)) {g : JFrame} (hg : g.method = m) (hdg : decode c.code g.pc = .ok (.ldc_w index, 3)) :
    ∀ target, Steps p.tables e below (T.setTop { g with pc := g.pc + 3, stack := .ref a :: g.stack }) target → Steps p.tables e below (T.setTop g) target := by
  obtain ⟨k, cf, i, a', hk, hcf, hcp, -, hr, hev'⟩ := Cond.stringRef_spec hown hconst
  cases hev.symm.trans hev'
  obtain ⟨k', hk', he⟩ := X.warmed.alike.2.2 _ _ hk
  have hr' : k'.resolved[index]? = some (some (.string a)) := by
    rcases X.warmed.entry hk hk' index with h | ⟨h, -⟩
    · rw [h]; exact hr
    · rw [hr] at h; cases h
  intro target hrest
  subst hg
  jvm_step X.here [hexec, hdg, ldc_w.wp_string (e := e) (s := T) (f := g) X.here.top hk' (by rw [he]; exact hcf) hcp hr']
  exact hrest
theorem W_ldcwS {p : Program} {l : Launch} {e : Env} {R : Room} {s : State} {m : MethodId} {args : Array Value} {below : List Frame} {meth : Method} {c : Code} {H : Heap} {locs : List Loc} {cells slots : Nat} {Q : State → Prop} {pc : Nat} {ls : Array Slot} {rest : List Value} {cc : ByteArray} (hexec : p.tables.exec = Jvm.exec) (hb : c.code = cc) {own tx : String} {index q : Nat} (hown : s.vm.findClass own = some m.cls) (hZ : vk_R own index tx q s) (hdg : decode cc pc = .ok (.ldc_w index, 3))
    (k : W p l e R s m args below meth c H locs cells slots Q (F0 m (pc + 3) ls (.ref q :: rest))) : W p l e R s m args below meth c H locs cells slots Q (F0 m pc ls rest) := by
  intro T hT X
  obtain ⟨t, a1, b1⟩ := k T hT X
  exact ⟨t, ldcw_str X hexec hown (text := tx) (a := q) hZ.1 hZ.2 (g := F0 m pc ls rest) rfl (by rw [hb]; exact hdg) t a1, b1⟩

/-- String.charAt(k) of a constant -/
def sch (w : Nat) (x : Int32) : Int32 := (sByt.getD w []).getD x.toNatClampNeg 0
theorem sl_ltS (w : Nat) : sLen.getD w 0 < 2147483648 := by
  rw [List.getD_eq_getElem?_getD]
  cases h : sLen[w]? with
  | none => decide
  | some v => exact (show ∀ x ∈ sLen, x < 2147483648 by decide) v (List.mem_of_getElem? h)
section Str
variable {X : CX} {cc : ByteArray} {own : String} {nL k n pc : Nat} {lv lv' : List (Nat × Value)} {st rest : List Value} {S : HS} {rm : Room}
theorem ev_ss (C : Cx X cc own nL rm) : SS (xE X) (xA X) (xs X) (xs X).heap := C.2.2.2.2.2.1.2.2.2.2.2.1
theorem r_getSF (C : Cx X cc own nL rm) {w i : Nat} {nm d : String} {v : Value} (hF : va_OF "java/lang/String" nm d v (eK (xE X) w) (xA X) (xs X) (xs X).heap) (hw : Cond.fieldLink own i "java/lang/String" nm d ∈ G) (hd : decode cc pc = .ok (.getfield i, 3)) (h : WS X nL k n (pc + 3) lv (v :: st) S) : WS X nL k n pc lv (.ref (eK (xE X) w) :: st) S := fun H locs ls hP hD hS hG hv => vk_getf C.1 C.2.1 hF hS C.2.2.2.1 (C.2.2.2.2.1 _ hw) (fun _ z => z) hd (h H locs ls hP hD hS hG hv)
theorem r_getCS (C : Cx X cc own nL rm) {i : Nat} (hw : Cond.fieldLink own i "java/lang/String" "COMPACT_STRINGS" "Z" ∈ G) (hd : decode cc pc = .ok (.getstatic i, 3)) (h : WS X nL k n (pc + 3) lv (.int 1 :: st) S) : WS X nL k n pc lv st S := fun H locs ls hP hD hS hG hv => va_gets C.1 C.2.1 C.2.2.2.2.2.1.2.2.2.2.2.2.1 hS C.2.2.2.1 (C.2.2.2.2.1 _ hw) (fun _ z => z) hd (h H locs ls hP hD hS hG hv)
theorem r_getSQ (C : Cx X cc own nL rm) {i : Nat} (hw : Cond.fieldLink own i "jdk/internal/util/Preconditions" "SIOOBE_FORMATTER" "Ljava/util/function/BiFunction;" ∈ G) (hd : decode cc pc = .ok (.getstatic i, 3)) (h : ∀ v : Value, v.category = 1 → WS X nL k n (pc + 3) lv (v :: st) S) : WS X nL k n pc lv st S := fun H locs ls hP hD hS hG hv => by
  rcases C.2.2.2.2.2.1.2.2.2.2.2.2.2 with hz | ⟨t, hz⟩
  · exact va_gets C.1 C.2.1 hz hS C.2.2.2.1 (C.2.2.2.2.1 _ hw) (fun _ z => z) hd (h .null rfl H locs ls hP hD hS hG hv)
  · exact va_gets C.1 C.2.1 hz hS C.2.2.2.1 (C.2.2.2.2.1 _ hw) (fun _ z => z) hd (h (.ref t) rfl H locs ls hP hD hS hG hv)
theorem r_lenT (C : Cx X cc own nL rm) {w : Nat} (hi : w < 54) (hd : decode cc pc = .ok (.arraylength, 1)) (h : WS X nL k n (pc + 1) lv (.int (nI (sLen.getD w 0)) :: st) S) : WS X nL k n pc lv (.ref (eV (xE X) w) :: st) S := fun H locs ls hP hD hS hG hv => va_tlen C.1 C.2.1 (ev_ss C w hi).2.2.2 hS rfl hd (h H locs ls hP hD hS hG hv)
theorem r_baT (C : Cx X cc own nL rm) {w : Nat} {x : Int32} (hi : w < 54) (hx : vp_in x (sLen.getD w 0)) (hd : decode cc pc = .ok (.baload, 1)) (h : WS X nL k n (pc + 1) lv (.int (sch w x) :: st) S) : WS X nL k n pc lv (.int x :: .ref (eV (xE X) w) :: st) S := fun H locs ls hP hD hS hG hv => va_tb C.1 C.2.1 (ev_ss C w hi).2.2.2 hS hx rfl hd (h H locs ls hP hD hS hG hv)
theorem r_i2c (C : Cx X cc own nL rm) {x v : Int32} (hd : decode cc pc = .ok (.i2c, 1)) (hx : (x.toUInt32 % 65536).toInt32 = v) (h : WS X nL k n (pc + 1) lv (.int v :: st) S) : WS X nL k n pc lv (.int x :: st) S := fun H locs ls hP hD hS hG hv => lv_i2c C.1 C.2.1 hd hx (h H locs ls hP hD hS hG hv)
theorem r_nret (C : Cx X cc own nL rm) {Q : Int32 → HS → Prop} (E : ReI X rm Q) {ty : FieldType} (ht : (xh X).sig.returnType = some ty) {v : Int32} (hnr : narrow ty (.int v) = .int v) (hd : decode cc pc = .ok (.ireturn, 1)) (h1 : k ≤ rm.cells) (h2 : n ≤ rm.slots) (h : Q v S) : WS X nL k n pc lv [.int v] S := fun H locs ls hP hD hS hG hv => by
  rw [E.1]
  refine W.widen h1 h2 ?_
  exact W.zret C.1 C.2.1 ht hnr (fun t htt _ => ⟨⟨v, S, rfl, h, by rw [htt]; exact hP, hD, hG⟩, hS.F htt⟩) hS.2.2 hd (hlocks := E.2)
/-- a method of a string constant -/
theorem r_callO (C : Cx X cc own nL rm) {y : MethodName} {bytes : ByteArray} {nL2 nA i w : Nat} {ret : Option FieldType} {rm2 : Room} {Q : Int32 → HS → Prop} (hi : w < 54) (hyc : y.cls = "java/lang/String") (As : List Value) (w2 : Cond.instanceMethod y ∈ G) (w3 : Cond.selects y.cls y y ∈ G) (w4 : Cond.initialized y.cls ∈ G) (w5 : Cond.code y bytes nL2 ret ∈ G) (w8 : (parseMethodDescriptor y.desc).map (fun d => d.parameters.length) = some nA) (hw : Cond.methodLink own i y ∈ G) (hM : MI (xl X) y bytes nL2 ret rm2 (xE X) S (.ref (eK (xE X) w) :: As) Q) (hd : decode cc pc = .ok (.invokevirtual i, 3)) (hst : st = As.reverse ++ .ref (eK (xE X) w) :: rest) (hn : As.length = nA) (hsum : (rest.map fun v => v.category).sum ≤ 8) (hrm : rm2.frames + 1 ≤ rm.frames ∧ 8 + (nL2 + 11) + rm2.locals ≤ rm.locals) (hz : rm2.cells = 0 ∧ rm2.slots = 0) (hcs : k ≤ rm.cells ∧ n ≤ rm.slots) (h : ∀ (r : Int32) (T : HS), Q r T → Gr S T → WS X nL k n (pc + 3) lv (.int r :: rest) T) : WS X nL k n pc lv st S := fun H locs ls hP hD hS hG hv => by
  have hR := C.2.2.2.2.2.2.2
  have hrec : ∃ cell : Cell, H[eK (xE X) w]? = some cell ∧ cell.vm.isStatics = false ∧ (xs X).vm.findClass y.cls = some cell.cls := by
    rw [hyc]; exact va_Orecv (ev_ss C w hi).1 hS
  have hcs' : k + rm2.cells ≤ rm.cells ∧ n + rm2.slots ≤ rm.slots := by rw [hz.1, hz.2]; exact hcs
  refine va_calli (va_runV (As := As) (rest := rest) ⟨C.1, C.2.1, C.2.2.1, C.2.2.2.1, C.2.2.2.2.1⟩ (hM H.size) (cwV nA C.2.2.2.2.1 (gdV hw w2 w3 w4 w5) rfl rfl rfl ⟨rfl, by rw [hyc]; decide, by rw [hyc]; decide, w8⟩ (by rw [hR]; exact hrm)) ⟨mP_blind _ _ _ _, hrec, pl_pre C (.ref (eK (xE X) w) :: As) hP hD hS⟩ rfl hn hv.1 hst (lv_room hsum) hd (by rw [hR]; exact hcs')) hS (fun q _ h => pl_free C hD hS q h) (pl_free C hD hS) (fun r u t H1 locs1 ht hvm hp hB hz' hk hS1 => ?_)
  have hP1 := hB.1
  rw [ht] at hP1
  have hh := h r u hp hB.2.2 H1 locs1 ls hP1 (hB.2.1.weaken (fun _ q _ z => pl_free C hD hS q.1 z)) hS1 (gr_tr hG hB.2.2) hv
  rw [hz.1, hz.2]
  exact hh
theorem gdS2 {own : String} {i : Nat} {y : MethodName} {cc : ByteArray} {nL : Nat} {ret : Option FieldType} (h1 : Cond.methodLink own i y ∈ G) (h2 : Cond.static y ∈ G) (h4 : Cond.initialized y.cls ∈ G) (h5 : Cond.code y cc nL ret ∈ G) : GoodIn G (va_wsS own i y (mW y cc nL ret)) := fun w hw => by
  rcases List.mem_append.mp hw with hw | hw
  · simp only [List.mem_cons, List.not_mem_nil, or_false] at hw
    rcases hw with rfl | rfl | rfl
    · exact G_good _ h1
    · exact G_good _ h2
    · exact G_good _ h4
  · exact gdW h5 w hw
/-- a static method of another class -/
theorem r_callXi (C : Cx X cc own nL rm) {y : MethodName} {bytes : ByteArray} {nL2 nA i : Nat} {ret : Option FieldType} {rm2 : Room} {Q : Int32 → HS → Prop} (As : List Value) (hY : YS y bytes nL2 ret nA) (hw : Cond.methodLink own i y ∈ G) (hM : MI (xl X) y bytes nL2 ret rm2 (xE X) S As Q) (hd : decode cc pc = .ok (.invokestatic i, 3)) (hst : st = As.reverse ++ rest) (hn : As.length = nA) (hsum : (rest.map fun v => v.category).sum ≤ 8) (hrm : rm2.frames + 1 ≤ rm.frames ∧ 8 + (nL2 + 11) + rm2.locals ≤ rm.locals) (hz : rm2.cells = 0 ∧ rm2.slots = 0) (hcs : k ≤ rm.cells ∧ n ≤ rm.slots) (h : ∀ (r : Int32) (T : HS), Q r T → Gr S T → WS X nL k n (pc + 3) lv (.int r :: rest) T) : WS X nL k n pc lv st S := fun H locs ls hP hD hS hG hv => by
  have hR := C.2.2.2.2.2.2.2
  obtain ⟨w2, w4, w5, w6, w7, w8⟩ := hY
  have hcs' : k + rm2.cells ≤ rm.cells ∧ n + rm2.slots ≤ rm.slots := by rw [hz.1, hz.2]; exact hcs
  refine va_calli (va_runS (As := As) (rest := rest) ⟨C.1, C.2.1, C.2.2.1, C.2.2.2.1, C.2.2.2.2.1⟩ (hM H.size) (va_cwS nA C.2.2.2.2.1 (gdS2 hw w2 w4 w5) rfl rfl rfl ⟨w6, w7, w8⟩ (by rw [hR]; exact hrm)) ⟨mP_blind _ _ _ _, pl_pre C As hP hD hS⟩ rfl hn hv.1 hst (lv_room hsum) hd (by rw [hR]; exact hcs')) hS (fun q _ h => pl_free C hD hS q h) (pl_free C hD hS) (fun r u t H1 locs1 ht hvm hp hB hz' hk hS1 => ?_)
  have hP1 := hB.1
  rw [ht] at hP1
  have hh := h r u hp hB.2.2 H1 locs1 ls hP1 (hB.2.1.weaken (fun _ q _ z => pl_free C hD hS q.1 z)) hS1 (gr_tr hG hB.2.2) hv
  rw [hz.1, hz.2]
  exact hh
theorem r_callXv (C : Cx X cc own nL rm) {y : MethodName} {bytes : ByteArray} {nL2 nA i : Nat} {ret : Option FieldType} {rm2 : Room} {Q : HS → Prop} (As : List Value) (hY : YS y bytes nL2 ret nA) (hw : Cond.methodLink own i y ∈ G) (hM : MV (xl X) y bytes nL2 ret rm2 (xE X) S As Q) (hd : decode cc pc = .ok (.invokestatic i, 3)) (hst : st = As.reverse ++ rest) (hn : As.length = nA) (hsum : (rest.map fun v => v.category).sum ≤ 8) (hrm : rm2.frames + 1 ≤ rm.frames ∧ 8 + (nL2 + 11) + rm2.locals ≤ rm.locals) (hz : rm2.cells = 0 ∧ rm2.slots = 0) (hcs : k ≤ rm.cells ∧ n ≤ rm.slots) (h : ∀ (T : HS), Q T → Gr S T → WS X nL k n (pc + 3) lv rest T) : WS X nL k n pc lv st S := fun H locs ls hP hD hS hG hv => by
  have hR := C.2.2.2.2.2.2.2
  obtain ⟨w2, w4, w5, w6, w7, w8⟩ := hY
  have hcs' : k + rm2.cells ≤ rm.cells ∧ n + rm2.slots ≤ rm.slots := by rw [hz.1, hz.2]; exact hcs
  refine va_callv (va_runS (As := As) (rest := rest) ⟨C.1, C.2.1, C.2.2.1, C.2.2.2.1, C.2.2.2.2.1⟩ (hM H.size) (va_cwS nA C.2.2.2.2.1 (gdS2 hw w2 w4 w5) rfl rfl rfl ⟨w6, w7, w8⟩ (by rw [hR]; exact hrm)) ⟨mP_blind _ _ _ _, pl_pre C As hP hD hS⟩ rfl hn hv.1 hst (lv_room hsum) hd (by rw [hR]; exact hcs')) hS (fun q _ h => pl_free C hD hS q h) (pl_free C hD hS) (fun u t H1 locs1 ht hvm hp hB hz' hk hS1 => ?_)
  have hP1 := hB.1
  rw [ht] at hP1
  have hh := h u hp hB.2.2 H1 locs1 ls hP1 (hB.2.1.weaken (fun _ q _ z => pl_free C hD hS q.1 z)) hS1 (gr_tr hG hB.2.2) hv
  rw [hz.1, hz.2]
  exact hh
end Str
def rm_st0 : Room := { frames := 0, cells := 0, slots := 0, locals := 0 }
def rm_len : Room := { frames := 1, cells := 0, slots := 0, locals := 20 }
theorem c_coder {l : Launch} {Ee : EE} {S : HS} {w : Nat} (hi : w < 54) : MI l yJ0_coder_7d493 cJ0_coder_7d493 1 (some .byte) rm_st0 Ee S [.ref (eK Ee w)] (fun r T => r = 0 ∧ T = S) :=
  openI (by decide) (Nat.le_of_ble_eq_true rfl) (fun X C E ht hn hE hl => by
    subst hE
    refine r_getCS (pc := 0) C g_470 dJ0_coder_7d493_0 ?_
    refine r_if_eq (pc := 3) C (tgt := 13) dJ0_coder_7d493_3 (by decide) (fun c => absurd c (by decide)) (fun _ => ?_)
    refine r_aload_n (pc := 6) C dJ0_coder_7d493_6 0 rfl ?_
    refine r_getSF (pc := 7) C (ev_ss C w hi).2.1 g_1873 dJ0_coder_7d493_7 ?_
    refine r_goto (pc := 10) C (tgt := 14) dJ0_coder_7d493_10 (by decide) ?_
    exact r_nret (pc := 14) C E ht rfl dJ0_coder_7d493_14 (by decide) (by decide) ⟨rfl, rfl⟩)
theorem c_isLatin1 {l : Launch} {Ee : EE} {S : HS} {w : Nat} (hi : w < 54) : MI l yJ0_isLatin1_aae02 cJ0_isLatin1_aae02 1 (some .boolean) rm_st0 Ee S [.ref (eK Ee w)] (fun r T => r = 1 ∧ T = S) :=
  openI (by decide) (Nat.le_of_ble_eq_true rfl) (fun X C E ht hn hE hl => by
    subst hE
    refine r_getCS (pc := 0) C g_470 dJ0_isLatin1_aae02_0 ?_
    refine r_if_eq (pc := 3) C (tgt := 17) dJ0_isLatin1_aae02_3 (by decide) (fun c => absurd c (by decide)) (fun _ => ?_)
    refine r_aload_n (pc := 6) C dJ0_isLatin1_aae02_6 0 rfl ?_
    refine r_getSF (pc := 7) C (ev_ss C w hi).2.1 g_1873 dJ0_isLatin1_aae02_7 ?_
    refine r_if_ne (pc := 10) C (tgt := 17) dJ0_isLatin1_aae02_10 (by decide) (fun c => absurd c (by decide)) (fun _ => ?_)
    refine r_iconst (pc := 13) C (v := (1 : Int32)) dJ0_isLatin1_aae02_13 (by decide) ?_
    refine r_goto (pc := 14) C (tgt := 18) dJ0_isLatin1_aae02_14 (by decide) ?_
    exact r_nret (pc := 18) C E ht rfl dJ0_isLatin1_aae02_18 (by decide) (by decide) ⟨rfl, rfl⟩)
theorem c_length {l : Launch} {Ee : EE} {S : HS} {w : Nat} (hi : w < 54) : MI l yJ0_length_8abf5 cJ0_length_8abf5 1 (some .int) rm_len Ee S [.ref (eK Ee w)] (fun r T => r = nI (sLen.getD w 0) ∧ T = S) :=
  openI (by decide) (Nat.le_of_ble_eq_true rfl) (fun X C E ht hn hE hl => by
    subst hE
    refine r_aload_n (pc := 0) C dJ0_length_8abf5_0 0 rfl ?_
    refine r_getSF (pc := 1) C (ev_ss C w hi).2.2.1 g_1872 dJ0_length_8abf5_1 ?_
    refine r_lenT (pc := 4) C hi dJ0_length_8abf5_4 ?_
    refine r_aload_n (pc := 5) C dJ0_length_8abf5_5 0 rfl ?_
    refine r_callO (pc := 6) C (rest := [.int (nI (sLen.getD w 0))]) hi rfl [] g_467 g_468 g_13 g_469 (by decide +kernel) g_466 (c_coder hi) dJ0_length_8abf5_6 rfl rfl (Nat.le_of_ble_eq_true rfl) ⟨by decide, by decide⟩ ⟨rfl, rfl⟩ ⟨by decide, by decide⟩ (fun r T h _ => ?_)
    obtain ⟨rfl, rfl⟩ := h
    refine r_ishr (pc := 9) C dJ0_length_8abf5_9 ?_
    have e : nI (sLen.getD w 0) >>> ((0 : Int32) &&& 31) = nI (sLen.getD w 0) := by
      have z : (0 : Int32) &&& 31 = 0 := by decide
      rw [z]
      exact Int32.shiftRight_zero
    rw [e]
    exact r_iret (pc := 10) C E ht dJ0_length_8abf5_10 (by decide) (by decide) ⟨rfl, rfl⟩)
theorem r_slen {X : CX} {cc : ByteArray} {own : String} {nL k n pc : Nat} {lv : List (Nat × Value)} {st : List Value} {S : HS} {rm : Room} (C : Cx X cc own nL rm) {i w : Nat} (hw : Cond.methodLink own i yJ0_length_8abf5 ∈ G) (hd : decode cc pc = .ok (.invokevirtual i, 3)) (hi : w < 54) (hf : 2 ≤ rm.frames) (hlo : 40 ≤ rm.locals) (h1 : k ≤ rm.cells) (h2 : n ≤ rm.slots) (hsum : (st.map fun v => v.category).sum ≤ 8) (h : WS X nL k n (pc + 3) lv (.int (nI (sLen.getD w 0)) :: st) S) : WS X nL k n pc lv (.ref (eK (xE X) w) :: st) S := by
  refine r_callO C (rest := st) hi rfl [] g_463 g_464 g_13 g_465 (by decide +kernel) hw (c_length hi) hd rfl rfl hsum ⟨by show 1 + 1 ≤ _; omega, by show 8 + (1 + 11) + 20 ≤ _; omega⟩ ⟨rfl, rfl⟩ ⟨h1, h2⟩ (fun r T h' _ => ?_)
  obtain ⟨rfl, rfl⟩ := h'
  exact h

theorem sch_ok : ∀ w, w < 54 → ∀ k, k < sLen.getD w 0 → (((sByt.getD w []).getD k 0 &&& 255).toUInt32 % 65536).toInt32 = (sByt.getD w []).getD k 0 ∧ ((sByt.getD w []).getD k 0).toUInt32.toUInt16.toUInt32.toInt32 = (sByt.getD w []).getD k 0 := by decide +kernel
def rm_chk : Room := { frames := 1, cells := 0, slots := 0, locals := 22 }
def rm_lch : Room := { frames := 2, cells := 0, slots := 0, locals := 43 }
def rm_cha : Room := { frames := 3, cells := 0, slots := 0, locals := 64 }
theorem c_pcheck {l : Launch} {Ee : EE} {S : HS} {i n : Int32} {v : Value} (hv : v.category = 1) (h0 : ¬ i < 0) (h1 : i < n) : MI l yJ3_checkIndex_8e157 cJ3_checkIndex_8e157 3 (some .int) rm_st0 Ee S [.int i, .int n, v] (fun r T => T = S) :=
  openI (by decide) (by
    have e : (lg_sl [.int i, .int n, v]).length = 3 := by
      cases v <;> first | rfl | exact absurd hv (show ¬ ((2 : Nat) = 1) by decide)
    rw [e]; exact Nat.le_refl 3) (fun X C E ht hn hE hl => by
    subst hE
    refine r_iload_n (pc := 0) C dJ3_checkIndex_8e157_0 0 rfl ?_
    refine r_if_lt (pc := 1) C (tgt := 9) dJ3_checkIndex_8e157_1 (by decide) (fun c => absurd c h0) (fun _ => ?_)
    refine r_iload_n (pc := 4) C dJ3_checkIndex_8e157_4 0 rfl ?_
    refine r_iload_n (pc := 5) C dJ3_checkIndex_8e157_5 1 rfl ?_
    refine r_icmp_lt (pc := 6) C (tgt := 16) dJ3_checkIndex_8e157_6 (by decide) (fun _ => ?_) (fun c => absurd h1 c)
    refine r_iload_n (pc := 16) C dJ3_checkIndex_8e157_16 0 rfl ?_
    exact r_iret (pc := 17) C E ht dJ3_checkIndex_8e157_17 (by decide) (by decide) rfl)
theorem c_check {l : Launch} {Ee : EE} {S : HS} {i n : Int32} (h0 : ¬ i < 0) (h1 : i < n) : MV l yJ0_checkIndex_df160 cJ0_checkIndex_df160 2 none rm_chk Ee S [.int i, .int n] (fun T => T = S) :=
  openV (by decide) (Nat.le_of_ble_eq_true rfl) (fun X C E ht hn hE hl => by
    subst hE
    refine r_iload_n (pc := 0) C dJ0_checkIndex_df160_0 0 rfl ?_
    refine r_iload_n (pc := 1) C dJ0_checkIndex_df160_1 1 rfl ?_
    refine r_getSQ (pc := 2) C g_487 dJ0_checkIndex_df160_2 (fun v hv => ?_)
    refine r_callXi (pc := 5) C (nA := 3) (rest := []) [.int i, .int n, v] ⟨g_490, g_15, g_491, by decide, by decide, by decide +kernel⟩ g_489 (c_pcheck hv h0 h1) dJ0_checkIndex_df160_5 rfl rfl (Nat.le_of_ble_eq_true rfl) ⟨by decide, by decide⟩ ⟨rfl, rfl⟩ ⟨by decide, by decide⟩ (fun r T h _ => ?_)
    subst h
    refine r_pop (pc := 8) C dJ0_checkIndex_df160_8 rfl ?_
    exact r_vret (pc := 9) C E ht dJ0_checkIndex_df160_9 (by decide) (by decide) rfl)
theorem c_lchar {l : Launch} {Ee : EE} {S : HS} {w : Nat} {x : Int32} (hi : w < 54) (hx : vp_in x (sLen.getD w 0)) : MI l yJ1_charAt_3b067 cJ1_charAt_3b067 2 (some .char) rm_lch Ee S [.ref (eV Ee w), .int x] (fun r T => r = sch w x ∧ T = S) :=
  openI (by decide) (Nat.le_of_ble_eq_true rfl) (fun X C E ht hn hE hl => by
    subst hE
    have hlt : x.toNatClampNeg < sLen.getD w 0 := Nat.not_le.mp fun z => hx (Or.inr z)
    have hx0 : ¬ x < 0 := fun z => hx (Or.inl z)
    have hx1 : x < nI (sLen.getD w 0) := by
      have hb := sl_ltS w
      refine Int32.lt_iff_toInt_lt.mpr ?_
      rw [nI_toInt hb]
      have z0 : 0 ≤ x.toInt := by
        have := Int32.le_iff_toInt_le.mp (Int32.not_lt.mp hx0)
        simpa using this
      have : x.toInt.toNat < sLen.getD w 0 := hlt
      omega
    obtain ⟨e1, e2⟩ := sch_ok w hi _ hlt
    refine r_iload_n (pc := 0) C dJ1_charAt_3b067_0 1 rfl ?_
    refine r_aload_n (pc := 1) C dJ1_charAt_3b067_1 0 rfl ?_
    refine r_lenT (pc := 2) C hi dJ1_charAt_3b067_2 ?_
    refine r_callXv (pc := 3) C (nA := 2) (rest := []) [.int x, .int (nI (sLen.getD w 0))] ⟨g_485, g_13, g_486, by decide, by decide, by decide +kernel⟩ g_484 (c_check hx0 hx1) dJ1_charAt_3b067_3 rfl rfl (Nat.le_of_ble_eq_true rfl) ⟨by decide, by decide⟩ ⟨rfl, rfl⟩ ⟨by decide, by decide⟩ (fun T h _ => ?_)
    subst h
    refine r_aload_n (pc := 6) C dJ1_charAt_3b067_6 0 rfl ?_
    refine r_iload_n (pc := 7) C dJ1_charAt_3b067_7 1 rfl ?_
    refine r_baT (pc := 8) C hi hx dJ1_charAt_3b067_8 ?_
    refine r_sipush (pc := 9) C (v := (255 : Int32)) dJ1_charAt_3b067_9 (by decide) ?_
    refine r_iand (pc := 12) C dJ1_charAt_3b067_12 ?_
    refine r_i2c (pc := 13) C dJ1_charAt_3b067_13 (v := sch w x) e1 ?_
    exact r_nret (pc := 14) C E ht (congrArg Value.int e2) dJ1_charAt_3b067_14 (by decide) (by decide) ⟨rfl, rfl⟩)
theorem c_char {l : Launch} {Ee : EE} {S : HS} {w : Nat} {x : Int32} (hi : w < 54) (hx : vp_in x (sLen.getD w 0)) : MI l yJ0_charAt_5068e cJ0_charAt_5068e 2 (some .char) rm_cha Ee S [.ref (eK Ee w), .int x] (fun r T => r = sch w x ∧ T = S) :=
  openI (by decide) (Nat.le_of_ble_eq_true rfl) (fun X C E ht hn hE hl => by
    subst hE
    have hlt : x.toNatClampNeg < sLen.getD w 0 := Nat.not_le.mp fun z => hx (Or.inr z)
    obtain ⟨e1, e2⟩ := sch_ok w hi _ hlt
    refine r_aload_n (pc := 0) C dJ0_charAt_5068e_0 0 rfl ?_
    refine r_callO (pc := 1) C (rest := []) hi rfl [] g_478 g_479 g_13 g_480 (by decide +kernel) g_477 (c_isLatin1 hi) dJ0_charAt_5068e_1 rfl rfl (Nat.le_of_ble_eq_true rfl) ⟨by decide, by decide⟩ ⟨rfl, rfl⟩ ⟨by decide, by decide⟩ (fun r T h _ => ?_)
    obtain ⟨rfl, rfl⟩ := h
    refine r_if_eq (pc := 4) C (tgt := 16) dJ0_charAt_5068e_4 (by decide) (fun c => absurd c (by decide)) (fun _ => ?_)
    refine r_aload_n (pc := 7) C dJ0_charAt_5068e_7 0 rfl ?_
    refine r_getSF (pc := 8) C (ev_ss C w hi).2.2.1 g_1872 dJ0_charAt_5068e_8 ?_
    refine r_iload_n (pc := 11) C dJ0_charAt_5068e_11 1 rfl ?_
    refine r_callXi (pc := 12) C (nA := 2) (rest := []) [.ref (eV (xE X) w), .int x] ⟨g_482, g_14, g_483, by decide, by decide, by decide +kernel⟩ g_481 (c_lchar hi hx) dJ0_charAt_5068e_12 rfl rfl (Nat.le_of_ble_eq_true rfl) ⟨by decide, by decide⟩ ⟨rfl, rfl⟩ ⟨by decide, by decide⟩ (fun r T h _ => ?_)
    obtain ⟨rfl, rfl⟩ := h
    exact r_nret (pc := 15) C E ht (congrArg Value.int e2) dJ0_charAt_5068e_15 (by decide) (by decide) ⟨rfl, rfl⟩)
theorem r_schar {X : CX} {cc : ByteArray} {own : String} {nL k n pc : Nat} {lv : List (Nat × Value)} {st : List Value} {S : HS} {rm : Room} (C : Cx X cc own nL rm) {i w : Nat} {x : Int32} (hw : Cond.methodLink own i yJ0_charAt_5068e ∈ G) (hd : decode cc pc = .ok (.invokevirtual i, 3)) (hi : w < 54) (hx : vp_in x (sLen.getD w 0)) (hf : 5 ≤ rm.frames) (hlo : 120 ≤ rm.locals) (h1 : k ≤ rm.cells) (h2 : n ≤ rm.slots) (hsum : (st.map fun v => v.category).sum ≤ 8) (h : WS X nL k n (pc + 3) lv (.int (sch w x) :: st) S) : WS X nL k n pc lv (.int x :: .ref (eK (xE X) w) :: st) S := by
  refine r_callO C (nA := 1) (rest := st) hi rfl [.int x] g_474 g_475 g_13 g_476 (by decide +kernel) hw (c_char hi hx) hd rfl rfl hsum ⟨by show 3 + 1 ≤ _; omega, by show 8 + (2 + 11) + 64 ≤ _; omega⟩ ⟨rfl, rfl⟩ ⟨h1, h2⟩ (fun r T h' _ => ?_)
  obtain ⟨rfl, rfl⟩ := h'
  exact h
end
section
section More
variable {X : CX} {cc : ByteArray} {own : String} {nL k n pc : Nat} {lv lv' : List (Nat × Value)} {st rest : List Value} {S : HS} {rm : Room}
theorem r_objinit (C : Cx X cc own nL rm) {i a : Nat} (hw : Cond.methodLink own i objectInit ∈ G) (hd : decode cc pc = .ok (.invokespecial i, 3)) (hf : 1 ≤ rm.frames) (hlo : (st.map fun v => v.category).sum + 12 ≤ rm.locals) (h : WS X nL k n (pc + 3) lv st S) : WS X nL k n pc lv (.ref a :: st) S := fun H locs ls hP hD hS hG hv => by
  have hR := C.2.2.2.2.2.2.2
  refine W.objInit C.1 C.2.1 C.2.2.2.1 (C.2.2.2.2.1 _ hw) (C.2.2.2.2.1 _ g_28) (C.2.2.2.2.1 _ g_29) rfl (by rw [C.2.2.1]; exact hv.1) rfl hd (by rw [hR]; exact hf) (by rw [hR]; show 2 * 0 + _ + 12 ≤ _; omega) ?_
  exact h H locs ls hP hD hS hG hv
theorem r_max (C : Cx X cc own nL rm) {i : Nat} {x y : Int32} (hw : Cond.methodLink own i Lib.Math.max.name ∈ G) (hd : decode cc pc = .ok (.invokestatic i, 3)) (hf : 1 ≤ rm.frames) (hlo : (st.map fun v => v.category).sum + 13 ≤ rm.locals) (h1 : k ≤ rm.cells) (h2 : n ≤ rm.slots) (h : WS X nL k n (pc + 3) lv (.int (if x < y then y else x) :: st) S) : WS X nL k n pc lv (.int y :: .int x :: st) S := fun H locs ls hP hD hS hG hv => by
  have hR := C.2.2.2.2.2.2.2
  exact va_mmax C.1 C.2.1 (C.2.2.1.trans hv.1.symm) C.2.2.2.1 (C.2.2.2.2.1 _ hw) (C.2.2.2.2.1 _ g_706) (C.2.2.2.2.1 _ g_12) (C.2.2.2.2.1 _ g_707) (by rw [hR]; exact hf) (by rw [hR]; exact hlo) (by rw [hR]; exact h1) (by rw [hR]; exact h2) hd (h H locs ls hP hD hS hG hv)
theorem r_min (C : Cx X cc own nL rm) {i : Nat} {x y : Int32} (hw : Cond.methodLink own i Lib.Math.min.name ∈ G) (hd : decode cc pc = .ok (.invokestatic i, 3)) (hf : 1 ≤ rm.frames) (hlo : (st.map fun v => v.category).sum + 13 ≤ rm.locals) (h1 : k ≤ rm.cells) (h2 : n ≤ rm.slots) (h : WS X nL k n (pc + 3) lv (.int (if y < x then y else x) :: st) S) : WS X nL k n pc lv (.int y :: .int x :: st) S := fun H locs ls hP hD hS hG hv => by
  have hR := C.2.2.2.2.2.2.2
  exact va_mmin C.1 C.2.1 (C.2.2.1.trans hv.1.symm) C.2.2.2.1 (C.2.2.2.2.1 _ hw) (C.2.2.2.2.1 _ g_443) (C.2.2.2.2.1 _ g_12) (C.2.2.2.2.1 _ g_444) (by rw [hR]; exact hf) (by rw [hR]; exact hlo) (by rw [hR]; exact h1) (by rw [hR]; exact h2) hd (h H locs ls hP hD hS hG hv)
theorem r_maxl (C : Cx X cc own nL rm) {i : Nat} {x y : Int64} (hw : Cond.methodLink own i Lib.MathLoose.max_long.x ∈ G) (hd : decode cc pc = .ok (.invokestatic i, 3)) (hf : 1 ≤ rm.frames) (hlo : (st.map fun v => v.category).sum + 15 ≤ rm.locals) (h1 : k ≤ rm.cells) (h2 : n ≤ rm.slots) (h : WS X nL k n (pc + 3) lv (.long (if y < x then x else y) :: st) S) : WS X nL k n pc lv (.long y :: .long x :: st) S := fun H locs ls hP hD hS hG hv => by
  have hR := C.2.2.2.2.2.2.2
  exact va_mmax_long C.1 C.2.1 (C.2.2.1.trans hv.1.symm) C.2.2.2.1 (C.2.2.2.2.1 _ hw) (C.2.2.2.2.1 _ g_1030) (C.2.2.2.2.1 _ g_12) (C.2.2.2.2.1 _ g_1031) (by rw [hR]; exact hf) (by rw [hR]; exact hlo) (by rw [hR]; exact h1) (by rw [hR]; exact h2) hd (h H locs ls hP hD hS hG hv)
theorem r_table (C : Cx X cc own nL rm) {dflt lo hi : Int} {offs : Array Int} {len : Nat} {x : Int32} {tgt : Nat} (hd : decode cc pc = .ok (.tableswitch dflt lo hi offs, len)) (ht : (pc : Int) + dflt = (tgt : Int)) (h1 : x.toInt < lo ∨ hi < x.toInt → WS X nL k n tgt lv st S) (h2 : ∀ j : Nat, lo + j ≤ hi → x.toInt = lo + j → ∃ (off : Int) (tg : Nat), offs[j]? = some off ∧ (pc : Int) + off = (tg : Int) ∧ WS X nL k n tg lv st S) : WS X nL k n pc lv (.int x :: st) S := by
  by_cases c : x.toInt < lo ∨ hi < x.toInt
  · exact r_tableOut C hd c ht (h1 c)
  · have c1 : ¬ x.toInt < lo := fun q => c (Or.inl q)
    have c2 : ¬ hi < x.toInt := fun q => c (Or.inr q)
    obtain ⟨off, tg, e1, e2, e3⟩ := h2 (x.toInt - lo).toNat (by omega) (by omega)
    exact r_tableIn C hd c1 c2 e1 e2 e3
theorem r_lds (C : Cx X cc own nL rm) {i : Nat} {tx : String} (w : Nat) (hw : SR[w]? = some (own, i, tx)) (hd : decode cc pc = .ok (.ldc i, 2)) (h : WS X nL k n (pc + 2) lv (.ref (eK (xE X) w) :: st) S) : WS X nL k n pc lv st S := fun H locs ls hP hD hS hG hv =>
  va_ldcS C.1 C.2.1 C.2.2.2.1 (C.2.2.2.2.2.1.2.2.2.2.1 w _ hw) hd (h H locs ls hP hD hS hG hv)
theorem r_ldsw (C : Cx X cc own nL rm) {i : Nat} {tx : String} (w : Nat) (hw : SR[w]? = some (own, i, tx)) (hd : decode cc pc = .ok (.ldc_w i, 3)) (h : WS X nL k n (pc + 3) lv (.ref (eK (xE X) w) :: st) S) : WS X nL k n pc lv st S := fun H locs ls hP hD hS hG hv =>
  W_ldcwS C.1 C.2.1 C.2.2.2.1 (C.2.2.2.2.2.1.2.2.2.2.1 w _ hw) hd (h H locs ls hP hD hS hG hv)
end More
section Zero
variable {X : CX} {cc : ByteArray} {own : String} {nL k n pc : Nat} {lv lv' : List (Nat × Value)} {st rest : List Value} {S : HS} {rm : Room}
theorem r_callVi0 (C : Cx X cc own nL rm) {y : MethodName} {bytes : ByteArray} {nL2 nA i : Nat} {ci : Nat} {a : Nat} {ret : Option FieldType} {rm2 : Room} {Q : Int32 → HS → Prop} (ho : ob S a ci) (As : List Value) (hY : YV y bytes nL2 ret ci nA) (hw : Cond.methodLink own i y ∈ G) (hM : MI (xl X) y bytes nL2 ret rm2 (xE X) S (.ref a :: As) Q) (hd : decode cc pc = .ok (.invokevirtual i, 3)) (hst : st = As.reverse ++ .ref a :: rest) (hn : As.length = nA) (hsum : (rest.map fun v => v.category).sum ≤ 8) (hrm : rm2.frames + 1 ≤ rm.frames ∧ 8 + (nL2 + 11) + rm2.locals ≤ rm.locals) (hcs : k ≤ rm.cells ∧ n ≤ rm.slots) (hz : rm2.cells = 0 ∧ rm2.slots = 0) (h : ∀ (r : Int32) (T : HS), Q r T → Gr S T → WS X nL k n (pc + 3) lv (.int r :: rest) T) : WS X nL k n pc lv st S :=
  r_callVi C ho As hY hw hM hd hst hn hsum hrm (by rw [hz.1, hz.2]; exact hcs) (by rw [hz.1, hz.2]; exact h)
theorem r_callVl0 (C : Cx X cc own nL rm) {y : MethodName} {bytes : ByteArray} {nL2 nA i : Nat} {ci : Nat} {a : Nat} {ret : Option FieldType} {rm2 : Room} {Q : Int64 → HS → Prop} (ho : ob S a ci) (As : List Value) (hY : YV y bytes nL2 ret ci nA) (hw : Cond.methodLink own i y ∈ G) (hM : MJ (xl X) y bytes nL2 ret rm2 (xE X) S (.ref a :: As) Q) (hd : decode cc pc = .ok (.invokevirtual i, 3)) (hst : st = As.reverse ++ .ref a :: rest) (hn : As.length = nA) (hsum : (rest.map fun v => v.category).sum ≤ 8) (hrm : rm2.frames + 1 ≤ rm.frames ∧ 8 + (nL2 + 11) + rm2.locals ≤ rm.locals) (hcs : k ≤ rm.cells ∧ n ≤ rm.slots) (hz : rm2.cells = 0 ∧ rm2.slots = 0) (h : ∀ (r : Int64) (T : HS), Q r T → Gr S T → WS X nL k n (pc + 3) lv (.long r :: rest) T) : WS X nL k n pc lv st S :=
  r_callVl C ho As hY hw hM hd hst hn hsum hrm (by rw [hz.1, hz.2]; exact hcs) (by rw [hz.1, hz.2]; exact h)
theorem r_callVv0 (C : Cx X cc own nL rm) {y : MethodName} {bytes : ByteArray} {nL2 nA i : Nat} {ci : Nat} {a : Nat} {ret : Option FieldType} {rm2 : Room} {Q : HS → Prop} (ho : ob S a ci) (As : List Value) (hY : YV y bytes nL2 ret ci nA) (hw : Cond.methodLink own i y ∈ G) (hM : MV (xl X) y bytes nL2 ret rm2 (xE X) S (.ref a :: As) Q) (hd : decode cc pc = .ok (.invokevirtual i, 3)) (hst : st = As.reverse ++ .ref a :: rest) (hn : As.length = nA) (hsum : (rest.map fun v => v.category).sum ≤ 8) (hrm : rm2.frames + 1 ≤ rm.frames ∧ 8 + (nL2 + 11) + rm2.locals ≤ rm.locals) (hcs : k ≤ rm.cells ∧ n ≤ rm.slots) (hz : rm2.cells = 0 ∧ rm2.slots = 0) (h : ∀ (T : HS), Q T → Gr S T → WS X nL k n (pc + 3) lv rest T) : WS X nL k n pc lv st S :=
  r_callVv C ho As hY hw hM hd hst hn hsum hrm (by rw [hz.1, hz.2]; exact hcs) (by rw [hz.1, hz.2]; exact h)
theorem r_callVr0 (C : Cx X cc own nL rm) {y : MethodName} {bytes : ByteArray} {nL2 nA i : Nat} {ci : Nat} {a : Nat} {ret : Option FieldType} {rm2 : Room} {Q : Option Nat → HS → Prop} (ho : ob S a ci) (As : List Value) (hY : YV y bytes nL2 ret ci nA) (hw : Cond.methodLink own i y ∈ G) (hM : MR (xl X) y bytes nL2 ret rm2 (xE X) S (.ref a :: As) Q) (hd : decode cc pc = .ok (.invokevirtual i, 3)) (hst : st = As.reverse ++ .ref a :: rest) (hn : As.length = nA) (hsum : (rest.map fun v => v.category).sum ≤ 8) (hrm : rm2.frames + 1 ≤ rm.frames ∧ 8 + (nL2 + 11) + rm2.locals ≤ rm.locals) (hcs : k ≤ rm.cells ∧ n ≤ rm.slots) (hz : rm2.cells = 0 ∧ rm2.slots = 0) (h : ∀ (r : Option Nat) (T : HS), Q r T → Gr S T → WS X nL k n (pc + 3) lv (va_rf r :: rest) T) : WS X nL k n pc lv st S :=
  r_callVr C ho As hY hw hM hd hst hn hsum hrm (by rw [hz.1, hz.2]; exact hcs) (by rw [hz.1, hz.2]; exact h)
theorem r_callSi0 (C : Cx X cc own nL rm) {y : MethodName} {bytes : ByteArray} {nL2 nA i : Nat}  {ret : Option FieldType} {rm2 : Room} {Q : Int32 → HS → Prop} (hyo : y.cls = own) (As : List Value) (hY : YS y bytes nL2 ret nA) (hw : Cond.methodLink own i y ∈ G) (hM : MI (xl X) y bytes nL2 ret rm2 (xE X) S As Q) (hd : decode cc pc = .ok (.invokestatic i, 3)) (hst : st = As.reverse ++ rest) (hn : As.length = nA) (hsum : (rest.map fun v => v.category).sum ≤ 8) (hrm : rm2.frames + 1 ≤ rm.frames ∧ 8 + (nL2 + 11) + rm2.locals ≤ rm.locals) (hcs : k ≤ rm.cells ∧ n ≤ rm.slots) (hz : rm2.cells = 0 ∧ rm2.slots = 0) (h : ∀ (r : Int32) (T : HS), Q r T → Gr S T → WS X nL k n (pc + 3) lv (.int r :: rest) T) : WS X nL k n pc lv st S :=
  r_callSi C hyo As hY hw hM hd hst hn hsum hrm (by rw [hz.1, hz.2]; exact hcs) (by rw [hz.1, hz.2]; exact h)
theorem r_callSl0 (C : Cx X cc own nL rm) {y : MethodName} {bytes : ByteArray} {nL2 nA i : Nat}  {ret : Option FieldType} {rm2 : Room} {Q : Int64 → HS → Prop} (hyo : y.cls = own) (As : List Value) (hY : YS y bytes nL2 ret nA) (hw : Cond.methodLink own i y ∈ G) (hM : MJ (xl X) y bytes nL2 ret rm2 (xE X) S As Q) (hd : decode cc pc = .ok (.invokestatic i, 3)) (hst : st = As.reverse ++ rest) (hn : As.length = nA) (hsum : (rest.map fun v => v.category).sum ≤ 8) (hrm : rm2.frames + 1 ≤ rm.frames ∧ 8 + (nL2 + 11) + rm2.locals ≤ rm.locals) (hcs : k ≤ rm.cells ∧ n ≤ rm.slots) (hz : rm2.cells = 0 ∧ rm2.slots = 0) (h : ∀ (r : Int64) (T : HS), Q r T → Gr S T → WS X nL k n (pc + 3) lv (.long r :: rest) T) : WS X nL k n pc lv st S :=
  r_callSl C hyo As hY hw hM hd hst hn hsum hrm (by rw [hz.1, hz.2]; exact hcs) (by rw [hz.1, hz.2]; exact h)
theorem r_callNv0 (C : Cx X cc own nL rm) {y : MethodName} {bytes : ByteArray} {nL2 nA i : Nat} {a : Nat} {host : String} {rm2 : Room} {Q : HS → Prop} (As : List Value) (hY : YI y bytes nL2 nA) (hw : (own, i, y, host) ∈ NM) (hM : MV (xl X) y bytes nL2 none rm2 (xE X) S (.ref a :: As) Q) (hd : decode cc pc = .ok (.invokespecial i, 3)) (hst : st = As.reverse ++ .ref a :: rest) (hn : As.length = nA) (hsum : (rest.map fun v => v.category).sum ≤ 8) (hrm : rm2.frames + 1 ≤ rm.frames ∧ 8 + (nL2 + 11) + rm2.locals ≤ rm.locals) (hcs : k ≤ rm.cells ∧ n ≤ rm.slots) (hz : rm2.cells = 0 ∧ rm2.slots = 0) (h : ∀ (T : HS), Q T → Gr S T → WS X nL k n (pc + 3) lv rest T) : WS X nL k n pc lv st S :=
  r_callNv C As hY hw hM hd hst hn hsum hrm (by rw [hz.1, hz.2]; exact hcs) (by rw [hz.1, hz.2]; exact h)
theorem r_rf {a : Nat} (h : WS X nL k n pc lv (.ref a :: st) S) : WS X nL k n pc lv (va_rf (some a) :: st) S := h
theorem gr_of_new {T : HS} {a z N : Nat} (e : T = nW S a z N) (ha : a ∉ hL S) : Gr S T := by rw [e]; exact gr_nW (gr_rf S) z N ha
theorem ob_of_new {T : HS} {a z N : Nat} (e : T = nW S a z N) : ob T a z := by rw [e]; exact ⟨List.mem_append_right _ (List.mem_singleton.mpr rfl), va_up_self _ _ _⟩
theorem ob_I {T : HS} {a j b q : Nat} {v : Int32} (e : T = sI S a j v) (o : ob S b q) : ob T b q := by rw [e]; exact o
theorem ob_J {T : HS} {a j b q : Nat} {v : Int64} (e : T = sJ S a j v) (o : ob S b q) : ob T b q := by rw [e]; exact o
theorem ob_R {T : HS} {a j b q : Nat} {v : Option Nat} (e : T = sR S a j v) (o : ob S b q) : ob T b q := by rw [e]; exact o
end Zero
end
section
theorem fL_X0_18 : FL RX0 18 0 4 2 := ⟨_, rfl, by decide, by decide, g_368, rfl⟩
theorem fL_X0_22 : FL RX0 22 0 5 2 := ⟨_, rfl, by decide, by decide, g_370, rfl⟩
theorem fL_X0_26 : FL RX0 26 0 6 2 := ⟨_, rfl, by decide, by decide, g_371, rfl⟩
theorem fL_X0_29 : FL RX0 29 0 2 0 := ⟨_, rfl, by decide, by decide, g_364, rfl⟩
theorem fL_X0_32 : FL RX0 32 0 3 0 := ⟨_, rfl, by decide, by decide, g_366, rfl⟩
theorem fL_X0_38 : FL RX0 38 2 0 0 := ⟨_, rfl, by decide, by decide, g_344, rfl⟩
theorem fL_X0_41 : FL RX0 41 2 1 0 := ⟨_, rfl, by decide, by decide, g_347, rfl⟩
theorem fL_X0_44 : FL RX0 44 2 2 2 := ⟨_, rfl, by decide, by decide, g_350, rfl⟩
theorem fL_X0_48 : FL RX0 48 0 1 0 := ⟨_, rfl, by decide, by decide, g_362, rfl⟩
theorem fL_X0_51 : FL RX0 51 8 1 0 := ⟨_, rfl, by decide, by decide, g_149, rfl⟩
theorem fL_X0_57 : FL RX0 57 8 6 2 := ⟨_, rfl, by decide, by decide, g_168, rfl⟩
theorem fL_X0_61 : FL RX0 61 3 4 0 := ⟨_, rfl, by decide, by decide, g_56, rfl⟩
theorem fL_X0_9 : FL RX0 9 0 0 0 := ⟨_, rfl, by decide, by decide, g_360, rfl⟩
theorem fL_X10_15 : FL RX10 15 10 8 2 := ⟨_, rfl, by decide, by decide, g_1270, rfl⟩
theorem fL_X10_18 : FL RX10 18 10 9 2 := ⟨_, rfl, by decide, by decide, g_1272, rfl⟩
theorem fL_X10_21 : FL RX10 21 10 10 2 := ⟨_, rfl, by decide, by decide, g_1274, rfl⟩
theorem fL_X10_24 : FL RX10 24 10 11 2 := ⟨_, rfl, by decide, by decide, g_1276, rfl⟩
theorem fL_X10_27 : FL RX10 27 10 12 2 := ⟨_, rfl, by decide, by decide, g_1278, rfl⟩
theorem fL_X10_30 : FL RX10 30 10 13 2 := ⟨_, rfl, by decide, by decide, g_1280, rfl⟩
theorem fL_X10_33 : FL RX10 33 10 14 2 := ⟨_, rfl, by decide, by decide, g_1282, rfl⟩
theorem fL_X10_36 : FL RX10 36 10 15 2 := ⟨_, rfl, by decide, by decide, g_1284, rfl⟩
theorem fL_X10_39 : FL RX10 39 10 16 2 := ⟨_, rfl, by decide, by decide, g_1286, rfl⟩
theorem fL_X10_42 : FL RX10 42 10 17 2 := ⟨_, rfl, by decide, by decide, g_1288, rfl⟩
theorem fL_X10_45 : FL RX10 45 10 18 2 := ⟨_, rfl, by decide, by decide, g_1290, rfl⟩
theorem fL_X10_49 : FL RX10 49 10 19 2 := ⟨_, rfl, by decide, by decide, g_1292, rfl⟩
theorem fL_X10_52 : FL RX10 52 10 20 2 := ⟨_, rfl, by decide, by decide, g_1294, rfl⟩
theorem fL_X10_55 : FL RX10 55 10 21 2 := ⟨_, rfl, by decide, by decide, g_1296, rfl⟩
theorem fL_X10_58 : FL RX10 58 10 22 2 := ⟨_, rfl, by decide, by decide, g_1298, rfl⟩
theorem fL_X10_61 : FL RX10 61 10 23 2 := ⟨_, rfl, by decide, by decide, g_1300, rfl⟩
theorem fL_X10_64 : FL RX10 64 10 24 2 := ⟨_, rfl, by decide, by decide, g_1302, rfl⟩
theorem fL_X10_67 : FL RX10 67 10 25 2 := ⟨_, rfl, by decide, by decide, g_1304, rfl⟩
theorem fL_X10_70 : FL RX10 70 10 26 2 := ⟨_, rfl, by decide, by decide, g_1306, rfl⟩
theorem fL_X10_73 : FL RX10 73 10 27 2 := ⟨_, rfl, by decide, by decide, g_1308, rfl⟩
theorem fL_X10_76 : FL RX10 76 10 28 2 := ⟨_, rfl, by decide, by decide, g_1310, rfl⟩
theorem fL_X10_80 : FL RX10 80 10 29 2 := ⟨_, rfl, by decide, by decide, g_1312, rfl⟩
theorem fL_X10_83 : FL RX10 83 10 30 2 := ⟨_, rfl, by decide, by decide, g_1314, rfl⟩
theorem fL_X10_86 : FL RX10 86 10 6 0 := ⟨_, rfl, by decide, by decide, g_1266, rfl⟩
theorem fL_X10_9 : FL RX10 9 10 7 2 := ⟨_, rfl, by decide, by decide, g_1268, rfl⟩
theorem fL_X11_100 : FL RX11 100 11 14 0 := ⟨_, rfl, by decide, by decide, g_1177, rfl⟩
theorem fL_X11_13 : FL RX11 13 11 5 2 := ⟨_, rfl, by decide, by decide, g_1168, rfl⟩
theorem fL_X11_147 : FL RX11 147 11 4 2 := ⟨_, rfl, by decide, by decide, g_1167, rfl⟩
theorem fL_X11_17 : FL RX11 17 11 16 2 := ⟨_, rfl, by decide, by decide, g_1179, rfl⟩
theorem fL_X11_21 : FL RX11 21 11 17 2 := ⟨_, rfl, by decide, by decide, g_1180, rfl⟩
theorem fL_X11_25 : FL RX11 25 11 18 2 := ⟨_, rfl, by decide, by decide, g_1181, rfl⟩
theorem fL_X11_28 : FL RX11 28 11 19 0 := ⟨_, rfl, by decide, by decide, g_1182, rfl⟩
theorem fL_X11_31 : FL RX11 31 11 21 2 := ⟨_, rfl, by decide, by decide, g_1184, rfl⟩
theorem fL_X11_331 : FL RX11 331 11 6 0 := ⟨_, rfl, by decide, by decide, g_1169, rfl⟩
theorem fL_X11_338 : FL RX11 338 11 3 2 := ⟨_, rfl, by decide, by decide, g_1166, rfl⟩
theorem fL_X11_34 : FL RX11 34 11 22 2 := ⟨_, rfl, by decide, by decide, g_1185, rfl⟩
theorem fL_X11_340 : FL RX11 340 11 24 0 := ⟨_, rfl, by decide, by decide, g_1187, rfl⟩
theorem fL_X11_343 : FL RX11 343 11 25 0 := ⟨_, rfl, by decide, by decide, g_1188, rfl⟩
theorem fL_X11_37 : FL RX11 37 11 23 2 := ⟨_, rfl, by decide, by decide, g_1186, rfl⟩
theorem fL_X11_40 : FL RX11 40 11 0 0 := ⟨_, rfl, by decide, by decide, g_1163, rfl⟩
theorem fL_X11_43 : FL RX11 43 11 1 0 := ⟨_, rfl, by decide, by decide, g_1164, rfl⟩
theorem fL_X11_475 : FL RX11 475 11 20 0 := ⟨_, rfl, by decide, by decide, g_1183, rfl⟩
theorem fL_X11_53 : FL RX11 53 11 7 0 := ⟨_, rfl, by decide, by decide, g_1170, rfl⟩
theorem fL_X11_68 : FL RX11 68 11 9 0 := ⟨_, rfl, by decide, by decide, g_1172, rfl⟩
theorem fL_X11_71 : FL RX11 71 11 8 0 := ⟨_, rfl, by decide, by decide, g_1171, rfl⟩
theorem fL_X11_77 : FL RX11 77 11 10 0 := ⟨_, rfl, by decide, by decide, g_1173, rfl⟩
theorem fL_X11_80 : FL RX11 80 11 11 0 := ⟨_, rfl, by decide, by decide, g_1174, rfl⟩
theorem fL_X11_87 : FL RX11 87 11 15 1 := ⟨_, rfl, by decide, by decide, g_1178, rfl⟩
theorem fL_X11_9 : FL RX11 9 11 2 0 := ⟨_, rfl, by decide, by decide, g_1165, rfl⟩
theorem fL_X11_94 : FL RX11 94 11 12 0 := ⟨_, rfl, by decide, by decide, g_1175, rfl⟩
theorem fL_X11_97 : FL RX11 97 11 13 0 := ⟨_, rfl, by decide, by decide, g_1176, rfl⟩
theorem fL_X1_107 : FL RX1 107 8 3 0 := ⟨_, rfl, by decide, by decide, g_159, rfl⟩
theorem fL_X1_112 : FL RX1 112 8 1 0 := ⟨_, rfl, by decide, by decide, g_150, rfl⟩
theorem fL_X1_119 : FL RX1 119 8 10 2 := ⟨_, rfl, by decide, by decide, g_186, rfl⟩
theorem fL_X1_129 : FL RX1 129 8 9 2 := ⟨_, rfl, by decide, by decide, g_183, rfl⟩
theorem fL_X1_136 : FL RX1 136 8 8 2 := ⟨_, rfl, by decide, by decide, g_178, rfl⟩
theorem fL_X1_140 : FL RX1 140 8 6 2 := ⟨_, rfl, by decide, by decide, g_171, rfl⟩
theorem fL_X1_144 : FL RX1 144 8 11 2 := ⟨_, rfl, by decide, by decide, g_189, rfl⟩
theorem fL_X1_15 : FL RX1 15 1 1 2 := ⟨_, rfl, by decide, by decide, g_275, rfl⟩
theorem fL_X1_18 : FL RX1 18 5 3 0 := ⟨_, rfl, by decide, by decide, g_84, rfl⟩
theorem fL_X1_24 : FL RX1 24 5 4 0 := ⟨_, rfl, by decide, by decide, g_87, rfl⟩
theorem fL_X1_27 : FL RX1 27 3 0 0 := ⟨_, rfl, by decide, by decide, g_47, rfl⟩
theorem fL_X1_39 : FL RX1 39 3 1 0 := ⟨_, rfl, by decide, by decide, g_49, rfl⟩
theorem fL_X1_48 : FL RX1 48 3 3 0 := ⟨_, rfl, by decide, by decide, g_53, rfl⟩
theorem fL_X1_57 : FL RX1 57 6 2 0 := ⟨_, rfl, by decide, by decide, g_113, rfl⟩
theorem fL_X1_63 : FL RX1 63 6 3 0 := ⟨_, rfl, by decide, by decide, g_116, rfl⟩
theorem fL_X1_78 : FL RX1 78 6 4 0 := ⟨_, rfl, by decide, by decide, g_118, rfl⟩
theorem fL_X1_81 : FL RX1 81 6 5 0 := ⟨_, rfl, by decide, by decide, g_121, rfl⟩
theorem fL_X1_86 : FL RX1 86 6 6 0 := ⟨_, rfl, by decide, by decide, g_126, rfl⟩
theorem fL_X1_9 : FL RX1 9 1 0 2 := ⟨_, rfl, by decide, by decide, g_273, rfl⟩
theorem fL_X2_15 : FL RX2 15 2 0 0 := ⟨_, rfl, by decide, by decide, g_343, rfl⟩
theorem fL_X2_19 : FL RX2 19 2 1 0 := ⟨_, rfl, by decide, by decide, g_346, rfl⟩
theorem fL_X2_9 : FL RX2 9 2 2 2 := ⟨_, rfl, by decide, by decide, g_349, rfl⟩
theorem fL_X4_104 : FL RX4 104 4 3 0 := ⟨_, rfl, by decide, by decide, g_229, rfl⟩
theorem fL_X4_107 : FL RX4 107 4 4 0 := ⟨_, rfl, by decide, by decide, g_230, rfl⟩
theorem fL_X4_110 : FL RX4 110 4 0 0 := ⟨_, rfl, by decide, by decide, g_224, rfl⟩
theorem fL_X4_113 : FL RX4 113 4 1 0 := ⟨_, rfl, by decide, by decide, g_226, rfl⟩
theorem fL_X4_116 : FL RX4 116 4 10 0 := ⟨_, rfl, by decide, by decide, g_236, rfl⟩
theorem fL_X4_125 : FL RX4 125 4 7 0 := ⟨_, rfl, by decide, by decide, g_233, rfl⟩
theorem fL_X4_132 : FL RX4 132 4 8 1 := ⟨_, rfl, by decide, by decide, g_234, rfl⟩
theorem fL_X4_147 : FL RX4 147 4 9 0 := ⟨_, rfl, by decide, by decide, g_235, rfl⟩
theorem fL_X4_18 : FL RX4 18 4 5 2 := ⟨_, rfl, by decide, by decide, g_231, rfl⟩
theorem fL_X4_185 : FL RX4 185 8 0 0 := ⟨_, rfl, by decide, by decide, g_144, rfl⟩
theorem fL_X4_188 : FL RX4 188 8 6 2 := ⟨_, rfl, by decide, by decide, g_172, rfl⟩
theorem fL_X4_193 : FL RX4 193 3 0 0 := ⟨_, rfl, by decide, by decide, g_48, rfl⟩
theorem fL_X4_199 : FL RX4 199 3 1 0 := ⟨_, rfl, by decide, by decide, g_50, rfl⟩
theorem fL_X4_206 : FL RX4 206 3 2 0 := ⟨_, rfl, by decide, by decide, g_52, rfl⟩
theorem fL_X4_209 : FL RX4 209 3 3 0 := ⟨_, rfl, by decide, by decide, g_55, rfl⟩
theorem fL_X4_213 : FL RX4 213 3 4 0 := ⟨_, rfl, by decide, by decide, g_59, rfl⟩
theorem fL_X4_218 : FL RX4 218 8 7 2 := ⟨_, rfl, by decide, by decide, g_174, rfl⟩
theorem fL_X4_22 : FL RX4 22 4 11 2 := ⟨_, rfl, by decide, by decide, g_237, rfl⟩
theorem fL_X4_221 : FL RX4 221 8 8 2 := ⟨_, rfl, by decide, by decide, g_179, rfl⟩
theorem fL_X4_227 : FL RX4 227 5 0 0 := ⟨_, rfl, by decide, by decide, g_79, rfl⟩
theorem fL_X4_232 : FL RX4 232 5 2 0 := ⟨_, rfl, by decide, by decide, g_83, rfl⟩
theorem fL_X4_234 : FL RX4 234 5 3 0 := ⟨_, rfl, by decide, by decide, g_86, rfl⟩
theorem fL_X4_235 : FL RX4 235 5 1 0 := ⟨_, rfl, by decide, by decide, g_81, rfl⟩
theorem fL_X4_238 : FL RX4 238 5 4 0 := ⟨_, rfl, by decide, by decide, g_89, rfl⟩
theorem fL_X4_240 : FL RX4 240 8 9 2 := ⟨_, rfl, by decide, by decide, g_184, rfl⟩
theorem fL_X4_252 : FL RX4 252 6 5 0 := ⟨_, rfl, by decide, by decide, g_123, rfl⟩
theorem fL_X4_259 : FL RX4 259 6 6 0 := ⟨_, rfl, by decide, by decide, g_127, rfl⟩
theorem fL_X4_26 : FL RX4 26 4 12 2 := ⟨_, rfl, by decide, by decide, g_238, rfl⟩
theorem fL_X4_264 : FL RX4 264 6 0 0 := ⟨_, rfl, by decide, by decide, g_108, rfl⟩
theorem fL_X4_273 : FL RX4 273 6 1 0 := ⟨_, rfl, by decide, by decide, g_110, rfl⟩
theorem fL_X4_289 : FL RX4 289 8 10 2 := ⟨_, rfl, by decide, by decide, g_187, rfl⟩
theorem fL_X4_292 : FL RX4 292 8 11 2 := ⟨_, rfl, by decide, by decide, g_190, rfl⟩
theorem fL_X4_45 : FL RX4 45 8 1 0 := ⟨_, rfl, by decide, by decide, g_147, rfl⟩
theorem fL_X4_58 : FL RX4 58 8 2 0 := ⟨_, rfl, by decide, by decide, g_153, rfl⟩
theorem fL_X4_66 : FL RX4 66 8 3 0 := ⟨_, rfl, by decide, by decide, g_157, rfl⟩
theorem fL_X4_74 : FL RX4 74 8 4 0 := ⟨_, rfl, by decide, by decide, g_162, rfl⟩
theorem fL_X4_82 : FL RX4 82 8 5 0 := ⟨_, rfl, by decide, by decide, g_165, rfl⟩
theorem fL_X4_9 : FL RX4 9 4 2 2 := ⟨_, rfl, by decide, by decide, g_228, rfl⟩
theorem fL_X4_92 : FL RX4 92 4 6 0 := ⟨_, rfl, by decide, by decide, g_232, rfl⟩
theorem fL_X5_13 : FL RX5 13 5 1 0 := ⟨_, rfl, by decide, by decide, g_80, rfl⟩
theorem fL_X5_16 : FL RX5 16 5 3 0 := ⟨_, rfl, by decide, by decide, g_85, rfl⟩
theorem fL_X5_19 : FL RX5 19 5 2 0 := ⟨_, rfl, by decide, by decide, g_82, rfl⟩
theorem fL_X5_22 : FL RX5 22 3 2 0 := ⟨_, rfl, by decide, by decide, g_51, rfl⟩
theorem fL_X5_31 : FL RX5 31 3 3 0 := ⟨_, rfl, by decide, by decide, g_54, rfl⟩
theorem fL_X5_34 : FL RX5 34 5 4 0 := ⟨_, rfl, by decide, by decide, g_88, rfl⟩
theorem fL_X5_7 : FL RX5 7 5 0 0 := ⟨_, rfl, by decide, by decide, g_78, rfl⟩
theorem fL_X6_15 : FL RX6 15 6 1 0 := ⟨_, rfl, by decide, by decide, g_109, rfl⟩
theorem fL_X6_18 : FL RX6 18 6 2 0 := ⟨_, rfl, by decide, by decide, g_112, rfl⟩
theorem fL_X6_21 : FL RX6 21 6 3 0 := ⟨_, rfl, by decide, by decide, g_115, rfl⟩
theorem fL_X6_24 : FL RX6 24 6 4 0 := ⟨_, rfl, by decide, by decide, g_117, rfl⟩
theorem fL_X6_27 : FL RX6 27 6 5 0 := ⟨_, rfl, by decide, by decide, g_119, rfl⟩
theorem fL_X6_30 : FL RX6 30 6 6 0 := ⟨_, rfl, by decide, by decide, g_124, rfl⟩
theorem fL_X6_9 : FL RX6 9 6 0 0 := ⟨_, rfl, by decide, by decide, g_106, rfl⟩
theorem fL_X7_102 : FL RX7 102 6 5 0 := ⟨_, rfl, by decide, by decide, g_120, rfl⟩
theorem fL_X7_107 : FL RX7 107 6 6 0 := ⟨_, rfl, by decide, by decide, g_125, rfl⟩
theorem fL_X7_110 : FL RX7 110 8 6 2 := ⟨_, rfl, by decide, by decide, g_169, rfl⟩
theorem fL_X7_120 : FL RX7 120 3 4 0 := ⟨_, rfl, by decide, by decide, g_57, rfl⟩
theorem fL_X7_15 : FL RX7 15 7 1 2 := ⟨_, rfl, by decide, by decide, g_289, rfl⟩
theorem fL_X7_19 : FL RX7 19 7 2 2 := ⟨_, rfl, by decide, by decide, g_290, rfl⟩
theorem fL_X7_22 : FL RX7 22 7 4 2 := ⟨_, rfl, by decide, by decide, g_292, rfl⟩
theorem fL_X7_25 : FL RX7 25 7 5 2 := ⟨_, rfl, by decide, by decide, g_293, rfl⟩
theorem fL_X7_28 : FL RX7 28 7 6 2 := ⟨_, rfl, by decide, by decide, g_294, rfl⟩
theorem fL_X7_31 : FL RX7 31 7 7 2 := ⟨_, rfl, by decide, by decide, g_295, rfl⟩
theorem fL_X7_34 : FL RX7 34 7 8 2 := ⟨_, rfl, by decide, by decide, g_296, rfl⟩
theorem fL_X7_37 : FL RX7 37 7 9 0 := ⟨_, rfl, by decide, by decide, g_297, rfl⟩
theorem fL_X7_41 : FL RX7 41 7 10 0 := ⟨_, rfl, by decide, by decide, g_298, rfl⟩
theorem fL_X7_44 : FL RX7 44 7 11 0 := ⟨_, rfl, by decide, by decide, g_299, rfl⟩
theorem fL_X7_47 : FL RX7 47 7 12 0 := ⟨_, rfl, by decide, by decide, g_300, rfl⟩
theorem fL_X7_53 : FL RX7 53 7 13 0 := ⟨_, rfl, by decide, by decide, g_301, rfl⟩
theorem fL_X7_62 : FL RX7 62 8 1 0 := ⟨_, rfl, by decide, by decide, g_148, rfl⟩
theorem fL_X7_75 : FL RX7 75 8 2 0 := ⟨_, rfl, by decide, by decide, g_154, rfl⟩
theorem fL_X7_82 : FL RX7 82 7 3 0 := ⟨_, rfl, by decide, by decide, g_291, rfl⟩
theorem fL_X7_89 : FL RX7 89 8 9 2 := ⟨_, rfl, by decide, by decide, g_181, rfl⟩
theorem fL_X7_9 : FL RX7 9 7 0 2 := ⟨_, rfl, by decide, by decide, g_287, rfl⟩
theorem fL_X7_95 : FL RX7 95 8 3 0 := ⟨_, rfl, by decide, by decide, g_158, rfl⟩
theorem fL_X7_98 : FL RX7 98 8 8 2 := ⟨_, rfl, by decide, by decide, g_176, rfl⟩
theorem fL_X8_11 : FL RX8 11 8 6 2 := ⟨_, rfl, by decide, by decide, g_167, rfl⟩
theorem fL_X8_17 : FL RX8 17 8 7 2 := ⟨_, rfl, by decide, by decide, g_173, rfl⟩
theorem fL_X8_23 : FL RX8 23 8 8 2 := ⟨_, rfl, by decide, by decide, g_175, rfl⟩
theorem fL_X8_29 : FL RX8 29 8 9 2 := ⟨_, rfl, by decide, by decide, g_180, rfl⟩
theorem fL_X8_33 : FL RX8 33 8 10 2 := ⟨_, rfl, by decide, by decide, g_185, rfl⟩
theorem fL_X8_36 : FL RX8 36 8 11 2 := ⟨_, rfl, by decide, by decide, g_188, rfl⟩
theorem fL_X8_42 : FL RX8 42 8 0 0 := ⟨_, rfl, by decide, by decide, g_143, rfl⟩
theorem fL_X8_46 : FL RX8 46 8 1 0 := ⟨_, rfl, by decide, by decide, g_146, rfl⟩
theorem fL_X8_49 : FL RX8 49 8 2 0 := ⟨_, rfl, by decide, by decide, g_152, rfl⟩
theorem fL_X8_52 : FL RX8 52 8 3 0 := ⟨_, rfl, by decide, by decide, g_156, rfl⟩
theorem fL_X8_55 : FL RX8 55 8 4 0 := ⟨_, rfl, by decide, by decide, g_161, rfl⟩
theorem fL_X8_58 : FL RX8 58 8 5 0 := ⟨_, rfl, by decide, by decide, g_164, rfl⟩
theorem fL_X8_68 : FL RX8 68 6 2 0 := ⟨_, rfl, by decide, by decide, g_114, rfl⟩
theorem fL_X9_108 : FL RX9 108 8 9 2 := ⟨_, rfl, by decide, by decide, g_182, rfl⟩
theorem fL_X9_112 : FL RX9 112 8 8 2 := ⟨_, rfl, by decide, by decide, g_177, rfl⟩
theorem fL_X9_116 : FL RX9 116 8 6 2 := ⟨_, rfl, by decide, by decide, g_170, rfl⟩
theorem fL_X9_124 : FL RX9 124 1 0 2 := ⟨_, rfl, by decide, by decide, g_274, rfl⟩
theorem fL_X9_134 : FL RX9 134 3 4 0 := ⟨_, rfl, by decide, by decide, g_58, rfl⟩
theorem fL_X9_16 : FL RX9 16 9 2 2 := ⟨_, rfl, by decide, by decide, g_389, rfl⟩
theorem fL_X9_167 : FL RX9 167 6 0 0 := ⟨_, rfl, by decide, by decide, g_107, rfl⟩
theorem fL_X9_186 : FL RX9 186 6 5 0 := ⟨_, rfl, by decide, by decide, g_122, rfl⟩
theorem fL_X9_196 : FL RX9 196 8 1 0 := ⟨_, rfl, by decide, by decide, g_151, rfl⟩
theorem fL_X9_228 : FL RX9 228 7 0 2 := ⟨_, rfl, by decide, by decide, g_288, rfl⟩
theorem fL_X9_23 : FL RX9 23 9 3 2 := ⟨_, rfl, by decide, by decide, g_390, rfl⟩
theorem fL_X9_264 : FL RX9 264 8 5 0 := ⟨_, rfl, by decide, by decide, g_166, rfl⟩
theorem fL_X9_276 : FL RX9 276 0 1 0 := ⟨_, rfl, by decide, by decide, g_363, rfl⟩
theorem fL_X9_282 : FL RX9 282 0 0 0 := ⟨_, rfl, by decide, by decide, g_361, rfl⟩
theorem fL_X9_287 : FL RX9 287 0 4 2 := ⟨_, rfl, by decide, by decide, g_369, rfl⟩
theorem fL_X9_291 : FL RX9 291 2 0 0 := ⟨_, rfl, by decide, by decide, g_345, rfl⟩
theorem fL_X9_296 : FL RX9 296 2 1 0 := ⟨_, rfl, by decide, by decide, g_348, rfl⟩
theorem fL_X9_30 : FL RX9 30 9 4 2 := ⟨_, rfl, by decide, by decide, g_391, rfl⟩
theorem fL_X9_322 : FL RX9 322 2 2 2 := ⟨_, rfl, by decide, by decide, g_351, rfl⟩
theorem fL_X9_341 : FL RX9 341 6 1 0 := ⟨_, rfl, by decide, by decide, g_111, rfl⟩
theorem fL_X9_358 : FL RX9 358 8 3 0 := ⟨_, rfl, by decide, by decide, g_160, rfl⟩
theorem fL_X9_367 : FL RX9 367 8 0 0 := ⟨_, rfl, by decide, by decide, g_145, rfl⟩
theorem fL_X9_37 : FL RX9 37 9 5 2 := ⟨_, rfl, by decide, by decide, g_392, rfl⟩
theorem fL_X9_370 : FL RX9 370 8 2 0 := ⟨_, rfl, by decide, by decide, g_155, rfl⟩
theorem fL_X9_373 : FL RX9 373 0 2 0 := ⟨_, rfl, by decide, by decide, g_365, rfl⟩
theorem fL_X9_376 : FL RX9 376 0 3 0 := ⟨_, rfl, by decide, by decide, g_367, rfl⟩
theorem fL_X9_44 : FL RX9 44 9 6 2 := ⟨_, rfl, by decide, by decide, g_393, rfl⟩
theorem fL_X9_48 : FL RX9 48 9 1 0 := ⟨_, rfl, by decide, by decide, g_388, rfl⟩
theorem fL_X9_64 : FL RX9 64 4 0 0 := ⟨_, rfl, by decide, by decide, g_225, rfl⟩
theorem fL_X9_67 : FL RX9 67 9 7 0 := ⟨_, rfl, by decide, by decide, g_394, rfl⟩
theorem fL_X9_70 : FL RX9 70 4 1 0 := ⟨_, rfl, by decide, by decide, g_227, rfl⟩
theorem fL_X9_73 : FL RX9 73 9 8 0 := ⟨_, rfl, by decide, by decide, g_395, rfl⟩
theorem fL_X9_86 : FL RX9 86 8 4 0 := ⟨_, rfl, by decide, by decide, g_163, rfl⟩
theorem fL_X9_9 : FL RX9 9 9 0 2 := ⟨_, rfl, by decide, by decide, g_387, rfl⟩
theorem fL_X9_92 : FL RX9 92 9 9 0 := ⟨_, rfl, by decide, by decide, g_396, rfl⟩
theorem fN_X11_151 : FN RX11 151 10 0 0 := ⟨_, _, rfl, by decide, by decide, List.mem_of_getElem? (i := 0) rfl, rfl⟩
theorem fN_X11_164 : FN RX11 164 10 28 2 := ⟨_, _, rfl, by decide, by decide, List.mem_of_getElem? (i := 28) rfl, rfl⟩
theorem fN_X11_167 : FN RX11 167 10 6 0 := ⟨_, _, rfl, by decide, by decide, List.mem_of_getElem? (i := 6) rfl, rfl⟩
theorem fN_X11_170 : FN RX11 170 10 29 2 := ⟨_, _, rfl, by decide, by decide, List.mem_of_getElem? (i := 29) rfl, rfl⟩
theorem fN_X11_173 : FN RX11 173 10 30 2 := ⟨_, _, rfl, by decide, by decide, List.mem_of_getElem? (i := 30) rfl, rfl⟩
theorem fN_X11_190 : FN RX11 190 10 2 0 := ⟨_, _, rfl, by decide, by decide, List.mem_of_getElem? (i := 2) rfl, rfl⟩
theorem fN_X11_193 : FN RX11 193 10 4 0 := ⟨_, _, rfl, by decide, by decide, List.mem_of_getElem? (i := 4) rfl, rfl⟩
theorem fN_X11_219 : FN RX11 219 10 1 0 := ⟨_, _, rfl, by decide, by decide, List.mem_of_getElem? (i := 1) rfl, rfl⟩
theorem fN_X11_237 : FN RX11 237 10 7 2 := ⟨_, _, rfl, by decide, by decide, List.mem_of_getElem? (i := 7) rfl, rfl⟩
theorem fN_X11_239 : FN RX11 239 10 8 2 := ⟨_, _, rfl, by decide, by decide, List.mem_of_getElem? (i := 8) rfl, rfl⟩
theorem fN_X11_241 : FN RX11 241 10 9 2 := ⟨_, _, rfl, by decide, by decide, List.mem_of_getElem? (i := 9) rfl, rfl⟩
theorem fN_X11_244 : FN RX11 244 10 10 2 := ⟨_, _, rfl, by decide, by decide, List.mem_of_getElem? (i := 10) rfl, rfl⟩
theorem fN_X11_246 : FN RX11 246 10 11 2 := ⟨_, _, rfl, by decide, by decide, List.mem_of_getElem? (i := 11) rfl, rfl⟩
theorem fN_X11_258 : FN RX11 258 10 18 2 := ⟨_, _, rfl, by decide, by decide, List.mem_of_getElem? (i := 18) rfl, rfl⟩
theorem fN_X11_262 : FN RX11 262 10 12 2 := ⟨_, _, rfl, by decide, by decide, List.mem_of_getElem? (i := 12) rfl, rfl⟩
theorem fN_X11_264 : FN RX11 264 10 3 0 := ⟨_, _, rfl, by decide, by decide, List.mem_of_getElem? (i := 3) rfl, rfl⟩
theorem fN_X11_270 : FN RX11 270 10 13 2 := ⟨_, _, rfl, by decide, by decide, List.mem_of_getElem? (i := 13) rfl, rfl⟩
theorem fN_X11_273 : FN RX11 273 10 14 2 := ⟨_, _, rfl, by decide, by decide, List.mem_of_getElem? (i := 14) rfl, rfl⟩
theorem fN_X11_276 : FN RX11 276 10 15 2 := ⟨_, _, rfl, by decide, by decide, List.mem_of_getElem? (i := 15) rfl, rfl⟩
theorem fN_X11_279 : FN RX11 279 10 16 2 := ⟨_, _, rfl, by decide, by decide, List.mem_of_getElem? (i := 16) rfl, rfl⟩
theorem fN_X11_282 : FN RX11 282 10 17 2 := ⟨_, _, rfl, by decide, by decide, List.mem_of_getElem? (i := 17) rfl, rfl⟩
theorem fN_X11_302 : FN RX11 302 10 19 2 := ⟨_, _, rfl, by decide, by decide, List.mem_of_getElem? (i := 19) rfl, rfl⟩
theorem fN_X11_305 : FN RX11 305 10 20 2 := ⟨_, _, rfl, by decide, by decide, List.mem_of_getElem? (i := 20) rfl, rfl⟩
theorem fN_X11_308 : FN RX11 308 10 21 2 := ⟨_, _, rfl, by decide, by decide, List.mem_of_getElem? (i := 21) rfl, rfl⟩
theorem fN_X11_311 : FN RX11 311 10 22 2 := ⟨_, _, rfl, by decide, by decide, List.mem_of_getElem? (i := 22) rfl, rfl⟩
theorem fN_X11_314 : FN RX11 314 10 23 2 := ⟨_, _, rfl, by decide, by decide, List.mem_of_getElem? (i := 23) rfl, rfl⟩
theorem fN_X11_317 : FN RX11 317 10 24 2 := ⟨_, _, rfl, by decide, by decide, List.mem_of_getElem? (i := 24) rfl, rfl⟩
theorem fN_X11_320 : FN RX11 320 10 25 2 := ⟨_, _, rfl, by decide, by decide, List.mem_of_getElem? (i := 25) rfl, rfl⟩
theorem fN_X11_323 : FN RX11 323 10 5 0 := ⟨_, _, rfl, by decide, by decide, List.mem_of_getElem? (i := 5) rfl, rfl⟩
theorem fN_X11_326 : FN RX11 326 10 27 2 := ⟨_, _, rfl, by decide, by decide, List.mem_of_getElem? (i := 27) rfl, rfl⟩
theorem fN_X11_328 : FN RX11 328 10 26 2 := ⟨_, _, rfl, by decide, by decide, List.mem_of_getElem? (i := 26) rfl, rfl⟩
theorem nc_X0_15 : NC RX0 15 2 3 := ⟨_, _, tyX2, rfl, by decide, g_337, g_338, g_10, tyX2_ok, by decide +kernel⟩
theorem nc_X11_152 : NC RX11 152 10 31 := ⟨_, _, tyX10, rfl, by decide, g_1254, g_1255, g_17, tyX10_ok, by decide +kernel⟩
theorem nc_X4_15 : NC RX4 15 8 12 := ⟨_, _, tyX8, rfl, by decide, g_222, g_31, g_2, tyX8_ok, by decide +kernel⟩
theorem nc_X8_21 : NC RX8 21 5 5 := ⟨_, _, tyX5, rfl, by decide, g_38, g_73, g_4, tyX5_ok, by decide +kernel⟩
theorem nc_X8_27 : NC RX8 27 6 7 := ⟨_, _, tyX6, rfl, by decide, g_40, g_101, g_5, tyX6_ok, by decide +kernel⟩
theorem nc_X8_9 : NC RX8 9 3 5 := ⟨_, _, tyX3, rfl, by decide, g_36, g_42, g_3, tyX3_ok, by decide +kernel⟩
theorem nc_X9_13 : NC RX9 13 8 12 := ⟨_, _, tyX8, rfl, by decide, g_30, g_31, g_2, tyX8_ok, by decide +kernel⟩
theorem nc_X9_20 : NC RX9 20 4 13 := ⟨_, _, tyX4, rfl, by decide, g_216, g_217, g_6, tyX4_ok, by decide +kernel⟩
theorem nc_X9_27 : NC RX9 27 1 2 := ⟨_, _, tyX1, rfl, by decide, g_267, g_268, g_7, tyX1_ok, by decide +kernel⟩
theorem nc_X9_34 : NC RX9 34 7 14 := ⟨_, _, tyX7, rfl, by decide, g_281, g_282, g_8, tyX7_ok, by decide +kernel⟩
theorem nc_X9_41 : NC RX9 41 0 7 := ⟨_, _, tyX0, rfl, by decide, g_331, g_332, g_9, tyX0_ok, by decide +kernel⟩
theorem pfL_X0_18 : FPF RX0 18 0 4 2 := ⟨⟨fL_X0_18, _, (.object "RainWalk$Moment"), rfl, rfl, by decide +kernel, fun x => ⟨rfl, rfl⟩⟩, _, rfl, rfl⟩
theorem pfL_X0_22 : FPF RX0 22 0 5 2 := ⟨⟨fL_X0_22, _, (.array (.object "RainWalk$Moment")), rfl, rfl, by decide +kernel, fun x => ⟨rfl, rfl⟩⟩, _, rfl, rfl⟩
theorem pfL_X0_26 : FPF RX0 26 0 6 2 := ⟨⟨fL_X0_26, _, (.array (.object "RainWalk$Moment")), rfl, rfl, by decide +kernel, fun x => ⟨rfl, rfl⟩⟩, _, rfl, rfl⟩
theorem pfL_X0_29 : FP RX0 29 0 2 0 false := ⟨fL_X0_29, _, .int, rfl, rfl, by decide +kernel, fun x => ⟨rfl, rfl⟩⟩
theorem pfL_X0_32 : FP RX0 32 0 3 0 false := ⟨fL_X0_32, _, .int, rfl, rfl, by decide +kernel, fun x => ⟨rfl, rfl⟩⟩
theorem pfL_X0_38 : FP RX0 38 2 0 0 false := ⟨fL_X0_38, _, .int, rfl, rfl, by decide +kernel, fun x => ⟨rfl, rfl⟩⟩
theorem pfL_X0_41 : FP RX0 41 2 1 0 false := ⟨fL_X0_41, _, .int, rfl, rfl, by decide +kernel, fun x => ⟨rfl, rfl⟩⟩
theorem pfL_X0_48 : FP RX0 48 0 1 0 false := ⟨fL_X0_48, _, .int, rfl, rfl, by decide +kernel, fun x => ⟨rfl, rfl⟩⟩
theorem pfL_X0_9 : FP RX0 9 0 0 0 false := ⟨fL_X0_9, _, .int, rfl, rfl, by decide +kernel, fun x => ⟨rfl, rfl⟩⟩
theorem pfL_X10_15 : FPF RX10 15 10 8 2 := ⟨⟨fL_X10_15, _, (.array .int), rfl, rfl, by decide +kernel, fun x => ⟨rfl, rfl⟩⟩, _, rfl, rfl⟩
theorem pfL_X10_18 : FPF RX10 18 10 9 2 := ⟨⟨fL_X10_18, _, (.array .int), rfl, rfl, by decide +kernel, fun x => ⟨rfl, rfl⟩⟩, _, rfl, rfl⟩
theorem pfL_X10_21 : FPF RX10 21 10 10 2 := ⟨⟨fL_X10_21, _, (.array .int), rfl, rfl, by decide +kernel, fun x => ⟨rfl, rfl⟩⟩, _, rfl, rfl⟩
theorem pfL_X10_24 : FPF RX10 24 10 11 2 := ⟨⟨fL_X10_24, _, (.array .int), rfl, rfl, by decide +kernel, fun x => ⟨rfl, rfl⟩⟩, _, rfl, rfl⟩
theorem pfL_X10_27 : FPF RX10 27 10 12 2 := ⟨⟨fL_X10_27, _, (.array .int), rfl, rfl, by decide +kernel, fun x => ⟨rfl, rfl⟩⟩, _, rfl, rfl⟩
theorem pfL_X10_30 : FPF RX10 30 10 13 2 := ⟨⟨fL_X10_30, _, (.array .int), rfl, rfl, by decide +kernel, fun x => ⟨rfl, rfl⟩⟩, _, rfl, rfl⟩
theorem pfL_X10_33 : FPF RX10 33 10 14 2 := ⟨⟨fL_X10_33, _, (.array .int), rfl, rfl, by decide +kernel, fun x => ⟨rfl, rfl⟩⟩, _, rfl, rfl⟩
theorem pfL_X10_36 : FPF RX10 36 10 15 2 := ⟨⟨fL_X10_36, _, (.array .int), rfl, rfl, by decide +kernel, fun x => ⟨rfl, rfl⟩⟩, _, rfl, rfl⟩
theorem pfL_X10_39 : FPF RX10 39 10 16 2 := ⟨⟨fL_X10_39, _, (.array .int), rfl, rfl, by decide +kernel, fun x => ⟨rfl, rfl⟩⟩, _, rfl, rfl⟩
theorem pfL_X10_42 : FPF RX10 42 10 17 2 := ⟨⟨fL_X10_42, _, (.array .int), rfl, rfl, by decide +kernel, fun x => ⟨rfl, rfl⟩⟩, _, rfl, rfl⟩
theorem pfL_X10_45 : FPF RX10 45 10 18 2 := ⟨⟨fL_X10_45, _, (.array .boolean), rfl, rfl, by decide +kernel, fun x => ⟨rfl, rfl⟩⟩, _, rfl, rfl⟩
theorem pfL_X10_49 : FPF RX10 49 10 19 2 := ⟨⟨fL_X10_49, _, (.array .int), rfl, rfl, by decide +kernel, fun x => ⟨rfl, rfl⟩⟩, _, rfl, rfl⟩
theorem pfL_X10_52 : FPF RX10 52 10 20 2 := ⟨⟨fL_X10_52, _, (.array .int), rfl, rfl, by decide +kernel, fun x => ⟨rfl, rfl⟩⟩, _, rfl, rfl⟩
theorem pfL_X10_55 : FPF RX10 55 10 21 2 := ⟨⟨fL_X10_55, _, (.array .int), rfl, rfl, by decide +kernel, fun x => ⟨rfl, rfl⟩⟩, _, rfl, rfl⟩
theorem pfL_X10_58 : FPF RX10 58 10 22 2 := ⟨⟨fL_X10_58, _, (.array .int), rfl, rfl, by decide +kernel, fun x => ⟨rfl, rfl⟩⟩, _, rfl, rfl⟩
theorem pfL_X10_61 : FPF RX10 61 10 23 2 := ⟨⟨fL_X10_61, _, (.array .int), rfl, rfl, by decide +kernel, fun x => ⟨rfl, rfl⟩⟩, _, rfl, rfl⟩
theorem pfL_X10_64 : FPF RX10 64 10 24 2 := ⟨⟨fL_X10_64, _, (.array .int), rfl, rfl, by decide +kernel, fun x => ⟨rfl, rfl⟩⟩, _, rfl, rfl⟩
theorem pfL_X10_67 : FPF RX10 67 10 25 2 := ⟨⟨fL_X10_67, _, (.array .int), rfl, rfl, by decide +kernel, fun x => ⟨rfl, rfl⟩⟩, _, rfl, rfl⟩
theorem pfL_X10_70 : FPF RX10 70 10 26 2 := ⟨⟨fL_X10_70, _, (.array .int), rfl, rfl, by decide +kernel, fun x => ⟨rfl, rfl⟩⟩, _, rfl, rfl⟩
theorem pfL_X10_73 : FPF RX10 73 10 27 2 := ⟨⟨fL_X10_73, _, (.array .int), rfl, rfl, by decide +kernel, fun x => ⟨rfl, rfl⟩⟩, _, rfl, rfl⟩
theorem pfL_X10_76 : FPF RX10 76 10 28 2 := ⟨⟨fL_X10_76, _, (.array .long), rfl, rfl, by decide +kernel, fun x => ⟨rfl, rfl⟩⟩, _, rfl, rfl⟩
theorem pfL_X10_80 : FPF RX10 80 10 29 2 := ⟨⟨fL_X10_80, _, (.array .int), rfl, rfl, by decide +kernel, fun x => ⟨rfl, rfl⟩⟩, _, rfl, rfl⟩
theorem pfL_X10_83 : FPF RX10 83 10 30 2 := ⟨⟨fL_X10_83, _, (.array .int), rfl, rfl, by decide +kernel, fun x => ⟨rfl, rfl⟩⟩, _, rfl, rfl⟩
theorem pfL_X10_9 : FPF RX10 9 10 7 2 := ⟨⟨fL_X10_9, _, (.array .int), rfl, rfl, by decide +kernel, fun x => ⟨rfl, rfl⟩⟩, _, rfl, rfl⟩
theorem pfL_X11_100 : FP RX11 100 11 14 0 false := ⟨fL_X11_100, _, .int, rfl, rfl, by decide +kernel, fun x => ⟨rfl, rfl⟩⟩
theorem pfL_X11_13 : FPF RX11 13 11 5 2 := ⟨⟨fL_X11_13, _, (.array .byte), rfl, rfl, by decide +kernel, fun x => ⟨rfl, rfl⟩⟩, _, rfl, rfl⟩
theorem pfL_X11_147 : FP RX11 147 11 4 2 false := ⟨fL_X11_147, _, (.object "RainWalkModel$World"), rfl, rfl, by decide +kernel, fun x => ⟨rfl, rfl⟩⟩
theorem pfL_X11_17 : FPF RX11 17 11 16 2 := ⟨⟨fL_X11_17, _, (.array .long), rfl, rfl, by decide +kernel, fun x => ⟨rfl, rfl⟩⟩, _, rfl, rfl⟩
theorem pfL_X11_21 : FPF RX11 21 11 17 2 := ⟨⟨fL_X11_21, _, (.array .int), rfl, rfl, by decide +kernel, fun x => ⟨rfl, rfl⟩⟩, _, rfl, rfl⟩
theorem pfL_X11_25 : FPF RX11 25 11 18 2 := ⟨⟨fL_X11_25, _, (.array .int), rfl, rfl, by decide +kernel, fun x => ⟨rfl, rfl⟩⟩, _, rfl, rfl⟩
theorem pfL_X11_28 : FP RX11 28 11 19 0 false := ⟨fL_X11_28, _, .int, rfl, rfl, by decide +kernel, fun x => ⟨rfl, rfl⟩⟩
theorem pfL_X11_31 : FPF RX11 31 11 21 2 := ⟨⟨fL_X11_31, _, (.array .long), rfl, rfl, by decide +kernel, fun x => ⟨rfl, rfl⟩⟩, _, rfl, rfl⟩
theorem pfL_X11_331 : FP RX11 331 11 6 0 false := ⟨fL_X11_331, _, .int, rfl, rfl, by decide +kernel, fun x => ⟨rfl, rfl⟩⟩
theorem pfL_X11_338 : FP RX11 338 11 3 2 false := ⟨fL_X11_338, _, (.object "RainWalkModel$World"), rfl, rfl, by decide +kernel, fun x => ⟨rfl, rfl⟩⟩
theorem pfL_X11_34 : FPF RX11 34 11 22 2 := ⟨⟨fL_X11_34, _, (.array .long), rfl, rfl, by decide +kernel, fun x => ⟨rfl, rfl⟩⟩, _, rfl, rfl⟩
theorem pfL_X11_340 : FP RX11 340 11 24 0 false := ⟨fL_X11_340, _, .int, rfl, rfl, by decide +kernel, fun x => ⟨rfl, rfl⟩⟩
theorem pfL_X11_343 : FP RX11 343 11 25 0 false := ⟨fL_X11_343, _, .int, rfl, rfl, by decide +kernel, fun x => ⟨rfl, rfl⟩⟩
theorem pfL_X11_37 : FPF RX11 37 11 23 2 := ⟨⟨fL_X11_37, _, (.array .long), rfl, rfl, by decide +kernel, fun x => ⟨rfl, rfl⟩⟩, _, rfl, rfl⟩
theorem pfL_X11_40 : FP RX11 40 11 0 0 false := ⟨fL_X11_40, _, .int, rfl, rfl, by decide +kernel, fun x => ⟨rfl, rfl⟩⟩
theorem pfL_X11_43 : FP RX11 43 11 1 0 false := ⟨fL_X11_43, _, .int, rfl, rfl, by decide +kernel, fun x => ⟨rfl, rfl⟩⟩
theorem pfL_X11_475 : FP RX11 475 11 20 0 false := ⟨fL_X11_475, _, .int, rfl, rfl, by decide +kernel, fun x => ⟨rfl, rfl⟩⟩
theorem pfL_X11_53 : FP RX11 53 11 7 0 false := ⟨fL_X11_53, _, .int, rfl, rfl, by decide +kernel, fun x => ⟨rfl, rfl⟩⟩
theorem pfL_X11_68 : FP RX11 68 11 9 0 false := ⟨fL_X11_68, _, .int, rfl, rfl, by decide +kernel, fun x => ⟨rfl, rfl⟩⟩
theorem pfL_X11_71 : FP RX11 71 11 8 0 false := ⟨fL_X11_71, _, .int, rfl, rfl, by decide +kernel, fun x => ⟨rfl, rfl⟩⟩
theorem pfL_X11_77 : FP RX11 77 11 10 0 false := ⟨fL_X11_77, _, .int, rfl, rfl, by decide +kernel, fun x => ⟨rfl, rfl⟩⟩
theorem pfL_X11_80 : FP RX11 80 11 11 0 false := ⟨fL_X11_80, _, .int, rfl, rfl, by decide +kernel, fun x => ⟨rfl, rfl⟩⟩
theorem pfL_X11_87 : FP RX11 87 11 15 1 false := ⟨fL_X11_87, _, .long, rfl, rfl, by decide +kernel, fun x => ⟨rfl, rfl⟩⟩
theorem pfL_X11_9 : FP RX11 9 11 2 0 false := ⟨fL_X11_9, _, .int, rfl, rfl, by decide +kernel, fun x => ⟨rfl, rfl⟩⟩
theorem pfL_X11_94 : FP RX11 94 11 12 0 false := ⟨fL_X11_94, _, .int, rfl, rfl, by decide +kernel, fun x => ⟨rfl, rfl⟩⟩
theorem pfL_X11_97 : FP RX11 97 11 13 0 false := ⟨fL_X11_97, _, .int, rfl, rfl, by decide +kernel, fun x => ⟨rfl, rfl⟩⟩
theorem pfL_X1_15 : FPF RX1 15 1 1 2 := ⟨⟨fL_X1_15, _, (.array .long), rfl, rfl, by decide +kernel, fun x => ⟨rfl, rfl⟩⟩, _, rfl, rfl⟩
theorem pfL_X1_9 : FPF RX1 9 1 0 2 := ⟨⟨fL_X1_9, _, (.array .long), rfl, rfl, by decide +kernel, fun x => ⟨rfl, rfl⟩⟩, _, rfl, rfl⟩
theorem pfL_X2_15 : FP RX2 15 2 0 0 false := ⟨fL_X2_15, _, .int, rfl, rfl, by decide +kernel, fun x => ⟨rfl, rfl⟩⟩
theorem pfL_X2_19 : FP RX2 19 2 1 0 false := ⟨fL_X2_19, _, .int, rfl, rfl, by decide +kernel, fun x => ⟨rfl, rfl⟩⟩
theorem pfL_X2_9 : FPF RX2 9 2 2 2 := ⟨⟨fL_X2_9, _, (.array .long), rfl, rfl, by decide +kernel, fun x => ⟨rfl, rfl⟩⟩, _, rfl, rfl⟩
theorem pfL_X4_104 : FP RX4 104 4 3 0 false := ⟨fL_X4_104, _, .int, rfl, rfl, by decide +kernel, fun x => ⟨rfl, rfl⟩⟩
theorem pfL_X4_107 : FP RX4 107 4 4 0 false := ⟨fL_X4_107, _, .int, rfl, rfl, by decide +kernel, fun x => ⟨rfl, rfl⟩⟩
theorem pfL_X4_110 : FP RX4 110 4 0 0 false := ⟨fL_X4_110, _, .int, rfl, rfl, by decide +kernel, fun x => ⟨rfl, rfl⟩⟩
theorem pfL_X4_113 : FP RX4 113 4 1 0 false := ⟨fL_X4_113, _, .int, rfl, rfl, by decide +kernel, fun x => ⟨rfl, rfl⟩⟩
theorem pfL_X4_116 : FP RX4 116 4 10 0 false := ⟨fL_X4_116, _, .int, rfl, rfl, by decide +kernel, fun x => ⟨rfl, rfl⟩⟩
theorem pfL_X4_125 : FP RX4 125 4 7 0 false := ⟨fL_X4_125, _, .int, rfl, rfl, by decide +kernel, fun x => ⟨rfl, rfl⟩⟩
theorem pfL_X4_132 : FP RX4 132 4 8 1 false := ⟨fL_X4_132, _, .long, rfl, rfl, by decide +kernel, fun x => ⟨rfl, rfl⟩⟩
theorem pfL_X4_147 : FP RX4 147 4 9 0 false := ⟨fL_X4_147, _, .int, rfl, rfl, by decide +kernel, fun x => ⟨rfl, rfl⟩⟩
theorem pfL_X4_18 : FP RX4 18 4 5 2 false := ⟨fL_X4_18, _, (.object "RainWalk$World"), rfl, rfl, by decide +kernel, fun x => ⟨rfl, rfl⟩⟩
theorem pfL_X4_185 : FP RX4 185 8 0 0 false := ⟨fL_X4_185, _, .int, rfl, rfl, by decide +kernel, fun x => ⟨rfl, rfl⟩⟩
theorem pfL_X4_193 : FP RX4 193 3 0 0 false := ⟨fL_X4_193, _, .int, rfl, rfl, by decide +kernel, fun x => ⟨rfl, rfl⟩⟩
theorem pfL_X4_199 : FP RX4 199 3 1 0 false := ⟨fL_X4_199, _, .int, rfl, rfl, by decide +kernel, fun x => ⟨rfl, rfl⟩⟩
theorem pfL_X4_206 : FP RX4 206 3 2 0 false := ⟨fL_X4_206, _, .int, rfl, rfl, by decide +kernel, fun x => ⟨rfl, rfl⟩⟩
theorem pfL_X4_209 : FP RX4 209 3 3 0 false := ⟨fL_X4_209, _, .int, rfl, rfl, by decide +kernel, fun x => ⟨rfl, rfl⟩⟩
theorem pfL_X4_213 : FP RX4 213 3 4 0 false := ⟨fL_X4_213, _, .int, rfl, rfl, by decide +kernel, fun x => ⟨rfl, rfl⟩⟩
theorem pfL_X4_22 : FPF RX4 22 4 11 2 := ⟨⟨fL_X4_22, _, (.array .long), rfl, rfl, by decide +kernel, fun x => ⟨rfl, rfl⟩⟩, _, rfl, rfl⟩
theorem pfL_X4_227 : FP RX4 227 5 0 0 false := ⟨fL_X4_227, _, .int, rfl, rfl, by decide +kernel, fun x => ⟨rfl, rfl⟩⟩
theorem pfL_X4_232 : FP RX4 232 5 2 0 false := ⟨fL_X4_232, _, .int, rfl, rfl, by decide +kernel, fun x => ⟨rfl, rfl⟩⟩
theorem pfL_X4_234 : FP RX4 234 5 3 0 false := ⟨fL_X4_234, _, .int, rfl, rfl, by decide +kernel, fun x => ⟨rfl, rfl⟩⟩
theorem pfL_X4_235 : FP RX4 235 5 1 0 false := ⟨fL_X4_235, _, .int, rfl, rfl, by decide +kernel, fun x => ⟨rfl, rfl⟩⟩
theorem pfL_X4_238 : FP RX4 238 5 4 0 false := ⟨fL_X4_238, _, .int, rfl, rfl, by decide +kernel, fun x => ⟨rfl, rfl⟩⟩
theorem pfL_X4_252 : FP RX4 252 6 5 0 false := ⟨fL_X4_252, _, .int, rfl, rfl, by decide +kernel, fun x => ⟨rfl, rfl⟩⟩
theorem pfL_X4_259 : FP RX4 259 6 6 0 false := ⟨fL_X4_259, _, .int, rfl, rfl, by decide +kernel, fun x => ⟨rfl, rfl⟩⟩
theorem pfL_X4_26 : FPF RX4 26 4 12 2 := ⟨⟨fL_X4_26, _, (.array .int), rfl, rfl, by decide +kernel, fun x => ⟨rfl, rfl⟩⟩, _, rfl, rfl⟩
theorem pfL_X4_264 : FP RX4 264 6 0 0 false := ⟨fL_X4_264, _, .int, rfl, rfl, by decide +kernel, fun x => ⟨rfl, rfl⟩⟩
theorem pfL_X4_273 : FP RX4 273 6 1 0 false := ⟨fL_X4_273, _, .int, rfl, rfl, by decide +kernel, fun x => ⟨rfl, rfl⟩⟩
theorem pfL_X4_45 : FP RX4 45 8 1 0 false := ⟨fL_X4_45, _, .int, rfl, rfl, by decide +kernel, fun x => ⟨rfl, rfl⟩⟩
theorem pfL_X4_58 : FP RX4 58 8 2 0 false := ⟨fL_X4_58, _, .int, rfl, rfl, by decide +kernel, fun x => ⟨rfl, rfl⟩⟩
theorem pfL_X4_66 : FP RX4 66 8 3 0 false := ⟨fL_X4_66, _, .int, rfl, rfl, by decide +kernel, fun x => ⟨rfl, rfl⟩⟩
theorem pfL_X4_74 : FP RX4 74 8 4 0 false := ⟨fL_X4_74, _, .int, rfl, rfl, by decide +kernel, fun x => ⟨rfl, rfl⟩⟩
theorem pfL_X4_82 : FP RX4 82 8 5 0 false := ⟨fL_X4_82, _, .int, rfl, rfl, by decide +kernel, fun x => ⟨rfl, rfl⟩⟩
theorem pfL_X4_9 : FP RX4 9 4 2 2 false := ⟨fL_X4_9, _, (.array .byte), rfl, rfl, by decide +kernel, fun x => ⟨rfl, rfl⟩⟩
theorem pfL_X4_92 : FP RX4 92 4 6 0 false := ⟨fL_X4_92, _, .int, rfl, rfl, by decide +kernel, fun x => ⟨rfl, rfl⟩⟩
theorem pfL_X6_18 : FP RX6 18 6 2 0 false := ⟨fL_X6_18, _, .int, rfl, rfl, by decide +kernel, fun x => ⟨rfl, rfl⟩⟩
theorem pfL_X6_21 : FP RX6 21 6 3 0 false := ⟨fL_X6_21, _, .int, rfl, rfl, by decide +kernel, fun x => ⟨rfl, rfl⟩⟩
theorem pfL_X6_24 : FP RX6 24 6 4 0 false := ⟨fL_X6_24, _, .int, rfl, rfl, by decide +kernel, fun x => ⟨rfl, rfl⟩⟩
theorem pfL_X7_15 : FP RX7 15 7 1 2 false := ⟨fL_X7_15, _, (.array .long), rfl, rfl, by decide +kernel, fun x => ⟨rfl, rfl⟩⟩
theorem pfL_X7_19 : FP RX7 19 7 2 2 false := ⟨fL_X7_19, _, (.array .int), rfl, rfl, by decide +kernel, fun x => ⟨rfl, rfl⟩⟩
theorem pfL_X7_22 : FP RX7 22 7 4 2 false := ⟨fL_X7_22, _, (.array .int), rfl, rfl, by decide +kernel, fun x => ⟨rfl, rfl⟩⟩
theorem pfL_X7_25 : FP RX7 25 7 5 2 false := ⟨fL_X7_25, _, (.array .int), rfl, rfl, by decide +kernel, fun x => ⟨rfl, rfl⟩⟩
theorem pfL_X7_28 : FP RX7 28 7 6 2 false := ⟨fL_X7_28, _, (.array .int), rfl, rfl, by decide +kernel, fun x => ⟨rfl, rfl⟩⟩
theorem pfL_X7_31 : FP RX7 31 7 7 2 false := ⟨fL_X7_31, _, (.array .long), rfl, rfl, by decide +kernel, fun x => ⟨rfl, rfl⟩⟩
theorem pfL_X7_34 : FP RX7 34 7 8 2 false := ⟨fL_X7_34, _, (.array .int), rfl, rfl, by decide +kernel, fun x => ⟨rfl, rfl⟩⟩
theorem pfL_X7_37 : FP RX7 37 7 9 0 false := ⟨fL_X7_37, _, .int, rfl, rfl, by decide +kernel, fun x => ⟨rfl, rfl⟩⟩
theorem pfL_X7_41 : FP RX7 41 7 10 0 false := ⟨fL_X7_41, _, .int, rfl, rfl, by decide +kernel, fun x => ⟨rfl, rfl⟩⟩
theorem pfL_X7_44 : FP RX7 44 7 11 0 false := ⟨fL_X7_44, _, .int, rfl, rfl, by decide +kernel, fun x => ⟨rfl, rfl⟩⟩
theorem pfL_X7_47 : FP RX7 47 7 12 0 false := ⟨fL_X7_47, _, .int, rfl, rfl, by decide +kernel, fun x => ⟨rfl, rfl⟩⟩
theorem pfL_X7_53 : FP RX7 53 7 13 0 false := ⟨fL_X7_53, _, .int, rfl, rfl, by decide +kernel, fun x => ⟨rfl, rfl⟩⟩
theorem pfL_X7_82 : FP RX7 82 7 3 0 false := ⟨fL_X7_82, _, .int, rfl, rfl, by decide +kernel, fun x => ⟨rfl, rfl⟩⟩
theorem pfL_X7_9 : FP RX7 9 7 0 2 false := ⟨fL_X7_9, _, (.array .int), rfl, rfl, by decide +kernel, fun x => ⟨rfl, rfl⟩⟩
theorem pfL_X8_11 : FPF RX8 11 8 6 2 := ⟨⟨fL_X8_11, _, (.array (.object "RainWalk$Rain")), rfl, rfl, by decide +kernel, fun x => ⟨rfl, rfl⟩⟩, _, rfl, rfl⟩
theorem pfL_X8_17 : FPF RX8 17 8 7 2 := ⟨⟨fL_X8_17, _, (.array .int), rfl, rfl, by decide +kernel, fun x => ⟨rfl, rfl⟩⟩, _, rfl, rfl⟩
theorem pfL_X8_23 : FPF RX8 23 8 8 2 := ⟨⟨fL_X8_23, _, (.array (.object "RainWalk$Road")), rfl, rfl, by decide +kernel, fun x => ⟨rfl, rfl⟩⟩, _, rfl, rfl⟩
theorem pfL_X8_29 : FPF RX8 29 8 9 2 := ⟨⟨fL_X8_29, _, (.array (.object "RainWalk$Walker")), rfl, rfl, by decide +kernel, fun x => ⟨rfl, rfl⟩⟩, _, rfl, rfl⟩
theorem pfL_X8_33 : FPF RX8 33 8 10 2 := ⟨⟨fL_X8_33, _, (.array .int), rfl, rfl, by decide +kernel, fun x => ⟨rfl, rfl⟩⟩, _, rfl, rfl⟩
theorem pfL_X8_36 : FPF RX8 36 8 11 2 := ⟨⟨fL_X8_36, _, (.array .int), rfl, rfl, by decide +kernel, fun x => ⟨rfl, rfl⟩⟩, _, rfl, rfl⟩
theorem pfL_X8_42 : FP RX8 42 8 0 0 false := ⟨fL_X8_42, _, .int, rfl, rfl, by decide +kernel, fun x => ⟨rfl, rfl⟩⟩
theorem pfL_X8_46 : FP RX8 46 8 1 0 false := ⟨fL_X8_46, _, .int, rfl, rfl, by decide +kernel, fun x => ⟨rfl, rfl⟩⟩
theorem pfL_X8_49 : FP RX8 49 8 2 0 false := ⟨fL_X8_49, _, .int, rfl, rfl, by decide +kernel, fun x => ⟨rfl, rfl⟩⟩
theorem pfL_X8_52 : FP RX8 52 8 3 0 false := ⟨fL_X8_52, _, .int, rfl, rfl, by decide +kernel, fun x => ⟨rfl, rfl⟩⟩
theorem pfL_X8_55 : FP RX8 55 8 4 0 false := ⟨fL_X8_55, _, .int, rfl, rfl, by decide +kernel, fun x => ⟨rfl, rfl⟩⟩
theorem pfL_X8_58 : FP RX8 58 8 5 0 false := ⟨fL_X8_58, _, .int, rfl, rfl, by decide +kernel, fun x => ⟨rfl, rfl⟩⟩
theorem pfL_X9_16 : FP RX9 16 9 2 2 false := ⟨fL_X9_16, _, (.object "RainWalk$World"), rfl, rfl, by decide +kernel, fun x => ⟨rfl, rfl⟩⟩
theorem pfL_X9_23 : FPF RX9 23 9 3 2 := ⟨⟨fL_X9_23, _, (.object "RainWalk$Reader"), rfl, rfl, by decide +kernel, fun x => ⟨rfl, rfl⟩⟩, _, rfl, rfl⟩
theorem pfL_X9_291 : FP RX9 291 2 0 0 false := ⟨fL_X9_291, _, .int, rfl, rfl, by decide +kernel, fun x => ⟨rfl, rfl⟩⟩
theorem pfL_X9_296 : FP RX9 296 2 1 0 false := ⟨fL_X9_296, _, .int, rfl, rfl, by decide +kernel, fun x => ⟨rfl, rfl⟩⟩
theorem pfL_X9_30 : FPF RX9 30 9 4 2 := ⟨⟨fL_X9_30, _, (.object "RainWalk$Leg"), rfl, rfl, by decide +kernel, fun x => ⟨rfl, rfl⟩⟩, _, rfl, rfl⟩
theorem pfL_X9_37 : FPF RX9 37 9 5 2 := ⟨⟨fL_X9_37, _, (.object "RainWalk$Ways"), rfl, rfl, by decide +kernel, fun x => ⟨rfl, rfl⟩⟩, _, rfl, rfl⟩
theorem pfL_X9_44 : FPF RX9 44 9 6 2 := ⟨⟨fL_X9_44, _, (.object "RainWalk$Day"), rfl, rfl, by decide +kernel, fun x => ⟨rfl, rfl⟩⟩, _, rfl, rfl⟩
theorem pfL_X9_48 : FP RX9 48 9 1 0 false := ⟨fL_X9_48, _, .int, rfl, rfl, by decide +kernel, fun x => ⟨rfl, rfl⟩⟩
theorem pfL_X9_67 : FP RX9 67 9 7 0 false := ⟨fL_X9_67, _, .int, rfl, rfl, by decide +kernel, fun x => ⟨rfl, rfl⟩⟩
theorem pfL_X9_73 : FP RX9 73 9 8 0 false := ⟨fL_X9_73, _, .int, rfl, rfl, by decide +kernel, fun x => ⟨rfl, rfl⟩⟩
theorem pfL_X9_9 : FPF RX9 9 9 0 2 := ⟨⟨fL_X9_9, _, (.array .byte), rfl, rfl, by decide +kernel, fun x => ⟨rfl, rfl⟩⟩, _, rfl, rfl⟩
theorem pfL_X9_92 : FP RX9 92 9 9 0 false := ⟨fL_X9_92, _, .int, rfl, rfl, by decide +kernel, fun x => ⟨rfl, rfl⟩⟩
theorem pfN_X11_151 : FPN RX11 151 10 0 0 := ⟨fN_X11_151, _, .int, rfl, rfl, by decide +kernel, fun x => ⟨rfl, rfl⟩⟩
theorem pfN_X11_167 : FPN RX11 167 10 6 0 := ⟨fN_X11_167, _, .int, rfl, rfl, by decide +kernel, fun x => ⟨rfl, rfl⟩⟩
theorem pfN_X11_190 : FPN RX11 190 10 2 0 := ⟨fN_X11_190, _, .int, rfl, rfl, by decide +kernel, fun x => ⟨rfl, rfl⟩⟩
theorem pfN_X11_193 : FPN RX11 193 10 4 0 := ⟨fN_X11_193, _, .int, rfl, rfl, by decide +kernel, fun x => ⟨rfl, rfl⟩⟩
theorem pfN_X11_219 : FPN RX11 219 10 1 0 := ⟨fN_X11_219, _, .int, rfl, rfl, by decide +kernel, fun x => ⟨rfl, rfl⟩⟩
theorem pfN_X11_264 : FPN RX11 264 10 3 0 := ⟨fN_X11_264, _, .int, rfl, rfl, by decide +kernel, fun x => ⟨rfl, rfl⟩⟩
theorem pfN_X11_323 : FPN RX11 323 10 5 0 := ⟨fN_X11_323, _, .int, rfl, rfl, by decide +kernel, fun x => ⟨rfl, rfl⟩⟩
theorem yI_X0_init : YI yX0_init cX0_init 2 0 := ⟨g_334, g_9, g_335, rfl, by decide, by decide, by decide +kernel⟩
theorem yI_X10_init : YI yX10_init cX10_init 1 0 := ⟨g_1257, g_17, g_1258, rfl, by decide, by decide, by decide +kernel⟩
theorem yI_X1_init : YI yX1_init cX1_init 1 0 := ⟨g_270, g_7, g_271, rfl, by decide, by decide, by decide +kernel⟩
theorem yI_X2_init : YI yX2_init cX2_init 1 0 := ⟨g_340, g_10, g_341, rfl, by decide, by decide, by decide +kernel⟩
theorem yI_X3_init : YI yX3_init cX3_init 1 0 := ⟨g_44, g_3, g_45, rfl, by decide, by decide, by decide +kernel⟩
theorem yI_X4_init : YI yX4_init cX4_init 1 0 := ⟨g_219, g_6, g_220, rfl, by decide, by decide, by decide +kernel⟩
theorem yI_X5_init : YI yX5_init cX5_init 1 0 := ⟨g_75, g_4, g_76, rfl, by decide, by decide, by decide +kernel⟩
theorem yI_X6_init : YI yX6_init cX6_init 1 0 := ⟨g_103, g_5, g_104, rfl, by decide, by decide, by decide +kernel⟩
theorem yI_X7_init : YI yX7_init cX7_init 1 0 := ⟨g_284, g_8, g_285, rfl, by decide, by decide, by decide +kernel⟩
theorem yI_X8_init : YI yX8_init cX8_init 2 0 := ⟨g_33, g_2, g_34, rfl, by decide, by decide, by decide +kernel⟩
theorem yS_X11_in : YS yX11_in cX11_in 3 (some .boolean) 3 := ⟨g_1435, g_11, g_1436, by decide, by decide, by decide +kernel⟩
theorem yS_X11_isDigit : YS yX11_isDigit cX11_isDigit 1 (some .boolean) 1 := ⟨g_1393, g_11, g_1394, by decide, by decide, by decide +kernel⟩
theorem yS_X11_isLetter : YS yX11_isLetter cX11_isLetter 1 (some .boolean) 1 := ⟨g_1389, g_11, g_1390, by decide, by decide, by decide +kernel⟩
theorem yS_X11_less : YS yX11_less cX11_less 2 (some .int) 2 := ⟨g_1583, g_11, g_1584, by decide, by decide, by decide +kernel⟩
theorem yS_X11_spotOf : YS yX11_spotOf cX11_spotOf 2 (some .int) 2 := ⟨g_1688, g_11, g_1689, by decide, by decide, by decide +kernel⟩
theorem yS_X11_wordOf : YS yX11_wordOf cX11_wordOf 4 (some .long) 1 := ⟨g_1409, g_11, g_1410, by decide, by decide, by decide +kernel⟩
theorem yS_X1_legsOf : YS yX1_legsOf cX1_legsOf 1 (some .int) 1 := ⟨g_938, g_7, g_939, by decide, by decide, by decide +kernel⟩
theorem yS_X9_coatParts : YS yX9_coatParts cX9_coatParts 1 (some .long) 1 := ⟨g_1027, g_1, g_1028, by decide, by decide, by decide +kernel⟩
theorem yS_X9_commonDivisor : YS yX9_commonDivisor cX9_commonDivisor 11 (some .long) 2 := ⟨g_726, g_1, g_727, by decide, by decide, by decide +kernel⟩
theorem yS_X9_fraction : YS yX9_fraction cX9_fraction 7 (some .long) 3 := ⟨g_723, g_1, g_724, by decide, by decide, by decide +kernel⟩
theorem yS_X9_isFace : YS yX9_isFace cX9_isFace 1 (some .boolean) 1 := ⟨g_654, g_1, g_655, by decide, by decide, by decide +kernel⟩
theorem yS_X9_isTill : YS yX9_isTill cX9_isTill 1 (some .boolean) 1 := ⟨g_830, g_1, g_831, by decide, by decide, by decide +kernel⟩
theorem yS_X9_isWay : YS yX9_isWay cX9_isWay 1 (some .boolean) 1 := ⟨g_673, g_1, g_674, by decide, by decide, by decide +kernel⟩
theorem yV_X0_begin : YV yX0_begin cX0_begin 5 none 0 3 := ⟨⟨_, rfl, rfl⟩, by decide, g_968, g_969, g_9, g_970, by decide, by decide, by decide +kernel⟩
theorem yV_X0_draw : YV yX0_draw cX0_draw 5 none 0 2 := ⟨⟨_, rfl, rfl⟩, by decide, g_973, g_974, g_9, g_975, by decide, by decide, by decide +kernel⟩
theorem yV_X0_end : YV yX0_end cX0_end 1 none 0 0 := ⟨⟨_, rfl, rfl⟩, by decide, g_634, g_635, g_9, g_636, by decide, by decide, by decide +kernel⟩
theorem yV_X0_isOn : YV yX0_isOn cX0_isOn 1 (some .boolean) 0 0 := ⟨⟨_, rfl, rfl⟩, by decide, g_982, g_983, g_9, g_984, by decide, by decide, by decide +kernel⟩
theorem yV_X0_keepForUndo : YV yX0_keepForUndo cX0_keepForUndo 3 none 0 0 := ⟨⟨_, rfl, rfl⟩, by decide, g_987, g_988, g_9, g_989, by decide, by decide, by decide +kernel⟩
theorem yV_X0_rainsIn : YV yX0_rainsIn cX0_rainsIn 2 (some .boolean) 0 1 := ⟨⟨_, rfl, rfl⟩, by decide, g_996, g_997, g_9, g_998, by decide, by decide, by decide +kernel⟩
theorem yV_X0_returnTo : YV yX0_returnTo cX0_returnTo 2 (some .boolean) 0 1 := ⟨⟨_, rfl, rfl⟩, by decide, g_1057, g_1058, g_9, g_1059, by decide, by decide, by decide +kernel⟩
theorem yV_X0_setMark : YV yX0_setMark cX0_setMark 1 (some .int) 0 0 := ⟨⟨_, rfl, rfl⟩, by decide, g_1049, g_1050, g_9, g_1051, by decide, by decide, by decide +kernel⟩
theorem yV_X0_takeBack : YV yX0_takeBack cX0_takeBack 1 (some .boolean) 0 0 := ⟨⟨_, rfl, rfl⟩, by decide, g_1041, g_1042, g_9, g_1043, by decide, by decide, by decide +kernel⟩
theorem yV_X10_across : YV yX10_across cX10_across 5 (some .int) 10 3 := ⟨⟨_, rfl, rfl⟩, by decide, g_1571, g_1572, g_17, g_1573, by decide, by decide, by decide +kernel⟩
theorem yV_X10_air : YV yX10_air cX10_air 5 (some .int) 10 3 := ⟨⟨_, rfl, rfl⟩, by decide, g_1563, g_1564, g_17, g_1565, by decide, by decide, by decide +kernel⟩
theorem yV_X10_begins : YV yX10_begins cX10_begins 3 (some .int) 10 2 := ⟨⟨_, rfl, rfl⟩, by decide, g_1696, g_1697, g_17, g_1698, by decide, by decide, by decide +kernel⟩
theorem yV_X10_ends : YV yX10_ends cX10_ends 3 (some .int) 10 2 := ⟨⟨_, rfl, rfl⟩, by decide, g_1700, g_1701, g_17, g_1702, by decide, by decide, by decide +kernel⟩
theorem yV_X10_facing : YV yX10_facing cX10_facing 3 (some .int) 10 2 := ⟨⟨_, rfl, rfl⟩, by decide, g_1567, g_1568, g_17, g_1569, by decide, by decide, by decide +kernel⟩
theorem yV_X10_find : YV yX10_find cX10_find 4 (some .int) 10 1 := ⟨⟨_, rfl, rfl⟩, by decide, g_1478, g_1479, g_17, g_1480, by decide, by decide, by decide +kernel⟩
theorem yV_X10_minutes : YV yX10_minutes cX10_minutes 3 (some .int) 10 2 := ⟨⟨_, rfl, rfl⟩, by decide, g_1608, g_1609, g_17, g_1610, by decide, by decide, by decide +kernel⟩
theorem yV_X10_shield : YV yX10_shield cX10_shield 2 (some .int) 10 1 := ⟨⟨_, rfl, rfl⟩, by decide, g_1579, g_1580, g_17, g_1581, by decide, by decide, by decide +kernel⟩
theorem yV_X11_begins : YV yX11_begins cX11_begins 3 none 11 2 := ⟨⟨_, rfl, rfl⟩, by decide, g_1444, gp_55, g_11, g_1445, by decide, by decide, by decide +kernel⟩
theorem yV_X11_bestOf : YV yX11_bestOf cX11_bestOf 7 (some .int) 11 4 := ⟨⟨_, rfl, rfl⟩, by decide, g_1629, gp_79, g_11, g_1630, by decide, by decide, by decide +kernel⟩
theorem yV_X11_byteAt : YV yX11_byteAt cX11_byteAt 2 (some .int) 11 1 := ⟨⟨_, rfl, rfl⟩, by decide, g_1386, gp_45, g_11, g_1387, by decide, by decide, by decide +kernel⟩
theorem yV_X11_canWait : YV yX11_canWait cX11_canWait 2 (some .boolean) 11 1 := ⟨⟨_, rfl, rfl⟩, by decide, g_1717, gp_90, g_11, g_1718, by decide, by decide, by decide +kernel⟩
theorem yV_X11_denied : YV yX11_denied cX11_denied 2 (some .boolean) 11 1 := ⟨⟨_, rfl, rfl⟩, by decide, g_1797, gp_99, g_11, g_1798, by decide, by decide, by decide +kernel⟩
theorem yV_X11_drips : YV yX11_drips cX11_drips 3 (some .long) 11 2 := ⟨⟨_, rfl, rfl⟩, by decide, g_1725, gp_92, g_11, g_1726, by decide, by decide, by decide +kernel⟩
theorem yV_X11_eatsSign : YV yX11_eatsSign cX11_eatsSign 3 (some .boolean) 11 1 := ⟨⟨_, rfl, rfl⟩, by decide, g_1516, gp_66, g_11, g_1517, by decide, by decide, by decide +kernel⟩
theorem yV_X11_eatsWord : YV yX11_eatsWord cX11_eatsWord 3 (some .boolean) 11 1 := ⟨⟨_, rfl, rfl⟩, by decide, g_1483, gp_60, g_11, g_1484, by decide, by decide, by decide +kernel⟩
theorem yV_X11_fitOf : YV yX11_fitOf cX11_fitOf 11 (some .int) 11 2 := ⟨⟨_, rfl, rfl⟩, by decide, g_1757, gp_95, g_11, g_1758, by decide, by decide, by decide +kernel⟩
theorem yV_X11_flaw : YV yX11_flaw cX11_flaw 2 none 11 1 := ⟨⟨_, rfl, rfl⟩, by decide, g_1419, gp_50, g_11, g_1420, by decide, by decide, by decide +kernel⟩
theorem yV_X11_goesOn : YV yX11_goesOn cX11_goesOn 3 none 11 0 := ⟨⟨_, rfl, rfl⟩, by decide, g_1382, gp_44, g_11, g_1383, by decide, by decide, by decide +kernel⟩
theorem yV_X11_good : YV yX11_good cX11_good 2 (some .int) 11 1 := ⟨⟨_, rfl, rfl⟩, by decide, g_1520, gp_67, g_11, g_1521, by decide, by decide, by decide +kernel⟩
theorem yV_X11_gotInAll : YV yX11_gotInAll cX11_gotInAll 4 (some .long) 11 0 := ⟨⟨_, rfl, rfl⟩, by decide, g_1814, gp_101, g_11, g_1815, by decide, by decide, by decide +kernel⟩
theorem yV_X11_granted : YV yX11_granted cX11_granted 1 (some .boolean) 11 0 := ⟨⟨_, rfl, rfl⟩, by decide, g_1802, gp_100, g_11, g_1803, by decide, by decide, by decide +kernel⟩
theorem yV_X11_holds : YV yX11_holds cX11_holds 1 (some .long) 11 0 := ⟨⟨_, rfl, rfl⟩, by decide, g_1818, gp_102, g_11, g_1819, by decide, by decide, by decide +kernel⟩
theorem yV_X11_hourOf : YV yX11_hourOf cX11_hourOf 2 (some .int) 11 1 := ⟨⟨_, rfl, rfl⟩, by decide, g_1709, gp_88, g_11, g_1710, by decide, by decide, by decide +kernel⟩
theorem yV_X11_inTime : YV yX11_inTime cX11_inTime 14 (some .int) 11 8 := ⟨⟨_, rfl, rfl⟩, by decide, g_1560, gp_74, g_11, g_1561, by decide, by decide, by decide +kernel⟩
theorem yV_X11_isDay : YV yX11_isDay cX11_isDay 1 (some .boolean) 11 0 := ⟨⟨_, rfl, rfl⟩, by decide, g_1781, gp_96, g_11, g_1782, by decide, by decide, by decide +kernel⟩
theorem yV_X11_isForward : YV yX11_isForward cX11_isForward 11 (some .boolean) 11 5 := ⟨⟨_, rfl, rfl⟩, by decide, g_1576, gp_75, g_11, g_1577, by decide, by decide, by decide +kernel⟩
theorem yV_X11_isHour : YV yX11_isHour cX11_isHour 2 (some .boolean) 11 1 := ⟨⟨_, rfl, rfl⟩, by decide, g_1548, gp_71, g_11, g_1549, by decide, by decide, by decide +kernel⟩
theorem yV_X11_isName : YV yX11_isName cX11_isName 1 (some .boolean) 11 0 := ⟨⟨_, rfl, rfl⟩, by decide, g_1469, gp_59, g_11, g_1470, by decide, by decide, by decide +kernel⟩
theorem yV_X11_isPlace : YV yX11_isPlace cX11_isPlace 2 (some .boolean) 11 1 := ⟨⟨_, rfl, rfl⟩, by decide, g_1681, gp_84, g_11, g_1682, by decide, by decide, by decide +kernel⟩
theorem yV_X11_isRoad : YV yX11_isRoad cX11_isRoad 2 (some .boolean) 11 1 := ⟨⟨_, rfl, rfl⟩, by decide, g_1544, gp_70, g_11, g_1545, by decide, by decide, by decide +kernel⟩
theorem yV_X11_isSeen : YV yX11_isSeen cX11_isSeen 2 (some .boolean) 11 1 := ⟨⟨_, rfl, rfl⟩, by decide, g_1753, gp_94, g_11, g_1754, by decide, by decide, by decide +kernel⟩
theorem yV_X11_isSpeed : YV yX11_isSpeed cX11_isSpeed 3 (some .boolean) 11 2 := ⟨⟨_, rfl, rfl⟩, by decide, g_1552, gp_72, g_11, g_1553, by decide, by decide, by decide +kernel⟩
theorem yV_X11_isWalker : YV yX11_isWalker cX11_isWalker 2 (some .boolean) 11 1 := ⟨⟨_, rfl, rfl⟩, by decide, g_1540, gp_69, g_11, g_1541, by decide, by decide, by decide +kernel⟩
theorem yV_X11_isWord : YV yX11_isWord cX11_isWord 2 (some .boolean) 11 1 := ⟨⟨_, rfl, rfl⟩, by decide, g_1406, gp_48, g_11, g_1407, by decide, by decide, by decide +kernel⟩
theorem yV_X11_keeps : YV yX11_keeps cX11_keeps 2 none 11 0 := ⟨⟨_, rfl, rfl⟩, by decide, g_1785, gp_97, g_11, g_1786, by decide, by decide, by decide +kernel⟩
theorem yV_X11_known : YV yX11_known cX11_known 3 (some .int) 11 1 := ⟨⟨_, rfl, rfl⟩, by decide, g_1495, gp_63, g_11, g_1496, by decide, by decide, by decide +kernel⟩
theorem yV_X11_laysWays : YV yX11_laysWays cX11_laysWays 7 none 11 3 := ⟨⟨_, rfl, rfl⟩, by decide, g_1685, gp_85, g_11, g_1686, by decide, by decide, by decide +kernel⟩
theorem yV_X11_lost : YV yX11_lost cX11_lost 2 (some .int) 11 1 := ⟨⟨_, rfl, rfl⟩, by decide, g_1617, gp_78, g_11, g_1618, by decide, by decide, by decide +kernel⟩
theorem yV_X11_meanOf : YV yX11_meanOf cX11_meanOf 7 (some .long) 11 5 := ⟨⟨_, rfl, rfl⟩, by decide, g_1705, gp_87, g_11, g_1706, by decide, by decide, by decide +kernel⟩
theorem yV_X11_names : YV yX11_names cX11_names 5 none 11 3 := ⟨⟨_, rfl, rfl⟩, by decide, g_1487, gp_61, g_11, g_1488, by decide, by decide, by decide +kernel⟩
theorem yV_X11_needs : YV yX11_needs cX11_needs 2 none 11 1 := ⟨⟨_, rfl, rfl⟩, by decide, g_1428, gp_52, g_11, g_1429, by decide, by decide, by decide +kernel⟩
theorem yV_X11_partsOf : YV yX11_partsOf cX11_partsOf 7 (some .long) 11 6 := ⟨⟨_, rfl, rfl⟩, by decide, g_1556, gp_73, g_11, g_1557, by decide, by decide, by decide +kernel⟩
theorem yV_X11_rainsIn : YV yX11_rainsIn cX11_rainsIn 3 (some .boolean) 11 1 := ⟨⟨_, rfl, rfl⟩, by decide, g_1789, gp_98, g_11, g_1790, by decide, by decide, by decide +kernel⟩
theorem yV_X11_readAll : YV yX11_readAll cX11_readAll 2 none 11 0 := ⟨⟨_, rfl, rfl⟩, by decide, g_1397, gp_46, g_11, g_1398, by decide, by decide, by decide +kernel⟩
theorem yV_X11_readFresh : YV yX11_readFresh cX11_readFresh 3 (some .long) 11 0 := ⟨⟨_, rfl, rfl⟩, by decide, g_1465, gp_58, g_11, g_1466, by decide, by decide, by decide +kernel⟩
theorem yV_X11_readLine : YV yX11_readLine cX11_readLine 1 none 11 0 := ⟨⟨_, rfl, rfl⟩, by decide, g_1401, gp_47, g_11, g_1402, by decide, by decide, by decide +kernel⟩
theorem yV_X11_readPart : YV yX11_readPart cX11_readPart 4 (some .int) 11 3 := ⟨⟨_, rfl, rfl⟩, by decide, g_1424, gp_51, g_11, g_1425, by decide, by decide, by decide +kernel⟩
theorem yV_X11_readPlace : YV yX11_readPlace cX11_readPlace 5 none 11 0 := ⟨⟨_, rfl, rfl⟩, by decide, g_1461, gp_57, g_11, g_1462, by decide, by decide, by decide +kernel⟩
theorem yV_X11_readRain : YV yX11_readRain cX11_readRain 6 none 11 0 := ⟨⟨_, rfl, rfl⟩, by decide, g_1440, gp_54, g_11, g_1441, by decide, by decide, by decide +kernel⟩
theorem yV_X11_readRoad : YV yX11_readRoad cX11_readRoad 7 none 11 0 := ⟨⟨_, rfl, rfl⟩, by decide, g_1491, gp_62, g_11, g_1492, by decide, by decide, by decide +kernel⟩
theorem yV_X11_readSeen : YV yX11_readSeen cX11_readSeen 4 none 11 0 := ⟨⟨_, rfl, rfl⟩, by decide, g_1512, gp_65, g_11, g_1513, by decide, by decide, by decide +kernel⟩
theorem yV_X11_readSide : YV yX11_readSide cX11_readSide 2 (some .int) 11 0 := ⟨⟨_, rfl, rfl⟩, by decide, g_1451, gp_56, g_11, g_1452, by decide, by decide, by decide +kernel⟩
theorem yV_X11_readWalker : YV yX11_readWalker cX11_readWalker 12 none 11 0 := ⟨⟨_, rfl, rfl⟩, by decide, g_1499, gp_64, g_11, g_1500, by decide, by decide, by decide +kernel⟩
theorem yV_X11_readWhole : YV yX11_readWhole cX11_readWhole 4 (some .int) 11 2 := ⟨⟨_, rfl, rfl⟩, by decide, g_1432, gp_53, g_11, g_1433, by decide, by decide, by decide +kernel⟩
theorem yV_X11_readWorld : YV yX11_readWorld cX11_readWorld 2 none 11 0 := ⟨⟨_, rfl, rfl⟩, by decide, g_1415, gp_49, g_11, g_1416, by decide, by decide, by decide +kernel⟩
theorem yV_X11_refused : YV yX11_refused cX11_refused 2 (some .int) 11 1 := ⟨⟨_, rfl, rfl⟩, by decide, g_1252, gp_43, g_11, g_1253, by decide, by decide, by decide +kernel⟩
theorem yV_X11_refuses : YV yX11_refuses cX11_refuses 6 (some .int) 11 5 := ⟨⟨_, rfl, rfl⟩, by decide, g_1536, gp_68, g_11, g_1537, by decide, by decide, by decide +kernel⟩
theorem yV_X11_refusesTwo : YV yX11_refusesTwo cX11_refusesTwo 8 (some .int) 11 6 := ⟨⟨_, rfl, rfl⟩, by decide, g_1661, gp_81, g_11, g_1662, by decide, by decide, by decide +kernel⟩
theorem yV_X11_refusesWay : YV yX11_refusesWay cX11_refusesWay 6 (some .int) 11 5 := ⟨⟨_, rfl, rfl⟩, by decide, g_1677, gp_83, g_11, g_1678, by decide, by decide, by decide +kernel⟩
theorem yV_X11_stepOf : YV yX11_stepOf cX11_stepOf 9 (some .int) 11 4 := ⟨⟨_, rfl, rfl⟩, by decide, g_1737, gp_93, g_11, g_1738, by decide, by decide, by decide +kernel⟩
theorem yV_X11_takes : YV yX11_takes cX11_takes 8 none 11 4 := ⟨⟨_, rfl, rfl⟩, by decide, g_1713, gp_89, g_11, g_1714, by decide, by decide, by decide +kernel⟩
theorem yV_X11_together : YV yX11_together cX11_together 10 (some .long) 11 6 := ⟨⟨_, rfl, rfl⟩, by decide, g_1665, gp_82, g_11, g_1666, by decide, by decide, by decide +kernel⟩
theorem yV_X11_told : YV yX11_told cX11_told 12 (some .long) 11 3 := ⟨⟨_, rfl, rfl⟩, by decide, g_1588, gp_76, g_11, g_1589, by decide, by decide, by decide +kernel⟩
theorem yV_X11_tries : YV yX11_tries cX11_tries 9 none 11 4 := ⟨⟨_, rfl, rfl⟩, by decide, g_1693, gp_86, g_11, g_1694, by decide, by decide, by decide +kernel⟩
theorem yV_X11_waitsOf : YV yX11_waitsOf cX11_waitsOf 5 (some .long) 11 3 := ⟨⟨_, rfl, rfl⟩, by decide, g_1721, gp_91, g_11, g_1722, by decide, by decide, by decide +kernel⟩
theorem yV_X11_wetAtBest : YV yX11_wetAtBest cX11_wetAtBest 5 (some .long) 11 4 := ⟨⟨_, rfl, rfl⟩, by decide, g_1649, gp_80, g_11, g_1650, by decide, by decide, by decide +kernel⟩
theorem yV_X11_wetOf : YV yX11_wetOf cX11_wetOf 9 (some .long) 11 5 := ⟨⟨_, rfl, rfl⟩, by decide, g_1596, gp_77, g_11, g_1597, by decide, by decide, by decide +kernel⟩
theorem yV_X1_bestSpeed : YV yX1_bestSpeed cX1_bestSpeed 11 (some .int) 1 4 := ⟨⟨_, rfl, rfl⟩, by decide, g_761, g_762, g_7, g_763, by decide, by decide, by decide +kernel⟩
theorem yV_X1_countFits : YV yX1_countFits cX1_countFits 5 (some .int) 1 2 := ⟨⟨_, rfl, rfl⟩, by decide, g_934, g_935, g_7, g_936, by decide, by decide, by decide +kernel⟩
theorem yV_X1_findFit : YV yX1_findFit cX1_findFit 7 (some .int) 1 3 := ⟨⟨_, rfl, rfl⟩, by decide, g_954, g_955, g_7, g_956, by decide, by decide, by decide +kernel⟩
theorem yV_X1_fitCode : YV yX1_fitCode cX1_fitCode 9 (some .int) 1 3 := ⟨⟨_, rfl, rfl⟩, by decide, g_942, gp_40, g_7, g_943, by decide, by decide, by decide +kernel⟩
theorem yV_X1_isForward : YV yX1_isForward cX1_isForward 6 (some .boolean) 1 1 := ⟨⟨_, rfl, rfl⟩, by decide, g_713, g_714, g_7, g_715, by decide, by decide, by decide +kernel⟩
theorem yV_X1_lay : YV yX1_lay cX1_lay 11 none 1 4 := ⟨⟨_, rfl, rfl⟩, by decide, g_693, g_694, g_7, g_695, by decide, by decide, by decide +kernel⟩
theorem yV_X1_leastWet : YV yX1_leastWet cX1_leastWet 5 (some .long) 1 4 := ⟨⟨_, rfl, rfl⟩, by decide, g_771, g_772, g_7, g_773, by decide, by decide, by decide +kernel⟩
theorem yV_X1_soak : YV yX1_soak cX1_soak 7 (some .long) 1 3 := ⟨⟨_, rfl, rfl⟩, by decide, g_710, gp_30, g_7, g_711, by decide, by decide, by decide +kernel⟩
theorem yV_X1_wetInLee : YV yX1_wetInLee cX1_wetInLee 3 (some .long) 1 2 := ⟨⟨_, rfl, rfl⟩, by decide, g_806, g_807, g_7, g_808, by decide, by decide, by decide +kernel⟩
theorem yV_X1_wetOf : YV yX1_wetOf cX1_wetOf 6 (some .long) 1 5 := ⟨⟨_, rfl, rfl⟩, by decide, g_689, g_690, g_7, g_691, by decide, by decide, by decide +kernel⟩
theorem yV_X1_worstSpeed : YV yX1_worstSpeed cX1_worstSpeed 11 (some .int) 1 4 := ⟨⟨_, rfl, rfl⟩, by decide, g_780, g_781, g_7, g_782, by decide, by decide, by decide +kernel⟩
theorem yV_X2_addFaces : YV yX2_addFaces cX2_addFaces 3 none 2 1 := ⟨⟨_, rfl, rfl⟩, by decide, g_1000, g_1001, g_10, g_1002, by decide, by decide, by decide +kernel⟩
theorem yV_X2_allGot : YV yX2_allGot cX2_allGot 4 (some .long) 2 0 := ⟨⟨_, rfl, rfl⟩, by decide, g_1023, g_1024, g_10, g_1025, by decide, by decide, by decide +kernel⟩
theorem yV_X2_copy : YV yX2_copy cX2_copy 3 none 2 1 := ⟨⟨_, rfl, rfl⟩, by decide, g_991, g_992, g_10, g_993, by decide, by decide, by decide +kernel⟩
theorem yV_X4_bodyOf : YV yX4_bodyOf cX4_bodyOf 5 (some .boolean) 4 1 := ⟨⟨_, rfl, rfl⟩, by decide, g_602, gp_22, g_6, g_603, by decide, by decide, by decide +kernel⟩
theorem yV_X4_canBeName : YV yX4_canBeName cX4_canBeName 2 (some .boolean) 4 0 := ⟨⟨_, rfl, rfl⟩, by decide, g_568, gp_16, g_6, g_569, by decide, by decide, by decide +kernel⟩
theorem yV_X4_exchange : YV yX4_exchange cX4_exchange 3 (some (.object "RainWalk$World")) 4 1 := ⟨⟨_, rfl, rfl⟩, by decide, g_626, g_627, g_6, g_628, by decide, by decide, by decide +kernel⟩
theorem yV_X4_fail : YV yX4_fail cX4_fail 2 (some .boolean) 4 1 := ⟨⟨_, rfl, rfl⟩, by decide, g_521, gp_7, g_6, g_522, by decide, by decide, by decide +kernel⟩
theorem yV_X4_findName : YV yX4_findName cX4_findName 2 (some .int) 4 0 := ⟨⟨_, rfl, rfl⟩, by decide, g_578, gp_17, g_6, g_579, by decide, by decide, by decide +kernel⟩
theorem yV_X4_hasRoom : YV yX4_hasRoom cX4_hasRoom 3 (some .boolean) 4 2 := ⟨⟨_, rfl, rfl⟩, by decide, g_539, gp_11, g_6, g_540, by decide, by decide, by decide +kernel⟩
theorem yV_X4_is : YV yX4_is cX4_is 5 (some .boolean) 4 1 := ⟨⟨_, rfl, rfl⟩, by decide, g_460, gp_5, g_6, g_461, by decide, by decide, by decide +kernel⟩
theorem yV_X4_kindOf : YV yX4_kindOf cX4_kindOf 3 (some .boolean) 4 1 := ⟨⟨_, rfl, rfl⟩, by decide, g_594, gp_21, g_6, g_595, by decide, by decide, by decide +kernel⟩
theorem yV_X4_newName : YV yX4_newName cX4_newName 2 (some .boolean) 4 1 := ⟨⟨_, rfl, rfl⟩, by decide, g_564, gp_15, g_6, g_565, by decide, by decide, by decide +kernel⟩
theorem yV_X4_next : YV yX4_next cX4_next 5 none 4 0 := ⟨⟨_, rfl, rfl⟩, by decide, g_451, gp_3, g_6, g_452, by decide, by decide, by decide +kernel⟩
theorem yV_X4_open : YV yX4_open cX4_open 3 none 4 2 := ⟨⟨_, rfl, rfl⟩, by decide, g_440, gp_2, g_6, g_441, by decide, by decide, by decide +kernel⟩
theorem yV_X4_placeBut : YV yX4_placeBut cX4_placeBut 3 (some .boolean) 4 1 := ⟨⟨_, rfl, rfl⟩, by decide, g_586, gp_19, g_6, g_587, by decide, by decide, by decide +kernel⟩
theorem yV_X4_placeLine : YV yX4_placeLine cX4_placeLine 2 (some .boolean) 4 0 := ⟨⟨_, rfl, rfl⟩, by decide, g_560, gp_14, g_6, g_561, by decide, by decide, by decide +kernel⟩
theorem yV_X4_rainLine : YV yX4_rainLine cX4_rainLine 2 (some .boolean) 4 0 := ⟨⟨_, rfl, rfl⟩, by decide, g_543, gp_12, g_6, g_544, by decide, by decide, by decide +kernel⟩
theorem yV_X4_read : YV yX4_read cX4_read 5 (some .boolean) 4 2 := ⟨⟨_, rfl, rfl⟩, by decide, g_435, g_436, g_6, g_437, by decide, by decide, by decide +kernel⟩
theorem yV_X4_roadLine : YV yX4_roadLine cX4_roadLine 2 (some .boolean) 4 0 := ⟨⟨_, rfl, rfl⟩, by decide, g_582, gp_18, g_6, g_583, by decide, by decide, by decide +kernel⟩
theorem yV_X4_seenLine : YV yX4_seenLine cX4_seenLine 2 (some .boolean) 4 0 := ⟨⟨_, rfl, rfl⟩, by decide, g_615, gp_23, g_6, g_616, by decide, by decide, by decide +kernel⟩
theorem yV_X4_side : YV yX4_side cX4_side 1 (some .boolean) 4 0 := ⟨⟨_, rfl, rfl⟩, by decide, g_550, gp_13, g_6, g_551, by decide, by decide, by decide +kernel⟩
theorem yV_X4_sign : YV yX4_sign cX4_sign 2 (some .boolean) 4 1 := ⟨⟨_, rfl, rfl⟩, by decide, g_623, gp_25, g_6, g_624, by decide, by decide, by decide +kernel⟩
theorem yV_X4_someWalker : YV yX4_someWalker cX4_someWalker 2 (some .boolean) 4 0 := ⟨⟨_, rfl, rfl⟩, by decide, g_619, gp_24, g_6, g_620, by decide, by decide, by decide +kernel⟩
theorem yV_X4_sortAt : YV yX4_sortAt cX4_sortAt 3 (some .int) 4 1 := ⟨⟨_, rfl, rfl⟩, by decide, g_455, gp_4, g_6, g_456, by decide, by decide, by decide +kernel⟩
theorem yV_X4_walkerLine : YV yX4_walkerLine cX4_walkerLine 2 (some .boolean) 4 0 := ⟨⟨_, rfl, rfl⟩, by decide, g_590, gp_20, g_6, g_591, by decide, by decide, by decide +kernel⟩
theorem yV_X4_whole : YV yX4_whole cX4_whole 3 (some .boolean) 4 2 := ⟨⟨_, rfl, rfl⟩, by decide, g_534, gp_10, g_6, g_535, by decide, by decide, by decide +kernel⟩
theorem yV_X4_word : YV yX4_word cX4_word 2 (some .boolean) 4 1 := ⟨⟨_, rfl, rfl⟩, by decide, g_530, gp_9, g_6, g_531, by decide, by decide, by decide +kernel⟩
theorem yV_X4_wordAndWhole : YV yX4_wordAndWhole cX4_wordAndWhole 4 (some .boolean) 4 3 := ⟨⟨_, rfl, rfl⟩, by decide, g_526, gp_8, g_6, g_527, by decide, by decide, by decide +kernel⟩
theorem yV_X4_worldLine : YV yX4_worldLine cX4_worldLine 1 (some .boolean) 4 0 := ⟨⟨_, rfl, rfl⟩, by decide, g_513, gp_6, g_6, g_514, by decide, by decide, by decide +kernel⟩
theorem yV_X5_airAlong : YV yX5_airAlong cX5_airAlong 4 (some .int) 5 2 := ⟨⟨_, rfl, rfl⟩, by decide, g_701, g_702, g_4, g_703, by decide, by decide, by decide +kernel⟩
theorem yV_X5_endOf : YV yX5_endOf cX5_endOf 2 (some .int) 5 1 := ⟨⟨_, rfl, rfl⟩, by decide, g_863, g_864, g_4, g_865, by decide, by decide, by decide +kernel⟩
theorem yV_X5_minutesAt : YV yX5_minutesAt cX5_minutesAt 2 (some .int) 5 1 := ⟨⟨_, rfl, rfl⟩, by decide, g_742, g_743, g_4, g_744, by decide, by decide, by decide +kernel⟩
theorem yV_X5_startOf : YV yX5_startOf cX5_startOf 2 (some .int) 5 1 := ⟨⟨_, rfl, rfl⟩, by decide, g_859, g_860, g_4, g_861, by decide, by decide, by decide +kernel⟩
theorem yV_X5_tell : YV yX5_tell cX5_tell 2 (some .int) 5 1 := ⟨⟨_, rfl, rfl⟩, by decide, g_1073, g_1074, g_4, g_1075, by decide, by decide, by decide +kernel⟩
theorem yV_X5_turnOf : YV yX5_turnOf cX5_turnOf 4 (some .int) 5 2 := ⟨⟨_, rfl, rfl⟩, by decide, g_697, g_698, g_4, g_699, by decide, by decide, by decide +kernel⟩
theorem yV_X6_canGo : YV yX6_canGo cX6_canGo 2 (some .boolean) 6 1 := ⟨⟨_, rfl, rfl⟩, by decide, g_680, g_681, g_5, g_682, by decide, by decide, by decide +kernel⟩
theorem yV_X6_shape : YV yX6_shape cX6_shape 5 none 6 3 := ⟨⟨_, rfl, rfl⟩, by decide, g_608, g_609, g_5, g_610, by decide, by decide, by decide +kernel⟩
theorem yV_X6_shield : YV yX6_shield cX6_shield 1 (some .int) 6 0 := ⟨⟨_, rfl, rfl⟩, by decide, g_717, g_718, g_5, g_719, by decide, by decide, by decide +kernel⟩
theorem yV_X6_tell : YV yX6_tell cX6_tell 2 (some .int) 6 1 := ⟨⟨_, rfl, rfl⟩, by decide, g_1065, g_1066, g_5, g_1067, by decide, by decide, by decide +kernel⟩
theorem yV_X7_addLeg : YV yX7_addLeg cX7_addLeg 9 none 7 5 := ⟨⟨_, rfl, rfl⟩, by decide, g_854, gp_36, g_8, g_855, by decide, by decide, by decide +kernel⟩
theorem yV_X7_addMove : YV yX7_addMove cX7_addMove 7 none 7 5 := ⟨⟨_, rfl, rfl⟩, by decide, g_868, gp_37, g_8, g_869, by decide, by decide, by decide +kernel⟩
theorem yV_X7_endFrom : YV yX7_endFrom cX7_endFrom 3 (some .int) 7 2 := ⟨⟨_, rfl, rfl⟩, by decide, g_905, g_906, g_8, g_907, by decide, by decide, by decide +kernel⟩
theorem yV_X7_forget : YV yX7_forget cX7_forget 1 none 7 0 := ⟨⟨_, rfl, rfl⟩, by decide, g_630, g_631, g_8, g_632, by decide, by decide, by decide +kernel⟩
theorem yV_X7_isOpen : YV yX7_isOpen cX7_isOpen 3 (some .boolean) 7 2 := ⟨⟨_, rfl, rfl⟩, by decide, g_889, g_890, g_8, g_891, by decide, by decide, by decide +kernel⟩
theorem yV_X7_keyOf : YV yX7_keyOf cX7_keyOf 4 (some .long) 7 2 := ⟨⟨_, rfl, rfl⟩, by decide, g_894, gp_39, g_8, g_895, by decide, by decide, by decide +kernel⟩
theorem yV_X7_makeRows : YV yX7_makeRows cX7_makeRows 1 none 7 0 := ⟨⟨_, rfl, rfl⟩, by decide, g_838, gp_34, g_8, g_839, by decide, by decide, by decide +kernel⟩
theorem yV_X7_meanFrom : YV yX7_meanFrom cX7_meanFrom 3 (some .long) 7 2 := ⟨⟨_, rfl, rfl⟩, by decide, g_897, g_898, g_8, g_899, by decide, by decide, by decide +kernel⟩
theorem yV_X7_price : YV yX7_price cX7_price 12 none 7 3 := ⟨⟨_, rfl, rfl⟩, by decide, g_847, gp_35, g_8, g_848, by decide, by decide, by decide +kernel⟩
theorem yV_X7_reckon : YV yX7_reckon cX7_reckon 9 none 7 6 := ⟨⟨_, rfl, rfl⟩, by decide, g_833, g_834, g_8, g_835, by decide, by decide, by decide +kernel⟩
theorem yV_X7_reckonMinute : YV yX7_reckonMinute cX7_reckonMinute 9 none 7 2 := ⟨⟨_, rfl, rfl⟩, by decide, g_885, gp_38, g_8, g_886, by decide, by decide, by decide +kernel⟩
theorem yV_X7_trace : YV yX7_trace cX7_trace 10 (some .int) 7 3 := ⟨⟨_, rfl, rfl⟩, by decide, g_913, g_914, g_8, g_915, by decide, by decide, by decide +kernel⟩
theorem yV_X8_canWait : YV yX8_canWait cX8_canWait 2 (some .boolean) 8 1 := ⟨⟨_, rfl, rfl⟩, by decide, g_871, g_872, g_2, g_873, by decide, by decide, by decide +kernel⟩
theorem yV_X8_clear : YV yX8_clear cX8_clear 1 none 8 0 := ⟨⟨_, rfl, rfl⟩, by decide, g_446, g_447, g_2, g_448, by decide, by decide, by decide +kernel⟩
theorem yV_X8_dripOn : YV yX8_dripOn cX8_dripOn 3 (some .int) 8 2 := ⟨⟨_, rfl, rfl⟩, by decide, g_876, g_877, g_2, g_878, by decide, by decide, by decide +kernel⟩
theorem yV_X8_hasHour : YV yX8_hasHour cX8_hasHour 2 (some .boolean) 8 1 := ⟨⟨_, rfl, rfl⟩, by decide, g_676, g_677, g_2, g_678, by decide, by decide, by decide +kernel⟩
theorem yV_X8_hasPlace : YV yX8_hasPlace cX8_hasPlace 2 (some .boolean) 8 1 := ⟨⟨_, rfl, rfl⟩, by decide, g_826, g_827, g_2, g_828, by decide, by decide, by decide +kernel⟩
theorem yV_X8_hasRoad : YV yX8_hasRoad cX8_hasRoad 2 (some .boolean) 8 1 := ⟨⟨_, rfl, rfl⟩, by decide, g_669, g_670, g_2, g_671, by decide, by decide, by decide +kernel⟩
theorem yV_X8_hasSeen : YV yX8_hasSeen cX8_hasSeen 2 (some .boolean) 8 1 := ⟨⟨_, rfl, rfl⟩, by decide, g_930, g_931, g_2, g_932, by decide, by decide, by decide +kernel⟩
theorem yV_X8_hasWalker : YV yX8_hasWalker cX8_hasWalker 2 (some .boolean) 8 1 := ⟨⟨_, rfl, rfl⟩, by decide, g_665, g_666, g_2, g_667, by decide, by decide, by decide +kernel⟩
theorem yV_X8_hourOf : YV yX8_hourOf cX8_hourOf 2 (some .int) 8 1 := ⟨⟨_, rfl, rfl⟩, by decide, g_841, g_842, g_2, g_843, by decide, by decide, by decide +kernel⟩
theorem yV_X8_isTold : YV yX8_isTold cX8_isTold 1 (some .boolean) 8 0 := ⟨⟨_, rfl, rfl⟩, by decide, g_516, g_517, g_2, g_518, by decide, by decide, by decide +kernel⟩
theorem yV_X9_grant : YV yX9_grant cX9_grant 2 (some .int) 9 1 := ⟨⟨_, rfl, rfl⟩, by decide, g_639, gp_26, g_1, g_640, by decide, by decide, by decide +kernel⟩
theorem yV_X9_leeTrouble : YV yX9_leeTrouble cX9_leeTrouble 8 (some .int) 9 6 := ⟨⟨_, rfl, rfl⟩, by decide, g_803, gp_31, g_1, g_804, by decide, by decide, by decide +kernel⟩
theorem yV_X9_legTrouble : YV yX9_legTrouble cX9_legTrouble 7 (some .int) 9 5 := ⟨⟨_, rfl, rfl⟩, by decide, g_658, gp_27, g_1, g_659, by decide, by decide, by decide +kernel⟩
theorem yV_X9_placesTrouble : YV yX9_placesTrouble cX9_placesTrouble 5 (some .int) 9 3 := ⟨⟨_, rfl, rfl⟩, by decide, g_823, gp_33, g_1, g_824, by decide, by decide, by decide +kernel⟩
theorem yV_X9_putBytes : YV yX9_putBytes cX9_putBytes 3 none 9 1 := ⟨⟨_, rfl, rfl⟩, by decide, g_424, gp_0, g_1, g_425, by decide, by decide, by decide +kernel⟩
theorem yV_X9_refuse : YV yX9_refuse cX9_refuse 2 (some .int) 9 1 := ⟨⟨_, rfl, rfl⟩, by decide, g_432, gp_1, g_1, g_433, by decide, by decide, by decide +kernel⟩
theorem yV_X9_refusedBy : YV yX9_refusedBy cX9_refusedBy 2 (some .boolean) 9 1 := ⟨⟨_, rfl, rfl⟩, by decide, g_685, gp_29, g_1, g_686, by decide, by decide, by decide +kernel⟩
theorem yV_X9_stayTrouble : YV yX9_stayTrouble cX9_stayTrouble 2 (some .int) 9 1 := ⟨⟨_, rfl, rfl⟩, by decide, g_1010, gp_41, g_1, g_1011, by decide, by decide, by decide +kernel⟩
theorem yV_X9_tripTrouble : YV yX9_tripTrouble cX9_tripTrouble 6 (some .int) 9 4 := ⟨⟨_, rfl, rfl⟩, by decide, g_662, gp_28, g_1, g_663, by decide, by decide, by decide +kernel⟩
theorem yV_X9_wayTrouble : YV yX9_wayTrouble cX9_wayTrouble 7 (some .int) 9 5 := ⟨⟨_, rfl, rfl⟩, by decide, g_819, gp_32, g_1, g_820, by decide, by decide, by decide +kernel⟩
end
section
def rm_X0_end : Room := { frames := 0, cells := 0, slots := 0, locals := 0 }
def P_X0_end_0 (Q : HS → Prop) (v0 : Nat) (S : HS) : Prop := ob S v0 0 ∧ (∀ S1 : HS, S1 = sI S v0 0 (-1 : Int32) → (∀ S2 : HS, S2 = sI S1 v0 2 (0 : Int32) → (∀ S3 : HS, S3 = sI S2 v0 3 (0 : Int32) → (Q S3))))
set_option maxRecDepth 20000 in
set_option maxHeartbeats 4000000 in
theorem T_X0_end_0 {X : CX} {Q : HS → Prop} (C : Cx X cX0_end RX0 1 rm_X0_end) (E : ReV X rm_X0_end Q) (ht : (xh X).sig.returnType = none) (hn : (xh X).name = yX0_end.name) {v0 : Nat} {S : HS} (h : P_X0_end_0 Q v0 S) : WS X 1 0 0 0 [(0, .ref v0)] [] S := by
  refine r_aload_n (pc := 0) C dX0_end_0 0 rfl ?_
  refine r_iconst (pc := 1) C (v := (-1 : Int32)) dX0_end_1 (by decide) ?_
  obtain ⟨o_v0, h⟩ := h
  refine r_puti (pc := 2) C pfL_X0_9 dX0_end_2 o_v0 ?_
  refine r_heap (fun S1 eS1 => ?_)
  have h := h S1 eS1
  have o_v0 := ob_I eS1 o_v0
  refine r_aload_n (pc := 5) C dX0_end_5 0 rfl ?_
  refine r_iconst (pc := 6) C (v := (0 : Int32)) dX0_end_6 (by decide) ?_
  refine r_puti (pc := 7) C pfL_X0_29 dX0_end_7 o_v0 ?_
  refine r_heap (fun S2 eS2 => ?_)
  have h := h S2 eS2
  have o_v0 := ob_I eS2 o_v0
  refine r_aload_n (pc := 10) C dX0_end_10 0 rfl ?_
  refine r_iconst (pc := 11) C (v := (0 : Int32)) dX0_end_11 (by decide) ?_
  refine r_puti (pc := 12) C pfL_X0_32 dX0_end_12 o_v0 ?_
  refine r_heap (fun S3 eS3 => ?_)
  have h := h S3 eS3
  have o_v0 := ob_I eS3 o_v0
  exact r_vret (pc := 15) C E ht dX0_end_15 (by decide) (by decide) h
def P_X0_end (v0 : Nat) (Q : HS → Prop) (S : HS) : Prop := P_X0_end_0 Q v0 S
theorem c_X0_end {l : Launch} {Ee : EE} {S : HS} {v0 : Nat} {Q : HS → Prop} (h : P_X0_end v0 Q S) : MV l yX0_end cX0_end 1 none rm_X0_end Ee S [.ref v0] Q :=
  openV (by decide) (Nat.le_of_ble_eq_true rfl) (fun X C E ht hn hE hl => by subst hE; exact r_sub [0] rfl (T_X0_end_0 C E ht hn h))
def rm_X0_begin : Room := { frames := 1, cells := 0, slots := 0, locals := 20 }
def B_X0_begin_28 (Q : HS → Prop) (X28 : Nat → Int32 → HS → Prop) (v0 : Nat) (v4 : Int32) (S : HS) : Prop := (((5 : Int32) ≤ v4) → (Q S)) ∧ ((¬ (5 : Int32) ≤ v4) → (ob S v0 0 ∧ (∃ a2 : Nat, fR S v0 4 = some a2 ∧ (ob S a2 2 ∧ (∃ a3 : Nat, fR S a2 2 = some a3 ∧ (ob S a3 14 ∧ (vp_in v4 (hN S a3) ∧ (∀ S5 : HS, S5 = sJ S a3 v4.toNatClampNeg (0 : Int64) → (∀ x6 : Int32, x6 = v4 + (1 : Int32) → (X28 v0 x6 S5))))))))))
def P_X0_begin_28 (Q : HS → Prop) (v0 : Nat) (v4 : Int32) (S : HS) : Prop := ∀ X28 : Nat → Int32 → HS → Prop, (∀ (v0 : Nat) (v4 : Int32) (S : HS), B_X0_begin_28 Q X28 v0 v4 S → X28 v0 v4 S) → X28 v0 v4 S
set_option maxRecDepth 20000 in
set_option maxHeartbeats 4000000 in
theorem TB_X0_begin_28 {X : CX} {Q : HS → Prop} (C : Cx X cX0_begin RX0 5 rm_X0_begin) (E : ReV X rm_X0_begin Q) (ht : (xh X).sig.returnType = none) (hn : (xh X).name = yX0_begin.name) {X28 : Nat → Int32 → HS → Prop} (hX28 : ∀ (v0 : Nat) (v4 : Int32) (S : HS), X28 v0 v4 S → WS X 5 0 0 28 [(0, .ref v0), (4, .int v4)] [] S) {v0 : Nat} {v4 : Int32} {S : HS} (h : B_X0_begin_28 Q X28 v0 v4 S) : WS X 5 0 0 28 [(0, .ref v0), (4, .int v4)] [] S := by
  refine r_iload (pc := 28) C dX0_begin_28 1 rfl ?_
  refine r_iconst (pc := 30) C (v := (5 : Int32)) dX0_begin_30 (by decide) ?_
  refine r_icmp_ge (pc := 31) C (tgt := 51) dX0_begin_31 (by decide) (fun c1 => ?_) (fun c1 => ?_)
  · have h := h.1 c1
    exact r_vret (pc := 51) C E ht dX0_begin_51 (by decide) (by decide) h
  · have h := h.2 c1
    refine r_aload_n (pc := 34) C dX0_begin_34 0 rfl ?_
    obtain ⟨o_v0, h⟩ := h
    obtain ⟨a2, ea2, h⟩ := h
    refine r_getr (pc := 35) C fL_X0_18 dX0_begin_35 o_v0 ea2 ?_
    obtain ⟨o_a2, h⟩ := h
    obtain ⟨a3, ea3, h⟩ := h
    refine r_getr (pc := 38) C fL_X0_44 dX0_begin_38 o_a2 ea3 ?_
    refine r_iload (pc := 41) C dX0_begin_41 1 rfl ?_
    refine r_lconst (pc := 43) C (v := (0 : Int64)) dX0_begin_43 (by decide) ?_
    obtain ⟨o_a3, h⟩ := h
    obtain ⟨i4, h⟩ := h
    refine r_last (pc := 44) C dX0_begin_44 o_a3 i4 ?_
    refine r_heap (fun S5 eS5 => ?_)
    have h := h S5 eS5
    have o_a2 := ob_J eS5 o_a2
    have o_a3 := ob_J eS5 o_a3
    have o_v0 := ob_J eS5 o_v0
    obtain ⟨x6, ex6⟩ : ∃ z : Int32, z = v4 + (1 : Int32) := ⟨_, rfl⟩
    have h := h x6 ex6
    refine r_iinc (pc := 45) C (v := x6) (lv' := [(4, .int x6), (0, .ref v0)]) dX0_begin_45 1 rfl ex6.symm (by decide) rfl ?_
    refine r_goto (pc := 48) C (tgt := 28) dX0_begin_48 (by decide) ?_
    exact r_sub [1, 0] rfl (hX28 v0 x6 S5 h)
theorem T_X0_begin_28 {X : CX} {Q : HS → Prop} (C : Cx X cX0_begin RX0 5 rm_X0_begin) (E : ReV X rm_X0_begin Q) (ht : (xh X).sig.returnType = none) (hn : (xh X).name = yX0_begin.name) {v0 : Nat} {v4 : Int32} {S : HS} (h : P_X0_begin_28 Q v0 v4 S) : WS X 5 0 0 28 [(0, .ref v0), (4, .int v4)] [] S :=
  h (fun v0 v4 S => WS X 5 0 0 28 [(0, .ref v0), (4, .int v4)] [] S) (fun v0 v4 S hh => TB_X0_begin_28 C E ht hn (fun v0 v4 S z => z) hh)
def P_X0_begin_0 (Q : HS → Prop) (v0 : Nat) (v1 : Int32) (v2 : Int32) (v3 : Int32) (S : HS) : Prop := ob S v0 0 ∧ (P_X0_end v0 (fun S1 => Gr S S1 → (∀ S4 : HS, S4 = sI S1 v0 0 v1 → (∃ a5 : Nat, fR S4 v0 4 = some a5 ∧ (ob S4 a5 2 ∧ (∀ S6 : HS, S6 = sI S4 a5 0 v2 → (∃ a7 : Nat, fR S6 v0 4 = some a7 ∧ (ob S6 a7 2 ∧ (∀ S8 : HS, S8 = sI S6 a7 1 v3 → (P_X0_begin_28 Q v0 (0 : Int32) S8))))))))) S)
set_option maxRecDepth 20000 in
set_option maxHeartbeats 4000000 in
theorem T_X0_begin_0 {X : CX} {Q : HS → Prop} (C : Cx X cX0_begin RX0 5 rm_X0_begin) (E : ReV X rm_X0_begin Q) (ht : (xh X).sig.returnType = none) (hn : (xh X).name = yX0_begin.name) {v0 : Nat} {v1 : Int32} {v2 : Int32} {v3 : Int32} {S : HS} (h : P_X0_begin_0 Q v0 v1 v2 v3 S) : WS X 5 0 0 0 [(0, .ref v0), (1, .int v1), (2, .int v2), (3, .int v3)] [] S := by
  refine r_aload_n (pc := 0) C dX0_begin_0 0 rfl ?_
  obtain ⟨o_v0, h⟩ := h
  refine r_callVv0 (pc := 1) C (rest := []) (a := v0) o_v0 [] yV_X0_end g_971 (c_X0_end h) dX0_begin_1 rfl rfl (Nat.le_of_ble_eq_true rfl) ⟨by decide, by decide⟩ ⟨by decide, by decide⟩ ⟨rfl, rfl⟩ (fun S1 h g2 => ?_)
  have h := h g2
  have o_v0 := gr_ob g2 o_v0
  refine r_aload_n (pc := 4) C dX0_begin_4 0 rfl ?_
  refine r_iload_n (pc := 5) C dX0_begin_5 1 rfl ?_
  refine r_puti (pc := 6) C pfL_X0_9 dX0_begin_6 o_v0 ?_
  refine r_heap (fun S4 eS4 => ?_)
  have h := h S4 eS4
  have o_v0 := ob_I eS4 o_v0
  refine r_aload_n (pc := 9) C dX0_begin_9 0 rfl ?_
  obtain ⟨a5, ea5, h⟩ := h
  refine r_getr (pc := 10) C fL_X0_18 dX0_begin_10 o_v0 ea5 ?_
  refine r_iload_n (pc := 13) C dX0_begin_13 2 rfl ?_
  obtain ⟨o_a5, h⟩ := h
  refine r_puti (pc := 14) C pfL_X0_38 dX0_begin_14 o_a5 ?_
  refine r_heap (fun S6 eS6 => ?_)
  have h := h S6 eS6
  have o_a5 := ob_I eS6 o_a5
  have o_v0 := ob_I eS6 o_v0
  refine r_aload_n (pc := 17) C dX0_begin_17 0 rfl ?_
  obtain ⟨a7, ea7, h⟩ := h
  refine r_getr (pc := 18) C fL_X0_18 dX0_begin_18 o_v0 ea7 ?_
  refine r_iload_n (pc := 21) C dX0_begin_21 3 rfl ?_
  obtain ⟨o_a7, h⟩ := h
  refine r_puti (pc := 22) C pfL_X0_41 dX0_begin_22 o_a7 ?_
  refine r_heap (fun S8 eS8 => ?_)
  have h := h S8 eS8
  have o_a5 := ob_I eS8 o_a5
  have o_a7 := ob_I eS8 o_a7
  have o_v0 := ob_I eS8 o_v0
  refine r_iconst (pc := 25) C (v := (0 : Int32)) dX0_begin_25 (by decide) ?_
  refine r_istore (pc := 26) C dX0_begin_26 (by decide) (lv' := [(4, .int (0 : Int32)), (0, .ref v0), (1, .int v1), (2, .int v2), (3, .int v3)]) rfl ?_
  exact r_sub [1, 0] rfl (T_X0_begin_28 C E ht hn h)
def P_X0_begin (v0 : Nat) (v1 : Int32) (v2 : Int32) (v3 : Int32) (Q : HS → Prop) (S : HS) : Prop := P_X0_begin_0 Q v0 v1 v2 v3 S
theorem c_X0_begin {l : Launch} {Ee : EE} {S : HS} {v0 : Nat} {v1 : Int32} {v2 : Int32} {v3 : Int32} {Q : HS → Prop} (h : P_X0_begin v0 v1 v2 v3 Q S) : MV l yX0_begin cX0_begin 5 none rm_X0_begin Ee S [.ref v0, .int v1, .int v2, .int v3] Q :=
  openV (by decide) (Nat.le_of_ble_eq_true rfl) (fun X C E ht hn hE hl => by subst hE; exact r_sub [0, 1, 2, 3] rfl (T_X0_begin_0 C E ht hn h))
def rm_X0_draw : Room := { frames := 0, cells := 0, slots := 0, locals := 0 }
def P_X0_draw_60 (Q : HS → Prop) (X10 : Nat → Nat → Int32 → Int32 → HS → Prop) (v0 : Nat) (v1 : Nat) (v3 : Int32) (v4 : Int32) (S : HS) : Prop := ∀ x1 : Int32, x1 = v4 + (1 : Int32) → (X10 v0 v1 v3 x1 S)
set_option maxRecDepth 20000 in
set_option maxHeartbeats 4000000 in
theorem T_X0_draw_60 {X : CX} {Q : HS → Prop} (C : Cx X cX0_draw RX0 5 rm_X0_draw) (E : ReV X rm_X0_draw Q) (ht : (xh X).sig.returnType = none) (hn : (xh X).name = yX0_draw.name) {X10 : Nat → Nat → Int32 → Int32 → HS → Prop} (hX10 : ∀ (v0 : Nat) (v1 : Nat) (v3 : Int32) (v4 : Int32) (S : HS), X10 v0 v1 v3 v4 S → WS X 5 0 0 10 [(0, .ref v0), (1, .ref v1), (3, .int v3), (4, .int v4)] [] S) {v0 : Nat} {v1 : Nat} {v3 : Int32} {v4 : Int32} {S : HS} (h : P_X0_draw_60 Q X10 v0 v1 v3 v4 S) : WS X 5 0 0 60 [(0, .ref v0), (1, .ref v1), (3, .int v3), (4, .int v4)] [] S := by
  obtain ⟨x1, ex1⟩ : ∃ z : Int32, z = v4 + (1 : Int32) := ⟨_, rfl⟩
  have h := h x1 ex1
  refine r_iinc (pc := 60) C (v := x1) (lv' := [(4, .int x1), (0, .ref v0), (1, .ref v1), (3, .int v3)]) dX0_draw_60 3 rfl ex1.symm (by decide) rfl ?_
  refine r_goto (pc := 63) C (tgt := 10) dX0_draw_63 (by decide) ?_
  exact r_sub [1, 2, 3, 0] rfl (hX10 v0 v1 v3 x1 S h)
def B_X0_draw_10 (Q : HS → Prop) (X10 : Nat → Nat → Int32 → Int32 → HS → Prop) (v0 : Nat) (v1 : Nat) (v3 : Int32) (v4 : Int32) (S : HS) : Prop := ob S v1 8 ∧ (∀ x1 : Int32, x1 = fI S v1 1 → (((x1 ≤ v4) → (Q S)) ∧ ((¬ x1 ≤ v4) → (∀ x3 : Int32, x3 = (((75 : Int32) * v3) + (74 : Int32)) - (((75 : Int32) * v3) + (74 : Int32)) / (65537 : Int32) * (65537 : Int32) → (∀ x4 : Int32, x4 = x3 - x3 / (100 : Int32) * (100 : Int32) → (∃ a5 : Nat, fR S v1 6 = some a5 ∧ (ob S a5 17 ∧ (vp_in v4 (hN S a5) ∧ ∃ a7 : Nat, fR S a5 v4.toNatClampNeg = some a7 ∧ (ob S a7 3 ∧ (∀ x8 : Int32, x8 = fI S a7 4 → (((x8 ≤ x4) → (P_X0_draw_60 Q X10 v0 v1 x3 v4 S)) ∧ ((¬ x8 ≤ x4) → (ob S v0 0 ∧ (∀ x10 : Int32, x10 = fI S v0 1 → (∀ x11 : Int32, x11 = x10 ||| ((1 : Int32) <<< (v4 &&& 31)) → (∀ S12 : HS, S12 = sI S v0 1 x11 → (P_X0_draw_60 Q X10 v0 v1 x3 v4 S12)))))))))))))))))
def P_X0_draw_10 (Q : HS → Prop) (v0 : Nat) (v1 : Nat) (v3 : Int32) (v4 : Int32) (S : HS) : Prop := ∀ X10 : Nat → Nat → Int32 → Int32 → HS → Prop, (∀ (v0 : Nat) (v1 : Nat) (v3 : Int32) (v4 : Int32) (S : HS), B_X0_draw_10 Q X10 v0 v1 v3 v4 S → X10 v0 v1 v3 v4 S) → X10 v0 v1 v3 v4 S
set_option maxRecDepth 20000 in
set_option maxHeartbeats 4000000 in
theorem TB_X0_draw_10 {X : CX} {Q : HS → Prop} (C : Cx X cX0_draw RX0 5 rm_X0_draw) (E : ReV X rm_X0_draw Q) (ht : (xh X).sig.returnType = none) (hn : (xh X).name = yX0_draw.name) {X10 : Nat → Nat → Int32 → Int32 → HS → Prop} (hX10 : ∀ (v0 : Nat) (v1 : Nat) (v3 : Int32) (v4 : Int32) (S : HS), X10 v0 v1 v3 v4 S → WS X 5 0 0 10 [(0, .ref v0), (1, .ref v1), (3, .int v3), (4, .int v4)] [] S) {v0 : Nat} {v1 : Nat} {v3 : Int32} {v4 : Int32} {S : HS} (h : B_X0_draw_10 Q X10 v0 v1 v3 v4 S) : WS X 5 0 0 10 [(0, .ref v0), (1, .ref v1), (3, .int v3), (4, .int v4)] [] S := by
  refine r_iload (pc := 10) C dX0_draw_10 3 rfl ?_
  refine r_aload_n (pc := 12) C dX0_draw_12 1 rfl ?_
  obtain ⟨o_v1, h⟩ := h
  refine r_geti (pc := 13) C fL_X0_51 dX0_draw_13 o_v1 ?_
  refine r_topi (fun x1 ex1 => ?_)
  have h := h x1 ex1
  refine r_icmp_ge (pc := 16) C (tgt := 66) dX0_draw_16 (by decide) (fun c2 => ?_) (fun c2 => ?_)
  · have h := h.1 c2
    exact r_vret (pc := 66) C E ht dX0_draw_66 (by decide) (by decide) h
  · have h := h.2 c2
    refine r_bipush (pc := 19) C (v := (75 : Int32)) dX0_draw_19 (by decide) ?_
    refine r_iload_n (pc := 21) C dX0_draw_21 2 rfl ?_
    refine r_imul (pc := 22) C dX0_draw_22 ?_
    refine r_bipush (pc := 23) C (v := (74 : Int32)) dX0_draw_23 (by decide) ?_
    refine r_iadd (pc := 25) C dX0_draw_25 ?_
    refine r_ldc (pc := 26) C (v := (65537 : Int32)) dX0_draw_26 g_976 ?_
    refine r_irem (pc := 28) C dX0_draw_28 (by decide) ?_
    refine r_topi (fun x3 ex3 => ?_)
    have h := h x3 ex3
    refine r_istore_n (pc := 29) C dX0_draw_29 rfl (by decide) (lv' := [(3, .int x3), (0, .ref v0), (1, .ref v1), (4, .int v4)]) rfl ?_
    refine r_iload_n (pc := 30) C dX0_draw_30 0 rfl ?_
    refine r_bipush (pc := 31) C (v := (100 : Int32)) dX0_draw_31 (by decide) ?_
    refine r_irem (pc := 33) C dX0_draw_33 (by decide) ?_
    refine r_topi (fun x4 ex4 => ?_)
    have h := h x4 ex4
    refine r_aload_n (pc := 34) C dX0_draw_34 2 rfl ?_
    obtain ⟨a5, ea5, h⟩ := h
    refine r_getr (pc := 35) C fL_X0_57 dX0_draw_35 o_v1 ea5 ?_
    refine r_iload (pc := 38) C dX0_draw_38 3 rfl ?_
    obtain ⟨o_a5, h⟩ := h
    obtain ⟨i6, a7, ea7, h⟩ := h
    refine r_aald17 (pc := 40) C dX0_draw_40 o_a5 i6 ea7 ?_
    obtain ⟨o_a7, h⟩ := h
    refine r_geti (pc := 41) C fL_X0_61 dX0_draw_41 o_a7 ?_
    refine r_topi (fun x8 ex8 => ?_)
    have h := h x8 ex8
    refine r_icmp_ge (pc := 44) C (tgt := 60) dX0_draw_44 (by decide) (fun c9 => ?_) (fun c9 => ?_)
    · have h := h.1 c9
      exact r_sub [1, 2, 0, 3] rfl (T_X0_draw_60 C E ht hn hX10 h)
    · have h := h.2 c9
      refine r_aload_n (pc := 47) C dX0_draw_47 1 rfl ?_
      refine r_dup (pc := 48) C dX0_draw_48 rfl ?_
      obtain ⟨o_v0, h⟩ := h
      refine r_geti (pc := 49) C fL_X0_48 dX0_draw_49 o_v0 ?_
      refine r_topi (fun x10 ex10 => ?_)
      have h := h x10 ex10
      refine r_iconst (pc := 52) C (v := (1 : Int32)) dX0_draw_52 (by decide) ?_
      refine r_iload (pc := 53) C dX0_draw_53 3 rfl ?_
      refine r_ishl (pc := 55) C dX0_draw_55 ?_
      refine r_ior (pc := 56) C dX0_draw_56 ?_
      refine r_topi (fun x11 ex11 => ?_)
      have h := h x11 ex11
      refine r_puti (pc := 57) C pfL_X0_48 dX0_draw_57 o_v0 ?_
      refine r_heap (fun S12 eS12 => ?_)
      have h := h S12 eS12
      have o_a5 := ob_I eS12 o_a5
      have o_a7 := ob_I eS12 o_a7
      have o_v0 := ob_I eS12 o_v0
      have o_v1 := ob_I eS12 o_v1
      exact r_sub [1, 2, 0, 3] rfl (T_X0_draw_60 C E ht hn hX10 h)
theorem T_X0_draw_10 {X : CX} {Q : HS → Prop} (C : Cx X cX0_draw RX0 5 rm_X0_draw) (E : ReV X rm_X0_draw Q) (ht : (xh X).sig.returnType = none) (hn : (xh X).name = yX0_draw.name) {v0 : Nat} {v1 : Nat} {v3 : Int32} {v4 : Int32} {S : HS} (h : P_X0_draw_10 Q v0 v1 v3 v4 S) : WS X 5 0 0 10 [(0, .ref v0), (1, .ref v1), (3, .int v3), (4, .int v4)] [] S :=
  h (fun v0 v1 v3 v4 S => WS X 5 0 0 10 [(0, .ref v0), (1, .ref v1), (3, .int v3), (4, .int v4)] [] S) (fun v0 v1 v3 v4 S hh => TB_X0_draw_10 C E ht hn (fun v0 v1 v3 v4 S z => z) hh)
def P_X0_draw_0 (Q : HS → Prop) (v0 : Nat) (v1 : Nat) (v2 : Int32) (S : HS) : Prop := ob S v0 0 ∧ (∀ S1 : HS, S1 = sI S v0 1 (0 : Int32) → (P_X0_draw_10 Q v0 v1 v2 (0 : Int32) S1))
set_option maxRecDepth 20000 in
set_option maxHeartbeats 4000000 in
theorem T_X0_draw_0 {X : CX} {Q : HS → Prop} (C : Cx X cX0_draw RX0 5 rm_X0_draw) (E : ReV X rm_X0_draw Q) (ht : (xh X).sig.returnType = none) (hn : (xh X).name = yX0_draw.name) {v0 : Nat} {v1 : Nat} {v2 : Int32} {S : HS} (h : P_X0_draw_0 Q v0 v1 v2 S) : WS X 5 0 0 0 [(0, .ref v0), (1, .ref v1), (2, .int v2)] [] S := by
  refine r_iload_n (pc := 0) C dX0_draw_0 2 rfl ?_
  refine r_istore_n (pc := 1) C dX0_draw_1 rfl (by decide) (lv' := [(3, .int v2), (0, .ref v0), (1, .ref v1), (2, .int v2)]) rfl ?_
  refine r_aload_n (pc := 2) C dX0_draw_2 1 rfl ?_
  refine r_iconst (pc := 3) C (v := (0 : Int32)) dX0_draw_3 (by decide) ?_
  obtain ⟨o_v0, h⟩ := h
  refine r_puti (pc := 4) C pfL_X0_48 dX0_draw_4 o_v0 ?_
  refine r_heap (fun S1 eS1 => ?_)
  have h := h S1 eS1
  have o_v0 := ob_I eS1 o_v0
  refine r_iconst (pc := 7) C (v := (0 : Int32)) dX0_draw_7 (by decide) ?_
  refine r_istore (pc := 8) C dX0_draw_8 (by decide) (lv' := [(4, .int (0 : Int32)), (3, .int v2), (0, .ref v0), (1, .ref v1), (2, .int v2)]) rfl ?_
  exact r_sub [2, 3, 1, 0] rfl (T_X0_draw_10 C E ht hn h)
def P_X0_draw (v0 : Nat) (v1 : Nat) (v2 : Int32) (Q : HS → Prop) (S : HS) : Prop := P_X0_draw_0 Q v0 v1 v2 S
theorem c_X0_draw {l : Launch} {Ee : EE} {S : HS} {v0 : Nat} {v1 : Nat} {v2 : Int32} {Q : HS → Prop} (h : P_X0_draw v0 v1 v2 Q S) : MV l yX0_draw cX0_draw 5 none rm_X0_draw Ee S [.ref v0, .ref v1, .int v2] Q :=
  openV (by decide) (Nat.le_of_ble_eq_true rfl) (fun X C E ht hn hE hl => by subst hE; exact r_sub [0, 1, 2] rfl (T_X0_draw_0 C E ht hn h))
def rm_X2_init : Room := { frames := 1, cells := 1, slots := 5, locals := 20 }
def P_X2_init_0 (Q : HS → Prop) (v0 : Nat) (S : HS) : Prop := ∀ a1 : Nat, a1 ∉ hL S → ∀ S2 : HS, S2 = nW S a1 14 5 → (ob S2 v0 2 ∧ (∀ S3 : HS, S3 = sR S2 v0 2 (some a1) → (Q S3)))
set_option maxRecDepth 20000 in
set_option maxHeartbeats 4000000 in
theorem T_X2_init_0 {X : CX} {Q : HS → Prop} (C : Cx X cX2_init RX2 1 rm_X2_init) (E : ReV X rm_X2_init Q) (ht : (xh X).sig.returnType = none) (hn : (xh X).name = yX2_init.name) {v0 : Nat} {S : HS} (h : P_X2_init_0 Q v0 S) : WS X 1 0 0 0 [(0, .ref v0)] [] S := by
  refine r_aload_n (pc := 0) C dX2_init_0 0 rfl ?_
  refine r_objinit (pc := 1) C g_342 dX2_init_1 (by decide) (Nat.le_of_ble_eq_true rfl) ?_
  refine r_aload_n (pc := 4) C dX2_init_4 0 rfl ?_
  refine r_iconst (pc := 5) C (v := (5 : Int32)) dX2_init_5 (by decide) ?_
  refine r_newa14 (pc := 6) C (N := 5) g_266 dX2_init_6 (by decide) (by decide) (by decide) (by decide) (by decide) (fun a1 q4 => ?_)
  refine r_heap (fun S2 eS2 => ?_)
  have h := h a1 q4 S2 eS2
  have g5 := gr_of_new eS2 q4
  have o_a1 := ob_of_new eS2
  obtain ⟨o_v0, h⟩ := h
  refine r_putFr (pc := 8) C pfL_X2_9 hn dX2_init_8 o_v0 ?_
  refine r_heap (fun S3 eS3 => ?_)
  have h := h S3 eS3
  have o_a1 := ob_R eS3 o_a1
  have o_v0 := ob_R eS3 o_v0
  exact r_vret (pc := 11) C E ht dX2_init_11 (by decide) (by decide) h
def P_X2_init (v0 : Nat) (Q : HS → Prop) (S : HS) : Prop := P_X2_init_0 Q v0 S
theorem c_X2_init {l : Launch} {Ee : EE} {S : HS} {v0 : Nat} {Q : HS → Prop} (h : P_X2_init v0 Q S) : MV l yX2_init cX2_init 1 none rm_X2_init Ee S [.ref v0] Q :=
  openV (by decide) (Nat.le_of_ble_eq_true rfl) (fun X C E ht hn hE hl => by subst hE; exact r_sub [0] rfl (T_X2_init_0 C E ht hn h))
def rm_X0_init : Room := { frames := 2, cells := 42, slots := 179, locals := 40 }
def B_X0_init_69 (Q : HS → Prop) (X69 : Nat → Int32 → Nat → Nat → HS → Prop) (v0 : Nat) (v1 : Int32) (kk : Nat) (nn : Nat) (S : HS) : Prop := ob S v0 0 ∧ (∃ a1 : Nat, fR S v0 6 = some a1 ∧ (ob S a1 16 ∧ ((((nI (hN S a1)) ≤ v1) → (kk ≤ rm_X0_init.cells ∧ nn ≤ rm_X0_init.slots ∧ Q S)) ∧ ((¬ (nI (hN S a1)) ≤ v1) → (∃ a3 : Nat, fR S v0 6 = some a3 ∧ (kk + 1 ≤ rm_X0_init.cells ∧ nn + 3 ≤ rm_X0_init.slots ∧ ∀ a4 : Nat, a4 ∉ hL S → ∀ S5 : HS, S5 = nW S a4 2 0 → (kk + 1 + 1 ≤ rm_X0_init.cells ∧ nn + 3 + 5 ≤ rm_X0_init.slots ∧ (P_X2_init a4 (fun S6 => Gr S5 S6 → (ob S6 a3 16 ∧ (vp_in v1 (hN S6 a3) ∧ (∀ S10 : HS, S10 = sR S6 a3 v1.toNatClampNeg (some a4) → (∀ x11 : Int32, x11 = v1 + (1 : Int32) → (X69 v0 x11 (kk + 1 + 1) (nn + 3 + 5) S10)))))) S5))))))))
def P_X0_init_69 (Q : HS → Prop) (v0 : Nat) (v1 : Int32) (kk : Nat) (nn : Nat) (S : HS) : Prop := ∀ X69 : Nat → Int32 → Nat → Nat → HS → Prop, (∀ (v0 : Nat) (v1 : Int32) (kk : Nat) (nn : Nat) (S : HS), B_X0_init_69 Q X69 v0 v1 kk nn S → X69 v0 v1 kk nn S) → X69 v0 v1 kk nn S
set_option maxRecDepth 20000 in
set_option maxHeartbeats 4000000 in
theorem TB_X0_init_69 {X : CX} {Q : HS → Prop} (C : Cx X cX0_init RX0 2 rm_X0_init) (E : ReV X rm_X0_init Q) (ht : (xh X).sig.returnType = none) (hn : (xh X).name = yX0_init.name) {X69 : Nat → Int32 → Nat → Nat → HS → Prop} (hX69 : ∀ (v0 : Nat) (v1 : Int32) (kk : Nat) (nn : Nat) (S : HS), X69 v0 v1 kk nn S → WS X 2 kk nn 69 [(0, .ref v0), (1, .int v1)] [] S) {v0 : Nat} {v1 : Int32} {kk : Nat} {nn : Nat} {S : HS} (h : B_X0_init_69 Q X69 v0 v1 kk nn S) : WS X 2 kk nn 69 [(0, .ref v0), (1, .int v1)] [] S := by
  refine r_iload_n (pc := 69) C dX0_init_69 1 rfl ?_
  refine r_aload_n (pc := 70) C dX0_init_70 0 rfl ?_
  obtain ⟨o_v0, h⟩ := h
  obtain ⟨a1, ea1, h⟩ := h
  refine r_getr (pc := 71) C fL_X0_26 dX0_init_71 o_v0 ea1 ?_
  obtain ⟨o_a1, h⟩ := h
  refine r_alen16 (pc := 74) C dX0_init_74 o_a1 ?_
  refine r_icmp_ge (pc := 75) C (tgt := 97) dX0_init_75 (by decide) (fun c2 => ?_) (fun c2 => ?_)
  · have h := h.1 c2
    obtain ⟨hk, hk2, h⟩ := h
    exact r_vret (pc := 97) C E ht dX0_init_97 hk hk2 h
  · have h := h.2 c2
    refine r_aload_n (pc := 78) C dX0_init_78 0 rfl ?_
    obtain ⟨a3, ea3, h⟩ := h
    refine r_getr (pc := 79) C fL_X0_26 dX0_init_79 o_v0 ea3 ?_
    refine r_iload_n (pc := 82) C dX0_init_82 1 rfl ?_
    obtain ⟨hk, hk2, h⟩ := h
    refine r_new (pc := 83) C nc_X0_15 dX0_init_83 hk hk2 (fun a4 q12 => ?_)
    refine r_heap (fun S5 eS5 => ?_)
    have h := h a4 q12 S5 eS5
    have g13 := gr_of_new eS5 q12
    have o_a4 := ob_of_new eS5
    have o_a1 := gr_ob g13 o_a1
    have o_v0 := gr_ob g13 o_v0
    refine r_dup (pc := 86) C dX0_init_86 rfl ?_
    obtain ⟨hk, hk2, h⟩ := h
    refine r_callNv (pc := 87) C (rest := [.ref a4, .int v1, .ref a3]) (a := a4) [] yI_X2_init (List.mem_of_getElem? (i := 6) rfl) (c_X2_init h) dX0_init_87 rfl rfl (Nat.le_of_ble_eq_true rfl) ⟨by decide, by decide⟩ ⟨hk, hk2⟩ (fun S6 h g7 => ?_)
    have h := h g7
    have o_a1 := gr_ob g7 o_a1
    have o_a4 := gr_ob g7 o_a4
    have o_v0 := gr_ob g7 o_v0
    obtain ⟨o_a3, h⟩ := h
    obtain ⟨i9, h⟩ := h
    refine r_aast16 (pc := 90) C dX0_init_90 o_a3 i9 o_a4 ?_
    refine r_heap (fun S10 eS10 => ?_)
    have h := h S10 eS10
    have o_a1 := ob_R eS10 o_a1
    have o_a3 := ob_R eS10 o_a3
    have o_a4 := ob_R eS10 o_a4
    have o_v0 := ob_R eS10 o_v0
    obtain ⟨x11, ex11⟩ : ∃ z : Int32, z = v1 + (1 : Int32) := ⟨_, rfl⟩
    have h := h x11 ex11
    refine r_iinc (pc := 91) C (v := x11) (lv' := [(1, .int x11), (0, .ref v0)]) dX0_init_91 1 rfl ex11.symm (by decide) rfl ?_
    refine r_goto (pc := 94) C (tgt := 69) dX0_init_94 (by decide) ?_
    exact r_sub [1, 0] rfl (hX69 v0 x11 (kk + 1 + 1) (nn + 3 + 5) S10 h)
theorem T_X0_init_69 {X : CX} {Q : HS → Prop} (C : Cx X cX0_init RX0 2 rm_X0_init) (E : ReV X rm_X0_init Q) (ht : (xh X).sig.returnType = none) (hn : (xh X).name = yX0_init.name) {v0 : Nat} {v1 : Int32} {kk : Nat} {nn : Nat} {S : HS} (h : P_X0_init_69 Q v0 v1 kk nn S) : WS X 2 kk nn 69 [(0, .ref v0), (1, .int v1)] [] S :=
  h (fun v0 v1 kk nn S => WS X 2 kk nn 69 [(0, .ref v0), (1, .int v1)] [] S) (fun v0 v1 kk nn S hh => TB_X0_init_69 C E ht hn (fun v0 v1 kk nn S z => z) hh)
def B_X0_init_39 (Q : HS → Prop) (X39 : Nat → Int32 → Nat → Nat → HS → Prop) (v0 : Nat) (v1 : Int32) (kk : Nat) (nn : Nat) (S : HS) : Prop := ob S v0 0 ∧ (∃ a1 : Nat, fR S v0 5 = some a1 ∧ (ob S a1 16 ∧ ((((nI (hN S a1)) ≤ v1) → (P_X0_init_69 Q v0 (0 : Int32) kk nn S)) ∧ ((¬ (nI (hN S a1)) ≤ v1) → (∃ a3 : Nat, fR S v0 5 = some a3 ∧ (kk + 1 ≤ rm_X0_init.cells ∧ nn + 3 ≤ rm_X0_init.slots ∧ ∀ a4 : Nat, a4 ∉ hL S → ∀ S5 : HS, S5 = nW S a4 2 0 → (kk + 1 + 1 ≤ rm_X0_init.cells ∧ nn + 3 + 5 ≤ rm_X0_init.slots ∧ (P_X2_init a4 (fun S6 => Gr S5 S6 → (ob S6 a3 16 ∧ (vp_in v1 (hN S6 a3) ∧ (∀ S10 : HS, S10 = sR S6 a3 v1.toNatClampNeg (some a4) → (∀ x11 : Int32, x11 = v1 + (1 : Int32) → (X39 v0 x11 (kk + 1 + 1) (nn + 3 + 5) S10)))))) S5))))))))
def P_X0_init_39 (Q : HS → Prop) (v0 : Nat) (v1 : Int32) (kk : Nat) (nn : Nat) (S : HS) : Prop := ∀ X39 : Nat → Int32 → Nat → Nat → HS → Prop, (∀ (v0 : Nat) (v1 : Int32) (kk : Nat) (nn : Nat) (S : HS), B_X0_init_39 Q X39 v0 v1 kk nn S → X39 v0 v1 kk nn S) → X39 v0 v1 kk nn S
set_option maxRecDepth 20000 in
set_option maxHeartbeats 4000000 in
theorem TB_X0_init_39 {X : CX} {Q : HS → Prop} (C : Cx X cX0_init RX0 2 rm_X0_init) (E : ReV X rm_X0_init Q) (ht : (xh X).sig.returnType = none) (hn : (xh X).name = yX0_init.name) {X39 : Nat → Int32 → Nat → Nat → HS → Prop} (hX39 : ∀ (v0 : Nat) (v1 : Int32) (kk : Nat) (nn : Nat) (S : HS), X39 v0 v1 kk nn S → WS X 2 kk nn 39 [(0, .ref v0), (1, .int v1)] [] S) {v0 : Nat} {v1 : Int32} {kk : Nat} {nn : Nat} {S : HS} (h : B_X0_init_39 Q X39 v0 v1 kk nn S) : WS X 2 kk nn 39 [(0, .ref v0), (1, .int v1)] [] S := by
  refine r_iload_n (pc := 39) C dX0_init_39 1 rfl ?_
  refine r_aload_n (pc := 40) C dX0_init_40 0 rfl ?_
  obtain ⟨o_v0, h⟩ := h
  obtain ⟨a1, ea1, h⟩ := h
  refine r_getr (pc := 41) C fL_X0_22 dX0_init_41 o_v0 ea1 ?_
  obtain ⟨o_a1, h⟩ := h
  refine r_alen16 (pc := 44) C dX0_init_44 o_a1 ?_
  refine r_icmp_ge (pc := 45) C (tgt := 67) dX0_init_45 (by decide) (fun c2 => ?_) (fun c2 => ?_)
  · have h := h.1 c2
    refine r_iconst (pc := 67) C (v := (0 : Int32)) dX0_init_67 (by decide) ?_
    refine r_istore_n (pc := 68) C dX0_init_68 rfl (by decide) (lv' := [(1, .int (0 : Int32)), (0, .ref v0)]) rfl ?_
    exact r_sub [1, 0] rfl (T_X0_init_69 C E ht hn h)
  · have h := h.2 c2
    refine r_aload_n (pc := 48) C dX0_init_48 0 rfl ?_
    obtain ⟨a3, ea3, h⟩ := h
    refine r_getr (pc := 49) C fL_X0_22 dX0_init_49 o_v0 ea3 ?_
    refine r_iload_n (pc := 52) C dX0_init_52 1 rfl ?_
    obtain ⟨hk, hk2, h⟩ := h
    refine r_new (pc := 53) C nc_X0_15 dX0_init_53 hk hk2 (fun a4 q12 => ?_)
    refine r_heap (fun S5 eS5 => ?_)
    have h := h a4 q12 S5 eS5
    have g13 := gr_of_new eS5 q12
    have o_a4 := ob_of_new eS5
    have o_a1 := gr_ob g13 o_a1
    have o_v0 := gr_ob g13 o_v0
    refine r_dup (pc := 56) C dX0_init_56 rfl ?_
    obtain ⟨hk, hk2, h⟩ := h
    refine r_callNv (pc := 57) C (rest := [.ref a4, .int v1, .ref a3]) (a := a4) [] yI_X2_init (List.mem_of_getElem? (i := 6) rfl) (c_X2_init h) dX0_init_57 rfl rfl (Nat.le_of_ble_eq_true rfl) ⟨by decide, by decide⟩ ⟨hk, hk2⟩ (fun S6 h g7 => ?_)
    have h := h g7
    have o_a1 := gr_ob g7 o_a1
    have o_a4 := gr_ob g7 o_a4
    have o_v0 := gr_ob g7 o_v0
    obtain ⟨o_a3, h⟩ := h
    obtain ⟨i9, h⟩ := h
    refine r_aast16 (pc := 60) C dX0_init_60 o_a3 i9 o_a4 ?_
    refine r_heap (fun S10 eS10 => ?_)
    have h := h S10 eS10
    have o_a1 := ob_R eS10 o_a1
    have o_a3 := ob_R eS10 o_a3
    have o_a4 := ob_R eS10 o_a4
    have o_v0 := ob_R eS10 o_v0
    obtain ⟨x11, ex11⟩ : ∃ z : Int32, z = v1 + (1 : Int32) := ⟨_, rfl⟩
    have h := h x11 ex11
    refine r_iinc (pc := 61) C (v := x11) (lv' := [(1, .int x11), (0, .ref v0)]) dX0_init_61 1 rfl ex11.symm (by decide) rfl ?_
    refine r_goto (pc := 64) C (tgt := 39) dX0_init_64 (by decide) ?_
    exact r_sub [1, 0] rfl (hX39 v0 x11 (kk + 1 + 1) (nn + 3 + 5) S10 h)
theorem T_X0_init_39 {X : CX} {Q : HS → Prop} (C : Cx X cX0_init RX0 2 rm_X0_init) (E : ReV X rm_X0_init Q) (ht : (xh X).sig.returnType = none) (hn : (xh X).name = yX0_init.name) {v0 : Nat} {v1 : Int32} {kk : Nat} {nn : Nat} {S : HS} (h : P_X0_init_39 Q v0 v1 kk nn S) : WS X 2 kk nn 39 [(0, .ref v0), (1, .int v1)] [] S :=
  h (fun v0 v1 kk nn S => WS X 2 kk nn 39 [(0, .ref v0), (1, .int v1)] [] S) (fun v0 v1 kk nn S hh => TB_X0_init_39 C E ht hn (fun v0 v1 kk nn S z => z) hh)
def P_X0_init_0 (Q : HS → Prop) (v0 : Nat) (kk : Nat) (nn : Nat) (S : HS) : Prop := ob S v0 0 ∧ (∀ S1 : HS, S1 = sI S v0 0 (-1 : Int32) → (kk + 1 ≤ rm_X0_init.cells ∧ nn + 3 ≤ rm_X0_init.slots ∧ ∀ a2 : Nat, a2 ∉ hL S1 → ∀ S3 : HS, S3 = nW S1 a2 2 0 → (kk + 1 + 1 ≤ rm_X0_init.cells ∧ nn + 3 + 5 ≤ rm_X0_init.slots ∧ (P_X2_init a2 (fun S4 => Gr S3 S4 → (∀ S7 : HS, S7 = sR S4 v0 4 (some a2) → (kk + 1 + 1 + 1 ≤ rm_X0_init.cells ∧ nn + 3 + 5 + 16 ≤ rm_X0_init.slots ∧ ∀ a8 : Nat, a8 ∉ hL S7 → ∀ S9 : HS, S9 = nW S7 a8 16 16 → (∀ S10 : HS, S10 = sR S9 v0 5 (some a8) → (kk + 1 + 1 + 1 + 1 ≤ rm_X0_init.cells ∧ nn + 3 + 5 + 16 + 3 ≤ rm_X0_init.slots ∧ ∀ a11 : Nat, a11 ∉ hL S10 → ∀ S12 : HS, S12 = nW S10 a11 16 3 → (∀ S13 : HS, S13 = sR S12 v0 6 (some a11) → (P_X0_init_39 Q v0 (0 : Int32) (kk + 1 + 1 + 1 + 1) (nn + 3 + 5 + 16 + 3) S13))))))) S3))))
set_option maxRecDepth 20000 in
set_option maxHeartbeats 4000000 in
theorem T_X0_init_0 {X : CX} {Q : HS → Prop} (C : Cx X cX0_init RX0 2 rm_X0_init) (E : ReV X rm_X0_init Q) (ht : (xh X).sig.returnType = none) (hn : (xh X).name = yX0_init.name) {v0 : Nat} {kk : Nat} {nn : Nat} {S : HS} (h : P_X0_init_0 Q v0 kk nn S) : WS X 2 kk nn 0 [(0, .ref v0)] [] S := by
  refine r_aload_n (pc := 0) C dX0_init_0 0 rfl ?_
  refine r_objinit (pc := 1) C g_336 dX0_init_1 (by decide) (Nat.le_of_ble_eq_true rfl) ?_
  refine r_aload_n (pc := 4) C dX0_init_4 0 rfl ?_
  refine r_iconst (pc := 5) C (v := (-1 : Int32)) dX0_init_5 (by decide) ?_
  obtain ⟨o_v0, h⟩ := h
  refine r_puti (pc := 6) C pfL_X0_9 dX0_init_6 o_v0 ?_
  refine r_heap (fun S1 eS1 => ?_)
  have h := h S1 eS1
  have o_v0 := ob_I eS1 o_v0
  refine r_aload_n (pc := 9) C dX0_init_9 0 rfl ?_
  obtain ⟨hk, hk2, h⟩ := h
  refine r_new (pc := 10) C nc_X0_15 dX0_init_10 hk hk2 (fun a2 q18 => ?_)
  refine r_heap (fun S3 eS3 => ?_)
  have h := h a2 q18 S3 eS3
  have g19 := gr_of_new eS3 q18
  have o_a2 := ob_of_new eS3
  have o_v0 := gr_ob g19 o_v0
  refine r_dup (pc := 13) C dX0_init_13 rfl ?_
  obtain ⟨hk, hk2, h⟩ := h
  refine r_callNv (pc := 14) C (rest := [.ref a2, .ref v0]) (a := a2) [] yI_X2_init (List.mem_of_getElem? (i := 6) rfl) (c_X2_init h) dX0_init_14 rfl rfl (Nat.le_of_ble_eq_true rfl) ⟨by decide, by decide⟩ ⟨hk, hk2⟩ (fun S4 h g5 => ?_)
  have h := h g5
  have o_a2 := gr_ob g5 o_a2
  have o_v0 := gr_ob g5 o_v0
  refine r_putFr (pc := 17) C pfL_X0_18 hn dX0_init_17 o_v0 ?_
  refine r_heap (fun S7 eS7 => ?_)
  have h := h S7 eS7
  have o_a2 := ob_R eS7 o_a2
  have o_v0 := ob_R eS7 o_v0
  refine r_aload_n (pc := 20) C dX0_init_20 0 rfl ?_
  refine r_bipush (pc := 21) C (v := (16 : Int32)) dX0_init_21 (by decide) ?_
  obtain ⟨hk, hk2, h⟩ := h
  refine r_newa16 (pc := 23) C (N := 16) g_337 dX0_init_23 (by decide) (by decide) (by decide) hk hk2 (fun a8 q16 => ?_)
  refine r_heap (fun S9 eS9 => ?_)
  have h := h a8 q16 S9 eS9
  have g17 := gr_of_new eS9 q16
  have o_a8 := ob_of_new eS9
  have o_a2 := gr_ob g17 o_a2
  have o_v0 := gr_ob g17 o_v0
  refine r_putFr (pc := 26) C pfL_X0_22 hn dX0_init_26 o_v0 ?_
  refine r_heap (fun S10 eS10 => ?_)
  have h := h S10 eS10
  have o_a2 := ob_R eS10 o_a2
  have o_a8 := ob_R eS10 o_a8
  have o_v0 := ob_R eS10 o_v0
  refine r_aload_n (pc := 29) C dX0_init_29 0 rfl ?_
  refine r_iconst (pc := 30) C (v := (3 : Int32)) dX0_init_30 (by decide) ?_
  obtain ⟨hk, hk2, h⟩ := h
  refine r_newa16 (pc := 31) C (N := 3) g_337 dX0_init_31 (by decide) (by decide) (by decide) hk hk2 (fun a11 q14 => ?_)
  refine r_heap (fun S12 eS12 => ?_)
  have h := h a11 q14 S12 eS12
  have g15 := gr_of_new eS12 q14
  have o_a11 := ob_of_new eS12
  have o_a2 := gr_ob g15 o_a2
  have o_a8 := gr_ob g15 o_a8
  have o_v0 := gr_ob g15 o_v0
  refine r_putFr (pc := 34) C pfL_X0_26 hn dX0_init_34 o_v0 ?_
  refine r_heap (fun S13 eS13 => ?_)
  have h := h S13 eS13
  have o_a11 := ob_R eS13 o_a11
  have o_a2 := ob_R eS13 o_a2
  have o_a8 := ob_R eS13 o_a8
  have o_v0 := ob_R eS13 o_v0
  refine r_iconst (pc := 37) C (v := (0 : Int32)) dX0_init_37 (by decide) ?_
  refine r_istore_n (pc := 38) C dX0_init_38 rfl (by decide) (lv' := [(1, .int (0 : Int32)), (0, .ref v0)]) rfl ?_
  exact r_sub [1, 0] rfl (T_X0_init_39 C E ht hn h)
def P_X0_init (v0 : Nat) (Q : HS → Prop) (S : HS) : Prop := P_X0_init_0 Q v0 0 0 S
theorem c_X0_init {l : Launch} {Ee : EE} {S : HS} {v0 : Nat} {Q : HS → Prop} (h : P_X0_init v0 Q S) : MV l yX0_init cX0_init 2 none rm_X0_init Ee S [.ref v0] Q :=
  openV (by decide) (Nat.le_of_ble_eq_true rfl) (fun X C E ht hn hE hl => by subst hE; exact r_sub [0] rfl (T_X0_init_0 C E ht hn h))
def rm_X0_isOn : Room := { frames := 0, cells := 0, slots := 0, locals := 0 }
def P_X0_isOn_0 (Q : Int32 → HS → Prop) (v0 : Nat) (S : HS) : Prop := ob S v0 0 ∧ (∀ x1 : Int32, x1 = fI S v0 0 → (((x1 = (-1 : Int32)) → (Q (0 : Int32) S)) ∧ ((¬ x1 = (-1 : Int32)) → (Q (1 : Int32) S))))
set_option maxRecDepth 20000 in
set_option maxHeartbeats 4000000 in
theorem T_X0_isOn_0 {X : CX} {Q : Int32 → HS → Prop} (C : Cx X cX0_isOn RX0 1 rm_X0_isOn) (E : ReI X rm_X0_isOn (fun r S => bl r ∧ Q r S)) (ht : (xh X).sig.returnType = (some .boolean)) (hn : (xh X).name = yX0_isOn.name) {v0 : Nat} {S : HS} (h : P_X0_isOn_0 Q v0 S) : WS X 1 0 0 0 [(0, .ref v0)] [] S := by
  refine r_aload_n (pc := 0) C dX0_isOn_0 0 rfl ?_
  obtain ⟨o_v0, h⟩ := h
  refine r_geti (pc := 1) C fL_X0_9 dX0_isOn_1 o_v0 ?_
  refine r_topi (fun x1 ex1 => ?_)
  have h := h x1 ex1
  refine r_iconst (pc := 4) C (v := (-1 : Int32)) dX0_isOn_4 (by decide) ?_
  refine r_icmp_eq (pc := 5) C (tgt := 12) dX0_isOn_5 (by decide) (fun c2 => ?_) (fun c2 => ?_)
  · have h := h.1 c2
    refine r_iconst (pc := 12) C (v := (0 : Int32)) dX0_isOn_12 (by decide) ?_
    exact r_zret (pc := 13) C E ht dX0_isOn_13 (by decide) (by decide) (Or.inl rfl) h
  · have h := h.2 c2
    refine r_iconst (pc := 8) C (v := (1 : Int32)) dX0_isOn_8 (by decide) ?_
    refine r_goto (pc := 9) C (tgt := 13) dX0_isOn_9 (by decide) ?_
    exact r_zret (pc := 13) C E ht dX0_isOn_13 (by decide) (by decide) (Or.inr rfl) h
def P_X0_isOn (v0 : Nat) (Q : Int32 → HS → Prop) (S : HS) : Prop := P_X0_isOn_0 Q v0 S
theorem c_X0_isOn {l : Launch} {Ee : EE} {S : HS} {v0 : Nat} {Q : Int32 → HS → Prop} (h : P_X0_isOn v0 Q S) : MI l yX0_isOn cX0_isOn 1 (some .boolean) rm_X0_isOn Ee S [.ref v0] (fun r S => bl r ∧ Q r S) :=
  openI (by decide) (Nat.le_of_ble_eq_true rfl) (fun X C E ht hn hE hl => by subst hE; exact r_sub [0] rfl (T_X0_isOn_0 C E ht hn h))
def rm_X2_copy : Room := { frames := 0, cells := 0, slots := 0, locals := 0 }
def B_X2_copy_18 (Q : HS → Prop) (X18 : Nat → Nat → Int32 → HS → Prop) (v0 : Nat) (v1 : Nat) (v2 : Int32) (S : HS) : Prop := (((5 : Int32) ≤ v2) → (Q S)) ∧ ((¬ (5 : Int32) ≤ v2) → (ob S v0 2 ∧ (∃ a2 : Nat, fR S v0 2 = some a2 ∧ (ob S v1 2 ∧ (∃ a3 : Nat, fR S v1 2 = some a3 ∧ (ob S a3 14 ∧ (vp_in v2 (hN S a3) ∧ ∀ x5 : Int64, x5 = fJ S a3 v2.toNatClampNeg → (ob S a2 14 ∧ (vp_in v2 (hN S a2) ∧ (∀ S7 : HS, S7 = sJ S a2 v2.toNatClampNeg x5 → (∀ x8 : Int32, x8 = v2 + (1 : Int32) → (X18 v0 v1 x8 S7))))))))))))
def P_X2_copy_18 (Q : HS → Prop) (v0 : Nat) (v1 : Nat) (v2 : Int32) (S : HS) : Prop := ∀ X18 : Nat → Nat → Int32 → HS → Prop, (∀ (v0 : Nat) (v1 : Nat) (v2 : Int32) (S : HS), B_X2_copy_18 Q X18 v0 v1 v2 S → X18 v0 v1 v2 S) → X18 v0 v1 v2 S
set_option maxRecDepth 20000 in
set_option maxHeartbeats 4000000 in
theorem TB_X2_copy_18 {X : CX} {Q : HS → Prop} (C : Cx X cX2_copy RX2 3 rm_X2_copy) (E : ReV X rm_X2_copy Q) (ht : (xh X).sig.returnType = none) (hn : (xh X).name = yX2_copy.name) {X18 : Nat → Nat → Int32 → HS → Prop} (hX18 : ∀ (v0 : Nat) (v1 : Nat) (v2 : Int32) (S : HS), X18 v0 v1 v2 S → WS X 3 0 0 18 [(0, .ref v0), (1, .ref v1), (2, .int v2)] [] S) {v0 : Nat} {v1 : Nat} {v2 : Int32} {S : HS} (h : B_X2_copy_18 Q X18 v0 v1 v2 S) : WS X 3 0 0 18 [(0, .ref v0), (1, .ref v1), (2, .int v2)] [] S := by
  refine r_iload_n (pc := 18) C dX2_copy_18 2 rfl ?_
  refine r_iconst (pc := 19) C (v := (5 : Int32)) dX2_copy_19 (by decide) ?_
  refine r_icmp_ge (pc := 20) C (tgt := 41) dX2_copy_20 (by decide) (fun c1 => ?_) (fun c1 => ?_)
  · have h := h.1 c1
    exact r_vret (pc := 41) C E ht dX2_copy_41 (by decide) (by decide) h
  · have h := h.2 c1
    refine r_aload_n (pc := 23) C dX2_copy_23 0 rfl ?_
    obtain ⟨o_v0, h⟩ := h
    obtain ⟨a2, ea2, h⟩ := h
    refine r_getr (pc := 24) C fL_X2_9 dX2_copy_24 o_v0 ea2 ?_
    refine r_iload_n (pc := 27) C dX2_copy_27 2 rfl ?_
    refine r_aload_n (pc := 28) C dX2_copy_28 1 rfl ?_
    obtain ⟨o_v1, h⟩ := h
    obtain ⟨a3, ea3, h⟩ := h
    refine r_getr (pc := 29) C fL_X2_9 dX2_copy_29 o_v1 ea3 ?_
    refine r_iload_n (pc := 32) C dX2_copy_32 2 rfl ?_
    obtain ⟨o_a3, h⟩ := h
    obtain ⟨i4, h⟩ := h
    refine r_lald (pc := 33) C dX2_copy_33 o_a3 i4 ?_
    refine r_topl (fun x5 ex5 => ?_)
    have h := h x5 ex5
    obtain ⟨o_a2, h⟩ := h
    obtain ⟨i6, h⟩ := h
    refine r_last (pc := 34) C dX2_copy_34 o_a2 i6 ?_
    refine r_heap (fun S7 eS7 => ?_)
    have h := h S7 eS7
    have o_a2 := ob_J eS7 o_a2
    have o_a3 := ob_J eS7 o_a3
    have o_v0 := ob_J eS7 o_v0
    have o_v1 := ob_J eS7 o_v1
    obtain ⟨x8, ex8⟩ : ∃ z : Int32, z = v2 + (1 : Int32) := ⟨_, rfl⟩
    have h := h x8 ex8
    refine r_iinc (pc := 35) C (v := x8) (lv' := [(2, .int x8), (0, .ref v0), (1, .ref v1)]) dX2_copy_35 2 rfl ex8.symm (by decide) rfl ?_
    refine r_goto (pc := 38) C (tgt := 18) dX2_copy_38 (by decide) ?_
    exact r_sub [1, 2, 0] rfl (hX18 v0 v1 x8 S7 h)
theorem T_X2_copy_18 {X : CX} {Q : HS → Prop} (C : Cx X cX2_copy RX2 3 rm_X2_copy) (E : ReV X rm_X2_copy Q) (ht : (xh X).sig.returnType = none) (hn : (xh X).name = yX2_copy.name) {v0 : Nat} {v1 : Nat} {v2 : Int32} {S : HS} (h : P_X2_copy_18 Q v0 v1 v2 S) : WS X 3 0 0 18 [(0, .ref v0), (1, .ref v1), (2, .int v2)] [] S :=
  h (fun v0 v1 v2 S => WS X 3 0 0 18 [(0, .ref v0), (1, .ref v1), (2, .int v2)] [] S) (fun v0 v1 v2 S hh => TB_X2_copy_18 C E ht hn (fun v0 v1 v2 S z => z) hh)
def P_X2_copy_0 (Q : HS → Prop) (v0 : Nat) (v1 : Nat) (S : HS) : Prop := ob S v1 2 ∧ (∀ x1 : Int32, x1 = fI S v1 0 → (ob S v0 2 ∧ (∀ S2 : HS, S2 = sI S v0 0 x1 → (∀ x3 : Int32, x3 = fI S2 v1 1 → (∀ S4 : HS, S4 = sI S2 v0 1 x3 → (P_X2_copy_18 Q v0 v1 (0 : Int32) S4))))))
set_option maxRecDepth 20000 in
set_option maxHeartbeats 4000000 in
theorem T_X2_copy_0 {X : CX} {Q : HS → Prop} (C : Cx X cX2_copy RX2 3 rm_X2_copy) (E : ReV X rm_X2_copy Q) (ht : (xh X).sig.returnType = none) (hn : (xh X).name = yX2_copy.name) {v0 : Nat} {v1 : Nat} {S : HS} (h : P_X2_copy_0 Q v0 v1 S) : WS X 3 0 0 0 [(0, .ref v0), (1, .ref v1)] [] S := by
  refine r_aload_n (pc := 0) C dX2_copy_0 0 rfl ?_
  refine r_aload_n (pc := 1) C dX2_copy_1 1 rfl ?_
  obtain ⟨o_v1, h⟩ := h
  refine r_geti (pc := 2) C fL_X2_15 dX2_copy_2 o_v1 ?_
  refine r_topi (fun x1 ex1 => ?_)
  have h := h x1 ex1
  obtain ⟨o_v0, h⟩ := h
  refine r_puti (pc := 5) C pfL_X2_15 dX2_copy_5 o_v0 ?_
  refine r_heap (fun S2 eS2 => ?_)
  have h := h S2 eS2
  have o_v0 := ob_I eS2 o_v0
  have o_v1 := ob_I eS2 o_v1
  refine r_aload_n (pc := 8) C dX2_copy_8 0 rfl ?_
  refine r_aload_n (pc := 9) C dX2_copy_9 1 rfl ?_
  refine r_geti (pc := 10) C fL_X2_19 dX2_copy_10 o_v1 ?_
  refine r_topi (fun x3 ex3 => ?_)
  have h := h x3 ex3
  refine r_puti (pc := 13) C pfL_X2_19 dX2_copy_13 o_v0 ?_
  refine r_heap (fun S4 eS4 => ?_)
  have h := h S4 eS4
  have o_v0 := ob_I eS4 o_v0
  have o_v1 := ob_I eS4 o_v1
  refine r_iconst (pc := 16) C (v := (0 : Int32)) dX2_copy_16 (by decide) ?_
  refine r_istore_n (pc := 17) C dX2_copy_17 rfl (by decide) (lv' := [(2, .int (0 : Int32)), (0, .ref v0), (1, .ref v1)]) rfl ?_
  exact r_sub [1, 2, 0] rfl (T_X2_copy_18 C E ht hn h)
def P_X2_copy (v0 : Nat) (v1 : Nat) (Q : HS → Prop) (S : HS) : Prop := P_X2_copy_0 Q v0 v1 S
theorem c_X2_copy {l : Launch} {Ee : EE} {S : HS} {v0 : Nat} {v1 : Nat} {Q : HS → Prop} (h : P_X2_copy v0 v1 Q S) : MV l yX2_copy cX2_copy 3 none rm_X2_copy Ee S [.ref v0, .ref v1] Q :=
  openV (by decide) (Nat.le_of_ble_eq_true rfl) (fun X C E ht hn hE hl => by subst hE; exact r_sub [0, 1] rfl (T_X2_copy_0 C E ht hn h))
def rm_X0_keepForUndo : Room := { frames := 1, cells := 0, slots := 0, locals := 22 }
def P_X0_keepForUndo_58 (Q : HS → Prop) (v0 : Nat) (S : HS) : Prop := ob S v0 0 ∧ (∃ a1 : Nat, fR S v0 5 = some a1 ∧ (∀ x2 : Int32, x2 = fI S v0 2 → (ob S a1 16 ∧ (vp_in x2 (hN S a1) ∧ ∃ a4 : Nat, fR S a1 x2.toNatClampNeg = some a4 ∧ (∃ a5 : Nat, fR S v0 4 = some a5 ∧ (ob S a4 2 ∧ (P_X2_copy a4 a5 (fun S6 => Gr S S6 → (∀ x9 : Int32, x9 = fI S6 v0 2 → (∀ x10 : Int32, x10 = x9 + (1 : Int32) → (∀ S11 : HS, S11 = sI S6 v0 2 x10 → (Q S11))))) S)))))))
set_option maxRecDepth 20000 in
set_option maxHeartbeats 4000000 in
theorem T_X0_keepForUndo_58 {X : CX} {Q : HS → Prop} (C : Cx X cX0_keepForUndo RX0 3 rm_X0_keepForUndo) (E : ReV X rm_X0_keepForUndo Q) (ht : (xh X).sig.returnType = none) (hn : (xh X).name = yX0_keepForUndo.name) {v0 : Nat} {S : HS} (h : P_X0_keepForUndo_58 Q v0 S) : WS X 3 0 0 58 [(0, .ref v0)] [] S := by
  refine r_aload_n (pc := 58) C dX0_keepForUndo_58 0 rfl ?_
  obtain ⟨o_v0, h⟩ := h
  obtain ⟨a1, ea1, h⟩ := h
  refine r_getr (pc := 59) C fL_X0_22 dX0_keepForUndo_59 o_v0 ea1 ?_
  refine r_aload_n (pc := 62) C dX0_keepForUndo_62 0 rfl ?_
  refine r_geti (pc := 63) C fL_X0_29 dX0_keepForUndo_63 o_v0 ?_
  refine r_topi (fun x2 ex2 => ?_)
  have h := h x2 ex2
  obtain ⟨o_a1, h⟩ := h
  obtain ⟨i3, a4, ea4, h⟩ := h
  refine r_aald16 (pc := 66) C dX0_keepForUndo_66 o_a1 i3 ea4 ?_
  refine r_aload_n (pc := 67) C dX0_keepForUndo_67 0 rfl ?_
  obtain ⟨a5, ea5, h⟩ := h
  refine r_getr (pc := 68) C fL_X0_18 dX0_keepForUndo_68 o_v0 ea5 ?_
  obtain ⟨o_a4, h⟩ := h
  refine r_callVv0 (pc := 71) C (rest := []) (a := a4) o_a4 [.ref a5] yV_X2_copy g_990 (c_X2_copy h) dX0_keepForUndo_71 rfl rfl (Nat.le_of_ble_eq_true rfl) ⟨by decide, by decide⟩ ⟨by decide, by decide⟩ ⟨rfl, rfl⟩ (fun S6 h g7 => ?_)
  have h := h g7
  have o_a1 := gr_ob g7 o_a1
  have o_a4 := gr_ob g7 o_a4
  have o_v0 := gr_ob g7 o_v0
  refine r_aload_n (pc := 74) C dX0_keepForUndo_74 0 rfl ?_
  refine r_dup (pc := 75) C dX0_keepForUndo_75 rfl ?_
  refine r_geti (pc := 76) C fL_X0_29 dX0_keepForUndo_76 o_v0 ?_
  refine r_topi (fun x9 ex9 => ?_)
  have h := h x9 ex9
  refine r_iconst (pc := 79) C (v := (1 : Int32)) dX0_keepForUndo_79 (by decide) ?_
  refine r_iadd (pc := 80) C dX0_keepForUndo_80 ?_
  refine r_topi (fun x10 ex10 => ?_)
  have h := h x10 ex10
  refine r_puti (pc := 81) C pfL_X0_29 dX0_keepForUndo_81 o_v0 ?_
  refine r_heap (fun S11 eS11 => ?_)
  have h := h S11 eS11
  have o_a1 := ob_I eS11 o_a1
  have o_a4 := ob_I eS11 o_a4
  have o_v0 := ob_I eS11 o_v0
  exact r_vret (pc := 84) C E ht dX0_keepForUndo_84 (by decide) (by decide) h
def B_X0_keepForUndo_18 (Q : HS → Prop) (X18 : Nat → Nat → Int32 → HS → Prop) (v0 : Nat) (v1 : Nat) (v2 : Int32) (S : HS) : Prop := (((16 : Int32) ≤ v2) → (ob S v0 0 ∧ (∃ a2 : Nat, fR S v0 5 = some a2 ∧ (ob S a2 16 ∧ (ob S v1 2 ∧ (vp_in (15 : Int32) (hN S a2) ∧ (∀ S4 : HS, S4 = sR S a2 (15 : Int32).toNatClampNeg (some v1) → (∀ S5 : HS, S5 = sI S4 v0 2 (15 : Int32) → (P_X0_keepForUndo_58 Q v0 S5))))))))) ∧ ((¬ (16 : Int32) ≤ v2) → (ob S v0 0 ∧ (∃ a6 : Nat, fR S v0 5 = some a6 ∧ (∃ a7 : Nat, fR S v0 5 = some a7 ∧ (ob S a7 16 ∧ (vp_in v2 (hN S a7) ∧ ∃ a9 : Nat, fR S a7 v2.toNatClampNeg = some a9 ∧ (ob S a6 16 ∧ (ob S a9 2 ∧ (vp_in (v2 - (1 : Int32)) (hN S a6) ∧ (∀ S11 : HS, S11 = sR S a6 (v2 - (1 : Int32)).toNatClampNeg (some a9) → (∀ x12 : Int32, x12 = v2 + (1 : Int32) → (X18 v0 v1 x12 S11))))))))))))
def P_X0_keepForUndo_18 (Q : HS → Prop) (v0 : Nat) (v1 : Nat) (v2 : Int32) (S : HS) : Prop := ∀ X18 : Nat → Nat → Int32 → HS → Prop, (∀ (v0 : Nat) (v1 : Nat) (v2 : Int32) (S : HS), B_X0_keepForUndo_18 Q X18 v0 v1 v2 S → X18 v0 v1 v2 S) → X18 v0 v1 v2 S
set_option maxRecDepth 20000 in
set_option maxHeartbeats 4000000 in
theorem TB_X0_keepForUndo_18 {X : CX} {Q : HS → Prop} (C : Cx X cX0_keepForUndo RX0 3 rm_X0_keepForUndo) (E : ReV X rm_X0_keepForUndo Q) (ht : (xh X).sig.returnType = none) (hn : (xh X).name = yX0_keepForUndo.name) {X18 : Nat → Nat → Int32 → HS → Prop} (hX18 : ∀ (v0 : Nat) (v1 : Nat) (v2 : Int32) (S : HS), X18 v0 v1 v2 S → WS X 3 0 0 18 [(0, .ref v0), (1, .ref v1), (2, .int v2)] [] S) {v0 : Nat} {v1 : Nat} {v2 : Int32} {S : HS} (h : B_X0_keepForUndo_18 Q X18 v0 v1 v2 S) : WS X 3 0 0 18 [(0, .ref v0), (1, .ref v1), (2, .int v2)] [] S := by
  refine r_iload_n (pc := 18) C dX0_keepForUndo_18 2 rfl ?_
  refine r_bipush (pc := 19) C (v := (16 : Int32)) dX0_keepForUndo_19 (by decide) ?_
  refine r_icmp_ge (pc := 21) C (tgt := 44) dX0_keepForUndo_21 (by decide) (fun c1 => ?_) (fun c1 => ?_)
  · have h := h.1 c1
    refine r_aload_n (pc := 44) C dX0_keepForUndo_44 0 rfl ?_
    obtain ⟨o_v0, h⟩ := h
    obtain ⟨a2, ea2, h⟩ := h
    refine r_getr (pc := 45) C fL_X0_22 dX0_keepForUndo_45 o_v0 ea2 ?_
    refine r_bipush (pc := 48) C (v := (15 : Int32)) dX0_keepForUndo_48 (by decide) ?_
    refine r_aload_n (pc := 50) C dX0_keepForUndo_50 1 rfl ?_
    obtain ⟨o_a2, h⟩ := h
    obtain ⟨o_v1, h⟩ := h
    obtain ⟨i3, h⟩ := h
    refine r_aast16 (pc := 51) C dX0_keepForUndo_51 o_a2 i3 o_v1 ?_
    refine r_heap (fun S4 eS4 => ?_)
    have h := h S4 eS4
    have o_a2 := ob_R eS4 o_a2
    have o_v0 := ob_R eS4 o_v0
    have o_v1 := ob_R eS4 o_v1
    refine r_aload_n (pc := 52) C dX0_keepForUndo_52 0 rfl ?_
    refine r_bipush (pc := 53) C (v := (15 : Int32)) dX0_keepForUndo_53 (by decide) ?_
    refine r_puti (pc := 55) C pfL_X0_29 dX0_keepForUndo_55 o_v0 ?_
    refine r_heap (fun S5 eS5 => ?_)
    have h := h S5 eS5
    have o_a2 := ob_I eS5 o_a2
    have o_v0 := ob_I eS5 o_v0
    have o_v1 := ob_I eS5 o_v1
    exact r_sub [0] rfl (T_X0_keepForUndo_58 C E ht hn h)
  · have h := h.2 c1
    refine r_aload_n (pc := 24) C dX0_keepForUndo_24 0 rfl ?_
    obtain ⟨o_v0, h⟩ := h
    obtain ⟨a6, ea6, h⟩ := h
    refine r_getr (pc := 25) C fL_X0_22 dX0_keepForUndo_25 o_v0 ea6 ?_
    refine r_iload_n (pc := 28) C dX0_keepForUndo_28 2 rfl ?_
    refine r_iconst (pc := 29) C (v := (1 : Int32)) dX0_keepForUndo_29 (by decide) ?_
    refine r_isub (pc := 30) C dX0_keepForUndo_30 ?_
    refine r_aload_n (pc := 31) C dX0_keepForUndo_31 0 rfl ?_
    obtain ⟨a7, ea7, h⟩ := h
    refine r_getr (pc := 32) C fL_X0_22 dX0_keepForUndo_32 o_v0 ea7 ?_
    refine r_iload_n (pc := 35) C dX0_keepForUndo_35 2 rfl ?_
    obtain ⟨o_a7, h⟩ := h
    obtain ⟨i8, a9, ea9, h⟩ := h
    refine r_aald16 (pc := 36) C dX0_keepForUndo_36 o_a7 i8 ea9 ?_
    obtain ⟨o_a6, h⟩ := h
    obtain ⟨o_a9, h⟩ := h
    obtain ⟨i10, h⟩ := h
    refine r_aast16 (pc := 37) C dX0_keepForUndo_37 o_a6 i10 o_a9 ?_
    refine r_heap (fun S11 eS11 => ?_)
    have h := h S11 eS11
    have o_a6 := ob_R eS11 o_a6
    have o_a7 := ob_R eS11 o_a7
    have o_a9 := ob_R eS11 o_a9
    have o_v0 := ob_R eS11 o_v0
    obtain ⟨x12, ex12⟩ : ∃ z : Int32, z = v2 + (1 : Int32) := ⟨_, rfl⟩
    have h := h x12 ex12
    refine r_iinc (pc := 38) C (v := x12) (lv' := [(2, .int x12), (0, .ref v0), (1, .ref v1)]) dX0_keepForUndo_38 2 rfl ex12.symm (by decide) rfl ?_
    refine r_goto (pc := 41) C (tgt := 18) dX0_keepForUndo_41 (by decide) ?_
    exact r_sub [1, 2, 0] rfl (hX18 v0 v1 x12 S11 h)
theorem T_X0_keepForUndo_18 {X : CX} {Q : HS → Prop} (C : Cx X cX0_keepForUndo RX0 3 rm_X0_keepForUndo) (E : ReV X rm_X0_keepForUndo Q) (ht : (xh X).sig.returnType = none) (hn : (xh X).name = yX0_keepForUndo.name) {v0 : Nat} {v1 : Nat} {v2 : Int32} {S : HS} (h : P_X0_keepForUndo_18 Q v0 v1 v2 S) : WS X 3 0 0 18 [(0, .ref v0), (1, .ref v1), (2, .int v2)] [] S :=
  h (fun v0 v1 v2 S => WS X 3 0 0 18 [(0, .ref v0), (1, .ref v1), (2, .int v2)] [] S) (fun v0 v1 v2 S hh => TB_X0_keepForUndo_18 C E ht hn (fun v0 v1 v2 S z => z) hh)
def P_X0_keepForUndo_0 (Q : HS → Prop) (v0 : Nat) (S : HS) : Prop := ob S v0 0 ∧ (∀ x1 : Int32, x1 = fI S v0 2 → (((x1 < (16 : Int32)) → (P_X0_keepForUndo_58 Q v0 S)) ∧ ((¬ x1 < (16 : Int32)) → (∃ a3 : Nat, fR S v0 5 = some a3 ∧ (ob S a3 16 ∧ (vp_in (0 : Int32) (hN S a3) ∧ ∃ a5 : Nat, fR S a3 (0 : Int32).toNatClampNeg = some a5 ∧ (P_X0_keepForUndo_18 Q v0 a5 (1 : Int32) S)))))))
set_option maxRecDepth 20000 in
set_option maxHeartbeats 4000000 in
theorem T_X0_keepForUndo_0 {X : CX} {Q : HS → Prop} (C : Cx X cX0_keepForUndo RX0 3 rm_X0_keepForUndo) (E : ReV X rm_X0_keepForUndo Q) (ht : (xh X).sig.returnType = none) (hn : (xh X).name = yX0_keepForUndo.name) {v0 : Nat} {S : HS} (h : P_X0_keepForUndo_0 Q v0 S) : WS X 3 0 0 0 [(0, .ref v0)] [] S := by
  refine r_aload_n (pc := 0) C dX0_keepForUndo_0 0 rfl ?_
  obtain ⟨o_v0, h⟩ := h
  refine r_geti (pc := 1) C fL_X0_29 dX0_keepForUndo_1 o_v0 ?_
  refine r_topi (fun x1 ex1 => ?_)
  have h := h x1 ex1
  refine r_bipush (pc := 4) C (v := (16 : Int32)) dX0_keepForUndo_4 (by decide) ?_
  refine r_icmp_lt (pc := 6) C (tgt := 58) dX0_keepForUndo_6 (by decide) (fun c2 => ?_) (fun c2 => ?_)
  · have h := h.1 c2
    exact r_sub [0] rfl (T_X0_keepForUndo_58 C E ht hn h)
  · have h := h.2 c2
    refine r_aload_n (pc := 9) C dX0_keepForUndo_9 0 rfl ?_
    obtain ⟨a3, ea3, h⟩ := h
    refine r_getr (pc := 10) C fL_X0_22 dX0_keepForUndo_10 o_v0 ea3 ?_
    refine r_iconst (pc := 13) C (v := (0 : Int32)) dX0_keepForUndo_13 (by decide) ?_
    obtain ⟨o_a3, h⟩ := h
    obtain ⟨i4, a5, ea5, h⟩ := h
    refine r_aald16 (pc := 14) C dX0_keepForUndo_14 o_a3 i4 ea5 ?_
    refine r_astore_n (pc := 15) C dX0_keepForUndo_15 rfl (by decide) (lv' := [(1, .ref a5), (0, .ref v0)]) rfl ?_
    refine r_iconst (pc := 16) C (v := (1 : Int32)) dX0_keepForUndo_16 (by decide) ?_
    refine r_istore_n (pc := 17) C dX0_keepForUndo_17 rfl (by decide) (lv' := [(2, .int (1 : Int32)), (1, .ref a5), (0, .ref v0)]) rfl ?_
    exact r_sub [2, 1, 0] rfl (T_X0_keepForUndo_18 C E ht hn h)
def P_X0_keepForUndo (v0 : Nat) (Q : HS → Prop) (S : HS) : Prop := P_X0_keepForUndo_0 Q v0 S
theorem c_X0_keepForUndo {l : Launch} {Ee : EE} {S : HS} {v0 : Nat} {Q : HS → Prop} (h : P_X0_keepForUndo v0 Q S) : MV l yX0_keepForUndo cX0_keepForUndo 3 none rm_X0_keepForUndo Ee S [.ref v0] Q :=
  openV (by decide) (Nat.le_of_ble_eq_true rfl) (fun X C E ht hn hE hl => by subst hE; exact r_sub [0] rfl (T_X0_keepForUndo_0 C E ht hn h))
def rm_X0_rainsIn : Room := { frames := 0, cells := 0, slots := 0, locals := 0 }
def P_X0_rainsIn_0 (Q : Int32 → HS → Prop) (v0 : Nat) (v1 : Int32) (S : HS) : Prop := ((v1 < 0) → (Q (0 : Int32) S)) ∧ ((¬ v1 < 0) → ((((6 : Int32) ≤ v1) → (Q (0 : Int32) S)) ∧ ((¬ (6 : Int32) ≤ v1) → (ob S v0 0 ∧ (∀ x3 : Int32, x3 = fI S v0 1 → (((¬ ((x3 >>> (v1 &&& 31)) &&& (1 : Int32)) = (1 : Int32)) → (Q (0 : Int32) S)) ∧ ((((x3 >>> (v1 &&& 31)) &&& (1 : Int32)) = (1 : Int32)) → (Q (1 : Int32) S))))))))
set_option maxRecDepth 20000 in
set_option maxHeartbeats 4000000 in
theorem T_X0_rainsIn_0 {X : CX} {Q : Int32 → HS → Prop} (C : Cx X cX0_rainsIn RX0 2 rm_X0_rainsIn) (E : ReI X rm_X0_rainsIn (fun r S => bl r ∧ Q r S)) (ht : (xh X).sig.returnType = (some .boolean)) (hn : (xh X).name = yX0_rainsIn.name) {v0 : Nat} {v1 : Int32} {S : HS} (h : P_X0_rainsIn_0 Q v0 v1 S) : WS X 2 0 0 0 [(0, .ref v0), (1, .int v1)] [] S := by
  refine r_iload_n (pc := 0) C dX0_rainsIn_0 1 rfl ?_
  refine r_if_lt (pc := 1) C (tgt := 26) dX0_rainsIn_1 (by decide) (fun c1 => ?_) (fun c1 => ?_)
  · have h := h.1 c1
    refine r_iconst (pc := 26) C (v := (0 : Int32)) dX0_rainsIn_26 (by decide) ?_
    exact r_zret (pc := 27) C E ht dX0_rainsIn_27 (by decide) (by decide) (Or.inl rfl) h
  · have h := h.2 c1
    refine r_iload_n (pc := 4) C dX0_rainsIn_4 1 rfl ?_
    refine r_bipush (pc := 5) C (v := (6 : Int32)) dX0_rainsIn_5 (by decide) ?_
    refine r_icmp_ge (pc := 7) C (tgt := 26) dX0_rainsIn_7 (by decide) (fun c2 => ?_) (fun c2 => ?_)
    · have h := h.1 c2
      refine r_iconst (pc := 26) C (v := (0 : Int32)) dX0_rainsIn_26 (by decide) ?_
      exact r_zret (pc := 27) C E ht dX0_rainsIn_27 (by decide) (by decide) (Or.inl rfl) h
    · have h := h.2 c2
      refine r_aload_n (pc := 10) C dX0_rainsIn_10 0 rfl ?_
      obtain ⟨o_v0, h⟩ := h
      refine r_geti (pc := 11) C fL_X0_48 dX0_rainsIn_11 o_v0 ?_
      refine r_topi (fun x3 ex3 => ?_)
      have h := h x3 ex3
      refine r_iload_n (pc := 14) C dX0_rainsIn_14 1 rfl ?_
      refine r_ishr (pc := 15) C dX0_rainsIn_15 ?_
      refine r_iconst (pc := 16) C (v := (1 : Int32)) dX0_rainsIn_16 (by decide) ?_
      refine r_iand (pc := 17) C dX0_rainsIn_17 ?_
      refine r_iconst (pc := 18) C (v := (1 : Int32)) dX0_rainsIn_18 (by decide) ?_
      refine r_icmp_ne (pc := 19) C (tgt := 26) dX0_rainsIn_19 (by decide) (fun c4 => ?_) (fun c4 => ?_)
      · have h := h.1 c4
        refine r_iconst (pc := 26) C (v := (0 : Int32)) dX0_rainsIn_26 (by decide) ?_
        exact r_zret (pc := 27) C E ht dX0_rainsIn_27 (by decide) (by decide) (Or.inl rfl) h
      · have h := h.2 c4
        refine r_iconst (pc := 22) C (v := (1 : Int32)) dX0_rainsIn_22 (by decide) ?_
        refine r_goto (pc := 23) C (tgt := 27) dX0_rainsIn_23 (by decide) ?_
        exact r_zret (pc := 27) C E ht dX0_rainsIn_27 (by decide) (by decide) (Or.inr rfl) h
def P_X0_rainsIn (v0 : Nat) (v1 : Int32) (Q : Int32 → HS → Prop) (S : HS) : Prop := P_X0_rainsIn_0 Q v0 v1 S
theorem c_X0_rainsIn {l : Launch} {Ee : EE} {S : HS} {v0 : Nat} {v1 : Int32} {Q : Int32 → HS → Prop} (h : P_X0_rainsIn v0 v1 Q S) : MI l yX0_rainsIn cX0_rainsIn 2 (some .boolean) rm_X0_rainsIn Ee S [.ref v0, .int v1] (fun r S => bl r ∧ Q r S) :=
  openI (by decide) (Nat.le_of_ble_eq_true rfl) (fun X C E ht hn hE hl => by subst hE; exact r_sub [0, 1] rfl (T_X0_rainsIn_0 C E ht hn h))
def rm_X0_returnTo : Room := { frames := 1, cells := 0, slots := 0, locals := 22 }
def P_X0_returnTo_0 (Q : Int32 → HS → Prop) (v0 : Nat) (v1 : Int32) (S : HS) : Prop := ((v1 < 0) → (Q (0 : Int32) S)) ∧ ((¬ v1 < 0) → (ob S v0 0 ∧ (∀ x2 : Int32, x2 = fI S v0 3 → (((v1 < x2) → (∃ a4 : Nat, fR S v0 4 = some a4 ∧ (∃ a5 : Nat, fR S v0 6 = some a5 ∧ (ob S a5 16 ∧ (vp_in v1 (hN S a5) ∧ ∃ a7 : Nat, fR S a5 v1.toNatClampNeg = some a7 ∧ (ob S a4 2 ∧ (P_X2_copy a4 a7 (fun S8 => Gr S S8 → (∀ S11 : HS, S11 = sI S8 v0 2 (0 : Int32) → (Q (1 : Int32) S11))) S))))))) ∧ ((¬ v1 < x2) → (Q (0 : Int32) S))))))
set_option maxRecDepth 20000 in
set_option maxHeartbeats 4000000 in
theorem T_X0_returnTo_0 {X : CX} {Q : Int32 → HS → Prop} (C : Cx X cX0_returnTo RX0 2 rm_X0_returnTo) (E : ReI X rm_X0_returnTo (fun r S => bl r ∧ Q r S)) (ht : (xh X).sig.returnType = (some .boolean)) (hn : (xh X).name = yX0_returnTo.name) {v0 : Nat} {v1 : Int32} {S : HS} (h : P_X0_returnTo_0 Q v0 v1 S) : WS X 2 0 0 0 [(0, .ref v0), (1, .int v1)] [] S := by
  refine r_iload_n (pc := 0) C dX0_returnTo_0 1 rfl ?_
  refine r_if_lt (pc := 1) C (tgt := 12) dX0_returnTo_1 (by decide) (fun c1 => ?_) (fun c1 => ?_)
  · have h := h.1 c1
    refine r_iconst (pc := 12) C (v := (0 : Int32)) dX0_returnTo_12 (by decide) ?_
    exact r_zret (pc := 13) C E ht dX0_returnTo_13 (by decide) (by decide) (Or.inl rfl) h
  · have h := h.2 c1
    refine r_iload_n (pc := 4) C dX0_returnTo_4 1 rfl ?_
    refine r_aload_n (pc := 5) C dX0_returnTo_5 0 rfl ?_
    obtain ⟨o_v0, h⟩ := h
    refine r_geti (pc := 6) C fL_X0_32 dX0_returnTo_6 o_v0 ?_
    refine r_topi (fun x2 ex2 => ?_)
    have h := h x2 ex2
    refine r_icmp_lt (pc := 9) C (tgt := 14) dX0_returnTo_9 (by decide) (fun c3 => ?_) (fun c3 => ?_)
    · have h := h.1 c3
      refine r_aload_n (pc := 14) C dX0_returnTo_14 0 rfl ?_
      obtain ⟨a4, ea4, h⟩ := h
      refine r_getr (pc := 15) C fL_X0_18 dX0_returnTo_15 o_v0 ea4 ?_
      refine r_aload_n (pc := 18) C dX0_returnTo_18 0 rfl ?_
      obtain ⟨a5, ea5, h⟩ := h
      refine r_getr (pc := 19) C fL_X0_26 dX0_returnTo_19 o_v0 ea5 ?_
      refine r_iload_n (pc := 22) C dX0_returnTo_22 1 rfl ?_
      obtain ⟨o_a5, h⟩ := h
      obtain ⟨i6, a7, ea7, h⟩ := h
      refine r_aald16 (pc := 23) C dX0_returnTo_23 o_a5 i6 ea7 ?_
      obtain ⟨o_a4, h⟩ := h
      refine r_callVv0 (pc := 24) C (rest := []) (a := a4) o_a4 [.ref a7] yV_X2_copy g_990 (c_X2_copy h) dX0_returnTo_24 rfl rfl (Nat.le_of_ble_eq_true rfl) ⟨by decide, by decide⟩ ⟨by decide, by decide⟩ ⟨rfl, rfl⟩ (fun S8 h g9 => ?_)
      have h := h g9
      have o_a4 := gr_ob g9 o_a4
      have o_a5 := gr_ob g9 o_a5
      have o_v0 := gr_ob g9 o_v0
      refine r_aload_n (pc := 27) C dX0_returnTo_27 0 rfl ?_
      refine r_iconst (pc := 28) C (v := (0 : Int32)) dX0_returnTo_28 (by decide) ?_
      refine r_puti (pc := 29) C pfL_X0_29 dX0_returnTo_29 o_v0 ?_
      refine r_heap (fun S11 eS11 => ?_)
      have h := h S11 eS11
      have o_a4 := ob_I eS11 o_a4
      have o_a5 := ob_I eS11 o_a5
      have o_v0 := ob_I eS11 o_v0
      refine r_iconst (pc := 32) C (v := (1 : Int32)) dX0_returnTo_32 (by decide) ?_
      exact r_zret (pc := 33) C E ht dX0_returnTo_33 (by decide) (by decide) (Or.inr rfl) h
    · have h := h.2 c3
      refine r_iconst (pc := 12) C (v := (0 : Int32)) dX0_returnTo_12 (by decide) ?_
      exact r_zret (pc := 13) C E ht dX0_returnTo_13 (by decide) (by decide) (Or.inl rfl) h
def P_X0_returnTo (v0 : Nat) (v1 : Int32) (Q : Int32 → HS → Prop) (S : HS) : Prop := P_X0_returnTo_0 Q v0 v1 S
theorem c_X0_returnTo {l : Launch} {Ee : EE} {S : HS} {v0 : Nat} {v1 : Int32} {Q : Int32 → HS → Prop} (h : P_X0_returnTo v0 v1 Q S) : MI l yX0_returnTo cX0_returnTo 2 (some .boolean) rm_X0_returnTo Ee S [.ref v0, .int v1] (fun r S => bl r ∧ Q r S) :=
  openI (by decide) (Nat.le_of_ble_eq_true rfl) (fun X C E ht hn hE hl => by subst hE; exact r_sub [0, 1] rfl (T_X0_returnTo_0 C E ht hn h))
def rm_X0_setMark : Room := { frames := 1, cells := 0, slots := 0, locals := 22 }
def P_X0_setMark_0 (Q : Int32 → HS → Prop) (v0 : Nat) (S : HS) : Prop := ob S v0 0 ∧ (∀ x1 : Int32, x1 = fI S v0 3 → (((x1 < (3 : Int32)) → (∃ a3 : Nat, fR S v0 6 = some a3 ∧ (∀ x4 : Int32, x4 = fI S v0 3 → (ob S a3 16 ∧ (vp_in x4 (hN S a3) ∧ ∃ a6 : Nat, fR S a3 x4.toNatClampNeg = some a6 ∧ (∃ a7 : Nat, fR S v0 4 = some a7 ∧ (ob S a6 2 ∧ (P_X2_copy a6 a7 (fun S8 => Gr S S8 → (∀ x11 : Int32, x11 = fI S8 v0 3 → (∀ x12 : Int32, x12 = x11 + (1 : Int32) → (∀ S13 : HS, S13 = sI S8 v0 3 x12 → (∀ x14 : Int32, x14 = fI S13 v0 3 → (Q (x14 - (1 : Int32)) S13)))))) S)))))))) ∧ ((¬ x1 < (3 : Int32)) → (Q (-1 : Int32) S))))
set_option maxRecDepth 20000 in
set_option maxHeartbeats 4000000 in
theorem T_X0_setMark_0 {X : CX} {Q : Int32 → HS → Prop} (C : Cx X cX0_setMark RX0 1 rm_X0_setMark) (E : ReI X rm_X0_setMark Q) (ht : (xh X).sig.returnType = (some .int)) (hn : (xh X).name = yX0_setMark.name) {v0 : Nat} {S : HS} (h : P_X0_setMark_0 Q v0 S) : WS X 1 0 0 0 [(0, .ref v0)] [] S := by
  refine r_aload_n (pc := 0) C dX0_setMark_0 0 rfl ?_
  obtain ⟨o_v0, h⟩ := h
  refine r_geti (pc := 1) C fL_X0_32 dX0_setMark_1 o_v0 ?_
  refine r_topi (fun x1 ex1 => ?_)
  have h := h x1 ex1
  refine r_iconst (pc := 4) C (v := (3 : Int32)) dX0_setMark_4 (by decide) ?_
  refine r_icmp_lt (pc := 5) C (tgt := 10) dX0_setMark_5 (by decide) (fun c2 => ?_) (fun c2 => ?_)
  · have h := h.1 c2
    refine r_aload_n (pc := 10) C dX0_setMark_10 0 rfl ?_
    obtain ⟨a3, ea3, h⟩ := h
    refine r_getr (pc := 11) C fL_X0_26 dX0_setMark_11 o_v0 ea3 ?_
    refine r_aload_n (pc := 14) C dX0_setMark_14 0 rfl ?_
    refine r_geti (pc := 15) C fL_X0_32 dX0_setMark_15 o_v0 ?_
    refine r_topi (fun x4 ex4 => ?_)
    have h := h x4 ex4
    obtain ⟨o_a3, h⟩ := h
    obtain ⟨i5, a6, ea6, h⟩ := h
    refine r_aald16 (pc := 18) C dX0_setMark_18 o_a3 i5 ea6 ?_
    refine r_aload_n (pc := 19) C dX0_setMark_19 0 rfl ?_
    obtain ⟨a7, ea7, h⟩ := h
    refine r_getr (pc := 20) C fL_X0_18 dX0_setMark_20 o_v0 ea7 ?_
    obtain ⟨o_a6, h⟩ := h
    refine r_callVv0 (pc := 23) C (rest := []) (a := a6) o_a6 [.ref a7] yV_X2_copy g_990 (c_X2_copy h) dX0_setMark_23 rfl rfl (Nat.le_of_ble_eq_true rfl) ⟨by decide, by decide⟩ ⟨by decide, by decide⟩ ⟨rfl, rfl⟩ (fun S8 h g9 => ?_)
    have h := h g9
    have o_a3 := gr_ob g9 o_a3
    have o_a6 := gr_ob g9 o_a6
    have o_v0 := gr_ob g9 o_v0
    refine r_aload_n (pc := 26) C dX0_setMark_26 0 rfl ?_
    refine r_dup (pc := 27) C dX0_setMark_27 rfl ?_
    refine r_geti (pc := 28) C fL_X0_32 dX0_setMark_28 o_v0 ?_
    refine r_topi (fun x11 ex11 => ?_)
    have h := h x11 ex11
    refine r_iconst (pc := 31) C (v := (1 : Int32)) dX0_setMark_31 (by decide) ?_
    refine r_iadd (pc := 32) C dX0_setMark_32 ?_
    refine r_topi (fun x12 ex12 => ?_)
    have h := h x12 ex12
    refine r_puti (pc := 33) C pfL_X0_32 dX0_setMark_33 o_v0 ?_
    refine r_heap (fun S13 eS13 => ?_)
    have h := h S13 eS13
    have o_a3 := ob_I eS13 o_a3
    have o_a6 := ob_I eS13 o_a6
    have o_v0 := ob_I eS13 o_v0
    refine r_aload_n (pc := 36) C dX0_setMark_36 0 rfl ?_
    refine r_geti (pc := 37) C fL_X0_32 dX0_setMark_37 o_v0 ?_
    refine r_topi (fun x14 ex14 => ?_)
    have h := h x14 ex14
    refine r_iconst (pc := 40) C (v := (1 : Int32)) dX0_setMark_40 (by decide) ?_
    refine r_isub (pc := 41) C dX0_setMark_41 ?_
    exact r_iret (pc := 42) C E ht dX0_setMark_42 (by decide) (by decide) h
  · have h := h.2 c2
    refine r_iconst (pc := 8) C (v := (-1 : Int32)) dX0_setMark_8 (by decide) ?_
    exact r_iret (pc := 9) C E ht dX0_setMark_9 (by decide) (by decide) h
def P_X0_setMark (v0 : Nat) (Q : Int32 → HS → Prop) (S : HS) : Prop := P_X0_setMark_0 Q v0 S
theorem c_X0_setMark {l : Launch} {Ee : EE} {S : HS} {v0 : Nat} {Q : Int32 → HS → Prop} (h : P_X0_setMark v0 Q S) : MI l yX0_setMark cX0_setMark 1 (some .int) rm_X0_setMark Ee S [.ref v0] Q :=
  openI (by decide) (Nat.le_of_ble_eq_true rfl) (fun X C E ht hn hE hl => by subst hE; exact r_sub [0] rfl (T_X0_setMark_0 C E ht hn h))
def rm_X0_takeBack : Room := { frames := 1, cells := 0, slots := 0, locals := 22 }
def P_X0_takeBack_0 (Q : Int32 → HS → Prop) (v0 : Nat) (S : HS) : Prop := ob S v0 0 ∧ (∀ x1 : Int32, x1 = fI S v0 2 → (((0 < x1) → (∀ x3 : Int32, x3 = fI S v0 2 → (∀ x4 : Int32, x4 = x3 - (1 : Int32) → (∀ S5 : HS, S5 = sI S v0 2 x4 → (∃ a6 : Nat, fR S5 v0 4 = some a6 ∧ (∃ a7 : Nat, fR S5 v0 5 = some a7 ∧ (∀ x8 : Int32, x8 = fI S5 v0 2 → (ob S5 a7 16 ∧ (vp_in x8 (hN S5 a7) ∧ ∃ a10 : Nat, fR S5 a7 x8.toNatClampNeg = some a10 ∧ (ob S5 a6 2 ∧ (P_X2_copy a6 a10 (fun S11 => Gr S5 S11 → (Q (1 : Int32) S11)) S5))))))))))) ∧ ((¬ 0 < x1) → (Q (0 : Int32) S))))
set_option maxRecDepth 20000 in
set_option maxHeartbeats 4000000 in
theorem T_X0_takeBack_0 {X : CX} {Q : Int32 → HS → Prop} (C : Cx X cX0_takeBack RX0 1 rm_X0_takeBack) (E : ReI X rm_X0_takeBack (fun r S => bl r ∧ Q r S)) (ht : (xh X).sig.returnType = (some .boolean)) (hn : (xh X).name = yX0_takeBack.name) {v0 : Nat} {S : HS} (h : P_X0_takeBack_0 Q v0 S) : WS X 1 0 0 0 [(0, .ref v0)] [] S := by
  refine r_aload_n (pc := 0) C dX0_takeBack_0 0 rfl ?_
  obtain ⟨o_v0, h⟩ := h
  refine r_geti (pc := 1) C fL_X0_29 dX0_takeBack_1 o_v0 ?_
  refine r_topi (fun x1 ex1 => ?_)
  have h := h x1 ex1
  refine r_if_gt (pc := 4) C (tgt := 9) dX0_takeBack_4 (by decide) (fun c2 => ?_) (fun c2 => ?_)
  · have h := h.1 c2
    refine r_aload_n (pc := 9) C dX0_takeBack_9 0 rfl ?_
    refine r_dup (pc := 10) C dX0_takeBack_10 rfl ?_
    refine r_geti (pc := 11) C fL_X0_29 dX0_takeBack_11 o_v0 ?_
    refine r_topi (fun x3 ex3 => ?_)
    have h := h x3 ex3
    refine r_iconst (pc := 14) C (v := (1 : Int32)) dX0_takeBack_14 (by decide) ?_
    refine r_isub (pc := 15) C dX0_takeBack_15 ?_
    refine r_topi (fun x4 ex4 => ?_)
    have h := h x4 ex4
    refine r_puti (pc := 16) C pfL_X0_29 dX0_takeBack_16 o_v0 ?_
    refine r_heap (fun S5 eS5 => ?_)
    have h := h S5 eS5
    have o_v0 := ob_I eS5 o_v0
    refine r_aload_n (pc := 19) C dX0_takeBack_19 0 rfl ?_
    obtain ⟨a6, ea6, h⟩ := h
    refine r_getr (pc := 20) C fL_X0_18 dX0_takeBack_20 o_v0 ea6 ?_
    refine r_aload_n (pc := 23) C dX0_takeBack_23 0 rfl ?_
    obtain ⟨a7, ea7, h⟩ := h
    refine r_getr (pc := 24) C fL_X0_22 dX0_takeBack_24 o_v0 ea7 ?_
    refine r_aload_n (pc := 27) C dX0_takeBack_27 0 rfl ?_
    refine r_geti (pc := 28) C fL_X0_29 dX0_takeBack_28 o_v0 ?_
    refine r_topi (fun x8 ex8 => ?_)
    have h := h x8 ex8
    obtain ⟨o_a7, h⟩ := h
    obtain ⟨i9, a10, ea10, h⟩ := h
    refine r_aald16 (pc := 31) C dX0_takeBack_31 o_a7 i9 ea10 ?_
    obtain ⟨o_a6, h⟩ := h
    refine r_callVv0 (pc := 32) C (rest := []) (a := a6) o_a6 [.ref a10] yV_X2_copy g_990 (c_X2_copy h) dX0_takeBack_32 rfl rfl (Nat.le_of_ble_eq_true rfl) ⟨by decide, by decide⟩ ⟨by decide, by decide⟩ ⟨rfl, rfl⟩ (fun S11 h g12 => ?_)
    have h := h g12
    have o_a6 := gr_ob g12 o_a6
    have o_a7 := gr_ob g12 o_a7
    have o_v0 := gr_ob g12 o_v0
    refine r_iconst (pc := 35) C (v := (1 : Int32)) dX0_takeBack_35 (by decide) ?_
    exact r_zret (pc := 36) C E ht dX0_takeBack_36 (by decide) (by decide) (Or.inr rfl) h
  · have h := h.2 c2
    refine r_iconst (pc := 7) C (v := (0 : Int32)) dX0_takeBack_7 (by decide) ?_
    exact r_zret (pc := 8) C E ht dX0_takeBack_8 (by decide) (by decide) (Or.inl rfl) h
def P_X0_takeBack (v0 : Nat) (Q : Int32 → HS → Prop) (S : HS) : Prop := P_X0_takeBack_0 Q v0 S
theorem c_X0_takeBack {l : Launch} {Ee : EE} {S : HS} {v0 : Nat} {Q : Int32 → HS → Prop} (h : P_X0_takeBack v0 Q S) : MI l yX0_takeBack cX0_takeBack 1 (some .boolean) rm_X0_takeBack Ee S [.ref v0] (fun r S => bl r ∧ Q r S) :=
  openI (by decide) (Nat.le_of_ble_eq_true rfl) (fun X C E ht hn hE hl => by subst hE; exact r_sub [0] rfl (T_X0_takeBack_0 C E ht hn h))
def rm_X10_facing : Room := { frames := 0, cells := 0, slots := 0, locals := 0 }
def P_X10_facing_0 (Q : Int32 → HS → Prop) (v0 : Nat) (v1 : Int32) (v2 : Int32) (S : HS) : Prop := ((¬ v2 = 0) → (ob S v0 10 ∧ (∃ a2 : Nat, fR S v0 15 = some a2 ∧ (ob S a2 13 ∧ (vp_in v1 (hN S a2) ∧ ∀ x4 : Int32, x4 = fI S a2 v1.toNatClampNeg → (Q ((x4 + (2 : Int32)) &&& (3 : Int32)) S)))))) ∧ ((v2 = 0) → (ob S v0 10 ∧ (∃ a5 : Nat, fR S v0 15 = some a5 ∧ (ob S a5 13 ∧ (vp_in v1 (hN S a5) ∧ ∀ x7 : Int32, x7 = fI S a5 v1.toNatClampNeg → (Q x7 S))))))
set_option maxRecDepth 20000 in
set_option maxHeartbeats 4000000 in
theorem T_X10_facing_0 {X : CX} {Q : Int32 → HS → Prop} (C : Cx X cX10_facing RX10 3 rm_X10_facing) (E : ReI X rm_X10_facing Q) (ht : (xh X).sig.returnType = (some .int)) (hn : (xh X).name = yX10_facing.name) {v0 : Nat} {v1 : Int32} {v2 : Int32} {S : HS} (h : P_X10_facing_0 Q v0 v1 v2 S) : WS X 3 0 0 0 [(0, .ref v0), (1, .int v1), (2, .int v2)] [] S := by
  refine r_iload_n (pc := 0) C dX10_facing_0 2 rfl ?_
  refine r_if_ne (pc := 1) C (tgt := 13) dX10_facing_1 (by decide) (fun c1 => ?_) (fun c1 => ?_)
  · have h := h.1 c1
    refine r_aload_n (pc := 13) C dX10_facing_13 0 rfl ?_
    obtain ⟨o_v0, h⟩ := h
    obtain ⟨a2, ea2, h⟩ := h
    refine r_getr (pc := 14) C fL_X10_36 dX10_facing_14 o_v0 ea2 ?_
    refine r_iload_n (pc := 17) C dX10_facing_17 1 rfl ?_
    obtain ⟨o_a2, h⟩ := h
    obtain ⟨i3, h⟩ := h
    refine r_iald (pc := 18) C dX10_facing_18 o_a2 i3 ?_
    refine r_topi (fun x4 ex4 => ?_)
    have h := h x4 ex4
    refine r_iconst (pc := 19) C (v := (2 : Int32)) dX10_facing_19 (by decide) ?_
    refine r_iadd (pc := 20) C dX10_facing_20 ?_
    refine r_iconst (pc := 21) C (v := (3 : Int32)) dX10_facing_21 (by decide) ?_
    refine r_iand (pc := 22) C dX10_facing_22 ?_
    exact r_iret (pc := 23) C E ht dX10_facing_23 (by decide) (by decide) h
  · have h := h.2 c1
    refine r_aload_n (pc := 4) C dX10_facing_4 0 rfl ?_
    obtain ⟨o_v0, h⟩ := h
    obtain ⟨a5, ea5, h⟩ := h
    refine r_getr (pc := 5) C fL_X10_36 dX10_facing_5 o_v0 ea5 ?_
    refine r_iload_n (pc := 8) C dX10_facing_8 1 rfl ?_
    obtain ⟨o_a5, h⟩ := h
    obtain ⟨i6, h⟩ := h
    refine r_iald (pc := 9) C dX10_facing_9 o_a5 i6 ?_
    refine r_topi (fun x7 ex7 => ?_)
    have h := h x7 ex7
    refine r_goto (pc := 10) C (tgt := 23) dX10_facing_10 (by decide) ?_
    exact r_iret (pc := 23) C E ht dX10_facing_23 (by decide) (by decide) h
def P_X10_facing (v0 : Nat) (v1 : Int32) (v2 : Int32) (Q : Int32 → HS → Prop) (S : HS) : Prop := P_X10_facing_0 Q v0 v1 v2 S
theorem c_X10_facing {l : Launch} {Ee : EE} {S : HS} {v0 : Nat} {v1 : Int32} {v2 : Int32} {Q : Int32 → HS → Prop} (h : P_X10_facing v0 v1 v2 Q S) : MI l yX10_facing cX10_facing 3 (some .int) rm_X10_facing Ee S [.ref v0, .int v1, .int v2] Q :=
  openI (by decide) (Nat.le_of_ble_eq_true rfl) (fun X C E ht hn hE hl => by subst hE; exact r_sub [0, 1, 2] rfl (T_X10_facing_0 C E ht hn h))
def rm_X10_across : Room := { frames := 1, cells := 0, slots := 0, locals := 22 }
def P_X10_across_0 (Q : Int32 → HS → Prop) (v0 : Nat) (v1 : Int32) (v2 : Int32) (v3 : Int32) (S : HS) : Prop := ob S v0 10 ∧ (∃ a1 : Nat, fR S v0 9 = some a1 ∧ (ob S a1 13 ∧ (vp_in v3 (hN S a1) ∧ ∀ x3 : Int32, x3 = fI S a1 v3.toNatClampNeg → (P_X10_facing v0 v1 v2 (fun x6 S4 => Gr S S4 → (∀ x7 : Int32, x7 = (x3 - x6) &&& (3 : Int32) → (((¬ x7 = (1 : Int32)) → (((¬ x7 = (3 : Int32)) → (Q (0 : Int32) S4)) ∧ ((x7 = (3 : Int32)) → (∃ a10 : Nat, fR S4 v0 10 = some a10 ∧ (ob S4 a10 13 ∧ (vp_in v3 (hN S4 a10) ∧ ∀ x12 : Int32, x12 = fI S4 a10 v3.toNatClampNeg → (Q (-x12) S4))))))) ∧ ((x7 = (1 : Int32)) → (∃ a13 : Nat, fR S4 v0 10 = some a13 ∧ (ob S4 a13 13 ∧ (vp_in v3 (hN S4 a13) ∧ ∀ x15 : Int32, x15 = fI S4 a13 v3.toNatClampNeg → (Q x15 S4)))))))) S))))
set_option maxRecDepth 20000 in
set_option maxHeartbeats 4000000 in
theorem T_X10_across_0 {X : CX} {Q : Int32 → HS → Prop} (C : Cx X cX10_across RX10 5 rm_X10_across) (E : ReI X rm_X10_across Q) (ht : (xh X).sig.returnType = (some .int)) (hn : (xh X).name = yX10_across.name) {v0 : Nat} {v1 : Int32} {v2 : Int32} {v3 : Int32} {S : HS} (h : P_X10_across_0 Q v0 v1 v2 v3 S) : WS X 5 0 0 0 [(0, .ref v0), (1, .int v1), (2, .int v2), (3, .int v3)] [] S := by
  refine r_aload_n (pc := 0) C dX10_across_0 0 rfl ?_
  obtain ⟨o_v0, h⟩ := h
  obtain ⟨a1, ea1, h⟩ := h
  refine r_getr (pc := 1) C fL_X10_18 dX10_across_1 o_v0 ea1 ?_
  refine r_iload_n (pc := 4) C dX10_across_4 3 rfl ?_
  obtain ⟨o_a1, h⟩ := h
  obtain ⟨i2, h⟩ := h
  refine r_iald (pc := 5) C dX10_across_5 o_a1 i2 ?_
  refine r_topi (fun x3 ex3 => ?_)
  have h := h x3 ex3
  refine r_aload_n (pc := 6) C dX10_across_6 0 rfl ?_
  refine r_iload_n (pc := 7) C dX10_across_7 1 rfl ?_
  refine r_iload_n (pc := 8) C dX10_across_8 2 rfl ?_
  refine r_callVi0 (pc := 9) C (rest := [.int x3]) (a := v0) o_v0 [.int v1, .int v2] yV_X10_facing g_1566 (c_X10_facing h) dX10_across_9 rfl rfl (Nat.le_of_ble_eq_true rfl) ⟨by decide, by decide⟩ ⟨by decide, by decide⟩ ⟨rfl, rfl⟩ (fun x6 S4 h g5 => ?_)
  have h := h g5
  have o_a1 := gr_ob g5 o_a1
  have o_v0 := gr_ob g5 o_v0
  refine r_isub (pc := 12) C dX10_across_12 ?_
  refine r_iconst (pc := 13) C (v := (3 : Int32)) dX10_across_13 (by decide) ?_
  refine r_iand (pc := 14) C dX10_across_14 ?_
  refine r_topi (fun x7 ex7 => ?_)
  have h := h x7 ex7
  refine r_istore (pc := 15) C dX10_across_15 (by decide) (lv' := [(4, .int x7), (0, .ref v0), (1, .int v1), (2, .int v2), (3, .int v3)]) rfl ?_
  refine r_iload (pc := 17) C dX10_across_17 0 rfl ?_
  refine r_iconst (pc := 19) C (v := (1 : Int32)) dX10_across_19 (by decide) ?_
  refine r_icmp_ne (pc := 20) C (tgt := 32) dX10_across_20 (by decide) (fun c8 => ?_) (fun c8 => ?_)
  · have h := h.1 c8
    refine r_iload (pc := 32) C dX10_across_32 0 rfl ?_
    refine r_iconst (pc := 34) C (v := (3 : Int32)) dX10_across_34 (by decide) ?_
    refine r_icmp_ne (pc := 35) C (tgt := 48) dX10_across_35 (by decide) (fun c9 => ?_) (fun c9 => ?_)
    · have h := h.1 c9
      refine r_iconst (pc := 48) C (v := (0 : Int32)) dX10_across_48 (by decide) ?_
      exact r_iret (pc := 49) C E ht dX10_across_49 (by decide) (by decide) h
    · have h := h.2 c9
      refine r_aload_n (pc := 38) C dX10_across_38 1 rfl ?_
      obtain ⟨a10, ea10, h⟩ := h
      refine r_getr (pc := 39) C fL_X10_21 dX10_across_39 o_v0 ea10 ?_
      refine r_iload_n (pc := 42) C dX10_across_42 4 rfl ?_
      obtain ⟨o_a10, h⟩ := h
      obtain ⟨i11, h⟩ := h
      refine r_iald (pc := 43) C dX10_across_43 o_a10 i11 ?_
      refine r_topi (fun x12 ex12 => ?_)
      have h := h x12 ex12
      refine r_ineg (pc := 44) C dX10_across_44 ?_
      refine r_goto (pc := 45) C (tgt := 49) dX10_across_45 (by decide) ?_
      exact r_iret (pc := 49) C E ht dX10_across_49 (by decide) (by decide) h
  · have h := h.2 c8
    refine r_aload_n (pc := 23) C dX10_across_23 1 rfl ?_
    obtain ⟨a13, ea13, h⟩ := h
    refine r_getr (pc := 24) C fL_X10_21 dX10_across_24 o_v0 ea13 ?_
    refine r_iload_n (pc := 27) C dX10_across_27 4 rfl ?_
    obtain ⟨o_a13, h⟩ := h
    obtain ⟨i14, h⟩ := h
    refine r_iald (pc := 28) C dX10_across_28 o_a13 i14 ?_
    refine r_topi (fun x15 ex15 => ?_)
    have h := h x15 ex15
    refine r_goto (pc := 29) C (tgt := 49) dX10_across_29 (by decide) ?_
    exact r_iret (pc := 49) C E ht dX10_across_49 (by decide) (by decide) h
def P_X10_across (v0 : Nat) (v1 : Int32) (v2 : Int32) (v3 : Int32) (Q : Int32 → HS → Prop) (S : HS) : Prop := P_X10_across_0 Q v0 v1 v2 v3 S
theorem c_X10_across {l : Launch} {Ee : EE} {S : HS} {v0 : Nat} {v1 : Int32} {v2 : Int32} {v3 : Int32} {Q : Int32 → HS → Prop} (h : P_X10_across v0 v1 v2 v3 Q S) : MI l yX10_across cX10_across 5 (some .int) rm_X10_across Ee S [.ref v0, .int v1, .int v2, .int v3] Q :=
  openI (by decide) (Nat.le_of_ble_eq_true rfl) (fun X C E ht hn hE hl => by subst hE; exact r_sub [0, 1, 2, 3] rfl (T_X10_across_0 C E ht hn h))
def rm_X10_air : Room := { frames := 1, cells := 0, slots := 0, locals := 22 }
def P_X10_air_0 (Q : Int32 → HS → Prop) (v0 : Nat) (v1 : Int32) (v2 : Int32) (v3 : Int32) (S : HS) : Prop := ob S v0 10 ∧ (∃ a1 : Nat, fR S v0 9 = some a1 ∧ (ob S a1 13 ∧ (vp_in v3 (hN S a1) ∧ ∀ x3 : Int32, x3 = fI S a1 v3.toNatClampNeg → (P_X10_facing v0 v1 v2 (fun x6 S4 => Gr S S4 → (∀ x7 : Int32, x7 = (x3 - x6) &&& (3 : Int32) → (((¬ x7 = 0) → (((¬ x7 = (2 : Int32)) → (Q (0 : Int32) S4)) ∧ ((x7 = (2 : Int32)) → (∃ a10 : Nat, fR S4 v0 10 = some a10 ∧ (ob S4 a10 13 ∧ (vp_in v3 (hN S4 a10) ∧ ∀ x12 : Int32, x12 = fI S4 a10 v3.toNatClampNeg → (Q (-x12) S4))))))) ∧ ((x7 = 0) → (∃ a13 : Nat, fR S4 v0 10 = some a13 ∧ (ob S4 a13 13 ∧ (vp_in v3 (hN S4 a13) ∧ ∀ x15 : Int32, x15 = fI S4 a13 v3.toNatClampNeg → (Q x15 S4)))))))) S))))
set_option maxRecDepth 20000 in
set_option maxHeartbeats 4000000 in
theorem T_X10_air_0 {X : CX} {Q : Int32 → HS → Prop} (C : Cx X cX10_air RX10 5 rm_X10_air) (E : ReI X rm_X10_air Q) (ht : (xh X).sig.returnType = (some .int)) (hn : (xh X).name = yX10_air.name) {v0 : Nat} {v1 : Int32} {v2 : Int32} {v3 : Int32} {S : HS} (h : P_X10_air_0 Q v0 v1 v2 v3 S) : WS X 5 0 0 0 [(0, .ref v0), (1, .int v1), (2, .int v2), (3, .int v3)] [] S := by
  refine r_aload_n (pc := 0) C dX10_air_0 0 rfl ?_
  obtain ⟨o_v0, h⟩ := h
  obtain ⟨a1, ea1, h⟩ := h
  refine r_getr (pc := 1) C fL_X10_18 dX10_air_1 o_v0 ea1 ?_
  refine r_iload_n (pc := 4) C dX10_air_4 3 rfl ?_
  obtain ⟨o_a1, h⟩ := h
  obtain ⟨i2, h⟩ := h
  refine r_iald (pc := 5) C dX10_air_5 o_a1 i2 ?_
  refine r_topi (fun x3 ex3 => ?_)
  have h := h x3 ex3
  refine r_aload_n (pc := 6) C dX10_air_6 0 rfl ?_
  refine r_iload_n (pc := 7) C dX10_air_7 1 rfl ?_
  refine r_iload_n (pc := 8) C dX10_air_8 2 rfl ?_
  refine r_callVi0 (pc := 9) C (rest := [.int x3]) (a := v0) o_v0 [.int v1, .int v2] yV_X10_facing g_1566 (c_X10_facing h) dX10_air_9 rfl rfl (Nat.le_of_ble_eq_true rfl) ⟨by decide, by decide⟩ ⟨by decide, by decide⟩ ⟨rfl, rfl⟩ (fun x6 S4 h g5 => ?_)
  have h := h g5
  have o_a1 := gr_ob g5 o_a1
  have o_v0 := gr_ob g5 o_v0
  refine r_isub (pc := 12) C dX10_air_12 ?_
  refine r_iconst (pc := 13) C (v := (3 : Int32)) dX10_air_13 (by decide) ?_
  refine r_iand (pc := 14) C dX10_air_14 ?_
  refine r_topi (fun x7 ex7 => ?_)
  have h := h x7 ex7
  refine r_istore (pc := 15) C dX10_air_15 (by decide) (lv' := [(4, .int x7), (0, .ref v0), (1, .int v1), (2, .int v2), (3, .int v3)]) rfl ?_
  refine r_iload (pc := 17) C dX10_air_17 0 rfl ?_
  refine r_if_ne (pc := 19) C (tgt := 31) dX10_air_19 (by decide) (fun c8 => ?_) (fun c8 => ?_)
  · have h := h.1 c8
    refine r_iload (pc := 31) C dX10_air_31 0 rfl ?_
    refine r_iconst (pc := 33) C (v := (2 : Int32)) dX10_air_33 (by decide) ?_
    refine r_icmp_ne (pc := 34) C (tgt := 47) dX10_air_34 (by decide) (fun c9 => ?_) (fun c9 => ?_)
    · have h := h.1 c9
      refine r_iconst (pc := 47) C (v := (0 : Int32)) dX10_air_47 (by decide) ?_
      exact r_iret (pc := 48) C E ht dX10_air_48 (by decide) (by decide) h
    · have h := h.2 c9
      refine r_aload_n (pc := 37) C dX10_air_37 1 rfl ?_
      obtain ⟨a10, ea10, h⟩ := h
      refine r_getr (pc := 38) C fL_X10_21 dX10_air_38 o_v0 ea10 ?_
      refine r_iload_n (pc := 41) C dX10_air_41 4 rfl ?_
      obtain ⟨o_a10, h⟩ := h
      obtain ⟨i11, h⟩ := h
      refine r_iald (pc := 42) C dX10_air_42 o_a10 i11 ?_
      refine r_topi (fun x12 ex12 => ?_)
      have h := h x12 ex12
      refine r_ineg (pc := 43) C dX10_air_43 ?_
      refine r_goto (pc := 44) C (tgt := 48) dX10_air_44 (by decide) ?_
      exact r_iret (pc := 48) C E ht dX10_air_48 (by decide) (by decide) h
  · have h := h.2 c8
    refine r_aload_n (pc := 22) C dX10_air_22 1 rfl ?_
    obtain ⟨a13, ea13, h⟩ := h
    refine r_getr (pc := 23) C fL_X10_21 dX10_air_23 o_v0 ea13 ?_
    refine r_iload_n (pc := 26) C dX10_air_26 4 rfl ?_
    obtain ⟨o_a13, h⟩ := h
    obtain ⟨i14, h⟩ := h
    refine r_iald (pc := 27) C dX10_air_27 o_a13 i14 ?_
    refine r_topi (fun x15 ex15 => ?_)
    have h := h x15 ex15
    refine r_goto (pc := 28) C (tgt := 48) dX10_air_28 (by decide) ?_
    exact r_iret (pc := 48) C E ht dX10_air_48 (by decide) (by decide) h
def P_X10_air (v0 : Nat) (v1 : Int32) (v2 : Int32) (v3 : Int32) (Q : Int32 → HS → Prop) (S : HS) : Prop := P_X10_air_0 Q v0 v1 v2 v3 S
theorem c_X10_air {l : Launch} {Ee : EE} {S : HS} {v0 : Nat} {v1 : Int32} {v2 : Int32} {v3 : Int32} {Q : Int32 → HS → Prop} (h : P_X10_air v0 v1 v2 v3 Q S) : MI l yX10_air cX10_air 5 (some .int) rm_X10_air Ee S [.ref v0, .int v1, .int v2, .int v3] Q :=
  openI (by decide) (Nat.le_of_ble_eq_true rfl) (fun X C E ht hn hE hl => by subst hE; exact r_sub [0, 1, 2, 3] rfl (T_X10_air_0 C E ht hn h))
def rm_X10_begins : Room := { frames := 0, cells := 0, slots := 0, locals := 0 }
def P_X10_begins_0 (Q : Int32 → HS → Prop) (v0 : Nat) (v1 : Int32) (v2 : Int32) (S : HS) : Prop := ((¬ v2 = 0) → (ob S v0 10 ∧ (∃ a2 : Nat, fR S v0 14 = some a2 ∧ (ob S a2 13 ∧ (vp_in v1 (hN S a2) ∧ ∀ x4 : Int32, x4 = fI S a2 v1.toNatClampNeg → (Q x4 S)))))) ∧ ((v2 = 0) → (ob S v0 10 ∧ (∃ a5 : Nat, fR S v0 13 = some a5 ∧ (ob S a5 13 ∧ (vp_in v1 (hN S a5) ∧ ∀ x7 : Int32, x7 = fI S a5 v1.toNatClampNeg → (Q x7 S))))))
set_option maxRecDepth 20000 in
set_option maxHeartbeats 4000000 in
theorem T_X10_begins_0 {X : CX} {Q : Int32 → HS → Prop} (C : Cx X cX10_begins RX10 3 rm_X10_begins) (E : ReI X rm_X10_begins Q) (ht : (xh X).sig.returnType = (some .int)) (hn : (xh X).name = yX10_begins.name) {v0 : Nat} {v1 : Int32} {v2 : Int32} {S : HS} (h : P_X10_begins_0 Q v0 v1 v2 S) : WS X 3 0 0 0 [(0, .ref v0), (1, .int v1), (2, .int v2)] [] S := by
  refine r_iload_n (pc := 0) C dX10_begins_0 2 rfl ?_
  refine r_if_ne (pc := 1) C (tgt := 13) dX10_begins_1 (by decide) (fun c1 => ?_) (fun c1 => ?_)
  · have h := h.1 c1
    refine r_aload_n (pc := 13) C dX10_begins_13 0 rfl ?_
    obtain ⟨o_v0, h⟩ := h
    obtain ⟨a2, ea2, h⟩ := h
    refine r_getr (pc := 14) C fL_X10_33 dX10_begins_14 o_v0 ea2 ?_
    refine r_iload_n (pc := 17) C dX10_begins_17 1 rfl ?_
    obtain ⟨o_a2, h⟩ := h
    obtain ⟨i3, h⟩ := h
    refine r_iald (pc := 18) C dX10_begins_18 o_a2 i3 ?_
    refine r_topi (fun x4 ex4 => ?_)
    have h := h x4 ex4
    exact r_iret (pc := 19) C E ht dX10_begins_19 (by decide) (by decide) h
  · have h := h.2 c1
    refine r_aload_n (pc := 4) C dX10_begins_4 0 rfl ?_
    obtain ⟨o_v0, h⟩ := h
    obtain ⟨a5, ea5, h⟩ := h
    refine r_getr (pc := 5) C fL_X10_30 dX10_begins_5 o_v0 ea5 ?_
    refine r_iload_n (pc := 8) C dX10_begins_8 1 rfl ?_
    obtain ⟨o_a5, h⟩ := h
    obtain ⟨i6, h⟩ := h
    refine r_iald (pc := 9) C dX10_begins_9 o_a5 i6 ?_
    refine r_topi (fun x7 ex7 => ?_)
    have h := h x7 ex7
    refine r_goto (pc := 10) C (tgt := 19) dX10_begins_10 (by decide) ?_
    exact r_iret (pc := 19) C E ht dX10_begins_19 (by decide) (by decide) h
def P_X10_begins (v0 : Nat) (v1 : Int32) (v2 : Int32) (Q : Int32 → HS → Prop) (S : HS) : Prop := P_X10_begins_0 Q v0 v1 v2 S
theorem c_X10_begins {l : Launch} {Ee : EE} {S : HS} {v0 : Nat} {v1 : Int32} {v2 : Int32} {Q : Int32 → HS → Prop} (h : P_X10_begins v0 v1 v2 Q S) : MI l yX10_begins cX10_begins 3 (some .int) rm_X10_begins Ee S [.ref v0, .int v1, .int v2] Q :=
  openI (by decide) (Nat.le_of_ble_eq_true rfl) (fun X C E ht hn hE hl => by subst hE; exact r_sub [0, 1, 2] rfl (T_X10_begins_0 C E ht hn h))
def rm_X10_ends : Room := { frames := 0, cells := 0, slots := 0, locals := 0 }
def P_X10_ends_0 (Q : Int32 → HS → Prop) (v0 : Nat) (v1 : Int32) (v2 : Int32) (S : HS) : Prop := ((¬ v2 = 0) → (ob S v0 10 ∧ (∃ a2 : Nat, fR S v0 13 = some a2 ∧ (ob S a2 13 ∧ (vp_in v1 (hN S a2) ∧ ∀ x4 : Int32, x4 = fI S a2 v1.toNatClampNeg → (Q x4 S)))))) ∧ ((v2 = 0) → (ob S v0 10 ∧ (∃ a5 : Nat, fR S v0 14 = some a5 ∧ (ob S a5 13 ∧ (vp_in v1 (hN S a5) ∧ ∀ x7 : Int32, x7 = fI S a5 v1.toNatClampNeg → (Q x7 S))))))
set_option maxRecDepth 20000 in
set_option maxHeartbeats 4000000 in
theorem T_X10_ends_0 {X : CX} {Q : Int32 → HS → Prop} (C : Cx X cX10_ends RX10 3 rm_X10_ends) (E : ReI X rm_X10_ends Q) (ht : (xh X).sig.returnType = (some .int)) (hn : (xh X).name = yX10_ends.name) {v0 : Nat} {v1 : Int32} {v2 : Int32} {S : HS} (h : P_X10_ends_0 Q v0 v1 v2 S) : WS X 3 0 0 0 [(0, .ref v0), (1, .int v1), (2, .int v2)] [] S := by
  refine r_iload_n (pc := 0) C dX10_ends_0 2 rfl ?_
  refine r_if_ne (pc := 1) C (tgt := 13) dX10_ends_1 (by decide) (fun c1 => ?_) (fun c1 => ?_)
  · have h := h.1 c1
    refine r_aload_n (pc := 13) C dX10_ends_13 0 rfl ?_
    obtain ⟨o_v0, h⟩ := h
    obtain ⟨a2, ea2, h⟩ := h
    refine r_getr (pc := 14) C fL_X10_30 dX10_ends_14 o_v0 ea2 ?_
    refine r_iload_n (pc := 17) C dX10_ends_17 1 rfl ?_
    obtain ⟨o_a2, h⟩ := h
    obtain ⟨i3, h⟩ := h
    refine r_iald (pc := 18) C dX10_ends_18 o_a2 i3 ?_
    refine r_topi (fun x4 ex4 => ?_)
    have h := h x4 ex4
    exact r_iret (pc := 19) C E ht dX10_ends_19 (by decide) (by decide) h
  · have h := h.2 c1
    refine r_aload_n (pc := 4) C dX10_ends_4 0 rfl ?_
    obtain ⟨o_v0, h⟩ := h
    obtain ⟨a5, ea5, h⟩ := h
    refine r_getr (pc := 5) C fL_X10_33 dX10_ends_5 o_v0 ea5 ?_
    refine r_iload_n (pc := 8) C dX10_ends_8 1 rfl ?_
    obtain ⟨o_a5, h⟩ := h
    obtain ⟨i6, h⟩ := h
    refine r_iald (pc := 9) C dX10_ends_9 o_a5 i6 ?_
    refine r_topi (fun x7 ex7 => ?_)
    have h := h x7 ex7
    refine r_goto (pc := 10) C (tgt := 19) dX10_ends_10 (by decide) ?_
    exact r_iret (pc := 19) C E ht dX10_ends_19 (by decide) (by decide) h
def P_X10_ends (v0 : Nat) (v1 : Int32) (v2 : Int32) (Q : Int32 → HS → Prop) (S : HS) : Prop := P_X10_ends_0 Q v0 v1 v2 S
theorem c_X10_ends {l : Launch} {Ee : EE} {S : HS} {v0 : Nat} {v1 : Int32} {v2 : Int32} {Q : Int32 → HS → Prop} (h : P_X10_ends v0 v1 v2 Q S) : MI l yX10_ends cX10_ends 3 (some .int) rm_X10_ends Ee S [.ref v0, .int v1, .int v2] Q :=
  openI (by decide) (Nat.le_of_ble_eq_true rfl) (fun X C E ht hn hE hl => by subst hE; exact r_sub [0, 1, 2] rfl (T_X10_ends_0 C E ht hn h))
def rm_X10_find : Room := { frames := 0, cells := 0, slots := 0, locals := 0 }
def B_X10_find_2 (Q : Int32 → HS → Prop) (X2 : Nat → Int64 → Int32 → HS → Prop) (v0 : Nat) (v1 : Int64) (v3 : Int32) (S : HS) : Prop := ob S v0 10 ∧ (∀ x1 : Int32, x1 = fI S v0 6 → (((x1 ≤ v3) → (Q (-1 : Int32) S)) ∧ ((¬ x1 ≤ v3) → (∃ a3 : Nat, fR S v0 28 = some a3 ∧ (ob S a3 14 ∧ (vp_in v3 (hN S a3) ∧ ∀ x5 : Int64, x5 = fJ S a3 v3.toNatClampNeg → (((¬ (lg_cmp x5 v1) = 0) → (∀ x7 : Int32, x7 = v3 + (1 : Int32) → (X2 v0 v1 x7 S))) ∧ (((lg_cmp x5 v1) = 0) → (Q v3 S)))))))))
def P_X10_find_2 (Q : Int32 → HS → Prop) (v0 : Nat) (v1 : Int64) (v3 : Int32) (S : HS) : Prop := ∀ X2 : Nat → Int64 → Int32 → HS → Prop, (∀ (v0 : Nat) (v1 : Int64) (v3 : Int32) (S : HS), B_X10_find_2 Q X2 v0 v1 v3 S → X2 v0 v1 v3 S) → X2 v0 v1 v3 S
set_option maxRecDepth 20000 in
set_option maxHeartbeats 4000000 in
theorem TB_X10_find_2 {X : CX} {Q : Int32 → HS → Prop} (C : Cx X cX10_find RX10 4 rm_X10_find) (E : ReI X rm_X10_find Q) (ht : (xh X).sig.returnType = (some .int)) (hn : (xh X).name = yX10_find.name) {X2 : Nat → Int64 → Int32 → HS → Prop} (hX2 : ∀ (v0 : Nat) (v1 : Int64) (v3 : Int32) (S : HS), X2 v0 v1 v3 S → WS X 4 0 0 2 [(0, .ref v0), (1, .long v1), (3, .int v3)] [] S) {v0 : Nat} {v1 : Int64} {v3 : Int32} {S : HS} (h : B_X10_find_2 Q X2 v0 v1 v3 S) : WS X 4 0 0 2 [(0, .ref v0), (1, .long v1), (3, .int v3)] [] S := by
  refine r_iload_n (pc := 2) C dX10_find_2 2 rfl ?_
  refine r_aload_n (pc := 3) C dX10_find_3 0 rfl ?_
  obtain ⟨o_v0, h⟩ := h
  refine r_geti (pc := 4) C fL_X10_86 dX10_find_4 o_v0 ?_
  refine r_topi (fun x1 ex1 => ?_)
  have h := h x1 ex1
  refine r_icmp_ge (pc := 7) C (tgt := 29) dX10_find_7 (by decide) (fun c2 => ?_) (fun c2 => ?_)
  · have h := h.1 c2
    refine r_iconst (pc := 29) C (v := (-1 : Int32)) dX10_find_29 (by decide) ?_
    exact r_iret (pc := 30) C E ht dX10_find_30 (by decide) (by decide) h
  · have h := h.2 c2
    refine r_aload_n (pc := 10) C dX10_find_10 0 rfl ?_
    obtain ⟨a3, ea3, h⟩ := h
    refine r_getr (pc := 11) C fL_X10_76 dX10_find_11 o_v0 ea3 ?_
    refine r_iload_n (pc := 14) C dX10_find_14 2 rfl ?_
    obtain ⟨o_a3, h⟩ := h
    obtain ⟨i4, h⟩ := h
    refine r_lald (pc := 15) C dX10_find_15 o_a3 i4 ?_
    refine r_topl (fun x5 ex5 => ?_)
    have h := h x5 ex5
    refine r_lload_n (pc := 16) C dX10_find_16 1 rfl ?_
    refine r_lcmp (pc := 17) C dX10_find_17 ?_
    refine r_if_ne (pc := 18) C (tgt := 23) dX10_find_18 (by decide) (fun c6 => ?_) (fun c6 => ?_)
    · have h := h.1 c6
      obtain ⟨x7, ex7⟩ : ∃ z : Int32, z = v3 + (1 : Int32) := ⟨_, rfl⟩
      have h := h x7 ex7
      refine r_iinc (pc := 23) C (v := x7) (lv' := [(3, .int x7), (0, .ref v0), (1, .long v1)]) dX10_find_23 2 rfl ex7.symm (by decide) rfl ?_
      refine r_goto (pc := 26) C (tgt := 2) dX10_find_26 (by decide) ?_
      exact r_sub [1, 2, 0] rfl (hX2 v0 v1 x7 S h)
    · have h := h.2 c6
      refine r_iload_n (pc := 21) C dX10_find_21 2 rfl ?_
      exact r_iret (pc := 22) C E ht dX10_find_22 (by decide) (by decide) h
theorem T_X10_find_2 {X : CX} {Q : Int32 → HS → Prop} (C : Cx X cX10_find RX10 4 rm_X10_find) (E : ReI X rm_X10_find Q) (ht : (xh X).sig.returnType = (some .int)) (hn : (xh X).name = yX10_find.name) {v0 : Nat} {v1 : Int64} {v3 : Int32} {S : HS} (h : P_X10_find_2 Q v0 v1 v3 S) : WS X 4 0 0 2 [(0, .ref v0), (1, .long v1), (3, .int v3)] [] S :=
  h (fun v0 v1 v3 S => WS X 4 0 0 2 [(0, .ref v0), (1, .long v1), (3, .int v3)] [] S) (fun v0 v1 v3 S hh => TB_X10_find_2 C E ht hn (fun v0 v1 v3 S z => z) hh)
def P_X10_find_0 (Q : Int32 → HS → Prop) (v0 : Nat) (v1 : Int64) (S : HS) : Prop := P_X10_find_2 Q v0 v1 (0 : Int32) S
set_option maxRecDepth 20000 in
set_option maxHeartbeats 4000000 in
theorem T_X10_find_0 {X : CX} {Q : Int32 → HS → Prop} (C : Cx X cX10_find RX10 4 rm_X10_find) (E : ReI X rm_X10_find Q) (ht : (xh X).sig.returnType = (some .int)) (hn : (xh X).name = yX10_find.name) {v0 : Nat} {v1 : Int64} {S : HS} (h : P_X10_find_0 Q v0 v1 S) : WS X 4 0 0 0 [(0, .ref v0), (1, .long v1)] [] S := by
  refine r_iconst (pc := 0) C (v := (0 : Int32)) dX10_find_0 (by decide) ?_
  refine r_istore_n (pc := 1) C dX10_find_1 rfl (by decide) (lv' := [(3, .int (0 : Int32)), (0, .ref v0), (1, .long v1)]) rfl ?_
  exact r_sub [1, 2, 0] rfl (T_X10_find_2 C E ht hn h)
def P_X10_find (v0 : Nat) (v1 : Int64) (Q : Int32 → HS → Prop) (S : HS) : Prop := P_X10_find_0 Q v0 v1 S
theorem c_X10_find {l : Launch} {Ee : EE} {S : HS} {v0 : Nat} {v1 : Int64} {Q : Int32 → HS → Prop} (h : P_X10_find v0 v1 Q S) : MI l yX10_find cX10_find 4 (some .int) rm_X10_find Ee S [.ref v0, .long v1] Q :=
  openI (by decide) (Nat.le_of_ble_eq_true rfl) (fun X C E ht hn hE hl => by subst hE; exact r_sub [0, 1] rfl (T_X10_find_0 C E ht hn h))
def rm_X10_init : Room := { frames := 1, cells := 24, slots := 194, locals := 20 }
def P_X10_init_0 (Q : HS → Prop) (v0 : Nat) (S : HS) : Prop := ∀ a1 : Nat, a1 ∉ hL S → ∀ S2 : HS, S2 = nW S a1 13 6 → (ob S2 v0 10 ∧ (∀ S3 : HS, S3 = sR S2 v0 7 (some a1) → (∀ a4 : Nat, a4 ∉ hL S3 → ∀ S5 : HS, S5 = nW S3 a4 13 6 → (∀ S6 : HS, S6 = sR S5 v0 8 (some a4) → (∀ a7 : Nat, a7 ∉ hL S6 → ∀ S8 : HS, S8 = nW S6 a7 13 6 → (∀ S9 : HS, S9 = sR S8 v0 9 (some a7) → (∀ a10 : Nat, a10 ∉ hL S9 → ∀ S11 : HS, S11 = nW S9 a10 13 6 → (∀ S12 : HS, S12 = sR S11 v0 10 (some a10) → (∀ a13 : Nat, a13 ∉ hL S12 → ∀ S14 : HS, S14 = nW S12 a13 13 6 → (∀ S15 : HS, S15 = sR S14 v0 11 (some a13) → (∀ a16 : Nat, a16 ∉ hL S15 → ∀ S17 : HS, S17 = nW S15 a16 13 8 → (∀ S18 : HS, S18 = sR S17 v0 12 (some a16) → (∀ a19 : Nat, a19 ∉ hL S18 → ∀ S20 : HS, S20 = nW S18 a19 13 12 → (∀ S21 : HS, S21 = sR S20 v0 13 (some a19) → (∀ a22 : Nat, a22 ∉ hL S21 → ∀ S23 : HS, S23 = nW S21 a22 13 12 → (∀ S24 : HS, S24 = sR S23 v0 14 (some a22) → (∀ a25 : Nat, a25 ∉ hL S24 → ∀ S26 : HS, S26 = nW S24 a25 13 12 → (∀ S27 : HS, S27 = sR S26 v0 15 (some a25) → (∀ a28 : Nat, a28 ∉ hL S27 → ∀ S29 : HS, S29 = nW S27 a28 13 12 → (∀ S30 : HS, S30 = sR S29 v0 16 (some a28) → (∀ a31 : Nat, a31 ∉ hL S30 → ∀ S32 : HS, S32 = nW S30 a31 13 12 → (∀ S33 : HS, S33 = sR S32 v0 17 (some a31) → (∀ a34 : Nat, a34 ∉ hL S33 → ∀ S35 : HS, S35 = nW S33 a34 15 8 → (∀ S36 : HS, S36 = sR S35 v0 18 (some a34) → (∀ a37 : Nat, a37 ∉ hL S36 → ∀ S38 : HS, S38 = nW S36 a37 13 4 → (∀ S39 : HS, S39 = sR S38 v0 19 (some a37) → (∀ a40 : Nat, a40 ∉ hL S39 → ∀ S41 : HS, S41 = nW S39 a40 13 4 → (∀ S42 : HS, S42 = sR S41 v0 20 (some a40) → (∀ a43 : Nat, a43 ∉ hL S42 → ∀ S44 : HS, S44 = nW S42 a43 13 4 → (∀ S45 : HS, S45 = sR S44 v0 21 (some a43) → (∀ a46 : Nat, a46 ∉ hL S45 → ∀ S47 : HS, S47 = nW S45 a46 13 4 → (∀ S48 : HS, S48 = sR S47 v0 22 (some a46) → (∀ a49 : Nat, a49 ∉ hL S48 → ∀ S50 : HS, S50 = nW S48 a49 13 4 → (∀ S51 : HS, S51 = sR S50 v0 23 (some a49) → (∀ a52 : Nat, a52 ∉ hL S51 → ∀ S53 : HS, S53 = nW S51 a52 13 4 → (∀ S54 : HS, S54 = sR S53 v0 24 (some a52) → (∀ a55 : Nat, a55 ∉ hL S54 → ∀ S56 : HS, S56 = nW S54 a55 13 4 → (∀ S57 : HS, S57 = sR S56 v0 25 (some a55) → (∀ a58 : Nat, a58 ∉ hL S57 → ∀ S59 : HS, S59 = nW S57 a58 13 4 → (∀ S60 : HS, S60 = sR S59 v0 26 (some a58) → (∀ a61 : Nat, a61 ∉ hL S60 → ∀ S62 : HS, S62 = nW S60 a61 13 20 → (∀ S63 : HS, S63 = sR S62 v0 27 (some a61) → (∀ a64 : Nat, a64 ∉ hL S63 → ∀ S65 : HS, S65 = nW S63 a64 14 12 → (∀ S66 : HS, S66 = sR S65 v0 28 (some a64) → (∀ a67 : Nat, a67 ∉ hL S66 → ∀ S68 : HS, S68 = nW S66 a67 13 12 → (∀ S69 : HS, S69 = sR S68 v0 29 (some a67) → (∀ a70 : Nat, a70 ∉ hL S69 → ∀ S71 : HS, S71 = nW S69 a70 13 12 → (∀ S72 : HS, S72 = sR S71 v0 30 (some a70) → (Q S72)))))))))))))))))))))))))))))))))))))))))))))))))
set_option maxRecDepth 20000 in
set_option maxHeartbeats 4000000 in
theorem T_X10_init_0 {X : CX} {Q : HS → Prop} (C : Cx X cX10_init RX10 1 rm_X10_init) (E : ReV X rm_X10_init Q) (ht : (xh X).sig.returnType = none) (hn : (xh X).name = yX10_init.name) {v0 : Nat} {S : HS} (h : P_X10_init_0 Q v0 S) : WS X 1 0 0 0 [(0, .ref v0)] [] S := by
  refine r_aload_n (pc := 0) C dX10_init_0 0 rfl ?_
  refine r_objinit (pc := 1) C g_1259 dX10_init_1 (by decide) (Nat.le_of_ble_eq_true rfl) ?_
  refine r_aload_n (pc := 4) C dX10_init_4 0 rfl ?_
  refine r_bipush (pc := 5) C (v := (6 : Int32)) dX10_init_5 (by decide) ?_
  refine r_newa13 (pc := 7) C (N := 6) g_72 dX10_init_7 (by decide) (by decide) (by decide) (by decide) (by decide) (fun a1 q119 => ?_)
  refine r_heap (fun S2 eS2 => ?_)
  have h := h a1 q119 S2 eS2
  have g120 := gr_of_new eS2 q119
  have o_a1 := ob_of_new eS2
  obtain ⟨o_v0, h⟩ := h
  refine r_putFr (pc := 9) C pfL_X10_9 hn dX10_init_9 o_v0 ?_
  refine r_heap (fun S3 eS3 => ?_)
  have h := h S3 eS3
  have o_a1 := ob_R eS3 o_a1
  have o_v0 := ob_R eS3 o_v0
  refine r_aload_n (pc := 12) C dX10_init_12 0 rfl ?_
  refine r_bipush (pc := 13) C (v := (6 : Int32)) dX10_init_13 (by decide) ?_
  refine r_newa13 (pc := 15) C (N := 6) g_72 dX10_init_15 (by decide) (by decide) (by decide) (by decide) (by decide) (fun a4 q117 => ?_)
  refine r_heap (fun S5 eS5 => ?_)
  have h := h a4 q117 S5 eS5
  have g118 := gr_of_new eS5 q117
  have o_a4 := ob_of_new eS5
  have o_a1 := gr_ob g118 o_a1
  have o_v0 := gr_ob g118 o_v0
  refine r_putFr (pc := 17) C pfL_X10_15 hn dX10_init_17 o_v0 ?_
  refine r_heap (fun S6 eS6 => ?_)
  have h := h S6 eS6
  have o_a1 := ob_R eS6 o_a1
  have o_a4 := ob_R eS6 o_a4
  have o_v0 := ob_R eS6 o_v0
  refine r_aload_n (pc := 20) C dX10_init_20 0 rfl ?_
  refine r_bipush (pc := 21) C (v := (6 : Int32)) dX10_init_21 (by decide) ?_
  refine r_newa13 (pc := 23) C (N := 6) g_72 dX10_init_23 (by decide) (by decide) (by decide) (by decide) (by decide) (fun a7 q115 => ?_)
  refine r_heap (fun S8 eS8 => ?_)
  have h := h a7 q115 S8 eS8
  have g116 := gr_of_new eS8 q115
  have o_a7 := ob_of_new eS8
  have o_a1 := gr_ob g116 o_a1
  have o_a4 := gr_ob g116 o_a4
  have o_v0 := gr_ob g116 o_v0
  refine r_putFr (pc := 25) C pfL_X10_18 hn dX10_init_25 o_v0 ?_
  refine r_heap (fun S9 eS9 => ?_)
  have h := h S9 eS9
  have o_a1 := ob_R eS9 o_a1
  have o_a4 := ob_R eS9 o_a4
  have o_a7 := ob_R eS9 o_a7
  have o_v0 := ob_R eS9 o_v0
  refine r_aload_n (pc := 28) C dX10_init_28 0 rfl ?_
  refine r_bipush (pc := 29) C (v := (6 : Int32)) dX10_init_29 (by decide) ?_
  refine r_newa13 (pc := 31) C (N := 6) g_72 dX10_init_31 (by decide) (by decide) (by decide) (by decide) (by decide) (fun a10 q113 => ?_)
  refine r_heap (fun S11 eS11 => ?_)
  have h := h a10 q113 S11 eS11
  have g114 := gr_of_new eS11 q113
  have o_a10 := ob_of_new eS11
  have o_a1 := gr_ob g114 o_a1
  have o_a4 := gr_ob g114 o_a4
  have o_a7 := gr_ob g114 o_a7
  have o_v0 := gr_ob g114 o_v0
  refine r_putFr (pc := 33) C pfL_X10_21 hn dX10_init_33 o_v0 ?_
  refine r_heap (fun S12 eS12 => ?_)
  have h := h S12 eS12
  have o_a1 := ob_R eS12 o_a1
  have o_a10 := ob_R eS12 o_a10
  have o_a4 := ob_R eS12 o_a4
  have o_a7 := ob_R eS12 o_a7
  have o_v0 := ob_R eS12 o_v0
  refine r_aload_n (pc := 36) C dX10_init_36 0 rfl ?_
  refine r_bipush (pc := 37) C (v := (6 : Int32)) dX10_init_37 (by decide) ?_
  refine r_newa13 (pc := 39) C (N := 6) g_72 dX10_init_39 (by decide) (by decide) (by decide) (by decide) (by decide) (fun a13 q111 => ?_)
  refine r_heap (fun S14 eS14 => ?_)
  have h := h a13 q111 S14 eS14
  have g112 := gr_of_new eS14 q111
  have o_a13 := ob_of_new eS14
  have o_a1 := gr_ob g112 o_a1
  have o_a10 := gr_ob g112 o_a10
  have o_a4 := gr_ob g112 o_a4
  have o_a7 := gr_ob g112 o_a7
  have o_v0 := gr_ob g112 o_v0
  refine r_putFr (pc := 41) C pfL_X10_24 hn dX10_init_41 o_v0 ?_
  refine r_heap (fun S15 eS15 => ?_)
  have h := h S15 eS15
  have o_a1 := ob_R eS15 o_a1
  have o_a10 := ob_R eS15 o_a10
  have o_a13 := ob_R eS15 o_a13
  have o_a4 := ob_R eS15 o_a4
  have o_a7 := ob_R eS15 o_a7
  have o_v0 := ob_R eS15 o_v0
  refine r_aload_n (pc := 44) C dX10_init_44 0 rfl ?_
  refine r_bipush (pc := 45) C (v := (8 : Int32)) dX10_init_45 (by decide) ?_
  refine r_newa13 (pc := 47) C (N := 8) g_72 dX10_init_47 (by decide) (by decide) (by decide) (by decide) (by decide) (fun a16 q109 => ?_)
  refine r_heap (fun S17 eS17 => ?_)
  have h := h a16 q109 S17 eS17
  have g110 := gr_of_new eS17 q109
  have o_a16 := ob_of_new eS17
  have o_a1 := gr_ob g110 o_a1
  have o_a10 := gr_ob g110 o_a10
  have o_a13 := gr_ob g110 o_a13
  have o_a4 := gr_ob g110 o_a4
  have o_a7 := gr_ob g110 o_a7
  have o_v0 := gr_ob g110 o_v0
  refine r_putFr (pc := 49) C pfL_X10_27 hn dX10_init_49 o_v0 ?_
  refine r_heap (fun S18 eS18 => ?_)
  have h := h S18 eS18
  have o_a1 := ob_R eS18 o_a1
  have o_a10 := ob_R eS18 o_a10
  have o_a13 := ob_R eS18 o_a13
  have o_a16 := ob_R eS18 o_a16
  have o_a4 := ob_R eS18 o_a4
  have o_a7 := ob_R eS18 o_a7
  have o_v0 := ob_R eS18 o_v0
  refine r_aload_n (pc := 52) C dX10_init_52 0 rfl ?_
  refine r_bipush (pc := 53) C (v := (12 : Int32)) dX10_init_53 (by decide) ?_
  refine r_newa13 (pc := 55) C (N := 12) g_72 dX10_init_55 (by decide) (by decide) (by decide) (by decide) (by decide) (fun a19 q107 => ?_)
  refine r_heap (fun S20 eS20 => ?_)
  have h := h a19 q107 S20 eS20
  have g108 := gr_of_new eS20 q107
  have o_a19 := ob_of_new eS20
  have o_a1 := gr_ob g108 o_a1
  have o_a10 := gr_ob g108 o_a10
  have o_a13 := gr_ob g108 o_a13
  have o_a16 := gr_ob g108 o_a16
  have o_a4 := gr_ob g108 o_a4
  have o_a7 := gr_ob g108 o_a7
  have o_v0 := gr_ob g108 o_v0
  refine r_putFr (pc := 57) C pfL_X10_30 hn dX10_init_57 o_v0 ?_
  refine r_heap (fun S21 eS21 => ?_)
  have h := h S21 eS21
  have o_a1 := ob_R eS21 o_a1
  have o_a10 := ob_R eS21 o_a10
  have o_a13 := ob_R eS21 o_a13
  have o_a16 := ob_R eS21 o_a16
  have o_a19 := ob_R eS21 o_a19
  have o_a4 := ob_R eS21 o_a4
  have o_a7 := ob_R eS21 o_a7
  have o_v0 := ob_R eS21 o_v0
  refine r_aload_n (pc := 60) C dX10_init_60 0 rfl ?_
  refine r_bipush (pc := 61) C (v := (12 : Int32)) dX10_init_61 (by decide) ?_
  refine r_newa13 (pc := 63) C (N := 12) g_72 dX10_init_63 (by decide) (by decide) (by decide) (by decide) (by decide) (fun a22 q105 => ?_)
  refine r_heap (fun S23 eS23 => ?_)
  have h := h a22 q105 S23 eS23
  have g106 := gr_of_new eS23 q105
  have o_a22 := ob_of_new eS23
  have o_a1 := gr_ob g106 o_a1
  have o_a10 := gr_ob g106 o_a10
  have o_a13 := gr_ob g106 o_a13
  have o_a16 := gr_ob g106 o_a16
  have o_a19 := gr_ob g106 o_a19
  have o_a4 := gr_ob g106 o_a4
  have o_a7 := gr_ob g106 o_a7
  have o_v0 := gr_ob g106 o_v0
  refine r_putFr (pc := 65) C pfL_X10_33 hn dX10_init_65 o_v0 ?_
  refine r_heap (fun S24 eS24 => ?_)
  have h := h S24 eS24
  have o_a1 := ob_R eS24 o_a1
  have o_a10 := ob_R eS24 o_a10
  have o_a13 := ob_R eS24 o_a13
  have o_a16 := ob_R eS24 o_a16
  have o_a19 := ob_R eS24 o_a19
  have o_a22 := ob_R eS24 o_a22
  have o_a4 := ob_R eS24 o_a4
  have o_a7 := ob_R eS24 o_a7
  have o_v0 := ob_R eS24 o_v0
  refine r_aload_n (pc := 68) C dX10_init_68 0 rfl ?_
  refine r_bipush (pc := 69) C (v := (12 : Int32)) dX10_init_69 (by decide) ?_
  refine r_newa13 (pc := 71) C (N := 12) g_72 dX10_init_71 (by decide) (by decide) (by decide) (by decide) (by decide) (fun a25 q103 => ?_)
  refine r_heap (fun S26 eS26 => ?_)
  have h := h a25 q103 S26 eS26
  have g104 := gr_of_new eS26 q103
  have o_a25 := ob_of_new eS26
  have o_a1 := gr_ob g104 o_a1
  have o_a10 := gr_ob g104 o_a10
  have o_a13 := gr_ob g104 o_a13
  have o_a16 := gr_ob g104 o_a16
  have o_a19 := gr_ob g104 o_a19
  have o_a22 := gr_ob g104 o_a22
  have o_a4 := gr_ob g104 o_a4
  have o_a7 := gr_ob g104 o_a7
  have o_v0 := gr_ob g104 o_v0
  refine r_putFr (pc := 73) C pfL_X10_36 hn dX10_init_73 o_v0 ?_
  refine r_heap (fun S27 eS27 => ?_)
  have h := h S27 eS27
  have o_a1 := ob_R eS27 o_a1
  have o_a10 := ob_R eS27 o_a10
  have o_a13 := ob_R eS27 o_a13
  have o_a16 := ob_R eS27 o_a16
  have o_a19 := ob_R eS27 o_a19
  have o_a22 := ob_R eS27 o_a22
  have o_a25 := ob_R eS27 o_a25
  have o_a4 := ob_R eS27 o_a4
  have o_a7 := ob_R eS27 o_a7
  have o_v0 := ob_R eS27 o_v0
  refine r_aload_n (pc := 76) C dX10_init_76 0 rfl ?_
  refine r_bipush (pc := 77) C (v := (12 : Int32)) dX10_init_77 (by decide) ?_
  refine r_newa13 (pc := 79) C (N := 12) g_72 dX10_init_79 (by decide) (by decide) (by decide) (by decide) (by decide) (fun a28 q101 => ?_)
  refine r_heap (fun S29 eS29 => ?_)
  have h := h a28 q101 S29 eS29
  have g102 := gr_of_new eS29 q101
  have o_a28 := ob_of_new eS29
  have o_a1 := gr_ob g102 o_a1
  have o_a10 := gr_ob g102 o_a10
  have o_a13 := gr_ob g102 o_a13
  have o_a16 := gr_ob g102 o_a16
  have o_a19 := gr_ob g102 o_a19
  have o_a22 := gr_ob g102 o_a22
  have o_a25 := gr_ob g102 o_a25
  have o_a4 := gr_ob g102 o_a4
  have o_a7 := gr_ob g102 o_a7
  have o_v0 := gr_ob g102 o_v0
  refine r_putFr (pc := 81) C pfL_X10_39 hn dX10_init_81 o_v0 ?_
  refine r_heap (fun S30 eS30 => ?_)
  have h := h S30 eS30
  have o_a1 := ob_R eS30 o_a1
  have o_a10 := ob_R eS30 o_a10
  have o_a13 := ob_R eS30 o_a13
  have o_a16 := ob_R eS30 o_a16
  have o_a19 := ob_R eS30 o_a19
  have o_a22 := ob_R eS30 o_a22
  have o_a25 := ob_R eS30 o_a25
  have o_a28 := ob_R eS30 o_a28
  have o_a4 := ob_R eS30 o_a4
  have o_a7 := ob_R eS30 o_a7
  have o_v0 := ob_R eS30 o_v0
  refine r_aload_n (pc := 84) C dX10_init_84 0 rfl ?_
  refine r_bipush (pc := 85) C (v := (12 : Int32)) dX10_init_85 (by decide) ?_
  refine r_newa13 (pc := 87) C (N := 12) g_72 dX10_init_87 (by decide) (by decide) (by decide) (by decide) (by decide) (fun a31 q99 => ?_)
  refine r_heap (fun S32 eS32 => ?_)
  have h := h a31 q99 S32 eS32
  have g100 := gr_of_new eS32 q99
  have o_a31 := ob_of_new eS32
  have o_a1 := gr_ob g100 o_a1
  have o_a10 := gr_ob g100 o_a10
  have o_a13 := gr_ob g100 o_a13
  have o_a16 := gr_ob g100 o_a16
  have o_a19 := gr_ob g100 o_a19
  have o_a22 := gr_ob g100 o_a22
  have o_a25 := gr_ob g100 o_a25
  have o_a28 := gr_ob g100 o_a28
  have o_a4 := gr_ob g100 o_a4
  have o_a7 := gr_ob g100 o_a7
  have o_v0 := gr_ob g100 o_v0
  refine r_putFr (pc := 89) C pfL_X10_42 hn dX10_init_89 o_v0 ?_
  refine r_heap (fun S33 eS33 => ?_)
  have h := h S33 eS33
  have o_a1 := ob_R eS33 o_a1
  have o_a10 := ob_R eS33 o_a10
  have o_a13 := ob_R eS33 o_a13
  have o_a16 := ob_R eS33 o_a16
  have o_a19 := ob_R eS33 o_a19
  have o_a22 := ob_R eS33 o_a22
  have o_a25 := ob_R eS33 o_a25
  have o_a28 := ob_R eS33 o_a28
  have o_a31 := ob_R eS33 o_a31
  have o_a4 := ob_R eS33 o_a4
  have o_a7 := ob_R eS33 o_a7
  have o_v0 := ob_R eS33 o_v0
  refine r_aload_n (pc := 92) C dX10_init_92 0 rfl ?_
  refine r_bipush (pc := 93) C (v := (8 : Int32)) dX10_init_93 (by decide) ?_
  refine r_newa15 (pc := 95) C (N := 8) g_1379 dX10_init_95 (by decide) (by decide) (by decide) (by decide) (by decide) (fun a34 q97 => ?_)
  refine r_heap (fun S35 eS35 => ?_)
  have h := h a34 q97 S35 eS35
  have g98 := gr_of_new eS35 q97
  have o_a34 := ob_of_new eS35
  have o_a1 := gr_ob g98 o_a1
  have o_a10 := gr_ob g98 o_a10
  have o_a13 := gr_ob g98 o_a13
  have o_a16 := gr_ob g98 o_a16
  have o_a19 := gr_ob g98 o_a19
  have o_a22 := gr_ob g98 o_a22
  have o_a25 := gr_ob g98 o_a25
  have o_a28 := gr_ob g98 o_a28
  have o_a31 := gr_ob g98 o_a31
  have o_a4 := gr_ob g98 o_a4
  have o_a7 := gr_ob g98 o_a7
  have o_v0 := gr_ob g98 o_v0
  refine r_putFr (pc := 97) C pfL_X10_45 hn dX10_init_97 o_v0 ?_
  refine r_heap (fun S36 eS36 => ?_)
  have h := h S36 eS36
  have o_a1 := ob_R eS36 o_a1
  have o_a10 := ob_R eS36 o_a10
  have o_a13 := ob_R eS36 o_a13
  have o_a16 := ob_R eS36 o_a16
  have o_a19 := ob_R eS36 o_a19
  have o_a22 := ob_R eS36 o_a22
  have o_a25 := ob_R eS36 o_a25
  have o_a28 := ob_R eS36 o_a28
  have o_a31 := ob_R eS36 o_a31
  have o_a34 := ob_R eS36 o_a34
  have o_a4 := ob_R eS36 o_a4
  have o_a7 := ob_R eS36 o_a7
  have o_v0 := ob_R eS36 o_v0
  refine r_aload_n (pc := 100) C dX10_init_100 0 rfl ?_
  refine r_iconst (pc := 101) C (v := (4 : Int32)) dX10_init_101 (by decide) ?_
  refine r_newa13 (pc := 102) C (N := 4) g_72 dX10_init_102 (by decide) (by decide) (by decide) (by decide) (by decide) (fun a37 q95 => ?_)
  refine r_heap (fun S38 eS38 => ?_)
  have h := h a37 q95 S38 eS38
  have g96 := gr_of_new eS38 q95
  have o_a37 := ob_of_new eS38
  have o_a1 := gr_ob g96 o_a1
  have o_a10 := gr_ob g96 o_a10
  have o_a13 := gr_ob g96 o_a13
  have o_a16 := gr_ob g96 o_a16
  have o_a19 := gr_ob g96 o_a19
  have o_a22 := gr_ob g96 o_a22
  have o_a25 := gr_ob g96 o_a25
  have o_a28 := gr_ob g96 o_a28
  have o_a31 := gr_ob g96 o_a31
  have o_a34 := gr_ob g96 o_a34
  have o_a4 := gr_ob g96 o_a4
  have o_a7 := gr_ob g96 o_a7
  have o_v0 := gr_ob g96 o_v0
  refine r_putFr (pc := 104) C pfL_X10_49 hn dX10_init_104 o_v0 ?_
  refine r_heap (fun S39 eS39 => ?_)
  have h := h S39 eS39
  have o_a1 := ob_R eS39 o_a1
  have o_a10 := ob_R eS39 o_a10
  have o_a13 := ob_R eS39 o_a13
  have o_a16 := ob_R eS39 o_a16
  have o_a19 := ob_R eS39 o_a19
  have o_a22 := ob_R eS39 o_a22
  have o_a25 := ob_R eS39 o_a25
  have o_a28 := ob_R eS39 o_a28
  have o_a31 := ob_R eS39 o_a31
  have o_a34 := ob_R eS39 o_a34
  have o_a37 := ob_R eS39 o_a37
  have o_a4 := ob_R eS39 o_a4
  have o_a7 := ob_R eS39 o_a7
  have o_v0 := ob_R eS39 o_v0
  refine r_aload_n (pc := 107) C dX10_init_107 0 rfl ?_
  refine r_iconst (pc := 108) C (v := (4 : Int32)) dX10_init_108 (by decide) ?_
  refine r_newa13 (pc := 109) C (N := 4) g_72 dX10_init_109 (by decide) (by decide) (by decide) (by decide) (by decide) (fun a40 q93 => ?_)
  refine r_heap (fun S41 eS41 => ?_)
  have h := h a40 q93 S41 eS41
  have g94 := gr_of_new eS41 q93
  have o_a40 := ob_of_new eS41
  have o_a1 := gr_ob g94 o_a1
  have o_a10 := gr_ob g94 o_a10
  have o_a13 := gr_ob g94 o_a13
  have o_a16 := gr_ob g94 o_a16
  have o_a19 := gr_ob g94 o_a19
  have o_a22 := gr_ob g94 o_a22
  have o_a25 := gr_ob g94 o_a25
  have o_a28 := gr_ob g94 o_a28
  have o_a31 := gr_ob g94 o_a31
  have o_a34 := gr_ob g94 o_a34
  have o_a37 := gr_ob g94 o_a37
  have o_a4 := gr_ob g94 o_a4
  have o_a7 := gr_ob g94 o_a7
  have o_v0 := gr_ob g94 o_v0
  refine r_putFr (pc := 111) C pfL_X10_52 hn dX10_init_111 o_v0 ?_
  refine r_heap (fun S42 eS42 => ?_)
  have h := h S42 eS42
  have o_a1 := ob_R eS42 o_a1
  have o_a10 := ob_R eS42 o_a10
  have o_a13 := ob_R eS42 o_a13
  have o_a16 := ob_R eS42 o_a16
  have o_a19 := ob_R eS42 o_a19
  have o_a22 := ob_R eS42 o_a22
  have o_a25 := ob_R eS42 o_a25
  have o_a28 := ob_R eS42 o_a28
  have o_a31 := ob_R eS42 o_a31
  have o_a34 := ob_R eS42 o_a34
  have o_a37 := ob_R eS42 o_a37
  have o_a4 := ob_R eS42 o_a4
  have o_a40 := ob_R eS42 o_a40
  have o_a7 := ob_R eS42 o_a7
  have o_v0 := ob_R eS42 o_v0
  refine r_aload_n (pc := 114) C dX10_init_114 0 rfl ?_
  refine r_iconst (pc := 115) C (v := (4 : Int32)) dX10_init_115 (by decide) ?_
  refine r_newa13 (pc := 116) C (N := 4) g_72 dX10_init_116 (by decide) (by decide) (by decide) (by decide) (by decide) (fun a43 q91 => ?_)
  refine r_heap (fun S44 eS44 => ?_)
  have h := h a43 q91 S44 eS44
  have g92 := gr_of_new eS44 q91
  have o_a43 := ob_of_new eS44
  have o_a1 := gr_ob g92 o_a1
  have o_a10 := gr_ob g92 o_a10
  have o_a13 := gr_ob g92 o_a13
  have o_a16 := gr_ob g92 o_a16
  have o_a19 := gr_ob g92 o_a19
  have o_a22 := gr_ob g92 o_a22
  have o_a25 := gr_ob g92 o_a25
  have o_a28 := gr_ob g92 o_a28
  have o_a31 := gr_ob g92 o_a31
  have o_a34 := gr_ob g92 o_a34
  have o_a37 := gr_ob g92 o_a37
  have o_a4 := gr_ob g92 o_a4
  have o_a40 := gr_ob g92 o_a40
  have o_a7 := gr_ob g92 o_a7
  have o_v0 := gr_ob g92 o_v0
  refine r_putFr (pc := 118) C pfL_X10_55 hn dX10_init_118 o_v0 ?_
  refine r_heap (fun S45 eS45 => ?_)
  have h := h S45 eS45
  have o_a1 := ob_R eS45 o_a1
  have o_a10 := ob_R eS45 o_a10
  have o_a13 := ob_R eS45 o_a13
  have o_a16 := ob_R eS45 o_a16
  have o_a19 := ob_R eS45 o_a19
  have o_a22 := ob_R eS45 o_a22
  have o_a25 := ob_R eS45 o_a25
  have o_a28 := ob_R eS45 o_a28
  have o_a31 := ob_R eS45 o_a31
  have o_a34 := ob_R eS45 o_a34
  have o_a37 := ob_R eS45 o_a37
  have o_a4 := ob_R eS45 o_a4
  have o_a40 := ob_R eS45 o_a40
  have o_a43 := ob_R eS45 o_a43
  have o_a7 := ob_R eS45 o_a7
  have o_v0 := ob_R eS45 o_v0
  refine r_aload_n (pc := 121) C dX10_init_121 0 rfl ?_
  refine r_iconst (pc := 122) C (v := (4 : Int32)) dX10_init_122 (by decide) ?_
  refine r_newa13 (pc := 123) C (N := 4) g_72 dX10_init_123 (by decide) (by decide) (by decide) (by decide) (by decide) (fun a46 q89 => ?_)
  refine r_heap (fun S47 eS47 => ?_)
  have h := h a46 q89 S47 eS47
  have g90 := gr_of_new eS47 q89
  have o_a46 := ob_of_new eS47
  have o_a1 := gr_ob g90 o_a1
  have o_a10 := gr_ob g90 o_a10
  have o_a13 := gr_ob g90 o_a13
  have o_a16 := gr_ob g90 o_a16
  have o_a19 := gr_ob g90 o_a19
  have o_a22 := gr_ob g90 o_a22
  have o_a25 := gr_ob g90 o_a25
  have o_a28 := gr_ob g90 o_a28
  have o_a31 := gr_ob g90 o_a31
  have o_a34 := gr_ob g90 o_a34
  have o_a37 := gr_ob g90 o_a37
  have o_a4 := gr_ob g90 o_a4
  have o_a40 := gr_ob g90 o_a40
  have o_a43 := gr_ob g90 o_a43
  have o_a7 := gr_ob g90 o_a7
  have o_v0 := gr_ob g90 o_v0
  refine r_putFr (pc := 125) C pfL_X10_58 hn dX10_init_125 o_v0 ?_
  refine r_heap (fun S48 eS48 => ?_)
  have h := h S48 eS48
  have o_a1 := ob_R eS48 o_a1
  have o_a10 := ob_R eS48 o_a10
  have o_a13 := ob_R eS48 o_a13
  have o_a16 := ob_R eS48 o_a16
  have o_a19 := ob_R eS48 o_a19
  have o_a22 := ob_R eS48 o_a22
  have o_a25 := ob_R eS48 o_a25
  have o_a28 := ob_R eS48 o_a28
  have o_a31 := ob_R eS48 o_a31
  have o_a34 := ob_R eS48 o_a34
  have o_a37 := ob_R eS48 o_a37
  have o_a4 := ob_R eS48 o_a4
  have o_a40 := ob_R eS48 o_a40
  have o_a43 := ob_R eS48 o_a43
  have o_a46 := ob_R eS48 o_a46
  have o_a7 := ob_R eS48 o_a7
  have o_v0 := ob_R eS48 o_v0
  refine r_aload_n (pc := 128) C dX10_init_128 0 rfl ?_
  refine r_iconst (pc := 129) C (v := (4 : Int32)) dX10_init_129 (by decide) ?_
  refine r_newa13 (pc := 130) C (N := 4) g_72 dX10_init_130 (by decide) (by decide) (by decide) (by decide) (by decide) (fun a49 q87 => ?_)
  refine r_heap (fun S50 eS50 => ?_)
  have h := h a49 q87 S50 eS50
  have g88 := gr_of_new eS50 q87
  have o_a49 := ob_of_new eS50
  have o_a1 := gr_ob g88 o_a1
  have o_a10 := gr_ob g88 o_a10
  have o_a13 := gr_ob g88 o_a13
  have o_a16 := gr_ob g88 o_a16
  have o_a19 := gr_ob g88 o_a19
  have o_a22 := gr_ob g88 o_a22
  have o_a25 := gr_ob g88 o_a25
  have o_a28 := gr_ob g88 o_a28
  have o_a31 := gr_ob g88 o_a31
  have o_a34 := gr_ob g88 o_a34
  have o_a37 := gr_ob g88 o_a37
  have o_a4 := gr_ob g88 o_a4
  have o_a40 := gr_ob g88 o_a40
  have o_a43 := gr_ob g88 o_a43
  have o_a46 := gr_ob g88 o_a46
  have o_a7 := gr_ob g88 o_a7
  have o_v0 := gr_ob g88 o_v0
  refine r_putFr (pc := 132) C pfL_X10_61 hn dX10_init_132 o_v0 ?_
  refine r_heap (fun S51 eS51 => ?_)
  have h := h S51 eS51
  have o_a1 := ob_R eS51 o_a1
  have o_a10 := ob_R eS51 o_a10
  have o_a13 := ob_R eS51 o_a13
  have o_a16 := ob_R eS51 o_a16
  have o_a19 := ob_R eS51 o_a19
  have o_a22 := ob_R eS51 o_a22
  have o_a25 := ob_R eS51 o_a25
  have o_a28 := ob_R eS51 o_a28
  have o_a31 := ob_R eS51 o_a31
  have o_a34 := ob_R eS51 o_a34
  have o_a37 := ob_R eS51 o_a37
  have o_a4 := ob_R eS51 o_a4
  have o_a40 := ob_R eS51 o_a40
  have o_a43 := ob_R eS51 o_a43
  have o_a46 := ob_R eS51 o_a46
  have o_a49 := ob_R eS51 o_a49
  have o_a7 := ob_R eS51 o_a7
  have o_v0 := ob_R eS51 o_v0
  refine r_aload_n (pc := 135) C dX10_init_135 0 rfl ?_
  refine r_iconst (pc := 136) C (v := (4 : Int32)) dX10_init_136 (by decide) ?_
  refine r_newa13 (pc := 137) C (N := 4) g_72 dX10_init_137 (by decide) (by decide) (by decide) (by decide) (by decide) (fun a52 q85 => ?_)
  refine r_heap (fun S53 eS53 => ?_)
  have h := h a52 q85 S53 eS53
  have g86 := gr_of_new eS53 q85
  have o_a52 := ob_of_new eS53
  have o_a1 := gr_ob g86 o_a1
  have o_a10 := gr_ob g86 o_a10
  have o_a13 := gr_ob g86 o_a13
  have o_a16 := gr_ob g86 o_a16
  have o_a19 := gr_ob g86 o_a19
  have o_a22 := gr_ob g86 o_a22
  have o_a25 := gr_ob g86 o_a25
  have o_a28 := gr_ob g86 o_a28
  have o_a31 := gr_ob g86 o_a31
  have o_a34 := gr_ob g86 o_a34
  have o_a37 := gr_ob g86 o_a37
  have o_a4 := gr_ob g86 o_a4
  have o_a40 := gr_ob g86 o_a40
  have o_a43 := gr_ob g86 o_a43
  have o_a46 := gr_ob g86 o_a46
  have o_a49 := gr_ob g86 o_a49
  have o_a7 := gr_ob g86 o_a7
  have o_v0 := gr_ob g86 o_v0
  refine r_putFr (pc := 139) C pfL_X10_64 hn dX10_init_139 o_v0 ?_
  refine r_heap (fun S54 eS54 => ?_)
  have h := h S54 eS54
  have o_a1 := ob_R eS54 o_a1
  have o_a10 := ob_R eS54 o_a10
  have o_a13 := ob_R eS54 o_a13
  have o_a16 := ob_R eS54 o_a16
  have o_a19 := ob_R eS54 o_a19
  have o_a22 := ob_R eS54 o_a22
  have o_a25 := ob_R eS54 o_a25
  have o_a28 := ob_R eS54 o_a28
  have o_a31 := ob_R eS54 o_a31
  have o_a34 := ob_R eS54 o_a34
  have o_a37 := ob_R eS54 o_a37
  have o_a4 := ob_R eS54 o_a4
  have o_a40 := ob_R eS54 o_a40
  have o_a43 := ob_R eS54 o_a43
  have o_a46 := ob_R eS54 o_a46
  have o_a49 := ob_R eS54 o_a49
  have o_a52 := ob_R eS54 o_a52
  have o_a7 := ob_R eS54 o_a7
  have o_v0 := ob_R eS54 o_v0
  refine r_aload_n (pc := 142) C dX10_init_142 0 rfl ?_
  refine r_iconst (pc := 143) C (v := (4 : Int32)) dX10_init_143 (by decide) ?_
  refine r_newa13 (pc := 144) C (N := 4) g_72 dX10_init_144 (by decide) (by decide) (by decide) (by decide) (by decide) (fun a55 q83 => ?_)
  refine r_heap (fun S56 eS56 => ?_)
  have h := h a55 q83 S56 eS56
  have g84 := gr_of_new eS56 q83
  have o_a55 := ob_of_new eS56
  have o_a1 := gr_ob g84 o_a1
  have o_a10 := gr_ob g84 o_a10
  have o_a13 := gr_ob g84 o_a13
  have o_a16 := gr_ob g84 o_a16
  have o_a19 := gr_ob g84 o_a19
  have o_a22 := gr_ob g84 o_a22
  have o_a25 := gr_ob g84 o_a25
  have o_a28 := gr_ob g84 o_a28
  have o_a31 := gr_ob g84 o_a31
  have o_a34 := gr_ob g84 o_a34
  have o_a37 := gr_ob g84 o_a37
  have o_a4 := gr_ob g84 o_a4
  have o_a40 := gr_ob g84 o_a40
  have o_a43 := gr_ob g84 o_a43
  have o_a46 := gr_ob g84 o_a46
  have o_a49 := gr_ob g84 o_a49
  have o_a52 := gr_ob g84 o_a52
  have o_a7 := gr_ob g84 o_a7
  have o_v0 := gr_ob g84 o_v0
  refine r_putFr (pc := 146) C pfL_X10_67 hn dX10_init_146 o_v0 ?_
  refine r_heap (fun S57 eS57 => ?_)
  have h := h S57 eS57
  have o_a1 := ob_R eS57 o_a1
  have o_a10 := ob_R eS57 o_a10
  have o_a13 := ob_R eS57 o_a13
  have o_a16 := ob_R eS57 o_a16
  have o_a19 := ob_R eS57 o_a19
  have o_a22 := ob_R eS57 o_a22
  have o_a25 := ob_R eS57 o_a25
  have o_a28 := ob_R eS57 o_a28
  have o_a31 := ob_R eS57 o_a31
  have o_a34 := ob_R eS57 o_a34
  have o_a37 := ob_R eS57 o_a37
  have o_a4 := ob_R eS57 o_a4
  have o_a40 := ob_R eS57 o_a40
  have o_a43 := ob_R eS57 o_a43
  have o_a46 := ob_R eS57 o_a46
  have o_a49 := ob_R eS57 o_a49
  have o_a52 := ob_R eS57 o_a52
  have o_a55 := ob_R eS57 o_a55
  have o_a7 := ob_R eS57 o_a7
  have o_v0 := ob_R eS57 o_v0
  refine r_aload_n (pc := 149) C dX10_init_149 0 rfl ?_
  refine r_iconst (pc := 150) C (v := (4 : Int32)) dX10_init_150 (by decide) ?_
  refine r_newa13 (pc := 151) C (N := 4) g_72 dX10_init_151 (by decide) (by decide) (by decide) (by decide) (by decide) (fun a58 q81 => ?_)
  refine r_heap (fun S59 eS59 => ?_)
  have h := h a58 q81 S59 eS59
  have g82 := gr_of_new eS59 q81
  have o_a58 := ob_of_new eS59
  have o_a1 := gr_ob g82 o_a1
  have o_a10 := gr_ob g82 o_a10
  have o_a13 := gr_ob g82 o_a13
  have o_a16 := gr_ob g82 o_a16
  have o_a19 := gr_ob g82 o_a19
  have o_a22 := gr_ob g82 o_a22
  have o_a25 := gr_ob g82 o_a25
  have o_a28 := gr_ob g82 o_a28
  have o_a31 := gr_ob g82 o_a31
  have o_a34 := gr_ob g82 o_a34
  have o_a37 := gr_ob g82 o_a37
  have o_a4 := gr_ob g82 o_a4
  have o_a40 := gr_ob g82 o_a40
  have o_a43 := gr_ob g82 o_a43
  have o_a46 := gr_ob g82 o_a46
  have o_a49 := gr_ob g82 o_a49
  have o_a52 := gr_ob g82 o_a52
  have o_a55 := gr_ob g82 o_a55
  have o_a7 := gr_ob g82 o_a7
  have o_v0 := gr_ob g82 o_v0
  refine r_putFr (pc := 153) C pfL_X10_70 hn dX10_init_153 o_v0 ?_
  refine r_heap (fun S60 eS60 => ?_)
  have h := h S60 eS60
  have o_a1 := ob_R eS60 o_a1
  have o_a10 := ob_R eS60 o_a10
  have o_a13 := ob_R eS60 o_a13
  have o_a16 := ob_R eS60 o_a16
  have o_a19 := ob_R eS60 o_a19
  have o_a22 := ob_R eS60 o_a22
  have o_a25 := ob_R eS60 o_a25
  have o_a28 := ob_R eS60 o_a28
  have o_a31 := ob_R eS60 o_a31
  have o_a34 := ob_R eS60 o_a34
  have o_a37 := ob_R eS60 o_a37
  have o_a4 := ob_R eS60 o_a4
  have o_a40 := ob_R eS60 o_a40
  have o_a43 := ob_R eS60 o_a43
  have o_a46 := ob_R eS60 o_a46
  have o_a49 := ob_R eS60 o_a49
  have o_a52 := ob_R eS60 o_a52
  have o_a55 := ob_R eS60 o_a55
  have o_a58 := ob_R eS60 o_a58
  have o_a7 := ob_R eS60 o_a7
  have o_v0 := ob_R eS60 o_v0
  refine r_aload_n (pc := 156) C dX10_init_156 0 rfl ?_
  refine r_bipush (pc := 157) C (v := (20 : Int32)) dX10_init_157 (by decide) ?_
  refine r_newa13 (pc := 159) C (N := 20) g_72 dX10_init_159 (by decide) (by decide) (by decide) (by decide) (by decide) (fun a61 q79 => ?_)
  refine r_heap (fun S62 eS62 => ?_)
  have h := h a61 q79 S62 eS62
  have g80 := gr_of_new eS62 q79
  have o_a61 := ob_of_new eS62
  have o_a1 := gr_ob g80 o_a1
  have o_a10 := gr_ob g80 o_a10
  have o_a13 := gr_ob g80 o_a13
  have o_a16 := gr_ob g80 o_a16
  have o_a19 := gr_ob g80 o_a19
  have o_a22 := gr_ob g80 o_a22
  have o_a25 := gr_ob g80 o_a25
  have o_a28 := gr_ob g80 o_a28
  have o_a31 := gr_ob g80 o_a31
  have o_a34 := gr_ob g80 o_a34
  have o_a37 := gr_ob g80 o_a37
  have o_a4 := gr_ob g80 o_a4
  have o_a40 := gr_ob g80 o_a40
  have o_a43 := gr_ob g80 o_a43
  have o_a46 := gr_ob g80 o_a46
  have o_a49 := gr_ob g80 o_a49
  have o_a52 := gr_ob g80 o_a52
  have o_a55 := gr_ob g80 o_a55
  have o_a58 := gr_ob g80 o_a58
  have o_a7 := gr_ob g80 o_a7
  have o_v0 := gr_ob g80 o_v0
  refine r_putFr (pc := 161) C pfL_X10_73 hn dX10_init_161 o_v0 ?_
  refine r_heap (fun S63 eS63 => ?_)
  have h := h S63 eS63
  have o_a1 := ob_R eS63 o_a1
  have o_a10 := ob_R eS63 o_a10
  have o_a13 := ob_R eS63 o_a13
  have o_a16 := ob_R eS63 o_a16
  have o_a19 := ob_R eS63 o_a19
  have o_a22 := ob_R eS63 o_a22
  have o_a25 := ob_R eS63 o_a25
  have o_a28 := ob_R eS63 o_a28
  have o_a31 := ob_R eS63 o_a31
  have o_a34 := ob_R eS63 o_a34
  have o_a37 := ob_R eS63 o_a37
  have o_a4 := ob_R eS63 o_a4
  have o_a40 := ob_R eS63 o_a40
  have o_a43 := ob_R eS63 o_a43
  have o_a46 := ob_R eS63 o_a46
  have o_a49 := ob_R eS63 o_a49
  have o_a52 := ob_R eS63 o_a52
  have o_a55 := ob_R eS63 o_a55
  have o_a58 := ob_R eS63 o_a58
  have o_a61 := ob_R eS63 o_a61
  have o_a7 := ob_R eS63 o_a7
  have o_v0 := ob_R eS63 o_v0
  refine r_aload_n (pc := 164) C dX10_init_164 0 rfl ?_
  refine r_bipush (pc := 165) C (v := (12 : Int32)) dX10_init_165 (by decide) ?_
  refine r_newa14 (pc := 167) C (N := 12) g_266 dX10_init_167 (by decide) (by decide) (by decide) (by decide) (by decide) (fun a64 q77 => ?_)
  refine r_heap (fun S65 eS65 => ?_)
  have h := h a64 q77 S65 eS65
  have g78 := gr_of_new eS65 q77
  have o_a64 := ob_of_new eS65
  have o_a1 := gr_ob g78 o_a1
  have o_a10 := gr_ob g78 o_a10
  have o_a13 := gr_ob g78 o_a13
  have o_a16 := gr_ob g78 o_a16
  have o_a19 := gr_ob g78 o_a19
  have o_a22 := gr_ob g78 o_a22
  have o_a25 := gr_ob g78 o_a25
  have o_a28 := gr_ob g78 o_a28
  have o_a31 := gr_ob g78 o_a31
  have o_a34 := gr_ob g78 o_a34
  have o_a37 := gr_ob g78 o_a37
  have o_a4 := gr_ob g78 o_a4
  have o_a40 := gr_ob g78 o_a40
  have o_a43 := gr_ob g78 o_a43
  have o_a46 := gr_ob g78 o_a46
  have o_a49 := gr_ob g78 o_a49
  have o_a52 := gr_ob g78 o_a52
  have o_a55 := gr_ob g78 o_a55
  have o_a58 := gr_ob g78 o_a58
  have o_a61 := gr_ob g78 o_a61
  have o_a7 := gr_ob g78 o_a7
  have o_v0 := gr_ob g78 o_v0
  refine r_putFr (pc := 169) C pfL_X10_76 hn dX10_init_169 o_v0 ?_
  refine r_heap (fun S66 eS66 => ?_)
  have h := h S66 eS66
  have o_a1 := ob_R eS66 o_a1
  have o_a10 := ob_R eS66 o_a10
  have o_a13 := ob_R eS66 o_a13
  have o_a16 := ob_R eS66 o_a16
  have o_a19 := ob_R eS66 o_a19
  have o_a22 := ob_R eS66 o_a22
  have o_a25 := ob_R eS66 o_a25
  have o_a28 := ob_R eS66 o_a28
  have o_a31 := ob_R eS66 o_a31
  have o_a34 := ob_R eS66 o_a34
  have o_a37 := ob_R eS66 o_a37
  have o_a4 := ob_R eS66 o_a4
  have o_a40 := ob_R eS66 o_a40
  have o_a43 := ob_R eS66 o_a43
  have o_a46 := ob_R eS66 o_a46
  have o_a49 := ob_R eS66 o_a49
  have o_a52 := ob_R eS66 o_a52
  have o_a55 := ob_R eS66 o_a55
  have o_a58 := ob_R eS66 o_a58
  have o_a61 := ob_R eS66 o_a61
  have o_a64 := ob_R eS66 o_a64
  have o_a7 := ob_R eS66 o_a7
  have o_v0 := ob_R eS66 o_v0
  refine r_aload_n (pc := 172) C dX10_init_172 0 rfl ?_
  refine r_bipush (pc := 173) C (v := (12 : Int32)) dX10_init_173 (by decide) ?_
  refine r_newa13 (pc := 175) C (N := 12) g_72 dX10_init_175 (by decide) (by decide) (by decide) (by decide) (by decide) (fun a67 q75 => ?_)
  refine r_heap (fun S68 eS68 => ?_)
  have h := h a67 q75 S68 eS68
  have g76 := gr_of_new eS68 q75
  have o_a67 := ob_of_new eS68
  have o_a1 := gr_ob g76 o_a1
  have o_a10 := gr_ob g76 o_a10
  have o_a13 := gr_ob g76 o_a13
  have o_a16 := gr_ob g76 o_a16
  have o_a19 := gr_ob g76 o_a19
  have o_a22 := gr_ob g76 o_a22
  have o_a25 := gr_ob g76 o_a25
  have o_a28 := gr_ob g76 o_a28
  have o_a31 := gr_ob g76 o_a31
  have o_a34 := gr_ob g76 o_a34
  have o_a37 := gr_ob g76 o_a37
  have o_a4 := gr_ob g76 o_a4
  have o_a40 := gr_ob g76 o_a40
  have o_a43 := gr_ob g76 o_a43
  have o_a46 := gr_ob g76 o_a46
  have o_a49 := gr_ob g76 o_a49
  have o_a52 := gr_ob g76 o_a52
  have o_a55 := gr_ob g76 o_a55
  have o_a58 := gr_ob g76 o_a58
  have o_a61 := gr_ob g76 o_a61
  have o_a64 := gr_ob g76 o_a64
  have o_a7 := gr_ob g76 o_a7
  have o_v0 := gr_ob g76 o_v0
  refine r_putFr (pc := 177) C pfL_X10_80 hn dX10_init_177 o_v0 ?_
  refine r_heap (fun S69 eS69 => ?_)
  have h := h S69 eS69
  have o_a1 := ob_R eS69 o_a1
  have o_a10 := ob_R eS69 o_a10
  have o_a13 := ob_R eS69 o_a13
  have o_a16 := ob_R eS69 o_a16
  have o_a19 := ob_R eS69 o_a19
  have o_a22 := ob_R eS69 o_a22
  have o_a25 := ob_R eS69 o_a25
  have o_a28 := ob_R eS69 o_a28
  have o_a31 := ob_R eS69 o_a31
  have o_a34 := ob_R eS69 o_a34
  have o_a37 := ob_R eS69 o_a37
  have o_a4 := ob_R eS69 o_a4
  have o_a40 := ob_R eS69 o_a40
  have o_a43 := ob_R eS69 o_a43
  have o_a46 := ob_R eS69 o_a46
  have o_a49 := ob_R eS69 o_a49
  have o_a52 := ob_R eS69 o_a52
  have o_a55 := ob_R eS69 o_a55
  have o_a58 := ob_R eS69 o_a58
  have o_a61 := ob_R eS69 o_a61
  have o_a64 := ob_R eS69 o_a64
  have o_a67 := ob_R eS69 o_a67
  have o_a7 := ob_R eS69 o_a7
  have o_v0 := ob_R eS69 o_v0
  refine r_aload_n (pc := 180) C dX10_init_180 0 rfl ?_
  refine r_bipush (pc := 181) C (v := (12 : Int32)) dX10_init_181 (by decide) ?_
  refine r_newa13 (pc := 183) C (N := 12) g_72 dX10_init_183 (by decide) (by decide) (by decide) (by decide) (by decide) (fun a70 q73 => ?_)
  refine r_heap (fun S71 eS71 => ?_)
  have h := h a70 q73 S71 eS71
  have g74 := gr_of_new eS71 q73
  have o_a70 := ob_of_new eS71
  have o_a1 := gr_ob g74 o_a1
  have o_a10 := gr_ob g74 o_a10
  have o_a13 := gr_ob g74 o_a13
  have o_a16 := gr_ob g74 o_a16
  have o_a19 := gr_ob g74 o_a19
  have o_a22 := gr_ob g74 o_a22
  have o_a25 := gr_ob g74 o_a25
  have o_a28 := gr_ob g74 o_a28
  have o_a31 := gr_ob g74 o_a31
  have o_a34 := gr_ob g74 o_a34
  have o_a37 := gr_ob g74 o_a37
  have o_a4 := gr_ob g74 o_a4
  have o_a40 := gr_ob g74 o_a40
  have o_a43 := gr_ob g74 o_a43
  have o_a46 := gr_ob g74 o_a46
  have o_a49 := gr_ob g74 o_a49
  have o_a52 := gr_ob g74 o_a52
  have o_a55 := gr_ob g74 o_a55
  have o_a58 := gr_ob g74 o_a58
  have o_a61 := gr_ob g74 o_a61
  have o_a64 := gr_ob g74 o_a64
  have o_a67 := gr_ob g74 o_a67
  have o_a7 := gr_ob g74 o_a7
  have o_v0 := gr_ob g74 o_v0
  refine r_putFr (pc := 185) C pfL_X10_83 hn dX10_init_185 o_v0 ?_
  refine r_heap (fun S72 eS72 => ?_)
  have h := h S72 eS72
  have o_a1 := ob_R eS72 o_a1
  have o_a10 := ob_R eS72 o_a10
  have o_a13 := ob_R eS72 o_a13
  have o_a16 := ob_R eS72 o_a16
  have o_a19 := ob_R eS72 o_a19
  have o_a22 := ob_R eS72 o_a22
  have o_a25 := ob_R eS72 o_a25
  have o_a28 := ob_R eS72 o_a28
  have o_a31 := ob_R eS72 o_a31
  have o_a34 := ob_R eS72 o_a34
  have o_a37 := ob_R eS72 o_a37
  have o_a4 := ob_R eS72 o_a4
  have o_a40 := ob_R eS72 o_a40
  have o_a43 := ob_R eS72 o_a43
  have o_a46 := ob_R eS72 o_a46
  have o_a49 := ob_R eS72 o_a49
  have o_a52 := ob_R eS72 o_a52
  have o_a55 := ob_R eS72 o_a55
  have o_a58 := ob_R eS72 o_a58
  have o_a61 := ob_R eS72 o_a61
  have o_a64 := ob_R eS72 o_a64
  have o_a67 := ob_R eS72 o_a67
  have o_a7 := ob_R eS72 o_a7
  have o_a70 := ob_R eS72 o_a70
  have o_v0 := ob_R eS72 o_v0
  exact r_vret (pc := 188) C E ht dX10_init_188 (by decide) (by decide) h
def P_X10_init (v0 : Nat) (Q : HS → Prop) (S : HS) : Prop := P_X10_init_0 Q v0 S
theorem c_X10_init {l : Launch} {Ee : EE} {S : HS} {v0 : Nat} {Q : HS → Prop} (h : P_X10_init v0 Q S) : MV l yX10_init cX10_init 1 none rm_X10_init Ee S [.ref v0] Q :=
  openV (by decide) (Nat.le_of_ble_eq_true rfl) (fun X C E ht hn hE hl => by subst hE; exact r_sub [0] rfl (T_X10_init_0 C E ht hn h))
end
