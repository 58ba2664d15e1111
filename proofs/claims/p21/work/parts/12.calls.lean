section Makings
variable {X : CX} {cc : ByteArray} {own : String} {nL k n pc : Nat} {lv lv' : List (Nat × Value)} {st : List Value} {S : HS} {rm : Room}
def dvk (t : Nat) : Value := if t = 0 then .int 0 else if t = 1 then .long 0 else .null
/-- a class that can be made from here -/
def NC (own : String) (i ci N : Nat) : Prop := ∃ (C : String) (T : u_T) (ty : Nat → FieldType), vwCl[ci]? = some (C, T, N) ∧ ci < 12 ∧ Cond.classLink own i C ∈ G ∧ Cond.instantiable C N ∈ G ∧ Cond.initialized C ∈ G ∧ (∀ z, z < N → parseFieldDescriptor (T z).2.2.1 = some (ty z)) ∧ ∀ z, z < N → ∃ t, (kt.getD ci [])[z]? = some t ∧ defaultValue (ty z) = dvk t
theorem nW_K (S : HS) (a z N : Nat) : hK (nW S a z N) a = z := va_up_self _ _ _
theorem nw_val (a ci t j : Nat) : vOf (nW S a ci 0) a t j = dvk t := by
  unfold vOf dvk
  by_cases h0 : t = 0
  · rw [if_pos h0, if_pos h0]
    show Value.int (va_up (fI S) a (fun _ => 0) a j) = _
    rw [va_up_self]
  · rw [if_neg h0, if_neg h0]
    by_cases h1 : t = 1
    · rw [if_pos h1, if_pos h1]
      show Value.long (va_up (fJ S) a (fun _ => 0) a j) = _
      rw [va_up_self]
    · rw [if_neg h1, if_neg h1]
      show va_rf (va_up (fR S) a (fun _ => none) a j) = _
      rw [va_up_self]; rfl
theorem nw_fs (a ci : Nat) : ∀ (ts : List Nat) (i : Nat), fsGo (nW S a ci 0) a i ts = ts.map dvk
  | [], i => rfl
  | t :: ts, i => by rw [fsGo, List.map_cons, nw_val, nw_fs a ci ts (i + 1)]
theorem pw_out {cy : Nat → ClassId} {A : Nat → Prop} {a : Nat} {e : va_E} (hD : va_D A (pw cy S ++ [(a, e)])) : a ∉ hL S := fun h => by
  obtain ⟨k0, hk0⟩ := pw_get (cy := cy) h
  have hl := (List.getElem?_eq_some_iff.mp hk0).1
  have h1 : (pw cy S ++ [(a, e)])[k0]? = some (a, cE cy S a) := by rw [List.getElem?_append_left hl]; exact hk0
  have h2 : (pw cy S ++ [(a, e)])[(pw cy S).length]? = some (a, e) := by rw [List.getElem?_append_right (Nat.le_refl _), Nat.sub_self]; rfl
  have := hD.1 _ _ _ _ h1 h2 rfl
  omega
theorem r_new (C : Cx X cc own nL rm) {i ci N : Nat} (hc : NC own i ci N) (hd : decode cc pc = .ok (.new i, 3)) (h1 : k + 1 ≤ rm.cells) (h2 : n + N ≤ rm.slots) (h : ∀ a, a ∉ hL S → WS X nL (k + 1) (n + N) (pc + 3) lv (.ref a :: st) (nW S a ci 0)) : WS X nL k n pc lv st S := fun H locs ls hP hD hS hG hv => by
  obtain ⟨Cn, T, ty, hq, h12, hw1, hw2, hw3, hty, hdv⟩ := hc
  have hR := C.2.2.2.2.2.2.2
  refine va_new (C := Cn) (T := T) (N := N) (ci := ci) (fs := (kt.getD ci []).map dvk) C.1 C.2.1 C.2.2.2.2.1 (CLs ci _ hq).1 ty hty C.2.2.2.1 (C.2.2.2.2.1 _ hw1) (C.2.2.2.2.1 _ hw2) (C.2.2.2.2.1 _ hw3) C.2.2.2.2.2.1.1 hP hD hS C.2.2.2.2.2.2.1 hq (fun j hj => ?_) (by rw [hR]; exact h1) (by rw [hR]; exact h2) hd (fun q H1 hP1 hD1 hS1 => ?_)
  · obtain ⟨t, ht, hv⟩ := hdv j hj
    have hg : ((kt.getD ci []).map dvk)[j]? = some (dvk t) := by rw [List.getElem?_map, ht]; rfl
    unfold vp_V
    rw [hv, List.getD_eq_getElem?_getD, hg]; rfl
  · have hq := pw_out hD1
    have he : pw (ey (xE X)) S ++ [(q, .inr (ci, (kt.getD ci []).map dvk))] = pw (ey (xE X)) (nW S q ci 0) := by
      refine pw_new hq ?_
      rw [cE_obj (nW_K S q ci 0) h12, nw_fs]
    rw [he] at hP1 hD1
    exact h q hq H1 locs ls hP1 hD1 hS1 (gr_nW hG ci 0 hq) hv
theorem r_newa12 (C : Cx X cc own nL rm) {x : Int32} {N : Nat} (hw : Cond.arrayClass .byte ∈ G) (hd : decode cc pc = .ok (.newarray .byte, 2)) (hx : ¬ x < 0) (hx2 : x.toNatClampNeg = N) (hb : N * 8 ≤ 536870912) (h1 : k + 1 ≤ rm.cells) (h2 : n + N ≤ rm.slots) (h : ∀ a, a ∉ hL S → WS X nL (k + 1) (n + N) (pc + 2) lv (.ref a :: st) (nW S a 12 N)) : WS X nL k n pc lv (.int x :: st) S := fun H locs ls hP hD hS hG hv => by
  have hR := C.2.2.2.2.2.2.2
  have hK0 := C.2.2.2.2.2.1.1
  refine va_newa (atype := .byte) (ty := .byte) (N' := N) (a0 := (N, .inl (fun _ => 0))) C.1 C.2.1 (C.2.2.2.2.1 _ hw) rfl hK0 hP hD hS C.2.2.2.2.2.2.1 (fun _ => rfl) hx hx2 (Nat.le_trans (Nat.mul_le_mul_left N (by decide)) hb) (by rw [hR]; exact h1) (by rw [hR]; exact h2) hd (fun q cA H1 hK1 hP1 hD1 hS1 => ?_)
  have e1 : (xs X).vm.findClass _ = some (ey (xE X) 12) := (hK0.2 0 _ rfl).2
  have e2 : (xs X).vm.findClass _ = some cA := (hK1.2 8 _ rfl).2
  cases e1.symm.trans e2
  have hq := pw_out hD1
  have he : pw (ey (xE X)) S ++ [(q, .inl (ey (xE X) 12, (N, .inl (fun _ => 0))))] = pw (ey (xE X)) (nW S q 12 N) := by
    refine pw_new hq ?_
    rw [cE_arr (nW_K S q 12 N) (by decide)]
    refine congrArg (fun z => Sum.inl (ey (xE X) 12, z)) ?_
    show (va_up (hN S) q N q, _) = _
    rw [va_up_self]
    refine congrArg (fun z => (N, z)) ?_
    show Sum.inl (va_up (fI S) q (fun _ => 0) q) = _
    rw [va_up_self]
  rw [he] at hP1 hD1
  exact h q hq H1 locs ls hP1 hD1 hS1 (gr_nW hG 12 N hq) hv
theorem r_newa13 (C : Cx X cc own nL rm) {x : Int32} {N : Nat} (hw : Cond.arrayClass .int ∈ G) (hd : decode cc pc = .ok (.newarray .int, 2)) (hx : ¬ x < 0) (hx2 : x.toNatClampNeg = N) (hb : N * 8 ≤ 536870912) (h1 : k + 1 ≤ rm.cells) (h2 : n + N ≤ rm.slots) (h : ∀ a, a ∉ hL S → WS X nL (k + 1) (n + N) (pc + 2) lv (.ref a :: st) (nW S a 13 N)) : WS X nL k n pc lv (.int x :: st) S := fun H locs ls hP hD hS hG hv => by
  have hR := C.2.2.2.2.2.2.2
  have hK0 := C.2.2.2.2.2.1.1
  refine va_newa (atype := .int) (ty := .int) (N' := N) (a0 := (N, .inl (fun _ => 0))) C.1 C.2.1 (C.2.2.2.2.1 _ hw) rfl hK0 hP hD hS C.2.2.2.2.2.2.1 (fun _ => rfl) hx hx2 (Nat.le_trans (Nat.mul_le_mul_left N (by decide)) hb) (by rw [hR]; exact h1) (by rw [hR]; exact h2) hd (fun q cA H1 hK1 hP1 hD1 hS1 => ?_)
  have e1 : (xs X).vm.findClass _ = some (ey (xE X) 13) := (hK0.2 1 _ rfl).2
  have e2 : (xs X).vm.findClass _ = some cA := (hK1.2 8 _ rfl).2
  cases e1.symm.trans e2
  have hq := pw_out hD1
  have he : pw (ey (xE X)) S ++ [(q, .inl (ey (xE X) 13, (N, .inl (fun _ => 0))))] = pw (ey (xE X)) (nW S q 13 N) := by
    refine pw_new hq ?_
    rw [cE_arr (nW_K S q 13 N) (by decide)]
    refine congrArg (fun z => Sum.inl (ey (xE X) 13, z)) ?_
    show (va_up (hN S) q N q, _) = _
    rw [va_up_self]
    refine congrArg (fun z => (N, z)) ?_
    show Sum.inl (va_up (fI S) q (fun _ => 0) q) = _
    rw [va_up_self]
  rw [he] at hP1 hD1
  exact h q hq H1 locs ls hP1 hD1 hS1 (gr_nW hG 13 N hq) hv
theorem r_newa14 (C : Cx X cc own nL rm) {x : Int32} {N : Nat} (hw : Cond.arrayClass .long ∈ G) (hd : decode cc pc = .ok (.newarray .long, 2)) (hx : ¬ x < 0) (hx2 : x.toNatClampNeg = N) (hb : N * 8 ≤ 536870912) (h1 : k + 1 ≤ rm.cells) (h2 : n + N ≤ rm.slots) (h : ∀ a, a ∉ hL S → WS X nL (k + 1) (n + N) (pc + 2) lv (.ref a :: st) (nW S a 14 N)) : WS X nL k n pc lv (.int x :: st) S := fun H locs ls hP hD hS hG hv => by
  have hR := C.2.2.2.2.2.2.2
  have hK0 := C.2.2.2.2.2.1.1
  refine va_newa (atype := .long) (ty := .long) (N' := N) (a0 := (N, .inr (.inl (fun _ => 0)))) C.1 C.2.1 (C.2.2.2.2.1 _ hw) rfl hK0 hP hD hS C.2.2.2.2.2.2.1 (fun _ => rfl) hx hx2 (Nat.le_trans (Nat.mul_le_mul_left N (by decide)) hb) (by rw [hR]; exact h1) (by rw [hR]; exact h2) hd (fun q cA H1 hK1 hP1 hD1 hS1 => ?_)
  have e1 : (xs X).vm.findClass _ = some (ey (xE X) 14) := (hK0.2 2 _ rfl).2
  have e2 : (xs X).vm.findClass _ = some cA := (hK1.2 8 _ rfl).2
  cases e1.symm.trans e2
  have hq := pw_out hD1
  have he : pw (ey (xE X)) S ++ [(q, .inl (ey (xE X) 14, (N, .inr (.inl (fun _ => 0)))))] = pw (ey (xE X)) (nW S q 14 N) := by
    refine pw_new hq ?_
    rw [cE_arr (nW_K S q 14 N) (by decide)]
    refine congrArg (fun z => Sum.inl (ey (xE X) 14, z)) ?_
    show (va_up (hN S) q N q, _) = _
    rw [va_up_self]
    refine congrArg (fun z => (N, z)) ?_
    show Sum.inr (Sum.inl (va_up (fJ S) q (fun _ => 0) q)) = _
    rw [va_up_self]
  rw [he] at hP1 hD1
  exact h q hq H1 locs ls hP1 hD1 hS1 (gr_nW hG 14 N hq) hv
theorem r_newa15 (C : Cx X cc own nL rm) {x : Int32} {N : Nat} (hw : Cond.arrayClass .boolean ∈ G) (hd : decode cc pc = .ok (.newarray .boolean, 2)) (hx : ¬ x < 0) (hx2 : x.toNatClampNeg = N) (hb : N * 8 ≤ 536870912) (h1 : k + 1 ≤ rm.cells) (h2 : n + N ≤ rm.slots) (h : ∀ a, a ∉ hL S → WS X nL (k + 1) (n + N) (pc + 2) lv (.ref a :: st) (nW S a 15 N)) : WS X nL k n pc lv (.int x :: st) S := fun H locs ls hP hD hS hG hv => by
  have hR := C.2.2.2.2.2.2.2
  have hK0 := C.2.2.2.2.2.1.1
  refine va_newa (atype := .boolean) (ty := .boolean) (N' := N) (a0 := (N, .inl (fun _ => 0))) C.1 C.2.1 (C.2.2.2.2.1 _ hw) rfl hK0 hP hD hS C.2.2.2.2.2.2.1 (fun _ => rfl) hx hx2 (Nat.le_trans (Nat.mul_le_mul_left N (by decide)) hb) (by rw [hR]; exact h1) (by rw [hR]; exact h2) hd (fun q cA H1 hK1 hP1 hD1 hS1 => ?_)
  have e1 : (xs X).vm.findClass _ = some (ey (xE X) 15) := (hK0.2 3 _ rfl).2
  have e2 : (xs X).vm.findClass _ = some cA := (hK1.2 8 _ rfl).2
  cases e1.symm.trans e2
  have hq := pw_out hD1
  have he : pw (ey (xE X)) S ++ [(q, .inl (ey (xE X) 15, (N, .inl (fun _ => 0))))] = pw (ey (xE X)) (nW S q 15 N) := by
    refine pw_new hq ?_
    rw [cE_arr (nW_K S q 15 N) (by decide)]
    refine congrArg (fun z => Sum.inl (ey (xE X) 15, z)) ?_
    show (va_up (hN S) q N q, _) = _
    rw [va_up_self]
    refine congrArg (fun z => (N, z)) ?_
    show Sum.inl (va_up (fI S) q (fun _ => 0) q) = _
    rw [va_up_self]
  rw [he] at hP1 hD1
  exact h q hq H1 locs ls hP1 hD1 hS1 (gr_nW hG 15 N hq) hv
theorem r_newa16 (C : Cx X cc own nL rm) {x : Int32} {N i : Nat} (hw : Cond.classLink own i RX2 ∈ G) (hd : decode cc pc = .ok (.anewarray i, 3)) (hx : ¬ x < 0) (hx2 : x.toNatClampNeg = N) (hb : N * 8 ≤ 536870912) (h1 : k + 1 ≤ rm.cells) (h2 : n + N ≤ rm.slots) (h : ∀ a, a ∉ hL S → WS X nL (k + 1) (n + N) (pc + 3) lv (.ref a :: st) (nW S a 16 N)) : WS X nL k n pc lv (.int x :: st) S := fun H locs ls hP hD hS hG hv => by
  have hR := C.2.2.2.2.2.2.2
  have hK0 := C.2.2.2.2.2.1.1
  refine va_newq (C := RX2) (N' := N) C.1 C.2.1 C.2.2.2.1 (C.2.2.2.2.1 _ hw) (C.2.2.2.2.2.1.2.2.2.1 _ (List.mem_of_getElem? (i := 0) rfl)) hK0 hP hD hS C.2.2.2.2.2.2.1 hx hx2 (Nat.le_trans (Nat.mul_le_mul_left N (by decide)) hb) (by rw [hR]; exact h1) (by rw [hR]; exact h2) hd (fun q cA H1 hK1 hP1 hD1 hS1 => ?_)
  have e1 : (xs X).vm.findClass _ = some (ey (xE X) 16) := (hK0.2 4 _ rfl).2.choose_spec.choose_spec.2.2.2
  have e2 : (xs X).vm.findClass _ = some cA := (hK1.2 8 _ rfl).2.choose_spec.choose_spec.2.2.2
  cases e1.symm.trans e2
  have hq := pw_out hD1
  have he : pw (ey (xE X)) S ++ [(q, .inl (ey (xE X) 16, (N, .inr (.inr (.inr (.inr (fun _ => none)))))))] = pw (ey (xE X)) (nW S q 16 N) := by
    refine pw_new hq ?_
    rw [cE_arr (nW_K S q 16 N) (by decide)]
    refine congrArg (fun z => Sum.inl (ey (xE X) 16, z)) ?_
    show (va_up (hN S) q N q, _) = _
    rw [va_up_self]
    refine congrArg (fun z => (N, z)) ?_
    show Sum.inr (Sum.inr (Sum.inr (Sum.inr (va_up (fR S) q (fun _ => none) q)))) = _
    rw [va_up_self]
  rw [he] at hP1 hD1
  exact h q hq H1 locs ls hP1 hD1 hS1 (gr_nW hG 16 N hq) hv
theorem r_newa17 (C : Cx X cc own nL rm) {x : Int32} {N i : Nat} (hw : Cond.classLink own i RX3 ∈ G) (hd : decode cc pc = .ok (.anewarray i, 3)) (hx : ¬ x < 0) (hx2 : x.toNatClampNeg = N) (hb : N * 8 ≤ 536870912) (h1 : k + 1 ≤ rm.cells) (h2 : n + N ≤ rm.slots) (h : ∀ a, a ∉ hL S → WS X nL (k + 1) (n + N) (pc + 3) lv (.ref a :: st) (nW S a 17 N)) : WS X nL k n pc lv (.int x :: st) S := fun H locs ls hP hD hS hG hv => by
  have hR := C.2.2.2.2.2.2.2
  have hK0 := C.2.2.2.2.2.1.1
  refine va_newq (C := RX3) (N' := N) C.1 C.2.1 C.2.2.2.1 (C.2.2.2.2.1 _ hw) (C.2.2.2.2.2.1.2.2.2.1 _ (List.mem_of_getElem? (i := 1) rfl)) hK0 hP hD hS C.2.2.2.2.2.2.1 hx hx2 (Nat.le_trans (Nat.mul_le_mul_left N (by decide)) hb) (by rw [hR]; exact h1) (by rw [hR]; exact h2) hd (fun q cA H1 hK1 hP1 hD1 hS1 => ?_)
  have e1 : (xs X).vm.findClass _ = some (ey (xE X) 17) := (hK0.2 5 _ rfl).2.choose_spec.choose_spec.2.2.2
  have e2 : (xs X).vm.findClass _ = some cA := (hK1.2 8 _ rfl).2.choose_spec.choose_spec.2.2.2
  cases e1.symm.trans e2
  have hq := pw_out hD1
  have he : pw (ey (xE X)) S ++ [(q, .inl (ey (xE X) 17, (N, .inr (.inr (.inr (.inr (fun _ => none)))))))] = pw (ey (xE X)) (nW S q 17 N) := by
    refine pw_new hq ?_
    rw [cE_arr (nW_K S q 17 N) (by decide)]
    refine congrArg (fun z => Sum.inl (ey (xE X) 17, z)) ?_
    show (va_up (hN S) q N q, _) = _
    rw [va_up_self]
    refine congrArg (fun z => (N, z)) ?_
    show Sum.inr (Sum.inr (Sum.inr (Sum.inr (va_up (fR S) q (fun _ => none) q)))) = _
    rw [va_up_self]
  rw [he] at hP1 hD1
  exact h q hq H1 locs ls hP1 hD1 hS1 (gr_nW hG 17 N hq) hv
theorem r_newa18 (C : Cx X cc own nL rm) {x : Int32} {N i : Nat} (hw : Cond.classLink own i RX5 ∈ G) (hd : decode cc pc = .ok (.anewarray i, 3)) (hx : ¬ x < 0) (hx2 : x.toNatClampNeg = N) (hb : N * 8 ≤ 536870912) (h1 : k + 1 ≤ rm.cells) (h2 : n + N ≤ rm.slots) (h : ∀ a, a ∉ hL S → WS X nL (k + 1) (n + N) (pc + 3) lv (.ref a :: st) (nW S a 18 N)) : WS X nL k n pc lv (.int x :: st) S := fun H locs ls hP hD hS hG hv => by
  have hR := C.2.2.2.2.2.2.2
  have hK0 := C.2.2.2.2.2.1.1
  refine va_newq (C := RX5) (N' := N) C.1 C.2.1 C.2.2.2.1 (C.2.2.2.2.1 _ hw) (C.2.2.2.2.2.1.2.2.2.1 _ (List.mem_of_getElem? (i := 2) rfl)) hK0 hP hD hS C.2.2.2.2.2.2.1 hx hx2 (Nat.le_trans (Nat.mul_le_mul_left N (by decide)) hb) (by rw [hR]; exact h1) (by rw [hR]; exact h2) hd (fun q cA H1 hK1 hP1 hD1 hS1 => ?_)
  have e1 : (xs X).vm.findClass _ = some (ey (xE X) 18) := (hK0.2 6 _ rfl).2.choose_spec.choose_spec.2.2.2
  have e2 : (xs X).vm.findClass _ = some cA := (hK1.2 8 _ rfl).2.choose_spec.choose_spec.2.2.2
  cases e1.symm.trans e2
  have hq := pw_out hD1
  have he : pw (ey (xE X)) S ++ [(q, .inl (ey (xE X) 18, (N, .inr (.inr (.inr (.inr (fun _ => none)))))))] = pw (ey (xE X)) (nW S q 18 N) := by
    refine pw_new hq ?_
    rw [cE_arr (nW_K S q 18 N) (by decide)]
    refine congrArg (fun z => Sum.inl (ey (xE X) 18, z)) ?_
    show (va_up (hN S) q N q, _) = _
    rw [va_up_self]
    refine congrArg (fun z => (N, z)) ?_
    show Sum.inr (Sum.inr (Sum.inr (Sum.inr (va_up (fR S) q (fun _ => none) q)))) = _
    rw [va_up_self]
  rw [he] at hP1 hD1
  exact h q hq H1 locs ls hP1 hD1 hS1 (gr_nW hG 18 N hq) hv
theorem r_newa19 (C : Cx X cc own nL rm) {x : Int32} {N i : Nat} (hw : Cond.classLink own i RX6 ∈ G) (hd : decode cc pc = .ok (.anewarray i, 3)) (hx : ¬ x < 0) (hx2 : x.toNatClampNeg = N) (hb : N * 8 ≤ 536870912) (h1 : k + 1 ≤ rm.cells) (h2 : n + N ≤ rm.slots) (h : ∀ a, a ∉ hL S → WS X nL (k + 1) (n + N) (pc + 3) lv (.ref a :: st) (nW S a 19 N)) : WS X nL k n pc lv (.int x :: st) S := fun H locs ls hP hD hS hG hv => by
  have hR := C.2.2.2.2.2.2.2
  have hK0 := C.2.2.2.2.2.1.1
  refine va_newq (C := RX6) (N' := N) C.1 C.2.1 C.2.2.2.1 (C.2.2.2.2.1 _ hw) (C.2.2.2.2.2.1.2.2.2.1 _ (List.mem_of_getElem? (i := 3) rfl)) hK0 hP hD hS C.2.2.2.2.2.2.1 hx hx2 (Nat.le_trans (Nat.mul_le_mul_left N (by decide)) hb) (by rw [hR]; exact h1) (by rw [hR]; exact h2) hd (fun q cA H1 hK1 hP1 hD1 hS1 => ?_)
  have e1 : (xs X).vm.findClass _ = some (ey (xE X) 19) := (hK0.2 7 _ rfl).2.choose_spec.choose_spec.2.2.2
  have e2 : (xs X).vm.findClass _ = some cA := (hK1.2 8 _ rfl).2.choose_spec.choose_spec.2.2.2
  cases e1.symm.trans e2
  have hq := pw_out hD1
  have he : pw (ey (xE X)) S ++ [(q, .inl (ey (xE X) 19, (N, .inr (.inr (.inr (.inr (fun _ => none)))))))] = pw (ey (xE X)) (nW S q 19 N) := by
    refine pw_new hq ?_
    rw [cE_arr (nW_K S q 19 N) (by decide)]
    refine congrArg (fun z => Sum.inl (ey (xE X) 19, z)) ?_
    show (va_up (hN S) q N q, _) = _
    rw [va_up_self]
    refine congrArg (fun z => (N, z)) ?_
    show Sum.inr (Sum.inr (Sum.inr (Sum.inr (va_up (fR S) q (fun _ => none) q)))) = _
    rw [va_up_self]
  rw [he] at hP1 hD1
  exact h q hq H1 locs ls hP1 hD1 hS1 (gr_nW hG 19 N hq) hv
end Makings
/-! CONTRACTS: a method over the whole pool -/
def mP (E : EE) (sz : Nat) (S : HS) (av : List Value) : Array Value → State → Prop := va_Pc av (fun U => U.heap.size = sz ∧ va_P (eD E) vwCl (pw (ey E) S) U.heap ∧ va_D (fun _ => True) (pw (ey E) S) ∧ EV E (va_A (pw (ey E) S) sz) U U.heap)
def mA (E : EE) (S : HS) (sz : Nat) : Nat → Prop := va_A (pw (ey E) S) sz
def mB (E : EE) (A : Nat → Prop) (S0 S' : HS) (t : State) : Prop := va_P (eD E) vwCl (pw (ey E) S') t.heap ∧ va_D A (pw (ey E) S') ∧ Gr S0 S'
def mW (y : MethodName) (cc : ByteArray) (nL : Nat) (ret : Option FieldType) : List Cond := Cond.code y cc nL ret :: G
def MI (l : Launch) (y : MethodName) (cc : ByteArray) (nL : Nat) (ret : Option FieldType) (rm : Room) (E : EE) (S : HS) (av : List Value) (Q : Int32 → HS → Prop) : Prop := ∀ sz, Met l y (mW y cc nL ret) rm (mP E sz S av) (va_Qi Q (mB E (mA E S sz) S) (mA E S sz)) rm.cells rm.slots (mA E S sz)
def MJ (l : Launch) (y : MethodName) (cc : ByteArray) (nL : Nat) (ret : Option FieldType) (rm : Room) (E : EE) (S : HS) (av : List Value) (Q : Int64 → HS → Prop) : Prop := ∀ sz, Met l y (mW y cc nL ret) rm (mP E sz S av) (va_Ql Q (mB E (mA E S sz) S) (mA E S sz)) rm.cells rm.slots (mA E S sz)
def MV (l : Launch) (y : MethodName) (cc : ByteArray) (nL : Nat) (ret : Option FieldType) (rm : Room) (E : EE) (S : HS) (av : List Value) (Q : HS → Prop) : Prop := ∀ sz, Met l y (mW y cc nL ret) rm (mP E sz S av) (va_Qv Q (mB E (mA E S sz) S) (mA E S sz)) rm.cells rm.slots (mA E S sz)
def MR (l : Launch) (y : MethodName) (cc : ByteArray) (nL : Nat) (ret : Option FieldType) (rm : Room) (E : EE) (S : HS) (av : List Value) (Q : Option Nat → HS → Prop) : Prop := ∀ sz, Met l y (mW y cc nL ret) rm (mP E sz S av) (va_Qq Q (mB E (mA E S sz) S) (mA E S sz)) rm.cells rm.slots (mA E S sz)
/-- a boolean -/
def bl (r : Int32) : Prop := r = 0 ∨ r = 1
theorem bl_narrow {r : Int32} (h : bl r) : narrow .boolean (.int r) = .int r := by rcases h with rfl | rfl <;> rfl
theorem mP_blind (E : EE) (sz : Nat) (S : HS) (av : List Value) : FrameBlind (mP E sz S av) := fun a U g mk q => by
  obtain ⟨q0, q1, qP, qD, qE⟩ := q
  refine ⟨q0, q1, qP, qD, ?_⟩
  exact EV.call (s := U) (U := U.calling g mk a) (H := U.heap) (locs := []) qE va_S.rf (fun _ h => h) (State.WarmedH.refl U) rfl
def ReI (X : CX) (rm : Room) (Q : Int32 → HS → Prop) : Prop := xQ X = MQ (xb X) (va_Qi Q (mB (xE X) (xA X) (x0 X)) (xA X)) (xa X) (xs X) rm.cells rm.slots (xA X) ∧ (xh X).locks = false
def ReJ (X : CX) (rm : Room) (Q : Int64 → HS → Prop) : Prop := xQ X = MQ (xb X) (va_Ql Q (mB (xE X) (xA X) (x0 X)) (xA X)) (xa X) (xs X) rm.cells rm.slots (xA X) ∧ (xh X).locks = false
def ReV (X : CX) (rm : Room) (Q : HS → Prop) : Prop := xQ X = MQ (xb X) (va_Qv Q (mB (xE X) (xA X) (x0 X)) (xA X)) (xa X) (xs X) rm.cells rm.slots (xA X) ∧ (xh X).locks = false
def ReR (X : CX) (rm : Room) (Q : Option Nat → HS → Prop) : Prop := xQ X = MQ (xb X) (va_Qq Q (mB (xE X) (xA X) (x0 X)) (xA X)) (xa X) (xs X) rm.cells rm.slots (xA X) ∧ (xh X).locks = false
section Returns
variable {X : CX} {cc : ByteArray} {own : String} {nL k n pc : Nat} {lv lv' : List (Nat × Value)} {st : List Value} {S : HS} {rm : Room}
theorem r_iret (C : Cx X cc own nL rm) {Q : Int32 → HS → Prop} (E : ReI X rm Q) (ht : (xh X).sig.returnType = some .int) {v : Int32} (hd : decode cc pc = .ok (.ireturn, 1)) (h1 : k ≤ rm.cells) (h2 : n ≤ rm.slots) (h : Q v S) : WS X nL k n pc lv [.int v] S := fun H locs ls hP hD hS hG hv => by
  rw [E.1]
  refine W.widen h1 h2 ?_
  exact W.iret C.1 C.2.1 ht (fun t htt _ => ⟨⟨v, S, rfl, h, by rw [htt]; exact hP, hD, hG⟩, hS.F htt⟩) hS.2.2 hd (hlocks := E.2)
theorem r_zret (C : Cx X cc own nL rm) {Q : Int32 → HS → Prop} (E : ReI X rm (fun r S' => bl r ∧ Q r S')) (ht : (xh X).sig.returnType = some .boolean) {v : Int32} (hd : decode cc pc = .ok (.ireturn, 1)) (h1 : k ≤ rm.cells) (h2 : n ≤ rm.slots) (hb : bl v) (h : Q v S) : WS X nL k n pc lv [.int v] S := fun H locs ls hP hD hS hG hv => by
  rw [E.1]
  refine W.widen h1 h2 ?_
  exact W.zret C.1 C.2.1 ht (bl_narrow hb) (fun t htt _ => ⟨⟨v, S, rfl, ⟨hb, h⟩, by rw [htt]; exact hP, hD, hG⟩, hS.F htt⟩) hS.2.2 hd (hlocks := E.2)
theorem r_lret (C : Cx X cc own nL rm) {Q : Int64 → HS → Prop} (E : ReJ X rm Q) (ht : (xh X).sig.returnType = some .long) {v : Int64} (hd : decode cc pc = .ok (.lreturn, 1)) (h1 : k ≤ rm.cells) (h2 : n ≤ rm.slots) (h : Q v S) : WS X nL k n pc lv [.long v] S := fun H locs ls hP hD hS hG hv => by
  rw [E.1]
  refine W.widen h1 h2 ?_
  exact W.lret C.1 C.2.1 ht (fun t htt _ => ⟨⟨v, S, rfl, h, by rw [htt]; exact hP, hD, hG⟩, hS.F htt⟩) hS.2.2 hd (hlocks := E.2)
theorem r_vret (C : Cx X cc own nL rm) {Q : HS → Prop} (E : ReV X rm Q) (ht : (xh X).sig.returnType = none) (hd : decode cc pc = .ok (.return_, 1)) (h1 : k ≤ rm.cells) (h2 : n ≤ rm.slots) (h : Q S) : WS X nL k n pc lv [] S := fun H locs ls hP hD hS hG hv => by
  rw [E.1]
  refine W.widen h1 h2 ?_
  exact W.vret C.1 C.2.1 ht (fun t htt _ => ⟨⟨S, rfl, h, by rw [htt]; exact hP, hD, hG⟩, hS.F htt⟩) hS.2.2 hd (hlocks := E.2)
theorem r_aret (C : Cx X cc own nL rm) {Q : Option Nat → HS → Prop} (E : ReR X rm Q) {rt : FieldType} (ht : (xh X).sig.returnType = some rt) (hrt : (∃ n, rt = .object n) ∨ ∃ t, rt = .array t) {v : Nat} (hd : decode cc pc = .ok (.areturn, 1)) (h1 : k ≤ rm.cells) (h2 : n ≤ rm.slots) (h : Q (some v) S) : WS X nL k n pc lv [.ref v] S := fun H locs ls hP hD hS hG hv => by
  rw [E.1]
  refine W.widen h1 h2 ?_
  exact W.aret C.1 C.2.1 ht hrt (Or.inr ⟨v, rfl⟩) (fun t htt _ => ⟨⟨some v, S, rfl, h, by rw [htt]; exact hP, hD, hG⟩, hS.F htt⟩) hS.2.2 hd (hlocks := E.2)
end Returns
/-- a method is opened: its body from its entry -/
theorem openI {l : Launch} {y : MethodName} {cc : ByteArray} {nL : Nat} {ret : Option FieldType} {rm : Room} {E : EE} {S : HS} {av : List Value} {Q : Int32 → HS → Prop} (hy : plainName y.cls = true) (hlen : (lg_sl av).length ≤ nL) (body : ∀ X : CX, Cx X cc y.cls nL rm → ReI X rm Q → (xh X).sig.returnType = ret → (xh X).name = y.name → xE X = E → xl X = l → WS X nL 0 0 0 (lv_args 0 av) [] S) : MI l y cc nL ret rm E S av Q := by
  intro sz
  refine Met.ofW (cc := cc) (maxL := nL) (ret := ret) hy rfl ?_
  intro p e s m args below meth c s₁ B hml hv
  obtain ⟨rfl, hsz, hP, hD, hE⟩ := hv
  subst hsz
  have hts := atoms_spec (ws := mW y cc nL ret) B.pre
  have hw := body (p, l, e, rm, s, m, _, below, meth, c, E, S, mA E S s.heap.size, MQ below (va_Qi Q (mB E (mA E S s.heap.size) S) (mA E S s.heap.size)) _ s rm.cells rm.slots (mA E S s.heap.size)) ⟨B.exec, B.bytes, hml, findClass_of_methodNamed B.named, fun w h => hts w (List.mem_cons_of_mem _ h), hE, fun q h => Or.inr h, rfl⟩ ⟨rfl, B.notSynchronized⟩ B.returns (name_of_methodNamed B.named B.method).1 rfl rfl
  have hl := lv_entry av (n := nL) hlen
  rw [lg_entry_eq]
  exact hw s.heap [] _ hP hD.self va_S.rf (gr_rf S) hl
/-- a method is opened: its body from its entry -/
theorem openJ {l : Launch} {y : MethodName} {cc : ByteArray} {nL : Nat} {ret : Option FieldType} {rm : Room} {E : EE} {S : HS} {av : List Value} {Q : Int64 → HS → Prop} (hy : plainName y.cls = true) (hlen : (lg_sl av).length ≤ nL) (body : ∀ X : CX, Cx X cc y.cls nL rm → ReJ X rm Q → (xh X).sig.returnType = ret → (xh X).name = y.name → xE X = E → xl X = l → WS X nL 0 0 0 (lv_args 0 av) [] S) : MJ l y cc nL ret rm E S av Q := by
  intro sz
  refine Met.ofW (cc := cc) (maxL := nL) (ret := ret) hy rfl ?_
  intro p e s m args below meth c s₁ B hml hv
  obtain ⟨rfl, hsz, hP, hD, hE⟩ := hv
  subst hsz
  have hts := atoms_spec (ws := mW y cc nL ret) B.pre
  have hw := body (p, l, e, rm, s, m, _, below, meth, c, E, S, mA E S s.heap.size, MQ below (va_Ql Q (mB E (mA E S s.heap.size) S) (mA E S s.heap.size)) _ s rm.cells rm.slots (mA E S s.heap.size)) ⟨B.exec, B.bytes, hml, findClass_of_methodNamed B.named, fun w h => hts w (List.mem_cons_of_mem _ h), hE, fun q h => Or.inr h, rfl⟩ ⟨rfl, B.notSynchronized⟩ B.returns (name_of_methodNamed B.named B.method).1 rfl rfl
  have hl := lv_entry av (n := nL) hlen
  rw [lg_entry_eq]
  exact hw s.heap [] _ hP hD.self va_S.rf (gr_rf S) hl
/-- a method is opened: its body from its entry -/
theorem openV {l : Launch} {y : MethodName} {cc : ByteArray} {nL : Nat} {ret : Option FieldType} {rm : Room} {E : EE} {S : HS} {av : List Value} {Q : HS → Prop} (hy : plainName y.cls = true) (hlen : (lg_sl av).length ≤ nL) (body : ∀ X : CX, Cx X cc y.cls nL rm → ReV X rm Q → (xh X).sig.returnType = ret → (xh X).name = y.name → xE X = E → xl X = l → WS X nL 0 0 0 (lv_args 0 av) [] S) : MV l y cc nL ret rm E S av Q := by
  intro sz
  refine Met.ofW (cc := cc) (maxL := nL) (ret := ret) hy rfl ?_
  intro p e s m args below meth c s₁ B hml hv
  obtain ⟨rfl, hsz, hP, hD, hE⟩ := hv
  subst hsz
  have hts := atoms_spec (ws := mW y cc nL ret) B.pre
  have hw := body (p, l, e, rm, s, m, _, below, meth, c, E, S, mA E S s.heap.size, MQ below (va_Qv Q (mB E (mA E S s.heap.size) S) (mA E S s.heap.size)) _ s rm.cells rm.slots (mA E S s.heap.size)) ⟨B.exec, B.bytes, hml, findClass_of_methodNamed B.named, fun w h => hts w (List.mem_cons_of_mem _ h), hE, fun q h => Or.inr h, rfl⟩ ⟨rfl, B.notSynchronized⟩ B.returns (name_of_methodNamed B.named B.method).1 rfl rfl
  have hl := lv_entry av (n := nL) hlen
  rw [lg_entry_eq]
  exact hw s.heap [] _ hP hD.self va_S.rf (gr_rf S) hl
/-- a method is opened: its body from its entry -/
theorem openR {l : Launch} {y : MethodName} {cc : ByteArray} {nL : Nat} {ret : Option FieldType} {rm : Room} {E : EE} {S : HS} {av : List Value} {Q : Option Nat → HS → Prop} (hy : plainName y.cls = true) (hlen : (lg_sl av).length ≤ nL) (body : ∀ X : CX, Cx X cc y.cls nL rm → ReR X rm Q → (xh X).sig.returnType = ret → (xh X).name = y.name → xE X = E → xl X = l → WS X nL 0 0 0 (lv_args 0 av) [] S) : MR l y cc nL ret rm E S av Q := by
  intro sz
  refine Met.ofW (cc := cc) (maxL := nL) (ret := ret) hy rfl ?_
  intro p e s m args below meth c s₁ B hml hv
  obtain ⟨rfl, hsz, hP, hD, hE⟩ := hv
  subst hsz
  have hts := atoms_spec (ws := mW y cc nL ret) B.pre
  have hw := body (p, l, e, rm, s, m, _, below, meth, c, E, S, mA E S s.heap.size, MQ below (va_Qq Q (mB E (mA E S s.heap.size) S) (mA E S s.heap.size)) _ s rm.cells rm.slots (mA E S s.heap.size)) ⟨B.exec, B.bytes, hml, findClass_of_methodNamed B.named, fun w h => hts w (List.mem_cons_of_mem _ h), hE, fun q h => Or.inr h, rfl⟩ ⟨rfl, B.notSynchronized⟩ B.returns (name_of_methodNamed B.named B.method).1 rfl rfl
  have hl := lv_entry av (n := nL) hlen
  rw [lg_entry_eq]
  exact hw s.heap [] _ hP hD.self va_S.rf (gr_rf S) hl
/-- what the words say of a callee: by its class (virtual), static, made -/
def YV (y : MethodName) (cc : ByteArray) (nL : Nat) (ret : Option FieldType) (ci nA : Nat) : Prop := (∃ q : vw_C, vwCl[ci]? = some q ∧ y.cls = q.1) ∧ ci < 12 ∧ Cond.instanceMethod y ∈ G ∧ Cond.selects y.cls y y ∈ G ∧ Cond.initialized y.cls ∈ G ∧ Cond.code y cc nL ret ∈ G ∧ y.cls ≠ "java/lang/invoke/MethodHandle" ∧ y.cls ≠ "java/lang/invoke/VarHandle" ∧ (parseMethodDescriptor y.desc).map (fun d => d.parameters.length) = some nA
def YS (y : MethodName) (cc : ByteArray) (nL : Nat) (ret : Option FieldType) (nA : Nat) : Prop := Cond.static y ∈ G ∧ Cond.initialized y.cls ∈ G ∧ Cond.code y cc nL ret ∈ G ∧ y.cls ≠ "java/lang/invoke/MethodHandle" ∧ y.cls ≠ "java/lang/invoke/VarHandle" ∧ (parseMethodDescriptor y.desc).map (fun d => d.parameters.length) = some nA
def YI (y : MethodName) (cc : ByteArray) (nL : Nat) (nA : Nat) : Prop := Cond.instanceMethod y ∈ G ∧ Cond.initialized y.cls ∈ G ∧ Cond.code y cc nL none ∈ G ∧ y.name = "<init>" ∧ y.cls ≠ "java/lang/invoke/MethodHandle" ∧ y.cls ≠ "java/lang/invoke/VarHandle" ∧ (parseMethodDescriptor y.desc).map (fun d => d.parameters.length) = some nA
theorem gdW {y : MethodName} {cc : ByteArray} {nL : Nat} {ret : Option FieldType} (h : Cond.code y cc nL ret ∈ G) : GoodIn G (mW y cc nL ret) := fun w hw => by
  rcases List.mem_cons.mp hw with rfl | hw
  · exact G_good _ h
  · exact G_good _ hw
theorem gdV {own : String} {i : Nat} {y : MethodName} {cc : ByteArray} {nL : Nat} {ret : Option FieldType} (h1 : Cond.methodLink own i y ∈ G) (h2 : Cond.instanceMethod y ∈ G) (h3 : Cond.selects y.cls y y ∈ G) (h4 : Cond.initialized y.cls ∈ G) (h5 : Cond.code y cc nL ret ∈ G) : GoodIn G (wsV own i y.cls y (mW y cc nL ret)) := fun w hw => by
  rcases List.mem_append.mp hw with hw | hw
  · simp only [List.mem_cons, List.not_mem_nil, or_false] at hw
    rcases hw with rfl | rfl | rfl | rfl
    · exact G_good _ h1
    · exact G_good _ h2
    · exact G_good _ h3
    · exact G_good _ h4
  · exact gdW h5 w hw
theorem gdS {own : String} {i : Nat} {y : MethodName} {cc : ByteArray} {nL : Nat} {ret : Option FieldType} (h1 : Cond.methodLink own i y ∈ G) (h2 : Cond.static y ∈ G) (h4 : Cond.initialized own ∈ G) (h5 : Cond.code y cc nL ret ∈ G) : GoodIn G (wsS own i y (mW y cc nL ret)) := fun w hw => by
  rcases List.mem_append.mp hw with hw | hw
  · simp only [List.mem_cons, List.not_mem_nil, or_false] at hw
    rcases hw with rfl | rfl | rfl
    · exact G_good _ h1
    · exact G_good _ h2
    · exact G_good _ h4
  · exact gdW h5 w hw
section Calls
variable {X : CX} {cc : ByteArray} {own : String} {nL k n pc : Nat} {lv lv' : List (Nat × Value)} {st rest : List Value} {S : HS} {rm : Room}
/-- the callee's pool is the caller's -/
theorem pl_free {H : Heap} {locs : List Loc} (C : Cx X cc own nL rm) (hD : va_D (xA X) (pw (ey (xE X)) S)) (hS : va_S (xA X) (xs X).heap H locs) : ∀ q, mA (xE X) S H.size q → xA X q := fun q h => by
  rcases h with ⟨z, e, h⟩ | h
  · exact hD.2 z _ h
  · exact C.2.2.2.2.2.2.1 q (Nat.le_trans hS.1 h)
theorem pl_pre {H : Heap} {locs : List Loc} (C : Cx X cc own nL rm) (av : List Value) (hP : va_P (eD (xE X)) vwCl (pw (ey (xE X)) S) H) (hD : va_D (xA X) (pw (ey (xE X)) S)) (hS : va_S (xA X) (xs X).heap H locs) : ∀ U : State, U.heap = H → (xs X).WarmedH U.vm → mP (xE X) H.size S av av.toArray U := fun U hU hW => by
  refine ⟨rfl, by rw [hU], by rw [hU]; exact hP, hD.weaken (fun _ _ _ _ => trivial), ?_⟩
  exact C.2.2.2.2.2.1.call hS (pl_free C hD hS) hW hU
theorem r_callVi (C : Cx X cc own nL rm) {y : MethodName} {bytes : ByteArray} {nL2 nA i : Nat} {ci : Nat} {a : Nat} {ret : Option FieldType} {rm2 : Room} {Q : Int32 → HS → Prop} (ho : ob S a ci) (As : List Value) (hY : YV y bytes nL2 ret ci nA) (hw : Cond.methodLink own i y ∈ G) (hM : MI (xl X) y bytes nL2 ret rm2 (xE X) S (.ref a :: As) Q) (hd : decode cc pc = .ok (.invokevirtual i, 3)) (hst : st = As.reverse ++ .ref a :: rest) (hn : As.length = nA) (hsum : (rest.map fun v => v.category).sum ≤ 8) (hrm : rm2.frames + 1 ≤ rm.frames ∧ 8 + (nL2 + 11) + rm2.locals ≤ rm.locals) (hcs : k + rm2.cells ≤ rm.cells ∧ n + rm2.slots ≤ rm.slots) (h : ∀ (r : Int32) (T : HS), Q r T → Gr S T → WS X nL (k + rm2.cells) (n + rm2.slots) (pc + 3) lv (.int r :: rest) T) : WS X nL k n pc lv st S := fun H locs ls hP hD hS hG hv => by
  have hR := C.2.2.2.2.2.2.2
  obtain ⟨⟨q, hq, hyq⟩, h12, w2, w3, w4, w5, w6, w7, w8⟩ := hY
  obtain ⟨k0, hk0⟩ := pw_get (cy := ey (xE X)) ho.1
  rw [cE_obj ho.2 h12] at hk0
  have hrec : ∃ cell : Cell, H[a]? = some cell ∧ cell.vm.isStatics = false ∧ (xs X).vm.findClass y.cls = some cell.cls := by
    rw [hyq]; exact va_recv C.2.2.2.2.2.1.1 hP hq hk0
  refine va_calli (va_runV (As := As) (rest := rest) ⟨C.1, C.2.1, C.2.2.1, C.2.2.2.1, C.2.2.2.2.1⟩ (hM H.size) (cwV nA C.2.2.2.2.1 (gdV hw w2 w3 w4 w5) rfl rfl rfl ⟨rfl, w6, w7, w8⟩ (by rw [hR]; exact hrm)) ⟨mP_blind _ _ _ _, hrec, pl_pre C (.ref a :: As) hP hD hS⟩ rfl hn hv.1 hst (lv_room hsum) hd (by rw [hR]; exact hcs)) hS (fun q _ h => pl_free C hD hS q h) (pl_free C hD hS) (fun r u t H1 locs1 ht hvm hp hB hz hk hS1 => ?_)
  have hP1 := hB.1
  rw [ht] at hP1
  exact h r u hp hB.2.2 H1 locs1 ls hP1 (hB.2.1.weaken (fun _ q _ z => pl_free C hD hS q.1 z)) hS1 (gr_tr hG hB.2.2) hv
theorem r_callVl (C : Cx X cc own nL rm) {y : MethodName} {bytes : ByteArray} {nL2 nA i : Nat} {ci : Nat} {a : Nat} {ret : Option FieldType} {rm2 : Room} {Q : Int64 → HS → Prop} (ho : ob S a ci) (As : List Value) (hY : YV y bytes nL2 ret ci nA) (hw : Cond.methodLink own i y ∈ G) (hM : MJ (xl X) y bytes nL2 ret rm2 (xE X) S (.ref a :: As) Q) (hd : decode cc pc = .ok (.invokevirtual i, 3)) (hst : st = As.reverse ++ .ref a :: rest) (hn : As.length = nA) (hsum : (rest.map fun v => v.category).sum ≤ 8) (hrm : rm2.frames + 1 ≤ rm.frames ∧ 8 + (nL2 + 11) + rm2.locals ≤ rm.locals) (hcs : k + rm2.cells ≤ rm.cells ∧ n + rm2.slots ≤ rm.slots) (h : ∀ (r : Int64) (T : HS), Q r T → Gr S T → WS X nL (k + rm2.cells) (n + rm2.slots) (pc + 3) lv (.long r :: rest) T) : WS X nL k n pc lv st S := fun H locs ls hP hD hS hG hv => by
  have hR := C.2.2.2.2.2.2.2
  obtain ⟨⟨q, hq, hyq⟩, h12, w2, w3, w4, w5, w6, w7, w8⟩ := hY
  obtain ⟨k0, hk0⟩ := pw_get (cy := ey (xE X)) ho.1
  rw [cE_obj ho.2 h12] at hk0
  have hrec : ∃ cell : Cell, H[a]? = some cell ∧ cell.vm.isStatics = false ∧ (xs X).vm.findClass y.cls = some cell.cls := by
    rw [hyq]; exact va_recv C.2.2.2.2.2.1.1 hP hq hk0
  refine va_calll (va_runV (As := As) (rest := rest) ⟨C.1, C.2.1, C.2.2.1, C.2.2.2.1, C.2.2.2.2.1⟩ (hM H.size) (cwV nA C.2.2.2.2.1 (gdV hw w2 w3 w4 w5) rfl rfl rfl ⟨rfl, w6, w7, w8⟩ (by rw [hR]; exact hrm)) ⟨mP_blind _ _ _ _, hrec, pl_pre C (.ref a :: As) hP hD hS⟩ rfl hn hv.1 hst (lv_room hsum) hd (by rw [hR]; exact hcs)) hS (fun q _ h => pl_free C hD hS q h) (pl_free C hD hS) (fun r u t H1 locs1 ht hvm hp hB hz hk hS1 => ?_)
  have hP1 := hB.1
  rw [ht] at hP1
  exact h r u hp hB.2.2 H1 locs1 ls hP1 (hB.2.1.weaken (fun _ q _ z => pl_free C hD hS q.1 z)) hS1 (gr_tr hG hB.2.2) hv
theorem r_callVv (C : Cx X cc own nL rm) {y : MethodName} {bytes : ByteArray} {nL2 nA i : Nat} {ci : Nat} {a : Nat} {ret : Option FieldType} {rm2 : Room} {Q : HS → Prop} (ho : ob S a ci) (As : List Value) (hY : YV y bytes nL2 ret ci nA) (hw : Cond.methodLink own i y ∈ G) (hM : MV (xl X) y bytes nL2 ret rm2 (xE X) S (.ref a :: As) Q) (hd : decode cc pc = .ok (.invokevirtual i, 3)) (hst : st = As.reverse ++ .ref a :: rest) (hn : As.length = nA) (hsum : (rest.map fun v => v.category).sum ≤ 8) (hrm : rm2.frames + 1 ≤ rm.frames ∧ 8 + (nL2 + 11) + rm2.locals ≤ rm.locals) (hcs : k + rm2.cells ≤ rm.cells ∧ n + rm2.slots ≤ rm.slots) (h : ∀ T : HS, Q T → Gr S T → WS X nL (k + rm2.cells) (n + rm2.slots) (pc + 3) lv rest T) : WS X nL k n pc lv st S := fun H locs ls hP hD hS hG hv => by
  have hR := C.2.2.2.2.2.2.2
  obtain ⟨⟨q, hq, hyq⟩, h12, w2, w3, w4, w5, w6, w7, w8⟩ := hY
  obtain ⟨k0, hk0⟩ := pw_get (cy := ey (xE X)) ho.1
  rw [cE_obj ho.2 h12] at hk0
  have hrec : ∃ cell : Cell, H[a]? = some cell ∧ cell.vm.isStatics = false ∧ (xs X).vm.findClass y.cls = some cell.cls := by
    rw [hyq]; exact va_recv C.2.2.2.2.2.1.1 hP hq hk0
  refine va_callv (va_runV (As := As) (rest := rest) ⟨C.1, C.2.1, C.2.2.1, C.2.2.2.1, C.2.2.2.2.1⟩ (hM H.size) (cwV nA C.2.2.2.2.1 (gdV hw w2 w3 w4 w5) rfl rfl rfl ⟨rfl, w6, w7, w8⟩ (by rw [hR]; exact hrm)) ⟨mP_blind _ _ _ _, hrec, pl_pre C (.ref a :: As) hP hD hS⟩ rfl hn hv.1 hst (lv_room hsum) hd (by rw [hR]; exact hcs)) hS (fun q _ h => pl_free C hD hS q h) (pl_free C hD hS) (fun u t H1 locs1 ht hvm hp hB hz hk hS1 => ?_)
  have hP1 := hB.1
  rw [ht] at hP1
  exact h u hp hB.2.2 H1 locs1 ls hP1 (hB.2.1.weaken (fun _ q _ z => pl_free C hD hS q.1 z)) hS1 (gr_tr hG hB.2.2) hv
theorem r_callVr (C : Cx X cc own nL rm) {y : MethodName} {bytes : ByteArray} {nL2 nA i : Nat} {ci : Nat} {a : Nat} {ret : Option FieldType} {rm2 : Room} {Q : Option Nat → HS → Prop} (ho : ob S a ci) (As : List Value) (hY : YV y bytes nL2 ret ci nA) (hw : Cond.methodLink own i y ∈ G) (hM : MR (xl X) y bytes nL2 ret rm2 (xE X) S (.ref a :: As) Q) (hd : decode cc pc = .ok (.invokevirtual i, 3)) (hst : st = As.reverse ++ .ref a :: rest) (hn : As.length = nA) (hsum : (rest.map fun v => v.category).sum ≤ 8) (hrm : rm2.frames + 1 ≤ rm.frames ∧ 8 + (nL2 + 11) + rm2.locals ≤ rm.locals) (hcs : k + rm2.cells ≤ rm.cells ∧ n + rm2.slots ≤ rm.slots) (h : ∀ (r : Option Nat) (T : HS), Q r T → Gr S T → WS X nL (k + rm2.cells) (n + rm2.slots) (pc + 3) lv (va_rf r :: rest) T) : WS X nL k n pc lv st S := fun H locs ls hP hD hS hG hv => by
  have hR := C.2.2.2.2.2.2.2
  obtain ⟨⟨q, hq, hyq⟩, h12, w2, w3, w4, w5, w6, w7, w8⟩ := hY
  obtain ⟨k0, hk0⟩ := pw_get (cy := ey (xE X)) ho.1
  rw [cE_obj ho.2 h12] at hk0
  have hrec : ∃ cell : Cell, H[a]? = some cell ∧ cell.vm.isStatics = false ∧ (xs X).vm.findClass y.cls = some cell.cls := by
    rw [hyq]; exact va_recv C.2.2.2.2.2.1.1 hP hq hk0
  refine va_callq (va_runV (As := As) (rest := rest) ⟨C.1, C.2.1, C.2.2.1, C.2.2.2.1, C.2.2.2.2.1⟩ (hM H.size) (cwV nA C.2.2.2.2.1 (gdV hw w2 w3 w4 w5) rfl rfl rfl ⟨rfl, w6, w7, w8⟩ (by rw [hR]; exact hrm)) ⟨mP_blind _ _ _ _, hrec, pl_pre C (.ref a :: As) hP hD hS⟩ rfl hn hv.1 hst (lv_room hsum) hd (by rw [hR]; exact hcs)) hS (fun q _ h => pl_free C hD hS q h) (pl_free C hD hS) (fun r u t H1 locs1 ht hvm hp hB hz hk hS1 => ?_)
  have hP1 := hB.1
  rw [ht] at hP1
  exact h r u hp hB.2.2 H1 locs1 ls hP1 (hB.2.1.weaken (fun _ q _ z => pl_free C hD hS q.1 z)) hS1 (gr_tr hG hB.2.2) hv
theorem r_callSi (C : Cx X cc own nL rm) {y : MethodName} {bytes : ByteArray} {nL2 nA i : Nat}  {ret : Option FieldType} {rm2 : Room} {Q : Int32 → HS → Prop} (hyo : y.cls = own) (As : List Value) (hY : YS y bytes nL2 ret nA) (hw : Cond.methodLink own i y ∈ G) (hM : MI (xl X) y bytes nL2 ret rm2 (xE X) S As Q) (hd : decode cc pc = .ok (.invokestatic i, 3)) (hst : st = As.reverse ++ rest) (hn : As.length = nA) (hsum : (rest.map fun v => v.category).sum ≤ 8) (hrm : rm2.frames + 1 ≤ rm.frames ∧ 8 + (nL2 + 11) + rm2.locals ≤ rm.locals) (hcs : k + rm2.cells ≤ rm.cells ∧ n + rm2.slots ≤ rm.slots) (h : ∀ (r : Int32) (T : HS), Q r T → Gr S T → WS X nL (k + rm2.cells) (n + rm2.slots) (pc + 3) lv (.int r :: rest) T) : WS X nL k n pc lv st S := fun H locs ls hP hD hS hG hv => by
  have hR := C.2.2.2.2.2.2.2
  obtain ⟨w2, w4, w5, w6, w7, w8⟩ := hY
  refine va_calli (va_runS (As := As) (rest := rest) ⟨C.1, C.2.1, C.2.2.1, C.2.2.2.1, C.2.2.2.2.1⟩ (hM H.size) (cwS nA C.2.2.2.2.1 (gdS hw w2 (hyo ▸ w4) w5) rfl rfl rfl ⟨hyo, w6, w7, w8⟩ (by rw [hR]; exact hrm)) ⟨mP_blind _ _ _ _, pl_pre C As hP hD hS⟩ rfl hn hv.1 hst (lv_room hsum) hd (by rw [hR]; exact hcs)) hS (fun q _ h => pl_free C hD hS q h) (pl_free C hD hS) (fun r u t H1 locs1 ht hvm hp hB hz hk hS1 => ?_)
  have hP1 := hB.1
  rw [ht] at hP1
  exact h r u hp hB.2.2 H1 locs1 ls hP1 (hB.2.1.weaken (fun _ q _ z => pl_free C hD hS q.1 z)) hS1 (gr_tr hG hB.2.2) hv
theorem r_callSl (C : Cx X cc own nL rm) {y : MethodName} {bytes : ByteArray} {nL2 nA i : Nat}  {ret : Option FieldType} {rm2 : Room} {Q : Int64 → HS → Prop} (hyo : y.cls = own) (As : List Value) (hY : YS y bytes nL2 ret nA) (hw : Cond.methodLink own i y ∈ G) (hM : MJ (xl X) y bytes nL2 ret rm2 (xE X) S As Q) (hd : decode cc pc = .ok (.invokestatic i, 3)) (hst : st = As.reverse ++ rest) (hn : As.length = nA) (hsum : (rest.map fun v => v.category).sum ≤ 8) (hrm : rm2.frames + 1 ≤ rm.frames ∧ 8 + (nL2 + 11) + rm2.locals ≤ rm.locals) (hcs : k + rm2.cells ≤ rm.cells ∧ n + rm2.slots ≤ rm.slots) (h : ∀ (r : Int64) (T : HS), Q r T → Gr S T → WS X nL (k + rm2.cells) (n + rm2.slots) (pc + 3) lv (.long r :: rest) T) : WS X nL k n pc lv st S := fun H locs ls hP hD hS hG hv => by
  have hR := C.2.2.2.2.2.2.2
  obtain ⟨w2, w4, w5, w6, w7, w8⟩ := hY
  refine va_calll (va_runS (As := As) (rest := rest) ⟨C.1, C.2.1, C.2.2.1, C.2.2.2.1, C.2.2.2.2.1⟩ (hM H.size) (cwS nA C.2.2.2.2.1 (gdS hw w2 (hyo ▸ w4) w5) rfl rfl rfl ⟨hyo, w6, w7, w8⟩ (by rw [hR]; exact hrm)) ⟨mP_blind _ _ _ _, pl_pre C As hP hD hS⟩ rfl hn hv.1 hst (lv_room hsum) hd (by rw [hR]; exact hcs)) hS (fun q _ h => pl_free C hD hS q h) (pl_free C hD hS) (fun r u t H1 locs1 ht hvm hp hB hz hk hS1 => ?_)
  have hP1 := hB.1
  rw [ht] at hP1
  exact h r u hp hB.2.2 H1 locs1 ls hP1 (hB.2.1.weaken (fun _ q _ z => pl_free C hD hS q.1 z)) hS1 (gr_tr hG hB.2.2) hv
theorem r_callSv (C : Cx X cc own nL rm) {y : MethodName} {bytes : ByteArray} {nL2 nA i : Nat}  {ret : Option FieldType} {rm2 : Room} {Q : HS → Prop} (hyo : y.cls = own) (As : List Value) (hY : YS y bytes nL2 ret nA) (hw : Cond.methodLink own i y ∈ G) (hM : MV (xl X) y bytes nL2 ret rm2 (xE X) S As Q) (hd : decode cc pc = .ok (.invokestatic i, 3)) (hst : st = As.reverse ++ rest) (hn : As.length = nA) (hsum : (rest.map fun v => v.category).sum ≤ 8) (hrm : rm2.frames + 1 ≤ rm.frames ∧ 8 + (nL2 + 11) + rm2.locals ≤ rm.locals) (hcs : k + rm2.cells ≤ rm.cells ∧ n + rm2.slots ≤ rm.slots) (h : ∀ T : HS, Q T → Gr S T → WS X nL (k + rm2.cells) (n + rm2.slots) (pc + 3) lv rest T) : WS X nL k n pc lv st S := fun H locs ls hP hD hS hG hv => by
  have hR := C.2.2.2.2.2.2.2
  obtain ⟨w2, w4, w5, w6, w7, w8⟩ := hY
  refine va_callv (va_runS (As := As) (rest := rest) ⟨C.1, C.2.1, C.2.2.1, C.2.2.2.1, C.2.2.2.2.1⟩ (hM H.size) (cwS nA C.2.2.2.2.1 (gdS hw w2 (hyo ▸ w4) w5) rfl rfl rfl ⟨hyo, w6, w7, w8⟩ (by rw [hR]; exact hrm)) ⟨mP_blind _ _ _ _, pl_pre C As hP hD hS⟩ rfl hn hv.1 hst (lv_room hsum) hd (by rw [hR]; exact hcs)) hS (fun q _ h => pl_free C hD hS q h) (pl_free C hD hS) (fun u t H1 locs1 ht hvm hp hB hz hk hS1 => ?_)
  have hP1 := hB.1
  rw [ht] at hP1
  exact h u hp hB.2.2 H1 locs1 ls hP1 (hB.2.1.weaken (fun _ q _ z => pl_free C hD hS q.1 z)) hS1 (gr_tr hG hB.2.2) hv
theorem r_callSr (C : Cx X cc own nL rm) {y : MethodName} {bytes : ByteArray} {nL2 nA i : Nat}  {ret : Option FieldType} {rm2 : Room} {Q : Option Nat → HS → Prop} (hyo : y.cls = own) (As : List Value) (hY : YS y bytes nL2 ret nA) (hw : Cond.methodLink own i y ∈ G) (hM : MR (xl X) y bytes nL2 ret rm2 (xE X) S As Q) (hd : decode cc pc = .ok (.invokestatic i, 3)) (hst : st = As.reverse ++ rest) (hn : As.length = nA) (hsum : (rest.map fun v => v.category).sum ≤ 8) (hrm : rm2.frames + 1 ≤ rm.frames ∧ 8 + (nL2 + 11) + rm2.locals ≤ rm.locals) (hcs : k + rm2.cells ≤ rm.cells ∧ n + rm2.slots ≤ rm.slots) (h : ∀ (r : Option Nat) (T : HS), Q r T → Gr S T → WS X nL (k + rm2.cells) (n + rm2.slots) (pc + 3) lv (va_rf r :: rest) T) : WS X nL k n pc lv st S := fun H locs ls hP hD hS hG hv => by
  have hR := C.2.2.2.2.2.2.2
  obtain ⟨w2, w4, w5, w6, w7, w8⟩ := hY
  refine va_callq (va_runS (As := As) (rest := rest) ⟨C.1, C.2.1, C.2.2.1, C.2.2.2.1, C.2.2.2.2.1⟩ (hM H.size) (cwS nA C.2.2.2.2.1 (gdS hw w2 (hyo ▸ w4) w5) rfl rfl rfl ⟨hyo, w6, w7, w8⟩ (by rw [hR]; exact hrm)) ⟨mP_blind _ _ _ _, pl_pre C As hP hD hS⟩ rfl hn hv.1 hst (lv_room hsum) hd (by rw [hR]; exact hcs)) hS (fun q _ h => pl_free C hD hS q h) (pl_free C hD hS) (fun r u t H1 locs1 ht hvm hp hB hz hk hS1 => ?_)
  have hP1 := hB.1
  rw [ht] at hP1
  exact h r u hp hB.2.2 H1 locs1 ls hP1 (hB.2.1.weaken (fun _ q _ z => pl_free C hD hS q.1 z)) hS1 (gr_tr hG hB.2.2) hv
theorem r_callIv (C : Cx X cc own nL rm) {y : MethodName} {bytes : ByteArray} {nL2 nA i : Nat} {a : Nat} {rm2 : Room} {Q : HS → Prop} (As : List Value) (hY : YI y bytes nL2 nA) (hw : Cond.methodLink own i y ∈ G) (hM : MV (xl X) y bytes nL2 none rm2 (xE X) S (.ref a :: As) Q) (hd : decode cc pc = .ok (.invokespecial i, 3)) (hst : st = As.reverse ++ .ref a :: rest) (hn : As.length = nA) (hsum : (rest.map fun v => v.category).sum ≤ 8) (hrm : rm2.frames + 1 ≤ rm.frames ∧ 8 + (nL2 + 11) + rm2.locals ≤ rm.locals) (hcs : k + rm2.cells ≤ rm.cells ∧ n + rm2.slots ≤ rm.slots) (h : ∀ T : HS, Q T → Gr S T → WS X nL (k + rm2.cells) (n + rm2.slots) (pc + 3) lv rest T) : WS X nL k n pc lv st S := fun H locs ls hP hD hS hG hv => by
  have hR := C.2.2.2.2.2.2.2
  obtain ⟨w2, w4, w5, wn, w6, w7, w8⟩ := hY
  refine va_callv (va_runI (As := As) (rest := rest) ⟨C.1, C.2.1, C.2.2.1, C.2.2.2.1, C.2.2.2.2.1⟩ (hM H.size) (cwI nA C.2.2.2.2.1 (gdW w5) rfl rfl rfl (C.2.2.2.2.1 _ w4) (C.2.2.2.2.1 _ hw) (C.2.2.2.2.1 _ w2) wn ⟨w6, w7, w8⟩ (by rw [hR]; exact hrm)) ⟨mP_blind _ _ _ _, pl_pre C (.ref a :: As) hP hD hS⟩ rfl hn hv.1 hst (lv_room hsum) hd (by rw [hR]; exact hcs)) hS (fun q _ h => pl_free C hD hS q h) (pl_free C hD hS) (fun u t H1 locs1 ht hvm hp hB hz hk hS1 => ?_)
  have hP1 := hB.1
  rw [ht] at hP1
  exact h u hp hB.2.2 H1 locs1 ls hP1 (hB.2.1.weaken (fun _ q _ z => pl_free C hD hS q.1 z)) hS1 (gr_tr hG hB.2.2) hv
theorem r_callNv (C : Cx X cc own nL rm) {y : MethodName} {bytes : ByteArray} {nL2 nA i : Nat} {a : Nat} {host : String} {rm2 : Room} {Q : HS → Prop} (As : List Value) (hY : YI y bytes nL2 nA) (hw : (own, i, y, host) ∈ NM) (hM : MV (xl X) y bytes nL2 none rm2 (xE X) S (.ref a :: As) Q) (hd : decode cc pc = .ok (.invokespecial i, 3)) (hst : st = As.reverse ++ .ref a :: rest) (hn : As.length = nA) (hsum : (rest.map fun v => v.category).sum ≤ 8) (hrm : rm2.frames + 1 ≤ rm.frames ∧ 8 + (nL2 + 11) + rm2.locals ≤ rm.locals) (hcs : k + rm2.cells ≤ rm.cells ∧ n + rm2.slots ≤ rm.slots) (h : ∀ T : HS, Q T → Gr S T → WS X nL (k + rm2.cells) (n + rm2.slots) (pc + 3) lv rest T) : WS X nL k n pc lv st S := fun H locs ls hP hD hS hG hv => by
  have hR := C.2.2.2.2.2.2.2
  obtain ⟨w2, w4, w5, wn, w6, w7, w8⟩ := hY
  refine va_callv (va_runIN (As := As) (rest := rest) (host := host) ⟨C.1, C.2.1, C.2.2.1, C.2.2.2.1, C.2.2.2.2.1⟩ (hM H.size) ⟨va_cnB nA C.2.2.2.2.1 (gdW w5) rfl rfl rfl (C.2.2.2.2.2.1.2.2.1 _ hw) (C.2.2.2.2.1 _ w4) ⟨w6, w7, w8⟩ (by rw [hR]; exact hrm), wn, C.2.2.2.2.1 _ w2⟩ ⟨mP_blind _ _ _ _, pl_pre C (.ref a :: As) hP hD hS⟩ rfl hn hv.1 hst (lv_room hsum) hd (by rw [hR]; exact hcs)) hS (fun q _ h => pl_free C hD hS q h) (pl_free C hD hS) (fun u t H1 locs1 ht hvm hp hB hz hk hS1 => ?_)
  have hP1 := hB.1
  rw [ht] at hP1
  exact h u hp hB.2.2 H1 locs1 ls hP1 (hB.2.1.weaken (fun _ q _ z => pl_free C hD hS q.1 z)) hS1 (gr_tr hG hB.2.2) hv
end Calls
