theorem nf_all : ∀ q ∈ NF, Cond.fieldLinkNest q.1 q.2.1 q.2.2.1 q.2.2.2.1 q.2.2.2.2.1 q.2.2.2.2.2 ∈ lw_tbl := List.forall_mem_cons.mpr ⟨inT6 (List.mem_of_getElem? (i := 60) rfl), List.forall_mem_cons.mpr ⟨inT6 (List.mem_of_getElem? (i := 61) rfl), List.forall_mem_cons.mpr ⟨inT6 (List.mem_of_getElem? (i := 62) rfl), List.forall_mem_cons.mpr ⟨inT6 (List.mem_of_getElem? (i := 63) rfl), List.forall_mem_cons.mpr ⟨inT6 (List.mem_of_getElem? (i := 64) rfl), List.forall_mem_cons.mpr ⟨inT6 (List.mem_of_getElem? (i := 65) rfl), List.forall_mem_cons.mpr ⟨inT6 (List.mem_of_getElem? (i := 67) rfl), List.forall_mem_cons.mpr ⟨inT6 (List.mem_of_getElem? (i := 69) rfl), List.forall_mem_cons.mpr ⟨inT6 (List.mem_of_getElem? (i := 71) rfl), List.forall_mem_cons.mpr ⟨inT6 (List.mem_of_getElem? (i := 73) rfl), List.forall_mem_cons.mpr ⟨inT6 (List.mem_of_getElem? (i := 75) rfl), List.forall_mem_cons.mpr ⟨inT6 (List.mem_of_getElem? (i := 77) rfl), List.forall_mem_cons.mpr ⟨inT6 (List.mem_of_getElem? (i := 79) rfl), List.forall_mem_cons.mpr ⟨inT6 (List.mem_of_getElem? (i := 81) rfl), List.forall_mem_cons.mpr ⟨inT6 (List.mem_of_getElem? (i := 83) rfl), List.forall_mem_cons.mpr ⟨inT6 (List.mem_of_getElem? (i := 85) rfl), List.forall_mem_cons.mpr ⟨inT6 (List.mem_of_getElem? (i := 87) rfl), List.forall_mem_cons.mpr ⟨inT6 (List.mem_of_getElem? (i := 89) rfl), List.forall_mem_cons.mpr ⟨inT6 (List.mem_of_getElem? (i := 91) rfl), List.forall_mem_cons.mpr ⟨inT6 (List.mem_of_getElem? (i := 93) rfl), List.forall_mem_cons.mpr ⟨inT6 (List.mem_of_getElem? (i := 95) rfl), List.forall_mem_cons.mpr ⟨inT6 (List.mem_of_getElem? (i := 97) rfl), List.forall_mem_cons.mpr ⟨inT6 (List.mem_of_getElem? (i := 99) rfl), List.forall_mem_cons.mpr ⟨inT6 (List.mem_of_getElem? (i := 101) rfl), List.forall_mem_cons.mpr ⟨inT6 (List.mem_of_getElem? (i := 103) rfl), List.forall_mem_cons.mpr ⟨inT6 (List.mem_of_getElem? (i := 105) rfl), List.forall_mem_cons.mpr ⟨inT6 (List.mem_of_getElem? (i := 107) rfl), List.forall_mem_cons.mpr ⟨inT6 (List.mem_of_getElem? (i := 109) rfl), List.forall_mem_cons.mpr ⟨inT6 (List.mem_of_getElem? (i := 111) rfl), List.forall_mem_cons.mpr ⟨inT6 (List.mem_of_getElem? (i := 113) rfl), List.forall_mem_cons.mpr ⟨inT6 (List.mem_of_getElem? (i := 115) rfl), fun _ h => absurd h List.not_mem_nil⟩⟩⟩⟩⟩⟩⟩⟩⟩⟩⟩⟩⟩⟩⟩⟩⟩⟩⟩⟩⟩⟩⟩⟩⟩⟩⟩⟩⟩⟩⟩
theorem nm_all : ∀ q ∈ NM, Cond.methodLinkNest q.1 q.2.1 q.2.2.1 q.2.2.2 ∈ lw_tbl := List.forall_mem_cons.mpr ⟨inT1 (List.mem_of_getElem? (i := 43) rfl), List.forall_mem_cons.mpr ⟨inT1 (List.mem_of_getElem? (i := 74) rfl), List.forall_mem_cons.mpr ⟨inT1 (List.mem_of_getElem? (i := 102) rfl), List.forall_mem_cons.mpr ⟨inT1 (List.mem_of_getElem? (i := 218) rfl), List.forall_mem_cons.mpr ⟨inT2 (List.mem_of_getElem? (i := 29) rfl), List.forall_mem_cons.mpr ⟨inT2 (List.mem_of_getElem? (i := 43) rfl), List.forall_mem_cons.mpr ⟨inT2 (List.mem_of_getElem? (i := 99) rfl), List.forall_mem_cons.mpr ⟨inT6 (List.mem_of_getElem? (i := 56) rfl), fun _ h => absurd h List.not_mem_nil⟩⟩⟩⟩⟩⟩⟩⟩
theorem sr_all : ∀ q ∈ SR, Cond.stringRef q.1 q.2.1 q.2.2 ∈ lw_tbl := List.forall_mem_cons.mpr ⟨inT2 (List.mem_of_getElem? (i := 217) rfl), List.forall_mem_cons.mpr ⟨inT3 (List.mem_of_getElem? (i := 43) rfl), List.forall_mem_cons.mpr ⟨inT3 (List.mem_of_getElem? (i := 56) rfl), List.forall_mem_cons.mpr ⟨inT3 (List.mem_of_getElem? (i := 65) rfl), List.forall_mem_cons.mpr ⟨inT3 (List.mem_of_getElem? (i := 66) rfl), List.forall_mem_cons.mpr ⟨inT3 (List.mem_of_getElem? (i := 67) rfl), List.forall_mem_cons.mpr ⟨inT3 (List.mem_of_getElem? (i := 72) rfl), List.forall_mem_cons.mpr ⟨inT3 (List.mem_of_getElem? (i := 73) rfl), List.forall_mem_cons.mpr ⟨inT3 (List.mem_of_getElem? (i := 74) rfl), List.forall_mem_cons.mpr ⟨inT3 (List.mem_of_getElem? (i := 75) rfl), List.forall_mem_cons.mpr ⟨inT3 (List.mem_of_getElem? (i := 76) rfl), List.forall_mem_cons.mpr ⟨inT3 (List.mem_of_getElem? (i := 77) rfl), List.forall_mem_cons.mpr ⟨inT3 (List.mem_of_getElem? (i := 90) rfl), List.forall_mem_cons.mpr ⟨inT3 (List.mem_of_getElem? (i := 91) rfl), List.forall_mem_cons.mpr ⟨inT3 (List.mem_of_getElem? (i := 92) rfl), List.forall_mem_cons.mpr ⟨inT3 (List.mem_of_getElem? (i := 93) rfl), List.forall_mem_cons.mpr ⟨inT3 (List.mem_of_getElem? (i := 94) rfl), List.forall_mem_cons.mpr ⟨inT3 (List.mem_of_getElem? (i := 95) rfl), List.forall_mem_cons.mpr ⟨inT3 (List.mem_of_getElem? (i := 116) rfl), List.forall_mem_cons.mpr ⟨inT3 (List.mem_of_getElem? (i := 117) rfl), List.forall_mem_cons.mpr ⟨inT3 (List.mem_of_getElem? (i := 118) rfl), List.forall_mem_cons.mpr ⟨inT3 (List.mem_of_getElem? (i := 119) rfl), List.forall_mem_cons.mpr ⟨inT3 (List.mem_of_getElem? (i := 124) rfl), List.forall_mem_cons.mpr ⟨inT3 (List.mem_of_getElem? (i := 125) rfl), List.forall_mem_cons.mpr ⟨inT3 (List.mem_of_getElem? (i := 126) rfl), List.forall_mem_cons.mpr ⟨inT3 (List.mem_of_getElem? (i := 131) rfl), List.forall_mem_cons.mpr ⟨inT3 (List.mem_of_getElem? (i := 132) rfl), List.forall_mem_cons.mpr ⟨inT6 (List.mem_of_getElem? (i := 203) rfl), List.forall_mem_cons.mpr ⟨inT6 (List.mem_of_getElem? (i := 221) rfl), List.forall_mem_cons.mpr ⟨inT6 (List.mem_of_getElem? (i := 237) rfl), List.forall_mem_cons.mpr ⟨inT7 (List.mem_of_getElem? (i := 6) rfl), List.forall_mem_cons.mpr ⟨inT7 (List.mem_of_getElem? (i := 7) rfl), List.forall_mem_cons.mpr ⟨inT7 (List.mem_of_getElem? (i := 8) rfl), List.forall_mem_cons.mpr ⟨inT7 (List.mem_of_getElem? (i := 13) rfl), List.forall_mem_cons.mpr ⟨inT7 (List.mem_of_getElem? (i := 14) rfl), List.forall_mem_cons.mpr ⟨inT7 (List.mem_of_getElem? (i := 15) rfl), List.forall_mem_cons.mpr ⟨inT7 (List.mem_of_getElem? (i := 16) rfl), List.forall_mem_cons.mpr ⟨inT7 (List.mem_of_getElem? (i := 17) rfl), List.forall_mem_cons.mpr ⟨inT7 (List.mem_of_getElem? (i := 18) rfl), List.forall_mem_cons.mpr ⟨inT7 (List.mem_of_getElem? (i := 31) rfl), List.forall_mem_cons.mpr ⟨inT7 (List.mem_of_getElem? (i := 32) rfl), List.forall_mem_cons.mpr ⟨inT7 (List.mem_of_getElem? (i := 33) rfl), List.forall_mem_cons.mpr ⟨inT7 (List.mem_of_getElem? (i := 34) rfl), List.forall_mem_cons.mpr ⟨inT7 (List.mem_of_getElem? (i := 35) rfl), List.forall_mem_cons.mpr ⟨inT7 (List.mem_of_getElem? (i := 36) rfl), List.forall_mem_cons.mpr ⟨inT7 (List.mem_of_getElem? (i := 61) rfl), List.forall_mem_cons.mpr ⟨inT7 (List.mem_of_getElem? (i := 62) rfl), List.forall_mem_cons.mpr ⟨inT7 (List.mem_of_getElem? (i := 63) rfl), List.forall_mem_cons.mpr ⟨inT7 (List.mem_of_getElem? (i := 64) rfl), List.forall_mem_cons.mpr ⟨inT7 (List.mem_of_getElem? (i := 65) rfl), List.forall_mem_cons.mpr ⟨inT7 (List.mem_of_getElem? (i := 66) rfl), List.forall_mem_cons.mpr ⟨inT7 (List.mem_of_getElem? (i := 67) rfl), List.forall_mem_cons.mpr ⟨inT7 (List.mem_of_getElem? (i := 68) rfl), List.forall_mem_cons.mpr ⟨inT7 (List.mem_of_getElem? (i := 69) rfl), fun _ h => absurd h List.not_mem_nil⟩⟩⟩⟩⟩⟩⟩⟩⟩⟩⟩⟩⟩⟩⟩⟩⟩⟩⟩⟩⟩⟩⟩⟩⟩⟩⟩⟩⟩⟩⟩⟩⟩⟩⟩⟩⟩⟩⟩⟩⟩⟩⟩⟩⟩⟩⟩⟩⟩⟩⟩⟩⟩⟩
theorem ao_all : ∀ C ∈ [RX2, RX3, RX5, RX6], Cond.arrayOver (.object C) ∈ lw_tbl := List.forall_mem_cons.mpr ⟨inT2 (List.mem_of_getElem? (i := 119) rfl), List.forall_mem_cons.mpr ⟨inT1 (List.mem_of_getElem? (i := 37) rfl), List.forall_mem_cons.mpr ⟨inT1 (List.mem_of_getElem? (i := 39) rfl), List.forall_mem_cons.mpr ⟨inT1 (List.mem_of_getElem? (i := 41) rfl), fun _ h => absurd h List.not_mem_nil⟩⟩⟩⟩
theorem ka_p {args : Array Value} {s : State} {ty : FieldType} (h : (Cond.arrayClass ty).before args s = true) : ∃ c : ClassId, ArrOfT s c ty ∧ s.vm.findClass ("[" ++ ty.toString) = some c := by
  obtain ⟨c, k, comp, h1, h2, h3⟩ := Cond.arrayClass_spec h
  exact ⟨c, fun n z => ⟨(fun k h => by cases h), k, h2, comp, h3⟩, h1⟩
theorem ka_o {args : Array Value} {s : State} {C : String} (h : (Cond.arrayOver (.object C)).before args s = true) : ∃ c : ClassId, ArrOfT s c (.object C) ∧ va_RA s c (.object C) := by
  obtain ⟨comp, c, k, h1, h2, h3, h4, h5⟩ := Cond.arrayOver_spec h
  exact ⟨c, fun n z => ⟨(fun k h => by cases h), k, h3, comp, h4⟩, k, comp, h3, h4, h1, h5⟩
theorem ins_all : ∀ (ci : Nat) (q : vw_C), vwCl[ci]? = some q → Cond.instantiable q.1 q.2.2 ∈ G := by
  intro ci q h
  match ci, h with
  | 0, h => cases h; exact g_332
  | 1, h => cases h; exact g_268
  | 2, h => cases h; exact g_338
  | 3, h => cases h; exact g_42
  | 4, h => cases h; exact g_217
  | 5, h => cases h; exact g_73
  | 6, h => cases h; exact g_101
  | 7, h => cases h; exact g_282
  | 8, h => cases h; exact g_31
  | 9, h => cases h; exact g_23
  | 10, h => cases h; exact g_1255
  | 11, h => cases h; exact g_1158
  | z + 12, h => simp [vwCl] at h
theorem kn_all {args : Array Value} {s : State} (hG : ∀ w ∈ G, w.before args s = true) : ∃ D : va_G, ∀ (k : Nat) (q : vw_C), vwCl[k]? = some q → u_Kn s q.1 q.2.1 q.2.2 (D.1 k) (D.2 k) := by
  have h0 : ∀ k : Nat, ∃ d : ClassId × (Nat → Nat), ∀ q : vw_C, vwCl[k]? = some q → u_Kn s q.1 q.2.1 q.2.2 d.1 d.2 := by
    intro k
    cases hk : vwCl[k]? with
    | none => exact ⟨(0, fun _ => 0), fun q h => by cases h⟩
    | some q =>
      obtain ⟨cC, iS, h⟩ := u_known (C := q.1) (T := q.2.1) (N := q.2.2) hG (CLs k q hk).1 (hG _ (ins_all k q hk))
      exact ⟨(cC, iS), fun q' h' => by cases h'; exact h⟩
  obtain ⟨d, hd⟩ := Classical.axiomOfChoice h0
  exact ⟨(fun k => (d k).1, fun k => (d k).2), fun k q hq => hd k q hq⟩
set_option maxHeartbeats 4000000 in
theorem ev_all {args : Array Value} {s : State} {A : Nat → Prop} (hts : ∀ w ∈ lw_tbl, w.before args s = true) (hn : narrow_1.before args s = true) (hA : ∀ a : Nat, a < s.heap.size → ¬ A a) : ∃ E : EE, EV E A s s.heap := by
  have hG : ∀ w ∈ G, w.before args s = true := fun w h => hts w (List.mem_filter.mp h).1
  obtain ⟨D, hD⟩ := kn_all hG
  obtain ⟨c0, k0, f0⟩ := ka_p (hts _ (inT1 (List.mem_of_getElem? (i := 71) rfl)))
  obtain ⟨c1, k1, f1⟩ := ka_p (hts _ (inT1 (List.mem_of_getElem? (i := 72) rfl)))
  obtain ⟨c2, k2, f2⟩ := ka_p (hts _ (inT2 (List.mem_of_getElem? (i := 26) rfl)))
  obtain ⟨c3, k3, f3⟩ := ka_p (hts _ (inT6 (List.mem_of_getElem? (i := 179) rfl)))
  obtain ⟨c4, k4⟩ := ka_o (hts _ (inT2 (List.mem_of_getElem? (i := 119) rfl)))
  obtain ⟨c5, k5⟩ := ka_o (hts _ (inT1 (List.mem_of_getElem? (i := 37) rfl)))
  obtain ⟨c6, k6⟩ := ka_o (hts _ (inT1 (List.mem_of_getElem? (i := 39) rfl)))
  obtain ⟨c7, k7⟩ := ka_o (hts _ (inT1 (List.mem_of_getElem? (i := 41) rfl)))
  obtain ⟨ad, had⟩ := Classical.axiomOfChoice (st_all (A := A) hn hA)
  refine ⟨(D, fun k => if k = 12 then c0 else if k = 13 then c1 else if k = 14 then c2 else if k = 15 then c3 else if k = 16 then c4 else if k = 17 then c5 else if k = 18 then c6 else c7, fun i => (ad i).1, fun i => (ad i).2), ⟨fun k q hq => hD k q hq, fun k q hq => ?_⟩, fun q hq => va_Nw.of rfl (hts _ (nf_all q hq)), fun q hq => va_Nw.of rfl (hts _ (nm_all q hq)), fun C hC => va_AO.of (hts _ (ao_all C hC)), fun i q hq => ?_, fun i hi => (had i hi).2, ?_, ?_⟩
  · match k, hq with
    | 0, hq => cases hq; exact ⟨k0, f0⟩
    | 1, hq => cases hq; exact ⟨k1, f1⟩
    | 2, hq => cases hq; exact ⟨k2, f2⟩
    | 3, hq => cases hq; exact ⟨k3, f3⟩
    | 4, hq => cases hq; exact k4
    | 5, hq => cases hq; exact k5
    | 6, hq => cases hq; exact k6
    | 7, hq => cases hq; exact k7
    | z + 8, hq => simp [tys] at hq
  · have hi : i < 54 := (List.getElem?_eq_some_iff.mp hq).1
    have he : SR.getD i ("", 0, "") = q := by rw [List.getD_eq_getElem?_getD, hq]; rfl
    have h1 := (had i hi).1
    unfold sTm at h1
    rw [he] at h1
    exact vk_R.of (hts _ (sr_all q (List.mem_of_getElem? hq))) h1
  · exact va_Zof (hts _ (inT2 (List.mem_of_getElem? (i := 231) rfl))) (hG _ g_13) (va_eqt (bB (bB (bA (bA (bA (bA (bA (bA (bA hn)))))))))) hA
  · exact va_Zqof (hts _ (inT3 (List.mem_of_getElem? (i := 8) rfl))) (hG _ g_15) (bA (bA (bB (bA (bA (bA (bA (bA (bA hn))))))))) hA
theorem xv_all {args : Array Value} {s : State} {A : Nat → Prop} (hts : ∀ w ∈ lw_tbl, w.before args s = true) (hn : narrow_1.before args s = true) (hA : ∀ a : Nat, a < s.heap.size → ¬ A a) : XV A s s.heap := by
  have hG : ∀ w ∈ G, w.before args s = true := fun w h => hts w (List.mem_filter.mp h).1
  refine ⟨vx_Zqof (hts _ (inT5 (List.mem_of_getElem? (i := 163) rfl))) (hG _ g_18) (bA (bA (bA (bB (bA (bA (bA (bA (bA hn))))))))) hA, vx_Zqof (hts _ (inT5 (List.mem_of_getElem? (i := 165) rfl))) (hG _ g_18) (bB (bA (bA (bB (bA (bA (bA (bA (bA hn))))))))) hA, ?_⟩
  exact List.forall_mem_cons.mpr ⟨va_Nw.of rfl (hts _ (inT5 (List.mem_of_getElem? (i := 138) rfl))), List.forall_mem_cons.mpr ⟨va_Nw.of rfl (hts _ (inT5 (List.mem_of_getElem? (i := 139) rfl))), List.forall_mem_cons.mpr ⟨va_Nw.of rfl (hts _ (inT5 (List.mem_of_getElem? (i := 141) rfl))), List.forall_mem_cons.mpr ⟨va_Nw.of rfl (hts _ (inT5 (List.mem_of_getElem? (i := 143) rfl))), fun _ h => absurd h List.not_mem_nil⟩⟩⟩⟩
set_option maxHeartbeats 4000000 in
theorem whole_start {p : Program} {e : Env} {s : State} {m : MethodId} {below : List Frame} {meth : Method} {c : Code} (l : Launch) (hl : l.stackTraces = false) {b L : Nat} {xs : Nat → Int32} (hLL : L ≤ 4096) (C0 : lw_At p s m meth c b L xs) : W p l e room_1 s m #[Value.ref b] below meth c s.heap [] 0 0 (lw_Z below #[Value.ref b] s) (entryFrame m ([Value.ref b] : List Value).toArray 7) := by
  obtain ⟨hx, hb, hr, hml, hown, hts, hX, hbl, hlocks, hgv⟩ := C0
  have hA : ∀ a : Nat, a < s.heap.size → ¬ (fun q : Nat => s.heap.size ≤ q) a := fun a h => Nat.not_le.mpr h
  obtain ⟨Ee, hE⟩ := ev_all (A := fun q : Nat => s.heap.size ≤ q) hts (bB hgv) hA
  have hV := xv_all (A := fun q : Nat => s.heap.size ≤ q) hts (bB hgv) hA
  have C : Cx (p, l, e, room_1, s, m, #[Value.ref b], below, meth, c, Ee, S00, (fun q : Nat => s.heap.size ≤ q), lw_Z below #[Value.ref b] s) cL_law RL 7 rm_L_law := ⟨hx, hb, hml, hown, fun w h => hts w (List.mem_filter.mp h).1, hE, fun _ h => h, rfl⟩
  have hw := whole_open (scb := b) (scL := L) (scx := xs) C ⟨rfl, rfl, hr, hlocks, hX, hbl, hA b hbl, fun _ h => h⟩ (ld_all C hl hV) hLL
  have hle := lv_entry ([.ref b]) (n := 7) (Nat.le_of_ble_eq_true rfl)
  rw [lg_entry_eq]
  exact hw s.heap [] _ (fun k q h => by simp [pw, S00, hL, va_pl] at h) ⟨fun i j p q h => by simp [pw, S00, hL, va_pl] at h, fun k q h => by simp [pw, S00, hL, va_pl] at h⟩ va_S.rf (gr_rf S00) hle
set_option maxHeartbeats 4000000 in
theorem lw_walk (l : Launch) (hl : l.stackTraces = false) (b : Addr) (xs : List Int32) : MetFree l x (headSpec (Jvm.Cond.code x code maxLocals ret :: tables_1) room_1) (lw_P b xs) (fun _ _ _ _ _ => True) lw_Q := by
  refine MetFree.of_bodyS (code := code) (maxLocals := maxLocals) (ret := ret) (by decide) ?_ ?_
  · intro args s m h hn
    obtain ⟨meth, c, h1, h2, h3, h4, h5, h6, -, -⟩ := Cond.code_spec hn (atoms_spec (ws := Jvm.Cond.code x code maxLocals ret :: tables_1) h _ List.mem_cons_self)
    exact ⟨meth, c, h1, h2, h3, h4, h5, h6⟩
  · intro p e s m args below meth c s₁ B hml0 hP _
    obtain ⟨rfl, hx, hbd, hgv⟩ := hP
    obtain ⟨scr, harrAt, hlist, hof, hsmall⟩ := hx
    obtain ⟨hcb, hkn, -, -⟩ := State.arrayAt?_spec harrAt
    have hown : s.vm.findClass R_law = some m.cls := findClass_of_methodNamed B.named
    have hts0 : ∀ c ∈ (Jvm.Cond.code x code maxLocals ret :: tables_1), c.before #[Value.ref b] s = true := atoms_spec (ws := Jvm.Cond.code x code maxLocals ret :: tables_1) B.pre
    have hts : ∀ w ∈ lw_tbl, w.before #[Value.ref b] s = true := k2_hts_sels lw_privs (fun w hw => hts0 w (List.mem_cons_of_mem _ hw)) lw_privs_ok
    have hml : c.maxLocals = 7 := B.maxLocals_eq (hts0 _ List.mem_cons_self)
    have X₀ : Stand p l e room_1 s m #[Value.ref b] below meth c s₁ [] 0 0 := Stand.of_body B
    have hh0 : s₁.heap = s.heap := by rw [B.state]; rfl
    have hsz : scr.slots.size = xs.length := by rw [← Array.length_toList, hlist, List.length_map]
    have hval : ∀ j : Nat, j < xs.length → scr.slots[j]? = some (.int (xs.getD j 0)) := fun j hj => by
      rw [← Array.getElem?_toList, hlist]
      simp [hj]
    have hbl : b < s.heap.size := (Array.getElem?_eq_some_iff.mp hcb).1
    have hX : va_X b xs.length (fun j => xs.getD j 0) s s.heap := ⟨scr, hcb, hof, hkn, hsz, hval⟩
    have K : W p l e room_1 s m #[Value.ref b] below meth c s₁.heap [] 0 0 (lw_Z below #[Value.ref b] s) (entryFrame m ([Value.ref b] : List Value).toArray 7) := by
      rw [hh0]
      exact whole_start l hl hbd ⟨B.exec, B.bytes, B.returns, hml, hown, hts, hX, hbl, B.notSynchronized, hgv⟩
    obtain ⟨t, a1, o, b1, b2, b3⟩ := K s₁ rfl X₀
    exact ⟨t, o, a1, b1, b2, b3⟩
theorem lw_pre_spec {args : Array Value} {s : State} (h : (Jvm.Cond.and given_1 narrow_1).before args s = true) (hr : rest_1_c.before args s = true) : ∃ (b : Addr) (xs : List Int32), lw_P b xs args s := by
  have hs := flat_of_before _ h
  have hq := flat_of_before _ hr
  have hc : (Cond.count 1).before args s = true := hs _ (by decide +kernel)
  have harr : (Cond.arrayOf (.arg 0) .int).before args s = true := hs _ (by decide +kernel)
  have hle : (Cond.le (.length (.arg 0)) (.int 4096)).before args s = true := hs _ (by decide +kernel)
  have hlen : (Cond.isInt (.length (.arg 0))).before args s = true := hq _ (by decide +kernel)
  have hall : (Cond.all (.arg 0) (.isInt (.elem (.arg 0) (.index 0)))).before args s = true := hq _ (by decide +kernel)
  obtain ⟨b, xs, hb, hx⟩ := State.ints_of_pre rfl harr hlen hall
  have hsm : xs.length < 2 ^ 31 := hx.choose_spec.2.2.2
  have hev : (Term.length (.arg 0)).eval args s none [] s = some (.int xs.length.toInt32) := hx.length_eval hb
  have hv := Cond.le_ints hev (show (Term.int 4096).eval args s none [] s = some (.int 4096) from rfl)
  have hd : xs.length.toInt32 ≤ 4096 := by
    simpa [Cond.before, Cond.holds, hv] using hle
  have hN : xs.length ≤ 4096 := (Int32.ofNat_le_ofNat hsm (by decide)).mp (show Int32.ofNat xs.length ≤ Int32.ofNat 4096 from hd)
  exact ⟨b, xs, Cond.one_arg hc (show args[0]? = some (.ref b) from hb), hx, hN, h⟩
theorem lw_comes (l : Launch) (hl : l.stackTraces = false) : Comes l x (Jvm.Cond.code x code maxLocals ret :: tables_1) room_1 (fun tb e args s => Calls_1 tb e args s ∧ rest_1 tb e args s ∧ Pre_1 tb e args s)
    (fun _ _ args s o t => lw_Q args s o t) := by
  intro p e ha hc hk s m args below hf hfit hheap happ hpre
  obtain ⟨b, xs, hP⟩ := lw_pre_spec hpre.2.2 hpre.2.1
  obtain ⟨k, o, h1, h2, h3, hQ⟩ := lw_walk l hl b xs p e ha hc hk s m args below hf ((Spec.applies_iff_loose hf).mp happ).1 hP trivial
  exact ⟨k, o, h1, h2, h3, hQ⟩
theorem lw_frame {s t : State} {o : Outcome} {args : Array Value} (h : Framed s o t [] 601024 7293034) :
    Framed s o t (fieldLocs frame_1_writes args s ++ arrayLocs frame_1_arrays args s ++ staticLocs frame_1_statics s) 601024 7293034 := h
theorem lw_limb (L : Cond) (hL : ∀ (args : Array Value) (s t : State), L.after args s (.returned (some (.int 1))) t = true) :
    ArmFor flags0 classFile x code maxLocals ret World_1 tables_1 room_1 Calls_1 rest_1 Pre_1
      (fun tb e a s o t => postC L tb e a s o t ∧ Framed s o t (fieldLocs frame_1_writes a s ++ arrayLocs frame_1_arrays a s ++ staticLocs frame_1_statics s) 601024 7293034) := by
  intro l hfl _ _ p e ha hc hk s m args below hf hfit hheap happ hpre
  obtain ⟨k, o, h1, h2, h3, rfl, hF⟩ := lw_comes l (by unfold Launch.stackTraces; rw [hfl]; decide) p e ha hc hk s m args below hf hfit hheap happ hpre
  exact ⟨k, _, h1, h2, h3, hL args s _, lw_frame hF⟩
theorem i_vc : Claimed_1_1 ∧ Claimed_1_2 := ⟨lw_limb limb_1_1 (fun args s t => by simp [limb_1_1, Cond.after, Cond.holds, Cond.value]), lw_limb limb_1_2 (fun args s t => Cond.after_iff.mpr (by
  first | (rw [show limb_1_2 = Cond.eq .result (.int 1) from rfl, Cond.eq_ints (x := 1) (y := 1) rfl rfl]; simp; done) | (simp [limb_1_2, Cond.value, Term.eval]; done)))⟩
