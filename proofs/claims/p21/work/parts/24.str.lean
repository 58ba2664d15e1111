theorem ldcw_str {p : Program} {l : Launch} {e : Env} {R : Room} {s : State} {m : MethodId} {args : Array Value} {below : List Frame} {meth : Method} {c : Code} {T : State} {locs : List Loc} {cells slots : Nat}
    (X : Stand p l e R s m args below meth c T locs cells slots) (hexec : p.tables.exec = Jvm.exec) {own text : String} {index : Nat} {a : Addr} (hown : s.vm.findClass own = some m.cls)
    (hconst : (Cond.stringRef own index text).before args s = true) (hev : (Term.string own index).eval args s none [] s = some (.ref a)) {g : JFrame} (hg : g.method = m) (hdg : decode c.code g.pc = .ok (.ldc_w index, 3)) :
    ∀ target, Steps p.tables e below (T.setTop { g with pc := g.pc + 3, stack := .ref a :: g.stack }) target → Steps p.tables e below (T.setTop g) target := by
  obtain ⟨k, cf, i, a', hk, hcf, hcp, -, hr, hev'⟩ := Cond.stringRef_spec hown hconst
  cases hev.symm.trans hev'
  obtain ⟨k', hk', he⟩ := X.warmed.alike.2.2 _ _ hk
  have hr' : k'.resolved[index]? = some (some (.string a)) := by
    rcases X.warmed.entry hk hk' index with h | ⟨h, -⟩
    · rw [h]; exact hr
    · rw [hr] at h; cases h
  intro target hrest
  subst hg
  jvm_step X.here [hexec, hdg, ldc_w.wp_string (e := e) (s := T) (f := g) X.here.top hk' (by rw [he]; exact hcf) hcp hr']
  exact hrest
theorem W_ldcwS {p : Program} {l : Launch} {e : Env} {R : Room} {s : State} {m : MethodId} {args : Array Value} {below : List Frame} {meth : Method} {c : Code} {H : Heap} {locs : List Loc} {cells slots : Nat} {Q : State → Prop} {pc : Nat} {ls : Array Slot} {rest : List Value} {cc : ByteArray} (hexec : p.tables.exec = Jvm.exec) (hb : c.code = cc) {own tx : String} {index q : Nat} (hown : s.vm.findClass own = some m.cls) (hZ : vk_R own index tx q s) (hdg : decode cc pc = .ok (.ldc_w index, 3))
    (k : W p l e R s m args below meth c H locs cells slots Q (F0 m (pc + 3) ls (.ref q :: rest))) : W p l e R s m args below meth c H locs cells slots Q (F0 m pc ls rest) := by
  intro T hT X
  obtain ⟨t, a1, b1⟩ := k T hT X
  exact ⟨t, ldcw_str X hexec hown (text := tx) (a := q) hZ.1 hZ.2 (g := F0 m pc ls rest) rfl (by rw [hb]; exact hdg) t a1, b1⟩

/-- String.charAt(k) of a constant -/
def sch (w : Nat) (x : Int32) : Int32 := (sByt.getD w []).getD x.toNatClampNeg 0
theorem sl_ltS (w : Nat) : sLen.getD w 0 < 2147483648 := by
  rw [List.getD_eq_getElem?_getD]
  cases h : sLen[w]? with
  | none => decide
  | some v => exact (show ∀ x ∈ sLen, x < 2147483648 by decide) v (List.mem_of_getElem? h)
section Str
variable {X : CX} {cc : ByteArray} {own : String} {nL k n pc : Nat} {lv lv' : List (Nat × Value)} {st rest : List Value} {S : HS} {rm : Room}
theorem ev_ss (C : Cx X cc own nL rm) : SS (xE X) (xA X) (xs X) (xs X).heap := C.2.2.2.2.2.1.2.2.2.2.2.1
theorem r_getSF (C : Cx X cc own nL rm) {w i : Nat} {nm d : String} {v : Value} (hF : va_OF "java/lang/String" nm d v (eK (xE X) w) (xA X) (xs X) (xs X).heap) (hw : Cond.fieldLink own i "java/lang/String" nm d ∈ G) (hd : decode cc pc = .ok (.getfield i, 3)) (h : WS X nL k n (pc + 3) lv (v :: st) S) : WS X nL k n pc lv (.ref (eK (xE X) w) :: st) S := fun H locs ls hP hD hS hG hv => vk_getf C.1 C.2.1 hF hS C.2.2.2.1 (C.2.2.2.2.1 _ hw) (fun _ z => z) hd (h H locs ls hP hD hS hG hv)
theorem r_getCS (C : Cx X cc own nL rm) {i : Nat} (hw : Cond.fieldLink own i "java/lang/String" "COMPACT_STRINGS" "Z" ∈ G) (hd : decode cc pc = .ok (.getstatic i, 3)) (h : WS X nL k n (pc + 3) lv (.int 1 :: st) S) : WS X nL k n pc lv st S := fun H locs ls hP hD hS hG hv => va_gets C.1 C.2.1 C.2.2.2.2.2.1.2.2.2.2.2.2.1 hS C.2.2.2.1 (C.2.2.2.2.1 _ hw) (fun _ z => z) hd (h H locs ls hP hD hS hG hv)
theorem r_getSQ (C : Cx X cc own nL rm) {i : Nat} (hw : Cond.fieldLink own i "jdk/internal/util/Preconditions" "SIOOBE_FORMATTER" "Ljava/util/function/BiFunction;" ∈ G) (hd : decode cc pc = .ok (.getstatic i, 3)) (h : ∀ v : Value, v.category = 1 → WS X nL k n (pc + 3) lv (v :: st) S) : WS X nL k n pc lv st S := fun H locs ls hP hD hS hG hv => by
  rcases C.2.2.2.2.2.1.2.2.2.2.2.2.2 with hz | ⟨t, hz⟩
  · exact va_gets C.1 C.2.1 hz hS C.2.2.2.1 (C.2.2.2.2.1 _ hw) (fun _ z => z) hd (h .null rfl H locs ls hP hD hS hG hv)
  · exact va_gets C.1 C.2.1 hz hS C.2.2.2.1 (C.2.2.2.2.1 _ hw) (fun _ z => z) hd (h (.ref t) rfl H locs ls hP hD hS hG hv)
theorem r_lenT (C : Cx X cc own nL rm) {w : Nat} (hi : w < 54) (hd : decode cc pc = .ok (.arraylength, 1)) (h : WS X nL k n (pc + 1) lv (.int (nI (sLen.getD w 0)) :: st) S) : WS X nL k n pc lv (.ref (eV (xE X) w) :: st) S := fun H locs ls hP hD hS hG hv => va_tlen C.1 C.2.1 (ev_ss C w hi).2.2.2 hS rfl hd (h H locs ls hP hD hS hG hv)
theorem r_baT (C : Cx X cc own nL rm) {w : Nat} {x : Int32} (hi : w < 54) (hx : vp_in x (sLen.getD w 0)) (hd : decode cc pc = .ok (.baload, 1)) (h : WS X nL k n (pc + 1) lv (.int (sch w x) :: st) S) : WS X nL k n pc lv (.int x :: .ref (eV (xE X) w) :: st) S := fun H locs ls hP hD hS hG hv => va_tb C.1 C.2.1 (ev_ss C w hi).2.2.2 hS hx rfl hd (h H locs ls hP hD hS hG hv)
theorem r_i2c (C : Cx X cc own nL rm) {x v : Int32} (hd : decode cc pc = .ok (.i2c, 1)) (hx : (x.toUInt32 % 65536).toInt32 = v) (h : WS X nL k n (pc + 1) lv (.int v :: st) S) : WS X nL k n pc lv (.int x :: st) S := fun H locs ls hP hD hS hG hv => lv_i2c C.1 C.2.1 hd hx (h H locs ls hP hD hS hG hv)
theorem r_nret (C : Cx X cc own nL rm) {Q : Int32 → HS → Prop} (E : ReI X rm Q) {ty : FieldType} (ht : (xh X).sig.returnType = some ty) {v : Int32} (hnr : narrow ty (.int v) = .int v) (hd : decode cc pc = .ok (.ireturn, 1)) (h1 : k ≤ rm.cells) (h2 : n ≤ rm.slots) (h : Q v S) : WS X nL k n pc lv [.int v] S := fun H locs ls hP hD hS hG hv => by
  rw [E.1]
  refine W.widen h1 h2 ?_
  exact W.zret C.1 C.2.1 ht hnr (fun t htt _ => ⟨⟨v, S, rfl, h, by rw [htt]; exact hP, hD, hG⟩, hS.F htt⟩) hS.2.2 hd (hlocks := E.2)
/-- a method of a string constant -/
theorem r_callO (C : Cx X cc own nL rm) {y : MethodName} {bytes : ByteArray} {nL2 nA i w : Nat} {ret : Option FieldType} {rm2 : Room} {Q : Int32 → HS → Prop} (hi : w < 54) (hyc : y.cls = "java/lang/String") (As : List Value) (w2 : Cond.instanceMethod y ∈ G) (w3 : Cond.selects y.cls y y ∈ G) (w4 : Cond.initialized y.cls ∈ G) (w5 : Cond.code y bytes nL2 ret ∈ G) (w8 : (parseMethodDescriptor y.desc).map (fun d => d.parameters.length) = some nA) (hw : Cond.methodLink own i y ∈ G) (hM : MI (xl X) y bytes nL2 ret rm2 (xE X) S (.ref (eK (xE X) w) :: As) Q) (hd : decode cc pc = .ok (.invokevirtual i, 3)) (hst : st = As.reverse ++ .ref (eK (xE X) w) :: rest) (hn : As.length = nA) (hsum : (rest.map fun v => v.category).sum ≤ 8) (hrm : rm2.frames + 1 ≤ rm.frames ∧ 8 + (nL2 + 11) + rm2.locals ≤ rm.locals) (hz : rm2.cells = 0 ∧ rm2.slots = 0) (hcs : k ≤ rm.cells ∧ n ≤ rm.slots) (h : ∀ (r : Int32) (T : HS), Q r T → Gr S T → WS X nL k n (pc + 3) lv (.int r :: rest) T) : WS X nL k n pc lv st S := fun H locs ls hP hD hS hG hv => by
  have hR := C.2.2.2.2.2.2.2
  have hrec : ∃ cell : Cell, H[eK (xE X) w]? = some cell ∧ cell.vm.isStatics = false ∧ (xs X).vm.findClass y.cls = some cell.cls := by
    rw [hyc]; exact va_Orecv (ev_ss C w hi).1 hS
  have hcs' : k + rm2.cells ≤ rm.cells ∧ n + rm2.slots ≤ rm.slots := by rw [hz.1, hz.2]; exact hcs
  refine va_calli (va_runV (As := As) (rest := rest) ⟨C.1, C.2.1, C.2.2.1, C.2.2.2.1, C.2.2.2.2.1⟩ (hM H.size) (cwV nA C.2.2.2.2.1 (gdV hw w2 w3 w4 w5) rfl rfl rfl ⟨rfl, by rw [hyc]; decide, by rw [hyc]; decide, w8⟩ (by rw [hR]; exact hrm)) ⟨mP_blind _ _ _ _, hrec, pl_pre C (.ref (eK (xE X) w) :: As) hP hD hS⟩ rfl hn hv.1 hst (lv_room hsum) hd (by rw [hR]; exact hcs')) hS (fun q _ h => pl_free C hD hS q h) (pl_free C hD hS) (fun r u t H1 locs1 ht hvm hp hB hz' hk hS1 => ?_)
  have hP1 := hB.1
  rw [ht] at hP1
  have hh := h r u hp hB.2.2 H1 locs1 ls hP1 (hB.2.1.weaken (fun _ q _ z => pl_free C hD hS q.1 z)) hS1 (gr_tr hG hB.2.2) hv
  rw [hz.1, hz.2]
  exact hh
theorem gdS2 {own : String} {i : Nat} {y : MethodName} {cc : ByteArray} {nL : Nat} {ret : Option FieldType} (h1 : Cond.methodLink own i y ∈ G) (h2 : Cond.static y ∈ G) (h4 : Cond.initialized y.cls ∈ G) (h5 : Cond.code y cc nL ret ∈ G) : GoodIn G (va_wsS own i y (mW y cc nL ret)) := fun w hw => by
  rcases List.mem_append.mp hw with hw | hw
  · simp only [List.mem_cons, List.not_mem_nil, or_false] at hw
    rcases hw with rfl | rfl | rfl
    · exact G_good _ h1
    · exact G_good _ h2
    · exact G_good _ h4
  · exact gdW h5 w hw
/-- a static method of another class -/
theorem r_callXi (C : Cx X cc own nL rm) {y : MethodName} {bytes : ByteArray} {nL2 nA i : Nat} {ret : Option FieldType} {rm2 : Room} {Q : Int32 → HS → Prop} (As : List Value) (hY : YS y bytes nL2 ret nA) (hw : Cond.methodLink own i y ∈ G) (hM : MI (xl X) y bytes nL2 ret rm2 (xE X) S As Q) (hd : decode cc pc = .ok (.invokestatic i, 3)) (hst : st = As.reverse ++ rest) (hn : As.length = nA) (hsum : (rest.map fun v => v.category).sum ≤ 8) (hrm : rm2.frames + 1 ≤ rm.frames ∧ 8 + (nL2 + 11) + rm2.locals ≤ rm.locals) (hz : rm2.cells = 0 ∧ rm2.slots = 0) (hcs : k ≤ rm.cells ∧ n ≤ rm.slots) (h : ∀ (r : Int32) (T : HS), Q r T → Gr S T → WS X nL k n (pc + 3) lv (.int r :: rest) T) : WS X nL k n pc lv st S := fun H locs ls hP hD hS hG hv => by
  have hR := C.2.2.2.2.2.2.2
  obtain ⟨w2, w4, w5, w6, w7, w8⟩ := hY
  have hcs' : k + rm2.cells ≤ rm.cells ∧ n + rm2.slots ≤ rm.slots := by rw [hz.1, hz.2]; exact hcs
  refine va_calli (va_runS (As := As) (rest := rest) ⟨C.1, C.2.1, C.2.2.1, C.2.2.2.1, C.2.2.2.2.1⟩ (hM H.size) (va_cwS nA C.2.2.2.2.1 (gdS2 hw w2 w4 w5) rfl rfl rfl ⟨w6, w7, w8⟩ (by rw [hR]; exact hrm)) ⟨mP_blind _ _ _ _, pl_pre C As hP hD hS⟩ rfl hn hv.1 hst (lv_room hsum) hd (by rw [hR]; exact hcs')) hS (fun q _ h => pl_free C hD hS q h) (pl_free C hD hS) (fun r u t H1 locs1 ht hvm hp hB hz' hk hS1 => ?_)
  have hP1 := hB.1
  rw [ht] at hP1
  have hh := h r u hp hB.2.2 H1 locs1 ls hP1 (hB.2.1.weaken (fun _ q _ z => pl_free C hD hS q.1 z)) hS1 (gr_tr hG hB.2.2) hv
  rw [hz.1, hz.2]
  exact hh
theorem r_callXv (C : Cx X cc own nL rm) {y : MethodName} {bytes : ByteArray} {nL2 nA i : Nat} {ret : Option FieldType} {rm2 : Room} {Q : HS → Prop} (As : List Value) (hY : YS y bytes nL2 ret nA) (hw : Cond.methodLink own i y ∈ G) (hM : MV (xl X) y bytes nL2 ret rm2 (xE X) S As Q) (hd : decode cc pc = .ok (.invokestatic i, 3)) (hst : st = As.reverse ++ rest) (hn : As.length = nA) (hsum : (rest.map fun v => v.category).sum ≤ 8) (hrm : rm2.frames + 1 ≤ rm.frames ∧ 8 + (nL2 + 11) + rm2.locals ≤ rm.locals) (hz : rm2.cells = 0 ∧ rm2.slots = 0) (hcs : k ≤ rm.cells ∧ n ≤ rm.slots) (h : ∀ (T : HS), Q T → Gr S T → WS X nL k n (pc + 3) lv rest T) : WS X nL k n pc lv st S := fun H locs ls hP hD hS hG hv => by
  have hR := C.2.2.2.2.2.2.2
  obtain ⟨w2, w4, w5, w6, w7, w8⟩ := hY
  have hcs' : k + rm2.cells ≤ rm.cells ∧ n + rm2.slots ≤ rm.slots := by rw [hz.1, hz.2]; exact hcs
  refine va_callv (va_runS (As := As) (rest := rest) ⟨C.1, C.2.1, C.2.2.1, C.2.2.2.1, C.2.2.2.2.1⟩ (hM H.size) (va_cwS nA C.2.2.2.2.1 (gdS2 hw w2 w4 w5) rfl rfl rfl ⟨w6, w7, w8⟩ (by rw [hR]; exact hrm)) ⟨mP_blind _ _ _ _, pl_pre C As hP hD hS⟩ rfl hn hv.1 hst (lv_room hsum) hd (by rw [hR]; exact hcs')) hS (fun q _ h => pl_free C hD hS q h) (pl_free C hD hS) (fun u t H1 locs1 ht hvm hp hB hz' hk hS1 => ?_)
  have hP1 := hB.1
  rw [ht] at hP1
  have hh := h u hp hB.2.2 H1 locs1 ls hP1 (hB.2.1.weaken (fun _ q _ z => pl_free C hD hS q.1 z)) hS1 (gr_tr hG hB.2.2) hv
  rw [hz.1, hz.2]
  exact hh
end Str
def rm_st0 : Room := { frames := 0, cells := 0, slots := 0, locals := 0 }
def rm_len : Room := { frames := 1, cells := 0, slots := 0, locals := 20 }
theorem c_coder {l : Launch} {Ee : EE} {S : HS} {w : Nat} (hi : w < 54) : MI l yJ0_coder_7d493 cJ0_coder_7d493 1 (some .byte) rm_st0 Ee S [.ref (eK Ee w)] (fun r T => r = 0 ∧ T = S) :=
  openI (by decide) (Nat.le_of_ble_eq_true rfl) (fun X C E ht hn hE hl => by
    subst hE
    refine r_getCS (pc := 0) C g_470 dJ0_coder_7d493_0 ?_
    refine r_if_eq (pc := 3) C (tgt := 13) dJ0_coder_7d493_3 (by decide) (fun c => absurd c (by decide)) (fun _ => ?_)
    refine r_aload_n (pc := 6) C dJ0_coder_7d493_6 0 rfl ?_
    refine r_getSF (pc := 7) C (ev_ss C w hi).2.1 g_1873 dJ0_coder_7d493_7 ?_
    refine r_goto (pc := 10) C (tgt := 14) dJ0_coder_7d493_10 (by decide) ?_
    exact r_nret (pc := 14) C E ht rfl dJ0_coder_7d493_14 (by decide) (by decide) ⟨rfl, rfl⟩)
theorem c_isLatin1 {l : Launch} {Ee : EE} {S : HS} {w : Nat} (hi : w < 54) : MI l yJ0_isLatin1_aae02 cJ0_isLatin1_aae02 1 (some .boolean) rm_st0 Ee S [.ref (eK Ee w)] (fun r T => r = 1 ∧ T = S) :=
  openI (by decide) (Nat.le_of_ble_eq_true rfl) (fun X C E ht hn hE hl => by
    subst hE
    refine r_getCS (pc := 0) C g_470 dJ0_isLatin1_aae02_0 ?_
    refine r_if_eq (pc := 3) C (tgt := 17) dJ0_isLatin1_aae02_3 (by decide) (fun c => absurd c (by decide)) (fun _ => ?_)
    refine r_aload_n (pc := 6) C dJ0_isLatin1_aae02_6 0 rfl ?_
    refine r_getSF (pc := 7) C (ev_ss C w hi).2.1 g_1873 dJ0_isLatin1_aae02_7 ?_
    refine r_if_ne (pc := 10) C (tgt := 17) dJ0_isLatin1_aae02_10 (by decide) (fun c => absurd c (by decide)) (fun _ => ?_)
    refine r_iconst (pc := 13) C (v := (1 : Int32)) dJ0_isLatin1_aae02_13 (by decide) ?_
    refine r_goto (pc := 14) C (tgt := 18) dJ0_isLatin1_aae02_14 (by decide) ?_
    exact r_nret (pc := 18) C E ht rfl dJ0_isLatin1_aae02_18 (by decide) (by decide) ⟨rfl, rfl⟩)
theorem c_length {l : Launch} {Ee : EE} {S : HS} {w : Nat} (hi : w < 54) : MI l yJ0_length_8abf5 cJ0_length_8abf5 1 (some .int) rm_len Ee S [.ref (eK Ee w)] (fun r T => r = nI (sLen.getD w 0) ∧ T = S) :=
  openI (by decide) (Nat.le_of_ble_eq_true rfl) (fun X C E ht hn hE hl => by
    subst hE
    refine r_aload_n (pc := 0) C dJ0_length_8abf5_0 0 rfl ?_
    refine r_getSF (pc := 1) C (ev_ss C w hi).2.2.1 g_1872 dJ0_length_8abf5_1 ?_
    refine r_lenT (pc := 4) C hi dJ0_length_8abf5_4 ?_
    refine r_aload_n (pc := 5) C dJ0_length_8abf5_5 0 rfl ?_
    refine r_callO (pc := 6) C (rest := [.int (nI (sLen.getD w 0))]) hi rfl [] g_467 g_468 g_13 g_469 (by decide +kernel) g_466 (c_coder hi) dJ0_length_8abf5_6 rfl rfl (Nat.le_of_ble_eq_true rfl) ⟨by decide, by decide⟩ ⟨rfl, rfl⟩ ⟨by decide, by decide⟩ (fun r T h _ => ?_)
    obtain ⟨rfl, rfl⟩ := h
    refine r_ishr (pc := 9) C dJ0_length_8abf5_9 ?_
    have e : nI (sLen.getD w 0) >>> ((0 : Int32) &&& 31) = nI (sLen.getD w 0) := by
      have z : (0 : Int32) &&& 31 = 0 := by decide
      rw [z]
      exact Int32.shiftRight_zero
    rw [e]
    exact r_iret (pc := 10) C E ht dJ0_length_8abf5_10 (by decide) (by decide) ⟨rfl, rfl⟩)
theorem r_slen {X : CX} {cc : ByteArray} {own : String} {nL k n pc : Nat} {lv : List (Nat × Value)} {st : List Value} {S : HS} {rm : Room} (C : Cx X cc own nL rm) {i w : Nat} (hw : Cond.methodLink own i yJ0_length_8abf5 ∈ G) (hd : decode cc pc = .ok (.invokevirtual i, 3)) (hi : w < 54) (hf : 2 ≤ rm.frames) (hlo : 40 ≤ rm.locals) (h1 : k ≤ rm.cells) (h2 : n ≤ rm.slots) (hsum : (st.map fun v => v.category).sum ≤ 8) (h : WS X nL k n (pc + 3) lv (.int (nI (sLen.getD w 0)) :: st) S) : WS X nL k n pc lv (.ref (eK (xE X) w) :: st) S := by
  refine r_callO C (rest := st) hi rfl [] g_463 g_464 g_13 g_465 (by decide +kernel) hw (c_length hi) hd rfl rfl hsum ⟨by show 1 + 1 ≤ _; omega, by show 8 + (1 + 11) + 20 ≤ _; omega⟩ ⟨rfl, rfl⟩ ⟨h1, h2⟩ (fun r T h' _ => ?_)
  obtain ⟨rfl, rfl⟩ := h'
  exact h

theorem sch_ok : ∀ w, w < 54 → ∀ k, k < sLen.getD w 0 → (((sByt.getD w []).getD k 0 &&& 255).toUInt32 % 65536).toInt32 = (sByt.getD w []).getD k 0 ∧ ((sByt.getD w []).getD k 0).toUInt32.toUInt16.toUInt32.toInt32 = (sByt.getD w []).getD k 0 := by decide +kernel
def rm_chk : Room := { frames := 1, cells := 0, slots := 0, locals := 22 }
def rm_lch : Room := { frames := 2, cells := 0, slots := 0, locals := 43 }
def rm_cha : Room := { frames := 3, cells := 0, slots := 0, locals := 64 }
theorem c_pcheck {l : Launch} {Ee : EE} {S : HS} {i n : Int32} {v : Value} (hv : v.category = 1) (h0 : ¬ i < 0) (h1 : i < n) : MI l yJ3_checkIndex_8e157 cJ3_checkIndex_8e157 3 (some .int) rm_st0 Ee S [.int i, .int n, v] (fun r T => T = S) :=
  openI (by decide) (by
    have e : (lg_sl [.int i, .int n, v]).length = 3 := by
      cases v <;> first | rfl | exact absurd hv (show ¬ ((2 : Nat) = 1) by decide)
    rw [e]; exact Nat.le_refl 3) (fun X C E ht hn hE hl => by
    subst hE
    refine r_iload_n (pc := 0) C dJ3_checkIndex_8e157_0 0 rfl ?_
    refine r_if_lt (pc := 1) C (tgt := 9) dJ3_checkIndex_8e157_1 (by decide) (fun c => absurd c h0) (fun _ => ?_)
    refine r_iload_n (pc := 4) C dJ3_checkIndex_8e157_4 0 rfl ?_
    refine r_iload_n (pc := 5) C dJ3_checkIndex_8e157_5 1 rfl ?_
    refine r_icmp_lt (pc := 6) C (tgt := 16) dJ3_checkIndex_8e157_6 (by decide) (fun _ => ?_) (fun c => absurd h1 c)
    refine r_iload_n (pc := 16) C dJ3_checkIndex_8e157_16 0 rfl ?_
    exact r_iret (pc := 17) C E ht dJ3_checkIndex_8e157_17 (by decide) (by decide) rfl)
theorem c_check {l : Launch} {Ee : EE} {S : HS} {i n : Int32} (h0 : ¬ i < 0) (h1 : i < n) : MV l yJ0_checkIndex_df160 cJ0_checkIndex_df160 2 none rm_chk Ee S [.int i, .int n] (fun T => T = S) :=
  openV (by decide) (Nat.le_of_ble_eq_true rfl) (fun X C E ht hn hE hl => by
    subst hE
    refine r_iload_n (pc := 0) C dJ0_checkIndex_df160_0 0 rfl ?_
    refine r_iload_n (pc := 1) C dJ0_checkIndex_df160_1 1 rfl ?_
    refine r_getSQ (pc := 2) C g_487 dJ0_checkIndex_df160_2 (fun v hv => ?_)
    refine r_callXi (pc := 5) C (nA := 3) (rest := []) [.int i, .int n, v] ⟨g_490, g_15, g_491, by decide, by decide, by decide +kernel⟩ g_489 (c_pcheck hv h0 h1) dJ0_checkIndex_df160_5 rfl rfl (Nat.le_of_ble_eq_true rfl) ⟨by decide, by decide⟩ ⟨rfl, rfl⟩ ⟨by decide, by decide⟩ (fun r T h _ => ?_)
    subst h
    refine r_pop (pc := 8) C dJ0_checkIndex_df160_8 rfl ?_
    exact r_vret (pc := 9) C E ht dJ0_checkIndex_df160_9 (by decide) (by decide) rfl)
theorem c_lchar {l : Launch} {Ee : EE} {S : HS} {w : Nat} {x : Int32} (hi : w < 54) (hx : vp_in x (sLen.getD w 0)) : MI l yJ1_charAt_3b067 cJ1_charAt_3b067 2 (some .char) rm_lch Ee S [.ref (eV Ee w), .int x] (fun r T => r = sch w x ∧ T = S) :=
  openI (by decide) (Nat.le_of_ble_eq_true rfl) (fun X C E ht hn hE hl => by
    subst hE
    have hlt : x.toNatClampNeg < sLen.getD w 0 := Nat.not_le.mp fun z => hx (Or.inr z)
    have hx0 : ¬ x < 0 := fun z => hx (Or.inl z)
    have hx1 : x < nI (sLen.getD w 0) := by
      have hb := sl_ltS w
      refine Int32.lt_iff_toInt_lt.mpr ?_
      rw [nI_toInt hb]
      have z0 : 0 ≤ x.toInt := by
        have := Int32.le_iff_toInt_le.mp (Int32.not_lt.mp hx0)
        simpa using this
      have : x.toInt.toNat < sLen.getD w 0 := hlt
      omega
    obtain ⟨e1, e2⟩ := sch_ok w hi _ hlt
    refine r_iload_n (pc := 0) C dJ1_charAt_3b067_0 1 rfl ?_
    refine r_aload_n (pc := 1) C dJ1_charAt_3b067_1 0 rfl ?_
    refine r_lenT (pc := 2) C hi dJ1_charAt_3b067_2 ?_
    refine r_callXv (pc := 3) C (nA := 2) (rest := []) [.int x, .int (nI (sLen.getD w 0))] ⟨g_485, g_13, g_486, by decide, by decide, by decide +kernel⟩ g_484 (c_check hx0 hx1) dJ1_charAt_3b067_3 rfl rfl (Nat.le_of_ble_eq_true rfl) ⟨by decide, by decide⟩ ⟨rfl, rfl⟩ ⟨by decide, by decide⟩ (fun T h _ => ?_)
    subst h
    refine r_aload_n (pc := 6) C dJ1_charAt_3b067_6 0 rfl ?_
    refine r_iload_n (pc := 7) C dJ1_charAt_3b067_7 1 rfl ?_
    refine r_baT (pc := 8) C hi hx dJ1_charAt_3b067_8 ?_
    refine r_sipush (pc := 9) C (v := (255 : Int32)) dJ1_charAt_3b067_9 (by decide) ?_
    refine r_iand (pc := 12) C dJ1_charAt_3b067_12 ?_
    refine r_i2c (pc := 13) C dJ1_charAt_3b067_13 (v := sch w x) e1 ?_
    exact r_nret (pc := 14) C E ht (congrArg Value.int e2) dJ1_charAt_3b067_14 (by decide) (by decide) ⟨rfl, rfl⟩)
theorem c_char {l : Launch} {Ee : EE} {S : HS} {w : Nat} {x : Int32} (hi : w < 54) (hx : vp_in x (sLen.getD w 0)) : MI l yJ0_charAt_5068e cJ0_charAt_5068e 2 (some .char) rm_cha Ee S [.ref (eK Ee w), .int x] (fun r T => r = sch w x ∧ T = S) :=
  openI (by decide) (Nat.le_of_ble_eq_true rfl) (fun X C E ht hn hE hl => by
    subst hE
    have hlt : x.toNatClampNeg < sLen.getD w 0 := Nat.not_le.mp fun z => hx (Or.inr z)
    obtain ⟨e1, e2⟩ := sch_ok w hi _ hlt
    refine r_aload_n (pc := 0) C dJ0_charAt_5068e_0 0 rfl ?_
    refine r_callO (pc := 1) C (rest := []) hi rfl [] g_478 g_479 g_13 g_480 (by decide +kernel) g_477 (c_isLatin1 hi) dJ0_charAt_5068e_1 rfl rfl (Nat.le_of_ble_eq_true rfl) ⟨by decide, by decide⟩ ⟨rfl, rfl⟩ ⟨by decide, by decide⟩ (fun r T h _ => ?_)
    obtain ⟨rfl, rfl⟩ := h
    refine r_if_eq (pc := 4) C (tgt := 16) dJ0_charAt_5068e_4 (by decide) (fun c => absurd c (by decide)) (fun _ => ?_)
    refine r_aload_n (pc := 7) C dJ0_charAt_5068e_7 0 rfl ?_
    refine r_getSF (pc := 8) C (ev_ss C w hi).2.2.1 g_1872 dJ0_charAt_5068e_8 ?_
    refine r_iload_n (pc := 11) C dJ0_charAt_5068e_11 1 rfl ?_
    refine r_callXi (pc := 12) C (nA := 2) (rest := []) [.ref (eV (xE X) w), .int x] ⟨g_482, g_14, g_483, by decide, by decide, by decide +kernel⟩ g_481 (c_lchar hi hx) dJ0_charAt_5068e_12 rfl rfl (Nat.le_of_ble_eq_true rfl) ⟨by decide, by decide⟩ ⟨rfl, rfl⟩ ⟨by decide, by decide⟩ (fun r T h _ => ?_)
    obtain ⟨rfl, rfl⟩ := h
    exact r_nret (pc := 15) C E ht (congrArg Value.int e2) dJ0_charAt_5068e_15 (by decide) (by decide) ⟨rfl, rfl⟩)
theorem r_schar {X : CX} {cc : ByteArray} {own : String} {nL k n pc : Nat} {lv : List (Nat × Value)} {st : List Value} {S : HS} {rm : Room} (C : Cx X cc own nL rm) {i w : Nat} {x : Int32} (hw : Cond.methodLink own i yJ0_charAt_5068e ∈ G) (hd : decode cc pc = .ok (.invokevirtual i, 3)) (hi : w < 54) (hx : vp_in x (sLen.getD w 0)) (hf : 5 ≤ rm.frames) (hlo : 120 ≤ rm.locals) (h1 : k ≤ rm.cells) (h2 : n ≤ rm.slots) (hsum : (st.map fun v => v.category).sum ≤ 8) (h : WS X nL k n (pc + 3) lv (.int (sch w x) :: st) S) : WS X nL k n pc lv (.int x :: .ref (eK (xE X) w) :: st) S := by
  refine r_callO C (nA := 1) (rest := st) hi rfl [.int x] g_474 g_475 g_13 g_476 (by decide +kernel) hw (c_char hi hx) hd rfl rfl hsum ⟨by show 3 + 1 ≤ _; omega, by show 8 + (2 + 11) + 64 ≤ _; omega⟩ ⟨rfl, rfl⟩ ⟨h1, h2⟩ (fun r T h' _ => ?_)
  obtain ⟨rfl, rfl⟩ := h'
  exact h
