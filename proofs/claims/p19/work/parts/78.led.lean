section
/-! led: it answers, or throws; the law's own led catches -/
abbrev tE : String := "java/util/NoSuchElementException"
abbrev nE : List String := ["java/lang/RuntimeException", "java/lang/Exception"]
def tB : List Cond := [.castable tE tE, .declares ⟨"java/lang/RuntimeException", "<init>", "()V"⟩, .declares ⟨"java/lang/Exception", "<init>", "()V"⟩, .declares ⟨"java/lang/Throwable", "<init>", "()V"⟩]
theorem tG0 : ∀ w ∈ (vx_at0 RX9 366 tE nE).filter goodWord, w ∈ lw_tbl := by decide +kernel
theorem tG : ∀ w ∈ (vx_at0 RX9 366 tE nE).filter goodWord, w ∈ G := fun w h => List.mem_filter.mpr ⟨tG0 w h, (List.mem_filter.mp h).2⟩
theorem tNo : ∀ w ∈ (vx_at0 RX9 366 tE nE).filter (fun w => !goodWord w), w ∈ tB := by decide +kernel
theorem tOt : ∀ w ∈ Cond.classLink RX9 364 tE :: Cond.initialized tE :: vx_at0 RX9 366 tE nE, vx_ot w = true := by decide +kernel
theorem tBo : ∀ w ∈ tB, w.onTables = true := by
  intro w hw
  simp only [tB, List.mem_cons, List.not_mem_nil, or_false] at hw
  rcases hw with rfl | rfl | rfl | rfl <;> rfl
theorem tBw {s U : State} (hW : s.WarmedH U.vm) (h : ∀ w ∈ tB, va_Nw w s) : ∀ w ∈ tB, va_Nw w U := by
  intro w hw
  have h1 := h w hw
  simp only [tB, List.mem_cons, List.not_mem_nil, or_false] at hw
  rcases hw with rfl | rfl | rfl | rfl
  · exact va_Nw.warmC hW h1
  · exact va_Nw.warmD hW h1
  · exact va_Nw.warmD hW h1
  · exact va_Nw.warmD hW h1
/-- what a throw needs beside EV: two statics of Throwable, four words -/
def XV (A : Nat → Prop) (U : State) (H : Heap) : Prop := vx_Zq Bundle.tN "UNASSIGNED_STACK" Bundle.steD A U H ∧ vx_Zq Bundle.tN "SUPPRESSED_SENTINEL" Bundle.listD A U H ∧ ∀ w ∈ tB, va_Nw w U
theorem XV.call {A0 A1 : Nat → Prop} {s U : State} {H : Heap} {locs : List Loc} (h : XV A0 s s.heap) (hS : va_S A0 s.heap H locs) (hA : ∀ q, A1 q → A0 q) (hW : s.WarmedH U.vm) (hU : U.heap = H) : XV A1 U U.heap := by
  obtain ⟨h1, h2, h3⟩ := h
  have hq : ∀ a : Nat, a < s.heap.size → ¬ A0 a → U.heap[a]? = s.heap[a]? := fun a ha hn => by rw [hU]; exact hS.2.1 a ha hn
  exact ⟨vx_Zq.narrow (vx_Zq.moved hW.alike (vx_Zq.kept h1 hq)) hA, vx_Zq.narrow (vx_Zq.moved hW.alike (vx_Zq.kept h2 hq)) hA, tBw hW h3⟩
def xP (E : EE) (sz : Nat) (S : HS) (av : List Value) : Array Value → State → Prop := fun a U => mP E sz S av a U ∧ XV (mA E S sz) U U.heap
theorem xP_blind (E : EE) (sz : Nat) (S : HS) (av : List Value) : FrameBlind (xP E sz S av) := fun a U g mk q =>
  ⟨mP_blind E sz S av a U g mk q.1, XV.call (s := U) (U := U.calling g mk a) (H := U.heap) (locs := []) q.2 va_S.rf (fun _ h => h) (State.WarmedH.refl U) rfl⟩
def xX (E : EE) (S : HS) (sz : Nat) (QX : HS → Prop) : String → State → State → Prop := vx_X QX (fun En S' t => En = tE ∧ mB E (mA E S sz) S S' t) (mA E S sz)
/-- a contract of a method that answers an int or throws -/
def MX (l : Launch) (y : MethodName) (cc : ByteArray) (nL : Nat) (ret : Option FieldType) (rm : Room) (E : EE) (S : HS) (av : List Value) (Q : Int32 → HS → Prop) (QX : HS → Prop) : Prop := ∀ sz, vx_Met l y (mW y cc nL ret) rm (xP E sz S av) (va_Qi Q (mB E (mA E S sz) S) (mA E S sz)) (xX E S sz QX) rm.cells rm.slots (mA E S sz)
def ReX (X : CX) (rm : Room) (Q : Int32 → HS → Prop) (XC : String → State → State → Prop) : Prop := xQ X = vx_MQ (xb X) (va_Qi Q (mB (xE X) (xA X) (x0 X)) (xA X)) XC (xa X) (xs X) rm.cells rm.slots (xA X) ∧ (xh X).locks = false ∧ (xl X).stackTraces = false ∧ XV (xA X) (xs X) (xs X).heap
def xC (X : CX) (QX : HS → Prop) : String → State → State → Prop := vx_X QX (fun En S' t => En = tE ∧ mB (xE X) (xA X) (x0 X) S' t) (xA X)
/-- q is thrown over the frame at pc -/
def WX (X : CX) (nL k n pc : Nat) (lv : List (Nat × Value)) (rest : List Value) (S : HS) : Prop := ∀ (H : Heap) (locs : List Loc) (ls : Array Slot) (ce : Cell) (q : Nat), va_P (eD (xE X)) vwCl (pw (ey (xE X)) S) H → va_D (xA X) (pw (ey (xE X)) S) → va_S (xA X) (xs X).heap H locs → Gr (x0 X) S → lv_has ls nL lv → H[q]? = some ce → ce.vm = .none → (xs X).vm.findClass tE = some ce.cls → vx_W (xp X) (xl X) (xe X) (xR X) (xs X) (xm X) (xa X) (xb X) (xh X) (xc X) H locs k n (xQ X) (F0 (xm X) pc ls rest) q
section LedRows
variable {X : CX} {cc : ByteArray} {own : String} {nL k n pc : Nat} {lv : List (Nat × Value)} {st rest : List Value} {S : HS} {rm : Room}
theorem xl_pre {H : Heap} {locs : List Loc} (C : Cx X cc own nL rm) (hX : XV (xA X) (xs X) (xs X).heap) (av : List Value) (hP : va_P (eD (xE X)) vwCl (pw (ey (xE X)) S) H) (hD : va_D (xA X) (pw (ey (xE X)) S)) (hS : va_S (xA X) (xs X).heap H locs) : ∀ U : State, U.heap = H → (xs X).WarmedH U.vm → xP (xE X) H.size S av av.toArray U := fun U hU hW => ⟨pl_pre C av hP hD hS U hU hW, XV.call hX hS (pl_free C hD hS) hW hU⟩
theorem r_xiret (C : Cx X cc own nL rm) {Q : Int32 → HS → Prop} {XC : String → State → State → Prop} (E : ReX X rm Q XC) (ht : (xh X).sig.returnType = some .int) {v : Int32} (hd : decode cc pc = .ok (.ireturn, 1)) (h1 : k ≤ rm.cells) (h2 : n ≤ rm.slots) (h : Q v S) : WS X nL k n pc lv [.int v] S := fun H locs ls hP hD hS hG hv => by
  rw [E.1]
  refine vx_ret ?_
  refine W.widen h1 h2 ?_
  exact W.iret C.1 C.2.1 ht (fun t htt _ => ⟨⟨v, S, rfl, h, by rw [htt]; exact hP, hD, hG⟩, hS.F htt⟩) hS.2.2 hd (hlocks := E.2.1)
theorem r_xthrow (C : Cx X cc RX9 nL rm) {Q : Int32 → HS → Prop} {QX : HS → Prop} (E : ReX X rm Q (xC X QX)) (hT : ∀ x ∈ (xc X).exceptionTable.toList, False) (d0 : decode cc pc = .ok (.new 364, 3)) (d3 : decode cc (pc + 3) = .ok (.dup, 1)) (d4 : decode cc (pc + 4) = .ok (.invokespecial 366, 3)) (d7 : decode cc (pc + 7) = .ok (.athrow, 1)) (hf : 5 < rm.frames) (hlo : (st.map fun v => v.category).sum + 81 ≤ rm.locals) (h1 : k + 1 ≤ rm.cells) (h2 : n + 6 ≤ rm.slots) (h : QX S) : WS X nL k n pc lv st S := fun H locs ls hP hD hS hG hv => by
  obtain ⟨e1, e2, e3, e5, e6, e7⟩ := E
  have hR := C.2.2.2.2.2.2.2
  have hw := C.2.2.2.2.1
  rw [e1]
  refine vx_throw0 (own := RX9) (cls := tE) (names := nE) (ik := 364) (ic := 366) (A := xA X) C.1 C.2.1 e3 C.2.2.2.1 (by decide +kernel) (by decide +kernel) (hw _ g_1096) (hw _ g_21) (vx_hat (B := tB) (fun w hz => hw w (tG w hz)) tNo (fun w hz => va_Nw.use (tBo w hz) (e7 w hz))) tOt e5 e6 hS (hv.1.trans C.2.2.1.symm) d0 d3 d4 d7 (fun x hx => (hT x hx).elim) (by rw [hR]; exact hf) (by rw [hR]; exact hlo) (by rw [hR]; exact h1) (by rw [hR]; exact h2) e2 (fun t hvm hz hk => ⟨S, h, ⟨rfl, ?_, hD, hG⟩, ?_⟩) hS.2.2 h1 h2
  · exact hP.kept (fun z q hz' => hk q.1 (hP z q hz').lt)
  · exact ⟨Nat.le_trans hS.1 hz, fun q hq hn => by rw [hk q (Nat.lt_of_lt_of_le hq hS.1)]; exact hS.2.1 q hq hn⟩
theorem r_xcall (C : Cx X cc own nL rm) (hXV : XV (xA X) (xs X) (xs X).heap) {y : MethodName} {bytes : ByteArray} {nL2 nA i ci a : Nat} {ret : Option FieldType} {rm2 : Room} {Q : Int32 → HS → Prop} {QX : HS → Prop} (ho : ob S a ci) (As : List Value) (hY : YV y bytes nL2 ret ci nA) (hw : Cond.methodLink own i y ∈ G) (hM : MX (xl X) y bytes nL2 ret rm2 (xE X) S (.ref a :: As) Q QX) (hd : decode cc pc = .ok (.invokevirtual i, 3)) (hst : st = As.reverse ++ .ref a :: rest) (hn : As.length = nA) (hsum : (rest.map fun v => v.category).sum ≤ 8) (hrm : rm2.frames + 1 ≤ rm.frames ∧ 8 + (nL2 + 11) + rm2.locals ≤ rm.locals) (hcs : k + rm2.cells ≤ rm.cells ∧ n + rm2.slots ≤ rm.slots) (hx : ∀ T : HS, QX T → Gr S T → WX X nL (k + rm2.cells) (n + rm2.slots) pc lv rest T) (h : ∀ (r : Int32) (T : HS), Q r T → Gr S T → WS X nL (k + rm2.cells) (n + rm2.slots) (pc + 3) lv (.int r :: rest) T) : WS X nL k n pc lv st S := fun H locs ls hP hD hS hG hv => by
  have hR := C.2.2.2.2.2.2.2
  obtain ⟨⟨q, hq, hyq⟩, h12, w2, w3, w4, w5, w6, w7, w8⟩ := hY
  obtain ⟨k0, hk0⟩ := pw_get (cy := ey (xE X)) ho.1
  rw [cE_obj ho.2 h12] at hk0
  have hrec : ∃ cell : Cell, H[a]? = some cell ∧ cell.vm.isStatics = false ∧ (xs X).vm.findClass y.cls = some cell.cls := by
    rw [hyq]; exact va_recv C.2.2.2.2.2.1.1 hP hq hk0
  refine vx_calli (vx_runV (As := As) (rest := rest) ⟨C.1, C.2.1, C.2.2.1, C.2.2.2.1, C.2.2.2.2.1⟩ (hM H.size) (cwV nA C.2.2.2.2.1 (gdV hw w2 w3 w4 w5) rfl rfl rfl ⟨rfl, w6, w7, w8⟩ (by rw [hR]; exact hrm)) ⟨xP_blind _ _ _ _, hrec, xl_pre C hXV (.ref a :: As) hP hD hS⟩ rfl hn hv.1 hst (lv_room hsum) hd (by rw [hR]; exact hcs)) hS (fun q _ h => pl_free C hD hS q h) (pl_free C hD hS) (fun q _ h => pl_free C hD hS q h) (fun En ce q9 u t H1 locs1 ht hvm hp hB hz hk hS1 hce hcv hcl => ?_) (fun r u t H1 locs1 ht hvm hp hB hz hk hS1 => ?_)
  · obtain ⟨hEn, hB⟩ := hB
    rw [hEn] at hcl
    have hP1 := hB.1
    rw [ht] at hP1
    exact hx u hp hB.2.2 H1 locs1 ls ce q9 hP1 (hB.2.1.weaken (fun _ q _ z => pl_free C hD hS q.1 z)) hS1 (gr_tr hG hB.2.2) hv hce hcv hcl
  · have hP1 := hB.1
    rw [ht] at hP1
    exact h r u hp hB.2.2 H1 locs1 ls hP1 (hB.2.1.weaken (fun _ q _ z => pl_free C hD hS q.1 z)) hS1 (gr_tr hG hB.2.2) hv
theorem r_xcatch (C : Cx X cc own nL rm) (hXV : XV (xA X) (xs X) (xs X).heap) {x : ExceptionTableEntry} (hT : (xc X).exceptionTable.toList = [x]) (hc : covers x pc = true) (h0 : x.catchType ≠ 0) (hw : Cond.classLink own x.catchType tE ∈ G) (h : ∀ q : Nat, WS X nL k n x.handlerPc lv [.ref q] S) : WX X nL k n pc lv rest S := fun H locs ls ce q hP hD hS hG hv hce hcv hcl =>
  vx_catch C.2.2.2.1 [] x [] hT (fun z hz => nomatch hz) hc h0 (C.2.2.2.2.1 _ hw) (va_Nw.use rfl (hXV.2.2 _ List.mem_cons_self)) hce hcv hcl (h q H locs ls hP hD hS hG hv)
end LedRows
theorem openX {l : Launch} (hl : l.stackTraces = false) {y : MethodName} {cc : ByteArray} {nL : Nat} {ret : Option FieldType} {rm : Room} {E : EE} {S : HS} {av : List Value} {Q : Int32 → HS → Prop} {QX : HS → Prop} (hy : plainName y.cls = true) (hlen : (lg_sl av).length ≤ nL) (body : ∀ X : CX, Cx X cc y.cls nL rm → ReX X rm Q (xC X QX) → (∀ x ∈ (xc X).exceptionTable.toList, False) → (xh X).sig.returnType = ret → xE X = E → xl X = l → WS X nL 0 0 0 (lv_args 0 av) [] S) : MX l y cc nL ret rm E S av Q QX := by
  intro sz
  refine vx_ofW (cc := cc) (maxL := nL) (ret := ret) hy rfl ?_
  intro p e s m args below meth c s₁ B hml htb hv
  obtain ⟨⟨rfl, hsz, hP, hD, hE⟩, hX⟩ := hv
  subst hsz
  have hts := atoms_spec (ws := mW y cc nL ret) B.pre
  have hw := body (p, l, e, rm, s, m, _, below, meth, c, E, S, mA E S s.heap.size, vx_MQ below (va_Qi Q (mB E (mA E S s.heap.size) S) (mA E S s.heap.size)) (xX E S s.heap.size QX) _ s rm.cells rm.slots (mA E S s.heap.size)) ⟨B.exec, B.bytes, hml, findClass_of_methodNamed B.named, fun w h => hts w (List.mem_cons_of_mem _ h), hE, fun q h => Or.inr h, rfl⟩ ⟨rfl, B.notSynchronized, hl, hX⟩ htb B.returns rfl rfl
  have hle := lv_entry av (n := nL) hlen
  rw [lg_entry_eq]
  exact hw s.heap [] _ hP hD.self va_S.rf (gr_rf S) hle
def rm_X9_led : Room := { frames := 6, cells := 1, slots := 6, locals := 81 }
theorem yV_X5_touches : YV yX5_touches cX5_touches 2 (some .boolean) 5 1 := ⟨⟨_, rfl, rfl⟩, by decide, g_1093, g_1094, g_4, g_1095, by decide, by decide, by decide +kernel⟩
theorem yV_X9_led : YV yX9_led cX9_led 4 (some .int) 9 1 := ⟨⟨_, rfl, rfl⟩, by decide, g_1089, g_1090, g_1, g_1091, by decide, by decide, by decide +kernel⟩
theorem led_thr {X : CX} {Q : Int32 → HS → Prop} {QX : HS → Prop} (C : Cx X cX9_led RX9 4 rm_X9_led) (E : ReX X rm_X9_led Q (xC X QX)) (hT : ∀ x ∈ (xc X).exceptionTable.toList, False) {lv : List (Nat × Value)} {S : HS} (h : QX S) : WS X 4 0 0 66 lv [] S :=
  r_xthrow (pc := 66) C E hT dX9_led_66 dX9_led_69 dX9_led_70 dX9_led_73 (by decide) (by decide) (by decide) (by decide) h
theorem led_lt {c : Nat} {v r : Int32} (hc : c ≤ 13) (hv : v = nI c) (hr : r ≤ (12 : Int32)) (hn : ¬ r ≤ v) : c < 12 := by
  have e1 : v.toInt = (c : Int) := by rw [hv]; exact nI_toInt (by omega)
  have e2 : (12 : Int32).toInt = 12 := by decide
  have h1 := Int32.le_iff_toInt_le.mp hr
  have h2 := Int32.lt_iff_toInt_lt.mp (Int32.not_le.mp hn)
  omega
theorem led_in {c : Nat} {v : Int32} (hc : c < 12) (hv : v = nI c) : 0 ≤ v ∧ v < (12 : Int32) := by
  have e1 : v.toInt = (c : Int) := by rw [hv]; exact nI_toInt (by omega)
  have e2 : (12 : Int32).toInt = 12 := by decide
  have e3 : (0 : Int32).toInt = 0 := by decide
  exact ⟨Int32.le_iff_toInt_le.mpr (by omega), Int32.lt_iff_toInt_lt.mpr (by omega)⟩
set_option maxRecDepth 20000 in
set_option maxHeartbeats 4000000 in
theorem led_loop {X : CX} {Q : Int32 → HS → Prop} {QX : HS → Prop} (C : Cx X cX9_led RX9 4 rm_X9_led) (E : ReX X rm_X9_led Q (xC X QX)) (hT : ∀ x ∈ (xc X).exceptionTable.toList, False) (ht : (xh X).sig.returnType = some .int) {v0 : Nat} {v1 : Int32} {S : HS} (hI : IV S) (o0 : ob S v0 9) (hQ : ∀ r, Q r S) (hX : QX S) : ∀ (d c : Nat) (v2 v3 : Int32), c + d = 13 → v3 = nI c → WS X 4 0 0 4 [(0, .ref v0), (1, .int v1), (2, .int v2), (3, .int v3)] [] S := by
  obtain ⟨a1, ea1, o1, -⟩ := sh 1 rfl hI o0
  obtain ⟨a2, ea2, o2, -⟩ := sh 5 rfl hI o0
  obtain ⟨a3, ea3, o3, l3⟩ := shl 17 rfl hI o1
  obtain ⟨a4, ea4, o4, -⟩ := sh 6 rfl hI o2
  have hr := nu 13 rfl hI o1
  intro d
  induction d with
  | zero =>
    intro c v2 v3 hc hv
    refine r_iload_n (pc := 4) C dX9_led_4 3 rfl ?_
    refine r_aload_n (pc := 5) C dX9_led_5 0 rfl ?_
    refine r_getr (pc := 6) C fL_X9_16 dX9_led_6 o0 ea1 ?_
    refine r_geti (pc := 9) C fL_X9_358 dX9_led_9 o1 ?_
    refine r_icmp_ge (pc := 12) C (tgt := 66) dX9_led_12 (by decide) (fun _ => led_thr C E hT hX) (fun cn => ?_)
    have := led_lt (by omega) hv hr.2 cn
    omega
  | succ d ih =>
    intro c v2 v3 hc hv
    refine r_iload_n (pc := 4) C dX9_led_4 3 rfl ?_
    refine r_aload_n (pc := 5) C dX9_led_5 0 rfl ?_
    refine r_getr (pc := 6) C fL_X9_16 dX9_led_6 o0 ea1 ?_
    refine r_geti (pc := 9) C fL_X9_358 dX9_led_9 o1 ?_
    refine r_icmp_ge (pc := 12) C (tgt := 66) dX9_led_12 (by decide) (fun _ => led_thr C E hT hX) (fun cn => ?_)
    have hlt := led_lt (by omega) hv hr.2 cn
    refine r_aload_n (pc := 15) C dX9_led_15 0 rfl ?_
    refine r_getr (pc := 16) C fL_X9_44 dX9_led_16 o0 ea2 ?_
    refine r_callVi0 (pc := 19) C (rest := []) (a := a2) o2 [] yV_X0_isOn g_981 (c_X0_isOn (Q := fun _ T => S = T) (m_X0_isOn hI o2 (fun _ _ _ _ _ e => e))) dX9_led_19 rfl rfl (Nat.le_of_ble_eq_true rfl) ⟨by decide, by decide⟩ ⟨by decide, by decide⟩ ⟨rfl, rfl⟩ (fun x1 S1 h1 _ => ?_)
    have h1 : S = S1 := h1.2
    subst h1
    refine r_if_eq (pc := 22) C (tgt := 66) dX9_led_22 (by decide) (fun _ => led_thr C E hT hX) (fun _ => ?_)
    refine r_aload_n (pc := 25) C dX9_led_25 0 rfl ?_
    refine r_getr (pc := 26) C fL_X9_16 dX9_led_26 o0 ea1 ?_
    refine r_getr (pc := 29) C fL_X9_112 dX9_led_29 o1 ea3 ?_
    refine r_iload_n (pc := 32) C dX9_led_32 3 rfl ?_
    have hin : vp_in v3 (hN S a3) := vin l3 (m := 12) (by decide) (led_in hlt hv)
    obtain ⟨a5, ea5, o5⟩ := ae hI o3 (by decide) (by decide) hin
    replace o5 : ob S a5 5 := o5
    refine r_aald18 (pc := 33) C dX9_led_33 o3 hin ea5 ?_
    refine r_aload_n (pc := 34) C dX9_led_34 0 rfl ?_
    refine r_getr (pc := 35) C fL_X9_44 dX9_led_35 o0 ea2 ?_
    refine r_getr (pc := 38) C fL_X9_287 dX9_led_38 o2 ea4 ?_
    refine r_geti (pc := 41) C fL_X9_291 dX9_led_41 o4 ?_
    refine r_callVi0 (pc := 44) C (rest := []) (a := a5) o5 [.int (fI S a4 0)] yV_X5_touches g_1092 (c_X5_touches (Q := fun _ T => S = T) (m_X5_touches hI o5 (fun _ _ _ _ _ e => e))) dX9_led_44 rfl rfl (Nat.le_of_ble_eq_true rfl) ⟨by decide, by decide⟩ ⟨by decide, by decide⟩ ⟨rfl, rfl⟩ (fun x2 S2 h2 _ => ?_)
    have h2 : S = S2 := h2.2
    subst h2
    have hstep : ∀ w2 : Int32, WS X 4 0 0 60 [(0, .ref v0), (1, .int v1), (2, .int w2), (3, .int v3)] [] S := fun w2 => by
      refine r_iinc (pc := 60) C (v := nI (c + 1)) (lv' := [(3, .int (nI (c + 1))), (0, .ref v0), (1, .int v1), (2, .int w2)]) dX9_led_60 3 rfl ?_ (by decide) rfl ?_
      · rw [hv]; exact nI_1 c
      · refine r_goto (pc := 63) C (tgt := 4) dX9_led_63 (by decide) ?_
        exact r_sub [1, 2, 3, 0] rfl (ih (c + 1) w2 (nI (c + 1)) (by omega) rfl)
    refine r_if_eq (pc := 47) C (tgt := 60) dX9_led_47 (by decide) (fun _ => hstep v2) (fun _ => ?_)
    refine r_iload_n (pc := 50) C dX9_led_50 2 rfl ?_
    refine r_iload_n (pc := 51) C dX9_led_51 1 rfl ?_
    refine r_icmp_ne (pc := 52) C (tgt := 57) dX9_led_52 (by decide) (fun _ => ?_) (fun _ => ?_)
    · obtain ⟨w, ew⟩ : ∃ w : Int32, v2 + Int32.ofInt 1 = w := ⟨_, rfl⟩
      refine r_iinc (pc := 57) C (v := w) (lv' := [(2, .int w), (0, .ref v0), (1, .int v1), (3, .int v3)]) dX9_led_57 2 rfl ew (by decide) rfl ?_
      exact r_sub [1, 2, 0, 3] rfl (hstep w)
    · refine r_iload_n (pc := 55) C dX9_led_55 3 rfl ?_
      exact r_xiret (pc := 56) C E ht dX9_led_56 (by decide) (by decide) (hQ v3)
theorem c_X9_led {l : Launch} (hl : l.stackTraces = false) {Ee : EE} {S : HS} {v0 : Nat} {v1 : Int32} (hI : IV S) (o0 : ob S v0 9) : MX l yX9_led cX9_led 4 (some .int) rm_X9_led Ee S [.ref v0, .int v1] (fun _ T => S = T) (fun T => S = T) :=
  openX hl (by decide) (Nat.le_of_ble_eq_true rfl) (fun X C E hT ht hE hl => by
    subst hE
    refine r_iconst (pc := 0) C (v := (0 : Int32)) dX9_led_0 (by decide) ?_
    refine r_istore_n (pc := 1) C dX9_led_1 rfl (by decide) (lv' := [(2, .int (0 : Int32)), (0, .ref v0), (1, .int v1)]) rfl ?_
    refine r_iconst (pc := 2) C (v := (0 : Int32)) dX9_led_2 (by decide) ?_
    refine r_istore_n (pc := 3) C dX9_led_3 rfl (by decide) (lv' := [(3, .int (0 : Int32)), (2, .int (0 : Int32)), (0, .ref v0), (1, .int v1)]) rfl ?_
    exact r_sub [2, 3, 1, 0] rfl (led_loop C E hT ht hI o0 (fun _ => rfl) rfl 13 0 0 0 rfl nI_0.symm))
/-- an array of one long is none of the reference's own -/
theorem npr1 {S : HS} {a : Nat} (h : SHF S) (l : hN S a = 1) : ∀ x k j, ob S x k → (k, j) ∈ prT → fR S x j ≠ some a := by
  intro x k j ox hp e
  have hd : ∀ p ∈ prT, ∃ t ∈ shT, t.1 = p.1 ∧ t.2.1 = p.2 ∧ t.2.2.2 ≠ 0 ∧ t.2.2.2 ≠ 1 := by decide
  obtain ⟨t, ht, h1, h2, h3, h4⟩ := hd _ hp
  obtain ⟨c, c1, c2, c3⟩ := h t ht x (by rw [h1]; exact ox)
  rw [h2] at c1
  cases c1.symm.trans e
  rcases c3 with c3 | c3
  · exact h3 c3
  · exact h4 (c3.symm.trans l)
theorem iv_one {S : HS} {a j : Nat} {v : Int64} (h : IV S) (l : hN S a = 1) : IV (sJ S a j v) := ⟨h.1, h.2.1, h.2.2.1, h.2.2.2.1, fre_J (npr1 h.1 l) h.2.2.2.2⟩
def rm_L_led : Room := { frames := 7, cells := 1, slots := 6, locals := 104 }
def xW : List Cond := Cond.codeWith yL_led cL_led 4 (some .int) [(0, 9, 12, 13)] :: G
theorem g_cw : Cond.codeWith yL_led cL_led 4 (some .int) [(0, 9, 12, 13)] ∈ G := gT5 126 rfl rfl
def xN (A : Nat → Prop) : String → State → State → Prop := vx_X (S := HS) (fun _ => False) (fun _ _ _ => True) A
set_option maxRecDepth 20000 in
set_option maxHeartbeats 4000000 in
theorem T_L_led {X : CX} {Q : Int32 → HS → Prop} (C : Cx X cL_led RL 4 rm_L_led) (E : ReX X rm_L_led Q (xN (xA X))) (hT : (xc X).exceptionTable.toList = tableOf [(0, 9, 12, 13)]) (ht : (xh X).sig.returnType = some .int) {v0 : Nat} {v1 : Int32} {v2 : Nat} {S : HS} (hI : IV S) (o0 : ob S v0 9) (o2 : ob S v2 14) (l2 : hN S v2 = 1) (hQ : ∀ (r : Int32) (T : HS), IV T → Gr S T → FRI [] [] S T → K2 S T → K7 S T → K8 S T → Q r T) : WS X 4 0 0 0 [(0, .ref v0), (1, .int v1), (2, .ref v2)] [] S := by
  refine r_aload_n (pc := 0) C dL_led_0 2 rfl ?_
  refine r_iconst (pc := 1) C (v := (0 : Int32)) dL_led_1 (by decide) ?_
  refine r_aload_n (pc := 2) C dL_led_2 0 rfl ?_
  refine r_iload_n (pc := 3) C dL_led_3 1 rfl ?_
  refine r_xcall (pc := 4) C E.2.2.2 (rest := [.int 0, .ref v2]) (a := v0) o0 [.int v1] yV_X9_led g_1088 (c_X9_led E.2.2.1 hI o0) dL_led_4 rfl rfl (Nat.le_of_ble_eq_true rfl) ⟨by decide, by decide⟩ ⟨by decide, by decide⟩ (fun T hT2 _ => ?_) (fun r T hT2 _ => ?_)
  · have hT2 : S = T := hT2
    subst hT2
    refine r_xcatch (x := ⟨0, 9, 12, 13⟩) C E.2.2.2 hT (by decide) (by decide) g_1087 (fun q => ?_)
    refine r_astore_n (pc := 12) C dL_led_12 rfl (by decide) (lv' := [(3, .ref q), (0, .ref v0), (1, .int v1), (2, .ref v2)]) rfl ?_
    refine r_iconst (pc := 13) C (v := (1 : Int32)) dL_led_13 (by decide) ?_
    exact r_xiret (pc := 14) C E ht dL_led_14 (by decide) (by decide) (hQ 1 S hI (gr_rf S) (fri_rf [] [] S) (k2_rf S) (k7_rf S) (k8_rf S))
  · have hT2 : S = T := hT2
    subst hT2
    refine r_i2l (pc := 7) C dL_led_7 ?_
    have hin : vp_in (0 : Int32) (hN S v2) := vin l2 (m := 1) (by decide) ⟨by decide, by decide⟩
    refine r_last (pc := 8) C dL_led_8 o2 hin ?_
    refine r_goto (pc := 9) C (tgt := 15) dL_led_9 (by decide) ?_
    refine r_iconst (pc := 15) C (v := (0 : Int32)) dL_led_15 (by decide) ?_
    exact r_xiret (pc := 16) C E ht dL_led_16 (by decide) (by decide) (hQ 0 _ (iv_one hI l2) (gr_rf S) (fri_rf [] [] S) (k2_J (k2_rf S) rfl) (k7_J (k7_rf S) rfl) (k8_J (k8_rf S) rfl))
theorem c_L_led {l : Launch} (hl : l.stackTraces = false) {Ee : EE} {S : HS} {v0 : Nat} {v1 : Int32} {v2 : Nat} {Q : Int32 → HS → Prop} (hI : IV S) (o0 : ob S v0 9) (o2 : ob S v2 14) (l2 : hN S v2 = 1) (hQ : ∀ (r : Int32) (T : HS), IV T → Gr S T → FRI [] [] S T → K2 S T → K7 S T → K8 S T → Q r T) (sz : Nat) : vx_Met l yL_led xW rm_L_led (xP Ee sz S [.ref v0, .int v1, .ref v2]) (va_Qi Q (mB Ee (mA Ee S sz) S) (mA Ee S sz)) (xN (mA Ee S sz)) rm_L_led.cells rm_L_led.slots (mA Ee S sz) := by
  refine vx_ofWH (cc := cL_led) (maxL := 4) (ret := some .int) (by decide) rfl ?_
  intro p e s m args below meth c s₁ B hml hv
  obtain ⟨⟨rfl, hsz, hP, hD, hE⟩, hX⟩ := hv
  subst hsz
  have hts := atoms_spec (ws := xW) B.pre
  have htab := vx_table (x := yL_led) B (hts _ List.mem_cons_self)
  have hw := T_L_led (X := (p, l, e, rm_L_led, s, m, _, below, meth, c, Ee, S, mA Ee S s.heap.size, vx_MQ below (va_Qi Q (mB Ee (mA Ee S s.heap.size) S) (mA Ee S s.heap.size)) (xN (mA Ee S s.heap.size)) _ s rm_L_led.cells rm_L_led.slots (mA Ee S s.heap.size))) (v0 := v0) (v1 := v1) (v2 := v2) ⟨B.exec, B.bytes, hml, findClass_of_methodNamed B.named, fun w h => hts w (List.mem_cons_of_mem _ h), hE, fun q h => Or.inr h, rfl⟩ ⟨rfl, B.notSynchronized, hl, hX⟩ htab B.returns hI o0 o2 l2 hQ
  have hle := lv_entry [.ref v0, .int v1, .ref v2] (n := 4) (Nat.le_of_ble_eq_true rfl)
  rw [lg_entry_eq]
  exact hw s.heap [] _ hP hD.self va_S.rf (gr_rf S) hle
theorem gdL {i : Nat} (hw : Cond.methodLink RL i yL_led ∈ G) : GoodIn G (va_wsS RL i yL_led xW) := fun w h => by
  rcases List.mem_append.mp h with h | h
  · simp only [List.mem_cons, List.not_mem_nil, or_false] at h
    rcases h with rfl | rfl | rfl
    · exact G_good _ hw
    · exact G_good _ (gT5 125 rfl rfl)
    · exact G_good _ g_0
  · rcases List.mem_cons.mp h with rfl | h
    · exact G_good _ g_cw
    · exact G_good _ h
/-- led, called by the law -/
theorem ld_all {X : CX} (C : Cx X cL_law RL 7 rm_L_law) (hl : (xl X).stackTraces = false) (hX : XV (xA X) (xs X) (xs X).heap) : LD X := by
  intro k n pc lv rest S v0 v1 v2 i Q hk hn hd hw hsum hPL h
  obtain ⟨hI, o0, o2, l2, hQ⟩ := hPL
  intro H locs ls hP hD hS hG hv
  have hR := C.2.2.2.2.2.2.2
  refine vx_calli (vx_runSX (hh := [(0, 9, 12, 13)]) (As := [.ref v0, .int v1, .ref v2]) (rest := rest) ⟨C.1, C.2.1, C.2.2.1, C.2.2.2.1, C.2.2.2.2.1⟩ (c_L_led hl hI o0 o2 l2 hQ H.size) (vx_cwSW 3 C.2.2.2.2.1 (gdL hw) rfl rfl rfl ⟨by decide, by decide, by decide +kernel⟩ (by rw [hR]; exact ⟨by decide, by decide⟩)) ⟨xP_blind _ _ _ _, xl_pre C hX _ hP hD hS⟩ rfl rfl hv.1 rfl (lv_room hsum) hd (by rw [hR]; exact ⟨Nat.le_trans (Nat.add_le_add_left (by decide) k) hk, Nat.le_trans (Nat.add_le_add_left (by decide) n) hn⟩)) hS (fun q _ h => pl_free C hD hS q h) (pl_free C hD hS) (fun q _ h => pl_free C hD hS q h) (fun En ce q9 u t H1 locs1 ht hvm hp => hp.elim) (fun r u t H1 locs1 ht hvm hp hB hz hkk hS1 => ?_)
  have hP1 := hB.1
  rw [ht] at hP1
  refine W.widen (k := k + 2) (n := n + 32) (Nat.add_le_add_left (by decide) k) (Nat.add_le_add_left (by decide) n) ?_
  exact h r u hp hB.2.2 H1 locs1 ls hP1 (hB.2.1.weaken (fun _ q _ z => pl_free C hD hS q.1 z)) hS1 (gr_tr hG hB.2.2) hv
end
section
/-! THE START: the strings' cells, out of what the Statement gives -/
theorem bA {a b : Cond} {args : Array Value} {s : State} (h : (Cond.and a b).before args s = true) : a.before args s = true := by
  rw [Cond.before_and, Bool.and_eq_true] at h
  exact h.1
theorem bB {a b : Cond} {args : Array Value} {s : State} (h : (Cond.and a b).before args s = true) : b.before args s = true := by
  rw [Cond.before_and, Bool.and_eq_true] at h
  exact h.2
/-- a string's cell and its bytes' -/
def SC (tm : Term) (N : Nat) (bs : List Int32) (args : Array Value) (A : Nat → Prop) (s : State) (q : Nat × Nat) : Prop := tm.eval args s none [] s = some (.ref q.1) ∧ va_O "java/lang/String" q.1 A s s.heap ∧ va_OF "java/lang/String" "coder" "B" (.int 0) q.1 A s s.heap ∧ va_OF "java/lang/String" "value" "[B" (.ref q.2) q.1 A s s.heap ∧ va_T .byte q.2 N (fun j => .int (bs.getD j 0)) A s s.heap
theorem sof {args : Array Value} {s : State} {tm : Term} {N : Nat} {bs : List Int32} {A : Nat → Prop} (hA : ∀ a : Nat, a < s.heap.size → ¬ A a) (hN : N < 2 ^ 31) (hex : (Cond.exactly tm "java/lang/String").before args s = true) (hco : (Cond.eq (.field tm "java/lang/String" "coder" "B") (.int 0)).before args s = true) (har : (Cond.arrayOf (.field tm "java/lang/String" "value" "[B") .byte).before args s = true) (hle : (Cond.eq (.length (.field tm "java/lang/String" "value" "[B")) (.int (Int32.ofNat N))).before args s = true) (hel : ∀ j : Nat, j < N → (Cond.eq (.elem (.field tm "java/lang/String" "value" "[B") (.int (Int32.ofNat j))) (.int (bs.getD j 0))).before args s = true) : ∃ q : Nat × Nat, SC tm N bs args A s q := by
  obtain ⟨a, c, cA, kA, q1, q2, q3, q4, q5, q6, -⟩ := Cond.exactly_spec (args := args) (first := s) (o := none) (s := s) (idx := []) (t := tm) (cls := "java/lang/String") hex
  obtain ⟨t, ht, hT⟩ := va_Tof (f := fun j => .int (bs.getD j 0)) (A := A) hN har (va_eqt hle) (fun j hj => va_eqt (hel j hj)) hA
  exact ⟨(a, t), q1, va_Oof hex q1 hA, vk_OFof q1 (va_eqt hco) hA, vk_OFof q1 ht hA, hT⟩
theorem st_0 {args : Array Value} {s : State} {A : Nat → Prop} (hn : narrow_1.before args s = true) (hA : ∀ a : Nat, a < s.heap.size → ¬ A a) : ∃ q : Nat × Nat, SC (.string "RainWalk$Reader" 34) 5 [119, 111, 114, 108, 100] args A s q := by
  refine sof hA (by decide) (bA (bB (bB (bA (bB (bA (bA (bA (bA hn))))))))) (bB (bB (bB (bA (bB (bA (bA (bA (bA hn))))))))) (bA (bA (bA (bB (bB (bA (bA (bA (bA hn))))))))) (bB (bA (bA (bB (bB (bA (bA (bA (bA hn))))))))) ?_
  intro j hj
  match j, hj with
  | 0, _ => exact bA (bB (bA (bB (bB (bA (bA (bA (bA hn))))))))
  | 1, _ => exact bB (bB (bA (bB (bB (bA (bA (bA (bA hn))))))))
  | 2, _ => exact bA (bA (bB (bB (bB (bA (bA (bA (bA hn))))))))
  | 3, _ => exact bB (bA (bB (bB (bB (bA (bA (bA (bA hn))))))))
  | 4, _ => exact bA (bB (bB (bB (bB (bA (bA (bA (bA hn))))))))
  | j + 5, hj => exact absurd hj (by omega)
theorem st_1 {args : Array Value} {s : State} {A : Nat → Prop} (hn : narrow_1.before args s = true) (hA : ∀ a : Nat, a < s.heap.size → ¬ A a) : ∃ q : Nat × Nat, SC (.string "RainWalk$Reader" 179) 4 [104, 111, 117, 114] args A s q := by
  refine sof hA (by decide) (bB (bB (bB (bB (bB (bA (bA (bA (bA hn))))))))) (bA (bA (bA (bA (bA (bB (bA (bA (bA hn))))))))) (bB (bA (bA (bA (bA (bB (bA (bA (bA hn))))))))) (bA (bB (bA (bA (bA (bB (bA (bA (bA hn))))))))) ?_
  intro j hj
  match j, hj with
  | 0, _ => exact bB (bB (bA (bA (bA (bB (bA (bA (bA hn))))))))
  | 1, _ => exact bA (bA (bB (bA (bA (bB (bA (bA (bA hn))))))))
  | 2, _ => exact bB (bA (bB (bA (bA (bB (bA (bA (bA hn))))))))
  | 3, _ => exact bA (bB (bB (bA (bA (bB (bA (bA (bA hn))))))))
  | j + 4, hj => exact absurd hj (by omega)
theorem st_2 {args : Array Value} {s : State} {A : Nat → Prop} (hn : narrow_1.before args s = true) (hA : ∀ a : Nat, a < s.heap.size → ¬ A a) : ∃ q : Nat × Nat, SC (.string "RainWalk$Reader" 43) 4 [114, 97, 105, 110] args A s q := by
  refine sof hA (by decide) (bB (bB (bB (bA (bA (bB (bA (bA (bA hn))))))))) (bA (bA (bA (bB (bA (bB (bA (bA (bA hn))))))))) (bB (bA (bA (bB (bA (bB (bA (bA (bA hn))))))))) (bA (bB (bA (bB (bA (bB (bA (bA (bA hn))))))))) ?_
  intro j hj
  match j, hj with
  | 0, _ => exact bB (bB (bA (bB (bA (bB (bA (bA (bA hn))))))))
  | 1, _ => exact bA (bA (bB (bB (bA (bB (bA (bA (bA hn))))))))
  | 2, _ => exact bB (bA (bB (bB (bA (bB (bA (bA (bA hn))))))))
  | 3, _ => exact bA (bB (bB (bB (bA (bB (bA (bA (bA hn))))))))
  | j + 4, hj => exact absurd hj (by omega)
theorem st_3 {args : Array Value} {s : State} {A : Nat → Prop} (hn : narrow_1.before args s = true) (hA : ∀ a : Nat, a < s.heap.size → ¬ A a) : ∃ q : Nat × Nat, SC (.string "RainWalk$Reader" 191) 5 [100, 114, 111, 112, 115] args A s q := by
  refine sof hA (by decide) (bB (bB (bB (bB (bA (bB (bA (bA (bA hn))))))))) (bA (bA (bA (bA (bB (bB (bA (bA (bA hn))))))))) (bB (bA (bA (bA (bB (bB (bA (bA (bA hn))))))))) (bA (bB (bA (bA (bB (bB (bA (bA (bA hn))))))))) ?_
  intro j hj
  match j, hj with
  | 0, _ => exact bB (bB (bA (bA (bB (bB (bA (bA (bA hn))))))))
  | 1, _ => exact bA (bA (bB (bA (bB (bB (bA (bA (bA hn))))))))
  | 2, _ => exact bB (bA (bB (bA (bB (bB (bA (bA (bA hn))))))))
  | 3, _ => exact bA (bB (bB (bA (bB (bB (bA (bA (bA hn))))))))
  | 4, _ => exact bB (bB (bB (bA (bB (bB (bA (bA (bA hn))))))))
  | j + 5, hj => exact absurd hj (by omega)
theorem st_4 {args : Array Value} {s : State} {A : Nat → Prop} (hn : narrow_1.before args s = true) (hA : ∀ a : Nat, a < s.heap.size → ¬ A a) : ∃ q : Nat × Nat, SC (.string "RainWalk$Reader" 197) 4 [100, 111, 119, 110] args A s q := by
  refine sof hA (by decide) (bA (bA (bA (bB (bB (bB (bA (bA (bA hn))))))))) (bB (bA (bA (bB (bB (bB (bA (bA (bA hn))))))))) (bA (bB (bA (bB (bB (bB (bA (bA (bA hn))))))))) (bB (bB (bA (bB (bB (bB (bA (bA (bA hn))))))))) ?_
  intro j hj
  match j, hj with
  | 0, _ => exact bA (bA (bB (bB (bB (bB (bA (bA (bA hn))))))))
  | 1, _ => exact bB (bA (bB (bB (bB (bB (bA (bA (bA hn))))))))
  | 2, _ => exact bA (bB (bB (bB (bB (bB (bA (bA (bA hn))))))))
  | 3, _ => exact bB (bB (bB (bB (bB (bB (bA (bA (bA hn))))))))
  | j + 4, hj => exact absurd hj (by omega)
theorem st_5 {args : Array Value} {s : State} {A : Nat → Prop} (hn : narrow_1.before args s = true) (hA : ∀ a : Nat, a < s.heap.size → ¬ A a) : ∃ q : Nat × Nat, SC (.string "RainWalk$Reader" 201) 4 [119, 105, 110, 100] args A s q := by
  refine sof hA (by decide) (bA (bA (bA (bA (bA (bB (bA (bA hn)))))))) (bA (bB (bA (bA (bA (bA (bB (bA (bA hn))))))))) (bB (bB (bA (bA (bA (bA (bB (bA (bA hn))))))))) (bA (bA (bB (bA (bA (bA (bB (bA (bA hn))))))))) ?_
  intro j hj
  match j, hj with
  | 0, _ => exact bB (bA (bB (bA (bA (bA (bB (bA (bA hn))))))))
  | 1, _ => exact bA (bB (bB (bA (bA (bA (bB (bA (bA hn))))))))
  | 2, _ => exact bB (bB (bB (bA (bA (bA (bB (bA (bA hn))))))))
  | 3, _ => exact bA (bA (bA (bB (bA (bA (bB (bA (bA hn))))))))
  | j + 4, hj => exact absurd hj (by omega)
theorem st_6 {args : Array Value} {s : State} {A : Nat → Prop} (hn : narrow_1.before args s = true) (hA : ∀ a : Nat, a < s.heap.size → ¬ A a) : ∃ q : Nat × Nat, SC (.string "RainWalk$Reader" 156) 5 [110, 111, 114, 116, 104] args A s q := by
  refine sof hA (by decide) (bB (bA (bA (bB (bA (bA (bB (bA (bA hn))))))))) (bA (bB (bA (bB (bA (bA (bB (bA (bA hn))))))))) (bB (bB (bA (bB (bA (bA (bB (bA (bA hn))))))))) (bA (bA (bB (bB (bA (bA (bB (bA (bA hn))))))))) ?_
  intro j hj
  match j, hj with
  | 0, _ => exact bB (bA (bB (bB (bA (bA (bB (bA (bA hn))))))))
  | 1, _ => exact bA (bB (bB (bB (bA (bA (bB (bA (bA hn))))))))
  | 2, _ => exact bB (bB (bB (bB (bA (bA (bB (bA (bA hn))))))))
  | 3, _ => exact bA (bA (bA (bA (bB (bA (bB (bA (bA hn))))))))
  | 4, _ => exact bB (bA (bA (bA (bB (bA (bB (bA (bA hn))))))))
  | j + 5, hj => exact absurd hj (by omega)
theorem st_7 {args : Array Value} {s : State} {A : Nat → Prop} (hn : narrow_1.before args s = true) (hA : ∀ a : Nat, a < s.heap.size → ¬ A a) : ∃ q : Nat × Nat, SC (.string "RainWalk$Reader" 158) 4 [101, 97, 115, 116] args A s q := by
  refine sof hA (by decide) (bA (bB (bA (bA (bB (bA (bB (bA (bA hn))))))))) (bB (bB (bA (bA (bB (bA (bB (bA (bA hn))))))))) (bA (bA (bB (bA (bB (bA (bB (bA (bA hn))))))))) (bB (bA (bB (bA (bB (bA (bB (bA (bA hn))))))))) ?_
  intro j hj
  match j, hj with
  | 0, _ => exact bA (bB (bB (bA (bB (bA (bB (bA (bA hn))))))))
  | 1, _ => exact bB (bB (bB (bA (bB (bA (bB (bA (bA hn))))))))
  | 2, _ => exact bA (bA (bA (bB (bB (bA (bB (bA (bA hn))))))))
  | 3, _ => exact bB (bA (bA (bB (bB (bA (bB (bA (bA hn))))))))
  | j + 4, hj => exact absurd hj (by omega)
theorem st_8 {args : Array Value} {s : State} {A : Nat → Prop} (hn : narrow_1.before args s = true) (hA : ∀ a : Nat, a < s.heap.size → ¬ A a) : ∃ q : Nat × Nat, SC (.string "RainWalk$Reader" 160) 5 [115, 111, 117, 116, 104] args A s q := by
  refine sof hA (by decide) (bA (bB (bA (bB (bB (bA (bB (bA (bA hn))))))))) (bB (bB (bA (bB (bB (bA (bB (bA (bA hn))))))))) (bA (bA (bB (bB (bB (bA (bB (bA (bA hn))))))))) (bB (bA (bB (bB (bB (bA (bB (bA (bA hn))))))))) ?_
  intro j hj
  match j, hj with
  | 0, _ => exact bA (bB (bB (bB (bB (bA (bB (bA (bA hn))))))))
  | 1, _ => exact bB (bB (bB (bB (bB (bA (bB (bA (bA hn))))))))
  | 2, _ => exact bA (bA (bA (bA (bA (bB (bB (bA (bA hn))))))))
  | 3, _ => exact bB (bA (bA (bA (bA (bB (bB (bA (bA hn))))))))
  | 4, _ => exact bA (bB (bA (bA (bA (bB (bB (bA (bA hn))))))))
  | j + 5, hj => exact absurd hj (by omega)
theorem st_9 {args : Array Value} {s : State} {A : Nat → Prop} (hn : narrow_1.before args s = true) (hA : ∀ a : Nat, a < s.heap.size → ¬ A a) : ∃ q : Nat × Nat, SC (.string "RainWalk$Reader" 162) 4 [119, 101, 115, 116] args A s q := by
  refine sof hA (by decide) (bB (bB (bA (bA (bA (bB (bB (bA (bA hn))))))))) (bA (bA (bB (bA (bA (bB (bB (bA (bA hn))))))))) (bB (bA (bB (bA (bA (bB (bB (bA (bA hn))))))))) (bA (bB (bB (bA (bA (bB (bB (bA (bA hn))))))))) ?_
  intro j hj
  match j, hj with
  | 0, _ => exact bB (bB (bB (bA (bA (bB (bB (bA (bA hn))))))))
  | 1, _ => exact bA (bA (bA (bB (bA (bB (bB (bA (bA hn))))))))
  | 2, _ => exact bB (bA (bA (bB (bA (bB (bB (bA (bA hn))))))))
  | 3, _ => exact bA (bB (bA (bB (bA (bB (bB (bA (bA hn))))))))
  | j + 4, hj => exact absurd hj (by omega)
theorem st_10 {args : Array Value} {s : State} {A : Nat → Prop} (hn : narrow_1.before args s = true) (hA : ∀ a : Nat, a < s.heap.size → ¬ A a) : ∃ q : Nat × Nat, SC (.string "RainWalk$Reader" 211) 6 [99, 104, 97, 110, 99, 101] args A s q := by
  refine sof hA (by decide) (bB (bB (bA (bB (bA (bB (bB (bA (bA hn))))))))) (bA (bA (bB (bB (bA (bB (bB (bA (bA hn))))))))) (bB (bA (bB (bB (bA (bB (bB (bA (bA hn))))))))) (bA (bB (bB (bB (bA (bB (bB (bA (bA hn))))))))) ?_
  intro j hj
  match j, hj with
  | 0, _ => exact bB (bB (bB (bB (bA (bB (bB (bA (bA hn))))))))
  | 1, _ => exact bA (bA (bA (bA (bB (bB (bB (bA (bA hn))))))))
  | 2, _ => exact bB (bA (bA (bA (bB (bB (bB (bA (bA hn))))))))
  | 3, _ => exact bA (bB (bA (bA (bB (bB (bB (bA (bA hn))))))))
  | 4, _ => exact bB (bB (bA (bA (bB (bB (bB (bA (bA hn))))))))
  | 5, _ => exact bA (bA (bB (bA (bB (bB (bB (bA (bA hn))))))))
  | j + 6, hj => exact absurd hj (by omega)
theorem st_11 {args : Array Value} {s : State} {A : Nat → Prop} (hn : narrow_1.before args s = true) (hA : ∀ a : Nat, a < s.heap.size → ¬ A a) : ∃ q : Nat × Nat, SC (.string "RainWalk$Reader" 56) 5 [112, 108, 97, 99, 101] args A s q := by
  refine sof hA (by decide) (bB (bA (bB (bA (bB (bB (bB (bA (bA hn))))))))) (bA (bB (bB (bA (bB (bB (bB (bA (bA hn))))))))) (bB (bB (bB (bA (bB (bB (bB (bA (bA hn))))))))) (bA (bA (bA (bB (bB (bB (bB (bA (bA hn))))))))) ?_
  intro j hj
  match j, hj with
  | 0, _ => exact bB (bA (bA (bB (bB (bB (bB (bA (bA hn))))))))
  | 1, _ => exact bA (bB (bA (bB (bB (bB (bB (bA (bA hn))))))))
  | 2, _ => exact bB (bB (bA (bB (bB (bB (bB (bA (bA hn))))))))
  | 3, _ => exact bA (bA (bB (bB (bB (bB (bB (bA (bA hn))))))))
  | 4, _ => exact bB (bA (bB (bB (bB (bB (bB (bA (bA hn))))))))
  | j + 5, hj => exact absurd hj (by omega)
theorem st_12 {args : Array Value} {s : State} {A : Nat → Prop} (hn : narrow_1.before args s = true) (hA : ∀ a : Nat, a < s.heap.size → ¬ A a) : ∃ q : Nat × Nat, SC (.string "RainWalk$Reader" 64) 4 [114, 111, 97, 100] args A s q := by
  refine sof hA (by decide) (bA (bB (bB (bB (bB (bB (bB (bA (bA hn))))))))) (bB (bB (bB (bB (bB (bB (bB (bA (bA hn))))))))) (bA (bA (bA (bA (bA (bA (bB (bA hn)))))))) (bA (bB (bA (bA (bA (bA (bA (bB (bA hn))))))))) ?_
  intro j hj
  match j, hj with
  | 0, _ => exact bB (bB (bA (bA (bA (bA (bA (bB (bA hn))))))))
  | 1, _ => exact bA (bA (bB (bA (bA (bA (bA (bB (bA hn))))))))
  | 2, _ => exact bB (bA (bB (bA (bA (bA (bA (bB (bA hn))))))))
  | 3, _ => exact bA (bB (bB (bA (bA (bA (bA (bB (bA hn))))))))
  | j + 4, hj => exact absurd hj (by omega)
theorem st_13 {args : Array Value} {s : State} {A : Nat → Prop} (hn : narrow_1.before args s = true) (hA : ∀ a : Nat, a < s.heap.size → ¬ A a) : ∃ q : Nat × Nat, SC (.string "RainWalk$Reader" 72) 6 [119, 97, 108, 107, 101, 114] args A s q := by
  refine sof hA (by decide) (bB (bB (bB (bA (bA (bA (bA (bB (bA hn))))))))) (bA (bA (bA (bB (bA (bA (bA (bB (bA hn))))))))) (bB (bA (bA (bB (bA (bA (bA (bB (bA hn))))))))) (bA (bB (bA (bB (bA (bA (bA (bB (bA hn))))))))) ?_
  intro j hj
  match j, hj with
  | 0, _ => exact bB (bB (bA (bB (bA (bA (bA (bB (bA hn))))))))
  | 1, _ => exact bA (bA (bB (bB (bA (bA (bA (bB (bA hn))))))))
  | 2, _ => exact bB (bA (bB (bB (bA (bA (bA (bB (bA hn))))))))
  | 3, _ => exact bA (bB (bB (bB (bA (bA (bA (bB (bA hn))))))))
  | 4, _ => exact bB (bB (bB (bB (bA (bA (bA (bB (bA hn))))))))
  | 5, _ => exact bA (bA (bA (bA (bB (bA (bA (bB (bA hn))))))))
  | j + 6, hj => exact absurd hj (by omega)
theorem st_14 {args : Array Value} {s : State} {A : Nat → Prop} (hn : narrow_1.before args s = true) (hA : ∀ a : Nat, a < s.heap.size → ¬ A a) : ∃ q : Nat × Nat, SC (.string "RainWalk$Reader" 80) 4 [115, 101, 101, 110] args A s q := by
  refine sof hA (by decide) (bB (bA (bA (bA (bB (bA (bA (bB (bA hn))))))))) (bA (bB (bA (bA (bB (bA (bA (bB (bA hn))))))))) (bB (bB (bA (bA (bB (bA (bA (bB (bA hn))))))))) (bA (bA (bB (bA (bB (bA (bA (bB (bA hn))))))))) ?_
  intro j hj
  match j, hj with
  | 0, _ => exact bB (bA (bB (bA (bB (bA (bA (bB (bA hn))))))))
  | 1, _ => exact bA (bB (bB (bA (bB (bA (bA (bB (bA hn))))))))
  | 2, _ => exact bB (bB (bB (bA (bB (bA (bA (bB (bA hn))))))))
  | 3, _ => exact bA (bA (bA (bB (bB (bA (bA (bB (bA hn))))))))
  | j + 4, hj => exact absurd hj (by omega)
theorem st_15 {args : Array Value} {s : State} {A : Nat → Prop} (hn : narrow_1.before args s = true) (hA : ∀ a : Nat, a < s.heap.size → ¬ A a) : ∃ q : Nat × Nat, SC (.string "RainWalk$Reader" 164) 3 [105, 110, 110] args A s q := by
  refine sof hA (by decide) (bB (bA (bA (bB (bB (bA (bA (bB (bA hn))))))))) (bA (bB (bA (bB (bB (bA (bA (bB (bA hn))))))))) (bB (bB (bA (bB (bB (bA (bA (bB (bA hn))))))))) (bA (bA (bB (bB (bB (bA (bA (bB (bA hn))))))))) ?_
  intro j hj
  match j, hj with
  | 0, _ => exact bB (bA (bB (bB (bB (bA (bA (bB (bA hn))))))))
  | 1, _ => exact bA (bB (bB (bB (bB (bA (bA (bB (bA hn))))))))
  | 2, _ => exact bB (bB (bB (bB (bB (bA (bA (bB (bA hn))))))))
  | j + 3, hj => exact absurd hj (by omega)
theorem st_16 {args : Array Value} {s : State} {A : Nat → Prop} (hn : narrow_1.before args s = true) (hA : ∀ a : Nat, a < s.heap.size → ¬ A a) : ∃ q : Nat × Nat, SC (.string "RainWalk$Reader" 166) 4 [116, 114, 101, 101] args A s q := by
  refine sof hA (by decide) (bA (bA (bA (bA (bA (bB (bA (bB (bA hn))))))))) (bB (bA (bA (bA (bA (bB (bA (bB (bA hn))))))))) (bA (bB (bA (bA (bA (bB (bA (bB (bA hn))))))))) (bB (bB (bA (bA (bA (bB (bA (bB (bA hn))))))))) ?_
  intro j hj
  match j, hj with
  | 0, _ => exact bA (bA (bB (bA (bA (bB (bA (bB (bA hn))))))))
  | 1, _ => exact bB (bA (bB (bA (bA (bB (bA (bB (bA hn))))))))
  | 2, _ => exact bA (bB (bB (bA (bA (bB (bA (bB (bA hn))))))))
  | 3, _ => exact bB (bB (bB (bA (bA (bB (bA (bB (bA hn))))))))
  | j + 4, hj => exact absurd hj (by omega)
theorem st_17 {args : Array Value} {s : State} {A : Nat → Prop} (hn : narrow_1.before args s = true) (hA : ∀ a : Nat, a < s.heap.size → ¬ A a) : ∃ q : Nat × Nat, SC (.string "RainWalk$Reader" 168) 6 [97, 119, 110, 105, 110, 103] args A s q := by
  refine sof hA (by decide) (bA (bA (bA (bB (bA (bB (bA (bB (bA hn))))))))) (bB (bA (bA (bB (bA (bB (bA (bB (bA hn))))))))) (bA (bB (bA (bB (bA (bB (bA (bB (bA hn))))))))) (bB (bB (bA (bB (bA (bB (bA (bB (bA hn))))))))) ?_
  intro j hj
  match j, hj with
  | 0, _ => exact bA (bA (bB (bB (bA (bB (bA (bB (bA hn))))))))
  | 1, _ => exact bB (bA (bB (bB (bA (bB (bA (bB (bA hn))))))))
  | 2, _ => exact bA (bB (bB (bB (bA (bB (bA (bB (bA hn))))))))
  | 3, _ => exact bB (bB (bB (bB (bA (bB (bA (bB (bA hn))))))))
  | 4, _ => exact bA (bA (bA (bA (bB (bB (bA (bB (bA hn))))))))
  | 5, _ => exact bB (bA (bA (bA (bB (bB (bA (bB (bA hn))))))))
  | j + 6, hj => exact absurd hj (by omega)
theorem st_18 {args : Array Value} {s : State} {A : Nat → Prop} (hn : narrow_1.before args s = true) (hA : ∀ a : Nat, a < s.heap.size → ¬ A a) : ∃ q : Nat × Nat, SC (.string "RainWalk$Reader" 262) 4 [98, 101, 110, 116] args A s q := by
  refine sof hA (by decide) (bA (bB (bA (bA (bB (bB (bA (bB (bA hn))))))))) (bB (bB (bA (bA (bB (bB (bA (bB (bA hn))))))))) (bA (bA (bB (bA (bB (bB (bA (bB (bA hn))))))))) (bB (bA (bB (bA (bB (bB (bA (bB (bA hn))))))))) ?_
  intro j hj
  match j, hj with
  | 0, _ => exact bA (bB (bB (bA (bB (bB (bA (bB (bA hn))))))))
  | 1, _ => exact bB (bB (bB (bA (bB (bB (bA (bB (bA hn))))))))
  | 2, _ => exact bA (bA (bA (bB (bB (bB (bA (bB (bA hn))))))))
  | 3, _ => exact bB (bA (bA (bB (bB (bB (bA (bB (bA hn))))))))
  | j + 4, hj => exact absurd hj (by omega)
theorem st_19 {args : Array Value} {s : State} {A : Nat → Prop} (hn : narrow_1.before args s = true) (hA : ∀ a : Nat, a < s.heap.size → ¬ A a) : ∃ q : Nat × Nat, SC (.string "RainWalk$Reader" 267) 4 [99, 111, 97, 116] args A s q := by
  refine sof hA (by decide) (bA (bB (bA (bB (bB (bB (bA (bB (bA hn))))))))) (bB (bB (bA (bB (bB (bB (bA (bB (bA hn))))))))) (bA (bA (bB (bB (bB (bB (bA (bB (bA hn))))))))) (bB (bA (bB (bB (bB (bB (bA (bB (bA hn))))))))) ?_
  intro j hj
  match j, hj with
  | 0, _ => exact bA (bB (bB (bB (bB (bB (bA (bB (bA hn))))))))
  | 1, _ => exact bB (bB (bB (bB (bB (bB (bA (bB (bA hn))))))))
  | 2, _ => exact bA (bA (bA (bA (bA (bB (bB (bA hn)))))))
  | 3, _ => exact bA (bB (bA (bA (bA (bA (bB (bB (bA hn))))))))
  | j + 4, hj => exact absurd hj (by omega)
theorem st_20 {args : Array Value} {s : State} {A : Nat → Prop} (hn : narrow_1.before args s = true) (hA : ∀ a : Nat, a < s.heap.size → ¬ A a) : ∃ q : Nat × Nat, SC (.string "RainWalk$Reader" 269) 6 [115, 104, 105, 101, 108, 100] args A s q := by
  refine sof hA (by decide) (bB (bB (bA (bA (bA (bA (bB (bB (bA hn))))))))) (bA (bA (bB (bA (bA (bA (bB (bB (bA hn))))))))) (bB (bA (bB (bA (bA (bA (bB (bB (bA hn))))))))) (bA (bB (bB (bA (bA (bA (bB (bB (bA hn))))))))) ?_
  intro j hj
  match j, hj with
  | 0, _ => exact bB (bB (bB (bA (bA (bA (bB (bB (bA hn))))))))
  | 1, _ => exact bA (bA (bA (bB (bA (bA (bB (bB (bA hn))))))))
  | 2, _ => exact bB (bA (bA (bB (bA (bA (bB (bB (bA hn))))))))
  | 3, _ => exact bA (bB (bA (bB (bA (bA (bB (bB (bA hn))))))))
  | 4, _ => exact bB (bB (bA (bB (bA (bA (bB (bB (bA hn))))))))
  | 5, _ => exact bA (bA (bB (bB (bA (bA (bB (bB (bA hn))))))))
  | j + 6, hj => exact absurd hj (by omega)
theorem st_21 {args : Array Value} {s : State} {A : Nat → Prop} (hn : narrow_1.before args s = true) (hA : ∀ a : Nat, a < s.heap.size → ¬ A a) : ∃ q : Nat × Nat, SC (.string "RainWalk$Reader" 271) 5 [112, 108, 97, 105, 110] args A s q := by
  refine sof hA (by decide) (bB (bA (bB (bB (bA (bA (bB (bB (bA hn))))))))) (bA (bB (bB (bB (bA (bA (bB (bB (bA hn))))))))) (bB (bB (bB (bB (bA (bA (bB (bB (bA hn))))))))) (bA (bA (bA (bA (bB (bA (bB (bB (bA hn))))))))) ?_
  intro j hj
  match j, hj with
  | 0, _ => exact bB (bA (bA (bA (bB (bA (bB (bB (bA hn))))))))
  | 1, _ => exact bA (bB (bA (bA (bB (bA (bB (bB (bA hn))))))))
  | 2, _ => exact bB (bB (bA (bA (bB (bA (bB (bB (bA hn))))))))
  | 3, _ => exact bA (bA (bB (bA (bB (bA (bB (bB (bA hn))))))))
  | 4, _ => exact bB (bA (bB (bA (bB (bA (bB (bB (bA hn))))))))
  | j + 5, hj => exact absurd hj (by omega)
theorem st_22 {args : Array Value} {s : State} {A : Nat → Prop} (hn : narrow_1.before args s = true) (hA : ∀ a : Nat, a < s.heap.size → ¬ A a) : ∃ q : Nat × Nat, SC (.string "RainWalk$Reader" 276) 5 [98, 114, 111, 97, 100] args A s q := by
  refine sof hA (by decide) (bA (bB (bB (bA (bB (bA (bB (bB (bA hn))))))))) (bB (bB (bB (bA (bB (bA (bB (bB (bA hn))))))))) (bA (bA (bA (bB (bB (bA (bB (bB (bA hn))))))))) (bB (bA (bA (bB (bB (bA (bB (bB (bA hn))))))))) ?_
  intro j hj
  match j, hj with
  | 0, _ => exact bA (bB (bA (bB (bB (bA (bB (bB (bA hn))))))))
  | 1, _ => exact bB (bB (bA (bB (bB (bA (bB (bB (bA hn))))))))
  | 2, _ => exact bA (bA (bB (bB (bB (bA (bB (bB (bA hn))))))))
  | 3, _ => exact bB (bA (bB (bB (bB (bA (bB (bB (bA hn))))))))
  | 4, _ => exact bA (bB (bB (bB (bB (bA (bB (bB (bA hn))))))))
  | j + 5, hj => exact absurd hj (by omega)
theorem st_23 {args : Array Value} {s : State} {A : Nat → Prop} (hn : narrow_1.before args s = true) (hA : ∀ a : Nat, a < s.heap.size → ¬ A a) : ∃ q : Nat × Nat, SC (.string "RainWalk$Reader" 278) 4 [100, 101, 101, 112] args A s q := by
  refine sof hA (by decide) (bB (bB (bB (bB (bB (bA (bB (bB (bA hn))))))))) (bA (bA (bA (bA (bA (bB (bB (bB (bA hn))))))))) (bB (bA (bA (bA (bA (bB (bB (bB (bA hn))))))))) (bA (bB (bA (bA (bA (bB (bB (bB (bA hn))))))))) ?_
  intro j hj
  match j, hj with
  | 0, _ => exact bB (bB (bA (bA (bA (bB (bB (bB (bA hn))))))))
  | 1, _ => exact bA (bA (bB (bA (bA (bB (bB (bB (bA hn))))))))
  | 2, _ => exact bB (bA (bB (bA (bA (bB (bB (bB (bA hn))))))))
  | 3, _ => exact bA (bB (bB (bA (bA (bB (bB (bB (bA hn))))))))
  | j + 4, hj => exact absurd hj (by omega)
theorem st_24 {args : Array Value} {s : State} {A : Nat → Prop} (hn : narrow_1.before args s = true) (hA : ∀ a : Nat, a < s.heap.size → ¬ A a) : ∃ q : Nat × Nat, SC (.string "RainWalk$Reader" 280) 4 [104, 105, 103, 104] args A s q := by
  refine sof hA (by decide) (bB (bB (bB (bA (bA (bB (bB (bB (bA hn))))))))) (bA (bA (bA (bB (bA (bB (bB (bB (bA hn))))))))) (bB (bA (bA (bB (bA (bB (bB (bB (bA hn))))))))) (bA (bB (bA (bB (bA (bB (bB (bB (bA hn))))))))) ?_
  intro j hj
  match j, hj with
  | 0, _ => exact bB (bB (bA (bB (bA (bB (bB (bB (bA hn))))))))
  | 1, _ => exact bA (bA (bB (bB (bA (bB (bB (bB (bA hn))))))))
  | 2, _ => exact bB (bA (bB (bB (bA (bB (bB (bB (bA hn))))))))
  | 3, _ => exact bA (bB (bB (bB (bA (bB (bB (bB (bA hn))))))))
  | j + 4, hj => exact absurd hj (by omega)
theorem st_25 {args : Array Value} {s : State} {A : Nat → Prop} (hn : narrow_1.before args s = true) (hA : ∀ a : Nat, a < s.heap.size → ¬ A a) : ∃ q : Nat × Nat, SC (.string "RainWalk$Reader" 250) 4 [102, 114, 111, 109] args A s q := by
  refine sof hA (by decide) (bB (bB (bB (bB (bA (bB (bB (bB (bA hn))))))))) (bA (bA (bA (bA (bB (bB (bB (bB (bA hn))))))))) (bB (bA (bA (bA (bB (bB (bB (bB (bA hn))))))))) (bA (bB (bA (bA (bB (bB (bB (bB (bA hn))))))))) ?_
  intro j hj
  match j, hj with
  | 0, _ => exact bB (bB (bA (bA (bB (bB (bB (bB (bA hn))))))))
  | 1, _ => exact bA (bA (bB (bA (bB (bB (bB (bB (bA hn))))))))
  | 2, _ => exact bB (bA (bB (bA (bB (bB (bB (bB (bA hn))))))))
  | 3, _ => exact bA (bB (bB (bA (bB (bB (bB (bB (bA hn))))))))
  | j + 4, hj => exact absurd hj (by omega)
theorem st_26 {args : Array Value} {s : State} {A : Nat → Prop} (hn : narrow_1.before args s = true) (hA : ∀ a : Nat, a < s.heap.size → ¬ A a) : ∃ q : Nat × Nat, SC (.string "RainWalk$Reader" 257) 2 [116, 111] args A s q := by
  refine sof hA (by decide) (bB (bB (bB (bA (bB (bB (bB (bB (bA hn))))))))) (bA (bA (bA (bB (bB (bB (bB (bB (bA hn))))))))) (bB (bA (bA (bB (bB (bB (bB (bB (bA hn))))))))) (bA (bB (bA (bB (bB (bB (bB (bB (bA hn))))))))) ?_
  intro j hj
  match j, hj with
  | 0, _ => exact bB (bB (bA (bB (bB (bB (bB (bB (bA hn))))))))
  | 1, _ => exact bA (bA (bB (bB (bB (bB (bB (bB (bA hn))))))))
  | j + 2, hj => exact absurd hj (by omega)
theorem st_27 {args : Array Value} {s : State} {A : Nat → Prop} (hn : narrow_1.before args s = true) (hA : ∀ a : Nat, a < s.heap.size → ¬ A a) : ∃ q : Nat × Nat, SC (.string "RainWalkModel" 130) 5 [119, 111, 114, 108, 100] args A s q := by
  refine sof hA (by decide) (bB (bA (bB (bB (bB (bB (bB (bB (bA hn))))))))) (bA (bB (bB (bB (bB (bB (bB (bB (bA hn))))))))) (bB (bB (bB (bB (bB (bB (bB (bB (bA hn))))))))) (bA (bA (bA (bA (bA (bA (bA (bB hn)))))))) ?_
  intro j hj
  match j, hj with
  | 0, _ => exact bA (bB (bA (bA (bA (bA (bA (bA (bB hn))))))))
  | 1, _ => exact bB (bB (bA (bA (bA (bA (bA (bA (bB hn))))))))
  | 2, _ => exact bA (bA (bB (bA (bA (bA (bA (bA (bB hn))))))))
  | 3, _ => exact bB (bA (bB (bA (bA (bA (bA (bA (bB hn))))))))
  | 4, _ => exact bA (bB (bB (bA (bA (bA (bA (bA (bB hn))))))))
  | j + 5, hj => exact absurd hj (by omega)
theorem st_28 {args : Array Value} {s : State} {A : Nat → Prop} (hn : narrow_1.before args s = true) (hA : ∀ a : Nat, a < s.heap.size → ¬ A a) : ∃ q : Nat × Nat, SC (.string "RainWalkModel" 214) 4 [104, 111, 117, 114] args A s q := by
  refine sof hA (by decide) (bA (bA (bA (bB (bA (bA (bA (bA (bB hn))))))))) (bB (bA (bA (bB (bA (bA (bA (bA (bB hn))))))))) (bA (bB (bA (bB (bA (bA (bA (bA (bB hn))))))))) (bB (bB (bA (bB (bA (bA (bA (bA (bB hn))))))))) ?_
  intro j hj
  match j, hj with
  | 0, _ => exact bA (bA (bB (bB (bA (bA (bA (bA (bB hn))))))))
  | 1, _ => exact bB (bA (bB (bB (bA (bA (bA (bA (bB hn))))))))
  | 2, _ => exact bA (bB (bB (bB (bA (bA (bA (bA (bB hn))))))))
  | 3, _ => exact bB (bB (bB (bB (bA (bA (bA (bA (bB hn))))))))
  | j + 4, hj => exact absurd hj (by omega)
theorem st_29 {args : Array Value} {s : State} {A : Nat → Prop} (hn : narrow_1.before args s = true) (hA : ∀ a : Nat, a < s.heap.size → ¬ A a) : ∃ q : Nat × Nat, SC (.string "RainWalkModel" 132) 4 [114, 97, 105, 110] args A s q := by
  refine sof hA (by decide) (bB (bA (bA (bA (bB (bA (bA (bA (bB hn))))))))) (bA (bB (bA (bA (bB (bA (bA (bA (bB hn))))))))) (bB (bB (bA (bA (bB (bA (bA (bA (bB hn))))))))) (bA (bA (bB (bA (bB (bA (bA (bA (bB hn))))))))) ?_
  intro j hj
  match j, hj with
  | 0, _ => exact bB (bA (bB (bA (bB (bA (bA (bA (bB hn))))))))
  | 1, _ => exact bA (bB (bB (bA (bB (bA (bA (bA (bB hn))))))))
  | 2, _ => exact bB (bB (bB (bA (bB (bA (bA (bA (bB hn))))))))
  | 3, _ => exact bA (bA (bA (bB (bB (bA (bA (bA (bB hn))))))))
  | j + 4, hj => exact absurd hj (by omega)
theorem st_30 {args : Array Value} {s : State} {A : Nat → Prop} (hn : narrow_1.before args s = true) (hA : ∀ a : Nat, a < s.heap.size → ¬ A a) : ∃ q : Nat × Nat, SC (.string "RainWalkModel" 226) 5 [100, 114, 111, 112, 115] args A s q := by
  refine sof hA (by decide) (bA (bB (bA (bB (bB (bA (bA (bA (bB hn))))))))) (bB (bB (bA (bB (bB (bA (bA (bA (bB hn))))))))) (bA (bA (bB (bB (bB (bA (bA (bA (bB hn))))))))) (bB (bA (bB (bB (bB (bA (bA (bA (bB hn))))))))) ?_
  intro j hj
  match j, hj with
  | 0, _ => exact bA (bB (bB (bB (bB (bA (bA (bA (bB hn))))))))
  | 1, _ => exact bB (bB (bB (bB (bB (bA (bA (bA (bB hn))))))))
  | 2, _ => exact bA (bA (bA (bA (bA (bB (bA (bA (bB hn))))))))
  | 3, _ => exact bB (bA (bA (bA (bA (bB (bA (bA (bB hn))))))))
  | 4, _ => exact bA (bB (bA (bA (bA (bB (bA (bA (bB hn))))))))
  | j + 5, hj => exact absurd hj (by omega)
theorem st_31 {args : Array Value} {s : State} {A : Nat → Prop} (hn : narrow_1.before args s = true) (hA : ∀ a : Nat, a < s.heap.size → ¬ A a) : ∃ q : Nat × Nat, SC (.string "RainWalkModel" 228) 4 [100, 111, 119, 110] args A s q := by
  refine sof hA (by decide) (bA (bA (bB (bA (bA (bB (bA (bA (bB hn))))))))) (bB (bA (bB (bA (bA (bB (bA (bA (bB hn))))))))) (bA (bB (bB (bA (bA (bB (bA (bA (bB hn))))))))) (bB (bB (bB (bA (bA (bB (bA (bA (bB hn))))))))) ?_
  intro j hj
  match j, hj with
  | 0, _ => exact bA (bA (bA (bB (bA (bB (bA (bA (bB hn))))))))
  | 1, _ => exact bB (bA (bA (bB (bA (bB (bA (bA (bB hn))))))))
  | 2, _ => exact bA (bB (bA (bB (bA (bB (bA (bA (bB hn))))))))
  | 3, _ => exact bB (bB (bA (bB (bA (bB (bA (bA (bB hn))))))))
  | j + 4, hj => exact absurd hj (by omega)
theorem st_32 {args : Array Value} {s : State} {A : Nat → Prop} (hn : narrow_1.before args s = true) (hA : ∀ a : Nat, a < s.heap.size → ¬ A a) : ∃ q : Nat × Nat, SC (.string "RainWalkModel" 230) 4 [119, 105, 110, 100] args A s q := by
  refine sof hA (by decide) (bB (bA (bB (bB (bA (bB (bA (bA (bB hn))))))))) (bA (bB (bB (bB (bA (bB (bA (bA (bB hn))))))))) (bB (bB (bB (bB (bA (bB (bA (bA (bB hn))))))))) (bA (bA (bA (bA (bB (bB (bA (bA (bB hn))))))))) ?_
  intro j hj
  match j, hj with
  | 0, _ => exact bB (bA (bA (bA (bB (bB (bA (bA (bB hn))))))))
  | 1, _ => exact bA (bB (bA (bA (bB (bB (bA (bA (bB hn))))))))
  | 2, _ => exact bB (bB (bA (bA (bB (bB (bA (bA (bB hn))))))))
  | 3, _ => exact bA (bA (bB (bA (bB (bB (bA (bA (bB hn))))))))
  | j + 4, hj => exact absurd hj (by omega)
theorem st_33 {args : Array Value} {s : State} {A : Nat → Prop} (hn : narrow_1.before args s = true) (hA : ∀ a : Nat, a < s.heap.size → ¬ A a) : ∃ q : Nat × Nat, SC (.string "RainWalkModel" 176) 5 [110, 111, 114, 116, 104] args A s q := by
  refine sof hA (by decide) (bA (bB (bB (bA (bB (bB (bA (bA (bB hn))))))))) (bB (bB (bB (bA (bB (bB (bA (bA (bB hn))))))))) (bA (bA (bA (bB (bB (bB (bA (bA (bB hn))))))))) (bB (bA (bA (bB (bB (bB (bA (bA (bB hn))))))))) ?_
  intro j hj
  match j, hj with
  | 0, _ => exact bA (bB (bA (bB (bB (bB (bA (bA (bB hn))))))))
  | 1, _ => exact bB (bB (bA (bB (bB (bB (bA (bA (bB hn))))))))
  | 2, _ => exact bA (bA (bB (bB (bB (bB (bA (bA (bB hn))))))))
  | 3, _ => exact bB (bA (bB (bB (bB (bB (bA (bA (bB hn))))))))
  | 4, _ => exact bA (bB (bB (bB (bB (bB (bA (bA (bB hn))))))))
  | j + 5, hj => exact absurd hj (by omega)
theorem st_34 {args : Array Value} {s : State} {A : Nat → Prop} (hn : narrow_1.before args s = true) (hA : ∀ a : Nat, a < s.heap.size → ¬ A a) : ∃ q : Nat × Nat, SC (.string "RainWalkModel" 178) 4 [101, 97, 115, 116] args A s q := by
  refine sof hA (by decide) (bA (bA (bA (bA (bA (bB (bA (bB hn)))))))) (bA (bB (bA (bA (bA (bA (bB (bA (bB hn))))))))) (bB (bB (bA (bA (bA (bA (bB (bA (bB hn))))))))) (bA (bA (bB (bA (bA (bA (bB (bA (bB hn))))))))) ?_
  intro j hj
  match j, hj with
  | 0, _ => exact bB (bA (bB (bA (bA (bA (bB (bA (bB hn))))))))
  | 1, _ => exact bA (bB (bB (bA (bA (bA (bB (bA (bB hn))))))))
  | 2, _ => exact bB (bB (bB (bA (bA (bA (bB (bA (bB hn))))))))
  | 3, _ => exact bA (bA (bA (bB (bA (bA (bB (bA (bB hn))))))))
  | j + 4, hj => exact absurd hj (by omega)
theorem st_35 {args : Array Value} {s : State} {A : Nat → Prop} (hn : narrow_1.before args s = true) (hA : ∀ a : Nat, a < s.heap.size → ¬ A a) : ∃ q : Nat × Nat, SC (.string "RainWalkModel" 180) 5 [115, 111, 117, 116, 104] args A s q := by
  refine sof hA (by decide) (bA (bB (bA (bB (bA (bA (bB (bA (bB hn))))))))) (bB (bB (bA (bB (bA (bA (bB (bA (bB hn))))))))) (bA (bA (bB (bB (bA (bA (bB (bA (bB hn))))))))) (bB (bA (bB (bB (bA (bA (bB (bA (bB hn))))))))) ?_
  intro j hj
  match j, hj with
  | 0, _ => exact bA (bB (bB (bB (bA (bA (bB (bA (bB hn))))))))
  | 1, _ => exact bB (bB (bB (bB (bA (bA (bB (bA (bB hn))))))))
  | 2, _ => exact bA (bA (bA (bA (bB (bA (bB (bA (bB hn))))))))
  | 3, _ => exact bB (bA (bA (bA (bB (bA (bB (bA (bB hn))))))))
  | 4, _ => exact bA (bB (bA (bA (bB (bA (bB (bA (bB hn))))))))
  | j + 5, hj => exact absurd hj (by omega)
theorem st_36 {args : Array Value} {s : State} {A : Nat → Prop} (hn : narrow_1.before args s = true) (hA : ∀ a : Nat, a < s.heap.size → ¬ A a) : ∃ q : Nat × Nat, SC (.string "RainWalkModel" 182) 4 [119, 101, 115, 116] args A s q := by
  refine sof hA (by decide) (bA (bA (bB (bA (bB (bA (bB (bA (bB hn))))))))) (bB (bA (bB (bA (bB (bA (bB (bA (bB hn))))))))) (bA (bB (bB (bA (bB (bA (bB (bA (bB hn))))))))) (bB (bB (bB (bA (bB (bA (bB (bA (bB hn))))))))) ?_
  intro j hj
  match j, hj with
  | 0, _ => exact bA (bA (bA (bB (bB (bA (bB (bA (bB hn))))))))
  | 1, _ => exact bB (bA (bA (bB (bB (bA (bB (bA (bB hn))))))))
  | 2, _ => exact bA (bB (bA (bB (bB (bA (bB (bA (bB hn))))))))
  | 3, _ => exact bB (bB (bA (bB (bB (bA (bB (bA (bB hn))))))))
  | j + 4, hj => exact absurd hj (by omega)
theorem st_37 {args : Array Value} {s : State} {A : Nat → Prop} (hn : narrow_1.before args s = true) (hA : ∀ a : Nat, a < s.heap.size → ¬ A a) : ∃ q : Nat × Nat, SC (.string "RainWalkModel" 235) 6 [99, 104, 97, 110, 99, 101] args A s q := by
  refine sof hA (by decide) (bB (bA (bB (bB (bB (bA (bB (bA (bB hn))))))))) (bA (bB (bB (bB (bB (bA (bB (bA (bB hn))))))))) (bB (bB (bB (bB (bB (bA (bB (bA (bB hn))))))))) (bA (bA (bA (bA (bA (bB (bB (bA (bB hn))))))))) ?_
  intro j hj
  match j, hj with
  | 0, _ => exact bB (bA (bA (bA (bA (bB (bB (bA (bB hn))))))))
  | 1, _ => exact bA (bB (bA (bA (bA (bB (bB (bA (bB hn))))))))
  | 2, _ => exact bB (bB (bA (bA (bA (bB (bB (bA (bB hn))))))))
  | 3, _ => exact bA (bA (bB (bA (bA (bB (bB (bA (bB hn))))))))
  | 4, _ => exact bB (bA (bB (bA (bA (bB (bB (bA (bB hn))))))))
  | 5, _ => exact bA (bB (bB (bA (bA (bB (bB (bA (bB hn))))))))
  | j + 6, hj => exact absurd hj (by omega)
theorem st_38 {args : Array Value} {s : State} {A : Nat → Prop} (hn : narrow_1.before args s = true) (hA : ∀ a : Nat, a < s.heap.size → ¬ A a) : ∃ q : Nat × Nat, SC (.string "RainWalkModel" 134) 5 [112, 108, 97, 99, 101] args A s q := by
  refine sof hA (by decide) (bA (bA (bA (bB (bA (bB (bB (bA (bB hn))))))))) (bB (bA (bA (bB (bA (bB (bB (bA (bB hn))))))))) (bA (bB (bA (bB (bA (bB (bB (bA (bB hn))))))))) (bB (bB (bA (bB (bA (bB (bB (bA (bB hn))))))))) ?_
  intro j hj
  match j, hj with
  | 0, _ => exact bA (bA (bB (bB (bA (bB (bB (bA (bB hn))))))))
  | 1, _ => exact bB (bA (bB (bB (bA (bB (bB (bA (bB hn))))))))
  | 2, _ => exact bA (bB (bB (bB (bA (bB (bB (bA (bB hn))))))))
  | 3, _ => exact bB (bB (bB (bB (bA (bB (bB (bA (bB hn))))))))
  | 4, _ => exact bA (bA (bA (bA (bB (bB (bB (bA (bB hn))))))))
  | j + 5, hj => exact absurd hj (by omega)
theorem st_39 {args : Array Value} {s : State} {A : Nat → Prop} (hn : narrow_1.before args s = true) (hA : ∀ a : Nat, a < s.heap.size → ¬ A a) : ∃ q : Nat × Nat, SC (.string "RainWalkModel" 135) 4 [114, 111, 97, 100] args A s q := by
  refine sof hA (by decide) (bA (bB (bA (bA (bB (bB (bB (bA (bB hn))))))))) (bB (bB (bA (bA (bB (bB (bB (bA (bB hn))))))))) (bA (bA (bB (bA (bB (bB (bB (bA (bB hn))))))))) (bB (bA (bB (bA (bB (bB (bB (bA (bB hn))))))))) ?_
  intro j hj
  match j, hj with
  | 0, _ => exact bA (bB (bB (bA (bB (bB (bB (bA (bB hn))))))))
  | 1, _ => exact bB (bB (bB (bA (bB (bB (bB (bA (bB hn))))))))
  | 2, _ => exact bA (bA (bA (bB (bB (bB (bB (bA (bB hn))))))))
  | 3, _ => exact bB (bA (bA (bB (bB (bB (bB (bA (bB hn))))))))
  | j + 4, hj => exact absurd hj (by omega)
theorem st_40 {args : Array Value} {s : State} {A : Nat → Prop} (hn : narrow_1.before args s = true) (hA : ∀ a : Nat, a < s.heap.size → ¬ A a) : ∃ q : Nat × Nat, SC (.string "RainWalkModel" 137) 6 [119, 97, 108, 107, 101, 114] args A s q := by
  refine sof hA (by decide) (bB (bB (bA (bB (bB (bB (bB (bA (bB hn))))))))) (bA (bA (bB (bB (bB (bB (bB (bA (bB hn))))))))) (bB (bA (bB (bB (bB (bB (bB (bA (bB hn))))))))) (bA (bB (bB (bB (bB (bB (bB (bA (bB hn))))))))) ?_
  intro j hj
  match j, hj with
  | 0, _ => exact bB (bB (bB (bB (bB (bB (bB (bA (bB hn))))))))
  | 1, _ => exact bA (bA (bA (bA (bA (bA (bB (bB hn)))))))
  | 2, _ => exact bA (bB (bA (bA (bA (bA (bA (bB (bB hn))))))))
  | 3, _ => exact bB (bB (bA (bA (bA (bA (bA (bB (bB hn))))))))
  | 4, _ => exact bA (bA (bB (bA (bA (bA (bA (bB (bB hn))))))))
  | 5, _ => exact bB (bA (bB (bA (bA (bA (bA (bB (bB hn))))))))
  | j + 6, hj => exact absurd hj (by omega)
theorem st_41 {args : Array Value} {s : State} {A : Nat → Prop} (hn : narrow_1.before args s = true) (hA : ∀ a : Nat, a < s.heap.size → ¬ A a) : ∃ q : Nat × Nat, SC (.string "RainWalkModel" 139) 4 [115, 101, 101, 110] args A s q := by
  refine sof hA (by decide) (bB (bB (bB (bA (bA (bA (bA (bB (bB hn))))))))) (bA (bA (bA (bB (bA (bA (bA (bB (bB hn))))))))) (bB (bA (bA (bB (bA (bA (bA (bB (bB hn))))))))) (bA (bB (bA (bB (bA (bA (bA (bB (bB hn))))))))) ?_
  intro j hj
  match j, hj with
  | 0, _ => exact bB (bB (bA (bB (bA (bA (bA (bB (bB hn))))))))
  | 1, _ => exact bA (bA (bB (bB (bA (bA (bA (bB (bB hn))))))))
  | 2, _ => exact bB (bA (bB (bB (bA (bA (bA (bB (bB hn))))))))
  | 3, _ => exact bA (bB (bB (bB (bA (bA (bA (bB (bB hn))))))))
  | j + 4, hj => exact absurd hj (by omega)
theorem st_42 {args : Array Value} {s : State} {A : Nat → Prop} (hn : narrow_1.before args s = true) (hA : ∀ a : Nat, a < s.heap.size → ¬ A a) : ∃ q : Nat × Nat, SC (.string "RainWalkModel" 141) 3 [105, 110, 110] args A s q := by
  refine sof hA (by decide) (bA (bA (bA (bA (bB (bA (bA (bB (bB hn))))))))) (bB (bA (bA (bA (bB (bA (bA (bB (bB hn))))))))) (bA (bB (bA (bA (bB (bA (bA (bB (bB hn))))))))) (bB (bB (bA (bA (bB (bA (bA (bB (bB hn))))))))) ?_
  intro j hj
  match j, hj with
  | 0, _ => exact bA (bA (bB (bA (bB (bA (bA (bB (bB hn))))))))
  | 1, _ => exact bB (bA (bB (bA (bB (bA (bA (bB (bB hn))))))))
  | 2, _ => exact bA (bB (bB (bA (bB (bA (bA (bB (bB hn))))))))
  | j + 3, hj => exact absurd hj (by omega)
theorem st_43 {args : Array Value} {s : State} {A : Nat → Prop} (hn : narrow_1.before args s = true) (hA : ∀ a : Nat, a < s.heap.size → ¬ A a) : ∃ q : Nat × Nat, SC (.string "RainWalkModel" 143) 4 [116, 114, 101, 101] args A s q := by
  refine sof hA (by decide) (bA (bA (bA (bB (bB (bA (bA (bB (bB hn))))))))) (bB (bA (bA (bB (bB (bA (bA (bB (bB hn))))))))) (bA (bB (bA (bB (bB (bA (bA (bB (bB hn))))))))) (bB (bB (bA (bB (bB (bA (bA (bB (bB hn))))))))) ?_
  intro j hj
  match j, hj with
  | 0, _ => exact bA (bA (bB (bB (bB (bA (bA (bB (bB hn))))))))
  | 1, _ => exact bB (bA (bB (bB (bB (bA (bA (bB (bB hn))))))))
  | 2, _ => exact bA (bB (bB (bB (bB (bA (bA (bB (bB hn))))))))
  | 3, _ => exact bB (bB (bB (bB (bB (bA (bA (bB (bB hn))))))))
  | j + 4, hj => exact absurd hj (by omega)
theorem st_44 {args : Array Value} {s : State} {A : Nat → Prop} (hn : narrow_1.before args s = true) (hA : ∀ a : Nat, a < s.heap.size → ¬ A a) : ∃ q : Nat × Nat, SC (.string "RainWalkModel" 145) 6 [97, 119, 110, 105, 110, 103] args A s q := by
  refine sof hA (by decide) (bB (bA (bA (bA (bA (bB (bA (bB (bB hn))))))))) (bA (bB (bA (bA (bA (bB (bA (bB (bB hn))))))))) (bB (bB (bA (bA (bA (bB (bA (bB (bB hn))))))))) (bA (bA (bB (bA (bA (bB (bA (bB (bB hn))))))))) ?_
  intro j hj
  match j, hj with
  | 0, _ => exact bB (bA (bB (bA (bA (bB (bA (bB (bB hn))))))))
  | 1, _ => exact bA (bB (bB (bA (bA (bB (bA (bB (bB hn))))))))
  | 2, _ => exact bB (bB (bB (bA (bA (bB (bA (bB (bB hn))))))))
  | 3, _ => exact bA (bA (bA (bB (bA (bB (bA (bB (bB hn))))))))
  | 4, _ => exact bB (bA (bA (bB (bA (bB (bA (bB (bB hn))))))))
  | 5, _ => exact bA (bB (bA (bB (bA (bB (bA (bB (bB hn))))))))
  | j + 6, hj => exact absurd hj (by omega)
theorem st_45 {args : Array Value} {s : State} {A : Nat → Prop} (hn : narrow_1.before args s = true) (hA : ∀ a : Nat, a < s.heap.size → ¬ A a) : ∃ q : Nat × Nat, SC (.string "RainWalkModel" 284) 5 [112, 108, 97, 105, 110] args A s q := by
  refine sof hA (by decide) (bA (bA (bB (bB (bA (bB (bA (bB (bB hn))))))))) (bB (bA (bB (bB (bA (bB (bA (bB (bB hn))))))))) (bA (bB (bB (bB (bA (bB (bA (bB (bB hn))))))))) (bB (bB (bB (bB (bA (bB (bA (bB (bB hn))))))))) ?_
  intro j hj
  match j, hj with
  | 0, _ => exact bA (bA (bA (bA (bB (bB (bA (bB (bB hn))))))))
  | 1, _ => exact bB (bA (bA (bA (bB (bB (bA (bB (bB hn))))))))
  | 2, _ => exact bA (bB (bA (bA (bB (bB (bA (bB (bB hn))))))))
  | 3, _ => exact bB (bB (bA (bA (bB (bB (bA (bB (bB hn))))))))
  | 4, _ => exact bA (bA (bB (bA (bB (bB (bA (bB (bB hn))))))))
  | j + 5, hj => exact absurd hj (by omega)
theorem st_46 {args : Array Value} {s : State} {A : Nat → Prop} (hn : narrow_1.before args s = true) (hA : ∀ a : Nat, a < s.heap.size → ¬ A a) : ∃ q : Nat × Nat, SC (.string "RainWalkModel" 286) 4 [98, 101, 110, 116] args A s q := by
  refine sof hA (by decide) (bA (bB (bB (bA (bB (bB (bA (bB (bB hn))))))))) (bB (bB (bB (bA (bB (bB (bA (bB (bB hn))))))))) (bA (bA (bA (bB (bB (bB (bA (bB (bB hn))))))))) (bB (bA (bA (bB (bB (bB (bA (bB (bB hn))))))))) ?_
  intro j hj
  match j, hj with
  | 0, _ => exact bA (bB (bA (bB (bB (bB (bA (bB (bB hn))))))))
  | 1, _ => exact bB (bB (bA (bB (bB (bB (bA (bB (bB hn))))))))
  | 2, _ => exact bA (bA (bB (bB (bB (bB (bA (bB (bB hn))))))))
  | 3, _ => exact bB (bA (bB (bB (bB (bB (bA (bB (bB hn))))))))
  | j + 4, hj => exact absurd hj (by omega)
theorem st_47 {args : Array Value} {s : State} {A : Nat → Prop} (hn : narrow_1.before args s = true) (hA : ∀ a : Nat, a < s.heap.size → ¬ A a) : ∃ q : Nat × Nat, SC (.string "RainWalkModel" 288) 4 [99, 111, 97, 116] args A s q := by
  refine sof hA (by decide) (bB (bB (bB (bB (bB (bB (bA (bB (bB hn))))))))) (bA (bA (bA (bA (bA (bB (bB (bB hn)))))))) (bA (bB (bA (bA (bA (bA (bB (bB (bB hn))))))))) (bB (bB (bA (bA (bA (bA (bB (bB (bB hn))))))))) ?_
  intro j hj
  match j, hj with
  | 0, _ => exact bA (bA (bB (bA (bA (bA (bB (bB (bB hn))))))))
  | 1, _ => exact bB (bA (bB (bA (bA (bA (bB (bB (bB hn))))))))
  | 2, _ => exact bA (bB (bB (bA (bA (bA (bB (bB (bB hn))))))))
  | 3, _ => exact bB (bB (bB (bA (bA (bA (bB (bB (bB hn))))))))
  | j + 4, hj => exact absurd hj (by omega)
theorem st_48 {args : Array Value} {s : State} {A : Nat → Prop} (hn : narrow_1.before args s = true) (hA : ∀ a : Nat, a < s.heap.size → ¬ A a) : ∃ q : Nat × Nat, SC (.string "RainWalkModel" 290) 6 [115, 104, 105, 101, 108, 100] args A s q := by
  refine sof hA (by decide) (bB (bA (bA (bB (bA (bA (bB (bB (bB hn))))))))) (bA (bB (bA (bB (bA (bA (bB (bB (bB hn))))))))) (bB (bB (bA (bB (bA (bA (bB (bB (bB hn))))))))) (bA (bA (bB (bB (bA (bA (bB (bB (bB hn))))))))) ?_
  intro j hj
  match j, hj with
  | 0, _ => exact bB (bA (bB (bB (bA (bA (bB (bB (bB hn))))))))
  | 1, _ => exact bA (bB (bB (bB (bA (bA (bB (bB (bB hn))))))))
  | 2, _ => exact bB (bB (bB (bB (bA (bA (bB (bB (bB hn))))))))
  | 3, _ => exact bA (bA (bA (bA (bB (bA (bB (bB (bB hn))))))))
  | 4, _ => exact bB (bA (bA (bA (bB (bA (bB (bB (bB hn))))))))
  | 5, _ => exact bA (bB (bA (bA (bB (bA (bB (bB (bB hn))))))))
  | j + 6, hj => exact absurd hj (by omega)
theorem st_49 {args : Array Value} {s : State} {A : Nat → Prop} (hn : narrow_1.before args s = true) (hA : ∀ a : Nat, a < s.heap.size → ¬ A a) : ∃ q : Nat × Nat, SC (.string "RainWalkModel" 292) 5 [98, 114, 111, 97, 100] args A s q := by
  refine sof hA (by decide) (bA (bA (bB (bA (bB (bA (bB (bB (bB hn))))))))) (bB (bA (bB (bA (bB (bA (bB (bB (bB hn))))))))) (bA (bB (bB (bA (bB (bA (bB (bB (bB hn))))))))) (bB (bB (bB (bA (bB (bA (bB (bB (bB hn))))))))) ?_
  intro j hj
  match j, hj with
  | 0, _ => exact bA (bA (bA (bB (bB (bA (bB (bB (bB hn))))))))
  | 1, _ => exact bB (bA (bA (bB (bB (bA (bB (bB (bB hn))))))))
  | 2, _ => exact bA (bB (bA (bB (bB (bA (bB (bB (bB hn))))))))
  | 3, _ => exact bB (bB (bA (bB (bB (bA (bB (bB (bB hn))))))))
  | 4, _ => exact bA (bA (bB (bB (bB (bA (bB (bB (bB hn))))))))
  | j + 5, hj => exact absurd hj (by omega)
theorem st_50 {args : Array Value} {s : State} {A : Nat → Prop} (hn : narrow_1.before args s = true) (hA : ∀ a : Nat, a < s.heap.size → ¬ A a) : ∃ q : Nat × Nat, SC (.string "RainWalkModel" 294) 4 [100, 101, 101, 112] args A s q := by
  refine sof hA (by decide) (bA (bB (bB (bB (bB (bA (bB (bB (bB hn))))))))) (bB (bB (bB (bB (bB (bA (bB (bB (bB hn))))))))) (bA (bA (bA (bA (bA (bB (bB (bB (bB hn))))))))) (bB (bA (bA (bA (bA (bB (bB (bB (bB hn))))))))) ?_
  intro j hj
  match j, hj with
  | 0, _ => exact bA (bB (bA (bA (bA (bB (bB (bB (bB hn))))))))
  | 1, _ => exact bB (bB (bA (bA (bA (bB (bB (bB (bB hn))))))))
  | 2, _ => exact bA (bA (bB (bA (bA (bB (bB (bB (bB hn))))))))
  | 3, _ => exact bB (bA (bB (bA (bA (bB (bB (bB (bB hn))))))))
  | j + 4, hj => exact absurd hj (by omega)
theorem st_51 {args : Array Value} {s : State} {A : Nat → Prop} (hn : narrow_1.before args s = true) (hA : ∀ a : Nat, a < s.heap.size → ¬ A a) : ∃ q : Nat × Nat, SC (.string "RainWalkModel" 296) 4 [104, 105, 103, 104] args A s q := by
  refine sof hA (by decide) (bB (bB (bB (bA (bA (bB (bB (bB (bB hn))))))))) (bA (bA (bA (bB (bA (bB (bB (bB (bB hn))))))))) (bB (bA (bA (bB (bA (bB (bB (bB (bB hn))))))))) (bA (bB (bA (bB (bA (bB (bB (bB (bB hn))))))))) ?_
  intro j hj
  match j, hj with
  | 0, _ => exact bB (bB (bA (bB (bA (bB (bB (bB (bB hn))))))))
  | 1, _ => exact bA (bA (bB (bB (bA (bB (bB (bB (bB hn))))))))
  | 2, _ => exact bB (bA (bB (bB (bA (bB (bB (bB (bB hn))))))))
  | 3, _ => exact bA (bB (bB (bB (bA (bB (bB (bB (bB hn))))))))
  | j + 4, hj => exact absurd hj (by omega)
theorem st_52 {args : Array Value} {s : State} {A : Nat → Prop} (hn : narrow_1.before args s = true) (hA : ∀ a : Nat, a < s.heap.size → ¬ A a) : ∃ q : Nat × Nat, SC (.string "RainWalkModel" 298) 4 [102, 114, 111, 109] args A s q := by
  refine sof hA (by decide) (bA (bA (bA (bA (bB (bB (bB (bB (bB hn))))))))) (bB (bA (bA (bA (bB (bB (bB (bB (bB hn))))))))) (bA (bB (bA (bA (bB (bB (bB (bB (bB hn))))))))) (bB (bB (bA (bA (bB (bB (bB (bB (bB hn))))))))) ?_
  intro j hj
  match j, hj with
  | 0, _ => exact bA (bA (bB (bA (bB (bB (bB (bB (bB hn))))))))
  | 1, _ => exact bB (bA (bB (bA (bB (bB (bB (bB (bB hn))))))))
  | 2, _ => exact bA (bB (bB (bA (bB (bB (bB (bB (bB hn))))))))
  | 3, _ => exact bB (bB (bB (bA (bB (bB (bB (bB (bB hn))))))))
  | j + 4, hj => exact absurd hj (by omega)
theorem st_53 {args : Array Value} {s : State} {A : Nat → Prop} (hn : narrow_1.before args s = true) (hA : ∀ a : Nat, a < s.heap.size → ¬ A a) : ∃ q : Nat × Nat, SC (.string "RainWalkModel" 300) 2 [116, 111] args A s q := by
  refine sof hA (by decide) (bB (bA (bA (bB (bB (bB (bB (bB (bB hn))))))))) (bA (bB (bA (bB (bB (bB (bB (bB (bB hn))))))))) (bB (bB (bA (bB (bB (bB (bB (bB (bB hn))))))))) (bA (bA (bB (bB (bB (bB (bB (bB (bB hn))))))))) ?_
  intro j hj
  match j, hj with
  | 0, _ => exact bB (bA (bB (bB (bB (bB (bB (bB (bB hn))))))))
  | 1, _ => exact bA (bB (bB (bB (bB (bB (bB (bB (bB hn))))))))
  | j + 2, hj => exact absurd hj (by omega)
def sTm (i : Nat) : Term := .string (SR.getD i ("", 0, "")).1 (SR.getD i ("", 0, "")).2.1
theorem st_all {args : Array Value} {s : State} {A : Nat → Prop} (hn : narrow_1.before args s = true) (hA : ∀ a : Nat, a < s.heap.size → ¬ A a) : ∀ i : Nat, ∃ q : Nat × Nat, i < 54 → SC (sTm i) (sLen.getD i 0) (sByt.getD i []) args A s q := by
  intro i
  by_cases hi : i < 54
  · suffices h : ∃ q : Nat × Nat, SC (sTm i) (sLen.getD i 0) (sByt.getD i []) args A s q from h.elim fun q hq => ⟨q, fun _ => hq⟩
    match i, hi with
    | 0, _ => exact st_0 hn hA
    | 1, _ => exact st_1 hn hA
    | 2, _ => exact st_2 hn hA
    | 3, _ => exact st_3 hn hA
    | 4, _ => exact st_4 hn hA
    | 5, _ => exact st_5 hn hA
    | 6, _ => exact st_6 hn hA
    | 7, _ => exact st_7 hn hA
    | 8, _ => exact st_8 hn hA
    | 9, _ => exact st_9 hn hA
    | 10, _ => exact st_10 hn hA
    | 11, _ => exact st_11 hn hA
    | 12, _ => exact st_12 hn hA
    | 13, _ => exact st_13 hn hA
    | 14, _ => exact st_14 hn hA
    | 15, _ => exact st_15 hn hA
    | 16, _ => exact st_16 hn hA
    | 17, _ => exact st_17 hn hA
    | 18, _ => exact st_18 hn hA
    | 19, _ => exact st_19 hn hA
    | 20, _ => exact st_20 hn hA
    | 21, _ => exact st_21 hn hA
    | 22, _ => exact st_22 hn hA
    | 23, _ => exact st_23 hn hA
    | 24, _ => exact st_24 hn hA
    | 25, _ => exact st_25 hn hA
    | 26, _ => exact st_26 hn hA
    | 27, _ => exact st_27 hn hA
    | 28, _ => exact st_28 hn hA
    | 29, _ => exact st_29 hn hA
    | 30, _ => exact st_30 hn hA
    | 31, _ => exact st_31 hn hA
    | 32, _ => exact st_32 hn hA
    | 33, _ => exact st_33 hn hA
    | 34, _ => exact st_34 hn hA
    | 35, _ => exact st_35 hn hA
    | 36, _ => exact st_36 hn hA
    | 37, _ => exact st_37 hn hA
    | 38, _ => exact st_38 hn hA
    | 39, _ => exact st_39 hn hA
    | 40, _ => exact st_40 hn hA
    | 41, _ => exact st_41 hn hA
    | 42, _ => exact st_42 hn hA
    | 43, _ => exact st_43 hn hA
    | 44, _ => exact st_44 hn hA
    | 45, _ => exact st_45 hn hA
    | 46, _ => exact st_46 hn hA
    | 47, _ => exact st_47 hn hA
    | 48, _ => exact st_48 hn hA
    | 49, _ => exact st_49 hn hA
    | 50, _ => exact st_50 hn hA
    | 51, _ => exact st_51 hn hA
    | 52, _ => exact st_52 hn hA
    | 53, _ => exact st_53 hn hA
    | i + 54, hi => exact absurd hi (by omega)
  · exact ⟨(0, 0), fun h => absurd h hi⟩
end
