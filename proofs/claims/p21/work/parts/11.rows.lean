/-- what stands fast: the classes' numbers and slots, the arrays' classes, the strings' cells and their bytes' -/
abbrev EE : Type := va_G × (Nat → ClassId) × (Nat → Nat) × (Nat → Nat)
def eD (E : EE) : va_G := E.1
def ey (E : EE) : Nat → ClassId := E.2.1
def eK (E : EE) : Nat → Nat := E.2.2.1
def eV (E : EE) : Nat → Nat := E.2.2.2
def SS (E : EE) (A : Nat → Prop) (U : State) (H : Heap) : Prop := ∀ i : Nat, i < 54 → va_O "java/lang/String" (eK E i) A U H ∧ va_OF "java/lang/String" "coder" "B" (.int 0) (eK E i) A U H ∧ va_OF "java/lang/String" "value" "[B" (.ref (eV E i)) (eK E i) A U H ∧ va_T .byte (eV E i) (sLen.getD i 0) (fun j => .int ((sByt.getD i []).getD j 0)) A U H
def EV (E : EE) (A : Nat → Prop) (U : State) (H : Heap) : Prop := va_K (eD E) vwCl (tys (ey E)) U ∧ (∀ q ∈ NF, va_Nw (.fieldLinkNest q.1 q.2.1 q.2.2.1 q.2.2.2.1 q.2.2.2.2.1 q.2.2.2.2.2) U) ∧ (∀ q ∈ NM, va_Nw (.methodLinkNest q.1 q.2.1 q.2.2.1 q.2.2.2) U) ∧ (∀ C ∈ [RX2, RX3, RX5, RX6], va_AO C U) ∧ (∀ (i : Nat) (q : String × Nat × String), SR[i]? = some q → vk_R q.1 q.2.1 q.2.2 (eK E i) U) ∧ SS E A U H ∧ va_Z "java/lang/String" "COMPACT_STRINGS" "Z" (.int 1) A U H ∧ va_Zq "jdk/internal/util/Preconditions" "SIOOBE_FORMATTER" "Ljava/util/function/BiFunction;" A U H
theorem EV.call {E : EE} {A0 A1 : Nat → Prop} {s U : State} {H : Heap} {locs : List Loc} (h : EV E A0 s s.heap) (hS : va_S A0 s.heap H locs) (hA : ∀ q, A1 q → A0 q) (hW : s.WarmedH U.vm) (hU : U.heap = H) : EV E A1 U U.heap := by
  obtain ⟨h1, h2, h3, h4, h5, h6, h7, h8⟩ := h
  have hq : ∀ a : Nat, a < s.heap.size → ¬ A0 a → U.heap[a]? = s.heap[a]? := fun a ha hn => by rw [hU]; exact hS.2.1 a ha hn
  refine ⟨va_K.moved hW.alike h1, fun q hq => (h2 q hq).warmF hW, fun q hq => (h3 q hq).warmM hW, fun C hC => (h4 C hC).moved hW.alike, fun i q hi => (h5 i q hi).warm hW, fun i hi => ?_, ((h7.kept hq).moved hW.alike).narrow hA, ((h8.kept hq).moved hW.alike).narrow hA⟩
  obtain ⟨a, b, c, d⟩ := h6 i hi
  exact ⟨((va_O.moved hW.alike a).kept hq).narrow hA, ((va_OF.moved hW.alike b).kept hq).narrow hA, ((va_OF.moved hW.alike c).kept hq).narrow hA, ((va_T.moved hW.alike d).kept hq).narrow hA⟩
/-! WS: the machine at pc, with these locals, this stack and this pool, comes to its end. One row an instruction. -/
abbrev CX : Type := Program × Launch × Env × Room × State × MethodId × Array Value × List Frame × Method × Code × EE × HS × (Nat → Prop) × (State → Prop)
def xp (X : CX) : Program := X.1
def xl (X : CX) : Launch := X.2.1
def xe (X : CX) : Env := X.2.2.1
def xR (X : CX) : Room := X.2.2.2.1
def xs (X : CX) : State := X.2.2.2.2.1
def xm (X : CX) : MethodId := X.2.2.2.2.2.1
def xa (X : CX) : Array Value := X.2.2.2.2.2.2.1
def xb (X : CX) : List Frame := X.2.2.2.2.2.2.2.1
def xh (X : CX) : Method := X.2.2.2.2.2.2.2.2.1
def xc (X : CX) : Code := X.2.2.2.2.2.2.2.2.2.1
def xE (X : CX) : EE := X.2.2.2.2.2.2.2.2.2.2.1
def x0 (X : CX) : HS := X.2.2.2.2.2.2.2.2.2.2.2.1
def xA (X : CX) : Nat → Prop := X.2.2.2.2.2.2.2.2.2.2.2.2.1
def xQ (X : CX) : State → Prop := X.2.2.2.2.2.2.2.2.2.2.2.2.2
def Cx (X : CX) (cc : ByteArray) (own : String) (nL : Nat) (rm : Room) : Prop := (xp X).tables.exec = Jvm.exec ∧ (xc X).code = cc ∧ (xc X).maxLocals = nL ∧ (xs X).vm.findClass own = some (xm X).cls ∧ (∀ w ∈ G, w.before (xa X) (xs X) = true) ∧ EV (xE X) (xA X) (xs X) (xs X).heap ∧ (∀ q : Nat, (xs X).heap.size ≤ q → xA X q) ∧ xR X = rm
def WS (X : CX) (nL k n pc : Nat) (lv : List (Nat × Value)) (st : List Value) (S : HS) : Prop := ∀ (H : Heap) (locs : List Loc) (ls : Array Slot), va_P (eD (xE X)) vwCl (pw (ey (xE X)) S) H → va_D (xA X) (pw (ey (xE X)) S) → va_S (xA X) (xs X).heap H locs → Gr (x0 X) S → lv_has ls nL lv → W (xp X) (xl X) (xe X) (xR X) (xs X) (xm X) (xa X) (xb X) (xh X) (xc X) H locs k n (xQ X) (F0 (xm X) pc ls st)
section Rows
variable {X : CX} {cc : ByteArray} {own : String} {nL k n pc : Nat} {lv lv' : List (Nat × Value)} {st : List Value} {S : HS} {rm : Room}
theorem r_sub (ks : List Nat) (hl : lv_pick lv ks = lv') (h : WS X nL k n pc lv' st S) : WS X nL k n pc lv st S := fun H locs ls hP hD hS hG hv => h H locs ls hP hD hS hG (lv_sub hv ks hl)
theorem r_wide {k' n' : Nat} (h1 : k ≤ k') (h2 : n ≤ n') (h : WS X nL k' n' pc lv st S) : WS X nL k n pc lv st S := fun H locs ls hP hD hS hG hv => W.widen h1 h2 (h H locs ls hP hD hS hG hv)
theorem r_topi {e : Int32} (h : ∀ x, x = e → WS X nL k n pc lv (.int x :: st) S) : WS X nL k n pc lv (.int e :: st) S := h e rfl
theorem r_topl {e : Int64} (h : ∀ x, x = e → WS X nL k n pc lv (.long x :: st) S) : WS X nL k n pc lv (.long e :: st) S := h e rfl
theorem r_heap (h : ∀ T, T = S → WS X nL k n pc lv st T) : WS X nL k n pc lv st S := h S rfl
/-- what grew is known -/
theorem r_gr (h : Gr (x0 X) S → WS X nL k n pc lv st S) : WS X nL k n pc lv st S := fun H locs ls hP hD hS hG hv => h hG H locs ls hP hD hS hG hv
theorem r_iconst (C : Cx X cc own nL rm) {z : Int} {v : Int32} (hd : decode cc pc = .ok (.iconst z, 1)) (hz : Int32.ofInt z = v) (h : WS X nL k n (pc + 1) lv (.int v :: st) S) : WS X nL k n pc lv st S := fun H locs ls hP hD hS hG hv => lv_iconst C.1 C.2.1 hd hz (h H locs ls hP hD hS hG hv)
theorem r_bipush (C : Cx X cc own nL rm) {z : Int} {v : Int32} (hd : decode cc pc = .ok (.bipush z, 2)) (hz : (Int8.ofInt z).toInt32 = v) (h : WS X nL k n (pc + 2) lv (.int v :: st) S) : WS X nL k n pc lv st S := fun H locs ls hP hD hS hG hv => lv_bipush C.1 C.2.1 hd hz (h H locs ls hP hD hS hG hv)
theorem r_sipush (C : Cx X cc own nL rm) {z : Int} {v : Int32} (hd : decode cc pc = .ok (.sipush z, 3)) (hz : (Int16.ofInt z).toInt32 = v) (h : WS X nL k n (pc + 3) lv (.int v :: st) S) : WS X nL k n pc lv st S := fun H locs ls hP hD hS hG hv => lv_sipush C.1 C.2.1 hd hz (h H locs ls hP hD hS hG hv)
theorem r_lconst (C : Cx X cc own nL rm) {z : Fin 2} {v : Int64} (hd : decode cc pc = .ok (.lconst z, 1)) (hz : Int64.ofNat (z : Nat) = v) (h : WS X nL k n (pc + 1) lv (.long v :: st) S) : WS X nL k n pc lv st S := fun H locs ls hP hD hS hG hv => lv_lconst C.1 C.2.1 hd hz (h H locs ls hP hD hS hG hv)
theorem r_ldc (C : Cx X cc own nL rm) {i : Nat} {v : Int32} (hd : decode cc pc = .ok (.ldc i, 2)) (hw : Cond.constant own i v ∈ G) (h : WS X nL k n (pc + 2) lv (.int v :: st) S) : WS X nL k n pc lv st S := fun H locs ls hP hD hS hG hv => lv_ldc C.1 C.2.1 C.2.2.2.1 (C.2.2.2.2.1 _ hw) hd (h H locs ls hP hD hS hG hv)
theorem r_ldcw (C : Cx X cc own nL rm) {i : Nat} {v : Int32} (hd : decode cc pc = .ok (.ldc_w i, 3)) (hw : Cond.constant own i v ∈ G) (h : WS X nL k n (pc + 3) lv (.int v :: st) S) : WS X nL k n pc lv st S := fun H locs ls hP hD hS hG hv => lv_ldcw C.1 C.2.1 C.2.2.2.1 (C.2.2.2.2.1 _ hw) hd (h H locs ls hP hD hS hG hv)
theorem r_ldc2 (C : Cx X cc own nL rm) {i : Nat} {v : Int64} (hd : decode cc pc = .ok (.ldc2_w i, 3)) (hw : Cond.constantLong own i v ∈ G) (h : WS X nL k n (pc + 3) lv (.long v :: st) S) : WS X nL k n pc lv st S := fun H locs ls hP hD hS hG hv => lv_ldc2 C.1 C.2.1 C.2.2.2.1 (C.2.2.2.2.1 _ hw) hd (h H locs ls hP hD hS hG hv)
theorem r_iload_n (C : Cx X cc own nL rm) {q : Fin 4} {v : Int32} (hd : decode cc pc = .ok (.iload_n q, 1)) (z : Nat) (hz : lv[z]? = some ((q : Nat), .int v)) (h : WS X nL k n (pc + 1) lv (.int v :: st) S) : WS X nL k n pc lv st S := fun H locs ls hP hD hS hG hv => lv_iload_n C.1 C.2.1 hd rfl (lv_at hv z hz) (h H locs ls hP hD hS hG hv)
theorem r_iload (C : Cx X cc own nL rm) {i : Nat} {v : Int32} (hd : decode cc pc = .ok (.iload i, 2)) (z : Nat) (hz : lv[z]? = some (i, .int v)) (h : WS X nL k n (pc + 2) lv (.int v :: st) S) : WS X nL k n pc lv st S := fun H locs ls hP hD hS hG hv => lv_iload C.1 C.2.1 hd (lv_at hv z hz) (h H locs ls hP hD hS hG hv)
theorem r_istore_n (C : Cx X cc own nL rm) {q : Fin 4} {i : Nat} {v : Int32} (hd : decode cc pc = .ok (.istore_n q, 1)) (hi : (q : Nat) = i) (hn : i < nL) (hl : (i, Value.int v) :: lv.filter (fun q => !(q.1 == i) && !(q.1 + 1 == i && q.2.category == 2)) = lv') (h : WS X nL k n (pc + 1) lv' st S) : WS X nL k n pc lv (.int v :: st) S := fun H locs ls hP hD hS hG hv => lv_istore_n C.1 C.2.1 hd hi hv hn hl (fun ls hv => h H locs ls hP hD hS hG hv)
theorem r_istore (C : Cx X cc own nL rm) {i : Nat} {v : Int32} (hd : decode cc pc = .ok (.istore i, 2)) (hn : i < nL) (hl : (i, Value.int v) :: lv.filter (fun q => !(q.1 == i) && !(q.1 + 1 == i && q.2.category == 2)) = lv') (h : WS X nL k n (pc + 2) lv' st S) : WS X nL k n pc lv (.int v :: st) S := fun H locs ls hP hD hS hG hv => lv_istore C.1 C.2.1 hd hv hn hl (fun ls hv => h H locs ls hP hD hS hG hv)
theorem r_lload_n (C : Cx X cc own nL rm) {q : Fin 4} {v : Int64} (hd : decode cc pc = .ok (.lload_n q, 1)) (z : Nat) (hz : lv[z]? = some ((q : Nat), .long v)) (h : WS X nL k n (pc + 1) lv (.long v :: st) S) : WS X nL k n pc lv st S := fun H locs ls hP hD hS hG hv => lv_lload_n C.1 C.2.1 hd rfl (lv_at hv z hz) (h H locs ls hP hD hS hG hv)
theorem r_lload (C : Cx X cc own nL rm) {i : Nat} {v : Int64} (hd : decode cc pc = .ok (.lload i, 2)) (z : Nat) (hz : lv[z]? = some (i, .long v)) (h : WS X nL k n (pc + 2) lv (.long v :: st) S) : WS X nL k n pc lv st S := fun H locs ls hP hD hS hG hv => lv_lload C.1 C.2.1 hd (lv_at hv z hz) (h H locs ls hP hD hS hG hv)
theorem r_lstore_n (C : Cx X cc own nL rm) {q : Fin 4} {i : Nat} {v : Int64} (hd : decode cc pc = .ok (.lstore_n q, 1)) (hi : (q : Nat) = i) (hn : i + 1 < nL) (hl : (i, Value.long v) :: lv.filter (fun q => !(q.1 == i) && (!(q.1 == i + 1) && !(q.1 + 1 == i && q.2.category == 2))) = lv') (h : WS X nL k n (pc + 1) lv' st S) : WS X nL k n pc lv (.long v :: st) S := fun H locs ls hP hD hS hG hv => lv_lstore_n C.1 C.2.1 hd hi hv hn hl (fun ls hv => h H locs ls hP hD hS hG hv)
theorem r_lstore (C : Cx X cc own nL rm) {i : Nat} {v : Int64} (hd : decode cc pc = .ok (.lstore i, 2)) (hn : i + 1 < nL) (hl : (i, Value.long v) :: lv.filter (fun q => !(q.1 == i) && (!(q.1 == i + 1) && !(q.1 + 1 == i && q.2.category == 2))) = lv') (h : WS X nL k n (pc + 2) lv' st S) : WS X nL k n pc lv (.long v :: st) S := fun H locs ls hP hD hS hG hv => lv_lstore C.1 C.2.1 hd hv hn hl (fun ls hv => h H locs ls hP hD hS hG hv)
theorem r_aload_n (C : Cx X cc own nL rm) {q : Fin 4} {v : Nat} (hd : decode cc pc = .ok (.aload_n q, 1)) (z : Nat) (hz : lv[z]? = some ((q : Nat), .ref v)) (h : WS X nL k n (pc + 1) lv (.ref v :: st) S) : WS X nL k n pc lv st S := fun H locs ls hP hD hS hG hv => lv_aload_n C.1 C.2.1 hd rfl (lv_at hv z hz) (h H locs ls hP hD hS hG hv)
theorem r_aload (C : Cx X cc own nL rm) {i : Nat} {v : Nat} (hd : decode cc pc = .ok (.aload i, 2)) (z : Nat) (hz : lv[z]? = some (i, .ref v)) (h : WS X nL k n (pc + 2) lv (.ref v :: st) S) : WS X nL k n pc lv st S := fun H locs ls hP hD hS hG hv => lv_aload C.1 C.2.1 hd (lv_at hv z hz) (h H locs ls hP hD hS hG hv)
theorem r_astore_n (C : Cx X cc own nL rm) {q : Fin 4} {i : Nat} {v : Nat} (hd : decode cc pc = .ok (.astore_n q, 1)) (hi : (q : Nat) = i) (hn : i < nL) (hl : (i, Value.ref v) :: lv.filter (fun q => !(q.1 == i) && !(q.1 + 1 == i && q.2.category == 2)) = lv') (h : WS X nL k n (pc + 1) lv' st S) : WS X nL k n pc lv (.ref v :: st) S := fun H locs ls hP hD hS hG hv => lv_astore_n C.1 C.2.1 hd hi hv hn hl (fun ls hv => h H locs ls hP hD hS hG hv)
theorem r_astore (C : Cx X cc own nL rm) {i : Nat} {v : Nat} (hd : decode cc pc = .ok (.astore i, 2)) (hn : i < nL) (hl : (i, Value.ref v) :: lv.filter (fun q => !(q.1 == i) && !(q.1 + 1 == i && q.2.category == 2)) = lv') (h : WS X nL k n (pc + 2) lv' st S) : WS X nL k n pc lv (.ref v :: st) S := fun H locs ls hP hD hS hG hv => lv_astore C.1 C.2.1 hd hv hn hl (fun ls hv => h H locs ls hP hD hS hG hv)
theorem r_iinc (C : Cx X cc own nL rm) {i : Nat} {z : Int} {x v : Int32} (hd : decode cc pc = .ok (.iinc i z, 3)) (g : Nat) (hg : lv[g]? = some (i, .int x)) (hx : x + Int32.ofInt z = v) (hn : i < nL) (hl : (i, Value.int v) :: lv.filter (fun q => !(q.1 == i) && !(q.1 + 1 == i && q.2.category == 2)) = lv') (h : WS X nL k n (pc + 3) lv' st S) : WS X nL k n pc lv st S := fun H locs ls hP hD hS hG hv => lv_iinc C.1 C.2.1 hd hv hg hx hn hl (fun ls hv => h H locs ls hP hD hS hG hv)
theorem r_iadd (C : Cx X cc own nL rm) {a b : Int32} (hd : decode cc pc = .ok (.iadd, 1))  (h : WS X nL k n (pc + 1) lv (.int (a + b) :: st) S) : WS X nL k n pc lv (.int b :: .int a :: st) S := fun H locs ls hP hD hS hG hv => lv_iadd C.1 C.2.1 hd (h H locs ls hP hD hS hG hv)
theorem r_isub (C : Cx X cc own nL rm) {a b : Int32} (hd : decode cc pc = .ok (.isub, 1))  (h : WS X nL k n (pc + 1) lv (.int (a - b) :: st) S) : WS X nL k n pc lv (.int b :: .int a :: st) S := fun H locs ls hP hD hS hG hv => lv_isub C.1 C.2.1 hd (h H locs ls hP hD hS hG hv)
theorem r_imul (C : Cx X cc own nL rm) {a b : Int32} (hd : decode cc pc = .ok (.imul, 1))  (h : WS X nL k n (pc + 1) lv (.int (a * b) :: st) S) : WS X nL k n pc lv (.int b :: .int a :: st) S := fun H locs ls hP hD hS hG hv => lv_imul C.1 C.2.1 hd (h H locs ls hP hD hS hG hv)
theorem r_iand (C : Cx X cc own nL rm) {a b : Int32} (hd : decode cc pc = .ok (.iand, 1))  (h : WS X nL k n (pc + 1) lv (.int (a &&& b) :: st) S) : WS X nL k n pc lv (.int b :: .int a :: st) S := fun H locs ls hP hD hS hG hv => lv_iand C.1 C.2.1 hd (h H locs ls hP hD hS hG hv)
theorem r_ior (C : Cx X cc own nL rm) {a b : Int32} (hd : decode cc pc = .ok (.ior, 1))  (h : WS X nL k n (pc + 1) lv (.int (a ||| b) :: st) S) : WS X nL k n pc lv (.int b :: .int a :: st) S := fun H locs ls hP hD hS hG hv => lv_ior C.1 C.2.1 hd (h H locs ls hP hD hS hG hv)
theorem r_ixor (C : Cx X cc own nL rm) {a b : Int32} (hd : decode cc pc = .ok (.ixor, 1))  (h : WS X nL k n (pc + 1) lv (.int (a ^^^ b) :: st) S) : WS X nL k n pc lv (.int b :: .int a :: st) S := fun H locs ls hP hD hS hG hv => lv_ixor C.1 C.2.1 hd (h H locs ls hP hD hS hG hv)
theorem r_ladd (C : Cx X cc own nL rm) {a b : Int64} (hd : decode cc pc = .ok (.ladd, 1))  (h : WS X nL k n (pc + 1) lv (.long (a + b) :: st) S) : WS X nL k n pc lv (.long b :: .long a :: st) S := fun H locs ls hP hD hS hG hv => lv_ladd C.1 C.2.1 hd (h H locs ls hP hD hS hG hv)
theorem r_lsub (C : Cx X cc own nL rm) {a b : Int64} (hd : decode cc pc = .ok (.lsub, 1))  (h : WS X nL k n (pc + 1) lv (.long (a - b) :: st) S) : WS X nL k n pc lv (.long b :: .long a :: st) S := fun H locs ls hP hD hS hG hv => lv_lsub C.1 C.2.1 hd (h H locs ls hP hD hS hG hv)
theorem r_lmul (C : Cx X cc own nL rm) {a b : Int64} (hd : decode cc pc = .ok (.lmul, 1))  (h : WS X nL k n (pc + 1) lv (.long (a * b) :: st) S) : WS X nL k n pc lv (.long b :: .long a :: st) S := fun H locs ls hP hD hS hG hv => lv_lmul C.1 C.2.1 hd (h H locs ls hP hD hS hG hv)
theorem r_idiv (C : Cx X cc own nL rm) {a b : Int32} (hd : decode cc pc = .ok (.idiv, 1)) (hb : ¬ b = 0) (h : WS X nL k n (pc + 1) lv (.int (a / b) :: st) S) : WS X nL k n pc lv (.int b :: .int a :: st) S := fun H locs ls hP hD hS hG hv => lv_idiv C.1 C.2.1 hd hb (h H locs ls hP hD hS hG hv)
theorem r_irem (C : Cx X cc own nL rm) {a b : Int32} (hd : decode cc pc = .ok (.irem, 1)) (hb : ¬ b = 0) (h : WS X nL k n (pc + 1) lv (.int (a - a / b * b) :: st) S) : WS X nL k n pc lv (.int b :: .int a :: st) S := fun H locs ls hP hD hS hG hv => lv_irem C.1 C.2.1 hd hb (h H locs ls hP hD hS hG hv)
theorem r_ldiv (C : Cx X cc own nL rm) {a b : Int64} (hd : decode cc pc = .ok (.ldiv, 1)) (hb : ¬ b = 0) (h : WS X nL k n (pc + 1) lv (.long (a / b) :: st) S) : WS X nL k n pc lv (.long b :: .long a :: st) S := fun H locs ls hP hD hS hG hv => lv_ldiv C.1 C.2.1 hd hb (h H locs ls hP hD hS hG hv)
theorem r_lrem (C : Cx X cc own nL rm) {a b : Int64} (hd : decode cc pc = .ok (.lrem, 1)) (hb : ¬ b = 0) (h : WS X nL k n (pc + 1) lv (.long (a - a / b * b) :: st) S) : WS X nL k n pc lv (.long b :: .long a :: st) S := fun H locs ls hP hD hS hG hv => lv_lrem C.1 C.2.1 hd hb (h H locs ls hP hD hS hG hv)
theorem r_ineg (C : Cx X cc own nL rm) {a : Int32} (hd : decode cc pc = .ok (.ineg, 1))  (h : WS X nL k n (pc + 1) lv (.int (-a) :: st) S) : WS X nL k n pc lv (.int a :: st) S := fun H locs ls hP hD hS hG hv => lv_ineg C.1 C.2.1 hd (h H locs ls hP hD hS hG hv)
theorem r_ishl (C : Cx X cc own nL rm) {a b : Int32} (hd : decode cc pc = .ok (.ishl, 1))  (h : WS X nL k n (pc + 1) lv (.int (a <<< (b &&& 31)) :: st) S) : WS X nL k n pc lv (.int b :: .int a :: st) S := fun H locs ls hP hD hS hG hv => lv_ishl C.1 C.2.1 hd (h H locs ls hP hD hS hG hv)
theorem r_ishr (C : Cx X cc own nL rm) {a b : Int32} (hd : decode cc pc = .ok (.ishr, 1))  (h : WS X nL k n (pc + 1) lv (.int (a >>> (b &&& 31)) :: st) S) : WS X nL k n pc lv (.int b :: .int a :: st) S := fun H locs ls hP hD hS hG hv => lv_ishr C.1 C.2.1 hd (h H locs ls hP hD hS hG hv)
theorem r_iushr (C : Cx X cc own nL rm) {a b : Int32} (hd : decode cc pc = .ok (.iushr, 1))  (h : WS X nL k n (pc + 1) lv (.int (a.toUInt32 >>> (b.toUInt32 &&& Int32.toUInt32 31)).toInt32 :: st) S) : WS X nL k n pc lv (.int b :: .int a :: st) S := fun H locs ls hP hD hS hG hv => lv_iushr C.1 C.2.1 hd rfl (h H locs ls hP hD hS hG hv)
theorem r_i2l (C : Cx X cc own nL rm) {a : Int32} (hd : decode cc pc = .ok (.i2l, 1))  (h : WS X nL k n (pc + 1) lv (.long a.toInt64 :: st) S) : WS X nL k n pc lv (.int a :: st) S := fun H locs ls hP hD hS hG hv => lv_i2l C.1 C.2.1 hd rfl (h H locs ls hP hD hS hG hv)
theorem r_l2i (C : Cx X cc own nL rm) {a : Int64} (hd : decode cc pc = .ok (.l2i, 1))  (h : WS X nL k n (pc + 1) lv (.int a.toInt32 :: st) S) : WS X nL k n pc lv (.long a :: st) S := fun H locs ls hP hD hS hG hv => lv_l2i C.1 C.2.1 hd rfl (h H locs ls hP hD hS hG hv)
theorem r_i2b (C : Cx X cc own nL rm) {a : Int32} (hd : decode cc pc = .ok (.i2b, 1))  (h : WS X nL k n (pc + 1) lv (.int a.toInt8.toInt32 :: st) S) : WS X nL k n pc lv (.int a :: st) S := fun H locs ls hP hD hS hG hv => lv_i2b C.1 C.2.1 hd rfl (h H locs ls hP hD hS hG hv)
theorem r_lcmp (C : Cx X cc own nL rm) {a b : Int64} (hd : decode cc pc = .ok (.lcmp, 1))  (h : WS X nL k n (pc + 1) lv (.int (lg_cmp a b) :: st) S) : WS X nL k n pc lv (.long b :: .long a :: st) S := fun H locs ls hP hD hS hG hv => W.lcmp C.1 C.2.1 hd (h H locs ls hP hD hS hG hv)
theorem r_dup (C : Cx X cc own nL rm) {v : Value} (hd : decode cc pc = .ok (.dup, 1)) (hc : v.category = 1) (h : WS X nL k n (pc + 1) lv (v :: v :: st) S) : WS X nL k n pc lv (v :: st) S := fun H locs ls hP hD hS hG hv => lv_dup C.1 C.2.1 hd hc (h H locs ls hP hD hS hG hv)
theorem r_pop (C : Cx X cc own nL rm) {v : Value} (hd : decode cc pc = .ok (.pop, 1)) (hc : v.category = 1) (h : WS X nL k n (pc + 1) lv st S) : WS X nL k n pc lv (v :: st) S := fun H locs ls hP hD hS hG hv => lv_pop C.1 C.2.1 hd hc (h H locs ls hP hD hS hG hv)
theorem r_pop2 (C : Cx X cc own nL rm) {v : Value} (hd : decode cc pc = .ok (.pop2, 1)) (hc : v.category = 2) (h : WS X nL k n (pc + 1) lv st S) : WS X nL k n pc lv (v :: st) S := fun H locs ls hP hD hS hG hv => lv_pop2_2 C.1 C.2.1 hd hc (h H locs ls hP hD hS hG hv)
theorem r_dup2 (C : Cx X cc own nL rm) {v w : Value} (hd : decode cc pc = .ok (.dup2, 1)) (hc : v.category = 1) (hw : w.category = 1) (h : WS X nL k n (pc + 1) lv (v :: w :: v :: w :: st) S) : WS X nL k n pc lv (v :: w :: st) S := fun H locs ls hP hD hS hG hv => lv_dup2_11 C.1 C.2.1 hd hc hw (h H locs ls hP hD hS hG hv)
theorem r_if_eq (C : Cx X cc own nL rm) {x : Int32} {off : Int} {tgt : Nat} (hd : decode cc pc = .ok (.ifCond .eq off, 3)) (ht : (pc : Int) + off = (tgt : Int)) (h : x = 0 → WS X nL k n tgt lv st S) (h2 : ¬ x = 0 → WS X nL k n (pc + 3) lv st S) : WS X nL k n pc lv (.int x :: st) S := fun H locs ls hP hD hS hG hv => lv_if_eq C.1 C.2.1 hd ht (fun q => h q H locs ls hP hD hS hG hv) (fun q => h2 q H locs ls hP hD hS hG hv)
theorem r_icmp_eq (C : Cx X cc own nL rm) {x y : Int32} {off : Int} {tgt : Nat} (hd : decode cc pc = .ok (.if_icmp .eq off, 3)) (ht : (pc : Int) + off = (tgt : Int)) (h : x = y → WS X nL k n tgt lv st S) (h2 : ¬ x = y → WS X nL k n (pc + 3) lv st S) : WS X nL k n pc lv (.int y :: .int x :: st) S := fun H locs ls hP hD hS hG hv => lv_icmp_eq C.1 C.2.1 hd ht (fun q => h q H locs ls hP hD hS hG hv) (fun q => h2 q H locs ls hP hD hS hG hv)
theorem r_if_ne (C : Cx X cc own nL rm) {x : Int32} {off : Int} {tgt : Nat} (hd : decode cc pc = .ok (.ifCond .ne off, 3)) (ht : (pc : Int) + off = (tgt : Int)) (h : ¬ x = 0 → WS X nL k n tgt lv st S) (h2 : x = 0 → WS X nL k n (pc + 3) lv st S) : WS X nL k n pc lv (.int x :: st) S := fun H locs ls hP hD hS hG hv => lv_if_ne C.1 C.2.1 hd ht (fun q => h q H locs ls hP hD hS hG hv) (fun q => h2 q H locs ls hP hD hS hG hv)
theorem r_icmp_ne (C : Cx X cc own nL rm) {x y : Int32} {off : Int} {tgt : Nat} (hd : decode cc pc = .ok (.if_icmp .ne off, 3)) (ht : (pc : Int) + off = (tgt : Int)) (h : ¬ x = y → WS X nL k n tgt lv st S) (h2 : x = y → WS X nL k n (pc + 3) lv st S) : WS X nL k n pc lv (.int y :: .int x :: st) S := fun H locs ls hP hD hS hG hv => lv_icmp_ne C.1 C.2.1 hd ht (fun q => h q H locs ls hP hD hS hG hv) (fun q => h2 q H locs ls hP hD hS hG hv)
theorem r_if_lt (C : Cx X cc own nL rm) {x : Int32} {off : Int} {tgt : Nat} (hd : decode cc pc = .ok (.ifCond .lt off, 3)) (ht : (pc : Int) + off = (tgt : Int)) (h : x < 0 → WS X nL k n tgt lv st S) (h2 : ¬ x < 0 → WS X nL k n (pc + 3) lv st S) : WS X nL k n pc lv (.int x :: st) S := fun H locs ls hP hD hS hG hv => lv_if_lt C.1 C.2.1 hd ht (fun q => h q H locs ls hP hD hS hG hv) (fun q => h2 q H locs ls hP hD hS hG hv)
theorem r_icmp_lt (C : Cx X cc own nL rm) {x y : Int32} {off : Int} {tgt : Nat} (hd : decode cc pc = .ok (.if_icmp .lt off, 3)) (ht : (pc : Int) + off = (tgt : Int)) (h : x < y → WS X nL k n tgt lv st S) (h2 : ¬ x < y → WS X nL k n (pc + 3) lv st S) : WS X nL k n pc lv (.int y :: .int x :: st) S := fun H locs ls hP hD hS hG hv => lv_icmp_lt C.1 C.2.1 hd ht (fun q => h q H locs ls hP hD hS hG hv) (fun q => h2 q H locs ls hP hD hS hG hv)
theorem r_if_ge (C : Cx X cc own nL rm) {x : Int32} {off : Int} {tgt : Nat} (hd : decode cc pc = .ok (.ifCond .ge off, 3)) (ht : (pc : Int) + off = (tgt : Int)) (h : 0 ≤ x → WS X nL k n tgt lv st S) (h2 : ¬ 0 ≤ x → WS X nL k n (pc + 3) lv st S) : WS X nL k n pc lv (.int x :: st) S := fun H locs ls hP hD hS hG hv => lv_if_ge C.1 C.2.1 hd ht (fun q => h q H locs ls hP hD hS hG hv) (fun q => h2 q H locs ls hP hD hS hG hv)
theorem r_icmp_ge (C : Cx X cc own nL rm) {x y : Int32} {off : Int} {tgt : Nat} (hd : decode cc pc = .ok (.if_icmp .ge off, 3)) (ht : (pc : Int) + off = (tgt : Int)) (h : y ≤ x → WS X nL k n tgt lv st S) (h2 : ¬ y ≤ x → WS X nL k n (pc + 3) lv st S) : WS X nL k n pc lv (.int y :: .int x :: st) S := fun H locs ls hP hD hS hG hv => lv_icmp_ge C.1 C.2.1 hd ht (fun q => h q H locs ls hP hD hS hG hv) (fun q => h2 q H locs ls hP hD hS hG hv)
theorem r_if_gt (C : Cx X cc own nL rm) {x : Int32} {off : Int} {tgt : Nat} (hd : decode cc pc = .ok (.ifCond .gt off, 3)) (ht : (pc : Int) + off = (tgt : Int)) (h : 0 < x → WS X nL k n tgt lv st S) (h2 : ¬ 0 < x → WS X nL k n (pc + 3) lv st S) : WS X nL k n pc lv (.int x :: st) S := fun H locs ls hP hD hS hG hv => lv_if_gt C.1 C.2.1 hd ht (fun q => h q H locs ls hP hD hS hG hv) (fun q => h2 q H locs ls hP hD hS hG hv)
theorem r_icmp_gt (C : Cx X cc own nL rm) {x y : Int32} {off : Int} {tgt : Nat} (hd : decode cc pc = .ok (.if_icmp .gt off, 3)) (ht : (pc : Int) + off = (tgt : Int)) (h : y < x → WS X nL k n tgt lv st S) (h2 : ¬ y < x → WS X nL k n (pc + 3) lv st S) : WS X nL k n pc lv (.int y :: .int x :: st) S := fun H locs ls hP hD hS hG hv => lv_icmp_gt C.1 C.2.1 hd ht (fun q => h q H locs ls hP hD hS hG hv) (fun q => h2 q H locs ls hP hD hS hG hv)
theorem r_if_le (C : Cx X cc own nL rm) {x : Int32} {off : Int} {tgt : Nat} (hd : decode cc pc = .ok (.ifCond .le off, 3)) (ht : (pc : Int) + off = (tgt : Int)) (h : x ≤ 0 → WS X nL k n tgt lv st S) (h2 : ¬ x ≤ 0 → WS X nL k n (pc + 3) lv st S) : WS X nL k n pc lv (.int x :: st) S := fun H locs ls hP hD hS hG hv => lv_if_le C.1 C.2.1 hd ht (fun q => h q H locs ls hP hD hS hG hv) (fun q => h2 q H locs ls hP hD hS hG hv)
theorem r_icmp_le (C : Cx X cc own nL rm) {x y : Int32} {off : Int} {tgt : Nat} (hd : decode cc pc = .ok (.if_icmp .le off, 3)) (ht : (pc : Int) + off = (tgt : Int)) (h : x ≤ y → WS X nL k n tgt lv st S) (h2 : ¬ x ≤ y → WS X nL k n (pc + 3) lv st S) : WS X nL k n pc lv (.int y :: .int x :: st) S := fun H locs ls hP hD hS hG hv => lv_icmp_le C.1 C.2.1 hd ht (fun q => h q H locs ls hP hD hS hG hv) (fun q => h2 q H locs ls hP hD hS hG hv)
theorem r_goto (C : Cx X cc own nL rm) {off : Int} {tgt : Nat} (hd : decode cc pc = .ok (.goto off, 3)) (ht : (pc : Int) + off = (tgt : Int)) (h : WS X nL k n tgt lv st S) : WS X nL k n pc lv st S := fun H locs ls hP hD hS hG hv => lv_goto C.1 C.2.1 hd ht (h H locs ls hP hD hS hG hv)
theorem r_tableOut (C : Cx X cc own nL rm) {dflt lo hi : Int} {offs : Array Int} {len : Nat} {x : Int32} {tgt : Nat} (hd : decode cc pc = .ok (.tableswitch dflt lo hi offs, len)) (hx : x.toInt < lo ∨ hi < x.toInt) (ht : (pc : Int) + dflt = (tgt : Int)) (h : WS X nL k n tgt lv st S) : WS X nL k n pc lv (.int x :: st) S := fun H locs ls hP hD hS hG hv => lv_tableOut C.1 C.2.1 hd hx ht (h H locs ls hP hD hS hG hv)
theorem r_tableIn (C : Cx X cc own nL rm) {dflt lo hi : Int} {offs : Array Int} {len : Nat} {x : Int32} {off : Int} {tgt : Nat} (hd : decode cc pc = .ok (.tableswitch dflt lo hi offs, len)) (h1 : ¬ x.toInt < lo) (h2 : ¬ hi < x.toInt) (ho : offs[(x.toInt - lo).toNat]? = some off) (ht : (pc : Int) + off = (tgt : Int)) (h : WS X nL k n tgt lv st S) : WS X nL k n pc lv (.int x :: st) S := fun H locs ls hP hD hS hG hv => lv_tableIn C.1 C.2.1 hd h1 h2 ho ht (h H locs ls hP hD hS hG hv)
theorem r_lookup (C : Cx X cc own nL rm) {dflt : Int} {ps : Array (Int × Int)} {len : Nat} {x : Int32} {off : Int} {tgt : Nat} (hd : decode cc pc = .ok (.lookupswitch dflt ps, len)) (hp : (ps.toList.zip (ps.toList.drop 1)).all (fun (a, next) => a.1 < next.1) = true) (ho : Op.lookupswitch.offset ps.toList dflt x.toInt = off) (ht : (pc : Int) + off = (tgt : Int)) (h : WS X nL k n tgt lv st S) : WS X nL k n pc lv (.int x :: st) S := fun H locs ls hP hD hS hG hv => lv_lookup C.1 C.2.1 hd hp ho ht (h H locs ls hP hD hS hG hv)
/-- a field's link: own class, index, class, place, type -/
def FL (own : String) (i ci j t : Nat) : Prop := ∃ q : vw_C, vwCl[ci]? = some q ∧ j < q.2.2 ∧ ci < 12 ∧ Cond.fieldLink own i (q.2.1 j).1 (q.2.1 j).2.1 (q.2.1 j).2.2.1 ∈ G ∧ (kt.getD ci [])[j]? = some t
/-- the same, of a nest mate's -/
def FN (own : String) (i ci j t : Nat) : Prop := ∃ (q : vw_C) (host : String), vwCl[ci]? = some q ∧ j < q.2.2 ∧ ci < 12 ∧ (own, i, (q.2.1 j).1, (q.2.1 j).2.1, (q.2.1 j).2.2.1, host) ∈ NF ∧ (kt.getD ci [])[j]? = some t
/-- what may be written there -/
def okv (t : Nat) (ty : FieldType) : Prop := if t = 0 then (∀ x : Int32, narrow ty (.int x) = .int x ∧ fits ty (.int x) = true) else if t = 1 then (∀ x : Int64, narrow ty (.long x) = .long x ∧ fits ty (.long x) = true) else ∀ a : Nat, narrow ty (.ref a) = .ref a ∧ fits ty (.ref a) = true
def FP (own : String) (i ci j t : Nat) (fin : Bool) : Prop := FL own i ci j t ∧ ∃ (q : vw_C) (ty : FieldType), vwCl[ci]? = some q ∧ (q.2.1 j).2.2.2 = fin ∧ parseFieldDescriptor (q.2.1 j).2.2.1 = some ty ∧ okv t ty
def FPF (own : String) (i ci j t : Nat) : Prop := FP own i ci j t true ∧ ∃ q : vw_C, vwCl[ci]? = some q ∧ (q.2.1 j).1 = own
def FPN (own : String) (i ci j t : Nat) : Prop := FN own i ci j t ∧ ∃ (q : vw_C) (ty : FieldType), vwCl[ci]? = some q ∧ (q.2.1 j).2.2.2 = false ∧ parseFieldDescriptor (q.2.1 j).2.2.1 = some ty ∧ okv t ty
theorem fs_at {a ci j t : Nat} (ht : (kt.getD ci [])[j]? = some t) : (fsGo S a 0 (kt.getD ci []))[j]? = some (vOf S a t j) := by rw [fs_get, ht, Nat.zero_add]; rfl
theorem fs_lt {a ci j t : Nat} (ht : (kt.getD ci [])[j]? = some t) : j < (fsGo S a 0 (kt.getD ci [])).length := by rw [fs_len]; exact (List.getElem?_eq_some_iff.mp ht).1
theorem w_get (C : Cx X cc own nL rm) {i ci j t a : Nat} (hf : FL own i ci j t) (hd : decode cc pc = .ok (.getfield i, 3)) (ho : ob S a ci) (h : WS X nL k n (pc + 3) lv (vOf S a t j :: st) S) : WS X nL k n pc lv (.ref a :: st) S := fun H locs ls hP hD hS hG hv => by
  obtain ⟨q, hq, hj, h12, hw, ht⟩ := hf
  obtain ⟨k0, hk0⟩ := pw_get (cy := ey (xE X)) ho.1
  rw [cE_obj ho.2 h12] at hk0
  exact va_get (C := q.1) (T := q.2.1) (N := q.2.2) C.1 C.2.1 C.2.2.2.2.1 (CLs ci q hq).1 C.2.2.2.1 C.2.2.2.2.2.1.1 hP k0 hk0 hq j hj (C.2.2.2.2.1 _ hw) (fun _ z => z) (fs_at ht) hd (h H locs ls hP hD hS hG hv)
theorem r_geti (C : Cx X cc own nL rm) {i ci j a : Nat} (hf : FL own i ci j 0) (hd : decode cc pc = .ok (.getfield i, 3)) (ho : ob S a ci) (h : WS X nL k n (pc + 3) lv (.int (fI S a j) :: st) S) : WS X nL k n pc lv (.ref a :: st) S := w_get C hf hd ho h
theorem r_getl (C : Cx X cc own nL rm) {i ci j a : Nat} (hf : FL own i ci j 1) (hd : decode cc pc = .ok (.getfield i, 3)) (ho : ob S a ci) (h : WS X nL k n (pc + 3) lv (.long (fJ S a j) :: st) S) : WS X nL k n pc lv (.ref a :: st) S := w_get C hf hd ho h
theorem r_getr (C : Cx X cc own nL rm) {i ci j a b : Nat} (hf : FL own i ci j 2) (hd : decode cc pc = .ok (.getfield i, 3)) (ho : ob S a ci) (hb : fR S a j = some b) (h : WS X nL k n (pc + 3) lv (.ref b :: st) S) : WS X nL k n pc lv (.ref a :: st) S := w_get C hf hd ho (show WS X nL k n (pc + 3) lv (va_rf (fR S a j) :: st) S by rw [hb]; exact h)
theorem r_get0 (C : Cx X cc own nL rm) {i ci j a : Nat} (hf : FL own i ci j 2) (hd : decode cc pc = .ok (.getfield i, 3)) (ho : ob S a ci) (hb : fR S a j = none) (h : WS X nL k n (pc + 3) lv (.null :: st) S) : WS X nL k n pc lv (.ref a :: st) S := w_get C hf hd ho (show WS X nL k n (pc + 3) lv (va_rf (fR S a j) :: st) S by rw [hb]; exact h)
theorem w_getN (C : Cx X cc own nL rm) {i ci j t a : Nat} (hf : FN own i ci j t) (hd : decode cc pc = .ok (.getfield i, 3)) (ho : ob S a ci) (h : WS X nL k n (pc + 3) lv (vOf S a t j :: st) S) : WS X nL k n pc lv (.ref a :: st) S := fun H locs ls hP hD hS hG hv => by
  obtain ⟨q, host, hq, hj, h12, hw, ht⟩ := hf
  obtain ⟨k0, hk0⟩ := pw_get (cy := ey (xE X)) ho.1
  rw [cE_obj ho.2 h12] at hk0
  exact va_getN (C := q.1) (T := q.2.1) (N := q.2.2) C.1 C.2.1 C.2.2.2.2.1 (CLs ci q hq).1 C.2.2.2.1 C.2.2.2.2.2.1.1 hP k0 hk0 hq j hj (C.2.2.2.2.2.1.2.1 _ hw) (fun _ z => z) (fs_at ht) hd (h H locs ls hP hD hS hG hv)
theorem r_getNi (C : Cx X cc own nL rm) {i ci j a : Nat} (hf : FN own i ci j 0) (hd : decode cc pc = .ok (.getfield i, 3)) (ho : ob S a ci) (h : WS X nL k n (pc + 3) lv (.int (fI S a j) :: st) S) : WS X nL k n pc lv (.ref a :: st) S := w_getN C hf hd ho h
theorem r_getNl (C : Cx X cc own nL rm) {i ci j a : Nat} (hf : FN own i ci j 1) (hd : decode cc pc = .ok (.getfield i, 3)) (ho : ob S a ci) (h : WS X nL k n (pc + 3) lv (.long (fJ S a j) :: st) S) : WS X nL k n pc lv (.ref a :: st) S := w_getN C hf hd ho h
theorem r_getNr (C : Cx X cc own nL rm) {i ci j a b : Nat} (hf : FN own i ci j 2) (hd : decode cc pc = .ok (.getfield i, 3)) (ho : ob S a ci) (hb : fR S a j = some b) (h : WS X nL k n (pc + 3) lv (.ref b :: st) S) : WS X nL k n pc lv (.ref a :: st) S := w_getN C hf hd ho (show WS X nL k n (pc + 3) lv (va_rf (fR S a j) :: st) S by rw [hb]; exact h)
theorem r_getN0 (C : Cx X cc own nL rm) {i ci j a : Nat} (hf : FN own i ci j 2) (hd : decode cc pc = .ok (.getfield i, 3)) (ho : ob S a ci) (hb : fR S a j = none) (h : WS X nL k n (pc + 3) lv (.null :: st) S) : WS X nL k n pc lv (.ref a :: st) S := w_getN C hf hd ho (show WS X nL k n (pc + 3) lv (va_rf (fR S a j) :: st) S by rw [hb]; exact h)
theorem r_puti (C : Cx X cc own nL rm) {i ci j a : Nat} {v : Int32} (hf : FP own i ci j 0 false) (hd : decode cc pc = .ok (.putfield i, 3)) (ho : ob S a ci) (h : WS X nL k n (pc + 3) lv st (sI S a j v)) : WS X nL k n pc lv (.int v :: .ref a :: st) S := fun H locs ls hP hD hS hG hv => by
  obtain ⟨⟨q, hq, hj, h12, hw, ht⟩, q2, ty, hq2, hfin, hpd, hok⟩ := hf
  cases hq.symm.trans hq2
  obtain ⟨k0, hk0⟩ := pw_get (cy := ey (xE X)) ho.1
  have hset := pw_sI (v := v) hD ho h12 hk0 ht
  rw [cE_obj ho.2 h12] at hk0
  obtain ⟨hin, ty0, hty, hnm⟩ := CLs ci q hq
  refine va_put (C := q.1) (T := q.2.1) (N := q.2.2) C.1 C.2.1 C.2.2.2.2.1 hin ty0 hty hnm C.2.2.2.1 C.2.2.2.2.2.1.1 hP hD hS k0 hk0 hq j hj (C.2.2.2.2.1 _ hw) (fun _ z => z) hfin  hpd (hok v).1 (hok v).2 (fs_lt ht) hd (fun H1 locs1 hP1 hD1 hS1 => ?_)
  have hP2 := hset ▸ hP1
  have hD2 := hset ▸ hD1
  exact h H1 locs1 ls hP2 hD2 hS1 hG hv
theorem r_putl (C : Cx X cc own nL rm) {i ci j a : Nat} {v : Int64} (hf : FP own i ci j 1 false) (hd : decode cc pc = .ok (.putfield i, 3)) (ho : ob S a ci) (h : WS X nL k n (pc + 3) lv st (sJ S a j v)) : WS X nL k n pc lv (.long v :: .ref a :: st) S := fun H locs ls hP hD hS hG hv => by
  obtain ⟨⟨q, hq, hj, h12, hw, ht⟩, q2, ty, hq2, hfin, hpd, hok⟩ := hf
  cases hq.symm.trans hq2
  obtain ⟨k0, hk0⟩ := pw_get (cy := ey (xE X)) ho.1
  have hset := pw_sJ (v := v) hD ho h12 hk0 ht
  rw [cE_obj ho.2 h12] at hk0
  obtain ⟨hin, ty0, hty, hnm⟩ := CLs ci q hq
  refine va_put (C := q.1) (T := q.2.1) (N := q.2.2) C.1 C.2.1 C.2.2.2.2.1 hin ty0 hty hnm C.2.2.2.1 C.2.2.2.2.2.1.1 hP hD hS k0 hk0 hq j hj (C.2.2.2.2.1 _ hw) (fun _ z => z) hfin  hpd (hok v).1 (hok v).2 (fs_lt ht) hd (fun H1 locs1 hP1 hD1 hS1 => ?_)
  have hP2 := hset ▸ hP1
  have hD2 := hset ▸ hD1
  exact h H1 locs1 ls hP2 hD2 hS1 hG hv
theorem r_putr (C : Cx X cc own nL rm) {i ci j a : Nat} {v : Nat} (hf : FP own i ci j 2 false) (hd : decode cc pc = .ok (.putfield i, 3)) (ho : ob S a ci) (h : WS X nL k n (pc + 3) lv st (sR S a j (some v))) : WS X nL k n pc lv (.ref v :: .ref a :: st) S := fun H locs ls hP hD hS hG hv => by
  obtain ⟨⟨q, hq, hj, h12, hw, ht⟩, q2, ty, hq2, hfin, hpd, hok⟩ := hf
  cases hq.symm.trans hq2
  obtain ⟨k0, hk0⟩ := pw_get (cy := ey (xE X)) ho.1
  have hset := pw_sR (v := (some v)) hD ho h12 hk0 ht
  rw [cE_obj ho.2 h12] at hk0
  obtain ⟨hin, ty0, hty, hnm⟩ := CLs ci q hq
  refine va_put (C := q.1) (T := q.2.1) (N := q.2.2) C.1 C.2.1 C.2.2.2.2.1 hin ty0 hty hnm C.2.2.2.1 C.2.2.2.2.2.1.1 hP hD hS k0 hk0 hq j hj (C.2.2.2.2.1 _ hw) (fun _ z => z) hfin  hpd (hok v).1 (hok v).2 (fs_lt ht) hd (fun H1 locs1 hP1 hD1 hS1 => ?_)
  have hP2 := hset ▸ hP1
  have hD2 := hset ▸ hD1
  exact h H1 locs1 ls hP2 hD2 hS1 hG hv
theorem r_putNi (C : Cx X cc own nL rm) {i ci j a : Nat} {v : Int32} (hf : FPN own i ci j 0) (hd : decode cc pc = .ok (.putfield i, 3)) (ho : ob S a ci) (h : WS X nL k n (pc + 3) lv st (sI S a j v)) : WS X nL k n pc lv (.int v :: .ref a :: st) S := fun H locs ls hP hD hS hG hv => by
  obtain ⟨⟨q, host, hq, hj, h12, hw, ht⟩, q2, ty, hq2, hfin, hpd, hok⟩ := hf
  cases hq.symm.trans hq2
  obtain ⟨k0, hk0⟩ := pw_get (cy := ey (xE X)) ho.1
  have hset := pw_sI (v := v) hD ho h12 hk0 ht
  rw [cE_obj ho.2 h12] at hk0
  obtain ⟨hin, ty0, hty, hnm⟩ := CLs ci q hq
  refine va_putN (C := q.1) (T := q.2.1) (N := q.2.2) C.1 C.2.1 C.2.2.2.2.1 hin ty0 hty hnm C.2.2.2.1 C.2.2.2.2.2.1.1 hP hD hS k0 hk0 hq j hj (C.2.2.2.2.2.1.2.1 _ hw) (fun _ z => z) hfin  hpd (hok v).1 (hok v).2 (fs_lt ht) hd (fun H1 locs1 hP1 hD1 hS1 => ?_)
  have hP2 := hset ▸ hP1
  have hD2 := hset ▸ hD1
  exact h H1 locs1 ls hP2 hD2 hS1 hG hv
theorem r_putNl (C : Cx X cc own nL rm) {i ci j a : Nat} {v : Int64} (hf : FPN own i ci j 1) (hd : decode cc pc = .ok (.putfield i, 3)) (ho : ob S a ci) (h : WS X nL k n (pc + 3) lv st (sJ S a j v)) : WS X nL k n pc lv (.long v :: .ref a :: st) S := fun H locs ls hP hD hS hG hv => by
  obtain ⟨⟨q, host, hq, hj, h12, hw, ht⟩, q2, ty, hq2, hfin, hpd, hok⟩ := hf
  cases hq.symm.trans hq2
  obtain ⟨k0, hk0⟩ := pw_get (cy := ey (xE X)) ho.1
  have hset := pw_sJ (v := v) hD ho h12 hk0 ht
  rw [cE_obj ho.2 h12] at hk0
  obtain ⟨hin, ty0, hty, hnm⟩ := CLs ci q hq
  refine va_putN (C := q.1) (T := q.2.1) (N := q.2.2) C.1 C.2.1 C.2.2.2.2.1 hin ty0 hty hnm C.2.2.2.1 C.2.2.2.2.2.1.1 hP hD hS k0 hk0 hq j hj (C.2.2.2.2.2.1.2.1 _ hw) (fun _ z => z) hfin  hpd (hok v).1 (hok v).2 (fs_lt ht) hd (fun H1 locs1 hP1 hD1 hS1 => ?_)
  have hP2 := hset ▸ hP1
  have hD2 := hset ▸ hD1
  exact h H1 locs1 ls hP2 hD2 hS1 hG hv
theorem r_putNr (C : Cx X cc own nL rm) {i ci j a : Nat} {v : Nat} (hf : FPN own i ci j 2) (hd : decode cc pc = .ok (.putfield i, 3)) (ho : ob S a ci) (h : WS X nL k n (pc + 3) lv st (sR S a j (some v))) : WS X nL k n pc lv (.ref v :: .ref a :: st) S := fun H locs ls hP hD hS hG hv => by
  obtain ⟨⟨q, host, hq, hj, h12, hw, ht⟩, q2, ty, hq2, hfin, hpd, hok⟩ := hf
  cases hq.symm.trans hq2
  obtain ⟨k0, hk0⟩ := pw_get (cy := ey (xE X)) ho.1
  have hset := pw_sR (v := (some v)) hD ho h12 hk0 ht
  rw [cE_obj ho.2 h12] at hk0
  obtain ⟨hin, ty0, hty, hnm⟩ := CLs ci q hq
  refine va_putN (C := q.1) (T := q.2.1) (N := q.2.2) C.1 C.2.1 C.2.2.2.2.1 hin ty0 hty hnm C.2.2.2.1 C.2.2.2.2.2.1.1 hP hD hS k0 hk0 hq j hj (C.2.2.2.2.2.1.2.1 _ hw) (fun _ z => z) hfin  hpd (hok v).1 (hok v).2 (fs_lt ht) hd (fun H1 locs1 hP1 hD1 hS1 => ?_)
  have hP2 := hset ▸ hP1
  have hD2 := hset ▸ hD1
  exact h H1 locs1 ls hP2 hD2 hS1 hG hv
theorem r_putFi (C : Cx X cc own nL rm) {i ci j a : Nat} {v : Int32} (hf : FPF own i ci j 0) (hin2 : (xh X).name = "<init>") (hd : decode cc pc = .ok (.putfield i, 3)) (ho : ob S a ci) (h : WS X nL k n (pc + 3) lv st (sI S a j v)) : WS X nL k n pc lv (.int v :: .ref a :: st) S := fun H locs ls hP hD hS hG hv => by
  obtain ⟨⟨⟨q, hq, hj, h12, hw, ht⟩, q2, ty, hq2, hfin, hpd, hok⟩, q3, hq3, hdecl⟩ := hf
  cases hq.symm.trans hq3
  cases hq.symm.trans hq2
  obtain ⟨k0, hk0⟩ := pw_get (cy := ey (xE X)) ho.1
  have hset := pw_sI (v := v) hD ho h12 hk0 ht
  rw [cE_obj ho.2 h12] at hk0
  obtain ⟨hin, ty0, hty, hnm⟩ := CLs ci q hq
  refine va_putF (C := q.1) (T := q.2.1) (N := q.2.2) C.1 C.2.1 C.2.2.2.2.1 hin ty0 hty hnm C.2.2.2.1 C.2.2.2.2.2.1.1 hP hD hS k0 hk0 hq j hj (C.2.2.2.2.1 _ hw) (fun _ z => z) hfin hin2 hdecl hpd (hok v).1 (hok v).2 (fs_lt ht) hd (fun H1 locs1 hP1 hD1 hS1 => ?_)
  have hP2 := hset ▸ hP1
  have hD2 := hset ▸ hD1
  exact h H1 locs1 ls hP2 hD2 hS1 hG hv
theorem r_putFl (C : Cx X cc own nL rm) {i ci j a : Nat} {v : Int64} (hf : FPF own i ci j 1) (hin2 : (xh X).name = "<init>") (hd : decode cc pc = .ok (.putfield i, 3)) (ho : ob S a ci) (h : WS X nL k n (pc + 3) lv st (sJ S a j v)) : WS X nL k n pc lv (.long v :: .ref a :: st) S := fun H locs ls hP hD hS hG hv => by
  obtain ⟨⟨⟨q, hq, hj, h12, hw, ht⟩, q2, ty, hq2, hfin, hpd, hok⟩, q3, hq3, hdecl⟩ := hf
  cases hq.symm.trans hq3
  cases hq.symm.trans hq2
  obtain ⟨k0, hk0⟩ := pw_get (cy := ey (xE X)) ho.1
  have hset := pw_sJ (v := v) hD ho h12 hk0 ht
  rw [cE_obj ho.2 h12] at hk0
  obtain ⟨hin, ty0, hty, hnm⟩ := CLs ci q hq
  refine va_putF (C := q.1) (T := q.2.1) (N := q.2.2) C.1 C.2.1 C.2.2.2.2.1 hin ty0 hty hnm C.2.2.2.1 C.2.2.2.2.2.1.1 hP hD hS k0 hk0 hq j hj (C.2.2.2.2.1 _ hw) (fun _ z => z) hfin hin2 hdecl hpd (hok v).1 (hok v).2 (fs_lt ht) hd (fun H1 locs1 hP1 hD1 hS1 => ?_)
  have hP2 := hset ▸ hP1
  have hD2 := hset ▸ hD1
  exact h H1 locs1 ls hP2 hD2 hS1 hG hv
theorem r_putFr (C : Cx X cc own nL rm) {i ci j a : Nat} {v : Nat} (hf : FPF own i ci j 2) (hin2 : (xh X).name = "<init>") (hd : decode cc pc = .ok (.putfield i, 3)) (ho : ob S a ci) (h : WS X nL k n (pc + 3) lv st (sR S a j (some v))) : WS X nL k n pc lv (.ref v :: .ref a :: st) S := fun H locs ls hP hD hS hG hv => by
  obtain ⟨⟨⟨q, hq, hj, h12, hw, ht⟩, q2, ty, hq2, hfin, hpd, hok⟩, q3, hq3, hdecl⟩ := hf
  cases hq.symm.trans hq3
  cases hq.symm.trans hq2
  obtain ⟨k0, hk0⟩ := pw_get (cy := ey (xE X)) ho.1
  have hset := pw_sR (v := (some v)) hD ho h12 hk0 ht
  rw [cE_obj ho.2 h12] at hk0
  obtain ⟨hin, ty0, hty, hnm⟩ := CLs ci q hq
  refine va_putF (C := q.1) (T := q.2.1) (N := q.2.2) C.1 C.2.1 C.2.2.2.2.1 hin ty0 hty hnm C.2.2.2.1 C.2.2.2.2.2.1.1 hP hD hS k0 hk0 hq j hj (C.2.2.2.2.1 _ hw) (fun _ z => z) hfin hin2 hdecl hpd (hok v).1 (hok v).2 (fs_lt ht) hd (fun H1 locs1 hP1 hD1 hS1 => ?_)
  have hP2 := hset ▸ hP1
  have hD2 := hset ▸ hD1
  exact h H1 locs1 ls hP2 hD2 hS1 hG hv
theorem r_ifnull (C : Cx X cc own nL rm) {a : Nat} {off : Int} (hd : decode cc pc = .ok (.ifnull off, 3)) (h : WS X nL k n (pc + 3) lv st S) : WS X nL k n pc lv (.ref a :: st) S := fun H locs ls hP hD hS hG hv => lv_ifnull C.1 C.2.1 hd (h H locs ls hP hD hS hG hv)
theorem r_ifnull0 (C : Cx X cc own nL rm) {off : Int} {tgt : Nat} (hd : decode cc pc = .ok (.ifnull off, 3)) (ht : (pc : Int) + off = (tgt : Int)) (h : WS X nL k n tgt lv st S) : WS X nL k n pc lv (.null :: st) S := fun H locs ls hP hD hS hG hv => lv_ifnullN C.1 C.2.1 hd ht (h H locs ls hP hD hS hG hv)
theorem r_ifnonnull (C : Cx X cc own nL rm) {a : Nat} {off : Int} {tgt : Nat} (hd : decode cc pc = .ok (.ifnonnull off, 3)) (ht : (pc : Int) + off = (tgt : Int)) (h : WS X nL k n tgt lv st S) : WS X nL k n pc lv (.ref a :: st) S := fun H locs ls hP hD hS hG hv => lv_ifnonnull C.1 C.2.1 hd ht (h H locs ls hP hD hS hG hv)
theorem r_ifnonnull0 (C : Cx X cc own nL rm) {off : Int} (hd : decode cc pc = .ok (.ifnonnull off, 3)) (h : WS X nL k n (pc + 3) lv st S) : WS X nL k n pc lv (.null :: st) S := fun H locs ls hP hD hS hG hv => lv_ifnonnullN C.1 C.2.1 hd (h H locs ls hP hD hS hG hv)
/-- an array's cell in the pool -/
theorem a_I {E : EE} {a q : Nat} (ho : ob S a q) (h1 : ¬ q < 12) (h2 : q < 16) (h3 : q ≠ 14) {k0 : Nat} (hk : (pw (ey E) S)[k0]? = some (a, cE (ey E) S a)) : (pw (ey E) S)[k0]? = some (a, .inl (ey E q, hN S a, .inl (fI S a))) := by
  rw [hk, cE_arr ho.2 h1, aOf, if_neg h3, if_pos h2]
theorem a_J {E : EE} {a : Nat} (ho : ob S a 14) {k0 : Nat} (hk : (pw (ey E) S)[k0]? = some (a, cE (ey E) S a)) : (pw (ey E) S)[k0]? = some (a, .inl (ey E 14, hN S a, .inr (.inl (fJ S a)))) := by
  rw [hk, cE_arr ho.2 (by decide)]; rfl
theorem a_R {E : EE} {a q : Nat} (ho : ob S a q) (h1 : ¬ q < 16) {k0 : Nat} (hk : (pw (ey E) S)[k0]? = some (a, cE (ey E) S a)) : (pw (ey E) S)[k0]? = some (a, .inl (ey E q, hN S a, .inr (.inr (.inr (.inr (fR S a)))))) := by
  rw [hk, cE_arr ho.2 (by omega), aOf, if_neg (by omega), if_neg h1]
theorem r_iald (C : Cx X cc own nL rm) {a : Nat} {i : Int32} (hd : decode cc pc = .ok (.iaload, 1)) (ho : ob S a 13) (hi : vp_in i (hN S a)) (h : WS X nL k n (pc + 1) lv (.int (fI S a i.toNatClampNeg) :: st) S) : WS X nL k n pc lv (.int i :: .ref a :: st) S := fun H locs ls hP hD hS hG hv => by
  obtain ⟨k0, hk0⟩ := pw_get (cy := ey (xE X)) ho.1
  exact va_iald C.1 C.2.1 C.2.2.2.2.2.1.1 hP k0 1 (a_I ho (by decide) (by decide) (by decide) hk0) rfl hi hd (h H locs ls hP hD hS hG hv)
theorem r_bald (C : Cx X cc own nL rm) {a : Nat} {i : Int32} (hd : decode cc pc = .ok (.baload, 1)) (ho : ob S a 12) (hi : vp_in i (hN S a)) (h : WS X nL k n (pc + 1) lv (.int (fI S a i.toNatClampNeg) :: st) S) : WS X nL k n pc lv (.int i :: .ref a :: st) S := fun H locs ls hP hD hS hG hv => by
  obtain ⟨k0, hk0⟩ := pw_get (cy := ey (xE X)) ho.1
  exact va_bald C.1 C.2.1 C.2.2.2.2.2.1.1 hP k0 0 (a_I ho (by decide) (by decide) (by decide) hk0) rfl hi hd (h H locs ls hP hD hS hG hv)
theorem r_zald (C : Cx X cc own nL rm) {a : Nat} {i : Int32} (hd : decode cc pc = .ok (.baload, 1)) (ho : ob S a 15) (hi : vp_in i (hN S a)) (h : WS X nL k n (pc + 1) lv (.int (fI S a i.toNatClampNeg) :: st) S) : WS X nL k n pc lv (.int i :: .ref a :: st) S := fun H locs ls hP hD hS hG hv => by
  obtain ⟨k0, hk0⟩ := pw_get (cy := ey (xE X)) ho.1
  exact va_zald C.1 C.2.1 C.2.2.2.2.2.1.1 hP k0 3 (a_I ho (by decide) (by decide) (by decide) hk0) rfl hi hd (h H locs ls hP hD hS hG hv)
theorem r_lald (C : Cx X cc own nL rm) {a : Nat} {i : Int32} (hd : decode cc pc = .ok (.laload, 1)) (ho : ob S a 14) (hi : vp_in i (hN S a)) (h : WS X nL k n (pc + 1) lv (.long (fJ S a i.toNatClampNeg) :: st) S) : WS X nL k n pc lv (.int i :: .ref a :: st) S := fun H locs ls hP hD hS hG hv => by
  obtain ⟨k0, hk0⟩ := pw_get (cy := ey (xE X)) ho.1
  exact va_lald C.1 C.2.1 C.2.2.2.2.2.1.1 hP k0 2 (a_J ho hk0) rfl hi hd (h H locs ls hP hD hS hG hv)
theorem r_aald16 (C : Cx X cc own nL rm) {a b : Nat} {i : Int32} (hd : decode cc pc = .ok (.aaload, 1)) (ho : ob S a 16) (hi : vp_in i (hN S a)) (hb : fR S a i.toNatClampNeg = some b) (h : WS X nL k n (pc + 1) lv (.ref b :: st) S) : WS X nL k n pc lv (.int i :: .ref a :: st) S := fun H locs ls hP hD hS hG hv => by
  obtain ⟨k0, hk0⟩ := pw_get (cy := ey (xE X)) ho.1
  refine va_aldq (C := RX2) C.1 C.2.1 C.2.2.2.2.2.1.1 hP k0 4 (a_R ho (by decide) hk0) rfl hi hd ?_
  rw [hb]
  exact h H locs ls hP hD hS hG hv
theorem r_aast16 (C : Cx X cc own nL rm) {a v : Nat} {i : Int32} (hd : decode cc pc = .ok (.aastore, 1)) (ho : ob S a 16) (hi : vp_in i (hN S a)) (hb : ob S v 2) (h : WS X nL k n (pc + 1) lv st (sR S a i.toNatClampNeg (some v))) : WS X nL k n pc lv (.ref v :: .int i :: .ref a :: st) S := fun H locs ls hP hD hS hG hv => by
  obtain ⟨k0, hk0⟩ := pw_get (cy := ey (xE X)) ho.1
  obtain ⟨k1, hk1⟩ := pw_get (cy := ey (xE X)) hb.1
  rw [cE_obj hb.2 (by decide)] at hk1
  have hset := pw_aR (v := some v) (j := i.toNatClampNeg) hD ho (by decide) hk0
  refine va_astq (r := (RX2, TX2, _)) C.1 C.2.1 C.2.2.2.2.2.1.1 hP hD hS k0 4 k1 2 (a_R ho (by decide) hk0) rfl hk1 rfl hi hd (fun H1 locs1 hP1 hD1 hS1 => ?_)
  have hP2 := hset ▸ hP1
  have hD2 := hset ▸ hD1
  exact h H1 locs1 ls hP2 hD2 hS1 hG hv
theorem r_aald17 (C : Cx X cc own nL rm) {a b : Nat} {i : Int32} (hd : decode cc pc = .ok (.aaload, 1)) (ho : ob S a 17) (hi : vp_in i (hN S a)) (hb : fR S a i.toNatClampNeg = some b) (h : WS X nL k n (pc + 1) lv (.ref b :: st) S) : WS X nL k n pc lv (.int i :: .ref a :: st) S := fun H locs ls hP hD hS hG hv => by
  obtain ⟨k0, hk0⟩ := pw_get (cy := ey (xE X)) ho.1
  refine va_aldq (C := RX3) C.1 C.2.1 C.2.2.2.2.2.1.1 hP k0 5 (a_R ho (by decide) hk0) rfl hi hd ?_
  rw [hb]
  exact h H locs ls hP hD hS hG hv
theorem r_aast17 (C : Cx X cc own nL rm) {a v : Nat} {i : Int32} (hd : decode cc pc = .ok (.aastore, 1)) (ho : ob S a 17) (hi : vp_in i (hN S a)) (hb : ob S v 3) (h : WS X nL k n (pc + 1) lv st (sR S a i.toNatClampNeg (some v))) : WS X nL k n pc lv (.ref v :: .int i :: .ref a :: st) S := fun H locs ls hP hD hS hG hv => by
  obtain ⟨k0, hk0⟩ := pw_get (cy := ey (xE X)) ho.1
  obtain ⟨k1, hk1⟩ := pw_get (cy := ey (xE X)) hb.1
  rw [cE_obj hb.2 (by decide)] at hk1
  have hset := pw_aR (v := some v) (j := i.toNatClampNeg) hD ho (by decide) hk0
  refine va_astq (r := (RX3, TX3, _)) C.1 C.2.1 C.2.2.2.2.2.1.1 hP hD hS k0 5 k1 3 (a_R ho (by decide) hk0) rfl hk1 rfl hi hd (fun H1 locs1 hP1 hD1 hS1 => ?_)
  have hP2 := hset ▸ hP1
  have hD2 := hset ▸ hD1
  exact h H1 locs1 ls hP2 hD2 hS1 hG hv
theorem r_aald18 (C : Cx X cc own nL rm) {a b : Nat} {i : Int32} (hd : decode cc pc = .ok (.aaload, 1)) (ho : ob S a 18) (hi : vp_in i (hN S a)) (hb : fR S a i.toNatClampNeg = some b) (h : WS X nL k n (pc + 1) lv (.ref b :: st) S) : WS X nL k n pc lv (.int i :: .ref a :: st) S := fun H locs ls hP hD hS hG hv => by
  obtain ⟨k0, hk0⟩ := pw_get (cy := ey (xE X)) ho.1
  refine va_aldq (C := RX5) C.1 C.2.1 C.2.2.2.2.2.1.1 hP k0 6 (a_R ho (by decide) hk0) rfl hi hd ?_
  rw [hb]
  exact h H locs ls hP hD hS hG hv
theorem r_aast18 (C : Cx X cc own nL rm) {a v : Nat} {i : Int32} (hd : decode cc pc = .ok (.aastore, 1)) (ho : ob S a 18) (hi : vp_in i (hN S a)) (hb : ob S v 5) (h : WS X nL k n (pc + 1) lv st (sR S a i.toNatClampNeg (some v))) : WS X nL k n pc lv (.ref v :: .int i :: .ref a :: st) S := fun H locs ls hP hD hS hG hv => by
  obtain ⟨k0, hk0⟩ := pw_get (cy := ey (xE X)) ho.1
  obtain ⟨k1, hk1⟩ := pw_get (cy := ey (xE X)) hb.1
  rw [cE_obj hb.2 (by decide)] at hk1
  have hset := pw_aR (v := some v) (j := i.toNatClampNeg) hD ho (by decide) hk0
  refine va_astq (r := (RX5, TX5, _)) C.1 C.2.1 C.2.2.2.2.2.1.1 hP hD hS k0 6 k1 5 (a_R ho (by decide) hk0) rfl hk1 rfl hi hd (fun H1 locs1 hP1 hD1 hS1 => ?_)
  have hP2 := hset ▸ hP1
  have hD2 := hset ▸ hD1
  exact h H1 locs1 ls hP2 hD2 hS1 hG hv
theorem r_aald19 (C : Cx X cc own nL rm) {a b : Nat} {i : Int32} (hd : decode cc pc = .ok (.aaload, 1)) (ho : ob S a 19) (hi : vp_in i (hN S a)) (hb : fR S a i.toNatClampNeg = some b) (h : WS X nL k n (pc + 1) lv (.ref b :: st) S) : WS X nL k n pc lv (.int i :: .ref a :: st) S := fun H locs ls hP hD hS hG hv => by
  obtain ⟨k0, hk0⟩ := pw_get (cy := ey (xE X)) ho.1
  refine va_aldq (C := RX6) C.1 C.2.1 C.2.2.2.2.2.1.1 hP k0 7 (a_R ho (by decide) hk0) rfl hi hd ?_
  rw [hb]
  exact h H locs ls hP hD hS hG hv
theorem r_aast19 (C : Cx X cc own nL rm) {a v : Nat} {i : Int32} (hd : decode cc pc = .ok (.aastore, 1)) (ho : ob S a 19) (hi : vp_in i (hN S a)) (hb : ob S v 6) (h : WS X nL k n (pc + 1) lv st (sR S a i.toNatClampNeg (some v))) : WS X nL k n pc lv (.ref v :: .int i :: .ref a :: st) S := fun H locs ls hP hD hS hG hv => by
  obtain ⟨k0, hk0⟩ := pw_get (cy := ey (xE X)) ho.1
  obtain ⟨k1, hk1⟩ := pw_get (cy := ey (xE X)) hb.1
  rw [cE_obj hb.2 (by decide)] at hk1
  have hset := pw_aR (v := some v) (j := i.toNatClampNeg) hD ho (by decide) hk0
  refine va_astq (r := (RX6, TX6, _)) C.1 C.2.1 C.2.2.2.2.2.1.1 hP hD hS k0 7 k1 6 (a_R ho (by decide) hk0) rfl hk1 rfl hi hd (fun H1 locs1 hP1 hD1 hS1 => ?_)
  have hP2 := hset ▸ hP1
  have hD2 := hset ▸ hD1
  exact h H1 locs1 ls hP2 hD2 hS1 hG hv
theorem r_iast (C : Cx X cc own nL rm) {a : Nat} {i x : Int32} (hd : decode cc pc = .ok (.iastore, 1)) (ho : ob S a 13) (hi : vp_in i (hN S a)) (h : WS X nL k n (pc + 1) lv st (sI S a i.toNatClampNeg x)) : WS X nL k n pc lv (.int x :: .int i :: .ref a :: st) S := fun H locs ls hP hD hS hG hv => by
  obtain ⟨k0, hk0⟩ := pw_get (cy := ey (xE X)) ho.1
  have hset := pw_aI (v := x) (j := i.toNatClampNeg) hD ho (by decide) (by decide) (by decide) hk0
  refine va_iast C.1 C.2.1 C.2.2.2.2.2.1.1 hP hD hS k0 1 (a_I ho (by decide) (by decide) (by decide) hk0) rfl hi hd (fun H1 locs1 hP1 hD1 hS1 => ?_)
  have hP2 := hset ▸ hP1
  have hD2 := hset ▸ hD1
  exact h H1 locs1 ls hP2 hD2 hS1 hG hv
theorem r_bast (C : Cx X cc own nL rm) {a : Nat} {i x : Int32} (hd : decode cc pc = .ok (.bastore, 1)) (ho : ob S a 12) (hi : vp_in i (hN S a)) (h : WS X nL k n (pc + 1) lv st (sI S a i.toNatClampNeg (vp_nar .byte x))) : WS X nL k n pc lv (.int x :: .int i :: .ref a :: st) S := fun H locs ls hP hD hS hG hv => by
  obtain ⟨k0, hk0⟩ := pw_get (cy := ey (xE X)) ho.1
  have hset := pw_aI (v := (vp_nar .byte x)) (j := i.toNatClampNeg) hD ho (by decide) (by decide) (by decide) hk0
  refine va_bast C.1 C.2.1 C.2.2.2.2.2.1.1 hP hD hS k0 0 (a_I ho (by decide) (by decide) (by decide) hk0) rfl hi hd (fun H1 locs1 hP1 hD1 hS1 => ?_)
  have hP2 := hset ▸ hP1
  have hD2 := hset ▸ hD1
  exact h H1 locs1 ls hP2 hD2 hS1 hG hv
theorem r_zast (C : Cx X cc own nL rm) {a : Nat} {i x : Int32} (hd : decode cc pc = .ok (.bastore, 1)) (ho : ob S a 15) (hi : vp_in i (hN S a)) (h : WS X nL k n (pc + 1) lv st (sI S a i.toNatClampNeg (vp_nar .boolean x))) : WS X nL k n pc lv (.int x :: .int i :: .ref a :: st) S := fun H locs ls hP hD hS hG hv => by
  obtain ⟨k0, hk0⟩ := pw_get (cy := ey (xE X)) ho.1
  have hset := pw_aI (v := (vp_nar .boolean x)) (j := i.toNatClampNeg) hD ho (by decide) (by decide) (by decide) hk0
  refine va_zast C.1 C.2.1 C.2.2.2.2.2.1.1 hP hD hS k0 3 (a_I ho (by decide) (by decide) (by decide) hk0) rfl hi hd (fun H1 locs1 hP1 hD1 hS1 => ?_)
  have hP2 := hset ▸ hP1
  have hD2 := hset ▸ hD1
  exact h H1 locs1 ls hP2 hD2 hS1 hG hv
theorem r_last (C : Cx X cc own nL rm) {a : Nat} {i : Int32} {x : Int64} (hd : decode cc pc = .ok (.lastore, 1)) (ho : ob S a 14) (hi : vp_in i (hN S a)) (h : WS X nL k n (pc + 1) lv st (sJ S a i.toNatClampNeg x)) : WS X nL k n pc lv (.long x :: .int i :: .ref a :: st) S := fun H locs ls hP hD hS hG hv => by
  obtain ⟨k0, hk0⟩ := pw_get (cy := ey (xE X)) ho.1
  have hset := pw_aJ (v := x) (j := i.toNatClampNeg) hD ho hk0
  refine va_last C.1 C.2.1 C.2.2.2.2.2.1.1 hP hD hS k0 2 (a_J ho hk0) rfl hi hd (fun H1 locs1 hP1 hD1 hS1 => ?_)
  have hP2 := hset ▸ hP1
  have hD2 := hset ▸ hD1
  exact h H1 locs1 ls hP2 hD2 hS1 hG hv
theorem r_alen12 (C : Cx X cc own nL rm) {a : Nat} (hd : decode cc pc = .ok (.arraylength, 1)) (ho : ob S a 12) (h : WS X nL k n (pc + 1) lv (.int (nI (hN S a)) :: st) S) : WS X nL k n pc lv (.ref a :: st) S := fun H locs ls hP hD hS hG hv => by
  obtain ⟨k0, hk0⟩ := pw_get (cy := ey (xE X)) ho.1
  rw [cE_arr ho.2 (by decide)] at hk0
  exact va_alen C.1 C.2.1 C.2.2.2.2.2.1.1 hP k0 0 hk0 (ty := .byte) rfl rfl hd (h H locs ls hP hD hS hG hv)
theorem r_alen13 (C : Cx X cc own nL rm) {a : Nat} (hd : decode cc pc = .ok (.arraylength, 1)) (ho : ob S a 13) (h : WS X nL k n (pc + 1) lv (.int (nI (hN S a)) :: st) S) : WS X nL k n pc lv (.ref a :: st) S := fun H locs ls hP hD hS hG hv => by
  obtain ⟨k0, hk0⟩ := pw_get (cy := ey (xE X)) ho.1
  rw [cE_arr ho.2 (by decide)] at hk0
  exact va_alen C.1 C.2.1 C.2.2.2.2.2.1.1 hP k0 1 hk0 (ty := .int) rfl rfl hd (h H locs ls hP hD hS hG hv)
theorem r_alen14 (C : Cx X cc own nL rm) {a : Nat} (hd : decode cc pc = .ok (.arraylength, 1)) (ho : ob S a 14) (h : WS X nL k n (pc + 1) lv (.int (nI (hN S a)) :: st) S) : WS X nL k n pc lv (.ref a :: st) S := fun H locs ls hP hD hS hG hv => by
  obtain ⟨k0, hk0⟩ := pw_get (cy := ey (xE X)) ho.1
  rw [cE_arr ho.2 (by decide)] at hk0
  exact va_alen C.1 C.2.1 C.2.2.2.2.2.1.1 hP k0 2 hk0 (ty := .long) rfl rfl hd (h H locs ls hP hD hS hG hv)
theorem r_alen15 (C : Cx X cc own nL rm) {a : Nat} (hd : decode cc pc = .ok (.arraylength, 1)) (ho : ob S a 15) (h : WS X nL k n (pc + 1) lv (.int (nI (hN S a)) :: st) S) : WS X nL k n pc lv (.ref a :: st) S := fun H locs ls hP hD hS hG hv => by
  obtain ⟨k0, hk0⟩ := pw_get (cy := ey (xE X)) ho.1
  rw [cE_arr ho.2 (by decide)] at hk0
  exact va_alen C.1 C.2.1 C.2.2.2.2.2.1.1 hP k0 3 hk0 (ty := .boolean) rfl rfl hd (h H locs ls hP hD hS hG hv)
theorem r_alen16 (C : Cx X cc own nL rm) {a : Nat} (hd : decode cc pc = .ok (.arraylength, 1)) (ho : ob S a 16) (h : WS X nL k n (pc + 1) lv (.int (nI (hN S a)) :: st) S) : WS X nL k n pc lv (.ref a :: st) S := fun H locs ls hP hD hS hG hv => by
  obtain ⟨k0, hk0⟩ := pw_get (cy := ey (xE X)) ho.1
  rw [cE_arr ho.2 (by decide)] at hk0
  exact va_alen C.1 C.2.1 C.2.2.2.2.2.1.1 hP k0 4 hk0 (ty := .object RX2) rfl rfl hd (h H locs ls hP hD hS hG hv)
theorem r_alen17 (C : Cx X cc own nL rm) {a : Nat} (hd : decode cc pc = .ok (.arraylength, 1)) (ho : ob S a 17) (h : WS X nL k n (pc + 1) lv (.int (nI (hN S a)) :: st) S) : WS X nL k n pc lv (.ref a :: st) S := fun H locs ls hP hD hS hG hv => by
  obtain ⟨k0, hk0⟩ := pw_get (cy := ey (xE X)) ho.1
  rw [cE_arr ho.2 (by decide)] at hk0
  exact va_alen C.1 C.2.1 C.2.2.2.2.2.1.1 hP k0 5 hk0 (ty := .object RX3) rfl rfl hd (h H locs ls hP hD hS hG hv)
theorem r_alen18 (C : Cx X cc own nL rm) {a : Nat} (hd : decode cc pc = .ok (.arraylength, 1)) (ho : ob S a 18) (h : WS X nL k n (pc + 1) lv (.int (nI (hN S a)) :: st) S) : WS X nL k n pc lv (.ref a :: st) S := fun H locs ls hP hD hS hG hv => by
  obtain ⟨k0, hk0⟩ := pw_get (cy := ey (xE X)) ho.1
  rw [cE_arr ho.2 (by decide)] at hk0
  exact va_alen C.1 C.2.1 C.2.2.2.2.2.1.1 hP k0 6 hk0 (ty := .object RX5) rfl rfl hd (h H locs ls hP hD hS hG hv)
theorem r_alen19 (C : Cx X cc own nL rm) {a : Nat} (hd : decode cc pc = .ok (.arraylength, 1)) (ho : ob S a 19) (h : WS X nL k n (pc + 1) lv (.int (nI (hN S a)) :: st) S) : WS X nL k n pc lv (.ref a :: st) S := fun H locs ls hP hD hS hG hv => by
  obtain ⟨k0, hk0⟩ := pw_get (cy := ey (xE X)) ho.1
  rw [cE_arr ho.2 (by decide)] at hk0
  exact va_alen C.1 C.2.1 C.2.2.2.2.2.1.1 hP k0 7 hk0 (ty := .object RX6) rfl rfl hd (h H locs ls hP hD hS hG hv)
end Rows
