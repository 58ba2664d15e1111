/-! THE POOL: all cells of the class, of the reference and of the law's own, as functions of their addresses. K is the kind (0 to 11: the classes of vwCl; 12 bytes, 13 ints, 14 longs, 15 booleans, 16 Moments, 17 Rains, 18 Roads, 19 Walkers), N an array's length; I, J, R what stands at a place: an object's field, an array's element. -/
abbrev HS : Type := List Nat × (Nat → Nat) × (Nat → Nat) × (Nat → Nat → Int32) × (Nat → Nat → Int64) × (Nat → Nat → Option Nat)
def hL (S : HS) : List Nat := S.1
def hK (S : HS) : Nat → Nat := S.2.1
def hN (S : HS) : Nat → Nat := S.2.2.1
def fI (S : HS) : Nat → Nat → Int32 := S.2.2.2.1
def fJ (S : HS) : Nat → Nat → Int64 := S.2.2.2.2.1
def fR (S : HS) : Nat → Nat → Option Nat := S.2.2.2.2.2
def u2 {α : Type} (f : Nat → Nat → α) (a j : Nat) (v : α) : Nat → Nat → α := fun b i => if b = a ∧ i = j then v else f b i
def sI (S : HS) (a j : Nat) (v : Int32) : HS := (hL S, hK S, hN S, u2 (fI S) a j v, fJ S, fR S)
def sJ (S : HS) (a j : Nat) (v : Int64) : HS := (hL S, hK S, hN S, fI S, u2 (fJ S) a j v, fR S)
def sR (S : HS) (a j : Nat) (v : Option Nat) : HS := (hL S, hK S, hN S, fI S, fJ S, u2 (fR S) a j v)
def nW (S : HS) (a k n : Nat) : HS := (hL S ++ [a], va_up (hK S) a k, va_up (hN S) a n, va_up (fI S) a (fun _ => 0), va_up (fJ S) a (fun _ => 0), va_up (fR S) a (fun _ => none))
/-- a is an object (an array) of kind k -/
def ob (S : HS) (a k : Nat) : Prop := a ∈ hL S ∧ hK S a = k
/-- what was there is there, of its kind and length -/
def Gr (S S' : HS) : Prop := ∀ a, a ∈ hL S → a ∈ hL S' ∧ hK S' a = hK S a ∧ hN S' a = hN S a
theorem gr_rf (S : HS) : Gr S S := fun _ h => ⟨h, rfl, rfl⟩
theorem gr_tr {S T U : HS} (h : Gr S T) (g : Gr T U) : Gr S U := fun a ha => ⟨(g a (h a ha).1).1, (g a (h a ha).1).2.1.trans (h a ha).2.1, (g a (h a ha).1).2.2.trans (h a ha).2.2⟩
theorem gr_ob {S T : HS} (h : Gr S T) {a k : Nat} (g : ob S a k) : ob T a k := ⟨(h a g.1).1, (h a g.1).2.1.trans g.2⟩
theorem gr_len {S T : HS} (h : Gr S T) {a k : Nat} (g : ob S a k) : hN T a = hN S a := (h a g.1).2.2
theorem gr_sI {S T : HS} (h : Gr S T) (a j : Nat) (v : Int32) : Gr S (sI T a j v) := h
theorem gr_sJ {S T : HS} (h : Gr S T) (a j : Nat) (v : Int64) : Gr S (sJ T a j v) := h
theorem gr_sR {S T : HS} (h : Gr S T) (a j : Nat) (v : Option Nat) : Gr S (sR T a j v) := h
theorem gr_nW {S T : HS} (h : Gr S T) {a : Nat} (k n : Nat) (ha : a ∉ hL T) : Gr S (nW T a k n) := fun b hb => by
  have h1 := h b hb
  have hba : b ≠ a := fun q => ha (q ▸ h1.1)
  refine ⟨List.mem_append_left _ h1.1, ?_, ?_⟩
  · show va_up (hK T) a k b = _
    rw [va_up_ne _ _ hba]; exact h1.2.1
  · show va_up (hN T) a n b = _
    rw [va_up_ne _ _ hba]; exact h1.2.2
/-- the types of the classes' fields: 0 an int, 1 a long, 2 a reference -/
def kt : List (List Nat) := [[0, 0, 0, 0, 2, 2, 2], [2, 2], [0, 0, 2], [0, 0, 0, 0, 0], [0, 0, 2, 0, 0, 2, 0, 0, 1, 0, 0, 2, 2], [0, 0, 0, 0, 0], [0, 0, 0, 0, 0, 0, 0], [2, 2, 2, 0, 2, 2, 2, 2, 2, 0, 0, 0, 0, 0], [0, 0, 0, 0, 0, 0, 2, 2, 2, 2, 2, 2], [2, 0, 2, 2, 2, 2, 2, 0, 0, 0], [0, 0, 0, 0, 0, 0, 0, 2, 2, 2, 2, 2, 2, 2, 2, 2, 2, 2, 2, 2, 2, 2, 2, 2, 2, 2, 2, 2, 2, 2, 2], [0, 0, 0, 2, 2, 2, 0, 0, 0, 0, 0, 0, 0, 0, 0, 1, 2, 2, 2, 0, 0, 2, 2, 2, 0, 0]]
def vOf (S : HS) (a t j : Nat) : Value := if t = 0 then .int (fI S a j) else if t = 1 then .long (fJ S a j) else va_rf (fR S a j)
def fsGo (S : HS) (a : Nat) : Nat → List Nat → List Value
  | _, [] => []
  | j, t :: ts => vOf S a t j :: fsGo S a (j + 1) ts
def aOf (S : HS) (a k : Nat) : vp_A := (hN S a, if k = 14 then .inr (.inl (fJ S a)) else if k < 16 then .inl (fI S a) else .inr (.inr (.inr (.inr (fR S a)))))
def cE (cy : Nat → ClassId) (S : HS) (a : Nat) : va_E := if hK S a < 12 then .inr (hK S a, fsGo S a 0 (kt.getD (hK S a) [])) else .inl (cy (hK S a), aOf S a (hK S a))
def pw (cy : Nat → ClassId) (S : HS) : va_W := va_pl (hL S) (cE cy S)
def tys (cy : Nat → ClassId) : List (ClassId × FieldType) := [(cy 12, .byte), (cy 13, .int), (cy 14, .long), (cy 15, .boolean), (cy 16, .object RX2), (cy 17, .object RX3), (cy 18, .object RX5), (cy 19, .object RX6)]
theorem fs_get (S : HS) (a : Nat) : ∀ (ts : List Nat) (i j : Nat), (fsGo S a i ts)[j]? = (ts[j]?).map (fun t => vOf S a t (i + j))
  | [], i, j => by simp [fsGo]
  | t :: ts, i, 0 => by simp [fsGo]
  | t :: ts, i, j + 1 => by
    have := fs_get S a ts (i + 1) j
    simp only [fsGo, List.getElem?_cons_succ]
    rw [this, Nat.add_right_comm i 1 j]; rfl
theorem fs_len (S : HS) (a : Nat) : ∀ (ts : List Nat) (i : Nat), (fsGo S a i ts).length = ts.length
  | [], i => rfl
  | t :: ts, i => by simp [fsGo, fs_len S a ts (i + 1)]
theorem fs_same {S T : HS} {a : Nat} : ∀ (ts : List Nat) (i : Nat), (∀ j t, ts[j]? = some t → vOf S a t (i + j) = vOf T a t (i + j)) → fsGo S a i ts = fsGo T a i ts
  | [], i, _ => rfl
  | t :: ts, i, h => by
    have h0 := h 0 t rfl
    have h1 := fs_same (S := S) (T := T) (a := a) ts (i + 1) (fun j u hu => by rw [Nat.add_right_comm i 1 j]; exact h (j + 1) u hu)
    simp only [fsGo]
    rw [h1]
    exact congrArg (· :: _) h0
theorem fs_set {S T : HS} {a : Nat} {v : Value} (ts : List Nat) (i k : Nat) {t : Nat} (ht : ts[k]? = some t) (hv : vOf T a t (i + k) = v) (h : ∀ j t, ts[j]? = some t → j ≠ k → vOf S a t (i + j) = vOf T a t (i + j)) : fsGo T a i ts = (fsGo S a i ts).set k v := by
  apply List.ext_getElem?
  intro j
  by_cases hj : j = k
  · subst hj
    have hl : j < (fsGo S a i ts).length := by rw [fs_len]; exact (List.getElem?_eq_some_iff.mp ht).1
    rw [List.getElem?_set_self hl, fs_get, ht, ← hv]; rfl
  · rw [List.getElem?_set_ne (Ne.symm hj), fs_get, fs_get]
    cases hq : ts[j]? with
    | none => rfl
    | some u => exact congrArg some (h j u hq hj).symm
theorem u2_self {α : Type} (f : Nat → Nat → α) (a j : Nat) (v : α) : u2 f a j v a j = v := by simp [u2]
theorem u2_ne {α : Type} (f : Nat → Nat → α) {a j b i : Nat} (v : α) (h : ¬ (b = a ∧ i = j)) : u2 f a j v b i = f b i := by simp only [u2, if_neg h]
theorem u2_row {α : Type} (f : Nat → Nat → α) {a j b : Nat} (v : α) (h : b ≠ a) : u2 f a j v b = f b := by
  funext i
  exact u2_ne f v (fun q => h q.1)
theorem cE_obj {cy : Nat → ClassId} {S : HS} {a k : Nat} (h : hK S a = k) (hk : k < 12) : cE cy S a = .inr (k, fsGo S a 0 (kt.getD k [])) := by
  simp only [cE, h, if_pos hk]
theorem cE_arr {cy : Nat → ClassId} {S : HS} {a k : Nat} (h : hK S a = k) (hk : ¬ k < 12) : cE cy S a = .inl (cy k, aOf S a k) := by
  simp only [cE, h, if_neg hk]
theorem aOf_ne {S T : HS} {a k : Nat} (h0 : hN S a = hN T a) (h1 : fI S a = fI T a) (h2 : fJ S a = fJ T a) (h3 : fR S a = fR T a) : aOf S a k = aOf T a k := by
  simp only [aOf, h0, h1, h2, h3]
theorem vOf_ne {S T : HS} {a : Nat} (h1 : fI S a = fI T a) (h2 : fJ S a = fJ T a) (h3 : fR S a = fR T a) (t j : Nat) : vOf S a t j = vOf T a t j := by
  simp only [vOf, h1, h2, h3]
theorem cE_ne {cy : Nat → ClassId} {S T : HS} {a : Nat} (hk : hK S a = hK T a) (h0 : hN S a = hN T a) (h1 : fI S a = fI T a) (h2 : fJ S a = fJ T a) (h3 : fR S a = fR T a) : cE cy S a = cE cy T a := by
  unfold cE
  rw [hk, aOf_ne h0 h1 h2 h3, fs_same (S := S) (T := T) _ 0 (fun j t _ => vOf_ne h1 h2 h3 t _)]
/-- a place of a pool is set: the world's list, changed at one place -/
theorem pw_set {cy : Nat → ClassId} {A : Nat → Prop} {S T : HS} {a k0 : Nat} {e : va_E} (hD : va_D A (pw cy S)) (ha : a ∈ hL S) (hk : (pw cy S)[k0]? = some (a, cE cy S a)) (hL' : hL T = hL S) (hs : cE cy T a = e) (hne : ∀ b, b ≠ a → cE cy T b = cE cy S b) : (pw cy S).set k0 (a, e) = pw cy T := by
  have h := va_pl_set (X := []) (e := e) hD ha hk
  have h2 : (pw cy S).set k0 (a, e) = va_pl (hL S) (va_up (cE cy S) a e) := h
  rw [h2]
  unfold pw
  rw [hL']
  refine va_pl_congr (fun b => ?_)
  by_cases hb : b = a
  · subst hb; rw [va_up_self, hs]
  · rw [va_up_ne _ _ hb, hne b hb]
theorem pw_get {cy : Nat → ClassId} {S : HS} {a : Nat} (ha : a ∈ hL S) : ∃ k : Nat, (pw cy S)[k]? = some (a, cE cy S a) := va_pl_get (X := []) ha
theorem pw_new {cy : Nat → ClassId} {S : HS} {a k n : Nat} {e : va_E} (ha : a ∉ hL S) (he : cE cy (nW S a k n) a = e) : pw cy S ++ [(a, e)] = pw cy (nW S a k n) := by
  unfold pw
  rw [va_pl_push ha]
  show va_pl (hL S ++ [a]) _ = va_pl (hL S ++ [a]) _
  refine va_pl_congr (fun b => ?_)
  by_cases hb : b = a
  · subst hb; rw [va_up_self, he]
  · rw [va_up_ne _ _ hb]
    exact cE_ne (va_up_ne _ _ hb).symm (va_up_ne _ _ hb).symm (va_up_ne _ _ hb).symm (va_up_ne _ _ hb).symm (va_up_ne _ _ hb).symm
theorem pw_sI {cy : Nat → ClassId} {A : Nat → Prop} {S : HS} {a k k0 j : Nat} {v : Int32} (hD : va_D A (pw cy S)) (ho : ob S a k) (hk12 : k < 12) (hk : (pw cy S)[k0]? = some (a, cE cy S a)) (ht : (kt.getD k [])[j]? = some 0) : (pw cy S).set k0 (a, .inr (k, (fsGo S a 0 (kt.getD k [])).set j (.int v))) = pw cy (sI S a j v) := by
  refine pw_set hD ho.1 hk rfl ?_ (fun b hb => cE_ne rfl rfl (u2_row _ _ hb) rfl rfl)
  rw [cE_obj (S := sI S a j v) (k := k) ho.2 hk12]
  refine congrArg (fun z => Sum.inr (k, z)) (fs_set (S := S) _ 0 j ht ?_ ?_)
  · show Value.int (u2 (fI S) a j v a (0 + j)) = _
    rw [Nat.zero_add, u2_self]
  · intro i t hi hij
    rw [Nat.zero_add]
    show vOf S a t i = (if t = 0 then Value.int (u2 (fI S) a j v a i) else if t = 1 then .long (fJ S a i) else va_rf (fR S a i))
    rw [u2_ne _ _ (fun q => hij q.2)]; rfl
theorem pw_sJ {cy : Nat → ClassId} {A : Nat → Prop} {S : HS} {a k k0 j : Nat} {v : Int64} (hD : va_D A (pw cy S)) (ho : ob S a k) (hk12 : k < 12) (hk : (pw cy S)[k0]? = some (a, cE cy S a)) (ht : (kt.getD k [])[j]? = some 1) : (pw cy S).set k0 (a, .inr (k, (fsGo S a 0 (kt.getD k [])).set j (.long v))) = pw cy (sJ S a j v) := by
  refine pw_set hD ho.1 hk rfl ?_ (fun b hb => cE_ne rfl rfl rfl (u2_row _ _ hb) rfl)
  rw [cE_obj (S := sJ S a j v) (k := k) ho.2 hk12]
  refine congrArg (fun z => Sum.inr (k, z)) (fs_set (S := S) _ 0 j ht ?_ ?_)
  · show Value.long (u2 (fJ S) a j v a (0 + j)) = _
    rw [Nat.zero_add, u2_self]
  · intro i t hi hij
    rw [Nat.zero_add]
    show vOf S a t i = (if t = 0 then Value.int (fI S a i) else if t = 1 then .long (u2 (fJ S) a j v a i) else va_rf (fR S a i))
    rw [u2_ne _ _ (fun q => hij q.2)]; rfl
theorem pw_sR {cy : Nat → ClassId} {A : Nat → Prop} {S : HS} {a k k0 j : Nat} {v : Option Nat} (hD : va_D A (pw cy S)) (ho : ob S a k) (hk12 : k < 12) (hk : (pw cy S)[k0]? = some (a, cE cy S a)) (ht : (kt.getD k [])[j]? = some 2) : (pw cy S).set k0 (a, .inr (k, (fsGo S a 0 (kt.getD k [])).set j (va_rf v))) = pw cy (sR S a j v) := by
  refine pw_set hD ho.1 hk rfl ?_ (fun b hb => cE_ne rfl rfl rfl rfl (u2_row _ _ hb))
  rw [cE_obj (S := sR S a j v) (k := k) ho.2 hk12]
  refine congrArg (fun z => Sum.inr (k, z)) (fs_set (S := S) _ 0 j ht ?_ ?_)
  · show va_rf (u2 (fR S) a j v a (0 + j)) = _
    rw [Nat.zero_add, u2_self]
  · intro i t hi hij
    rw [Nat.zero_add]
    show vOf S a t i = (if t = 0 then Value.int (fI S a i) else if t = 1 then .long (fJ S a i) else va_rf (u2 (fR S) a j v a i))
    rw [u2_ne _ _ (fun q => hij q.2)]; rfl
theorem u2_upd (f : Nat → Nat → Int32) (a j : Nat) (v : Int32) : u2 f a j v a = upd (f a) j v := by
  funext i
  by_cases h : i = j
  · subst h; simp [u2, upd]
  · simp [u2, upd, h]
theorem u2_updL (f : Nat → Nat → Int64) (a j : Nat) (v : Int64) : u2 f a j v a = vp_updL (f a) j v := by
  funext i
  by_cases h : i = j
  · subst h; simp [u2, vp_updL]
  · simp [u2, vp_updL, h]
theorem u2_up {α : Type} (f : Nat → Nat → α) (a j : Nat) (v : α) : u2 f a j v a = va_up (f a) j v := by
  funext i
  by_cases h : i = j
  · subst h; simp [u2, va_up]
  · simp [u2, va_up, h]
theorem pw_aI {cy : Nat → ClassId} {A : Nat → Prop} {S : HS} {a k k0 j : Nat} {v : Int32} (hD : va_D A (pw cy S)) (ho : ob S a k) (hk1 : ¬ k < 12) (hk2 : k < 16) (hk3 : k ≠ 14) (hk : (pw cy S)[k0]? = some (a, cE cy S a)) : (pw cy S).set k0 (a, .inl (cy k, (hN S a, .inl (upd (fI S a) j v)))) = pw cy (sI S a j v) := by
  refine pw_set hD ho.1 hk rfl ?_ (fun b hb => cE_ne rfl rfl (u2_row _ _ hb) rfl rfl)
  rw [cE_arr (S := sI S a j v) (k := k) ho.2 hk1]
  show Sum.inl (cy k, (hN S a, _)) = _
  rw [if_neg hk3, if_pos hk2]
  show Sum.inl (cy k, (hN S a, Sum.inl (u2 (fI S) a j v a))) = _
  rw [u2_upd]
theorem pw_aJ {cy : Nat → ClassId} {A : Nat → Prop} {S : HS} {a k0 j : Nat} {v : Int64} (hD : va_D A (pw cy S)) (ho : ob S a 14) (hk : (pw cy S)[k0]? = some (a, cE cy S a)) : (pw cy S).set k0 (a, .inl (cy 14, (hN S a, .inr (.inl (vp_updL (fJ S a) j v))))) = pw cy (sJ S a j v) := by
  refine pw_set hD ho.1 hk rfl ?_ (fun b hb => cE_ne rfl rfl rfl (u2_row _ _ hb) rfl)
  rw [cE_arr (S := sJ S a j v) (k := 14) ho.2 (by decide)]
  show Sum.inl (cy 14, (hN S a, Sum.inr (Sum.inl (u2 (fJ S) a j v a)))) = _
  rw [u2_updL]
theorem pw_aR {cy : Nat → ClassId} {A : Nat → Prop} {S : HS} {a k k0 j : Nat} {v : Option Nat} (hD : va_D A (pw cy S)) (ho : ob S a k) (hk1 : ¬ k < 16) (hk : (pw cy S)[k0]? = some (a, cE cy S a)) : (pw cy S).set k0 (a, .inl (cy k, (hN S a, .inr (.inr (.inr (.inr (va_up (fR S a) j v))))))) = pw cy (sR S a j v) := by
  refine pw_set hD ho.1 hk rfl ?_ (fun b hb => cE_ne rfl rfl rfl rfl (u2_row _ _ hb))
  rw [cE_arr (S := sR S a j v) (k := k) ho.2 (by omega)]
  show Sum.inl (cy k, (hN S a, _)) = _
  rw [if_neg (by omega), if_neg hk1]
  show Sum.inl (cy k, (hN S a, Sum.inr (Sum.inr (Sum.inr (Sum.inr (u2 (fR S) a j v a)))))) = _
  rw [u2_up]
