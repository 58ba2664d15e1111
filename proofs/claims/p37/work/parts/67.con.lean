def FLD (E : List Nat) (S : HS) (v : Nat) (F : List (Nat × Nat × Nat)) : Prop := (∀ e ∈ F, ∃ b, fR S v e.1 = some b ∧ ob S b e.2.1 ∧ b ∉ E ∧ b ≠ v ∧ hN S b = e.2.2) ∧ ∀ j b, fR S v j = some b → b ∈ hL S
def CN (k v : Nat) (E : List Nat) (S : HS) : Prop := IV (ms (v :: E) S) ∧ NO S ∧ (∀ x, x ∈ v :: E → x ∈ hL S) ∧ v ∉ E ∧ hK S v = k ∧ (∀ j, fR S v j = none) ∧ fI S v = fun _ => 0
def CR (k v : Nat) (E : List Nat) (S T : HS) : Prop := IV (ms E T) ∧ NO T ∧ XP S T v ∧ hK T v = k
def CS (S0 : HS) (E L : List Nat) (S : HS) (v k : Nat) (F : List (Nat × Nat × Nat)) (f : Nat → Int32) : Prop := IV (ms L S) ∧ NO S ∧ (∀ x, x ∈ L → x ∈ hL S) ∧ v ∈ L ∧ (∀ x, x ∈ E → x ∈ L) ∧ v ∉ E ∧ v ∈ hL S0 ∧ hK S v = k ∧ FLD E S v F ∧ XP S0 S v ∧ fI S v = f
section Con2
variable {E L : List Nat} {S S0 T U : HS} {a b v k q n j i N w : Nat} {F : List (Nat × Nat × Nat)} {f : Nat → Int32}
theorem fld_tr (h : FLD E S v F) (hv : v ∈ hL S) (hx : XP S T w) (hn : v ≠ w) : FLD E T v F := by
  have e := ((hx v hv).2.2.2 hn).2.2
  refine ⟨fun g hg => ?_, fun j b hb => ?_⟩
  · obtain ⟨b, b1, b2, b3, b4, b5⟩ := h.1 g hg
    have y := hx b b2.1
    exact ⟨b, by rw [e]; exact b1, ⟨y.1, y.2.1.trans b2.2⟩, b3, b4, y.2.2.1.trans b5⟩
  · rw [e] at hb
    exact (hx b (h.2 j b hb)).1
theorem fld_set (h : FLD E S v F) (E1 : U = sR S v j (some b)) (o : ob S b q) (hE : b ∉ E) (hn : b ≠ v) (hN' : hN S b = N) (hj : ∀ e ∈ F, e.1 ≠ j) : FLD E U v ((j, q, N) :: F) := by
  subst E1
  have ne : ∀ i, i ≠ j → fR (sR S v j (some b)) v i = fR S v i := fun i hi => u2_ne _ _ (fun z => hi z.2)
  refine ⟨fun g hg => ?_, fun i c hc => ?_⟩
  · rcases List.mem_cons.mp hg with rfl | hg
    · exact ⟨b, u2_self _ _ _ _, o, hE, hn, hN'⟩
    · obtain ⟨c, c1, c2, c3, c4, c5⟩ := h.1 g hg
      exact ⟨c, (ne _ (hj g hg)).trans c1, c2, c3, c4, c5⟩
  · by_cases z : i = j
    · subst z
      obtain rfl : b = c := Option.some.inj ((show fR (sR S v i (some b)) v i = some b from u2_self _ _ _ _).symm.trans hc)
      exact o.1
    · rw [ne i z] at hc
      exact h.2 i c hc
theorem no_new (h : NO S) (E1 : T = nW S a k n) (hk : k ≠ 10 ∧ k ≠ 11) (ha : a ∉ hL S) : NO T := by
  subst E1
  intro x hx
  rcases List.mem_append.mp hx with g | g
  · have hn : x ≠ a := fun z => ha (z ▸ g)
    rw [show hK (nW S a k n) x = hK S x from va_up_ne _ _ hn]
    exact h x g
  · obtain rfl := List.mem_singleton.mp g
    rw [nW_K]; exact hk
theorem cs_0 (h : CN k v E S) : CS S E (v :: E) S v k [] (fun _ => 0) := ⟨h.1, h.2.1, h.2.2.1, List.mem_cons_self, fun x hx => List.mem_cons_of_mem _ hx, h.2.2.2.1, h.2.2.1 v List.mem_cons_self, h.2.2.2.2.1, ⟨fun e he => absurd he (by simp), fun j b hb => by rw [h.2.2.2.2.2.1 j] at hb; exact absurd hb (by simp)⟩, xp_rf, h.2.2.2.2.2.2⟩
theorem cs_I {x : Int32} (h : CS S0 E L S v k F f) (E1 : T = sI S v j x) : CS S0 E L T v k F (upd f j x) := by
  obtain ⟨h1, h2, h3, h4, h5, h6, h7, h8, h9, h10, h11⟩ := h
  refine ⟨x_I h1 h4 E1, ?_, ?_, h4, h5, h6, h7, ?_, ?_, xp_tr h10 (xp_I E1), ?_⟩
  all_goals subst E1
  · exact h2
  · exact h3
  · exact h8
  · exact h9
  · show u2 (fI S) v j x v = _
    rw [u2_upd, h11]
/-- a new array or object, of any kind, is put into a field; what is masked goes by hI -/
theorem cs_put {L2 : List Nat} (h : CS S0 E L S v k F f) (hb : b ∉ hL S) (hx : XP S T b) (hT : IV (ms L2 T)) (hno : NO T) (hL2 : ∀ x, x ∈ L2 → x ∈ hL T) (hsub : ∀ x, x ∈ L → x ∈ L2) (ob' : ob T b q) (hN' : hN T b = N) (E1 : U = sR T v j (some b)) (hj : ∀ e ∈ F, e.1 ≠ j) : CS S0 E L2 U v k ((j, q, N) :: F) f := by
  obtain ⟨h1, h2, h3, h4, h5, h6, h7, h8, h9, h10, h11⟩ := h
  have hvS := h3 v h4
  have hvb : v ≠ b := fun z => hb (z ▸ hvS)
  have y := hx v hvS
  refine ⟨x_R hT (hsub v h4) E1, by rw [E1]; exact hno, by rw [E1]; exact hL2, hsub v h4, fun x hx => hsub x (h5 x hx), h6, h7, by rw [E1]; exact y.2.1.trans h8, fld_set (fld_tr h9 hvS hx hvb) E1 ob' (fun z => hb (h3 b (h5 b z))) (Ne.symm hvb) hN' hj, ?_, ?_⟩
  · have hb0 : b ∉ hL S0 := fun z => hb (h10 b z).1
    exact xp_tr (xp_by hb0 h10 hx) (xp_R E1)
  · rw [E1]
    exact (y.2.2.2 hvb).1.trans h11
theorem cs_arr (h : CS S0 E L S v k F f) (hb : b ∉ hL S) (E1 : T = nW S b q N) (E2 : U = sR T v j (some b)) (hq : 12 ≤ q ∧ q < 16) (hj : ∀ e ∈ F, e.1 ≠ j) : CS S0 E L U v k ((j, q, N) :: F) f := by
  have hbL : b ∉ L := fun z => hb (h.2.2.1 b z)
  refine cs_put h hb (xp_new hb E1) (x_arr h.1 hb hbL E1 hq) (no_new h.2.1 E1 (by omega) hb) (fun x hx => ?_) (fun x hx => hx) (ob_of_new E1) ?_ E2 hj
  · exact (xp_new (v := 0) hb E1 x (h.2.2.1 x hx)).1
  · rw [E1]; exact va_up_self _ _ _
/-- an array of objects: masked until it is full -/
theorem cs_ref (h : CS S0 E L S v k F f) (hb : b ∉ hL S) (E1 : T = nW S b q N) (E2 : U = sR T v j (some b)) (hq : 16 ≤ q ∧ q < 20) (hj : ∀ e ∈ F, e.1 ≠ j) : CS S0 E (b :: L) U v k ((j, q, N) :: F) f ∧ b ∉ L ∧ b ∉ hL S0 ∧ b ≠ v ∧ hK U b = q ∧ hN U b = N ∧ fR U v j = some b := by
  have hbL : b ∉ L := fun z => hb (h.2.2.1 b z)
  have ho := ob_of_new E1
  have hn : hN T b = N := by rw [E1]; exact va_up_self _ _ _
  refine ⟨cs_put h hb (xp_new hb E1) (x_obj h.1 hb E1) (no_new h.2.1 E1 (by omega) hb) (fun x hx => ?_) (fun x hx => List.mem_cons_of_mem _ hx) ho hn E2 hj, hbL, fun z => hb (h.2.2.2.2.2.2.2.2.2.1 b z).1, fun z => hb (z ▸ h.2.2.1 v h.2.2.2.1), by rw [E2]; exact ho.2, by rw [E2]; exact hn, by rw [E2]; exact u2_self _ _ _ _⟩
  rcases List.mem_cons.mp hx with rfl | hx
  · exact ho.1
  · exact (xp_new (v := 0) hb E1 x (h.2.2.1 x hx)).1
/-- an object is made: what its constructor starts from -/
theorem cn_of (hI : IV (ms L S)) (hno : NO S) (hL' : ∀ x, x ∈ L → x ∈ hL S) (hb : b ∉ hL S) (E1 : T = nW S b k 0) (hk : k < 10) : CN k b L T := by
  refine ⟨x_obj hI hb E1, no_new hno E1 (by omega) hb, fun x hx => ?_, fun z => hb (hL' b z), (ob_of_new E1).2, ?_, ?_⟩
  · rcases List.mem_cons.mp hx with rfl | hx
    · exact (ob_of_new E1).1
    · exact (xp_new (v := 0) hb E1 x (hL' x hx)).1
  · rw [E1]; exact zero_new.1
  · rw [E1]; exact zero_new.2
theorem cs_obj (h : CS S0 E L S v k F f) (hb : b ∉ hL S) (E1 : T = nW S b q 0) {T2 : HS} (r : CR q b L T T2) (E2 : U = sR T2 v j (some b)) (hj : ∀ e ∈ F, e.1 ≠ j) : CS S0 E L U v k ((j, q, 0) :: F) f := by
  obtain ⟨r1, r2, r3, r4⟩ := r
  have ho := ob_of_new E1
  have y := r3 b ho.1
  have hx : XP S T2 b := xp_tr (xp_new hb E1) r3
  refine cs_put h hb hx r1 r2 (fun x hx' => (hx x (h.2.2.1 x hx')).1) (fun x hx => hx) ⟨y.1, r4⟩ ?_ E2 hj
  rw [y.2.2.1, E1]; exact va_up_self _ _ _
theorem cs_end (h : CS S0 E (v :: E) S v k F f) (hk : k < 10) (hF : ∀ e ∈ shT, e.1 = k → ∃ g ∈ F, g.1 = e.2.1 ∧ g.2.1 = e.2.2.1 ∧ (e.2.2.2 = 0 ∨ g.2.2 = e.2.2.2)) (hnu : ∀ e ∈ nuT, e.1 = k → e.2.2.1 ≤ f e.2.1 ∧ f e.2.1 ≤ e.2.2.2) (hwy : k = 7 → ∀ e ∈ wyT, ∃ g ∈ F, g.1 = e.1 ∧ g.2.2 = 0) : CR k v E S0 S := by
  obtain ⟨h1, h2, h3, h4, h5, h6, h7, h8, h9, h10, h11⟩ := h
  refine ⟨x_fin h1 h2 h6 (h3 v h4) (by rw [h8]; exact hk) ?_ ?_ ?_ h9.2, h2, h10, h8⟩
  · rw [h8]
    intro e he hek
    obtain ⟨g, hg, g1, g2, g3⟩ := hF e he hek
    obtain ⟨b, b1, b2, b3, b4, b5⟩ := h9.1 g hg
    refine ⟨b, by rw [← g1]; exact b1, ⟨b2.1, by rw [ms_out b3, ← g2]; exact b2.2⟩, ?_⟩
    rcases g3 with g3 | g3
    · exact Or.inl g3
    · exact Or.inr (b5.trans g3)
  · intro hk7 e he b hb
    obtain ⟨g, hg, g1, g2⟩ := hwy (h8.symm.trans hk7) e he
    obtain ⟨c, c1, c2, c3, c4, c5⟩ := h9.1 g hg
    rw [g1] at c1
    obtain rfl : c = b := Option.some.inj (c1.symm.trans hb)
    exact c5.trans g2
  · rw [h8, h11]; exact hnu
/-- an array of objects is being filled: c of them stand -/
def FS (S0 : HS) (E L : List Nat) (S : HS) (v k : Nat) (F : List (Nat × Nat × Nat)) (f : Nat → Int32) (a q j N c : Nat) : Prop := CS S0 E (a :: L) S v k F f ∧ a ∉ L ∧ a ∉ hL S0 ∧ a ≠ v ∧ hK S a = q ∧ hN S a = N ∧ fR S v j = some a ∧ ∀ z, z < c → ∃ b, fR S a z = some b ∧ ob (ms L S) b (aeK q)
theorem fs_0 (h : CS S0 E (a :: L) S v k F f ∧ a ∉ L ∧ a ∉ hL S0 ∧ a ≠ v ∧ hK S a = q ∧ hN S a = N ∧ fR S v j = some a) : FS S0 E L S v k F f a q j N 0 := ⟨h.1, h.2.1, h.2.2.1, h.2.2.2.1, h.2.2.2.2.1, h.2.2.2.2.2.1, h.2.2.2.2.2.2, fun z hz => absurd hz (by omega)⟩
theorem fs_step {c : Nat} {T2 : HS} (h : FS S0 E L S v k F f a q j N c) (hq : 16 ≤ q ∧ q < 20) (hw : w ∉ hL S) (E1 : T = nW S w (aeK q) 0) (r : CR (aeK q) w (a :: L) T T2) (E2 : U = sR T2 a c (some w)) : FS S0 E L U v k F f a q j N (c + 1) := by
  obtain ⟨⟨h1, h2, h3, h4, h5, h6, h7, h8, h9, h10, h11⟩, g1, g2, g3, g4, g5, g6, g7⟩ := h
  obtain ⟨r1, r2, r3, r4⟩ := r
  have ho := ob_of_new E1
  have hx : XP S T2 w := xp_tr (xp_new hw E1) r3
  have haS := h3 a List.mem_cons_self
  have hvS := h3 v h4
  have hwa : a ≠ w := fun z => hw (z ▸ haS)
  have hwv : v ≠ w := fun z => hw (z ▸ hvS)
  have hwL : w ∉ L := fun z => hw (h3 w (List.mem_cons_of_mem _ z))
  have ya := hx a haS
  have yv := hx v hvS
  have xa : XP T2 U a := xp_R E2
  have hUv : fR U v = fR T2 v := ((xa v yv.1).2.2.2 (Ne.symm g3)).2.2
  refine ⟨⟨x_R r1 List.mem_cons_self E2, by rw [E2]; exact r2, fun x hx' => (xa x (hx x (h3 x hx')).1).1, h4, h5, h6, h7, ((xa v yv.1).2.1.trans yv.2.1).trans h8, fld_tr (fld_tr h9 hvS hx hwv) yv.1 xa (Ne.symm g3), ?_, ?_⟩, g1, g2, g3, ((xa a ya.1).2.1.trans ya.2.1).trans g4, ((xa a ya.1).2.2.1.trans ya.2.2.1).trans g5, ?_, fun z hz => ?_⟩
  · have hw0 : w ∉ hL S0 := fun z => hw (h10 w z).1
    exact xp_by g2 (xp_by hw0 h10 hx) xa
  · rw [((xa v yv.1).2.2.2 (Ne.symm g3)).1, (yv.2.2.2 hwv).1]; exact h11
  · rw [hUv, (yv.2.2.2 hwv).2.2]; exact g6
  · by_cases cz : z = c
    · subst cz
      refine ⟨w, by rw [E2]; exact u2_self _ _ _ _, ⟨(xa w (r3 w ho.1).1).1, ?_⟩⟩
      rw [ms_out hwL, (xa w (r3 w ho.1).1).2.1]; exact r4
    · obtain ⟨b, b1, b2⟩ := g7 z (by omega)
      have hbS : b ∈ hL S := b2.1
      refine ⟨b, ?_, ⟨(xa b (hx b hbS).1).1, ?_⟩⟩
      · rw [E2, show fR (sR T2 a c (some w)) a z = fR T2 a z from u2_ne _ _ (fun t => cz t.2), (ya.2.2.2 hwa).2.2]; exact b1
      · by_cases cb : b ∈ L
        · rw [ms_in cb, ← ms_in (S := S) cb]; exact b2.2
        · rw [ms_out cb, (xa b (hx b hbS).1).2.1, (hx b hbS).2.1, ← ms_out (S := S) cb]; exact b2.2
theorem fs_end (h : FS S0 E L S v k F f a q j N N) (hq : 16 ≤ q ∧ q < 20) (hvL : v ∈ L) (hEL : ∀ x, x ∈ E → x ∈ L) : CS S0 E L S v k F f := by
  obtain ⟨⟨h1, h2, h3, h4, h5, h6, h7, h8, h9, h10, h11⟩, g1, g2, g3, g4, g5, g6, g7⟩ := h
  refine ⟨x_full h1 g1 (by rw [g4]; exact hq) (fun i hi => ?_), h2, fun x hx => h3 x (List.mem_cons_of_mem _ hx), hvL, hEL, h6, h7, h8, h9, h10, h11⟩
  rw [g5] at hi
  rw [g4]
  exact g7 i hi
end Con2
