/-! the model's world(n) -/
def Po (R : Res) : Prop := ∀ e, R = .inr e → 1 ≤ e.1 ∧ e.1 ≤ 6
section Pos
variable {f : Nat → Int32} {n p q : Nat} {A : AS}
theorem po_rb {R : Res} {g : Nat → Res} (h : Po R) (hg : ∀ p1, Po (g p1)) : Po (rb R g) := by
  cases R with
  | inl p1 => exact hg p1
  | inr e => exact h
theorem po_i {q : Nat} : Po (.inl q) := fun e z => by cases z
theorem po_e {k : Nat} {j : Nat} (h : 1 ≤ k ∧ k ≤ 6) : Po (.inr (k, j)) := fun e z => by cases z; exact h
theorem po_dc {P : Prop} {R R' : Res} (h : Po R) (h' : Po R') : Po (dc P R R') := by
  by_cases hp : P
  · rw [dc_y hp]; exact h
  · rw [dc_n hp]; exact h'
theorem po_word {w : Nat} : Po (sWord f n q w) := by
  unfold sWord
  split
  · exact po_i
  · exact po_e (by decide)
theorem po_sign {k : Nat} : Po (sSign f n q k) := by
  unfold sSign
  split
  · exact po_i
  · exact po_e (by decide)
theorem po_whole {lo hi : Int64} : Po (sWhole f n q lo hi) := by
  unfold sWhole
  split
  · split
    · exact po_e (by decide)
    · exact po_i
  · exact po_e (by decide)
theorem po_part {w : Nat} {lo hi : Int64} : Po (sPart f n q w lo hi) := po_rb po_word (fun _ => po_whole)
theorem po_side : Po (sSide f n q) := by
  unfold sSide
  cases sideOf f n q with
  | none => exact po_e (by decide)
  | some k => exact po_i
theorem po_new {m : Nat} {nv : Nat → Int64} {ni : Nat → Nat} : Po (sNew f n q m nv ni) := by
  unfold sNew
  refine po_dc ?_ (po_e (by decide))
  cases lkr nv ni (tV f n q) m 0 with
  | none => exact po_i
  | some k => exact po_e (by decide)
theorem po_pb {o : Option Nat} : Po (sPB f n q A o) := by
  unfold sPB
  refine po_dc ?_ (po_e (by decide))
  cases lkr (aV A) (aI A) (tV f n q) (aM A) 0 with
  | none => exact po_e (by decide)
  | some k =>
    show Po (if k < 8 then (if some k = o then _ else _) else _)
    split
    · split
      · exact po_e (by decide)
      · exact po_i
    · exact po_e (by decide)
theorem po_sw : Po (sSW f n q A) := by
  unfold sSW
  refine po_dc ?_ (po_e (by decide))
  cases lkr (aV A) (aI A) (tV f n q) (aM A) 0 with
  | none => exact po_e (by decide)
  | some k =>
    show Po (if k < 8 then _ else _)
    split
    · exact po_e (by decide)
    · exact po_i
theorem po_room {a b c : Nat} : Po (sRoom f n q a b c) := by
  unfold sRoom
  split
  · exact po_e (by decide)
  · split
    · exact po_i
    · exact po_e (by decide)
theorem po_fc : ∀ (m i q : Nat), Po (sFc f n m i q)
  | 0, _, q => po_i
  | m + 1, i, q => by
    unfold sFc
    refine po_rb ?_ (fun p1 => po_rb po_whole (fun p2 => po_fc m (i + 1) p2))
    split
    · exact po_i
    · exact po_sign
theorem po_ln : Po (sLn f n p A) := by
  unfold sLn
  refine po_dc ?_ (po_dc ?_ (po_dc ?_ (po_dc ?_ (po_dc ?_ (po_dc ?_ (po_e (by decide)))))))
  · unfold sWorld
    split
    · exact po_part
    · exact po_e (by decide)
  · exact po_rb po_room (fun _ => po_rb po_part (fun _ => po_rb po_part (fun _ => po_rb po_word (fun _ => po_rb po_side (fun _ => po_rb po_whole (fun _ => po_part))))))
  · exact po_rb po_room (fun _ => po_rb po_new (fun _ => po_dc po_i (po_dc po_part po_i)))
  · exact po_rb po_room (fun _ => po_rb po_pb (fun _ => po_rb po_side (fun _ => po_rb po_whole (fun _ => po_rb po_pb (fun _ => po_dc po_part po_i)))))
  · exact po_rb po_room (fun _ => po_rb po_new (fun _ => po_rb (po_dc po_part (po_dc po_part (po_dc po_part po_word))) (fun _ => po_rb (po_rb po_part (fun _ => po_rb po_part (fun _ => po_part))) (fun _ => po_rb po_part (fun _ => po_part)))))
  · exact po_rb po_room (fun _ => po_rb po_sw (fun p2 => po_fc 5 0 p2))
theorem po_all : ∀ (k p : Nat) (A : AS) (e : Nat × Nat), sAll f n k p A = .inr e → 1 ≤ e.1 ∧ e.1 ≤ 6
  | 0, p, A, e, h => by
    cases h
    exact ⟨(by decide : 1 ≤ 1), (by decide : 1 ≤ 6)⟩
  | k + 1, p, A, e, h => by
    have h : aft f n (aLn f n p A) (fun p2 => sAll f n k p2 (aLn f n p A)) (sLn f n p A) = .inr e := h
    cases hL : sLn f n p A with
    | inr e' =>
      rw [hL] at h
      cases h
      exact po_ln _ hL
    | inl p1 =>
      rw [hL] at h
      have h : (if tS f n p1 = 0 then (if 0 < aP (aLn f n p A) ∧ 0 < aW (aLn f n p A) then (.inl (aLn f n p A) : AS ⊕ (Nat × Nat)) else .inr (6, tSt f n p1)) else (match sSign f n p1 3 with | .inr e => Sum.inr e | .inl p2 => sAll f n k p2 (aLn f n p A))) = .inr e := h
      split at h
      · split at h
        · cases h
        · cases h
          exact ⟨(by decide : 1 ≤ 6), (by decide : 6 ≤ 6)⟩
      · cases hS : sSign f n p1 3 with
        | inr e' =>
          rw [hS] at h
          cases h
          exact po_sign _ hS
        | inl p2 =>
          rw [hS] at h
          exact po_all k p2 _ e h
end Pos
section MWorld
variable {f : Nat → Int32} {n a rd nm ns nk p : Nat} {A : AS} {σ : Res} {Q : Int32 → HS → Prop} {QU : HS → Prop} {S T : HS} {v0 : Nat}
theorem sp_X11_good {v1 : Int32} (h : P_X11_good v0 v1 Q S) : P_X11_good v0 v1 (fun r T => Q r T ∧ r = v1 ∧ Fr [1, 2] [] v0 S T ∧ fI T v0 1 = 0 ∧ fI T v0 2 = -1) S := by
  delta P_X11_good P_X11_good_0
  obtain ⟨o1, h⟩ := h
  refine ⟨o1, ?_⟩
  intro S2 eS2
  have h := h S2 eS2
  intro S3 eS3
  have h := h S3 eS3
  exact ⟨h, rfl, fr_wI (fr_wI (fr_rf _ _ _ _) eS2 (by decide)) eS3 (by decide), by rw [wI_ne eS3 (by decide), wI_at eS2], wI_at eS3⟩
theorem sp_X11_refused {v1 : Int32} (h : P_X11_refused v0 v1 Q S) : P_X11_refused v0 v1 (fun r T => Q r T ∧ r = -1 ∧ Fr [1, 2] [] v0 S T ∧ fI T v0 1 = v1 ∧ fI T v0 2 = -1) S := by
  delta P_X11_refused P_X11_refused_0
  obtain ⟨o1, h⟩ := h
  refine ⟨o1, ?_⟩
  intro S2 eS2
  have h := h S2 eS2
  intro S3 eS3
  have h := h S3 eS3
  exact ⟨h, rfl, fr_wI (fr_wI (fr_rf _ _ _ _) eS2 (by decide)) eS3 (by decide), by rw [wI_ne eS3 (by decide), wI_at eS2], wI_at eS3⟩
set_option maxRecDepth 20000 in
theorem sp_X10_init {S0 : HS} (h : P_X10_init v0 QU S) (E : S = nW S0 v0 10 0) : P_X10_init v0 (fun T => QU T ∧ ∃ F, BX S T v0 F (fun _ => 0) ∧ (28, 14, 12) ∈ F ∧ (29, 13, 12) ∈ F ∧ (30, 13, 12) ∈ F) S := by
  have hv : v0 ∈ hL S := by rw [E]; exact List.mem_append_right _ (List.mem_singleton.mpr rfl)
  have hz : fI S v0 = fun _ => 0 := by rw [E]; exact zero_new.2
  have b0 := bx_rf (S0 := S) (v := v0) (fun j b e => by rw [E, zero_new.1 j] at e; exact absurd e (by simp))
  rw [hz] at b0
  delta P_X10_init P_X10_init_0
  intro aq1 eaq1
  have h := h aq1 eaq1
  intro Sq2 eSq2
  have h := h Sq2 eSq2
  obtain ⟨oq3, h⟩ := h
  refine ⟨oq3, ?_⟩
  intro Sq4 eSq4
  have h := h Sq4 eSq4
  have b1 := bx_arr b0 hv eaq1 eSq2 eSq4 (by decide) (by decide)
  intro aq5 eaq5
  have h := h aq5 eaq5
  intro Sq6 eSq6
  have h := h Sq6 eSq6
  intro Sq7 eSq7
  have h := h Sq7 eSq7
  have b2 := bx_arr b1 hv eaq5 eSq6 eSq7 (by decide) (by decide)
  intro aq8 eaq8
  have h := h aq8 eaq8
  intro Sq9 eSq9
  have h := h Sq9 eSq9
  intro Sq10 eSq10
  have h := h Sq10 eSq10
  have b3 := bx_arr b2 hv eaq8 eSq9 eSq10 (by decide) (by decide)
  intro aq11 eaq11
  have h := h aq11 eaq11
  intro Sq12 eSq12
  have h := h Sq12 eSq12
  intro Sq13 eSq13
  have h := h Sq13 eSq13
  have b4 := bx_arr b3 hv eaq11 eSq12 eSq13 (by decide) (by decide)
  intro aq14 eaq14
  have h := h aq14 eaq14
  intro Sq15 eSq15
  have h := h Sq15 eSq15
  intro Sq16 eSq16
  have h := h Sq16 eSq16
  have b5 := bx_arr b4 hv eaq14 eSq15 eSq16 (by decide) (by decide)
  intro aq17 eaq17
  have h := h aq17 eaq17
  intro Sq18 eSq18
  have h := h Sq18 eSq18
  intro Sq19 eSq19
  have h := h Sq19 eSq19
  have b6 := bx_arr b5 hv eaq17 eSq18 eSq19 (by decide) (by decide)
  intro aq20 eaq20
  have h := h aq20 eaq20
  intro Sq21 eSq21
  have h := h Sq21 eSq21
  intro Sq22 eSq22
  have h := h Sq22 eSq22
  have b7 := bx_arr b6 hv eaq20 eSq21 eSq22 (by decide) (by decide)
  intro aq23 eaq23
  have h := h aq23 eaq23
  intro Sq24 eSq24
  have h := h Sq24 eSq24
  intro Sq25 eSq25
  have h := h Sq25 eSq25
  have b8 := bx_arr b7 hv eaq23 eSq24 eSq25 (by decide) (by decide)
  intro aq26 eaq26
  have h := h aq26 eaq26
  intro Sq27 eSq27
  have h := h Sq27 eSq27
  intro Sq28 eSq28
  have h := h Sq28 eSq28
  have b9 := bx_arr b8 hv eaq26 eSq27 eSq28 (by decide) (by decide)
  intro aq29 eaq29
  have h := h aq29 eaq29
  intro Sq30 eSq30
  have h := h Sq30 eSq30
  intro Sq31 eSq31
  have h := h Sq31 eSq31
  have b10 := bx_arr b9 hv eaq29 eSq30 eSq31 (by decide) (by decide)
  intro aq32 eaq32
  have h := h aq32 eaq32
  intro Sq33 eSq33
  have h := h Sq33 eSq33
  intro Sq34 eSq34
  have h := h Sq34 eSq34
  have b11 := bx_arr b10 hv eaq32 eSq33 eSq34 (by decide) (by decide)
  intro aq35 eaq35
  have h := h aq35 eaq35
  intro Sq36 eSq36
  have h := h Sq36 eSq36
  intro Sq37 eSq37
  have h := h Sq37 eSq37
  have b12 := bx_arr b11 hv eaq35 eSq36 eSq37 (by decide) (by decide)
  intro aq38 eaq38
  have h := h aq38 eaq38
  intro Sq39 eSq39
  have h := h Sq39 eSq39
  intro Sq40 eSq40
  have h := h Sq40 eSq40
  have b13 := bx_arr b12 hv eaq38 eSq39 eSq40 (by decide) (by decide)
  intro aq41 eaq41
  have h := h aq41 eaq41
  intro Sq42 eSq42
  have h := h Sq42 eSq42
  intro Sq43 eSq43
  have h := h Sq43 eSq43
  have b14 := bx_arr b13 hv eaq41 eSq42 eSq43 (by decide) (by decide)
  intro aq44 eaq44
  have h := h aq44 eaq44
  intro Sq45 eSq45
  have h := h Sq45 eSq45
  intro Sq46 eSq46
  have h := h Sq46 eSq46
  have b15 := bx_arr b14 hv eaq44 eSq45 eSq46 (by decide) (by decide)
  intro aq47 eaq47
  have h := h aq47 eaq47
  intro Sq48 eSq48
  have h := h Sq48 eSq48
  intro Sq49 eSq49
  have h := h Sq49 eSq49
  have b16 := bx_arr b15 hv eaq47 eSq48 eSq49 (by decide) (by decide)
  intro aq50 eaq50
  have h := h aq50 eaq50
  intro Sq51 eSq51
  have h := h Sq51 eSq51
  intro Sq52 eSq52
  have h := h Sq52 eSq52
  have b17 := bx_arr b16 hv eaq50 eSq51 eSq52 (by decide) (by decide)
  intro aq53 eaq53
  have h := h aq53 eaq53
  intro Sq54 eSq54
  have h := h Sq54 eSq54
  intro Sq55 eSq55
  have h := h Sq55 eSq55
  have b18 := bx_arr b17 hv eaq53 eSq54 eSq55 (by decide) (by decide)
  intro aq56 eaq56
  have h := h aq56 eaq56
  intro Sq57 eSq57
  have h := h Sq57 eSq57
  intro Sq58 eSq58
  have h := h Sq58 eSq58
  have b19 := bx_arr b18 hv eaq56 eSq57 eSq58 (by decide) (by decide)
  intro aq59 eaq59
  have h := h aq59 eaq59
  intro Sq60 eSq60
  have h := h Sq60 eSq60
  intro Sq61 eSq61
  have h := h Sq61 eSq61
  have b20 := bx_arr b19 hv eaq59 eSq60 eSq61 (by decide) (by decide)
  intro aq62 eaq62
  have h := h aq62 eaq62
  intro Sq63 eSq63
  have h := h Sq63 eSq63
  intro Sq64 eSq64
  have h := h Sq64 eSq64
  have b21 := bx_arr b20 hv eaq62 eSq63 eSq64 (by decide) (by decide)
  intro aq65 eaq65
  have h := h aq65 eaq65
  intro Sq66 eSq66
  have h := h Sq66 eSq66
  intro Sq67 eSq67
  have h := h Sq67 eSq67
  have b22 := bx_arr b21 hv eaq65 eSq66 eSq67 (by decide) (by decide)
  intro aq68 eaq68
  have h := h aq68 eaq68
  intro Sq69 eSq69
  have h := h Sq69 eSq69
  intro Sq70 eSq70
  have h := h Sq70 eSq70
  have b23 := bx_arr b22 hv eaq68 eSq69 eSq70 (by decide) (by decide)
  intro aq71 eaq71
  have h := h aq71 eaq71
  intro Sq72 eSq72
  have h := h Sq72 eSq72
  intro Sq73 eSq73
  have h := h Sq73 eSq73
  have b24 := bx_arr b23 hv eaq71 eSq72 eSq73 (by decide) (by decide)
  exact ⟨h, _, b24, by simp, by simp, by simp⟩
/-- what the model's world(n) comes to, where n is good -/
def WmB (R : AS ⊕ (Nat × Nat)) (c : Nat) (x : Int32) (T : HS) : Prop := match R with
  | .inl A => x = nI (aW A) ∧ fI T c 13 = 0 ∧ fI T c 1 = 0 ∧ fI T c 2 = -1
  | .inr e => x = -1 ∧ fI T c 13 = nI e.1 ∧ fI T c 1 = 4 ∧ fI T c 2 = nI e.2
theorem bx_RMw {S0 T U : HS} {m rd : Nat} {F : List (Nat × Nat × Nat)} (hf : rd ∉ hL S0) (b : BX (nW S0 rd 10 0) T rd F (fun _ => 0)) (f1 : (28, 14, 12) ∈ F) (f2 : (29, 13, 12) ∈ F) (f3 : (30, 13, 12) ∈ F) (om : ob S0 m 11) (e : U = sR T m 4 (some rd)) : ∃ nm ns nk, RMw m rd nm ns nk A00 U := by
  obtain ⟨b1, b2, b3, b4, b5, b6, b7, b8, b9⟩ := b
  obtain ⟨nm, n1, n2, n3, -, -⟩ := b4 _ f1
  obtain ⟨ns, s1, s2, s3, -, -⟩ := b4 _ f2
  obtain ⟨nk, k1, k2, k3, -, -⟩ := b4 _ f3
  have orr : ob (nW S0 rd 10 0) rd 10 := ob_of_new rfl
  have omm : ob (nW S0 rd 10 0) m 11 := gr_ob (gr_of_new rfl hf) om
  have orT := gr_ob b1 orr
  have omT := gr_ob b1 omm
  have hne : rd ≠ m := ob_ne orr omm (by decide)
  have hR : fR U rd = fR T rd := by rw [e]; exact u2_row _ _ hne
  have hI : fI U rd = fun _ => 0 := by
    have : fI U rd = fI T rd := by rw [e]; rfl
    rw [this]; exact b7
  have hL : hL U = hL T := by rw [e]; rfl
  have hK : hK U = hK T := by rw [e]; rfl
  have oU : ∀ {c k : Nat}, ob T c k → ob U c k := fun z => ⟨hL.symm ▸ z.1, hK.symm ▸ z.2⟩
  refine ⟨nm, ns, nk, by rw [e]; exact u2_self _ _ _ _, ⟨by rw [hR]; exact n1, by rw [hR]; exact s1, by rw [hR]; exact k1, by rw [hI]; rfl, by decide, fun k hk => absurd hk (by show ¬ k < 0; omega)⟩, by unfold Cnt; rw [hI]; exact ⟨rfl, rfl, rfl, rfl, rfl, rfl⟩, ⟨oU omT, oU orT, oU n3, oU s3, oU k3, fun z => ?_, fun j c hc h29 h30 => ?_⟩, ⟨by decide, by decide, by decide, by decide, by decide, by decide⟩, fun _ => ⟨rfl, rfl, rfl, rfl, rfl⟩⟩
  · rw [← z] at k1
    exact absurd (b6 29 30 ns s2 s1 k1) (by decide)
  · rw [hR] at hc
    exact ⟨fun z => h29 (b6 j 29 ns s2 (by rw [← z]; exact hc) s1), fun z => h30 (b6 j 30 nk k2 (by rw [← z]; exact hc) k1)⟩
theorem sp_X11_world_bad {v1 : Int32} (h : P_X11_world v0 v1 Q S) (hb : v1 < 0 ∨ fI S v0 6 < v1) : P_X11_world v0 v1 (fun x T => Q x T ∧ x = -1 ∧ Fr [0, 1, 2] [] v0 S T ∧ fI T v0 1 = 2 ∧ fI T v0 2 = -1) S := by
  delta P_X11_world P_X11_world_0
  obtain ⟨o1, h⟩ := h
  refine ⟨o1, ?_⟩
  intro S2 e2
  have h := h S2 e2
  have F2 : Fr [0, 1, 2] [] v0 S S2 := fr_wI (fr_rf _ _ _ _) e2 (by decide)
  have b17 : P_X11_world_17 Q v0 S2 → P_X11_world_17 (fun x T => Q x T ∧ x = -1 ∧ Fr [0, 1, 2] [] v0 S T ∧ fI T v0 1 = 2 ∧ fI T v0 2 = -1) v0 S2 := by
    intro h
    delta P_X11_world_17
    obtain ⟨o4, h⟩ := h
    refine ⟨o4, ?_⟩
    refine cm_X11_refused (sp_X11_refused h) h (fun x5 S6 hp h g7 => ?_)
    have h := h g7
    exact ⟨h, hp.2.1, fr_tr F2 (fr_up hp.2.2.1 (by decide) (by decide)), hp.2.2.2⟩
  refine ⟨fun c3 => b17 (h.1 c3), fun c8 => ?_⟩
  have h := h.2 c8
  intro x9 ex9
  have h := h x9 ex9
  refine ⟨fun c10 => ?_, fun c42 => b17 (h.2 c42)⟩
  rcases hb with hb | hb
  · exact absurd hb c8
  · rw [wI_ne e2 (by decide)] at ex9
    rw [← ex9] at hb
    exact absurd hb (Int32.not_lt.mpr c10)
set_option maxHeartbeats 1000000 in
theorem sp_X11_world_ok {v1 : Int32} (h : P_X11_world v0 v1 Q S) (hv : v1 = nI n) (hn : n ≤ 900) (ha : fR S v0 5 = some a) (oa : ob S a 12) (hN9 : hN S a = 900) (hf : ∀ j, j < n → fI S a j = f j) (hB : ∀ j, j < n → -128 ≤ (f j).toInt ∧ (f j).toInt ≤ 127) (hle : v1 ≤ fI S v0 6) : P_X11_world v0 v1 (fun x T => Q x T ∧ WmB (sAll f n 1000 0 A00) v0 x T) S := by
  have iv : v1.toInt = (n : Int) := by rw [hv]; exact nI_i (by omega)
  have e0 : (0 : Int32).toInt = 0 := by decide
  delta P_X11_world P_X11_world_0
  obtain ⟨o1, h⟩ := h
  refine ⟨o1, ?_⟩
  have nav : a ≠ v0 := ob_ne oa o1 (by decide)
  intro S2 e2
  have h := h S2 e2
  refine ⟨fun c3 => ?_, fun c8 => ?_⟩
  · have := lt_i c3
    omega
  have h := h.2 c8
  intro x9 ex9
  have h := h x9 ex9
  rw [wI_ne e2 (by decide)] at ex9
  refine ⟨fun c10 => ?_, fun c42 => absurd (by rw [ex9]; exact hle) c42⟩
  have h := h.1 c10
  intro S11 e11
  have h := h S11 e11
  intro S12 e12
  have h := h S12 e12
  intro S13 e13
  have h := h S13 e13
  intro S14 e14
  have h := h S14 e14
  have F14 : Fr [0, 7, 6, 8, 13] [] v0 S S14 := fr_wI (fr_wI (fr_wI (fr_wI (fr_wI (fr_rf _ _ _ _) e2 (by decide)) e11 (by decide)) e12 (by decide)) e13 (by decide)) e14 (by decide)
  have o14 : ob S14 v0 11 := fm_ob F14 o1
  have oa14 : ob S14 a 12 := fm_ob F14 oa
  intro a15 ea15
  have h := h a15 ea15
  intro S16 e16
  have h := h S16 e16
  have o16 : ob S16 v0 11 := gr_ob (gr_of_new e16 ea15) o14
  have oa16 : ob S16 a 12 := gr_ob (gr_of_new e16 ea15) oa14
  have or16 : ob S16 a15 10 := ob_of_new e16
  have nva : v0 ≠ a15 := ob_ne o16 or16 (by decide)
  have naa : a ≠ a15 := ob_ne oa16 or16 (by decide)
  have I16 : ∀ c, c ≠ a15 → fI S16 c = fI S14 c ∧ fR S16 c = fR S14 c ∧ hN S16 c = hN S14 c := fun c hc => by
    rw [e16]
    exact ⟨va_up_ne _ _ hc, va_up_ne _ _ hc, va_up_ne _ _ hc⟩
  refine cm_X10_init (sp_X10_init h e16) h (fun S17 hp h g18 => ?_)
  have h := h g18
  obtain ⟨-, F, bx, f1, f2, f3⟩ := hp
  rw [e16] at bx
  intro S19 e19
  have h := h S19 e19
  obtain ⟨nm, ns, nk, W⟩ := bx_RMw ea15 bx f1 f2 f3 o14 e19
  rw [← e16] at bx
  intro S20 e20
  have h := h S20 e20
  have I17 : ∀ c, c ∈ hL S16 → c ≠ a15 → fI S17 c = fI S16 c ∧ fR S17 c = fR S16 c ∧ hN S17 c = hN S16 c := fun c hc hne => ⟨(bx.2.1 c hc hne).1, (bx.2.1 c hc hne).2.2, (bx.1 c hc).2.2⟩
  have V20 : ∀ j, j ≠ 9 → fI S20 v0 j = fI S14 v0 j := fun j hj => by
    rw [wI_ne e20 hj]
    have : fI S19 v0 = fI S17 v0 := by rw [e19]; rfl
    rw [this, (I17 v0 o16.1 nva).1, (I16 v0 nva).1]
  have E20 : EM f n a v0 S20 := by
    refine ⟨?_, ?_, ?_, ?_, hn, ⟨nav, ?_⟩, hB⟩
    · have q1 : fR S20 v0 5 = fR S19 v0 5 := by rw [e20]; rfl
      have q2 : fR S19 v0 5 = fR S17 v0 5 := by rw [e19]; exact u2_ne _ _ (fun z => absurd z.2 (by decide))
      rw [q1, q2, (I17 v0 o16.1 nva).2.1, (I16 v0 nva).2.1, F14.2.2.2.1]; exact ha
    · rw [rw_I e20 nav]
      have : fI S19 a = fI S17 a := by rw [e19]; rfl
      rw [this, (I17 a oa16.1 naa).1, (I16 a naa).1, (F14.2.2.2.2.1 a nav).1]; exact hf
    · rw [V20 7 (by decide), wI_ne e14 (by decide), wI_ne e13 (by decide), wI_ne e12 (by decide), wI_at e11, hv]
    · have q1 : hN S20 = hN S17 := by rw [e20, e19]; rfl
      rw [q1, (I17 a oa16.1 naa).2.2, (I16 a naa).2.2, F14.2.2.1]; exact hN9
    · have oa17 := gr_ob bx.1 oa16
      rw [e20, e19]; exact oa17
  have W20 : RMw v0 a15 nm ns nk A00 S20 := rm_F W (fr_wI (fr_rf _ _ _ _) e20 (by decide))
  have k9 : fI S20 v0 9 = 0 := wI_at e20
  have k8 : fI S20 v0 8 = nI 0 := by rw [V20 8 (by decide), wI_ne e14 (by decide), wI_at e13]; rfl
  have k13 : fI S20 v0 13 = 0 := by rw [V20 13 (by decide), wI_at e14]
  refine cm_X11_goesOn (sp0_X11_goesOn h E20 (by rw [k9]; decide) k8 k13 (by decide)) h (fun S21 hp h g22 => ?_)
  have h := h g22
  have G21 : FM v0 S20 S21 := fr_up hp.2.1 (by decide) (by decide)
  have M21 : MS f n a v0 (.inl 0) S21 := ⟨em_fr E20 G21 (by decide), hp.2.2, fun p z => by cases z; decide⟩
  refine cm_X11_readAll (sp_X11_readAll h M21 (rm_F W20 G21) rfl) h (fun S23 hp h g24 => ?_)
  have h := h g24
  replace hp := hp.2
  intro x25 ex25
  have h := h x25 ex25
  cases hR : sAll f n 1000 0 A00 with
  | inl A =>
    rw [hR] at hp
    obtain ⟨⟨q, M⟩, W⟩ := hp
    have f13 : fI S23 v0 13 = 0 := M.2.1.2.2.2.2.2.2.2
    refine ⟨fun c26 => ?_, fun c38 => absurd (by rw [ex25, f13]; decide) c38⟩
    have h := h.1 c26
    obtain ⟨a27, ea27, h⟩ := h
    refine ⟨a27, ea27, ?_⟩
    cases W.1.symm.trans ea27
    intro S28 e28
    have h := h S28 e28
    intro S29 e29
    have h := h S29 e29
    intro S30 e30
    have h := h S30 e30
    intro S31 e31
    have h := h S31 e31
    obtain ⟨a32, ea32, h⟩ := h
    refine ⟨a32, ea32, ?_⟩
    have hr : fR S31 v0 3 = some a15 := by
      rw [e31, e30, e29, e28]; exact u2_self _ _ _ _
    cases hr.symm.trans ea32
    obtain ⟨o33, h⟩ := h
    refine ⟨o33, ?_⟩
    intro x34 ex34
    have h := h x34 ex34
    have nav2 : a15 ≠ v0 := Ne.symm nva
    have q34 : x34 = nI (aW A) := by
      rw [ex34, rw_I e31 nav2, rw_I e30 nav2, rw_I e29 nav2]
      have : fI S28 a15 = fI S23 a15 := by rw [e28]; rfl
      rw [this]; exact W.2.2.1.2.2.2.2.1
    have q13 : fI S31 v0 13 = 0 := by
      rw [wI_ne e31 (by decide), wI_ne e30 (by decide), wI_ne e29 (by decide)]
      have : fI S28 v0 = fI S23 v0 := by rw [e28]; rfl
      rw [this]; exact f13
    refine cm_X11_good (sp_X11_good h) h (fun x35 S36 hp h g37 => ?_)
    have h := h g37
    obtain ⟨-, z1, z2, z3, z4⟩ := hp
    exact ⟨h, by rw [z1, q34], by rw [z2.2.2.2.2.2.1 13 (by decide)]; exact q13, z3, z4⟩
  | inr e =>
    have pe := po_all _ _ _ _ hR
    rw [hR] at hp
    have M : MS f n a v0 (.inr e) S23 := hp
    have f13 : fI S23 v0 13 = nI e.1 := M.2.1.2.1
    have f14 : fI S23 v0 14 = nI e.2 := M.2.1.2.2
    refine ⟨fun c26 => ?_, fun c38 => ?_⟩
    · have := le_i c26
      rw [ex25, f13, nI_i (by omega)] at this
      omega
    · have h := h.2 c38
      intro S39 e39
      have h := h S39 e39
      intro x40 ex40
      have h := h x40 ex40
      intro S41 e41
      have h := h S41 e41
      exact ⟨h, rfl, by rw [wI_ne e41 (by decide), wI_ne e39 (by decide)]; exact f13, by rw [wI_ne e41 (by decide), wI_at e39], by rw [wI_at e41, ex40, wI_ne e39 (by decide)]; exact f14⟩
end MWorld
