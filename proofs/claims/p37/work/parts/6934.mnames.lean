/-! the model's names -/
def NMs (m : Nat) (nv : Nat → Int64) (ni : Nat → Nat) (rd nm ns nk : Nat) (S : HS) : Prop := fR S rd 28 = some nm ∧ fR S rd 29 = some ns ∧ fR S rd 30 = some nk ∧ fI S rd 6 = nI m ∧ m ≤ 12 ∧ ∀ k, k < m → fJ S nm k = nv k ∧ fI S ns k = (if ni k < 8 then 0 else 1) ∧ fI S nk k = nI (if ni k < 8 then ni k else ni k - 8) ∧ ni k < 100
def BM (m rd nm ns nk : Nat) (S : HS) : Prop := ob S m 11 ∧ ob S rd 10 ∧ ob S nm 14 ∧ ob S ns 13 ∧ ob S nk 13 ∧ ns ≠ nk ∧ ∀ j b, fR S rd j = some b → j ≠ 29 → j ≠ 30 → b ≠ ns ∧ b ≠ nk
def Zc (A : AS) : Prop := aH A = 0 → aHs A = 0 ∧ aP A = 0 ∧ aR A = 0 ∧ aW A = 0 ∧ aS A = 0
/-- the model m, the world rd that it reads into, and what was told so far -/
def RMw (m rd nm ns nk : Nat) (A : AS) (S : HS) : Prop := fR S m 4 = some rd ∧ NMs (aM A) (aV A) (aI A) rd nm ns nk S ∧ Cnt rd A S ∧ BM m rd nm ns nk S ∧ ABd A ∧ Zc A
theorem fm_ob {m b k : Nat} {W WJ : List Nat} {S T : HS} (F : Fr W WJ m S T) (o : ob S b k) : ob T b k := ⟨F.1.symm ▸ o.1, F.2.1.symm ▸ o.2⟩
theorem rm_F {m rd nm ns nk : Nat} {A : AS} {S T : HS} (W : RMw m rd nm ns nk A S) (F : FM m S T) : RMw m rd nm ns nk A T := by
  obtain ⟨w1, ⟨n1, n2, n3, n4, n5, n6⟩, w3, ⟨b1, b2, b3, b4, b5, b6, b7⟩, w5⟩ := W
  have hR : fR T = fR S := F.2.2.2.1
  have rr := F.2.2.2.2.1 rd (ob_ne b2 b1 (by decide))
  have rm := F.2.2.2.2.1 nm (ob_ne b3 b1 (by decide))
  have rs := F.2.2.2.2.1 ns (ob_ne b4 b1 (by decide))
  have rk := F.2.2.2.2.1 nk (ob_ne b5 b1 (by decide))
  exact ⟨by rw [hR]; exact w1, ⟨by rw [hR]; exact n1, by rw [hR]; exact n2, by rw [hR]; exact n3, by rw [rr.1]; exact n4, n5, fun k hk => by rw [rm.2, rs.1, rk.1]; exact n6 k hk⟩, cn_row w3 rr.1, ⟨fm_ob F b1, fm_ob F b2, fm_ob F b3, fm_ob F b4, fm_ob F b5, b6, by rw [hR]; exact b7⟩, w5⟩
def ixr (nv : Nat → Int64) (v : Int64) : Nat → Nat → Option Nat
  | 0, _ => none
  | k + 1, i => if nv i = v then some i else ixr nv v k (i + 1)
theorem ixr_lt {nv : Nat → Int64} {v : Int64} : ∀ (k i j : Nat), ixr nv v k i = some j → j < i + k
  | 0, _, _, h => by cases h
  | k + 1, i, j, h => by
    simp only [ixr] at h
    split at h
    · cases h; omega
    · have := ixr_lt k (i + 1) j h; omega
theorem ixr_lkr {nv : Nat → Int64} {ni : Nat → Nat} {v : Int64} : ∀ k i : Nat, lkr nv ni v k i = (ixr nv v k i).map ni
  | 0, _ => rfl
  | k + 1, i => by
    simp only [ixr, lkr]
    split
    · rfl
    · exact ixr_lkr k (i + 1)
theorem lp_mfind {m : Nat} {nv : Nat → Int64} {ni : Nat → Nat} {nm ns nk v0 : Nat} {v1 : Int64} {v3 : Int32} {Q : Int32 → HS → Prop} {S : HS} (N : NMs m nv ni v0 nm ns nk S) (h : P_X10_find_2 Q v0 v1 v3 S) (hi : ∃ i : Nat, i ≤ m ∧ v3 = nI i ∧ ixr nv v1 m 0 = ixr nv v1 (m - i) i) : P_X10_find_2 (fun r T => Q r T ∧ S = T ∧ r = enc (ixr nv v1 m 0)) v0 v1 v3 S := by
  refine h (fun u0 u1 u3 U => u0 = v0 → u1 = v1 → U = S → (∃ i : Nat, i ≤ m ∧ u3 = nI i ∧ ixr nv v1 m 0 = ixr nv v1 (m - i) i) → P_X10_find_2 (fun r T => Q r T ∧ S = T ∧ r = enc (ixr nv v1 m 0)) u0 u1 u3 U) ?_ rfl rfl rfl hi
  intro u0 u1 u3 U h e0 e1 eU hi
  subst e0
  subst e1
  subst eU
  obtain ⟨i, him, hu, hlk⟩ := hi
  obtain ⟨n1, n2, n3, n4, n5, n6⟩ := N
  have ei : u3.toInt = (i : Int) := by rw [hu]; exact nI_i (by omega)
  have em : (nI m).toInt = (m : Int) := nI_i (by omega)
  refine fd_X10_find_2 ?_
  delta B_X10_find_2
  obtain ⟨o1, h⟩ := h
  refine ⟨o1, ?_⟩
  intro x2 ex2
  have h := h x2 ex2
  refine ⟨?_, ?_⟩
  · intro c3
    have c4 := le_i c3
    rw [ex2, n4, em, ei] at c4
    refine ⟨h.1 c3, rfl, ?_⟩
    rw [hlk, show m - i = 0 by omega]; rfl
  · intro c4
    have c5 := nle_i c4
    rw [ex2, n4, em, ei] at c5
    have h := h.2 c4
    obtain ⟨a5, ea5, h⟩ := h
    refine ⟨a5, ea5, ?_⟩
    cases n1.symm.trans ea5
    obtain ⟨o6, h⟩ := h
    refine ⟨o6, ?_⟩
    obtain ⟨o7, h⟩ := h
    refine ⟨o7, ?_⟩
    intro x8 ex8
    have h := h x8 ex8
    rw [hu, nI_cl (by omega), (n6 i (by omega)).1] at ex8
    have hsp : m - i = (m - (i + 1)) + 1 := by omega
    refine ⟨?_, ?_⟩
    · intro c9
      have h := h.1 c9
      intro x10 ex10
      have h := h x10 ex10
      refine h rfl rfl rfl ⟨i + 1, by omega, by rw [ex10, hu]; exact nI_1 i, ?_⟩
      rw [hlk, hsp]
      show (if nv i = u1 then _ else _) = _
      rw [if_neg (fun z => c9 ((lg_cmp_eq _ _).mpr (by rw [ex8, z])))]
    · intro c11
      have h := h.2 c11
      refine ⟨h, rfl, ?_⟩
      have hh := (lg_cmp_eq _ _).mp c11
      rw [ex8] at hh
      rw [hlk, hsp]
      show _ = enc (if nv i = u1 then _ else _)
      rw [if_pos hh, hu]; rfl
section MNames
variable {f : Nat → Int32} {n a rd nm ns nk : Nat} {A : AS} {σ : Res} {Q : Int32 → HS → Prop} {QJ : Int64 → HS → Prop} {QU : HS → Prop} {S T : HS} {v0 : Nat}
theorem sp_X10_find {m : Nat} {v1 : Int64} (h : P_X10_find rd v1 Q S) (W : RMw m rd nm ns nk A S) : P_X10_find rd v1 (fun r T => Q r T ∧ S = T ∧ r = enc (ixr (aV A) v1 (aM A) 0)) S := by
  delta P_X10_find P_X10_find_0
  exact lp_mfind W.2.1 h ⟨0, by omega, nI_0.symm, rfl⟩
theorem ix_n {x : Int32} {v : Int64} {m : Nat} (W : RMw m rd nm ns nk A S) (e : x = enc (ixr (aV A) v (aM A) 0)) (c : x = -1) : ixr (aV A) v (aM A) 0 = none := enc_n (fun q hq => by have := ixr_lt _ _ _ hq; have := W.2.1.2.2.2.2.1; omega) (e.symm.trans c)
theorem ix_s {x : Int32} {v : Int64} {m : Nat} (W : RMw m rd nm ns nk A S) (e : x = enc (ixr (aV A) v (aM A) 0)) (c : ¬ x = -1) : ∃ j, ixr (aV A) v (aM A) 0 = some j ∧ x = nI j ∧ j < aM A ∧ lkr (aV A) (aI A) v (aM A) 0 = some (aI A j) := by
  cases hj : ixr (aV A) v (aM A) 0 with
  | none => rw [hj] at e; exact absurd e c
  | some j => rw [hj] at e; exact ⟨j, rfl, e, by have := ixr_lt _ _ _ hj; omega, by rw [ixr_lkr, hj]; rfl⟩
theorem ix_l {v : Int64} (e : ixr (aV A) v (aM A) 0 = none) : lkr (aV A) (aI A) v (aM A) 0 = none := by rw [ixr_lkr, e]; rfl
theorem hn_p {p : Nat} (h : hasN f n σ) (e : σ = .inl p) : nmOk f n p := by rw [e] at h; exact h
theorem hn_np {p : Nat} (h : ¬ hasN f n σ) (e : σ = .inl p) : ¬ nmOk f n p := by rw [e] at h; exact h
theorem ms_wd {p : Nat} (M : MS f n a v0 σ S) (e : σ = .inl p) (h : hasN f n σ) : fJ S v0 15 = tV f n p := by
  subst e
  exact M.2.1.2.2.1 h.1
theorem sn_y {p m : Nat} {nv : Nat → Int64} {ni : Nat → Nat} (h : nmOk f n p) (z : lkr nv ni (tV f n p) m 0 = none) : sNew f n p m nv ni = .inl (tEn f n p) := by
  unfold sNew
  rw [dc_y h, z]
theorem sn_3 {p m : Nat} {nv : Nat → Int64} {ni : Nat → Nat} (h : nmOk f n p) (z : ∃ q, lkr nv ni (tV f n p) m 0 = some q) : sNew f n p m nv ni = .inr (3, tSt f n p) := by
  obtain ⟨q, z⟩ := z
  unfold sNew
  rw [dc_y h, z]
theorem sp_X11_readFresh (h : P_X11_readFresh v0 QJ S) (M : MS f n a v0 σ S) (W : RMw v0 rd nm ns nk A S) : P_X11_readFresh v0 (fun r T => QJ r T ∧ MS f n a v0 (rb σ (fun p => sNew f n p (aM A) (aV A) (aI A))) T ∧ FM v0 S T ∧ ∀ p q, σ = .inl p → sNew f n p (aM A) (aV A) (aI A) = .inl q → r = tV f n p) S := by
  have F : FM v0 S S := ms_rf _ _
  have M0 := M
  have W0 := W
  delta P_X11_readFresh P_X11_readFresh_0
  obtain ⟨o1, h⟩ := h
  refine ⟨o1, ?_⟩
  refine cm_X11_isName (sp_X11_isName h M) h (fun x2 S3 hp h g4 b5 => ?_)
  have h := h g4 b5
  obtain ⟨-, hS, Ax2⟩ := hp
  subst hS
  refine ⟨?_, ?_⟩
  · intro c6
    have Nc6 := an1 Ax2 c6
    have h := h.1 c6
    delta P_X11_readFresh_12
    obtain ⟨o7, h⟩ := h
    refine ⟨o7, ?_⟩
    obtain ⟨a8, ea8, h⟩ := h
    refine ⟨a8, ea8, ?_⟩
    cases W.1.symm.trans ea8
    intro x9 ex9
    have h := h x9 ex9
    obtain ⟨o10, h⟩ := h
    refine ⟨o10, ?_⟩
    refine cm_X10_find (sp_X10_find h W) h (fun x11 S12 hp h g13 => ?_)
    have h := h g13
    obtain ⟨-, hS, Ex11⟩ := hp
    subst hS
    refine ⟨?_, ?_⟩
    · intro c14
      have h := h.1 c14
      delta P_X11_readFresh_32
      obtain ⟨o15, h⟩ := h
      refine ⟨o15, ?_⟩
      intro x16 ex16
      have h := h x16 ex16
      refine cm_X11_goesOn (sp_X11_goesOn h M (gs_n Nc6)) h (fun S17 hp h g18 => ?_)
      have h := h g18
      obtain ⟨-, M, G⟩ := hp
      have F := fr_tr F G
      have W := rm_F W G
      exact ⟨h, ms_eq M (rb_cg (fun p hp => (sn_y (hn_p Nc6 hp) (by rw [← ms_wd M0 hp Nc6, ← ex9]; exact ix_l (ix_n W0 Ex11 c14))).symm)), F, fun p q hp hq => by rw [ex16]; exact ms_wd M0 hp Nc6⟩
    · intro c19
      have h := h.2 c19
      refine cm_X11_flaw (sp_X11_flaw (k := 3) h M rfl) h (fun S20 hp h g21 => ?_)
      have h := h g21
      obtain ⟨-, M, G⟩ := hp
      have F := fr_tr F G
      have W := rm_F W G
      delta P_X11_readFresh_32
      obtain ⟨o22, h⟩ := h
      refine ⟨o22, ?_⟩
      intro x23 ex23
      have h := h x23 ex23
      refine cm_X11_goesOn (sp_X11_goesOn h M gs_f) h (fun S24 hp h g25 => ?_)
      have h := h g25
      obtain ⟨-, M, G⟩ := hp
      have F := fr_tr F G
      have W := rm_F W G
      exact ⟨h, ms_eq M (rb_rb.trans (rb_cg (fun p hp => (sn_3 (hn_p Nc6 hp) (by obtain ⟨j, -, -, -, z⟩ := ix_s W0 Ex11 c19; rw [← ms_wd M0 hp Nc6, ← ex9]; exact ⟨_, z⟩)).symm))), F, fun p q hp hq => vac (p := p) (sn_3 (hn_p Nc6 hp) (by obtain ⟨j, -, -, -, z⟩ := ix_s W0 Ex11 c19; rw [← ms_wd M0 hp Nc6, ← ex9]; exact ⟨_, z⟩)) hq⟩
  · intro c26
    have Nc26 := an0 Ax2 c26
    have h := h.2 c26
    refine cm_X11_flaw (sp_X11_flaw (k := 1) h M rfl) h (fun S27 hp h g28 => ?_)
    have h := h g28
    obtain ⟨-, M, G⟩ := hp
    have F := fr_tr F G
    have W := rm_F W G
    delta P_X11_readFresh_12
    obtain ⟨o29, h⟩ := h
    refine ⟨o29, ?_⟩
    obtain ⟨a30, ea30, h⟩ := h
    refine ⟨a30, ea30, ?_⟩
    cases W.1.symm.trans ea30
    intro x31 ex31
    have h := h x31 ex31
    obtain ⟨o32, h⟩ := h
    refine ⟨o32, ?_⟩
    refine cm_X10_find (sp_X10_find h W) h (fun x33 S34 hp h g35 => ?_)
    have h := h g35
    obtain ⟨-, hS, Ex33⟩ := hp
    subst hS
    refine ⟨?_, ?_⟩
    · intro c36
      have h := h.1 c36
      delta P_X11_readFresh_32
      obtain ⟨o37, h⟩ := h
      refine ⟨o37, ?_⟩
      intro x38 ex38
      have h := h x38 ex38
      refine cm_X11_goesOn (sp_X11_goesOn h M gs_f) h (fun S39 hp h g40 => ?_)
      have h := h g40
      obtain ⟨-, M, G⟩ := hp
      have F := fr_tr F G
      have W := rm_F W G
      exact ⟨h, ms_eq M (rb_rb.trans (rb_cg (fun p hp => (dc_n (hn_np Nc26 hp)).symm))), F, fun p q hp hq => vac (p := p) (dc_n (hn_np Nc26 hp)) hq⟩
    · intro c41
      have h := h.2 c41
      refine cm_X11_flaw (sp_X11_flaw (k := 3) h M rfl) h (fun S42 hp h g43 => ?_)
      have h := h g43
      obtain ⟨-, M, G⟩ := hp
      have F := fr_tr F G
      have W := rm_F W G
      delta P_X11_readFresh_32
      obtain ⟨o44, h⟩ := h
      refine ⟨o44, ?_⟩
      intro x45 ex45
      have h := h x45 ex45
      refine cm_X11_goesOn (sp_X11_goesOn h M gs_f) h (fun S46 hp h g47 => ?_)
      have h := h g47
      obtain ⟨-, M, G⟩ := hp
      have F := fr_tr F G
      have W := rm_F W G
      exact ⟨h, ms_eq M (by rw [rb_rb, rb_rb]; exact rb_cg (fun p hp => (dc_n (hn_np Nc26 hp)).symm)), F, fun p q hp hq => vac (p := p) (dc_n (hn_np Nc26 hp)) hq⟩
noncomputable def sKn (f : Nat → Int32) (n p : Nat) (A : AS) (v1 : Int32) : Res := dc (nmOk f n p) (match lkr (aV A) (aI A) (tV f n p) (aM A) 0 with
  | none => .inr (2, tSt f n p)
  | some q => dc ((if q < 8 then (0 : Int32) else 1) = v1) (.inl p) (.inr (2, tSt f n p))) (.inr (1, tSt f n p))
theorem kn_y {p q : Nat} {v1 : Int32} (h : nmOk f n p) (z : lkr (aV A) (aI A) (tV f n p) (aM A) 0 = some q) (c : (if q < 8 then (0 : Int32) else 1) = v1) : sKn f n p A v1 = .inl p := by
  unfold sKn
  rw [dc_y h, z]
  exact dc_y c
theorem kn_2 {p : Nat} {v1 : Int32} (h : nmOk f n p) (z : lkr (aV A) (aI A) (tV f n p) (aM A) 0 = none) : sKn f n p A v1 = .inr (2, tSt f n p) := by
  unfold sKn
  rw [dc_y h, z]
theorem kn_3 {p q : Nat} {v1 : Int32} (h : nmOk f n p) (z : lkr (aV A) (aI A) (tV f n p) (aM A) 0 = some q) (c : ¬ (if q < 8 then (0 : Int32) else 1) = v1) : sKn f n p A v1 = .inr (2, tSt f n p) := by
  unfold sKn
  rw [dc_y h, z]
  exact dc_n c
theorem ms_n5 (M : MS f n a v0 σ S) (h : hasN f n σ) (z : fI S v0 9 = 5) : False := by
  obtain ⟨e, z⟩ := (ms_9 M).2.2.2.2.mp z
  rw [z] at h
  exact h
theorem sp_X11_known {v1 : Int32} (h : P_X11_known v0 v1 Q S) (M : MS f n a v0 σ S) (W : RMw v0 rd nm ns nk A S) : P_X11_known v0 v1 (fun r T => Q r T ∧ MS f n a v0 (rb σ (fun p => sKn f n p A v1)) T ∧ FM v0 S T ∧ ∀ p q, σ = .inl p → sKn f n p A v1 = .inl q → ∃ k, lkr (aV A) (aI A) (tV f n p) (aM A) 0 = some k ∧ r = nI (if k < 8 then k else k - 8)) S := by
  have F : FM v0 S S := ms_rf _ _
  have M0 := M
  have W0 := W
  delta P_X11_known P_X11_known_0
  obtain ⟨o1, h⟩ := h
  refine ⟨o1, ?_⟩
  refine cm_X11_isName (sp_X11_isName h M) h (fun x2 S3 hp h g4 b5 => ?_)
  have h := h g4 b5
  obtain ⟨-, hS, Ax2⟩ := hp
  subst hS
  refine ⟨?_, ?_⟩
  · intro c6
    have Nc6 := an1 Ax2 c6
    have h := h.1 c6
    delta P_X11_known_12
    obtain ⟨o7, h⟩ := h
    refine ⟨o7, ?_⟩
    obtain ⟨a8, ea8, h⟩ := h
    refine ⟨a8, ea8, ?_⟩
    cases W.1.symm.trans ea8
    intro x9 ex9
    have h := h x9 ex9
    obtain ⟨o10, h⟩ := h
    refine ⟨o10, ?_⟩
    refine cm_X10_find (sp_X10_find h W) h (fun x11 S12 hp h g13 => ?_)
    have h := h g13
    obtain ⟨-, hS, Ex11⟩ := hp
    subst hS
    refine ⟨?_, ?_⟩
    · intro c14
      have h := h.1 c14
      delta P_X11_known_42
      obtain ⟨o15, h⟩ := h
      refine ⟨o15, ?_⟩
      refine cm_X11_flaw (sp_X11_flaw (k := 2) h M rfl) h (fun S16 hp h g17 => ?_)
      have h := h g17
      obtain ⟨-, M, G⟩ := hp
      have F := fr_tr F G
      have W := rm_F W G
      delta P_X11_known_47
      obtain ⟨o18, h⟩ := h
      refine ⟨o18, ?_⟩
      intro x19 ex19
      have h := h x19 ex19
      refine ⟨?_, ?_⟩
      · intro c20
        exact absurd (ex19.trans (ov_f M)) c20
      · intro c27
        have h := h.2 c27
        exact ⟨h, ms_eq M (rb_cg (fun p hp => (kn_2 (hn_p Nc6 hp) (by rw [← ms_wd M0 hp Nc6, ← ex9]; exact ix_l (ix_n W0 Ex11 c14))).symm)), F, fun p q hp hq => vac (p := p) (kn_2 (hn_p Nc6 hp) (by rw [← ms_wd M0 hp Nc6, ← ex9]; exact ix_l (ix_n W0 Ex11 c14))) hq⟩
    · intro c28
      have h := h.2 c28
      obtain ⟨a29, ea29, h⟩ := h
      refine ⟨a29, ea29, ?_⟩
      cases W.1.symm.trans ea29
      obtain ⟨o30, h⟩ := h
      refine ⟨o30, ?_⟩
      obtain ⟨a31, ea31, h⟩ := h
      refine ⟨a31, ea31, ?_⟩
      cases W.2.1.2.1.symm.trans ea31
      obtain ⟨o32, h⟩ := h
      refine ⟨o32, ?_⟩
      obtain ⟨o33, h⟩ := h
      refine ⟨o33, ?_⟩
      intro x34 ex34
      have h := h x34 ex34
      refine ⟨?_, ?_⟩
      · intro c35
        have h := h.1 c35
        delta P_X11_known_47
        obtain ⟨o36, h⟩ := h
        refine ⟨o36, ?_⟩
        intro x37 ex37
        have h := h x37 ex37
        refine ⟨?_, ?_⟩
        · intro c38
          have h := h.1 c38
          obtain ⟨a39, ea39, h⟩ := h
          refine ⟨a39, ea39, ?_⟩
          cases W.1.symm.trans ea39
          obtain ⟨o40, h⟩ := h
          refine ⟨o40, ?_⟩
          obtain ⟨a41, ea41, h⟩ := h
          refine ⟨a41, ea41, ?_⟩
          cases W.2.1.2.2.1.symm.trans ea41
          obtain ⟨o42, h⟩ := h
          refine ⟨o42, ?_⟩
          obtain ⟨o43, h⟩ := h
          refine ⟨o43, ?_⟩
          intro x44 ex44
          have h := h x44 ex44
          obtain ⟨j, j1, j2, j3, j4⟩ := ix_s W0 Ex11 c28
          have j5 := W0.2.1.2.2.2.2.2 j j3
          rw [j2, nI_cl (by have := W0.2.1.2.2.2.2.1; omega)] at ex34 ex44
          have j6 : (if aI A j < 8 then (0 : Int32) else 1) = v1 := by rw [← j5.2.1, ← ex34, c35]
          exact ⟨h, ms_eq M (rb_idd (fun p hp => (kn_y (hn_p Nc6 hp) (by rw [← ms_wd M0 hp Nc6, ← ex9]; exact j4) j6).symm)), F, fun p q hp hq => ⟨aI A j, by rw [← ms_wd M0 hp Nc6, ← ex9]; exact j4, by rw [ex44, j5.2.2.1]⟩⟩
        · intro c45
          exact (ms_n5 M Nc6 (ex37.symm.trans c45)).elim
      · intro c46
        have h := h.2 c46
        delta P_X11_known_42
        obtain ⟨o47, h⟩ := h
        refine ⟨o47, ?_⟩
        refine cm_X11_flaw (sp_X11_flaw (k := 2) h M rfl) h (fun S48 hp h g49 => ?_)
        have h := h g49
        obtain ⟨-, M, G⟩ := hp
        have F := fr_tr F G
        have W := rm_F W G
        delta P_X11_known_47
        obtain ⟨o50, h⟩ := h
        refine ⟨o50, ?_⟩
        intro x51 ex51
        have h := h x51 ex51
        refine ⟨?_, ?_⟩
        · intro c52
          exact absurd (ex51.trans (ov_f M)) c52
        · intro c59
          have h := h.2 c59
          obtain ⟨j, j1, j2, j3, j4⟩ := ix_s W0 Ex11 c28
          have j5 := W0.2.1.2.2.2.2.2 j j3
          rw [j2, nI_cl (by have := W0.2.1.2.2.2.2.1; omega)] at ex34
          have j6 : ¬ (if aI A j < 8 then (0 : Int32) else 1) = v1 := fun z => c46 (by rw [ex34, j5.2.1, z])
          exact ⟨h, ms_eq M (rb_cg (fun p hp => (kn_3 (hn_p Nc6 hp) (by rw [← ms_wd M0 hp Nc6, ← ex9]; exact j4) j6).symm)), F, fun p q hp hq => vac (p := p) (kn_3 (hn_p Nc6 hp) (by rw [← ms_wd M0 hp Nc6, ← ex9]; exact j4) j6) hq⟩
  · intro c60
    have Nc60 := an0 Ax2 c60
    have h := h.2 c60
    refine cm_X11_flaw (sp_X11_flaw (k := 1) h M rfl) h (fun S61 hp h g62 => ?_)
    have h := h g62
    obtain ⟨-, M, G⟩ := hp
    have F := fr_tr F G
    have W := rm_F W G
    delta P_X11_known_12
    obtain ⟨o63, h⟩ := h
    refine ⟨o63, ?_⟩
    obtain ⟨a64, ea64, h⟩ := h
    refine ⟨a64, ea64, ?_⟩
    cases W.1.symm.trans ea64
    intro x65 ex65
    have h := h x65 ex65
    obtain ⟨o66, h⟩ := h
    refine ⟨o66, ?_⟩
    refine cm_X10_find (sp_X10_find h W) h (fun x67 S68 hp h g69 => ?_)
    have h := h g69
    obtain ⟨-, hS, Ex67⟩ := hp
    subst hS
    refine ⟨?_, ?_⟩
    · intro c70
      have h := h.1 c70
      delta P_X11_known_42
      obtain ⟨o71, h⟩ := h
      refine ⟨o71, ?_⟩
      refine cm_X11_flaw (sp_X11_flaw (k := 2) h M rfl) h (fun S72 hp h g73 => ?_)
      have h := h g73
      obtain ⟨-, M, G⟩ := hp
      have F := fr_tr F G
      have W := rm_F W G
      delta P_X11_known_47
      obtain ⟨o74, h⟩ := h
      refine ⟨o74, ?_⟩
      intro x75 ex75
      have h := h x75 ex75
      refine ⟨?_, ?_⟩
      · intro c76
        exact absurd (ex75.trans (ov_f M)) c76
      · intro c83
        have h := h.2 c83
        exact ⟨h, ms_eq M (rb_rb.trans (rb_cg (fun p hp => (dc_n (hn_np Nc60 hp)).symm))), F, fun p q hp hq => vac (p := p) (dc_n (hn_np Nc60 hp)) hq⟩
    · intro c84
      have h := h.2 c84
      obtain ⟨a85, ea85, h⟩ := h
      refine ⟨a85, ea85, ?_⟩
      cases W.1.symm.trans ea85
      obtain ⟨o86, h⟩ := h
      refine ⟨o86, ?_⟩
      obtain ⟨a87, ea87, h⟩ := h
      refine ⟨a87, ea87, ?_⟩
      cases W.2.1.2.1.symm.trans ea87
      obtain ⟨o88, h⟩ := h
      refine ⟨o88, ?_⟩
      obtain ⟨o89, h⟩ := h
      refine ⟨o89, ?_⟩
      intro x90 ex90
      have h := h x90 ex90
      refine ⟨?_, ?_⟩
      · intro c91
        have h := h.1 c91
        delta P_X11_known_47
        obtain ⟨o92, h⟩ := h
        refine ⟨o92, ?_⟩
        intro x93 ex93
        have h := h x93 ex93
        refine ⟨?_, ?_⟩
        · intro c94
          exact absurd (ex93.trans (ov_f M)) c94
        · intro c101
          have h := h.2 c101
          exact ⟨h, ms_eq M (rb_cg (fun p hp => (dc_n (hn_np Nc60 hp)).symm)), F, fun p q hp hq => vac (p := p) (dc_n (hn_np Nc60 hp)) hq⟩
      · intro c102
        have h := h.2 c102
        delta P_X11_known_42
        obtain ⟨o103, h⟩ := h
        refine ⟨o103, ?_⟩
        refine cm_X11_flaw (sp_X11_flaw (k := 2) h M rfl) h (fun S104 hp h g105 => ?_)
        have h := h g105
        obtain ⟨-, M, G⟩ := hp
        have F := fr_tr F G
        have W := rm_F W G
        delta P_X11_known_47
        obtain ⟨o106, h⟩ := h
        refine ⟨o106, ?_⟩
        intro x107 ex107
        have h := h x107 ex107
        refine ⟨?_, ?_⟩
        · intro c108
          exact absurd (ex107.trans (ov_f M)) c108
        · intro c115
          have h := h.2 c115
          exact ⟨h, ms_eq M (rb_rb.trans (rb_cg (fun p hp => (dc_n (hn_np Nc60 hp)).symm))), F, fun p q hp hq => vac (p := p) (dc_n (hn_np Nc60 hp)) hq⟩
theorem rm_y {p H c k : Nat} (h : ¬ H = 0) (z : c < k) : sRoom f n p H c k = .inl (tEn f n p) := by
  unfold sRoom
  rw [if_neg h, if_pos z]
theorem rm_6 {p H c k : Nat} (h : H = 0) : sRoom f n p H c k = .inr (6, tSt f n p) := by
  unfold sRoom
  rw [if_pos h]
theorem rm_5 {p H c k : Nat} (h : ¬ H = 0) (z : ¬ c < k) : sRoom f n p H c k = .inr (5, tSt f n p) := by
  unfold sRoom
  rw [if_neg h, if_neg z]
theorem sp_X11_begins {v1 v2 : Int32} {c k : Nat} (h : P_X11_begins v0 v1 v2 QU S) (M : MS f n a v0 σ S) (W : RMw v0 rd nm ns nk A S) (hg : ∀ p, σ = .inl p → tS f n p ≠ 6) (h1 : v1 = nI c) (h2 : v2 = nI k) (hck : c ≤ k) (hk9 : k ≤ 900) (hz : aH A = 0 → c < k) : P_X11_begins v0 v1 v2 (fun T => QU T ∧ MS f n a v0 (rb σ (fun p => sRoom f n p (aH A) c k)) T ∧ FM v0 S T) S := by
  have F : FM v0 S S := ms_rf _ _
  have W0 := W
  delta P_X11_begins P_X11_begins_0
  refine ⟨?_, ?_⟩
  · intro c1
    have h := h.1 c1
    delta P_X11_begins_10
    obtain ⟨o2, h⟩ := h
    refine ⟨o2, ?_⟩
    obtain ⟨a3, ea3, h⟩ := h
    refine ⟨a3, ea3, ?_⟩
    cases W.1.symm.trans ea3
    obtain ⟨o4, h⟩ := h
    refine ⟨o4, ?_⟩
    intro x5 ex5
    have h := h x5 ex5
    refine ⟨?_, ?_⟩
    · intro c6
      have h := h.1 c6
      delta P_X11_begins_26
      obtain ⟨o7, h⟩ := h
      refine ⟨o7, ?_⟩
      refine cm_X11_goesOn (sp_X11_goesOn h M hg) h (fun S8 hp h g9 => ?_)
      have h := h g9
      obtain ⟨-, M, G⟩ := hp
      have F := fr_tr F G
      have W := rm_F W G
      exact ⟨h, ms_eq M (rb_cg (fun p hp => (rm_y (fun z => c6 (by rw [ex5, W0.2.2.1.1, z]; rfl)) (by have : c ≠ k := fun z => c1 (by rw [h1, h2, z]); omega)).symm)), F⟩
    · intro c10
      have h := h.2 c10
      refine cm_X11_flaw (sp_X11_flaw (k := 6) h M rfl) h (fun S11 hp h g12 => ?_)
      have h := h g12
      obtain ⟨-, M, G⟩ := hp
      have F := fr_tr F G
      have W := rm_F W G
      delta P_X11_begins_26
      obtain ⟨o13, h⟩ := h
      refine ⟨o13, ?_⟩
      refine cm_X11_goesOn (sp_X11_goesOn h M gs_f) h (fun S14 hp h g15 => ?_)
      have h := h g15
      obtain ⟨-, M, G⟩ := hp
      have F := fr_tr F G
      have W := rm_F W G
      exact ⟨h, ms_eq M (rb_rb.trans (rb_cg (fun p hp => (rm_6 (nI_inj (by have := W0.2.2.2.2.1.1; omega) (by omega) (by rw [← W0.2.2.1.1, ← ex5, c10]; rfl))).symm))), F⟩
  · intro c16
    have ck : c = k := nI_inj (by omega) (by omega) (by rw [← h1, ← h2, c16])
    have h := h.2 c16
    obtain ⟨o17, h⟩ := h
    refine ⟨o17, ?_⟩
    refine cm_X11_flaw (sp_X11_flaw (k := 5) h M rfl) h (fun S18 hp h g19 => ?_)
    have h := h g19
    obtain ⟨-, M, G⟩ := hp
    have F := fr_tr F G
    have W := rm_F W G
    delta P_X11_begins_10
    obtain ⟨o20, h⟩ := h
    refine ⟨o20, ?_⟩
    obtain ⟨a21, ea21, h⟩ := h
    refine ⟨a21, ea21, ?_⟩
    cases W.1.symm.trans ea21
    obtain ⟨o22, h⟩ := h
    refine ⟨o22, ?_⟩
    intro x23 ex23
    have h := h x23 ex23
    refine ⟨?_, ?_⟩
    · intro c24
      have h := h.1 c24
      delta P_X11_begins_26
      obtain ⟨o25, h⟩ := h
      refine ⟨o25, ?_⟩
      refine cm_X11_goesOn (sp_X11_goesOn h M gs_f) h (fun S26 hp h g27 => ?_)
      have h := h g27
      obtain ⟨-, M, G⟩ := hp
      have F := fr_tr F G
      have W := rm_F W G
      exact ⟨h, ms_eq M (rb_rb.trans (rb_cg (fun p hp => (rm_5 (fun z => by have := hz z; omega) (by omega)).symm))), F⟩
    · intro c28
      exact absurd (hz (nI_inj (by have := W0.2.2.2.2.1.1; omega) (by omega) (by rw [← W.2.2.1.1, ← ex23, c28]; rfl))) (by omega)
end MNames
